set_option maxHeartbeats 4000000 in
set_option maxRecDepth 100000 in
theorem lc_feed {p : Program} {l : Launch} {e : Env} {s : State} {m : MethodId} {below : List Frame} {meth : Method} {c : Code} {g : Gz} {b L : Nat} {xs : Nat → Int32} {F : Nat} {MI : StI → StL → Prop} {ML : StI → Int} (hC : LC p l s m meth c g b L xs) (hF : Big F) (hMo : MoOk F MI ML) {a : Nat → Nat → Nat} {x : Nat → StI} {y : Nat → StL} {i : Int32} {cells slots : Nat} {H : Heap} {locs : List Loc} {ls : Array Slot} (hin : InR i L) (hcs : cells + 1 ≤ 601024 ∧ slots + 6 ≤ 7293034) (hI : INV x) (hM : MI (x 11) (y 11)) (hL : ML (x 11) = (x 0 2 0).toInt) (hP : va_P (gD g) vwCl (w_cls g a x y) H) (hD : va_D (A0 s) (w_cls g a x y)) (hPm : va_P (gD g) vwCl (pic_Mo g (a 11) (x 11) (y 11)) H) (hDm : va_D (A0 s) (pic_Mo g (a 11) (x 11) (y 11))) (hap : Apart (w_cls g a x y) (pic_Mo g (a 11) (x 11) (y 11))) (hS : va_S (A0 s) s.heap H locs) (hl : lv_has ls 7 (lvL b a i)) (K : Nxt p l e s m below meth c g b MI ML i (cells + 1) (slots + 6)) : W p l e room_1 s m #[Value.ref b] below meth c H locs cells slots (lw_Z below #[Value.ref b] s) (F0 m 112 ls []) := by
  obtain ⟨hx, hb, hr, hml, hown, htb, hlocks, hX, hbl, hG, hXS, hno⟩ := id hC
  have hK := hG.1
  have hA : ∀ q : Nat, s.heap.size ≤ q → A0 s q := fun _ h => h
  have hAA : ∀ q : Nat, A0 s q → A0 s q := fun _ h => h
  have hbA : ¬ A0 s b := Nat.not_le.mpr hbl
  obtain ⟨r1, e1, p1⟩ := sp_MQ_feed F hF (x 0) (xs (i + 1).toNatClampNeg) (xs (i + 2).toNatClampNeg) (xs (i + 3).toNatClampNeg) (xs (i + 4).toNatClampNeg) (xs (i + 5).toNatClampNeg) hI.1.1
  obtain ⟨r2, e2, m2, l2⟩ := hMo.1 (x 11) (y 11) (xs (i + 1).toNatClampNeg) (xs (i + 2).toNatClampNeg) (xs (i + 3).toNatClampNeg) (xs (i + 4).toNatClampNeg) (xs (i + 5).toNatClampNeg) hM
  refine lv_aload_n hx hb d_LW_112 rfl (lv_at hl 3 rfl) ?_
  refine lv_aload_n hx hb d_LW_113 rfl (lv_at hl 4 rfl) ?_
  refine lv_iload hx hb d_LW_114 (lv_at hl 0 rfl) ?_
  refine lv_iconst (v := 1) hx hb d_LW_116 (by decide) ?_
  refine lv_iadd hx hb d_LW_117 ?_
  refine va_sld hx hb hX hbl hbA hS hin.2.1 d_LW_118 ?_
  refine lv_aload_n hx hb d_LW_119 rfl (lv_at hl 4 rfl) ?_
  refine lv_iload hx hb d_LW_120 (lv_at hl 0 rfl) ?_
  refine lv_iconst (v := 2) hx hb d_LW_122 (by decide) ?_
  refine lv_iadd hx hb d_LW_123 ?_
  refine va_sld hx hb hX hbl hbA hS hin.2.2.1 d_LW_124 ?_
  refine lv_aload_n hx hb d_LW_125 rfl (lv_at hl 4 rfl) ?_
  refine lv_iload hx hb d_LW_126 (lv_at hl 0 rfl) ?_
  refine lv_iconst (v := 3) hx hb d_LW_128 (by decide) ?_
  refine lv_iadd hx hb d_LW_129 ?_
  refine va_sld hx hb hX hbl hbA hS hin.2.2.2.1 d_LW_130 ?_
  refine lv_aload_n hx hb d_LW_131 rfl (lv_at hl 4 rfl) ?_
  refine lv_iload hx hb d_LW_132 (lv_at hl 0 rfl) ?_
  refine lv_iconst (v := 4) hx hb d_LW_134 (by decide) ?_
  refine lv_iadd hx hb d_LW_135 ?_
  refine va_sld hx hb hX hbl hbA hS hin.2.2.2.2.1 d_LW_136 ?_
  refine lv_aload_n hx hb d_LW_137 rfl (lv_at hl 4 rfl) ?_
  refine lv_iload hx hb d_LW_138 (lv_at hl 0 rfl) ?_
  refine lv_iconst (v := 5) hx hb d_LW_140 (by decide) ?_
  refine lv_iadd hx hb d_LW_141 ?_
  refine va_sld hx hb hX hbl hbA hS hin.2.2.2.2.2 d_LW_142 ?_
  refine cx_V (wr := (pic_Query g (a 1) (x 1)) ++ ((pic_Query g (a 2) (x 2)) ++ ((pic_Reader g (a 3) (a 2 0) (a 4 0) (x 3)) ++ ((pic_Span g (a 4) (x 4)) ++ ((pic_Printer g (a 5) (a 6 0) (x 5)) ++ ((pic_Pile g (a 6) 160 (x 6) (y 6)) ++ ((pic_Rows g (a 7) (a 8 0) (x 7) (y 7)) ++ ((pic_Pile g (a 8) 41 (x 8) (y 8)) ++ ((pic_Judge g (a 9) (a 10 0) (y 9)) ++ ((pic_Pile g (a 10) 40 (x 10) (y 10)) ++ ([(a 12 0, .inl (g.2.2.1 3, 1, .inr (.inl (y 12 0))))]))))))))))) [0, 1, 2] [3, 4, 5, 6, 7, 8, 9, 10, 11, 12, 13, 14, 15, 16, 17, 18, 19, 20, 21, 22, 23, 24, 25, 26, 27, 28, 29, 30, 31, 32, 33, 34, 35, 36, 37, 38, 39, 40, 41, 42, 43, 44, 45, 46, 47, 48] rfl rfl rfl (by decide) hP hD hPm hap hS hA (va_runV (As := [.int (xs (i + 1).toNatClampNeg), .int (xs (i + 2).toNatClampNeg), .int (xs (i + 3).toNatClampNeg), .int (xs (i + 4).toNatClampNeg), .int (xs (i + 5).toNatClampNeg)]) (rest := []) ⟨hx, hb, hml, hown, htb⟩ (c_MQ_feed l g F (a 0) (a 1 0) (a 3 0) (a 5 0) (a 7 0) (a 9 0) (x 0) (xs (i + 1).toNatClampNeg) (xs (i + 2).toNatClampNeg) (xs (i + 3).toNatClampNeg) (xs (i + 4).toNatClampNeg) (xs (i + 5).toNatClampNeg) _ e1 H.size) (cw_V htb mb_MQ_feed (htb _ L_LW_19) rfl rfl ⟨Nat.le_of_ble_eq_true rfl, Nat.le_of_ble_eq_true rfl⟩) (pre_V (va_recv hK hP (ci := 7) (q0 := 0) rfl rfl) (pre_S [0, 1, 2] rfl rfl hP hD hS hA hAA hG)) rfl rfl hl.1 rfl (lv_room (Nat.le_of_ble_eq_true rfl)) d_LW_143 ⟨Nat.le_of_succ_le hcs.1, Nat.le_trans (Nat.le_add_right _ 6) hcs.2⟩) (fun H locs hP hD hPm hap hS => ?_)
  have hP : va_P (gD g) vwCl (w_cls g a (va_up x 0 (r1)) y) H := hP.sub [46, 47, 48, 0, 1, 2, 3, 4, 5, 6, 7, 8, 9, 10, 11, 12, 13, 14, 15, 16, 17, 18, 19, 20, 21, 22, 23, 24, 25, 26, 27, 28, 29, 30, 31, 32, 33, 34, 35, 36, 37, 38, 39, 40, 41, 42, 43, 44, 45] rfl
  have hD : va_D (A0 s) (w_cls g a (va_up x 0 (r1)) y) := hD.sub [46, 47, 48, 0, 1, 2, 3, 4, 5, 6, 7, 8, 9, 10, 11, 12, 13, 14, 15, 16, 17, 18, 19, 20, 21, 22, 23, 24, 25, 26, 27, 28, 29, 30, 31, 32, 33, 34, 35, 36, 37, 38, 39, 40, 41, 42, 43, 44, 45] rfl rfl
  have hap : Apart (w_cls g a (va_up x 0 (r1)) y) (pic_Mo g (a 11) (x 11) (y 11)) := hap.sub [46, 47, 48, 0, 1, 2, 3, 4, 5, 6, 7, 8, 9, 10, 11, 12, 13, 14, 15, 16, 17, 18, 19, 20, 21, 22, 23, 24, 25, 26, 27, 28, 29, 30, 31, 32, 33, 34, 35, 36, 37, 38, 39, 40, 41, 42, 43, 44, 45] rfl
  refine lv_aload_n hx hb d_LW_146 rfl (lv_at hl 2 rfl) ?_
  refine lv_aload_n hx hb d_LW_147 rfl (lv_at hl 4 rfl) ?_
  refine lv_iload hx hb d_LW_148 (lv_at hl 0 rfl) ?_
  refine lv_iconst (v := 1) hx hb d_LW_150 (by decide) ?_
  refine lv_iadd hx hb d_LW_151 ?_
  refine va_sld hx hb hX hbl hbA hS hin.2.1 d_LW_152 ?_
  refine lv_aload_n hx hb d_LW_153 rfl (lv_at hl 4 rfl) ?_
  refine lv_iload hx hb d_LW_154 (lv_at hl 0 rfl) ?_
  refine lv_iconst (v := 2) hx hb d_LW_156 (by decide) ?_
  refine lv_iadd hx hb d_LW_157 ?_
  refine va_sld hx hb hX hbl hbA hS hin.2.2.1 d_LW_158 ?_
  refine lv_aload_n hx hb d_LW_159 rfl (lv_at hl 4 rfl) ?_
  refine lv_iload hx hb d_LW_160 (lv_at hl 0 rfl) ?_
  refine lv_iconst (v := 3) hx hb d_LW_162 (by decide) ?_
  refine lv_iadd hx hb d_LW_163 ?_
  refine va_sld hx hb hX hbl hbA hS hin.2.2.2.1 d_LW_164 ?_
  refine lv_aload_n hx hb d_LW_165 rfl (lv_at hl 4 rfl) ?_
  refine lv_iload hx hb d_LW_166 (lv_at hl 0 rfl) ?_
  refine lv_iconst (v := 4) hx hb d_LW_168 (by decide) ?_
  refine lv_iadd hx hb d_LW_169 ?_
  refine va_sld hx hb hX hbl hbA hS hin.2.2.2.2.1 d_LW_170 ?_
  refine lv_aload_n hx hb d_LW_171 rfl (lv_at hl 4 rfl) ?_
  refine lv_iload hx hb d_LW_172 (lv_at hl 0 rfl) ?_
  refine lv_iconst (v := 5) hx hb d_LW_174 (by decide) ?_
  refine lv_iadd hx hb d_LW_175 ?_
  refine va_sld hx hb hX hbl hbA hS hin.2.2.2.2.2 d_LW_176 ?_
  refine cx_V (wr := []) [0, 1, 2, 3, 4, 5, 6, 7, 8, 9, 10, 11, 12, 13, 14, 15, 16, 17, 18, 19, 20, 21, 22, 23, 24, 25, 26, 27, 28, 29, 30, 31, 32] [] rfl rfl rfl (by decide) hPm hDm hP hap.symm hS hA (va_runV (As := [.int (xs (i + 1).toNatClampNeg), .int (xs (i + 2).toNatClampNeg), .int (xs (i + 3).toNatClampNeg), .int (xs (i + 4).toNatClampNeg), .int (xs (i + 5).toNatClampNeg)]) (rest := []) ⟨hx, hb, hml, hown, htb⟩ (c_Mo_feed l g F (a 11) (x 11) (y 11) (xs (i + 1).toNatClampNeg) (xs (i + 2).toNatClampNeg) (xs (i + 3).toNatClampNeg) (xs (i + 4).toNatClampNeg) (xs (i + 5).toNatClampNeg) _ e2 H.size) (cw_V htb mb_Mo_feed (htb _ L_LW_23) rfl rfl ⟨Nat.le_of_ble_eq_true rfl, Nat.le_of_ble_eq_true rfl⟩) (pre_V (va_recv hK hPm (ci := 8) (q0 := 0) rfl rfl) (pre_S [0, 1, 2, 3, 4, 5, 6, 7, 8, 9, 10, 11, 12, 13, 14, 15, 16, 17, 18, 19, 20, 21, 22, 23, 24, 25, 26, 27, 28, 29, 30, 31, 32] rfl rfl hPm hDm hS hA hAA hG)) rfl rfl hl.1 rfl (lv_room (Nat.le_of_ble_eq_true rfl)) d_LW_177 ⟨Nat.le_of_succ_le hcs.1, Nat.le_trans (Nat.le_add_right _ 6) hcs.2⟩) (fun H locs hPm hDm hP hap hS => ?_)
  have hap := hap.symm
  refine lv_goto (tgt := 559) hx hb d_LW_180 (by decide) ?_
  refine W.widen (k := cells + 1) (n := slots + 6) (by omega) (by omega) ?_
  exact K a (va_up (va_up x 0 (r1)) 11 (r2.1)) (va_up y 11 (r2.2)) H locs ls (⟨⟨p1.1, by show ChOk (r1 1); rw [p1.2 1 (by decide)]; exact hI.1.2⟩, by show 0 ≤ (r1 2 0).toInt ∧ (r1 2 0).toInt ≤ 600; rw [p1.2 2 (by decide)]; exact hI.2.1, hI.2.2⟩) m2 (by show _ = (r1 2 0).toInt; rw [p1.2 2 (by decide)]; exact l2.trans hL) hP hD hPm hDm hap hS hl
set_option maxHeartbeats 4000000 in
set_option maxRecDepth 100000 in
theorem lc_end {p : Program} {l : Launch} {e : Env} {s : State} {m : MethodId} {below : List Frame} {meth : Method} {c : Code} {g : Gz} {b L : Nat} {xs : Nat → Int32} {F : Nat} {MI : StI → StL → Prop} {ML : StI → Int} (hC : LC p l s m meth c g b L xs) (hF : Big F) (hMo : MoOk F MI ML) {a : Nat → Nat → Nat} {x : Nat → StI} {y : Nat → StL} {i : Int32} {cells slots : Nat} {H : Heap} {locs : List Loc} {ls : Array Slot} (hin : InR i L) (hcs : cells + 1 ≤ 601024 ∧ slots + 6 ≤ 7293034) (hI : INV x) (hM : MI (x 11) (y 11)) (hL : ML (x 11) = (x 0 2 0).toInt) (hP : va_P (gD g) vwCl (w_cls g a x y) H) (hD : va_D (A0 s) (w_cls g a x y)) (hPm : va_P (gD g) vwCl (pic_Mo g (a 11) (x 11) (y 11)) H) (hDm : va_D (A0 s) (pic_Mo g (a 11) (x 11) (y 11))) (hap : Apart (w_cls g a x y) (pic_Mo g (a 11) (x 11) (y 11))) (hS : va_S (A0 s) s.heap H locs) (hl : lv_has ls 7 (lvL b a i)) (K : Nxt p l e s m below meth c g b MI ML i (cells + 1) (slots + 6)) : W p l e room_1 s m #[Value.ref b] below meth c H locs cells slots (lw_Z below #[Value.ref b] s) (F0 m 183 ls []) := by
  obtain ⟨hx, hb, hr, hml, hown, htb, hlocks, hX, hbl, hG, hXS, hno⟩ := id hC
  have hK := hG.1
  have hA : ∀ q : Nat, s.heap.size ≤ q → A0 s q := fun _ h => h
  have hAA : ∀ q : Nat, A0 s q → A0 s q := fun _ h => h
  have hbA : ¬ A0 s b := Nat.not_le.mpr hbl
  obtain ⟨r1, e1, p1⟩ := sp_MQ_end F hF (x 0) (xs (i + 1).toNatClampNeg) hI.1 hI.2.1
  obtain ⟨r2, e2, m2, l2⟩ := hMo.2.1 (x 11) (y 11) (xs (i + 1).toNatClampNeg) hM
  refine lv_aload_n hx hb d_LW_183 rfl (lv_at hl 3 rfl) ?_
  refine lv_aload_n hx hb d_LW_184 rfl (lv_at hl 4 rfl) ?_
  refine lv_iload hx hb d_LW_185 (lv_at hl 0 rfl) ?_
  refine lv_iconst (v := 1) hx hb d_LW_187 (by decide) ?_
  refine lv_iadd hx hb d_LW_188 ?_
  refine va_sld hx hb hX hbl hbA hS hin.2.1 d_LW_189 ?_
  refine cx_I (wr := (pic_Query g (a 1) (x 1)) ++ ((pic_Query g (a 2) (x 2)) ++ ((pic_Reader g (a 3) (a 2 0) (a 4 0) (x 3)) ++ ((pic_Span g (a 4) (x 4)) ++ ((pic_Printer g (a 5) (a 6 0) (x 5)) ++ ((pic_Pile g (a 6) 160 (x 6) (y 6)) ++ ((pic_Rows g (a 7) (a 8 0) (x 7) (y 7)) ++ ((pic_Pile g (a 8) 41 (x 8) (y 8)) ++ ((pic_Judge g (a 9) (a 10 0) (y 9)) ++ ((pic_Pile g (a 10) 40 (x 10) (y 10)) ++ ([(a 12 0, .inl (g.2.2.1 3, 1, .inr (.inl (y 12 0))))]))))))))))) [0, 1, 2] [3, 4, 5, 6, 7, 8, 9, 10, 11, 12, 13, 14, 15, 16, 17, 18, 19, 20, 21, 22, 23, 24, 25, 26, 27, 28, 29, 30, 31, 32, 33, 34, 35, 36, 37, 38, 39, 40, 41, 42, 43, 44, 45, 46, 47, 48] rfl rfl rfl (by decide) hP hD hPm hap hS hA (va_runV (As := [.int (xs (i + 1).toNatClampNeg)]) (rest := []) ⟨hx, hb, hml, hown, htb⟩ (c_MQ_end l g F (a 0) (a 1 0) (a 3 0) (a 5 0) (a 7 0) (a 9 0) (x 0) (xs (i + 1).toNatClampNeg) _ e1 H.size) (cw_V htb mb_MQ_end (htb _ L_LW_24) rfl rfl ⟨Nat.le_of_ble_eq_true rfl, Nat.le_of_ble_eq_true rfl⟩) (pre_V (va_recv hK hP (ci := 7) (q0 := 0) rfl rfl) (pre_S [0, 1, 2] rfl rfl hP hD hS hA hAA hG)) rfl rfl hl.1 rfl (lv_room (Nat.le_of_ble_eq_true rfl)) d_LW_190 ⟨Nat.le_of_succ_le hcs.1, Nat.le_trans (Nat.le_add_right _ 6) hcs.2⟩) (fun H locs hP hD hPm hap hS => ?_)
  have hP : va_P (gD g) vwCl (w_cls g a (va_up x 0 (r1.2)) y) H := hP.sub [46, 47, 48, 0, 1, 2, 3, 4, 5, 6, 7, 8, 9, 10, 11, 12, 13, 14, 15, 16, 17, 18, 19, 20, 21, 22, 23, 24, 25, 26, 27, 28, 29, 30, 31, 32, 33, 34, 35, 36, 37, 38, 39, 40, 41, 42, 43, 44, 45] rfl
  have hD : va_D (A0 s) (w_cls g a (va_up x 0 (r1.2)) y) := hD.sub [46, 47, 48, 0, 1, 2, 3, 4, 5, 6, 7, 8, 9, 10, 11, 12, 13, 14, 15, 16, 17, 18, 19, 20, 21, 22, 23, 24, 25, 26, 27, 28, 29, 30, 31, 32, 33, 34, 35, 36, 37, 38, 39, 40, 41, 42, 43, 44, 45] rfl rfl
  have hap : Apart (w_cls g a (va_up x 0 (r1.2)) y) (pic_Mo g (a 11) (x 11) (y 11)) := hap.sub [46, 47, 48, 0, 1, 2, 3, 4, 5, 6, 7, 8, 9, 10, 11, 12, 13, 14, 15, 16, 17, 18, 19, 20, 21, 22, 23, 24, 25, 26, 27, 28, 29, 30, 31, 32, 33, 34, 35, 36, 37, 38, 39, 40, 41, 42, 43, 44, 45] rfl
  refine lv_aload_n hx hb d_LW_193 rfl (lv_at hl 2 rfl) ?_
  refine lv_aload_n hx hb d_LW_194 rfl (lv_at hl 4 rfl) ?_
  refine lv_iload hx hb d_LW_195 (lv_at hl 0 rfl) ?_
  refine lv_iconst (v := 1) hx hb d_LW_197 (by decide) ?_
  refine lv_iadd hx hb d_LW_198 ?_
  refine va_sld hx hb hX hbl hbA hS hin.2.1 d_LW_199 ?_
  refine cx_I (wr := []) [0, 1, 2, 3, 4, 5, 6, 7, 8, 9, 10, 11, 12, 13, 14, 15, 16, 17, 18, 19, 20, 21, 22, 23, 24, 25, 26, 27, 28, 29, 30, 31, 32] [] rfl rfl rfl (by decide) hPm hDm hP hap.symm hS hA (va_runV (As := [.int (xs (i + 1).toNatClampNeg)]) (rest := [.int r1.1]) ⟨hx, hb, hml, hown, htb⟩ (c_Mo_end l g F (a 11) (x 11) (y 11) (xs (i + 1).toNatClampNeg) _ e2 H.size) (cw_V htb mb_Mo_end (htb _ L_LW_28) rfl rfl ⟨Nat.le_of_ble_eq_true rfl, Nat.le_of_ble_eq_true rfl⟩) (pre_V (va_recv hK hPm (ci := 8) (q0 := 0) rfl rfl) (pre_S [0, 1, 2, 3, 4, 5, 6, 7, 8, 9, 10, 11, 12, 13, 14, 15, 16, 17, 18, 19, 20, 21, 22, 23, 24, 25, 26, 27, 28, 29, 30, 31, 32] rfl rfl hPm hDm hS hA hAA hG)) rfl rfl hl.1 rfl (lv_room (Nat.le_of_ble_eq_true rfl)) d_LW_200 ⟨Nat.le_of_succ_le hcs.1, Nat.le_trans (Nat.le_add_right _ 6) hcs.2⟩) (fun H locs hPm hDm hP hap hS => ?_)
  have hap := hap.symm
  have heq : r1.1 = r2.1 := Int32.toInt_inj.mp (by rw [p1.1, l2.2, hL])
  refine lv_icmp_eq (tgt := 559) hx hb d_LW_203 (by decide) (fun _ => ?_) (fun cne => absurd heq cne)
  refine W.widen (k := cells + 1) (n := slots + 6) (by omega) (by omega) ?_
  exact K a (va_up (va_up x 0 (r1.2)) 11 (r2.2.1)) (va_up y 11 (r2.2.2)) H locs ls (⟨p1.2.2, by show 0 ≤ (r1.2 2 0).toInt ∧ (r1.2 2 0).toInt ≤ 600; rw [p1.2.1, endSt]; have h9 := hI.2.1; split <;> omega, hI.2.2⟩) m2 (by show ML r2.2.1 = (r1.2 2 0).toInt; rw [l2.1, p1.2.1, hL]) hP hD hPm hDm hap hS hl
set_option maxHeartbeats 4000000 in
set_option maxRecDepth 100000 in
theorem lc_fault {p : Program} {l : Launch} {e : Env} {s : State} {m : MethodId} {below : List Frame} {meth : Method} {c : Code} {g : Gz} {b L : Nat} {xs : Nat → Int32} {F : Nat} {MI : StI → StL → Prop} {ML : StI → Int} (hC : LC p l s m meth c g b L xs) (hF : Big F) (hMo : MoOk F MI ML) {a : Nat → Nat → Nat} {x : Nat → StI} {y : Nat → StL} {i : Int32} {cells slots : Nat} {H : Heap} {locs : List Loc} {ls : Array Slot} (hin : InR i L) (hcs : cells + 1 ≤ 601024 ∧ slots + 6 ≤ 7293034) (hI : INV x) (hM : MI (x 11) (y 11)) (hL : ML (x 11) = (x 0 2 0).toInt) (hP : va_P (gD g) vwCl (w_cls g a x y) H) (hD : va_D (A0 s) (w_cls g a x y)) (hPm : va_P (gD g) vwCl (pic_Mo g (a 11) (x 11) (y 11)) H) (hDm : va_D (A0 s) (pic_Mo g (a 11) (x 11) (y 11))) (hap : Apart (w_cls g a x y) (pic_Mo g (a 11) (x 11) (y 11))) (hS : va_S (A0 s) s.heap H locs) (hl : lv_has ls 7 (lvL b a i)) (K : Nxt p l e s m below meth c g b MI ML i (cells + 1) (slots + 6)) : W p l e room_1 s m #[Value.ref b] below meth c H locs cells slots (lw_Z below #[Value.ref b] s) (F0 m 224 ls []) := by
  obtain ⟨hx, hb, hr, hml, hown, htb, hlocks, hX, hbl, hG, hXS, hno⟩ := id hC
  have hK := hG.1
  have hA : ∀ q : Nat, s.heap.size ≤ q → A0 s q := fun _ h => h
  have hAA : ∀ q : Nat, A0 s q → A0 s q := fun _ h => h
  have hbA : ¬ A0 s b := Nat.not_le.mpr hbl
  obtain ⟨r1, e1, p1⟩ := sp_MQ_fault F hF (x 0) (x 3) (xs (i + 1).toNatClampNeg) trivial
  obtain ⟨r2, e2, m2, l2⟩ := hMo.2.2.2.1 (x 11) (y 11) (xs (i + 1).toNatClampNeg) hM
  refine lv_aload_n hx hb d_LW_224 rfl (lv_at hl 3 rfl) ?_
  refine lv_aload_n hx hb d_LW_225 rfl (lv_at hl 4 rfl) ?_
  refine lv_iload hx hb d_LW_226 (lv_at hl 0 rfl) ?_
  refine lv_iconst (v := 1) hx hb d_LW_228 (by decide) ?_
  refine lv_iadd hx hb d_LW_229 ?_
  refine va_sld hx hb hX hbl hbA hS hin.2.1 d_LW_230 ?_
  refine cx_Ir hP hPm hS hA (va_runV (As := [.int (xs (i + 1).toNatClampNeg)]) (rest := []) ⟨hx, hb, hml, hown, htb⟩ (c_MQ_fault l g F (a 0) (a 3) (a 1 0) (a 5 0) (a 7 0) (a 9 0) (a 2 0) (a 4 0) (x 0) (x 3) (xs (i + 1).toNatClampNeg) _ e1 H.size) (cw_V htb mb_MQ_fault (htb _ L_LW_35) rfl rfl ⟨Nat.le_of_ble_eq_true rfl, Nat.le_of_ble_eq_true rfl⟩) (pre_V (va_recv hK hP (ci := 7) (q0 := 0) rfl rfl) (pre_S [0, 1, 2, 25, 26, 27, 28] rfl rfl hP hD hS hA hAA hG)) rfl rfl hl.1 rfl (lv_room (Nat.le_of_ble_eq_true rfl)) d_LW_231 ⟨Nat.le_of_succ_le hcs.1, Nat.le_trans (Nat.le_add_right _ 6) hcs.2⟩) (fun H locs hP hPm hS => ?_)
  refine lv_pop hx hb d_LW_234 rfl ?_
  refine lv_aload_n hx hb d_LW_235 rfl (lv_at hl 2 rfl) ?_
  refine lv_aload_n hx hb d_LW_236 rfl (lv_at hl 4 rfl) ?_
  refine lv_iload hx hb d_LW_237 (lv_at hl 0 rfl) ?_
  refine lv_iconst (v := 1) hx hb d_LW_239 (by decide) ?_
  refine lv_iadd hx hb d_LW_240 ?_
  refine va_sld hx hb hX hbl hbA hS hin.2.1 d_LW_241 ?_
  refine cx_I (wr := []) [0, 1, 2, 3, 4, 5, 6, 7, 8, 9, 10, 11, 12, 13, 14, 15, 16, 17, 18, 19, 20, 21, 22, 23, 24, 25, 26, 27, 28, 29, 30, 31, 32] [] rfl rfl rfl (by decide) hPm hDm hP hap.symm hS hA (va_runV (As := [.int (xs (i + 1).toNatClampNeg)]) (rest := []) ⟨hx, hb, hml, hown, htb⟩ (c_Mo_fault l g F (a 11) (x 11) (y 11) (xs (i + 1).toNatClampNeg) _ e2 H.size) (cw_V htb mb_Mo_fault (htb _ L_LW_38) rfl rfl ⟨Nat.le_of_ble_eq_true rfl, Nat.le_of_ble_eq_true rfl⟩) (pre_V (va_recv hK hPm (ci := 8) (q0 := 0) rfl rfl) (pre_S [0, 1, 2, 3, 4, 5, 6, 7, 8, 9, 10, 11, 12, 13, 14, 15, 16, 17, 18, 19, 20, 21, 22, 23, 24, 25, 26, 27, 28, 29, 30, 31, 32] rfl rfl hPm hDm hS hA hAA hG)) rfl rfl hl.1 rfl (lv_room (Nat.le_of_ble_eq_true rfl)) d_LW_242 ⟨Nat.le_of_succ_le hcs.1, Nat.le_trans (Nat.le_add_right _ 6) hcs.2⟩) (fun H locs hPm hDm hP hap hS => ?_)
  have hap := hap.symm
  refine lv_pop hx hb d_LW_245 rfl ?_
  refine lv_goto (tgt := 559) hx hb d_LW_246 (by decide) ?_
  refine W.widen (k := cells + 1) (n := slots + 6) (by omega) (by omega) ?_
  exact K a (va_up x 11 (r2.2.1)) (va_up y 11 (r2.2.2)) H locs ls (hI) m2 (l2.trans hL) hP hD hPm hDm hap hS hl
set_option maxHeartbeats 4000000 in
set_option maxRecDepth 100000 in
theorem lc_atom {p : Program} {l : Launch} {e : Env} {s : State} {m : MethodId} {below : List Frame} {meth : Method} {c : Code} {g : Gz} {b L : Nat} {xs : Nat → Int32} {F : Nat} {MI : StI → StL → Prop} {ML : StI → Int} (hC : LC p l s m meth c g b L xs) (hF : Big F) (hMo : MoOk F MI ML) {a : Nat → Nat → Nat} {x : Nat → StI} {y : Nat → StL} {i : Int32} {cells slots : Nat} {H : Heap} {locs : List Loc} {ls : Array Slot} (hin : InR i L) (hcs : cells + 1 ≤ 601024 ∧ slots + 6 ≤ 7293034) (hI : INV x) (hM : MI (x 11) (y 11)) (hL : ML (x 11) = (x 0 2 0).toInt) (hP : va_P (gD g) vwCl (w_cls g a x y) H) (hD : va_D (A0 s) (w_cls g a x y)) (hPm : va_P (gD g) vwCl (pic_Mo g (a 11) (x 11) (y 11)) H) (hDm : va_D (A0 s) (pic_Mo g (a 11) (x 11) (y 11))) (hap : Apart (w_cls g a x y) (pic_Mo g (a 11) (x 11) (y 11))) (hS : va_S (A0 s) s.heap H locs) (hl : lv_has ls 7 (lvL b a i)) (K : Nxt p l e s m below meth c g b MI ML i (cells + 1) (slots + 6)) : W p l e room_1 s m #[Value.ref b] below meth c H locs cells slots (lw_Z below #[Value.ref b] s) (F0 m 249 ls []) := by
  obtain ⟨hx, hb, hr, hml, hown, htb, hlocks, hX, hbl, hG, hXS, hno⟩ := id hC
  have hK := hG.1
  have hA : ∀ q : Nat, s.heap.size ≤ q → A0 s q := fun _ h => h
  have hAA : ∀ q : Nat, A0 s q → A0 s q := fun _ h => h
  have hbA : ¬ A0 s b := Nat.not_le.mpr hbl
  obtain ⟨r1, e1, p1⟩ := sp_MQ_atom F hF (x 0) (x 1) (xs (i + 1).toNatClampNeg) (xs (i + 2).toNatClampNeg) hI.2.2.1
  obtain ⟨r2, e2, m2, l2⟩ := hMo.2.2.2.2.1 (x 11) (y 11) (xs (i + 1).toNatClampNeg) (xs (i + 2).toNatClampNeg) hM
  refine lv_aload_n hx hb d_LW_249 rfl (lv_at hl 3 rfl) ?_
  refine lv_aload_n hx hb d_LW_250 rfl (lv_at hl 4 rfl) ?_
  refine lv_iload hx hb d_LW_251 (lv_at hl 0 rfl) ?_
  refine lv_iconst (v := 1) hx hb d_LW_253 (by decide) ?_
  refine lv_iadd hx hb d_LW_254 ?_
  refine va_sld hx hb hX hbl hbA hS hin.2.1 d_LW_255 ?_
  refine lv_aload_n hx hb d_LW_256 rfl (lv_at hl 4 rfl) ?_
  refine lv_iload hx hb d_LW_257 (lv_at hl 0 rfl) ?_
  refine lv_iconst (v := 2) hx hb d_LW_259 (by decide) ?_
  refine lv_iadd hx hb d_LW_260 ?_
  refine va_sld hx hb hX hbl hbA hS hin.2.2.1 d_LW_261 ?_
  refine cx_Ir hP hPm hS hA (va_runV (As := [.int (xs (i + 1).toNatClampNeg), .int (xs (i + 2).toNatClampNeg)]) (rest := []) ⟨hx, hb, hml, hown, htb⟩ (c_MQ_atom l g F (a 0) (a 1) (a 3 0) (a 5 0) (a 7 0) (a 9 0) (x 0) (x 1) (xs (i + 1).toNatClampNeg) (xs (i + 2).toNatClampNeg) _ e1 H.size) (cw_V htb mb_MQ_atom (htb _ L_LW_39) rfl rfl ⟨Nat.le_of_ble_eq_true rfl, Nat.le_of_ble_eq_true rfl⟩) (pre_V (va_recv hK hP (ci := 7) (q0 := 0) rfl rfl) (pre_S [0, 1, 2, 3, 4, 5, 6, 7, 8, 9, 10, 11, 12, 13] rfl rfl hP hD hS hA hAA hG)) rfl rfl hl.1 rfl (lv_room (Nat.le_of_ble_eq_true rfl)) d_LW_262 ⟨Nat.le_of_succ_le hcs.1, Nat.le_trans (Nat.le_add_right _ 6) hcs.2⟩) (fun H locs hP hPm hS => ?_)
  refine lv_pop hx hb d_LW_265 rfl ?_
  refine lv_aload_n hx hb d_LW_266 rfl (lv_at hl 2 rfl) ?_
  refine lv_aload_n hx hb d_LW_267 rfl (lv_at hl 4 rfl) ?_
  refine lv_iload hx hb d_LW_268 (lv_at hl 0 rfl) ?_
  refine lv_iconst (v := 1) hx hb d_LW_270 (by decide) ?_
  refine lv_iadd hx hb d_LW_271 ?_
  refine va_sld hx hb hX hbl hbA hS hin.2.1 d_LW_272 ?_
  refine lv_aload_n hx hb d_LW_273 rfl (lv_at hl 4 rfl) ?_
  refine lv_iload hx hb d_LW_274 (lv_at hl 0 rfl) ?_
  refine lv_iconst (v := 2) hx hb d_LW_276 (by decide) ?_
  refine lv_iadd hx hb d_LW_277 ?_
  refine va_sld hx hb hX hbl hbA hS hin.2.2.1 d_LW_278 ?_
  refine cx_I (wr := []) [0, 1, 2, 3, 4, 5, 6, 7, 8, 9, 10, 11, 12, 13, 14, 15, 16, 17, 18, 19, 20, 21, 22, 23, 24, 25, 26, 27, 28, 29, 30, 31, 32] [] rfl rfl rfl (by decide) hPm hDm hP hap.symm hS hA (va_runV (As := [.int (xs (i + 1).toNatClampNeg), .int (xs (i + 2).toNatClampNeg)]) (rest := []) ⟨hx, hb, hml, hown, htb⟩ (c_Mo_atom l g F (a 11) (x 11) (y 11) (xs (i + 1).toNatClampNeg) (xs (i + 2).toNatClampNeg) _ e2 H.size) (cw_V htb mb_Mo_atom (htb _ L_LW_43) rfl rfl ⟨Nat.le_of_ble_eq_true rfl, Nat.le_of_ble_eq_true rfl⟩) (pre_V (va_recv hK hPm (ci := 8) (q0 := 0) rfl rfl) (pre_S [0, 1, 2, 3, 4, 5, 6, 7, 8, 9, 10, 11, 12, 13, 14, 15, 16, 17, 18, 19, 20, 21, 22, 23, 24, 25, 26, 27, 28, 29, 30, 31, 32] rfl rfl hPm hDm hS hA hAA hG)) rfl rfl hl.1 rfl (lv_room (Nat.le_of_ble_eq_true rfl)) d_LW_279 ⟨Nat.le_of_succ_le hcs.1, Nat.le_trans (Nat.le_add_right _ 6) hcs.2⟩) (fun H locs hPm hDm hP hap hS => ?_)
  have hap := hap.symm
  refine lv_pop hx hb d_LW_282 rfl ?_
  refine lv_goto (tgt := 559) hx hb d_LW_283 (by decide) ?_
  refine W.widen (k := cells + 1) (n := slots + 6) (by omega) (by omega) ?_
  exact K a (va_up x 11 (r2.2.1)) (va_up y 11 (r2.2.2)) H locs ls (hI) m2 (l2.trans hL) hP hD hPm hDm hap hS hl
set_option maxHeartbeats 4000000 in
set_option maxRecDepth 100000 in
theorem lc_atomByte {p : Program} {l : Launch} {e : Env} {s : State} {m : MethodId} {below : List Frame} {meth : Method} {c : Code} {g : Gz} {b L : Nat} {xs : Nat → Int32} {F : Nat} {MI : StI → StL → Prop} {ML : StI → Int} (hC : LC p l s m meth c g b L xs) (hF : Big F) (hMo : MoOk F MI ML) {a : Nat → Nat → Nat} {x : Nat → StI} {y : Nat → StL} {i : Int32} {cells slots : Nat} {H : Heap} {locs : List Loc} {ls : Array Slot} (hin : InR i L) (hcs : cells + 1 ≤ 601024 ∧ slots + 6 ≤ 7293034) (hI : INV x) (hM : MI (x 11) (y 11)) (hL : ML (x 11) = (x 0 2 0).toInt) (hP : va_P (gD g) vwCl (w_cls g a x y) H) (hD : va_D (A0 s) (w_cls g a x y)) (hPm : va_P (gD g) vwCl (pic_Mo g (a 11) (x 11) (y 11)) H) (hDm : va_D (A0 s) (pic_Mo g (a 11) (x 11) (y 11))) (hap : Apart (w_cls g a x y) (pic_Mo g (a 11) (x 11) (y 11))) (hS : va_S (A0 s) s.heap H locs) (hl : lv_has ls 7 (lvL b a i)) (K : Nxt p l e s m below meth c g b MI ML i (cells + 1) (slots + 6)) : W p l e room_1 s m #[Value.ref b] below meth c H locs cells slots (lw_Z below #[Value.ref b] s) (F0 m 286 ls []) := by
  obtain ⟨hx, hb, hr, hml, hown, htb, hlocks, hX, hbl, hG, hXS, hno⟩ := id hC
  have hK := hG.1
  have hA : ∀ q : Nat, s.heap.size ≤ q → A0 s q := fun _ h => h
  have hAA : ∀ q : Nat, A0 s q → A0 s q := fun _ h => h
  have hbA : ¬ A0 s b := Nat.not_le.mpr hbl
  obtain ⟨r1, e1, p1⟩ := sp_MQ_atomByte F hF (x 0) (x 1) (xs (i + 1).toNatClampNeg) (xs (i + 2).toNatClampNeg) hI.2.2.1
  obtain ⟨r2, e2, m2, l2⟩ := hMo.2.2.2.2.2.1 (x 11) (y 11) (xs (i + 1).toNatClampNeg) (xs (i + 2).toNatClampNeg) hM
  refine lv_aload_n hx hb d_LW_286 rfl (lv_at hl 3 rfl) ?_
  refine lv_aload_n hx hb d_LW_287 rfl (lv_at hl 4 rfl) ?_
  refine lv_iload hx hb d_LW_288 (lv_at hl 0 rfl) ?_
  refine lv_iconst (v := 1) hx hb d_LW_290 (by decide) ?_
  refine lv_iadd hx hb d_LW_291 ?_
  refine va_sld hx hb hX hbl hbA hS hin.2.1 d_LW_292 ?_
  refine lv_aload_n hx hb d_LW_293 rfl (lv_at hl 4 rfl) ?_
  refine lv_iload hx hb d_LW_294 (lv_at hl 0 rfl) ?_
  refine lv_iconst (v := 2) hx hb d_LW_296 (by decide) ?_
  refine lv_iadd hx hb d_LW_297 ?_
  refine va_sld hx hb hX hbl hbA hS hin.2.2.1 d_LW_298 ?_
  refine cx_Ir hP hPm hS hA (va_runV (As := [.int (xs (i + 1).toNatClampNeg), .int (xs (i + 2).toNatClampNeg)]) (rest := []) ⟨hx, hb, hml, hown, htb⟩ (c_MQ_atomByte l g F (a 0) (a 1) (a 3 0) (a 5 0) (a 7 0) (a 9 0) (x 0) (x 1) (xs (i + 1).toNatClampNeg) (xs (i + 2).toNatClampNeg) _ e1 H.size) (cw_V htb mb_MQ_atomByte (htb _ L_LW_44) rfl rfl ⟨Nat.le_of_ble_eq_true rfl, Nat.le_of_ble_eq_true rfl⟩) (pre_V (va_recv hK hP (ci := 7) (q0 := 0) rfl rfl) (pre_S [0, 1, 2, 3, 4, 5, 6, 7, 8, 9, 10, 11, 12, 13] rfl rfl hP hD hS hA hAA hG)) rfl rfl hl.1 rfl (lv_room (Nat.le_of_ble_eq_true rfl)) d_LW_299 ⟨Nat.le_of_succ_le hcs.1, Nat.le_trans (Nat.le_add_right _ 6) hcs.2⟩) (fun H locs hP hPm hS => ?_)
  refine lv_pop hx hb d_LW_302 rfl ?_
  refine lv_aload_n hx hb d_LW_303 rfl (lv_at hl 2 rfl) ?_
  refine lv_aload_n hx hb d_LW_304 rfl (lv_at hl 4 rfl) ?_
  refine lv_iload hx hb d_LW_305 (lv_at hl 0 rfl) ?_
  refine lv_iconst (v := 1) hx hb d_LW_307 (by decide) ?_
  refine lv_iadd hx hb d_LW_308 ?_
  refine va_sld hx hb hX hbl hbA hS hin.2.1 d_LW_309 ?_
  refine lv_aload_n hx hb d_LW_310 rfl (lv_at hl 4 rfl) ?_
  refine lv_iload hx hb d_LW_311 (lv_at hl 0 rfl) ?_
  refine lv_iconst (v := 2) hx hb d_LW_313 (by decide) ?_
  refine lv_iadd hx hb d_LW_314 ?_
  refine va_sld hx hb hX hbl hbA hS hin.2.2.1 d_LW_315 ?_
  refine cx_I (wr := []) [0, 1, 2, 3, 4, 5, 6, 7, 8, 9, 10, 11, 12, 13, 14, 15, 16, 17, 18, 19, 20, 21, 22, 23, 24, 25, 26, 27, 28, 29, 30, 31, 32] [] rfl rfl rfl (by decide) hPm hDm hP hap.symm hS hA (va_runV (As := [.int (xs (i + 1).toNatClampNeg), .int (xs (i + 2).toNatClampNeg)]) (rest := []) ⟨hx, hb, hml, hown, htb⟩ (c_Mo_atomByte l g F (a 11) (x 11) (y 11) (xs (i + 1).toNatClampNeg) (xs (i + 2).toNatClampNeg) _ e2 H.size) (cw_V htb mb_Mo_atomByte (htb _ L_LW_47) rfl rfl ⟨Nat.le_of_ble_eq_true rfl, Nat.le_of_ble_eq_true rfl⟩) (pre_V (va_recv hK hPm (ci := 8) (q0 := 0) rfl rfl) (pre_S [0, 1, 2, 3, 4, 5, 6, 7, 8, 9, 10, 11, 12, 13, 14, 15, 16, 17, 18, 19, 20, 21, 22, 23, 24, 25, 26, 27, 28, 29, 30, 31, 32] rfl rfl hPm hDm hS hA hAA hG)) rfl rfl hl.1 rfl (lv_room (Nat.le_of_ble_eq_true rfl)) d_LW_316 ⟨Nat.le_of_succ_le hcs.1, Nat.le_trans (Nat.le_add_right _ 6) hcs.2⟩) (fun H locs hPm hDm hP hap hS => ?_)
  have hap := hap.symm
  refine lv_pop hx hb d_LW_319 rfl ?_
  refine lv_goto (tgt := 559) hx hb d_LW_320 (by decide) ?_
  refine W.widen (k := cells + 1) (n := slots + 6) (by omega) (by omega) ?_
  exact K a (va_up x 11 (r2.2.1)) (va_up y 11 (r2.2.2)) H locs ls (hI) m2 (l2.trans hL) hP hD hPm hDm hap hS hl
set_option maxHeartbeats 4000000 in
set_option maxRecDepth 100000 in
theorem lc_range {p : Program} {l : Launch} {e : Env} {s : State} {m : MethodId} {below : List Frame} {meth : Method} {c : Code} {g : Gz} {b L : Nat} {xs : Nat → Int32} {F : Nat} {MI : StI → StL → Prop} {ML : StI → Int} (hC : LC p l s m meth c g b L xs) (hF : Big F) (hMo : MoOk F MI ML) {a : Nat → Nat → Nat} {x : Nat → StI} {y : Nat → StL} {i : Int32} {cells slots : Nat} {H : Heap} {locs : List Loc} {ls : Array Slot} (hin : InR i L) (hcs : cells + 1 ≤ 601024 ∧ slots + 6 ≤ 7293034) (hI : INV x) (hM : MI (x 11) (y 11)) (hL : ML (x 11) = (x 0 2 0).toInt) (hP : va_P (gD g) vwCl (w_cls g a x y) H) (hD : va_D (A0 s) (w_cls g a x y)) (hPm : va_P (gD g) vwCl (pic_Mo g (a 11) (x 11) (y 11)) H) (hDm : va_D (A0 s) (pic_Mo g (a 11) (x 11) (y 11))) (hap : Apart (w_cls g a x y) (pic_Mo g (a 11) (x 11) (y 11))) (hS : va_S (A0 s) s.heap H locs) (hl : lv_has ls 7 (lvL b a i)) (K : Nxt p l e s m below meth c g b MI ML i (cells + 1) (slots + 6)) : W p l e room_1 s m #[Value.ref b] below meth c H locs cells slots (lw_Z below #[Value.ref b] s) (F0 m 323 ls []) := by
  obtain ⟨hx, hb, hr, hml, hown, htb, hlocks, hX, hbl, hG, hXS, hno⟩ := id hC
  have hK := hG.1
  have hA : ∀ q : Nat, s.heap.size ≤ q → A0 s q := fun _ h => h
  have hAA : ∀ q : Nat, A0 s q → A0 s q := fun _ h => h
  have hbA : ¬ A0 s b := Nat.not_le.mpr hbl
  obtain ⟨r1, e1, p1⟩ := sp_MQ_range F hF (x 0) (x 1) (xs (i + 1).toNatClampNeg) (xs (i + 2).toNatClampNeg) hI.2.2.1
  obtain ⟨r2, e2, m2, l2⟩ := hMo.2.2.2.2.2.2.1 (x 11) (y 11) (xs (i + 1).toNatClampNeg) (xs (i + 2).toNatClampNeg) hM
  refine lv_aload_n hx hb d_LW_323 rfl (lv_at hl 3 rfl) ?_
  refine lv_aload_n hx hb d_LW_324 rfl (lv_at hl 4 rfl) ?_
  refine lv_iload hx hb d_LW_325 (lv_at hl 0 rfl) ?_
  refine lv_iconst (v := 1) hx hb d_LW_327 (by decide) ?_
  refine lv_iadd hx hb d_LW_328 ?_
  refine va_sld hx hb hX hbl hbA hS hin.2.1 d_LW_329 ?_
  refine lv_aload_n hx hb d_LW_330 rfl (lv_at hl 4 rfl) ?_
  refine lv_iload hx hb d_LW_331 (lv_at hl 0 rfl) ?_
  refine lv_iconst (v := 2) hx hb d_LW_333 (by decide) ?_
  refine lv_iadd hx hb d_LW_334 ?_
  refine va_sld hx hb hX hbl hbA hS hin.2.2.1 d_LW_335 ?_
  refine cx_Ir hP hPm hS hA (va_runV (As := [.int (xs (i + 1).toNatClampNeg), .int (xs (i + 2).toNatClampNeg)]) (rest := []) ⟨hx, hb, hml, hown, htb⟩ (c_MQ_range l g F (a 0) (a 1) (a 3 0) (a 5 0) (a 7 0) (a 9 0) (x 0) (x 1) (xs (i + 1).toNatClampNeg) (xs (i + 2).toNatClampNeg) _ e1 H.size) (cw_V htb mb_MQ_range (htb _ L_LW_48) rfl rfl ⟨Nat.le_of_ble_eq_true rfl, Nat.le_of_ble_eq_true rfl⟩) (pre_V (va_recv hK hP (ci := 7) (q0 := 0) rfl rfl) (pre_S [0, 1, 2, 3, 4, 5, 6, 7, 8, 9, 10, 11, 12, 13] rfl rfl hP hD hS hA hAA hG)) rfl rfl hl.1 rfl (lv_room (Nat.le_of_ble_eq_true rfl)) d_LW_336 ⟨Nat.le_of_succ_le hcs.1, Nat.le_trans (Nat.le_add_right _ 6) hcs.2⟩) (fun H locs hP hPm hS => ?_)
  refine lv_pop hx hb d_LW_339 rfl ?_
  refine lv_aload_n hx hb d_LW_340 rfl (lv_at hl 2 rfl) ?_
  refine lv_aload_n hx hb d_LW_341 rfl (lv_at hl 4 rfl) ?_
  refine lv_iload hx hb d_LW_342 (lv_at hl 0 rfl) ?_
  refine lv_iconst (v := 1) hx hb d_LW_344 (by decide) ?_
  refine lv_iadd hx hb d_LW_345 ?_
  refine va_sld hx hb hX hbl hbA hS hin.2.1 d_LW_346 ?_
  refine lv_aload_n hx hb d_LW_347 rfl (lv_at hl 4 rfl) ?_
  refine lv_iload hx hb d_LW_348 (lv_at hl 0 rfl) ?_
  refine lv_iconst (v := 2) hx hb d_LW_350 (by decide) ?_
  refine lv_iadd hx hb d_LW_351 ?_
  refine va_sld hx hb hX hbl hbA hS hin.2.2.1 d_LW_352 ?_
  refine cx_I (wr := []) [0, 1, 2, 3, 4, 5, 6, 7, 8, 9, 10, 11, 12, 13, 14, 15, 16, 17, 18, 19, 20, 21, 22, 23, 24, 25, 26, 27, 28, 29, 30, 31, 32] [] rfl rfl rfl (by decide) hPm hDm hP hap.symm hS hA (va_runV (As := [.int (xs (i + 1).toNatClampNeg), .int (xs (i + 2).toNatClampNeg)]) (rest := []) ⟨hx, hb, hml, hown, htb⟩ (c_Mo_range l g F (a 11) (x 11) (y 11) (xs (i + 1).toNatClampNeg) (xs (i + 2).toNatClampNeg) _ e2 H.size) (cw_V htb mb_Mo_range (htb _ L_LW_51) rfl rfl ⟨Nat.le_of_ble_eq_true rfl, Nat.le_of_ble_eq_true rfl⟩) (pre_V (va_recv hK hPm (ci := 8) (q0 := 0) rfl rfl) (pre_S [0, 1, 2, 3, 4, 5, 6, 7, 8, 9, 10, 11, 12, 13, 14, 15, 16, 17, 18, 19, 20, 21, 22, 23, 24, 25, 26, 27, 28, 29, 30, 31, 32] rfl rfl hPm hDm hS hA hAA hG)) rfl rfl hl.1 rfl (lv_room (Nat.le_of_ble_eq_true rfl)) d_LW_353 ⟨Nat.le_of_succ_le hcs.1, Nat.le_trans (Nat.le_add_right _ 6) hcs.2⟩) (fun H locs hPm hDm hP hap hS => ?_)
  have hap := hap.symm
  refine lv_pop hx hb d_LW_356 rfl ?_
  refine lv_goto (tgt := 559) hx hb d_LW_357 (by decide) ?_
  refine W.widen (k := cells + 1) (n := slots + 6) (by omega) (by omega) ?_
  exact K a (va_up x 11 (r2.2.1)) (va_up y 11 (r2.2.2)) H locs ls (hI) m2 (l2.trans hL) hP hD hPm hDm hap hS hl
set_option maxHeartbeats 4000000 in
set_option maxRecDepth 100000 in
theorem lc_tree {p : Program} {l : Launch} {e : Env} {s : State} {m : MethodId} {below : List Frame} {meth : Method} {c : Code} {g : Gz} {b L : Nat} {xs : Nat → Int32} {F : Nat} {MI : StI → StL → Prop} {ML : StI → Int} (hC : LC p l s m meth c g b L xs) (hF : Big F) (hMo : MoOk F MI ML) {a : Nat → Nat → Nat} {x : Nat → StI} {y : Nat → StL} {i : Int32} {cells slots : Nat} {H : Heap} {locs : List Loc} {ls : Array Slot} (hin : InR i L) (hcs : cells + 1 ≤ 601024 ∧ slots + 6 ≤ 7293034) (hI : INV x) (hM : MI (x 11) (y 11)) (hL : ML (x 11) = (x 0 2 0).toInt) (hP : va_P (gD g) vwCl (w_cls g a x y) H) (hD : va_D (A0 s) (w_cls g a x y)) (hPm : va_P (gD g) vwCl (pic_Mo g (a 11) (x 11) (y 11)) H) (hDm : va_D (A0 s) (pic_Mo g (a 11) (x 11) (y 11))) (hap : Apart (w_cls g a x y) (pic_Mo g (a 11) (x 11) (y 11))) (hS : va_S (A0 s) s.heap H locs) (hl : lv_has ls 7 (lvL b a i)) (K : Nxt p l e s m below meth c g b MI ML i (cells + 1) (slots + 6)) : W p l e room_1 s m #[Value.ref b] below meth c H locs cells slots (lw_Z below #[Value.ref b] s) (F0 m 360 ls []) := by
  obtain ⟨hx, hb, hr, hml, hown, htb, hlocks, hX, hbl, hG, hXS, hno⟩ := id hC
  have hK := hG.1
  have hA : ∀ q : Nat, s.heap.size ≤ q → A0 s q := fun _ h => h
  have hAA : ∀ q : Nat, A0 s q → A0 s q := fun _ h => h
  have hbA : ¬ A0 s b := Nat.not_le.mpr hbl
  obtain ⟨r1, e1, p1⟩ := sp_MQ_tree F hF (x 0) (x 1) (xs (i + 1).toNatClampNeg) hI.2.2.1
  obtain ⟨r2, e2, m2, l2⟩ := hMo.2.2.2.2.2.2.2.1 (x 11) (y 11) (xs (i + 1).toNatClampNeg) hM
  refine lv_aload_n hx hb d_LW_360 rfl (lv_at hl 3 rfl) ?_
  refine lv_aload_n hx hb d_LW_361 rfl (lv_at hl 4 rfl) ?_
  refine lv_iload hx hb d_LW_362 (lv_at hl 0 rfl) ?_
  refine lv_iconst (v := 1) hx hb d_LW_364 (by decide) ?_
  refine lv_iadd hx hb d_LW_365 ?_
  refine va_sld hx hb hX hbl hbA hS hin.2.1 d_LW_366 ?_
  refine cx_Ir hP hPm hS hA (va_runV (As := [.int (xs (i + 1).toNatClampNeg)]) (rest := []) ⟨hx, hb, hml, hown, htb⟩ (c_MQ_tree l g F (a 0) (a 1) (a 3 0) (a 5 0) (a 7 0) (a 9 0) (x 0) (x 1) (xs (i + 1).toNatClampNeg) _ e1 H.size) (cw_V htb mb_MQ_tree (htb _ L_LW_52) rfl rfl ⟨Nat.le_of_ble_eq_true rfl, Nat.le_of_ble_eq_true rfl⟩) (pre_V (va_recv hK hP (ci := 7) (q0 := 0) rfl rfl) (pre_S [0, 1, 2, 3, 4, 5, 6, 7, 8, 9, 10, 11, 12, 13] rfl rfl hP hD hS hA hAA hG)) rfl rfl hl.1 rfl (lv_room (Nat.le_of_ble_eq_true rfl)) d_LW_367 ⟨Nat.le_of_succ_le hcs.1, Nat.le_trans (Nat.le_add_right _ 6) hcs.2⟩) (fun H locs hP hPm hS => ?_)
  refine lv_pop hx hb d_LW_370 rfl ?_
  refine lv_aload_n hx hb d_LW_371 rfl (lv_at hl 2 rfl) ?_
  refine lv_aload_n hx hb d_LW_372 rfl (lv_at hl 4 rfl) ?_
  refine lv_iload hx hb d_LW_373 (lv_at hl 0 rfl) ?_
  refine lv_iconst (v := 1) hx hb d_LW_375 (by decide) ?_
  refine lv_iadd hx hb d_LW_376 ?_
  refine va_sld hx hb hX hbl hbA hS hin.2.1 d_LW_377 ?_
  refine cx_I (wr := []) [0, 1, 2, 3, 4, 5, 6, 7, 8, 9, 10, 11, 12, 13, 14, 15, 16, 17, 18, 19, 20, 21, 22, 23, 24, 25, 26, 27, 28, 29, 30, 31, 32] [] rfl rfl rfl (by decide) hPm hDm hP hap.symm hS hA (va_runV (As := [.int (xs (i + 1).toNatClampNeg)]) (rest := []) ⟨hx, hb, hml, hown, htb⟩ (c_Mo_tree l g F (a 11) (x 11) (y 11) (xs (i + 1).toNatClampNeg) _ e2 H.size) (cw_V htb mb_Mo_tree (htb _ L_LW_55) rfl rfl ⟨Nat.le_of_ble_eq_true rfl, Nat.le_of_ble_eq_true rfl⟩) (pre_V (va_recv hK hPm (ci := 8) (q0 := 0) rfl rfl) (pre_S [0, 1, 2, 3, 4, 5, 6, 7, 8, 9, 10, 11, 12, 13, 14, 15, 16, 17, 18, 19, 20, 21, 22, 23, 24, 25, 26, 27, 28, 29, 30, 31, 32] rfl rfl hPm hDm hS hA hAA hG)) rfl rfl hl.1 rfl (lv_room (Nat.le_of_ble_eq_true rfl)) d_LW_378 ⟨Nat.le_of_succ_le hcs.1, Nat.le_trans (Nat.le_add_right _ 6) hcs.2⟩) (fun H locs hPm hDm hP hap hS => ?_)
  have hap := hap.symm
  refine lv_pop hx hb d_LW_381 rfl ?_
  refine lv_goto (tgt := 559) hx hb d_LW_382 (by decide) ?_
  refine W.widen (k := cells + 1) (n := slots + 6) (by omega) (by omega) ?_
  exact K a (va_up x 11 (r2.2.1)) (va_up y 11 (r2.2.2)) H locs ls (hI) m2 (l2.trans hL) hP hD hPm hDm hap hS hl
set_option maxHeartbeats 4000000 in
set_option maxRecDepth 100000 in
theorem lc_print {p : Program} {l : Launch} {e : Env} {s : State} {m : MethodId} {below : List Frame} {meth : Method} {c : Code} {g : Gz} {b L : Nat} {xs : Nat → Int32} {F : Nat} {MI : StI → StL → Prop} {ML : StI → Int} (hC : LC p l s m meth c g b L xs) (hF : Big F) (hMo : MoOk F MI ML) {a : Nat → Nat → Nat} {x : Nat → StI} {y : Nat → StL} {i : Int32} {cells slots : Nat} {H : Heap} {locs : List Loc} {ls : Array Slot} (hin : InR i L) (hcs : cells + 1 ≤ 601024 ∧ slots + 6 ≤ 7293034) (hI : INV x) (hM : MI (x 11) (y 11)) (hL : ML (x 11) = (x 0 2 0).toInt) (hP : va_P (gD g) vwCl (w_cls g a x y) H) (hD : va_D (A0 s) (w_cls g a x y)) (hPm : va_P (gD g) vwCl (pic_Mo g (a 11) (x 11) (y 11)) H) (hDm : va_D (A0 s) (pic_Mo g (a 11) (x 11) (y 11))) (hap : Apart (w_cls g a x y) (pic_Mo g (a 11) (x 11) (y 11))) (hS : va_S (A0 s) s.heap H locs) (hl : lv_has ls 7 (lvL b a i)) (K : Nxt p l e s m below meth c g b MI ML i (cells + 1) (slots + 6)) : W p l e room_1 s m #[Value.ref b] below meth c H locs cells slots (lw_Z below #[Value.ref b] s) (F0 m 385 ls []) := by
  obtain ⟨hx, hb, hr, hml, hown, htb, hlocks, hX, hbl, hG, hXS, hno⟩ := id hC
  have hK := hG.1
  have hA : ∀ q : Nat, s.heap.size ≤ q → A0 s q := fun _ h => h
  have hAA : ∀ q : Nat, A0 s q → A0 s q := fun _ h => h
  have hbA : ¬ A0 s b := Nat.not_le.mpr hbl
  obtain ⟨r1, e1, p1⟩ := sp_MQ_print F hF (x 0) (x 5) (x 1) (x 6) (y 6) ⟨hI.2.2.2.1, hI.2.2.1, hI.2.2.2.2.1⟩
  obtain ⟨r2, e2, m2, l2⟩ := hMo.2.2.2.2.2.2.2.2.1 (x 11) (y 11)  hM
  refine lv_aload_n hx hb d_LW_385 rfl (lv_at hl 3 rfl) ?_
  refine cx_I (wr := (pic_Query g (a 2) (x 2)) ++ ((pic_Reader g (a 3) (a 2 0) (a 4 0) (x 3)) ++ ((pic_Span g (a 4) (x 4)) ++ ((pic_Rows g (a 7) (a 8 0) (x 7) (y 7)) ++ ((pic_Pile g (a 8) 41 (x 8) (y 8)) ++ ((pic_Judge g (a 9) (a 10 0) (y 9)) ++ ((pic_Pile g (a 10) 40 (x 10) (y 10)) ++ ([(a 12 0, .inl (g.2.2.1 3, 1, .inr (.inl (y 12 0))))])))))))) [0, 1, 2, 30, 31, 3, 4, 5, 6, 7, 8, 9, 10, 11, 12, 13, 32, 33] [14, 15, 16, 17, 18, 19, 20, 21, 22, 23, 24, 25, 26, 27, 28, 29, 34, 35, 36, 37, 38, 39, 40, 41, 42, 43, 44, 45, 46, 47, 48] rfl rfl rfl (by decide) hP hD hPm hap hS hA (va_runV (As := []) (rest := []) ⟨hx, hb, hml, hown, htb⟩ (c_MQ_print l g F (a 0) (a 5) (a 1) (a 6) (a 3 0) (a 7 0) (a 9 0) (x 0) (x 5) (x 1) (x 6) (y 6)  _ e1 H.size) (cw_V htb mb_MQ_print (htb _ L_LW_56) rfl rfl ⟨Nat.le_of_ble_eq_true rfl, Nat.le_of_ble_eq_true rfl⟩) (pre_V (va_recv hK hP (ci := 7) (q0 := 0) rfl rfl) (pre_S [0, 1, 2, 30, 31, 3, 4, 5, 6, 7, 8, 9, 10, 11, 12, 13, 32, 33] rfl rfl hP hD hS hA hAA hG)) rfl rfl hl.1 rfl (lv_room (Nat.le_of_ble_eq_true rfl)) d_LW_386 ⟨Nat.le_of_succ_le hcs.1, Nat.le_trans (Nat.le_add_right _ 6) hcs.2⟩) (fun H locs hP hD hPm hap hS => ?_)
  have hP : va_P (gD g) vwCl (w_cls g a (va_up (va_up x 5 (r1.2.1)) 6 (r1.2.2.1)) (va_up y 6 (r1.2.2.2))) H := hP.sub [31, 32, 33, 36, 37, 38, 39, 40, 41, 42, 43, 44, 45, 46, 0, 1, 2, 3, 4, 5, 6, 7, 8, 9, 10, 11, 12, 13, 14, 15, 34, 35, 47, 48, 16, 17, 18, 19, 20, 21, 22, 23, 24, 25, 26, 27, 28, 29, 30] rfl
  have hD : va_D (A0 s) (w_cls g a (va_up (va_up x 5 (r1.2.1)) 6 (r1.2.2.1)) (va_up y 6 (r1.2.2.2))) := hD.sub [31, 32, 33, 36, 37, 38, 39, 40, 41, 42, 43, 44, 45, 46, 0, 1, 2, 3, 4, 5, 6, 7, 8, 9, 10, 11, 12, 13, 14, 15, 34, 35, 47, 48, 16, 17, 18, 19, 20, 21, 22, 23, 24, 25, 26, 27, 28, 29, 30] rfl rfl
  have hap : Apart (w_cls g a (va_up (va_up x 5 (r1.2.1)) 6 (r1.2.2.1)) (va_up y 6 (r1.2.2.2))) (pic_Mo g (a 11) (x 11) (y 11)) := hap.sub [31, 32, 33, 36, 37, 38, 39, 40, 41, 42, 43, 44, 45, 46, 0, 1, 2, 3, 4, 5, 6, 7, 8, 9, 10, 11, 12, 13, 14, 15, 34, 35, 47, 48, 16, 17, 18, 19, 20, 21, 22, 23, 24, 25, 26, 27, 28, 29, 30] rfl
  refine lv_pop hx hb d_LW_389 rfl ?_
  refine lv_aload_n hx hb d_LW_390 rfl (lv_at hl 2 rfl) ?_
  refine cx_I (wr := []) [0, 1, 2, 3, 4, 5, 6, 7, 8, 9, 10, 11, 12, 13, 14, 15, 16, 17, 18, 19, 20, 21, 22, 23, 24, 25, 26, 27, 28, 29, 30, 31, 32] [] rfl rfl rfl (by decide) hPm hDm hP hap.symm hS hA (va_runV (As := []) (rest := []) ⟨hx, hb, hml, hown, htb⟩ (c_Mo_print l g F (a 11) (x 11) (y 11)  _ e2 H.size) (cw_V htb mb_Mo_print (htb _ L_LW_59) rfl rfl ⟨Nat.le_of_ble_eq_true rfl, Nat.le_of_ble_eq_true rfl⟩) (pre_V (va_recv hK hPm (ci := 8) (q0 := 0) rfl rfl) (pre_S [0, 1, 2, 3, 4, 5, 6, 7, 8, 9, 10, 11, 12, 13, 14, 15, 16, 17, 18, 19, 20, 21, 22, 23, 24, 25, 26, 27, 28, 29, 30, 31, 32] rfl rfl hPm hDm hS hA hAA hG)) rfl rfl hl.1 rfl (lv_room (Nat.le_of_ble_eq_true rfl)) d_LW_391 ⟨Nat.le_of_succ_le hcs.1, Nat.le_trans (Nat.le_add_right _ 6) hcs.2⟩) (fun H locs hPm hDm hP hap hS => ?_)
  have hap := hap.symm
  refine lv_pop hx hb d_LW_394 rfl ?_
  refine lv_goto (tgt := 559) hx hb d_LW_395 (by decide) ?_
  refine W.widen (k := cells + 1) (n := slots + 6) (by omega) (by omega) ?_
  exact K a (va_up (va_up (va_up x 5 (r1.2.1)) 6 (r1.2.2.1)) 11 (r2.2.1)) (va_up (va_up y 6 (r1.2.2.2)) 11 (r2.2.2)) H locs ls (⟨hI.1, hI.2.1, hI.2.2.1, p1.1, p1.2, hI.2.2.2.2.2⟩) m2 (l2.trans hL) hP hD hPm hDm hap hS hl
set_option maxHeartbeats 4000000 in
set_option maxRecDepth 100000 in
theorem lc_printed {p : Program} {l : Launch} {e : Env} {s : State} {m : MethodId} {below : List Frame} {meth : Method} {c : Code} {g : Gz} {b L : Nat} {xs : Nat → Int32} {F : Nat} {MI : StI → StL → Prop} {ML : StI → Int} (hC : LC p l s m meth c g b L xs) (hF : Big F) (hMo : MoOk F MI ML) {a : Nat → Nat → Nat} {x : Nat → StI} {y : Nat → StL} {i : Int32} {cells slots : Nat} {H : Heap} {locs : List Loc} {ls : Array Slot} (hin : InR i L) (hcs : cells + 1 ≤ 601024 ∧ slots + 6 ≤ 7293034) (hI : INV x) (hM : MI (x 11) (y 11)) (hL : ML (x 11) = (x 0 2 0).toInt) (hP : va_P (gD g) vwCl (w_cls g a x y) H) (hD : va_D (A0 s) (w_cls g a x y)) (hPm : va_P (gD g) vwCl (pic_Mo g (a 11) (x 11) (y 11)) H) (hDm : va_D (A0 s) (pic_Mo g (a 11) (x 11) (y 11))) (hap : Apart (w_cls g a x y) (pic_Mo g (a 11) (x 11) (y 11))) (hS : va_S (A0 s) s.heap H locs) (hl : lv_has ls 7 (lvL b a i)) (K : Nxt p l e s m below meth c g b MI ML i (cells + 1) (slots + 6)) : W p l e room_1 s m #[Value.ref b] below meth c H locs cells slots (lw_Z below #[Value.ref b] s) (F0 m 398 ls []) := by
  obtain ⟨hx, hb, hr, hml, hown, htb, hlocks, hX, hbl, hG, hXS, hno⟩ := id hC
  have hK := hG.1
  have hA : ∀ q : Nat, s.heap.size ≤ q → A0 s q := fun _ h => h
  have hAA : ∀ q : Nat, A0 s q → A0 s q := fun _ h => h
  have hbA : ¬ A0 s b := Nat.not_le.mpr hbl
  obtain ⟨r1, e1, p1⟩ := sp_MQ_printed F hF (x 0) (x 5) (xs (i + 1).toNatClampNeg) hI.2.2.2.1
  obtain ⟨r2, e2, m2, l2⟩ := hMo.2.2.2.2.2.2.2.2.2.1 (x 11) (y 11) (xs (i + 1).toNatClampNeg) hM
  refine lv_aload_n hx hb d_LW_398 rfl (lv_at hl 3 rfl) ?_
  refine lv_aload_n hx hb d_LW_399 rfl (lv_at hl 4 rfl) ?_
  refine lv_iload hx hb d_LW_400 (lv_at hl 0 rfl) ?_
  refine lv_iconst (v := 1) hx hb d_LW_402 (by decide) ?_
  refine lv_iadd hx hb d_LW_403 ?_
  refine va_sld hx hb hX hbl hbA hS hin.2.1 d_LW_404 ?_
  refine cx_Ir hP hPm hS hA (va_runV (As := [.int (xs (i + 1).toNatClampNeg)]) (rest := []) ⟨hx, hb, hml, hown, htb⟩ (c_MQ_printed l g F (a 0) (a 5) (a 1 0) (a 3 0) (a 7 0) (a 9 0) (a 6 0) (x 0) (x 5) (xs (i + 1).toNatClampNeg) _ e1 H.size) (cw_V htb mb_MQ_printed (htb _ L_LW_60) rfl rfl ⟨Nat.le_of_ble_eq_true rfl, Nat.le_of_ble_eq_true rfl⟩) (pre_V (va_recv hK hP (ci := 7) (q0 := 0) rfl rfl) (pre_S [0, 1, 2, 30, 31] rfl rfl hP hD hS hA hAA hG)) rfl rfl hl.1 rfl (lv_room (Nat.le_of_ble_eq_true rfl)) d_LW_405 ⟨Nat.le_of_succ_le hcs.1, Nat.le_trans (Nat.le_add_right _ 6) hcs.2⟩) (fun H locs hP hPm hS => ?_)
  refine lv_pop hx hb d_LW_408 rfl ?_
  refine lv_aload_n hx hb d_LW_409 rfl (lv_at hl 2 rfl) ?_
  refine lv_aload_n hx hb d_LW_410 rfl (lv_at hl 4 rfl) ?_
  refine lv_iload hx hb d_LW_411 (lv_at hl 0 rfl) ?_
  refine lv_iconst (v := 1) hx hb d_LW_413 (by decide) ?_
  refine lv_iadd hx hb d_LW_414 ?_
  refine va_sld hx hb hX hbl hbA hS hin.2.1 d_LW_415 ?_
  refine cx_I (wr := []) [0, 1, 2, 3, 4, 5, 6, 7, 8, 9, 10, 11, 12, 13, 14, 15, 16, 17, 18, 19, 20, 21, 22, 23, 24, 25, 26, 27, 28, 29, 30, 31, 32] [] rfl rfl rfl (by decide) hPm hDm hP hap.symm hS hA (va_runV (As := [.int (xs (i + 1).toNatClampNeg)]) (rest := []) ⟨hx, hb, hml, hown, htb⟩ (c_Mo_printed l g F (a 11) (x 11) (y 11) (xs (i + 1).toNatClampNeg) _ e2 H.size) (cw_V htb mb_Mo_printed (htb _ L_LW_63) rfl rfl ⟨Nat.le_of_ble_eq_true rfl, Nat.le_of_ble_eq_true rfl⟩) (pre_V (va_recv hK hPm (ci := 8) (q0 := 0) rfl rfl) (pre_S [0, 1, 2, 3, 4, 5, 6, 7, 8, 9, 10, 11, 12, 13, 14, 15, 16, 17, 18, 19, 20, 21, 22, 23, 24, 25, 26, 27, 28, 29, 30, 31, 32] rfl rfl hPm hDm hS hA hAA hG)) rfl rfl hl.1 rfl (lv_room (Nat.le_of_ble_eq_true rfl)) d_LW_416 ⟨Nat.le_of_succ_le hcs.1, Nat.le_trans (Nat.le_add_right _ 6) hcs.2⟩) (fun H locs hPm hDm hP hap hS => ?_)
  have hap := hap.symm
  refine lv_pop hx hb d_LW_419 rfl ?_
  refine lv_goto (tgt := 559) hx hb d_LW_420 (by decide) ?_
  refine W.widen (k := cells + 1) (n := slots + 6) (by omega) (by omega) ?_
  exact K a (va_up x 11 (r2.2.1)) (va_up y 11 (r2.2.2)) H locs ls (hI) m2 (l2.trans hL) hP hD hPm hDm hap hS hl
set_option maxHeartbeats 4000000 in
set_option maxRecDepth 100000 in
theorem lc_normal {p : Program} {l : Launch} {e : Env} {s : State} {m : MethodId} {below : List Frame} {meth : Method} {c : Code} {g : Gz} {b L : Nat} {xs : Nat → Int32} {F : Nat} {MI : StI → StL → Prop} {ML : StI → Int} (hC : LC p l s m meth c g b L xs) (hF : Big F) (hMo : MoOk F MI ML) {a : Nat → Nat → Nat} {x : Nat → StI} {y : Nat → StL} {i : Int32} {cells slots : Nat} {H : Heap} {locs : List Loc} {ls : Array Slot} (hin : InR i L) (hcs : cells + 1 ≤ 601024 ∧ slots + 6 ≤ 7293034) (hI : INV x) (hM : MI (x 11) (y 11)) (hL : ML (x 11) = (x 0 2 0).toInt) (hP : va_P (gD g) vwCl (w_cls g a x y) H) (hD : va_D (A0 s) (w_cls g a x y)) (hPm : va_P (gD g) vwCl (pic_Mo g (a 11) (x 11) (y 11)) H) (hDm : va_D (A0 s) (pic_Mo g (a 11) (x 11) (y 11))) (hap : Apart (w_cls g a x y) (pic_Mo g (a 11) (x 11) (y 11))) (hS : va_S (A0 s) s.heap H locs) (hl : lv_has ls 7 (lvL b a i)) (K : Nxt p l e s m below meth c g b MI ML i (cells + 1) (slots + 6)) : W p l e room_1 s m #[Value.ref b] below meth c H locs cells slots (lw_Z below #[Value.ref b] s) (F0 m 423 ls []) := by
  obtain ⟨hx, hb, hr, hml, hown, htb, hlocks, hX, hbl, hG, hXS, hno⟩ := id hC
  have hK := hG.1
  have hA : ∀ q : Nat, s.heap.size ≤ q → A0 s q := fun _ h => h
  have hAA : ∀ q : Nat, A0 s q → A0 s q := fun _ h => h
  have hbA : ¬ A0 s b := Nat.not_le.mpr hbl
  obtain ⟨r1, e1, p1⟩ := sp_MQ_normal F hF (x 0) (x 1) (x 7) (y 7) (x 8) (y 8) hI.2.2.2.2.2.1 hI.2.2.2.2.2.2.1 ⟨hI.2.2.1, hI.2.2.2.2.2.2.2.1⟩
  obtain ⟨r2, e2, m2, l2⟩ := hMo.2.2.2.2.2.2.2.2.2.2.1 (x 11) (y 11)  hM
  refine lv_aload_n hx hb d_LW_423 rfl (lv_at hl 3 rfl) ?_
  refine cx_I (wr := (pic_Query g (a 2) (x 2)) ++ ((pic_Reader g (a 3) (a 2 0) (a 4 0) (x 3)) ++ ((pic_Span g (a 4) (x 4)) ++ ((pic_Printer g (a 5) (a 6 0) (x 5)) ++ ((pic_Pile g (a 6) 160 (x 6) (y 6)) ++ ((pic_Judge g (a 9) (a 10 0) (y 9)) ++ ((pic_Pile g (a 10) 40 (x 10) (y 10)) ++ ([(a 12 0, .inl (g.2.2.1 3, 1, .inr (.inl (y 12 0))))])))))))) [0, 1, 2, 3, 4, 5, 6, 7, 8, 9, 10, 11, 12, 13, 34, 35, 36, 37, 38, 39, 40, 41, 42, 43] [14, 15, 16, 17, 18, 19, 20, 21, 22, 23, 24, 25, 26, 27, 28, 29, 30, 31, 32, 33, 44, 45, 46, 47, 48] rfl rfl rfl (by decide) hP hD hPm hap hS hA (va_runV (As := []) (rest := []) ⟨hx, hb, hml, hown, htb⟩ (c_MQ_normal l g F (a 0) (a 1) (a 7) (a 8) (a 3 0) (a 5 0) (a 9 0) (x 0) (x 1) (x 7) (y 7) (x 8) (y 8)  _ e1 H.size) (cw_V htb mb_MQ_normal (htb _ L_LW_64) rfl rfl ⟨Nat.le_of_ble_eq_true rfl, Nat.le_of_ble_eq_true rfl⟩) (pre_V (va_recv hK hP (ci := 7) (q0 := 0) rfl rfl) (pre_S [0, 1, 2, 3, 4, 5, 6, 7, 8, 9, 10, 11, 12, 13, 34, 35, 36, 37, 38, 39, 40, 41, 42, 43] rfl rfl hP hD hS hA hAA hG)) rfl rfl hl.1 rfl (lv_room (Nat.le_of_ble_eq_true rfl)) d_LW_424 ⟨Nat.le_of_succ_le hcs.1, Nat.le_trans (Nat.le_add_right _ 6) hcs.2⟩) (fun H locs hP hD hPm hap hS => ?_)
  have hP : va_P (gD g) vwCl (w_cls g a (va_up (va_up x 7 (r1.2.1)) 8 (r1.2.2.2.1)) (va_up (va_up y 7 (r1.2.2.1)) 8 (r1.2.2.2.2))) H := hP.sub [25, 26, 27, 28, 29, 30, 31, 32, 33, 34, 35, 36, 37, 38, 0, 1, 2, 3, 4, 5, 6, 7, 8, 9, 10, 11, 12, 13, 14, 15, 16, 17, 18, 19, 39, 40, 41, 42, 43, 44, 45, 46, 47, 48, 20, 21, 22, 23, 24] rfl
  have hD : va_D (A0 s) (w_cls g a (va_up (va_up x 7 (r1.2.1)) 8 (r1.2.2.2.1)) (va_up (va_up y 7 (r1.2.2.1)) 8 (r1.2.2.2.2))) := hD.sub [25, 26, 27, 28, 29, 30, 31, 32, 33, 34, 35, 36, 37, 38, 0, 1, 2, 3, 4, 5, 6, 7, 8, 9, 10, 11, 12, 13, 14, 15, 16, 17, 18, 19, 39, 40, 41, 42, 43, 44, 45, 46, 47, 48, 20, 21, 22, 23, 24] rfl rfl
  have hap : Apart (w_cls g a (va_up (va_up x 7 (r1.2.1)) 8 (r1.2.2.2.1)) (va_up (va_up y 7 (r1.2.2.1)) 8 (r1.2.2.2.2))) (pic_Mo g (a 11) (x 11) (y 11)) := hap.sub [25, 26, 27, 28, 29, 30, 31, 32, 33, 34, 35, 36, 37, 38, 0, 1, 2, 3, 4, 5, 6, 7, 8, 9, 10, 11, 12, 13, 14, 15, 16, 17, 18, 19, 39, 40, 41, 42, 43, 44, 45, 46, 47, 48, 20, 21, 22, 23, 24] rfl
  refine lv_pop hx hb d_LW_427 rfl ?_
  refine lv_aload_n hx hb d_LW_428 rfl (lv_at hl 2 rfl) ?_
  refine cx_I (wr := []) [0, 1, 2, 3, 4, 5, 6, 7, 8, 9, 10, 11, 12, 13, 14, 15, 16, 17, 18, 19, 20, 21, 22, 23, 24, 25, 26, 27, 28, 29, 30, 31, 32] [] rfl rfl rfl (by decide) hPm hDm hP hap.symm hS hA (va_runV (As := []) (rest := []) ⟨hx, hb, hml, hown, htb⟩ (c_Mo_normal l g F (a 11) (x 11) (y 11)  _ e2 H.size) (cw_V htb mb_Mo_normal (htb _ L_LW_67) rfl rfl ⟨Nat.le_of_ble_eq_true rfl, Nat.le_of_ble_eq_true rfl⟩) (pre_V (va_recv hK hPm (ci := 8) (q0 := 0) rfl rfl) (pre_S [0, 1, 2, 3, 4, 5, 6, 7, 8, 9, 10, 11, 12, 13, 14, 15, 16, 17, 18, 19, 20, 21, 22, 23, 24, 25, 26, 27, 28, 29, 30, 31, 32] rfl rfl hPm hDm hS hA hAA hG)) rfl rfl hl.1 rfl (lv_room (Nat.le_of_ble_eq_true rfl)) d_LW_429 ⟨Nat.le_of_succ_le hcs.1, Nat.le_trans (Nat.le_add_right _ 6) hcs.2⟩) (fun H locs hPm hDm hP hap hS => ?_)
  have hap := hap.symm
  refine lv_pop hx hb d_LW_432 rfl ?_
  refine lv_goto (tgt := 559) hx hb d_LW_433 (by decide) ?_
  refine W.widen (k := cells + 1) (n := slots + 6) (by omega) (by omega) ?_
  exact K a (va_up (va_up (va_up x 7 (r1.2.1)) 8 (r1.2.2.2.1)) 11 (r2.2.1)) (va_up (va_up (va_up y 7 (r1.2.2.1)) 8 (r1.2.2.2.2)) 11 (r2.2.2)) H locs ls (⟨hI.1, hI.2.1, hI.2.2.1, hI.2.2.2.1, hI.2.2.2.2.1, p1.1, p1.2.1, p1.2.2, hI.2.2.2.2.2.2.2.2⟩) m2 (l2.trans hL) hP hD hPm hDm hap hS hl
set_option maxHeartbeats 4000000 in
set_option maxRecDepth 100000 in
theorem lc_row {p : Program} {l : Launch} {e : Env} {s : State} {m : MethodId} {below : List Frame} {meth : Method} {c : Code} {g : Gz} {b L : Nat} {xs : Nat → Int32} {F : Nat} {MI : StI → StL → Prop} {ML : StI → Int} (hC : LC p l s m meth c g b L xs) (hF : Big F) (hMo : MoOk F MI ML) {a : Nat → Nat → Nat} {x : Nat → StI} {y : Nat → StL} {i : Int32} {cells slots : Nat} {H : Heap} {locs : List Loc} {ls : Array Slot} (hin : InR i L) (hcs : cells + 1 ≤ 601024 ∧ slots + 6 ≤ 7293034) (hI : INV x) (hM : MI (x 11) (y 11)) (hL : ML (x 11) = (x 0 2 0).toInt) (hP : va_P (gD g) vwCl (w_cls g a x y) H) (hD : va_D (A0 s) (w_cls g a x y)) (hPm : va_P (gD g) vwCl (pic_Mo g (a 11) (x 11) (y 11)) H) (hDm : va_D (A0 s) (pic_Mo g (a 11) (x 11) (y 11))) (hap : Apart (w_cls g a x y) (pic_Mo g (a 11) (x 11) (y 11))) (hS : va_S (A0 s) s.heap H locs) (hl : lv_has ls 7 (lvL b a i)) (K : Nxt p l e s m below meth c g b MI ML i (cells + 1) (slots + 6)) : W p l e room_1 s m #[Value.ref b] below meth c H locs cells slots (lw_Z below #[Value.ref b] s) (F0 m 436 ls []) := by
  obtain ⟨hx, hb, hr, hml, hown, htb, hlocks, hX, hbl, hG, hXS, hno⟩ := id hC
  have hK := hG.1
  have hA : ∀ q : Nat, s.heap.size ≤ q → A0 s q := fun _ h => h
  have hAA : ∀ q : Nat, A0 s q → A0 s q := fun _ h => h
  have hbA : ¬ A0 s b := Nat.not_le.mpr hbl
  obtain ⟨z2, hz2, hb01⟩ : ∃ z2 : Int32, z2 = (if (xs (i + 2).toNatClampNeg) = 0 then 0 else 1) ∧ (z2.toInt = 0 ∨ z2.toInt = 1) := ⟨_, rfl, by split; exact Or.inl rfl; exact Or.inr rfl⟩
  obtain ⟨r1, e1, p1⟩ := sp_MQ_row F hF (x 0) (x 7) (y 7) (xs (i + 1).toNatClampNeg) z2 hI.2.2.2.2.2.2.1
  obtain ⟨r2, e2, m2, l2⟩ := hMo.2.2.2.2.2.2.2.2.2.2.2.1 (x 11) (y 11) (xs (i + 1).toNatClampNeg) z2 hM hb01
  refine lv_aload_n hx hb d_LW_436 rfl (lv_at hl 3 rfl) ?_
  refine lv_aload_n hx hb d_LW_437 rfl (lv_at hl 4 rfl) ?_
  refine lv_iload hx hb d_LW_438 (lv_at hl 0 rfl) ?_
  refine lv_iconst (v := 1) hx hb d_LW_440 (by decide) ?_
  refine lv_iadd hx hb d_LW_441 ?_
  refine va_sld hx hb hX hbl hbA hS hin.2.1 d_LW_442 ?_
  refine lv_aload_n hx hb d_LW_443 rfl (lv_at hl 4 rfl) ?_
  refine lv_iload hx hb d_LW_444 (lv_at hl 0 rfl) ?_
  refine lv_iconst (v := 2) hx hb d_LW_446 (by decide) ?_
  refine lv_iadd hx hb d_LW_447 ?_
  refine va_sld hx hb hX hbl hbA hS hin.2.2.1 d_LW_448 ?_
  refine W.eq (g2 := F0 m 449 ls [.int (xs (i + 2).toNatClampNeg), .int (xs (i + 1).toNatClampNeg), .ref (a 0 0)]) rfl ?_
  have hgo : ∀ (Hx : Heap) (lx : List Loc), W p l e room_1 s m #[Value.ref b] below meth c Hx lx cells slots (lw_Z below #[Value.ref b] s) (F0 m 457 ls [.int z2, .int (xs (i + 1).toNatClampNeg), .ref (a 0 0)]) → W p l e room_1 s m #[Value.ref b] below meth c Hx lx cells slots (lw_Z below #[Value.ref b] s) (F0 m 449 ls [.int (xs (i + 2).toNatClampNeg), .int (xs (i + 1).toNatClampNeg), .ref (a 0 0)]) := by
    intro Hx lx kk
    refine lv_if_eq (tgt := 456) hx hb d_LW_449 (by decide) (fun c1 => ?_) (fun c1 => ?_)
    · refine lv_iconst (v := 0) hx hb d_LW_456 (by decide) ?_
      rw [hz2, if_pos c1] at kk; exact kk
    · refine lv_iconst (v := 1) hx hb d_LW_452 (by decide) ?_
      refine lv_goto (tgt := 457) hx hb d_LW_453 (by decide) ?_
      rw [hz2, if_neg c1] at kk; exact kk
  refine hgo _ _ ?_
  refine cx_Lr hP hPm hS hA (va_runV (As := [.int (xs (i + 1).toNatClampNeg), .int z2]) (rest := []) ⟨hx, hb, hml, hown, htb⟩ (c_MQ_row l g F (a 0) (a 7) (a 1 0) (a 3 0) (a 5 0) (a 9 0) (a 8 0) (x 0) (x 7) (y 7) (xs (i + 1).toNatClampNeg) z2 _ e1 H.size) (cw_V htb mb_MQ_row (htb _ L_LW_68) rfl rfl ⟨Nat.le_of_ble_eq_true rfl, Nat.le_of_ble_eq_true rfl⟩) (pre_V (va_recv hK hP (ci := 7) (q0 := 0) rfl rfl) (pre_S [0, 1, 2, 34, 35, 36, 37, 38, 39, 40, 41] rfl rfl hP hD hS hA hAA hG)) rfl rfl hl.1 rfl (lv_room (Nat.le_of_ble_eq_true rfl)) d_LW_457 ⟨Nat.le_of_succ_le hcs.1, Nat.le_trans (Nat.le_add_right _ 6) hcs.2⟩) (fun H locs hP hPm hS => ?_)
  refine lv_pop2_2 hx hb d_LW_460 rfl ?_
  refine lv_aload_n hx hb d_LW_461 rfl (lv_at hl 2 rfl) ?_
  refine lv_aload_n hx hb d_LW_462 rfl (lv_at hl 4 rfl) ?_
  refine lv_iload hx hb d_LW_463 (lv_at hl 0 rfl) ?_
  refine lv_iconst (v := 1) hx hb d_LW_465 (by decide) ?_
  refine lv_iadd hx hb d_LW_466 ?_
  refine va_sld hx hb hX hbl hbA hS hin.2.1 d_LW_467 ?_
  refine lv_aload_n hx hb d_LW_468 rfl (lv_at hl 4 rfl) ?_
  refine lv_iload hx hb d_LW_469 (lv_at hl 0 rfl) ?_
  refine lv_iconst (v := 2) hx hb d_LW_471 (by decide) ?_
  refine lv_iadd hx hb d_LW_472 ?_
  refine va_sld hx hb hX hbl hbA hS hin.2.2.1 d_LW_473 ?_
  refine W.eq (g2 := F0 m 474 ls [.int (xs (i + 2).toNatClampNeg), .int (xs (i + 1).toNatClampNeg), .ref (a 11 0)]) rfl ?_
  have hgo : ∀ (Hx : Heap) (lx : List Loc), W p l e room_1 s m #[Value.ref b] below meth c Hx lx cells slots (lw_Z below #[Value.ref b] s) (F0 m 482 ls [.int z2, .int (xs (i + 1).toNatClampNeg), .ref (a 11 0)]) → W p l e room_1 s m #[Value.ref b] below meth c Hx lx cells slots (lw_Z below #[Value.ref b] s) (F0 m 474 ls [.int (xs (i + 2).toNatClampNeg), .int (xs (i + 1).toNatClampNeg), .ref (a 11 0)]) := by
    intro Hx lx kk
    refine lv_if_eq (tgt := 481) hx hb d_LW_474 (by decide) (fun c1 => ?_) (fun c1 => ?_)
    · refine lv_iconst (v := 0) hx hb d_LW_481 (by decide) ?_
      rw [hz2, if_pos c1] at kk; exact kk
    · refine lv_iconst (v := 1) hx hb d_LW_477 (by decide) ?_
      refine lv_goto (tgt := 482) hx hb d_LW_478 (by decide) ?_
      rw [hz2, if_neg c1] at kk; exact kk
  refine hgo _ _ ?_
  refine cx_L (wr := []) [0, 1, 2, 3, 4, 5, 6, 7, 8, 9, 10, 11, 12, 13, 14, 15, 16, 17, 18, 19, 20, 21, 22, 23, 24, 25, 26, 27, 28, 29, 30, 31, 32] [] rfl rfl rfl (by decide) hPm hDm hP hap.symm hS hA (va_runV (As := [.int (xs (i + 1).toNatClampNeg), .int z2]) (rest := []) ⟨hx, hb, hml, hown, htb⟩ (c_Mo_row l g F (a 11) (x 11) (y 11) (xs (i + 1).toNatClampNeg) z2 _ e2 H.size) (cw_V htb mb_Mo_row (htb _ L_LW_72) rfl rfl ⟨Nat.le_of_ble_eq_true rfl, Nat.le_of_ble_eq_true rfl⟩) (pre_V (va_recv hK hPm (ci := 8) (q0 := 0) rfl rfl) (pre_S [0, 1, 2, 3, 4, 5, 6, 7, 8, 9, 10, 11, 12, 13, 14, 15, 16, 17, 18, 19, 20, 21, 22, 23, 24, 25, 26, 27, 28, 29, 30, 31, 32] rfl rfl hPm hDm hS hA hAA hG)) rfl rfl hl.1 rfl (lv_room (Nat.le_of_ble_eq_true rfl)) d_LW_482 ⟨Nat.le_of_succ_le hcs.1, Nat.le_trans (Nat.le_add_right _ 6) hcs.2⟩) (fun H locs hPm hDm hP hap hS => ?_)
  have hap := hap.symm
  refine lv_pop2_2 hx hb d_LW_485 rfl ?_
  refine lv_goto (tgt := 559) hx hb d_LW_486 (by decide) ?_
  refine W.widen (k := cells + 1) (n := slots + 6) (by omega) (by omega) ?_
  exact K a (va_up x 11 (r2.2.1)) (va_up y 11 (r2.2.2)) H locs ls (hI) m2 (l2.trans hL) hP hD hPm hDm hap hS hl
set_option maxHeartbeats 4000000 in
set_option maxRecDepth 100000 in
theorem lc_ask {p : Program} {l : Launch} {e : Env} {s : State} {m : MethodId} {below : List Frame} {meth : Method} {c : Code} {g : Gz} {b L : Nat} {xs : Nat → Int32} {F : Nat} {MI : StI → StL → Prop} {ML : StI → Int} (hC : LC p l s m meth c g b L xs) (hF : Big F) (hMo : MoOk F MI ML) {a : Nat → Nat → Nat} {x : Nat → StI} {y : Nat → StL} {i : Int32} {cells slots : Nat} {H : Heap} {locs : List Loc} {ls : Array Slot} (hin : InR i L) (hcs : cells + 1 ≤ 601024 ∧ slots + 6 ≤ 7293034) (hI : INV x) (hM : MI (x 11) (y 11)) (hL : ML (x 11) = (x 0 2 0).toInt) (hP : va_P (gD g) vwCl (w_cls g a x y) H) (hD : va_D (A0 s) (w_cls g a x y)) (hPm : va_P (gD g) vwCl (pic_Mo g (a 11) (x 11) (y 11)) H) (hDm : va_D (A0 s) (pic_Mo g (a 11) (x 11) (y 11))) (hap : Apart (w_cls g a x y) (pic_Mo g (a 11) (x 11) (y 11))) (hS : va_S (A0 s) s.heap H locs) (hl : lv_has ls 7 (lvL b a i)) (K : Nxt p l e s m below meth c g b MI ML i (cells + 1) (slots + 6)) : W p l e room_1 s m #[Value.ref b] below meth c H locs cells slots (lw_Z below #[Value.ref b] s) (F0 m 489 ls []) := by
  obtain ⟨hx, hb, hr, hml, hown, htb, hlocks, hX, hbl, hG, hXS, hno⟩ := id hC
  have hK := hG.1
  have hA : ∀ q : Nat, s.heap.size ≤ q → A0 s q := fun _ h => h
  have hAA : ∀ q : Nat, A0 s q → A0 s q := fun _ h => h
  have hbA : ¬ A0 s b := Nat.not_le.mpr hbl
  obtain ⟨r1, e1, p1⟩ := sp_MQ_ask F hF (x 0) (y 9) (x 1) (x 10) (y 10) (((xs (i + 1).toNatClampNeg).toInt64 <<< ((32 : Int32).toInt64 &&& 63)) ||| ((xs (i + 2).toNatClampNeg).toInt64 &&& (4294967295 : Int64))) ⟨hI.2.2.1, hI.2.2.2.2.2.2.2.2⟩
  obtain ⟨r2, e2, m2, l2⟩ := hMo.2.2.2.2.2.2.2.2.2.2.2.2.1 (x 11) (y 11) (((xs (i + 1).toNatClampNeg).toInt64 <<< ((32 : Int32).toInt64 &&& 63)) ||| ((xs (i + 2).toNatClampNeg).toInt64 &&& (4294967295 : Int64))) hM
  refine lv_aload_n hx hb d_LW_489 rfl (lv_at hl 3 rfl) ?_
  refine lv_aload_n hx hb d_LW_490 rfl (lv_at hl 4 rfl) ?_
  refine lv_iload hx hb d_LW_491 (lv_at hl 0 rfl) ?_
  refine lv_iconst (v := 1) hx hb d_LW_493 (by decide) ?_
  refine lv_iadd hx hb d_LW_494 ?_
  refine va_sld hx hb hX hbl hbA hS hin.2.1 d_LW_495 ?_
  refine lv_i2l hx hb d_LW_496 rfl ?_
  refine lv_bipush (v := 32) hx hb d_LW_497 (by decide) ?_
  refine lv_lshl hx hb d_LW_499 rfl ?_
  refine lv_aload_n hx hb d_LW_500 rfl (lv_at hl 4 rfl) ?_
  refine lv_iload hx hb d_LW_501 (lv_at hl 0 rfl) ?_
  refine lv_iconst (v := 2) hx hb d_LW_503 (by decide) ?_
  refine lv_iadd hx hb d_LW_504 ?_
  refine va_sld hx hb hX hbl hbA hS hin.2.2.1 d_LW_505 ?_
  refine lv_i2l hx hb d_LW_506 rfl ?_
  refine lv_ldc2 hx hb hown (htb _ K_LW_73) d_LW_507 ?_
  refine lv_land hx hb d_LW_510 ?_
  refine lv_lor hx hb d_LW_511 ?_
  refine cx_I (wr := (pic_Query g (a 2) (x 2)) ++ ((pic_Reader g (a 3) (a 2 0) (a 4 0) (x 3)) ++ ((pic_Span g (a 4) (x 4)) ++ ((pic_Printer g (a 5) (a 6 0) (x 5)) ++ ((pic_Pile g (a 6) 160 (x 6) (y 6)) ++ ((pic_Rows g (a 7) (a 8 0) (x 7) (y 7)) ++ ((pic_Pile g (a 8) 41 (x 8) (y 8)) ++ ([(a 12 0, .inl (g.2.2.1 3, 1, .inr (.inl (y 12 0))))])))))))) [0, 1, 2, 44, 45, 3, 4, 5, 6, 7, 8, 9, 10, 11, 12, 13, 46, 47] [14, 15, 16, 17, 18, 19, 20, 21, 22, 23, 24, 25, 26, 27, 28, 29, 30, 31, 32, 33, 34, 35, 36, 37, 38, 39, 40, 41, 42, 43, 48] rfl rfl rfl (by decide) hP hD hPm hap hS hA (va_runV (As := [.long (((xs (i + 1).toNatClampNeg).toInt64 <<< ((32 : Int32).toInt64 &&& 63)) ||| ((xs (i + 2).toNatClampNeg).toInt64 &&& (4294967295 : Int64)))]) (rest := []) ⟨hx, hb, hml, hown, htb⟩ (c_MQ_ask l g F (a 0) (a 9) (a 1) (a 10) (a 3 0) (a 5 0) (a 7 0) (x 0) (y 9) (x 1) (x 10) (y 10) (((xs (i + 1).toNatClampNeg).toInt64 <<< ((32 : Int32).toInt64 &&& 63)) ||| ((xs (i + 2).toNatClampNeg).toInt64 &&& (4294967295 : Int64))) _ e1 H.size) (cw_V htb mb_MQ_ask (htb _ L_LW_75) rfl rfl ⟨Nat.le_of_ble_eq_true rfl, Nat.le_of_ble_eq_true rfl⟩) (pre_V (va_recv hK hP (ci := 7) (q0 := 0) rfl rfl) (pre_S [0, 1, 2, 44, 45, 3, 4, 5, 6, 7, 8, 9, 10, 11, 12, 13, 46, 47] rfl rfl hP hD hS hA hAA hG)) rfl rfl hl.1 rfl (lv_room (Nat.le_of_ble_eq_true rfl)) d_LW_512 ⟨Nat.le_of_succ_le hcs.1, Nat.le_trans (Nat.le_add_right _ 6) hcs.2⟩) (fun H locs hP hD hPm hap hS => ?_)
  have hP : va_P (gD g) vwCl (w_cls g a (va_up x 10 (r1.2.2.1)) (va_up (va_up y 9 (r1.2.1)) 10 (r1.2.2.2))) H := hP.sub [31, 32, 33, 36, 37, 38, 39, 40, 41, 42, 43, 44, 45, 46, 0, 1, 2, 3, 4, 5, 6, 7, 8, 9, 10, 11, 12, 13, 14, 15, 16, 17, 18, 19, 20, 21, 22, 23, 24, 25, 26, 27, 28, 29, 34, 35, 47, 48, 30] rfl
  have hD : va_D (A0 s) (w_cls g a (va_up x 10 (r1.2.2.1)) (va_up (va_up y 9 (r1.2.1)) 10 (r1.2.2.2))) := hD.sub [31, 32, 33, 36, 37, 38, 39, 40, 41, 42, 43, 44, 45, 46, 0, 1, 2, 3, 4, 5, 6, 7, 8, 9, 10, 11, 12, 13, 14, 15, 16, 17, 18, 19, 20, 21, 22, 23, 24, 25, 26, 27, 28, 29, 34, 35, 47, 48, 30] rfl rfl
  have hap : Apart (w_cls g a (va_up x 10 (r1.2.2.1)) (va_up (va_up y 9 (r1.2.1)) 10 (r1.2.2.2))) (pic_Mo g (a 11) (x 11) (y 11)) := hap.sub [31, 32, 33, 36, 37, 38, 39, 40, 41, 42, 43, 44, 45, 46, 0, 1, 2, 3, 4, 5, 6, 7, 8, 9, 10, 11, 12, 13, 14, 15, 16, 17, 18, 19, 20, 21, 22, 23, 24, 25, 26, 27, 28, 29, 34, 35, 47, 48, 30] rfl
  refine lv_pop hx hb d_LW_515 rfl ?_
  refine lv_aload_n hx hb d_LW_516 rfl (lv_at hl 2 rfl) ?_
  refine lv_aload_n hx hb d_LW_517 rfl (lv_at hl 4 rfl) ?_
  refine lv_iload hx hb d_LW_518 (lv_at hl 0 rfl) ?_
  refine lv_iconst (v := 1) hx hb d_LW_520 (by decide) ?_
  refine lv_iadd hx hb d_LW_521 ?_
  refine va_sld hx hb hX hbl hbA hS hin.2.1 d_LW_522 ?_
  refine lv_i2l hx hb d_LW_523 rfl ?_
  refine lv_bipush (v := 32) hx hb d_LW_524 (by decide) ?_
  refine lv_lshl hx hb d_LW_526 rfl ?_
  refine lv_aload_n hx hb d_LW_527 rfl (lv_at hl 4 rfl) ?_
  refine lv_iload hx hb d_LW_528 (lv_at hl 0 rfl) ?_
  refine lv_iconst (v := 2) hx hb d_LW_530 (by decide) ?_
  refine lv_iadd hx hb d_LW_531 ?_
  refine va_sld hx hb hX hbl hbA hS hin.2.2.1 d_LW_532 ?_
  refine lv_i2l hx hb d_LW_533 rfl ?_
  refine lv_ldc2 hx hb hown (htb _ K_LW_73) d_LW_534 ?_
  refine lv_land hx hb d_LW_537 ?_
  refine lv_lor hx hb d_LW_538 ?_
  refine cx_I (wr := []) [0, 1, 2, 3, 4, 5, 6, 7, 8, 9, 10, 11, 12, 13, 14, 15, 16, 17, 18, 19, 20, 21, 22, 23, 24, 25, 26, 27, 28, 29, 30, 31, 32] [] rfl rfl rfl (by decide) hPm hDm hP hap.symm hS hA (va_runV (As := [.long (((xs (i + 1).toNatClampNeg).toInt64 <<< ((32 : Int32).toInt64 &&& 63)) ||| ((xs (i + 2).toNatClampNeg).toInt64 &&& (4294967295 : Int64)))]) (rest := []) ⟨hx, hb, hml, hown, htb⟩ (c_Mo_ask l g F (a 11) (x 11) (y 11) (((xs (i + 1).toNatClampNeg).toInt64 <<< ((32 : Int32).toInt64 &&& 63)) ||| ((xs (i + 2).toNatClampNeg).toInt64 &&& (4294967295 : Int64))) _ e2 H.size) (cw_V htb mb_Mo_ask (htb _ L_LW_79) rfl rfl ⟨Nat.le_of_ble_eq_true rfl, Nat.le_of_ble_eq_true rfl⟩) (pre_V (va_recv hK hPm (ci := 8) (q0 := 0) rfl rfl) (pre_S [0, 1, 2, 3, 4, 5, 6, 7, 8, 9, 10, 11, 12, 13, 14, 15, 16, 17, 18, 19, 20, 21, 22, 23, 24, 25, 26, 27, 28, 29, 30, 31, 32] rfl rfl hPm hDm hS hA hAA hG)) rfl rfl hl.1 rfl (lv_room (Nat.le_of_ble_eq_true rfl)) d_LW_539 ⟨Nat.le_of_succ_le hcs.1, Nat.le_trans (Nat.le_add_right _ 6) hcs.2⟩) (fun H locs hPm hDm hP hap hS => ?_)
  have hap := hap.symm
  refine lv_pop hx hb d_LW_542 rfl ?_
  refine lv_goto (tgt := 559) hx hb d_LW_543 (by decide) ?_
  refine W.widen (k := cells + 1) (n := slots + 6) (by omega) (by omega) ?_
  exact K a (va_up (va_up x 10 (r1.2.2.1)) 11 (r2.2.1)) (va_up (va_up (va_up y 9 (r1.2.1)) 10 (r1.2.2.2)) 11 (r2.2.2)) H locs ls (⟨hI.1, hI.2.1, hI.2.2.1, hI.2.2.2.1, hI.2.2.2.2.1, hI.2.2.2.2.2.1, hI.2.2.2.2.2.2.1, hI.2.2.2.2.2.2.2.1, p1.2⟩) m2 (l2.trans hL) hP hD hPm hDm hap hS hl
set_option maxHeartbeats 4000000 in
set_option maxRecDepth 100000 in
theorem lc_ways {p : Program} {l : Launch} {e : Env} {s : State} {m : MethodId} {below : List Frame} {meth : Method} {c : Code} {g : Gz} {b L : Nat} {xs : Nat → Int32} {F : Nat} {MI : StI → StL → Prop} {ML : StI → Int} (hC : LC p l s m meth c g b L xs) (hF : Big F) (hMo : MoOk F MI ML) {a : Nat → Nat → Nat} {x : Nat → StI} {y : Nat → StL} {i : Int32} {cells slots : Nat} {H : Heap} {locs : List Loc} {ls : Array Slot} (hin : InR i L) (hcs : cells + 1 ≤ 601024 ∧ slots + 6 ≤ 7293034) (hI : INV x) (hM : MI (x 11) (y 11)) (hL : ML (x 11) = (x 0 2 0).toInt) (hP : va_P (gD g) vwCl (w_cls g a x y) H) (hD : va_D (A0 s) (w_cls g a x y)) (hPm : va_P (gD g) vwCl (pic_Mo g (a 11) (x 11) (y 11)) H) (hDm : va_D (A0 s) (pic_Mo g (a 11) (x 11) (y 11))) (hap : Apart (w_cls g a x y) (pic_Mo g (a 11) (x 11) (y 11))) (hS : va_S (A0 s) s.heap H locs) (hl : lv_has ls 7 (lvL b a i)) (K : Nxt p l e s m below meth c g b MI ML i (cells + 1) (slots + 6)) : W p l e room_1 s m #[Value.ref b] below meth c H locs cells slots (lw_Z below #[Value.ref b] s) (F0 m 546 ls []) := by
  obtain ⟨hx, hb, hr, hml, hown, htb, hlocks, hX, hbl, hG, hXS, hno⟩ := id hC
  have hK := hG.1
  have hA : ∀ q : Nat, s.heap.size ≤ q → A0 s q := fun _ h => h
  have hAA : ∀ q : Nat, A0 s q → A0 s q := fun _ h => h
  have hbA : ¬ A0 s b := Nat.not_le.mpr hbl
  obtain ⟨r1, e1, p1⟩ := sp_MQ_ways F hF (x 0) (y 9) (x 1) (x 10) (y 10) ⟨hI.2.2.1, hI.2.2.2.2.2.2.2.2⟩
  obtain ⟨r2, e2, m2, l2⟩ := hMo.2.2.2.2.2.2.2.2.2.2.2.2.2 (x 11) (y 11)  hM
  refine lv_aload_n hx hb d_LW_546 rfl (lv_at hl 3 rfl) ?_
  refine cx_I (wr := (pic_Query g (a 2) (x 2)) ++ ((pic_Reader g (a 3) (a 2 0) (a 4 0) (x 3)) ++ ((pic_Span g (a 4) (x 4)) ++ ((pic_Printer g (a 5) (a 6 0) (x 5)) ++ ((pic_Pile g (a 6) 160 (x 6) (y 6)) ++ ((pic_Rows g (a 7) (a 8 0) (x 7) (y 7)) ++ ((pic_Pile g (a 8) 41 (x 8) (y 8)) ++ ([(a 12 0, .inl (g.2.2.1 3, 1, .inr (.inl (y 12 0))))])))))))) [0, 1, 2, 44, 45, 3, 4, 5, 6, 7, 8, 9, 10, 11, 12, 13, 46, 47] [14, 15, 16, 17, 18, 19, 20, 21, 22, 23, 24, 25, 26, 27, 28, 29, 30, 31, 32, 33, 34, 35, 36, 37, 38, 39, 40, 41, 42, 43, 48] rfl rfl rfl (by decide) hP hD hPm hap hS hA (va_runV (As := []) (rest := []) ⟨hx, hb, hml, hown, htb⟩ (c_MQ_ways l g F (a 0) (a 9) (a 1) (a 10) (a 3 0) (a 5 0) (a 7 0) (x 0) (y 9) (x 1) (x 10) (y 10)  _ e1 H.size) (cw_V htb mb_MQ_ways (htb _ L_LW_80) rfl rfl ⟨Nat.le_of_ble_eq_true rfl, Nat.le_of_ble_eq_true rfl⟩) (pre_V (va_recv hK hP (ci := 7) (q0 := 0) rfl rfl) (pre_S [0, 1, 2, 44, 45, 3, 4, 5, 6, 7, 8, 9, 10, 11, 12, 13, 46, 47] rfl rfl hP hD hS hA hAA hG)) rfl rfl hl.1 rfl (lv_room (Nat.le_of_ble_eq_true rfl)) d_LW_547 ⟨Nat.le_of_succ_le hcs.1, Nat.le_trans (Nat.le_add_right _ 6) hcs.2⟩) (fun H locs hP hD hPm hap hS => ?_)
  have hP : va_P (gD g) vwCl (w_cls g a (va_up x 10 (r1.2.2.1)) (va_up (va_up y 9 (r1.2.1)) 10 (r1.2.2.2))) H := hP.sub [31, 32, 33, 36, 37, 38, 39, 40, 41, 42, 43, 44, 45, 46, 0, 1, 2, 3, 4, 5, 6, 7, 8, 9, 10, 11, 12, 13, 14, 15, 16, 17, 18, 19, 20, 21, 22, 23, 24, 25, 26, 27, 28, 29, 34, 35, 47, 48, 30] rfl
  have hD : va_D (A0 s) (w_cls g a (va_up x 10 (r1.2.2.1)) (va_up (va_up y 9 (r1.2.1)) 10 (r1.2.2.2))) := hD.sub [31, 32, 33, 36, 37, 38, 39, 40, 41, 42, 43, 44, 45, 46, 0, 1, 2, 3, 4, 5, 6, 7, 8, 9, 10, 11, 12, 13, 14, 15, 16, 17, 18, 19, 20, 21, 22, 23, 24, 25, 26, 27, 28, 29, 34, 35, 47, 48, 30] rfl rfl
  have hap : Apart (w_cls g a (va_up x 10 (r1.2.2.1)) (va_up (va_up y 9 (r1.2.1)) 10 (r1.2.2.2))) (pic_Mo g (a 11) (x 11) (y 11)) := hap.sub [31, 32, 33, 36, 37, 38, 39, 40, 41, 42, 43, 44, 45, 46, 0, 1, 2, 3, 4, 5, 6, 7, 8, 9, 10, 11, 12, 13, 14, 15, 16, 17, 18, 19, 20, 21, 22, 23, 24, 25, 26, 27, 28, 29, 34, 35, 47, 48, 30] rfl
  refine lv_pop hx hb d_LW_550 rfl ?_
  refine lv_aload_n hx hb d_LW_551 rfl (lv_at hl 2 rfl) ?_
  refine cx_I (wr := []) [0, 1, 2, 3, 4, 5, 6, 7, 8, 9, 10, 11, 12, 13, 14, 15, 16, 17, 18, 19, 20, 21, 22, 23, 24, 25, 26, 27, 28, 29, 30, 31, 32] [] rfl rfl rfl (by decide) hPm hDm hP hap.symm hS hA (va_runV (As := []) (rest := []) ⟨hx, hb, hml, hown, htb⟩ (c_Mo_ways l g F (a 11) (x 11) (y 11)  _ e2 H.size) (cw_V htb mb_Mo_ways (htb _ L_LW_83) rfl rfl ⟨Nat.le_of_ble_eq_true rfl, Nat.le_of_ble_eq_true rfl⟩) (pre_V (va_recv hK hPm (ci := 8) (q0 := 0) rfl rfl) (pre_S [0, 1, 2, 3, 4, 5, 6, 7, 8, 9, 10, 11, 12, 13, 14, 15, 16, 17, 18, 19, 20, 21, 22, 23, 24, 25, 26, 27, 28, 29, 30, 31, 32] rfl rfl hPm hDm hS hA hAA hG)) rfl rfl hl.1 rfl (lv_room (Nat.le_of_ble_eq_true rfl)) d_LW_552 ⟨Nat.le_of_succ_le hcs.1, Nat.le_trans (Nat.le_add_right _ 6) hcs.2⟩) (fun H locs hPm hDm hP hap hS => ?_)
  have hap := hap.symm
  refine lv_pop hx hb d_LW_555 rfl ?_
  refine lv_goto (tgt := 559) hx hb d_LW_556 (by decide) ?_
  refine W.widen (k := cells + 1) (n := slots + 6) (by omega) (by omega) ?_
  exact K a (va_up (va_up x 10 (r1.2.2.1)) 11 (r2.2.1)) (va_up (va_up (va_up y 9 (r1.2.1)) 10 (r1.2.2.2)) 11 (r2.2.2)) H locs ls (⟨hI.1, hI.2.1, hI.2.2.1, hI.2.2.2.1, hI.2.2.2.2.1, hI.2.2.2.2.2.1, hI.2.2.2.2.2.2.1, hI.2.2.2.2.2.2.2.1, p1⟩) m2 (l2.trans hL) hP hD hPm hDm hap hS hl

