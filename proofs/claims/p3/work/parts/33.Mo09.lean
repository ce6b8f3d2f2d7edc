set_option maxRecDepth 100000 in
theorem W_Mo_ways_code : (Jvm.Cond.code ({ cls := "MailQueriesModel", name := "ways", desc := "()I" } : Jvm.MethodName) prog_10_method_74_code (4 : Nat) (Option.some Jvm.ClassFile.FieldType.int)) ∈ TBL := TBL_in (List.mem_of_getElem? (i := 1458) rfl) rfl
theorem W_Mo_ways_in : (Jvm.Cond.instanceMethod ({ cls := "MailQueriesModel", name := "ways", desc := "()I" } : Jvm.MethodName)) ∈ TBL := TBL_in (List.mem_of_getElem? (i := 1456) (by decide +kernel)) (by decide +kernel)
theorem W_Mo_ways_se : (Jvm.Cond.selects "MailQueriesModel" ({ cls := "MailQueriesModel", name := "ways", desc := "()I" } : Jvm.MethodName) ({ cls := "MailQueriesModel", name := "ways", desc := "()I" } : Jvm.MethodName)) ∈ TBL := TBL_in (List.mem_of_getElem? (i := 1457) (by decide +kernel)) (by decide +kernel)
def y_Mo_ways : MethodName := ⟨"MailQueriesModel", "ways", "()I"⟩
def rm_Mo_ways : Room := { frames := 1, cells := 0, slots := 0, locals := 23 }
theorem d_Mo_ways_0 : decode prog_10_method_74_code 0 = .ok (.aload_n 0, 1) := by decide +kernel
theorem d_Mo_ways_1 : decode prog_10_method_74_code 1 = .ok (.iconst 0, 1) := by decide +kernel
theorem d_Mo_ways_2 : decode prog_10_method_74_code 2 = .ok (.putfield 144, 3) := by decide +kernel
theorem d_Mo_ways_5 : decode prog_10_method_74_code 5 = .ok (.aload_n 0, 1) := by decide +kernel
theorem d_Mo_ways_6 : decode prog_10_method_74_code 6 = .ok (.getfield 302, 3) := by decide +kernel
theorem d_Mo_ways_9 : decode prog_10_method_74_code 9 = .ok (.bipush 12, 2) := by decide +kernel
theorem d_Mo_ways_11 : decode prog_10_method_74_code 11 = .ok (.if_icmp .le 5, 3) := by decide +kernel
theorem d_Mo_ways_14 : decode prog_10_method_74_code 14 = .ok (.iconst (-1), 1) := by decide +kernel
theorem d_Mo_ways_15 : decode prog_10_method_74_code 15 = .ok (.ireturn, 1) := by decide +kernel
theorem d_Mo_ways_16 : decode prog_10_method_74_code 16 = .ok (.iconst 0, 1) := by decide +kernel
theorem d_Mo_ways_17 : decode prog_10_method_74_code 17 = .ok (.istore_n 1, 1) := by decide +kernel
theorem d_Mo_ways_18 : decode prog_10_method_74_code 18 = .ok (.lconst 0, 1) := by decide +kernel
theorem d_Mo_ways_19 : decode prog_10_method_74_code 19 = .ok (.lstore_n 2, 1) := by decide +kernel
theorem d_Mo_ways_20 : decode prog_10_method_74_code 20 = .ok (.lload_n 2, 1) := by decide +kernel
theorem d_Mo_ways_21 : decode prog_10_method_74_code 21 = .ok (.lconst 1, 1) := by decide +kernel
theorem d_Mo_ways_22 : decode prog_10_method_74_code 22 = .ok (.aload_n 0, 1) := by decide +kernel
theorem d_Mo_ways_23 : decode prog_10_method_74_code 23 = .ok (.getfield 302, 3) := by decide +kernel
theorem d_Mo_ways_26 : decode prog_10_method_74_code 26 = .ok (.lshl, 1) := by decide +kernel
theorem d_Mo_ways_27 : decode prog_10_method_74_code 27 = .ok (.lcmp, 1) := by decide +kernel
theorem d_Mo_ways_28 : decode prog_10_method_74_code 28 = .ok (.ifCond .ge 26, 3) := by decide +kernel
theorem d_Mo_ways_31 : decode prog_10_method_74_code 31 = .ok (.iload_n 1, 1) := by decide +kernel
theorem d_Mo_ways_32 : decode prog_10_method_74_code 32 = .ok (.aload_n 0, 1) := by decide +kernel
theorem d_Mo_ways_33 : decode prog_10_method_74_code 33 = .ok (.lload_n 2, 1) := by decide +kernel
theorem d_Mo_ways_34 : decode prog_10_method_74_code 34 = .ok (.invokevirtual 451, 3) := by decide +kernel
theorem d_Mo_ways_37 : decode prog_10_method_74_code 37 = .ok (.ifCond .eq 7, 3) := by decide +kernel
theorem d_Mo_ways_40 : decode prog_10_method_74_code 40 = .ok (.iconst 1, 1) := by decide +kernel
theorem d_Mo_ways_41 : decode prog_10_method_74_code 41 = .ok (.goto 4, 3) := by decide +kernel
theorem d_Mo_ways_44 : decode prog_10_method_74_code 44 = .ok (.iconst 0, 1) := by decide +kernel
theorem d_Mo_ways_45 : decode prog_10_method_74_code 45 = .ok (.iadd, 1) := by decide +kernel
theorem d_Mo_ways_46 : decode prog_10_method_74_code 46 = .ok (.istore_n 1, 1) := by decide +kernel
theorem d_Mo_ways_47 : decode prog_10_method_74_code 47 = .ok (.lload_n 2, 1) := by decide +kernel
theorem d_Mo_ways_48 : decode prog_10_method_74_code 48 = .ok (.lconst 1, 1) := by decide +kernel
theorem d_Mo_ways_49 : decode prog_10_method_74_code 49 = .ok (.ladd, 1) := by decide +kernel
theorem d_Mo_ways_50 : decode prog_10_method_74_code 50 = .ok (.lstore_n 2, 1) := by decide +kernel
theorem d_Mo_ways_51 : decode prog_10_method_74_code 51 = .ok (.goto (-31), 3) := by decide +kernel
theorem d_Mo_ways_54 : decode prog_10_method_74_code 54 = .ok (.iload_n 1, 1) := by decide +kernel
theorem d_Mo_ways_55 : decode prog_10_method_74_code 55 = .ok (.ireturn, 1) := by decide +kernel
theorem mb_Mo_ways : Mb y_Mo_ways prog_10_method_74_code 4 (some .int) 0 := ⟨W_Mo_ways_code, W_Mo_ways_in, W_Mo_ways_se, I_Mo, by decide +kernel, by decide +kernel, by decide +kernel⟩
def Mo_ways_45 (F : Nat) (k20 : StI → StL → Int32 → Int64 → Option (Int32 × StI × StL)) (t : StI) (tL : StL) (x2 : Int64) (y0 : Int32) (y1 : Int32) : Option (Int32 × StI × StL) := k20 t tL (y1 + y0) (x2 + (1 : Int64))
def Mo_ways_20 (F : Nat) : Nat → StI → StL → Int32 → Int64 → Option (Int32 × StI × StL)
  | 0, _, _, _, _ => none
  | n + 1, t, tL, x1, x2 => if 0 ≤ (lg_cmp x2 ((1 : Int64) <<< ((t 20 0).toInt64 &&& 63))) then some (x1, t, tL) else (Mo_answers F t tL x2).bind fun r7 => if r7.1 = 0 then Mo_ways_45 F (Mo_ways_20 F n) r7.2.1 r7.2.2 x2 (0 : Int32) x1 else Mo_ways_45 F (Mo_ways_20 F n) r7.2.1 r7.2.2 x2 (1 : Int32) x1
def Mo_ways (F : Nat) (t : StI) (tL : StL) : Option (Int32 × StI × StL) := letS (va_up t 0 (fun _ => (0 : Int32))) fun t_9 => if (t_9 20 0) ≤ (12 : Int32) then Mo_ways_20 F F t_9 tL (0 : Int32) (0 : Int64) else some ((-1 : Int32), t_9, tL)
set_option maxHeartbeats 4000000 in
set_option maxRecDepth 100000 in
theorem k_Mo_ways_45 {p : Program} {l : Launch} {e : Env} {s : State} {m : MethodId} {args : Array Value} {below : List Frame} {meth : Method} {c : Code} {g : Gz} {A : Nat → Prop} {F : Nat} {a_t : Nat → Nat} {k20 : StI → StL → Int32 → Int64 → Option (Int32 × StI × StL)} (hC : Cx prog_10_method_74_code 4 (some .int) R_Mo p s m args meth c g A A) : ∀ (t : StI) (tL : StL) (x2 : Int64) (y0 : Int32) (y1 : Int32) (res : Int32 × StI × StL), Mo_ways_45 F k20 t tL x2 y0 y1 = some res → (∀ (t : StI) (tL : StL) (x1 : Int32) (x2 : Int64), k20 t tL x1 x2 = some res → Go p l e rm_Mo_ways s m args below meth c g A A 4 (MQ below (EI g ((pic_Mo g a_t res.2.1 res.2.2)) res.1 A) args s 0 0 A) ((pic_Mo g a_t t tL)) [(0, .ref (a_t 0)), (1, .int x1), (2, .long x2)] 20 []) → Go p l e rm_Mo_ways s m args below meth c g A A 4 (MQ below (EI g ((pic_Mo g a_t res.2.1 res.2.2)) res.1 A) args s 0 0 A) ((pic_Mo g a_t t tL)) [(0, .ref (a_t 0)), (2, .long x2)] 45 [.int y0, .int y1] := by
  obtain ⟨hx, hb, hr, hml, hown, htb, hlocks, hA, hAA, hG⟩ := id hC
  have hK := hG.1
  intro t tL x2 y0 y1 res h hk20 H locs ls hP hD hS hl
  rw [Mo_ways_45] at h
  refine lv_iadd hx hb d_Mo_ways_45 ?_
  refine lv_istore_n (lv' := [(1, .int (y1 + y0)), (0, .ref (a_t 0)), (2, .long x2)]) hx hb d_Mo_ways_46 rfl hl (by decide) rfl (fun ls hl => ?_)
  refine lv_lload_n hx hb d_Mo_ways_47 rfl (lv_at hl 2 rfl) ?_
  refine lv_lconst (v := 1) hx hb d_Mo_ways_48 (by decide) ?_
  refine lv_ladd hx hb d_Mo_ways_49 ?_
  refine lv_lstore_n (lv' := [(2, .long (x2 + (1 : Int64))), (1, .int (y1 + y0)), (0, .ref (a_t 0))]) hx hb d_Mo_ways_50 rfl hl (by decide) rfl (fun ls hl => ?_)
  refine lv_goto (tgt := 20) hx hb d_Mo_ways_51 (by decide) ?_
  exact hk20 _ _ _ _ h _ _ _ hP hD hS (lv_sub hl [2, 1, 0] rfl)
set_option maxHeartbeats 4000000 in
set_option maxRecDepth 100000 in
theorem k_Mo_ways_20 {p : Program} {l : Launch} {e : Env} {s : State} {m : MethodId} {args : Array Value} {below : List Frame} {meth : Method} {c : Code} {g : Gz} {A : Nat → Prop} {F : Nat} {a_t : Nat → Nat} (hC : Cx prog_10_method_74_code 4 (some .int) R_Mo p s m args meth c g A A) : ∀ (n : Nat) (t : StI) (tL : StL) (x1 : Int32) (x2 : Int64) (res : Int32 × StI × StL), Mo_ways_20 F n t tL x1 x2 = some res → Go p l e rm_Mo_ways s m args below meth c g A A 4 (MQ below (EI g ((pic_Mo g a_t res.2.1 res.2.2)) res.1 A) args s 0 0 A) ((pic_Mo g a_t t tL)) [(0, .ref (a_t 0)), (1, .int x1), (2, .long x2)] 20 [] := by
  obtain ⟨hx, hb, hr, hml, hown, htb, hlocks, hA, hAA, hG⟩ := id hC
  have hK := hG.1
  intro n
  induction n with
  | zero => intro t tL x1 x2 res h; rw [Mo_ways_20] at h; cases h
  | succ n ih =>
    intro t tL x1 x2 res h H locs ls hP hD hS hl
    rw [Mo_ways_20] at h
    refine lv_lload_n hx hb d_Mo_ways_20 rfl (lv_at hl 2 rfl) ?_
    refine lv_lconst (v := 1) hx hb d_Mo_ways_21 (by decide) ?_
    refine lv_aload_n hx hb d_Mo_ways_22 rfl (lv_at hl 0 rfl) ?_
    refine va_get (D := gD g) (ci := 8) (v := .int (t 20 0)) (C := R_Mo) (T := T_Mo) (N := 64) hx hb htb in_Mo hown hK hP 0 rfl rfl 20 (by decide) (htb _ L_Mo_302) (fun _ h9 => h9) rfl d_Mo_ways_23 ?_
    refine lv_lshl hx hb d_Mo_ways_26 rfl ?_
    refine W.lcmp hx hb d_Mo_ways_27 ?_
    refine lv_if_ge (tgt := 54) hx hb d_Mo_ways_28 (by decide) (fun c6 => ?_) (fun c6 => ?_)
    · replace h := (if_pos c6).symm.trans h
      refine lv_iload_n hx hb d_Mo_ways_54 rfl (lv_at hl 1 rfl) ?_
      cases h
      exact W.iret hx hb hr (fun t ht hW => ⟨⟨_, (), rfl, rfl, by rw [ht]; exact hP, hD⟩, hS.F ht⟩) hS.2.2 d_Mo_ways_55
    · replace h := (if_neg c6).symm.trans h
      refine lv_iload_n hx hb d_Mo_ways_31 rfl (lv_at hl 1 rfl) ?_
      refine lv_aload_n hx hb d_Mo_ways_32 rfl (lv_at hl 0 rfl) ?_
      refine lv_lload_n hx hb d_Mo_ways_33 rfl (lv_at hl 2 rfl) ?_
      obtain ⟨r7, hr7, h⟩ := Option.bind_eq_some_iff.mp h
      refine cl_I (wr := []) [0, 1, 2, 3, 4, 5, 6, 7, 8, 9, 10, 11, 12, 13, 14, 15, 16, 17, 18, 19, 20, 21, 22, 23, 24, 25, 26, 27, 28, 29, 30, 31, 32] [] rfl rfl rfl (by decide) hP hD hS hA (va_runV (As := [.long x2]) (rest := [.int x1]) ⟨hx, hb, hml, hown, htb⟩ (c_Mo_answers l g F a_t t tL x2 _ hr7 H.size) (cw_V htb mb_Mo_answers (htb _ L_Mo_451) rfl rfl ⟨Nat.le_of_ble_eq_true rfl, Nat.le_of_ble_eq_true rfl⟩) (pre_V (va_recv hK hP (ci := 8) (q0 := 0) rfl rfl) (pre_S [0, 1, 2, 3, 4, 5, 6, 7, 8, 9, 10, 11, 12, 13, 14, 15, 16, 17, 18, 19, 20, 21, 22, 23, 24, 25, 26, 27, 28, 29, 30, 31, 32] rfl rfl hP hD hS hA hAA hG)) rfl rfl hl.1 rfl (lv_room (Nat.le_of_ble_eq_true rfl)) d_Mo_ways_34 ⟨Nat.zero_le _, Nat.zero_le _⟩) (fun H locs hP hD hS => ?_)
      have hP : va_P (gD g) vwCl ((pic_Mo g a_t r7.2.1 r7.2.2)) H := hP.sub [0, 1, 2, 3, 4, 5, 6, 7, 8, 9, 10, 11, 12, 13, 14, 15, 16, 17, 18, 19, 20, 21, 22, 23, 24, 25, 26, 27, 28, 29, 30, 31, 32] rfl
      have hD : va_D A ((pic_Mo g a_t r7.2.1 r7.2.2)) := hD.sub [0, 1, 2, 3, 4, 5, 6, 7, 8, 9, 10, 11, 12, 13, 14, 15, 16, 17, 18, 19, 20, 21, 22, 23, 24, 25, 26, 27, 28, 29, 30, 31, 32] rfl rfl
      refine lv_if_eq (tgt := 44) hx hb d_Mo_ways_37 (by decide) (fun c8 => ?_) (fun c8 => ?_)
      · replace h := (if_pos c8).symm.trans h
        refine lv_iconst (v := 0) hx hb d_Mo_ways_44 (by decide) ?_
        exact k_Mo_ways_45 hC _ _ _ _ _ _ h (fun z0 z1 z2 z3 hz => ih z0 z1 z2 z3 _ hz) _ _ _ hP hD hS (lv_sub hl [0, 2] rfl)
      · replace h := (if_neg c8).symm.trans h
        refine lv_iconst (v := 1) hx hb d_Mo_ways_40 (by decide) ?_
        refine lv_goto (tgt := 45) hx hb d_Mo_ways_41 (by decide) ?_
        exact k_Mo_ways_45 hC _ _ _ _ _ _ h (fun z0 z1 z2 z3 hz => ih z0 z1 z2 z3 _ hz) _ _ _ hP hD hS (lv_sub hl [0, 2] rfl)
set_option maxHeartbeats 4000000 in
set_option maxRecDepth 100000 in
theorem k_Mo_ways {p : Program} {l : Launch} {e : Env} {s : State} {m : MethodId} {args : Array Value} {below : List Frame} {meth : Method} {c : Code} {g : Gz} {A : Nat → Prop} {F : Nat} {a_t : Nat → Nat} (hC : Cx prog_10_method_74_code 4 (some .int) R_Mo p s m args meth c g A A) : ∀ (t : StI) (tL : StL) (res : Int32 × StI × StL), Mo_ways F t tL = some res → Go p l e rm_Mo_ways s m args below meth c g A A 4 (MQ below (EI g ((pic_Mo g a_t res.2.1 res.2.2)) res.1 A) args s 0 0 A) ((pic_Mo g a_t t tL)) [(0, .ref (a_t 0))] 0 [] := by
  obtain ⟨hx, hb, hr, hml, hown, htb, hlocks, hA, hAA, hG⟩ := id hC
  have hK := hG.1
  intro t tL res h H locs ls hP hD hS hl
  rw [Mo_ways] at h
  refine lv_aload_n hx hb d_Mo_ways_0 rfl (lv_at hl 0 rfl) ?_
  refine lv_iconst (v := 0) hx hb d_Mo_ways_1 (by decide) ?_
  refine va_put (D := gD g) (ci := 8) (v := .int (0 : Int32)) (ty := .int) (C := R_Mo) (T := T_Mo) (N := 64) hx hb htb in_Mo ty_Mo ty_Mo_ok nm_Mo hown hK hP hD hS 0 rfl rfl 0 (by decide) (htb _ L_Mo_144) (fun _ h9 => h9) rfl (by decide +kernel) rfl rfl (Nat.le_of_ble_eq_true rfl) d_Mo_ways_2 (fun H locs hP hD hS => ?_)
  obtain ⟨t_9, et_9, h⟩ := letS_el h
  have hP : va_P (gD g) vwCl ((pic_Mo g a_t t_9 tL)) H := by rw [et_9]; exact hP
  have hD : va_D A ((pic_Mo g a_t t_9 tL)) := by rw [et_9]; exact hD
  refine lv_aload_n hx hb d_Mo_ways_5 rfl (lv_at hl 0 rfl) ?_
  refine va_get (D := gD g) (ci := 8) (v := .int (t_9 20 0)) (C := R_Mo) (T := T_Mo) (N := 64) hx hb htb in_Mo hown hK hP 0 rfl rfl 20 (by decide) (htb _ L_Mo_302) (fun _ h9 => h9) rfl d_Mo_ways_6 ?_
  refine lv_bipush (v := 12) hx hb d_Mo_ways_9 (by decide) ?_
  refine lv_icmp_le (tgt := 16) hx hb d_Mo_ways_11 (by decide) (fun c10 => ?_) (fun c10 => ?_)
  · replace h := (if_pos c10).symm.trans h
    refine lv_iconst (v := 0) hx hb d_Mo_ways_16 (by decide) ?_
    refine lv_istore_n (lv' := [(1, .int (0 : Int32)), (0, .ref (a_t 0))]) hx hb d_Mo_ways_17 rfl hl (by decide) rfl (fun ls hl => ?_)
    refine lv_lconst (v := 0) hx hb d_Mo_ways_18 (by decide) ?_
    refine lv_lstore_n (lv' := [(2, .long (0 : Int64)), (1, .int (0 : Int32)), (0, .ref (a_t 0))]) hx hb d_Mo_ways_19 rfl hl (by decide) rfl (fun ls hl => ?_)
    exact k_Mo_ways_20 hC F _ _ _ _ _ h _ _ _ hP hD hS (lv_sub hl [2, 1, 0] rfl)
  · replace h := (if_neg c10).symm.trans h
    refine lv_iconst (v := -1) hx hb d_Mo_ways_14 (by decide) ?_
    cases h
    exact W.iret hx hb hr (fun t ht hW => ⟨⟨_, (), rfl, rfl, by rw [ht]; exact hP, hD⟩, hS.F ht⟩) hS.2.2 d_Mo_ways_15
theorem c_Mo_ways (l : Launch) (g : Gz) (F : Nat) (a_t : Nat → Nat) (t : StI) (tL : StL) (res : Int32 × StI × StL) (h : Mo_ways F t tL = some res) : ∀ sz : Nat, Met l y_Mo_ways (.code y_Mo_ways prog_10_method_74_code 4 (some .int) :: TBL) rm_Mo_ways (va_Pc [.ref (a_t 0)] (Pre0 g ((pic_Mo g a_t t tL)) sz)) (EI g ((pic_Mo g a_t res.2.1 res.2.2)) res.1 (va_A ((pic_Mo g a_t t tL)) sz)) 0 0 (va_A ((pic_Mo g a_t t tL)) sz) :=
  ct_w (Qc := fun A => EI g ((pic_Mo g a_t res.2.1 res.2.2)) res.1 A) (by decide) (Nat.le_of_ble_eq_true rfl) (fun p e s m args below meth c A hC => k_Mo_ways hC t tL res h)
