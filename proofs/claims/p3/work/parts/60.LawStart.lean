def mo0 : StI := (fun k _ => if k = 10 then -1 else if k = 12 then -1 else if k = 31 then -1 else 0)
def moL0 : StL := (fun k j => if k = 13 then (vp_updL (vp_updL (vp_updL (vp_updL (vp_updL (vp_updL (vp_updL (vp_updL (vp_updL (vp_updL (vp_updL (vp_updL (fun _ => 0) (0 : Int32).toNatClampNeg (131638 : Int64)) (1 : Int32).toNatClampNeg (555 : Int64)) (2 : Int32).toNatClampNeg (7663579796 : Int64)) (3 : Int32).toNatClampNeg (50434 : Int64)) (4 : Int32).toNatClampNeg (14614 : Int64)) (5 : Int32).toNatClampNeg (247 : Int64)) (6 : Int32).toNatClampNeg (316205 : Int64)) (7 : Int32).toNatClampNeg (412322 : Int64)) (8 : Int32).toNatClampNeg (13483830257327 : Int64)) (9 : Int32).toNatClampNeg (262 : Int64)) (10 : Int32).toNatClampNeg (80006 : Int64)) (11 : Int32).toNatClampNeg (381245 : Int64)) j else 0)
theorem apart_of {A : Nat → Prop} {ws u v : va_W} (hD : va_D A ws) (isU isV : List Nat) (hU : isU.map (fun i => ws[i]?) = u.map some) (hV : isV.map (fun i => ws[i]?) = v.map some) (hdis : ∀ i ∈ isU, i ∉ isV) : Apart u v := by
  have at' : ∀ {is : List Nat} {w : va_W}, is.map (fun i => ws[i]?) = w.map some → ∀ (k : Nat) (q : Nat × va_E), w[k]? = some q → ∃ i, i ∈ is ∧ ws[i]? = some q := by
    intro is w h k q hk
    have h1 : (is.map (fun i => ws[i]?))[k]? = some (some q) := by rw [h, List.getElem?_map, hk]; rfl
    rw [List.getElem?_map] at h1
    cases hi : is[k]? with
    | none => rw [hi] at h1; cases h1
    | some i => rw [hi] at h1; exact ⟨i, List.mem_of_getElem? hi, Option.some.inj h1⟩
  intro i j p q hi hj e
  obtain ⟨i1, m1, e1⟩ := at' hU i p hi
  obtain ⟨j1, m2, e2⟩ := at' hV j q hj
  have h := hD.1 i1 j1 p q e1 e2 e
  subst h
  exact hdis i1 m1 m2
theorem inv0 {x : Nat → StI} (h0 : x 0 = fun _ _ => 0) (h1 : x 1 = fun _ _ => 0) (h5 : x 5 = fun _ _ => 0) (h6 : x 6 = fun _ _ => 0) (h7 : x 7 = fun _ _ => 0) (h8 : x 8 = fun _ _ => 0) (h10 : x 10 = fun _ _ => 0) : INV x := by
  have z := ilit (0 : Int32) 0 rfl
  unfold INV
  rw [h0, h1, h5, h6, h7, h8, h10]
  refine ⟨⟨fun _ => rfl, fun _ => rfl⟩, ?_, ?_, ?_, ?_, fun _ => ?_, ?_, ?_, ?_⟩ <;> (try dsimp only) <;> omega
set_option maxHeartbeats 8000000 in
set_option maxRecDepth 100000 in
theorem whole_open {p : Program} {e : Env} {s : State} {m : MethodId} {below : List Frame} {meth : Method} {c : Code} (l : Launch) (hno : l.stackTraces = false) {F : Nat} (hF : Big F) {MI : StI → StL → Prop} {ML : StI → Int} (hMo : MoOk F MI ML) (hM0 : MI mo0 moL0) (hL0 : ML mo0 = 0) {b L : Nat} {xs : Nat → Int32} (hL : L ≤ 3072) (C0 : lw_At p s m meth c b L xs) : W p l e room_1 s m #[Value.ref b] below meth c s.heap [] 0 0 (lw_Z below #[Value.ref b] s) (entryFrame m ([Value.ref b] : List Value).toArray 7) := by
  obtain ⟨hx, hb, hr, hml, hown, hts, hX, hbl, hlocks, hgv⟩ := id C0
  have htb := TBL_all hts
  have hA : ∀ q : Nat, s.heap.size ≤ q → A0 s q := fun _ h => h
  have hAA : ∀ q : Nat, A0 s q → A0 s q := fun _ h => h
  have hbA : ¬ A0 s b := Nat.not_le.mpr hbl
  have hs : ∀ w ∈ flat0, w.before #[Value.ref b] s = true := flat_of_before nar0 hgv
  have hnA : ∀ a : Nat, a < s.heap.size → ¬ A0 s a := fun a h => Nat.not_le.mpr h
  obtain ⟨g, hG⟩ := start_G (A := A0 s) hts hs hnA
  have hXS := start_X (A := A0 s) hts hs hnA
  have hC : LC p l s m meth c g b L xs := ⟨hx, hb, hr, hml, hown, htb, hlocks, hX, hbl, hG, hXS, hno⟩
  have hK := hG.1
  have hS : va_S (A0 s) s.heap s.heap [] := va_S.rf
  have hP : va_P (gD g) vwCl [] s.heap := fun k q h => by simp at h
  have hD : va_D (A0 s) [] := ⟨fun i j p q h => by simp at h, fun k q h => by simp at h⟩
  have hl := lv_entry ([.ref b]) (n := 7) (Nat.le_of_ble_eq_true rfl)
  rw [lg_entry_eq]
  generalize (lg_sl ([.ref b]) ++ List.replicate (7 - (lg_sl ([.ref b])).length) Slot.unset).toArray = ls at hl ⊢
  have hl : lv_has ls 7 [(0, .ref b)] := hl
  refine va_new (ci := 7) (fs := [.null, .null, .int 0, .null, .null, .null, .null, .null]) (C := R_MQ) (T := T_MQ) (N := 8) hx hb htb in_MQ ty_MQ ty_MQ_ok hown (htb _ L_LW_8) (htb _ IN_MQ) (htb _ I_MQ) hK hP hD hS hA rfl (fun j hj => by rcases (show j = 0 ∨ j = 1 ∨ j = 2 ∨ j = 3 ∨ j = 4 ∨ j = 5 ∨ j = 6 ∨ j = 7 by omega) with rfl | rfl | rfl | rfl | rfl | rfl | rfl | rfl <;> rfl) (Nat.le_of_ble_eq_true rfl) (Nat.le_of_ble_eq_true rfl) d_LW_0 (fun q0 H hP hD hS => ?_)
  refine lv_dup hx hb d_LW_3 rfl ?_
  refine cl_N (wr := []) [0] [] rfl rfl rfl (by decide) hP hD hS hA (va_runI (As := []) (rest := [.ref q0]) ⟨hx, hb, hml, hown, htb⟩ (c_MQ_init l g q0 H.size) (cw_I htb mb_MQ_init (htb _ L_LW_15) rfl rfl ⟨Nat.le_of_ble_eq_true rfl, Nat.le_of_ble_eq_true rfl⟩) (pre_S [0] rfl rfl hP hD hS hA hAA hG) rfl rfl hl.1 rfl (lv_room (Nat.le_of_ble_eq_true rfl)) d_LW_4 ⟨Nat.le_of_ble_eq_true rfl, Nat.le_of_ble_eq_true rfl⟩) (fun w1 H2 locs2 hw hP2 hD2 hS2 => ?_)
  obtain ⟨a_t, a4, a8, a6, a9, a11, a12, a14, a15, a17, a18, h00, rfl⟩ := hw
  subst h00
  have hP3 : va_P (gD g) vwCl ((pic_MQ g a_t (a4 0) (a8 0) (a11 0) (a14 0) (a17 0) (fun _ _ => 0)) ++ ((pic_Query g a4 (fun _ _ => 0)) ++ ((pic_Query g a6 (fun _ _ => 0)) ++ ((pic_Reader g a8 (a6 0) (a9 0) (fun k _ => if k = 3 then -1 else if k = 4 then 1 else 0)) ++ ((pic_Span g a9 (fun _ _ => 0)) ++ ((pic_Printer g a11 (a12 0) (fun _ _ => 0)) ++ ((pic_Pile g a12 160 (fun _ _ => 0) (fun _ _ => 0)) ++ ((pic_Rows g a14 (a15 0) (fun _ _ => 0) (fun _ _ => 0)) ++ ((pic_Pile g a15 41 (fun _ _ => 0) (fun _ _ => 0)) ++ ((pic_Judge g a17 (a18 0) (fun _ _ => 0)) ++ ((pic_Pile g a18 40 (fun _ _ => 0) (fun _ _ => 0))))))))))))) H2 := hP2.sub [0, 1, 2, 3, 4, 5, 6, 7, 8, 9, 10, 11, 12, 13, 18, 19, 20, 21, 22, 23, 24, 25, 26, 27, 28, 14, 15, 16, 17, 29, 30, 31, 32, 33, 34, 35, 36, 37, 38, 39, 40, 41, 42, 43, 44, 45, 46, 47] rfl
  have hD3 : va_D (A0 s) ((pic_MQ g a_t (a4 0) (a8 0) (a11 0) (a14 0) (a17 0) (fun _ _ => 0)) ++ ((pic_Query g a4 (fun _ _ => 0)) ++ ((pic_Query g a6 (fun _ _ => 0)) ++ ((pic_Reader g a8 (a6 0) (a9 0) (fun k _ => if k = 3 then -1 else if k = 4 then 1 else 0)) ++ ((pic_Span g a9 (fun _ _ => 0)) ++ ((pic_Printer g a11 (a12 0) (fun _ _ => 0)) ++ ((pic_Pile g a12 160 (fun _ _ => 0) (fun _ _ => 0)) ++ ((pic_Rows g a14 (a15 0) (fun _ _ => 0) (fun _ _ => 0)) ++ ((pic_Pile g a15 41 (fun _ _ => 0) (fun _ _ => 0)) ++ ((pic_Judge g a17 (a18 0) (fun _ _ => 0)) ++ ((pic_Pile g a18 40 (fun _ _ => 0) (fun _ _ => 0))))))))))))) := hD2.sub [0, 1, 2, 3, 4, 5, 6, 7, 8, 9, 10, 11, 12, 13, 18, 19, 20, 21, 22, 23, 24, 25, 26, 27, 28, 14, 15, 16, 17, 29, 30, 31, 32, 33, 34, 35, 36, 37, 38, 39, 40, 41, 42, 43, 44, 45, 46, 47] rfl rfl
  refine lv_astore_n (lv' := [(1, .ref (a_t 0)), (0, .ref b)]) hx hb d_LW_7 rfl hl (by decide) rfl (fun ls hl => ?_)
  refine va_new (ci := 8) (fs := [.int 0, .null, .null, .int 0, .null, .null, .int 0, .int 0, .int 0, .int 0, .int 0, .int 0, .int 0, .null, .int 0, .int 0, .int 0, .int 0, .int 0, .int 0, .int 0, .int 0, .null, .null, .null, .null, .null, .null, .null, .null, .int 0, .int 0, .null, .null, .null, .int 0, .int 0, .int 0, .null, .null, .int 0, .null, .null, .null, .int 0, .null, .int 0, .null, .int 0, .null, .null, .int 0, .int 0, .null, .null, .null, .int 0, .long 0, .int 0, .int 0, .null, .null, .null, .null]) (C := R_Mo) (T := T_Mo) (N := 64) hx hb htb in_Mo ty_Mo ty_Mo_ok hown (htb _ L_LW_16) (htb _ IN_Mo) (htb _ I_Mo) hK hP3 hD3 hS2 hA rfl (fun j hj => by rcases (show j = 0 ∨ j = 1 ∨ j = 2 ∨ j = 3 ∨ j = 4 ∨ j = 5 ∨ j = 6 ∨ j = 7 ∨ j = 8 ∨ j = 9 ∨ j = 10 ∨ j = 11 ∨ j = 12 ∨ j = 13 ∨ j = 14 ∨ j = 15 ∨ j = 16 ∨ j = 17 ∨ j = 18 ∨ j = 19 ∨ j = 20 ∨ j = 21 ∨ j = 22 ∨ j = 23 ∨ j = 24 ∨ j = 25 ∨ j = 26 ∨ j = 27 ∨ j = 28 ∨ j = 29 ∨ j = 30 ∨ j = 31 ∨ j = 32 ∨ j = 33 ∨ j = 34 ∨ j = 35 ∨ j = 36 ∨ j = 37 ∨ j = 38 ∨ j = 39 ∨ j = 40 ∨ j = 41 ∨ j = 42 ∨ j = 43 ∨ j = 44 ∨ j = 45 ∨ j = 46 ∨ j = 47 ∨ j = 48 ∨ j = 49 ∨ j = 50 ∨ j = 51 ∨ j = 52 ∨ j = 53 ∨ j = 54 ∨ j = 55 ∨ j = 56 ∨ j = 57 ∨ j = 58 ∨ j = 59 ∨ j = 60 ∨ j = 61 ∨ j = 62 ∨ j = 63 by omega) with rfl | rfl | rfl | rfl | rfl | rfl | rfl | rfl | rfl | rfl | rfl | rfl | rfl | rfl | rfl | rfl | rfl | rfl | rfl | rfl | rfl | rfl | rfl | rfl | rfl | rfl | rfl | rfl | rfl | rfl | rfl | rfl | rfl | rfl | rfl | rfl | rfl | rfl | rfl | rfl | rfl | rfl | rfl | rfl | rfl | rfl | rfl | rfl | rfl | rfl | rfl | rfl | rfl | rfl | rfl | rfl | rfl | rfl | rfl | rfl | rfl | rfl | rfl | rfl <;> rfl) (Nat.le_of_ble_eq_true rfl) (Nat.le_of_ble_eq_true rfl) d_LW_8 (fun q1 H4 hP4 hD4 hS4 => ?_)
  refine lv_dup hx hb d_LW_11 rfl ?_
  refine cl_N (wr := (pic_MQ g a_t (a4 0) (a8 0) (a11 0) (a14 0) (a17 0) (fun _ _ => 0)) ++ ((pic_Query g a4 (fun _ _ => 0)) ++ ((pic_Query g a6 (fun _ _ => 0)) ++ ((pic_Reader g a8 (a6 0) (a9 0) (fun k _ => if k = 3 then -1 else if k = 4 then 1 else 0)) ++ ((pic_Span g a9 (fun _ _ => 0)) ++ ((pic_Printer g a11 (a12 0) (fun _ _ => 0)) ++ ((pic_Pile g a12 160 (fun _ _ => 0) (fun _ _ => 0)) ++ ((pic_Rows g a14 (a15 0) (fun _ _ => 0) (fun _ _ => 0)) ++ ((pic_Pile g a15 41 (fun _ _ => 0) (fun _ _ => 0)) ++ ((pic_Judge g a17 (a18 0) (fun _ _ => 0)) ++ ((pic_Pile g a18 40 (fun _ _ => 0) (fun _ _ => 0))))))))))))) [48] [0, 1, 2, 3, 4, 5, 6, 7, 8, 9, 10, 11, 12, 13, 14, 15, 16, 17, 18, 19, 20, 21, 22, 23, 24, 25, 26, 27, 28, 29, 30, 31, 32, 33, 34, 35, 36, 37, 38, 39, 40, 41, 42, 43, 44, 45, 46, 47] rfl rfl rfl (by decide) hP4 hD4 hS4 hA (va_runI (As := []) (rest := [.ref q1]) ⟨hx, hb, hml, hown, htb⟩ (c_Mo_init l g q1 H4.size) (cw_I htb mb_Mo_init (htb _ L_LW_18) rfl rfl ⟨Nat.le_of_ble_eq_true rfl, Nat.le_of_ble_eq_true rfl⟩) (pre_S [48] rfl rfl hP4 hD4 hS4 hA hAA hG) rfl rfl hl.1 rfl (lv_room (Nat.le_of_ble_eq_true rfl)) d_LW_12 ⟨Nat.le_of_ble_eq_true rfl, Nat.le_of_ble_eq_true rfl⟩) (fun w1 H5 locs5 hw hP5 hD5 hS5 => ?_)
  obtain ⟨am, h01, rfl⟩ := hw
  subst h01
  refine lv_astore_n (lv' := [(2, .ref (am 0)), (1, .ref (a_t 0)), (0, .ref b)]) hx hb d_LW_15 rfl hl (by decide) rfl (fun ls hl => ?_)
  refine lv_iconst (v := 1) hx hb d_LW_16 (by decide) ?_
  refine new_a (atype := .long) (ty := .long) (nm := "[J") (t0 := 3) (N' := 1) (a0 := (1, .inr (.inl (fun _ => 0)))) hx hb (htb _ AC_long) rfl (fun _ h => h) hG rfl hP5 hD5 hS5 hA (fun cA => rfl) (by decide) rfl (Nat.le_of_ble_eq_true rfl) (Nat.le_of_ble_eq_true rfl) (Nat.le_of_ble_eq_true rfl) d_LW_17 (fun qo H6 hP6 hD6 hS6 => ?_)
  refine lv_astore_n (lv' := [(3, .ref qo), (2, .ref (am 0)), (1, .ref (a_t 0)), (0, .ref b)]) hx hb d_LW_19 rfl hl (by decide) rfl (fun ls hl => ?_)
  refine lv_iconst (v := 0) hx hb d_LW_20 (by decide) ?_
  refine lv_istore (lv' := [(4, .int 0), (3, .ref qo), (2, .ref (am 0)), (1, .ref (a_t 0)), (0, .ref b)]) hx hb d_LW_21 hl (by decide) rfl (fun ls hl => ?_)
  have z0 := ilit (0 : Int32) 0 rfl
  refine law_loop hC hF hMo hL 513 (fun n => [a_t, a4, a6, a8, a9, a11, a12, a14, a15, a17, a18, am, (fun _ => qo)].getD n (fun _ => 0)) (fun n => [(fun _ _ => 0), (fun _ _ => 0), (fun _ _ => 0), (fun k _ => if k = 3 then -1 else if k = 4 then 1 else 0), (fun _ _ => 0), (fun _ _ => 0), (fun _ _ => 0), (fun _ _ => 0), (fun _ _ => 0), (fun _ _ => 0), (fun _ _ => 0), mo0].getD n (fun _ _ => 0)) (fun n => if n = 11 then moL0 else (fun _ _ => 0)) 0 _ _ H6 locs5 ls (inv0 rfl rfl rfl rfl rfl rfl rfl) hM0 (hL0.trans z0.symm) (by omega) (by omega) (by omega) (Nat.le_of_ble_eq_true rfl) (Nat.le_of_ble_eq_true rfl) (hP6.sub [0, 1, 2, 3, 4, 5, 6, 7, 8, 9, 10, 11, 12, 13, 14, 15, 16, 17, 18, 19, 20, 21, 22, 23, 24, 25, 26, 27, 28, 29, 30, 31, 32, 33, 34, 35, 36, 37, 38, 39, 40, 41, 42, 43, 44, 45, 46, 47, 81] rfl) (hD6.sub [0, 1, 2, 3, 4, 5, 6, 7, 8, 9, 10, 11, 12, 13, 14, 15, 16, 17, 18, 19, 20, 21, 22, 23, 24, 25, 26, 27, 28, 29, 30, 31, 32, 33, 34, 35, 36, 37, 38, 39, 40, 41, 42, 43, 44, 45, 46, 47, 81] rfl rfl) (hP6.sub [48, 49, 50, 51, 52, 53, 54, 55, 56, 57, 58, 59, 60, 61, 62, 63, 64, 65, 66, 67, 68, 69, 70, 71, 72, 73, 74, 75, 76, 77, 78, 79, 80] rfl) (hD6.sub [48, 49, 50, 51, 52, 53, 54, 55, 56, 57, 58, 59, 60, 61, 62, 63, 64, 65, 66, 67, 68, 69, 70, 71, 72, 73, 74, 75, 76, 77, 78, 79, 80] rfl rfl) (apart_of hD6 [0, 1, 2, 3, 4, 5, 6, 7, 8, 9, 10, 11, 12, 13, 14, 15, 16, 17, 18, 19, 20, 21, 22, 23, 24, 25, 26, 27, 28, 29, 30, 31, 32, 33, 34, 35, 36, 37, 38, 39, 40, 41, 42, 43, 44, 45, 46, 47, 81] [48, 49, 50, 51, 52, 53, 54, 55, 56, 57, 58, 59, 60, 61, 62, 63, 64, 65, 66, 67, 68, 69, 70, 71, 72, 73, 74, 75, 76, 77, 78, 79, 80] rfl rfl (by decide)) hS6 hl

