def Pile_clear (F : Nat) (tN : Nat) (t : StI) (tL : StL) : Option (StI × StL) := some ((va_up t 1 (fun _ => (0 : Int32))), tL)
set_option maxHeartbeats 4000000 in
set_option maxRecDepth 100000 in
theorem k_Pile_clear {p : Program} {l : Launch} {e : Env} {s : State} {m : MethodId} {args : Array Value} {below : List Frame} {meth : Method} {c : Code} {g : Gz} {A : Nat → Prop} {F : Nat} {a_t : Nat → Nat} (hC : Cx prog_3_method_2_code 1 none R_Pile p s m args meth c g A A) : ∀ (tN : Nat) (t : StI) (tL : StL) (res : StI × StL), Pile_clear F tN t tL = some res → Go p l e rm_Pile_clear s m args below meth c g A A 1 (MQ below (EV g ((pic_Pile g a_t tN res.1 res.2)) A) args s 0 0 A) ((pic_Pile g a_t tN t tL)) [(0, .ref (a_t 0))] 0 [] := by
  obtain ⟨hx, hb, hr, hml, hown, htb, hlocks, hA, hAA, hG⟩ := id hC
  have hK := hG.1
  intro tN t tL res h H locs ls hP hD hS hl
  rw [Pile_clear] at h
  refine lv_aload_n hx hb d_Pile_clear_0 rfl (lv_at hl 0 rfl) ?_
  refine lv_iconst (v := 0) hx hb d_Pile_clear_1 (by decide) ?_
  refine va_put (D := gD g) (ci := 0) (v := .int (0 : Int32)) (ty := .int) (C := R_Pile) (T := T_Pile) (N := 2) hx hb htb in_Pile ty_Pile ty_Pile_ok nm_Pile hown hK hP hD hS 0 rfl rfl 1 (by decide) (htb _ L_Pile_7) (fun _ h9 => h9) rfl (by decide +kernel) rfl rfl (Nat.le_of_ble_eq_true rfl) d_Pile_clear_2 (fun H locs hP hD hS => ?_)
  have hP : va_P (gD g) vwCl ((pic_Pile g a_t tN (va_up t 1 (fun _ => (0 : Int32))) tL)) H := hP
  have hD : va_D A ((pic_Pile g a_t tN (va_up t 1 (fun _ => (0 : Int32))) tL)) := hD
  cases h
  exact W.vret hx hb hr (fun t ht hW => ⟨⟨(), rfl, trivial, by rw [ht]; exact hP, hD⟩, hS.F ht⟩) hS.2.2 d_Pile_clear_5
theorem c_Pile_clear (l : Launch) (g : Gz) (F : Nat) (a_t : Nat → Nat) (tN : Nat) (t : StI) (tL : StL) (res : StI × StL) (h : Pile_clear F tN t tL = some res) : ∀ sz : Nat, Met l y_Pile_clear (.code y_Pile_clear prog_3_method_2_code 1 none :: TBL) rm_Pile_clear (va_Pc [.ref (a_t 0)] (Pre0 g ((pic_Pile g a_t tN t tL)) sz)) (EV g ((pic_Pile g a_t tN res.1 res.2)) (va_A ((pic_Pile g a_t tN t tL)) sz)) 0 0 (va_A ((pic_Pile g a_t tN t tL)) sz) :=
  ct_w (Qc := fun A => EV g ((pic_Pile g a_t tN res.1 res.2)) A) (by decide) (Nat.le_of_ble_eq_true rfl) (fun p e s m args below meth c A hC => k_Pile_clear hC tN t tL res h)
def Pile_isEmpty (F : Nat) (tN : Nat) (t : StI) (tL : StL) : Option (Int32) := if (t 1 0) = 0 then some (1 : Int32) else some (0 : Int32)
set_option maxHeartbeats 4000000 in
set_option maxRecDepth 100000 in
theorem k_Pile_isEmpty {p : Program} {l : Launch} {e : Env} {s : State} {m : MethodId} {args : Array Value} {below : List Frame} {meth : Method} {c : Code} {g : Gz} {A2 A : Nat → Prop} {F : Nat} {a_t : Nat → Nat} (hC : Cx prog_3_method_3_code 1 (some .boolean) R_Pile p s m args meth c g A2 A) : ∀ (tN : Nat) (t : StI) (tL : StL) (res : Int32), Pile_isEmpty F tN t tL = some res → Go p l e rm_Pile_isEmpty s m args below meth c g A2 A 1 (MQ below (RI res A) args s 0 0 A) ((pic_Pile g a_t tN t tL)) [(0, .ref (a_t 0))] 0 [] := by
  obtain ⟨hx, hb, hr, hml, hown, htb, hlocks, hA, hAA, hG⟩ := id hC
  have hK := hG.1
  intro tN t tL res h H locs ls hP hD hS hl
  rw [Pile_isEmpty] at h
  refine lv_aload_n hx hb d_Pile_isEmpty_0 rfl (lv_at hl 0 rfl) ?_
  refine va_get (D := gD g) (ci := 0) (v := .int (t 1 0)) (C := R_Pile) (T := T_Pile) (N := 2) hx hb htb in_Pile hown hK hP 0 rfl rfl 1 (by decide) (htb _ L_Pile_7) (fun _ h9 => h9) rfl d_Pile_isEmpty_1 ?_
  refine lv_if_ne (tgt := 11) hx hb d_Pile_isEmpty_4 (by decide) (fun c2 => ?_) (fun c2 => ?_)
  · replace h := (if_neg c2).symm.trans h
    refine lv_iconst (v := 0) hx hb d_Pile_isEmpty_11 (by decide) ?_
    cases h
    exact W.zret hx hb hr rfl (fun t ht hW => ⟨⟨_, (), rfl, rfl, trivial⟩, hS.F ht⟩) hS.2.2 d_Pile_isEmpty_12
  · replace h := (if_pos c2).symm.trans h
    refine lv_iconst (v := 1) hx hb d_Pile_isEmpty_7 (by decide) ?_
    refine lv_goto (tgt := 12) hx hb d_Pile_isEmpty_8 (by decide) ?_
    cases h
    exact W.zret hx hb hr rfl (fun t ht hW => ⟨⟨_, (), rfl, rfl, trivial⟩, hS.F ht⟩) hS.2.2 d_Pile_isEmpty_12
theorem c_Pile_isEmpty (l : Launch) (g : Gz) (F : Nat) (a_t : Nat → Nat) (tN : Nat) (t : StI) (tL : StL) (res : Int32) (h : Pile_isEmpty F tN t tL = some res) : ∀ sz : Nat, Met l y_Pile_isEmpty (.code y_Pile_isEmpty prog_3_method_3_code 1 (some .boolean) :: TBL) rm_Pile_isEmpty (va_Pc [.ref (a_t 0)] (Pre0 g ((pic_Pile g a_t tN t tL)) sz)) (RI res (fun q => sz ≤ q)) 0 0 (fun q => sz ≤ q) :=
  ct_r (Qc := fun A => RI res A) (by decide) (Nat.le_of_ble_eq_true rfl) (fun p e s m args below meth c A2 A hC => k_Pile_isEmpty hC tN t tL res h)
def Pile_push (F : Nat) (tN : Nat) (t : StI) (tL : StL) (x1 : Int64) : Option (StI × StL) := if (Int32.ofNat tN) ≤ (t 1 0) then some (t, tL) else if (t 1 0) < 0 ∨ tN ≤ (t 1 0).toNatClampNeg then none else some ((va_up t 1 (fun _ => ((t 1 0) + (1 : Int32)))), (va_up tL 0 (vp_updL (tL 0) (t 1 0).toNatClampNeg x1)))
set_option maxHeartbeats 4000000 in
set_option maxRecDepth 100000 in
theorem k_Pile_push {p : Program} {l : Launch} {e : Env} {s : State} {m : MethodId} {args : Array Value} {below : List Frame} {meth : Method} {c : Code} {g : Gz} {A : Nat → Prop} {F : Nat} {a_t : Nat → Nat} (hC : Cx prog_3_method_4_code 3 none R_Pile p s m args meth c g A A) : ∀ (tN : Nat) (t : StI) (tL : StL) (x1 : Int64) (res : StI × StL), Pile_push F tN t tL x1 = some res → Go p l e rm_Pile_push s m args below meth c g A A 3 (MQ below (EV g ((pic_Pile g a_t tN res.1 res.2)) A) args s 0 0 A) ((pic_Pile g a_t tN t tL)) [(0, .ref (a_t 0)), (1, .long x1)] 0 [] := by
  obtain ⟨hx, hb, hr, hml, hown, htb, hlocks, hA, hAA, hG⟩ := id hC
  have hK := hG.1
  intro tN t tL x1 res h H locs ls hP hD hS hl
  rw [Pile_push] at h
  refine lv_aload_n hx hb d_Pile_push_0 rfl (lv_at hl 0 rfl) ?_
  refine va_get (D := gD g) (ci := 0) (v := .int (t 1 0)) (C := R_Pile) (T := T_Pile) (N := 2) hx hb htb in_Pile hown hK hP 0 rfl rfl 1 (by decide) (htb _ L_Pile_7) (fun _ h9 => h9) rfl d_Pile_push_1 ?_
  refine lv_aload_n hx hb d_Pile_push_4 rfl (lv_at hl 0 rfl) ?_
  refine va_get (D := gD g) (ci := 0) (v := .ref (a_t 1)) (C := R_Pile) (T := T_Pile) (N := 2) hx hb htb in_Pile hown hK hP 0 rfl rfl 0 (by decide) (htb _ L_Pile_13) (fun _ h9 => h9) rfl d_Pile_push_5 ?_
  refine va_alen hx hb hK hP 1 3 rfl rfl rfl d_Pile_push_8 ?_
  refine lv_icmp_ge (tgt := 32) hx hb d_Pile_push_9 (by decide) (fun c3 => ?_) (fun c3 => ?_)
  · replace h := (if_pos c3).symm.trans h
    cases h
    exact W.vret hx hb hr (fun t ht hW => ⟨⟨(), rfl, trivial, by rw [ht]; exact hP, hD⟩, hS.F ht⟩) hS.2.2 d_Pile_push_32
  · replace h := (if_neg c3).symm.trans h
    refine lv_aload_n hx hb d_Pile_push_12 rfl (lv_at hl 0 rfl) ?_
    refine va_get (D := gD g) (ci := 0) (v := .ref (a_t 1)) (C := R_Pile) (T := T_Pile) (N := 2) hx hb htb in_Pile hown hK hP 0 rfl rfl 0 (by decide) (htb _ L_Pile_13) (fun _ h9 => h9) rfl d_Pile_push_13 ?_
    refine lv_aload_n hx hb d_Pile_push_16 rfl (lv_at hl 0 rfl) ?_
    refine va_get (D := gD g) (ci := 0) (v := .int (t 1 0)) (C := R_Pile) (T := T_Pile) (N := 2) hx hb htb in_Pile hown hK hP 0 rfl rfl 1 (by decide) (htb _ L_Pile_7) (fun _ h9 => h9) rfl d_Pile_push_17 ?_
    refine lv_lload_n hx hb d_Pile_push_20 rfl (lv_at hl 1 rfl) ?_
    by_cases c4 : ((t 1 0) < 0 ∨ tN ≤ (t 1 0).toNatClampNeg)
    · replace h := (if_pos c4).symm.trans h
      cases h
    replace h := (if_neg c4).symm.trans h
    refine va_last hx hb hK hP hD hS 1 3 rfl rfl c4 d_Pile_push_21 (fun H locs hP hD hS => ?_)
    have hP : va_P (gD g) vwCl ((pic_Pile g a_t tN t (va_up tL 0 (vp_updL (tL 0) (t 1 0).toNatClampNeg x1)))) H := hP
    have hD : va_D A ((pic_Pile g a_t tN t (va_up tL 0 (vp_updL (tL 0) (t 1 0).toNatClampNeg x1)))) := hD
    refine lv_aload_n hx hb d_Pile_push_22 rfl (lv_at hl 0 rfl) ?_
    refine lv_dup hx hb d_Pile_push_23 rfl ?_
    refine va_get (D := gD g) (ci := 0) (v := .int (t 1 0)) (C := R_Pile) (T := T_Pile) (N := 2) hx hb htb in_Pile hown hK hP 0 rfl rfl 1 (by decide) (htb _ L_Pile_7) (fun _ h9 => h9) rfl d_Pile_push_24 ?_
    refine lv_iconst (v := 1) hx hb d_Pile_push_27 (by decide) ?_
    refine lv_iadd hx hb d_Pile_push_28 ?_
    refine va_put (D := gD g) (ci := 0) (v := .int ((t 1 0) + (1 : Int32))) (ty := .int) (C := R_Pile) (T := T_Pile) (N := 2) hx hb htb in_Pile ty_Pile ty_Pile_ok nm_Pile hown hK hP hD hS 0 rfl rfl 1 (by decide) (htb _ L_Pile_7) (fun _ h9 => h9) rfl (by decide +kernel) rfl rfl (Nat.le_of_ble_eq_true rfl) d_Pile_push_29 (fun H locs hP hD hS => ?_)
    have hP : va_P (gD g) vwCl ((pic_Pile g a_t tN (va_up t 1 (fun _ => ((t 1 0) + (1 : Int32)))) (va_up tL 0 (vp_updL (tL 0) (t 1 0).toNatClampNeg x1)))) H := hP
    have hD : va_D A ((pic_Pile g a_t tN (va_up t 1 (fun _ => ((t 1 0) + (1 : Int32)))) (va_up tL 0 (vp_updL (tL 0) (t 1 0).toNatClampNeg x1)))) := hD
    cases h
    exact W.vret hx hb hr (fun t ht hW => ⟨⟨(), rfl, trivial, by rw [ht]; exact hP, hD⟩, hS.F ht⟩) hS.2.2 d_Pile_push_32
theorem c_Pile_push (l : Launch) (g : Gz) (F : Nat) (a_t : Nat → Nat) (tN : Nat) (t : StI) (tL : StL) (x1 : Int64) (res : StI × StL) (h : Pile_push F tN t tL x1 = some res) : ∀ sz : Nat, Met l y_Pile_push (.code y_Pile_push prog_3_method_4_code 3 none :: TBL) rm_Pile_push (va_Pc [.ref (a_t 0), .long x1] (Pre0 g ((pic_Pile g a_t tN t tL)) sz)) (EV g ((pic_Pile g a_t tN res.1 res.2)) (va_A ((pic_Pile g a_t tN t tL)) sz)) 0 0 (va_A ((pic_Pile g a_t tN t tL)) sz) :=
  ct_w (Qc := fun A => EV g ((pic_Pile g a_t tN res.1 res.2)) A) (by decide) (Nat.le_of_ble_eq_true rfl) (fun p e s m args below meth c A hC => k_Pile_push hC tN t tL x1 res h)
def Pile_pop (F : Nat) (tN : Nat) (t : StI) (tL : StL) : Option (Int64 × StI × StL) := if 0 < (t 1 0) then if ((t 1 0) - (1 : Int32)) < 0 ∨ tN ≤ ((t 1 0) - (1 : Int32)).toNatClampNeg then none else some (((tL 0) ((t 1 0) - (1 : Int32)).toNatClampNeg), (va_up t 1 (fun _ => ((t 1 0) - (1 : Int32)))), tL) else some ((0 : Int64), t, tL)
set_option maxHeartbeats 4000000 in
set_option maxRecDepth 100000 in
theorem k_Pile_pop {p : Program} {l : Launch} {e : Env} {s : State} {m : MethodId} {args : Array Value} {below : List Frame} {meth : Method} {c : Code} {g : Gz} {A : Nat → Prop} {F : Nat} {a_t : Nat → Nat} (hC : Cx prog_3_method_5_code 1 (some .long) R_Pile p s m args meth c g A A) : ∀ (tN : Nat) (t : StI) (tL : StL) (res : Int64 × StI × StL), Pile_pop F tN t tL = some res → Go p l e rm_Pile_pop s m args below meth c g A A 1 (MQ below (EL g ((pic_Pile g a_t tN res.2.1 res.2.2)) res.1 A) args s 0 0 A) ((pic_Pile g a_t tN t tL)) [(0, .ref (a_t 0))] 0 [] := by
  obtain ⟨hx, hb, hr, hml, hown, htb, hlocks, hA, hAA, hG⟩ := id hC
  have hK := hG.1
  intro tN t tL res h H locs ls hP hD hS hl
  rw [Pile_pop] at h
  refine lv_aload_n hx hb d_Pile_pop_0 rfl (lv_at hl 0 rfl) ?_
  refine va_get (D := gD g) (ci := 0) (v := .int (t 1 0)) (C := R_Pile) (T := T_Pile) (N := 2) hx hb htb in_Pile hown hK hP 0 rfl rfl 1 (by decide) (htb _ L_Pile_7) (fun _ h9 => h9) rfl d_Pile_pop_1 ?_
  refine lv_if_gt (tgt := 9) hx hb d_Pile_pop_4 (by decide) (fun c3 => ?_) (fun c3 => ?_)
  · replace h := (if_pos c3).symm.trans h
    refine lv_aload_n hx hb d_Pile_pop_9 rfl (lv_at hl 0 rfl) ?_
    refine lv_dup hx hb d_Pile_pop_10 rfl ?_
    refine va_get (D := gD g) (ci := 0) (v := .int (t 1 0)) (C := R_Pile) (T := T_Pile) (N := 2) hx hb htb in_Pile hown hK hP 0 rfl rfl 1 (by decide) (htb _ L_Pile_7) (fun _ h9 => h9) rfl d_Pile_pop_11 ?_
    refine lv_iconst (v := 1) hx hb d_Pile_pop_14 (by decide) ?_
    refine lv_isub hx hb d_Pile_pop_15 ?_
    refine va_put (D := gD g) (ci := 0) (v := .int ((t 1 0) - (1 : Int32))) (ty := .int) (C := R_Pile) (T := T_Pile) (N := 2) hx hb htb in_Pile ty_Pile ty_Pile_ok nm_Pile hown hK hP hD hS 0 rfl rfl 1 (by decide) (htb _ L_Pile_7) (fun _ h9 => h9) rfl (by decide +kernel) rfl rfl (Nat.le_of_ble_eq_true rfl) d_Pile_pop_16 (fun H locs hP hD hS => ?_)
    have hP : va_P (gD g) vwCl ((pic_Pile g a_t tN (va_up t 1 (fun _ => ((t 1 0) - (1 : Int32)))) tL)) H := hP
    have hD : va_D A ((pic_Pile g a_t tN (va_up t 1 (fun _ => ((t 1 0) - (1 : Int32)))) tL)) := hD
    refine lv_aload_n hx hb d_Pile_pop_19 rfl (lv_at hl 0 rfl) ?_
    refine va_get (D := gD g) (ci := 0) (v := .ref (a_t 1)) (C := R_Pile) (T := T_Pile) (N := 2) hx hb htb in_Pile hown hK hP 0 rfl rfl 0 (by decide) (htb _ L_Pile_13) (fun _ h9 => h9) rfl d_Pile_pop_20 ?_
    refine lv_aload_n hx hb d_Pile_pop_23 rfl (lv_at hl 0 rfl) ?_
    refine va_get (D := gD g) (ci := 0) (v := .int ((t 1 0) - (1 : Int32))) (C := R_Pile) (T := T_Pile) (N := 2) hx hb htb in_Pile hown hK hP 0 rfl rfl 1 (by decide) (htb _ L_Pile_7) (fun _ h9 => h9) rfl d_Pile_pop_24 ?_
    by_cases c4 : (((t 1 0) - (1 : Int32)) < 0 ∨ tN ≤ ((t 1 0) - (1 : Int32)).toNatClampNeg)
    · replace h := (if_pos c4).symm.trans h
      cases h
    replace h := (if_neg c4).symm.trans h
    refine va_lald hx hb hK hP 1 3 rfl rfl c4 d_Pile_pop_27 ?_
    cases h
    exact W.lret hx hb hr (fun t ht hW => ⟨⟨_, (), rfl, rfl, by rw [ht]; exact hP, hD⟩, hS.F ht⟩) hS.2.2 d_Pile_pop_28
  · replace h := (if_neg c3).symm.trans h
    refine lv_lconst (v := 0) hx hb d_Pile_pop_7 (by decide) ?_
    cases h
    exact W.lret hx hb hr (fun t ht hW => ⟨⟨_, (), rfl, rfl, by rw [ht]; exact hP, hD⟩, hS.F ht⟩) hS.2.2 d_Pile_pop_8
theorem c_Pile_pop (l : Launch) (g : Gz) (F : Nat) (a_t : Nat → Nat) (tN : Nat) (t : StI) (tL : StL) (res : Int64 × StI × StL) (h : Pile_pop F tN t tL = some res) : ∀ sz : Nat, Met l y_Pile_pop (.code y_Pile_pop prog_3_method_5_code 1 (some .long) :: TBL) rm_Pile_pop (va_Pc [.ref (a_t 0)] (Pre0 g ((pic_Pile g a_t tN t tL)) sz)) (EL g ((pic_Pile g a_t tN res.2.1 res.2.2)) res.1 (va_A ((pic_Pile g a_t tN t tL)) sz)) 0 0 (va_A ((pic_Pile g a_t tN t tL)) sz) :=
  ct_w (Qc := fun A => EL g ((pic_Pile g a_t tN res.2.1 res.2.2)) res.1 A) (by decide) (Nat.le_of_ble_eq_true rfl) (fun p e s m args below meth c A hC => k_Pile_pop hC tN t tL res h)
