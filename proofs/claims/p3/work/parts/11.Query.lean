def Query_has (F : Nat) (t : StI) (x1 : Int32) : Option (Int32) := if x1 < 0 then some (0 : Int32) else if (t 3 0) ≤ x1 then some (0 : Int32) else some (1 : Int32)
set_option maxHeartbeats 4000000 in
set_option maxRecDepth 100000 in
theorem k_Query_has {p : Program} {l : Launch} {e : Env} {s : State} {m : MethodId} {args : Array Value} {below : List Frame} {meth : Method} {c : Code} {g : Gz} {A2 A : Nat → Prop} {F : Nat} {a_t : Nat → Nat} (hC : Cx prog_5_method_3_code 2 (some .boolean) R_Query p s m args meth c g A2 A) : ∀ (t : StI) (x1 : Int32) (res : Int32), Query_has F t x1 = some res → Go p l e rm_Query_has s m args below meth c g A2 A 2 (MQ below (RI res A) args s 0 0 A) ((pic_Query g a_t t)) [(0, .ref (a_t 0)), (1, .int x1)] 0 [] := by
  obtain ⟨hx, hb, hr, hml, hown, htb, hlocks, hA, hAA, hG⟩ := id hC
  have hK := hG.1
  intro t x1 res h H locs ls hP hD hS hl
  rw [Query_has] at h
  refine lv_iload_n hx hb d_Query_has_0 rfl (lv_at hl 1 rfl) ?_
  refine lv_if_lt (tgt := 16) hx hb d_Query_has_1 (by decide) (fun c3 => ?_) (fun c3 => ?_)
  · replace h := (if_pos c3).symm.trans h
    refine lv_iconst (v := 0) hx hb d_Query_has_16 (by decide) ?_
    cases h
    exact W.zret hx hb hr rfl (fun t ht hW => ⟨⟨_, (), rfl, rfl, trivial⟩, hS.F ht⟩) hS.2.2 d_Query_has_17
  · replace h := (if_neg c3).symm.trans h
    refine lv_iload_n hx hb d_Query_has_4 rfl (lv_at hl 1 rfl) ?_
    refine lv_aload_n hx hb d_Query_has_5 rfl (lv_at hl 0 rfl) ?_
    refine va_get (D := gD g) (ci := 1) (v := .int (t 3 0)) (C := R_Query) (T := T_Query) (N := 14) hx hb htb in_Query hown hK hP 0 rfl rfl 3 (by decide) (htb _ L_Query_22) (fun _ h9 => h9) rfl d_Query_has_6 ?_
    refine lv_icmp_ge (tgt := 16) hx hb d_Query_has_9 (by decide) (fun c4 => ?_) (fun c4 => ?_)
    · replace h := (if_pos c4).symm.trans h
      refine lv_iconst (v := 0) hx hb d_Query_has_16 (by decide) ?_
      cases h
      exact W.zret hx hb hr rfl (fun t ht hW => ⟨⟨_, (), rfl, rfl, trivial⟩, hS.F ht⟩) hS.2.2 d_Query_has_17
    · replace h := (if_neg c4).symm.trans h
      refine lv_iconst (v := 1) hx hb d_Query_has_12 (by decide) ?_
      refine lv_goto (tgt := 17) hx hb d_Query_has_13 (by decide) ?_
      cases h
      exact W.zret hx hb hr rfl (fun t ht hW => ⟨⟨_, (), rfl, rfl, trivial⟩, hS.F ht⟩) hS.2.2 d_Query_has_17
theorem c_Query_has (l : Launch) (g : Gz) (F : Nat) (a_t : Nat → Nat) (t : StI) (x1 : Int32) (res : Int32) (h : Query_has F t x1 = some res) : ∀ sz : Nat, Met l y_Query_has (.code y_Query_has prog_5_method_3_code 2 (some .boolean) :: TBL) rm_Query_has (va_Pc [.ref (a_t 0), .int x1] (Pre0 g ((pic_Query g a_t t)) sz)) (RI res (fun q => sz ≤ q)) 0 0 (fun q => sz ≤ q) :=
  ct_r (Qc := fun A => RI res A) (by decide) (Nat.le_of_ble_eq_true rfl) (fun p e s m args below meth c A2 A hC => k_Query_has hC t x1 res h)
def Query_isFull (F : Nat) (t : StI) : Option (Int32) := if (t 2 0) < (40 : Int32) then some (0 : Int32) else some (1 : Int32)
set_option maxHeartbeats 4000000 in
set_option maxRecDepth 100000 in
theorem k_Query_isFull {p : Program} {l : Launch} {e : Env} {s : State} {m : MethodId} {args : Array Value} {below : List Frame} {meth : Method} {c : Code} {g : Gz} {A2 A : Nat → Prop} {F : Nat} {a_t : Nat → Nat} (hC : Cx prog_5_method_4_code 1 (some .boolean) R_Query p s m args meth c g A2 A) : ∀ (t : StI) (res : Int32), Query_isFull F t = some res → Go p l e rm_Query_isFull s m args below meth c g A2 A 1 (MQ below (RI res A) args s 0 0 A) ((pic_Query g a_t t)) [(0, .ref (a_t 0))] 0 [] := by
  obtain ⟨hx, hb, hr, hml, hown, htb, hlocks, hA, hAA, hG⟩ := id hC
  have hK := hG.1
  intro t res h H locs ls hP hD hS hl
  rw [Query_isFull] at h
  refine lv_aload_n hx hb d_Query_isFull_0 rfl (lv_at hl 0 rfl) ?_
  refine va_get (D := gD g) (ci := 1) (v := .int (t 2 0)) (C := R_Query) (T := T_Query) (N := 14) hx hb htb in_Query hown hK hP 0 rfl rfl 2 (by decide) (htb _ L_Query_19) (fun _ h9 => h9) rfl d_Query_isFull_1 ?_
  refine lv_bipush (v := 40) hx hb d_Query_isFull_4 (by decide) ?_
  refine lv_icmp_lt (tgt := 13) hx hb d_Query_isFull_6 (by decide) (fun c2 => ?_) (fun c2 => ?_)
  · replace h := (if_pos c2).symm.trans h
    refine lv_iconst (v := 0) hx hb d_Query_isFull_13 (by decide) ?_
    cases h
    exact W.zret hx hb hr rfl (fun t ht hW => ⟨⟨_, (), rfl, rfl, trivial⟩, hS.F ht⟩) hS.2.2 d_Query_isFull_14
  · replace h := (if_neg c2).symm.trans h
    refine lv_iconst (v := 1) hx hb d_Query_isFull_9 (by decide) ?_
    refine lv_goto (tgt := 14) hx hb d_Query_isFull_10 (by decide) ?_
    cases h
    exact W.zret hx hb hr rfl (fun t ht hW => ⟨⟨_, (), rfl, rfl, trivial⟩, hS.F ht⟩) hS.2.2 d_Query_isFull_14
theorem c_Query_isFull (l : Launch) (g : Gz) (F : Nat) (a_t : Nat → Nat) (t : StI) (res : Int32) (h : Query_isFull F t = some res) : ∀ sz : Nat, Met l y_Query_isFull (.code y_Query_isFull prog_5_method_4_code 1 (some .boolean) :: TBL) rm_Query_isFull (va_Pc [.ref (a_t 0)] (Pre0 g ((pic_Query g a_t t)) sz)) (RI res (fun q => sz ≤ q)) 0 0 (fun q => sz ≤ q) :=
  ct_r (Qc := fun A => RI res A) (by decide) (Nat.le_of_ble_eq_true rfl) (fun p e s m args below meth c A2 A hC => k_Query_isFull hC t res h)
def Query_byteAt (F : Nat) (t : StI) (x1 : Int32) : Option (Int32) := if x1 < 0 then some (-1 : Int32) else if (t 1 0) ≤ x1 then some (-1 : Int32) else if x1 < 0 ∨ 600 ≤ x1.toNatClampNeg then none else some ((t 0) x1.toNatClampNeg)
set_option maxHeartbeats 4000000 in
set_option maxRecDepth 100000 in
theorem k_Query_byteAt {p : Program} {l : Launch} {e : Env} {s : State} {m : MethodId} {args : Array Value} {below : List Frame} {meth : Method} {c : Code} {g : Gz} {A2 A : Nat → Prop} {F : Nat} {a_t : Nat → Nat} (hC : Cx prog_5_method_5_code 2 (some .int) R_Query p s m args meth c g A2 A) : ∀ (t : StI) (x1 : Int32) (res : Int32), Query_byteAt F t x1 = some res → Go p l e rm_Query_byteAt s m args below meth c g A2 A 2 (MQ below (RI res A) args s 0 0 A) ((pic_Query g a_t t)) [(0, .ref (a_t 0)), (1, .int x1)] 0 [] := by
  obtain ⟨hx, hb, hr, hml, hown, htb, hlocks, hA, hAA, hG⟩ := id hC
  have hK := hG.1
  intro t x1 res h H locs ls hP hD hS hl
  rw [Query_byteAt] at h
  refine lv_iload_n hx hb d_Query_byteAt_0 rfl (lv_at hl 1 rfl) ?_
  refine lv_if_lt (tgt := 21) hx hb d_Query_byteAt_1 (by decide) (fun c4 => ?_) (fun c4 => ?_)
  · replace h := (if_pos c4).symm.trans h
    refine lv_iconst (v := -1) hx hb d_Query_byteAt_21 (by decide) ?_
    cases h
    exact W.iret hx hb hr (fun t ht hW => ⟨⟨_, (), rfl, rfl, trivial⟩, hS.F ht⟩) hS.2.2 d_Query_byteAt_22
  · replace h := (if_neg c4).symm.trans h
    refine lv_iload_n hx hb d_Query_byteAt_4 rfl (lv_at hl 1 rfl) ?_
    refine lv_aload_n hx hb d_Query_byteAt_5 rfl (lv_at hl 0 rfl) ?_
    refine va_get (D := gD g) (ci := 1) (v := .int (t 1 0)) (C := R_Query) (T := T_Query) (N := 14) hx hb htb in_Query hown hK hP 0 rfl rfl 1 (by decide) (htb _ L_Query_15) (fun _ h9 => h9) rfl d_Query_byteAt_6 ?_
    refine lv_icmp_ge (tgt := 21) hx hb d_Query_byteAt_9 (by decide) (fun c5 => ?_) (fun c5 => ?_)
    · replace h := (if_pos c5).symm.trans h
      refine lv_iconst (v := -1) hx hb d_Query_byteAt_21 (by decide) ?_
      cases h
      exact W.iret hx hb hr (fun t ht hW => ⟨⟨_, (), rfl, rfl, trivial⟩, hS.F ht⟩) hS.2.2 d_Query_byteAt_22
    · replace h := (if_neg c5).symm.trans h
      refine lv_aload_n hx hb d_Query_byteAt_12 rfl (lv_at hl 0 rfl) ?_
      refine va_get (D := gD g) (ci := 1) (v := .ref (a_t 1)) (C := R_Query) (T := T_Query) (N := 14) hx hb htb in_Query hown hK hP 0 rfl rfl 0 (by decide) (htb _ L_Query_9) (fun _ h9 => h9) rfl d_Query_byteAt_13 ?_
      refine lv_iload_n hx hb d_Query_byteAt_16 rfl (lv_at hl 1 rfl) ?_
      by_cases c6 : (x1 < 0 ∨ 600 ≤ x1.toNatClampNeg)
      · replace h := (if_pos c6).symm.trans h
        cases h
      replace h := (if_neg c6).symm.trans h
      refine va_cald hx hb hK hP 1 1 rfl rfl c6 d_Query_byteAt_17 ?_
      refine lv_goto (tgt := 22) hx hb d_Query_byteAt_18 (by decide) ?_
      cases h
      exact W.iret hx hb hr (fun t ht hW => ⟨⟨_, (), rfl, rfl, trivial⟩, hS.F ht⟩) hS.2.2 d_Query_byteAt_22
theorem c_Query_byteAt (l : Launch) (g : Gz) (F : Nat) (a_t : Nat → Nat) (t : StI) (x1 : Int32) (res : Int32) (h : Query_byteAt F t x1 = some res) : ∀ sz : Nat, Met l y_Query_byteAt (.code y_Query_byteAt prog_5_method_5_code 2 (some .int) :: TBL) rm_Query_byteAt (va_Pc [.ref (a_t 0), .int x1] (Pre0 g ((pic_Query g a_t t)) sz)) (RI res (fun q => sz ≤ q)) 0 0 (fun q => sz ≤ q) :=
  ct_r (Qc := fun A => RI res A) (by decide) (Nat.le_of_ble_eq_true rfl) (fun p e s m args below meth c A2 A hC => k_Query_byteAt hC t x1 res h)
def Query_entryAt (F : Nat) (t : StI) (x1 : Int32) : Option (Int32) := if x1 < 0 then some (-1 : Int32) else if (t 13 0) ≤ x1 then some (-1 : Int32) else if x1 < 0 ∨ 229 ≤ x1.toNatClampNeg then none else some ((t 12) x1.toNatClampNeg)
set_option maxHeartbeats 4000000 in
set_option maxRecDepth 100000 in
theorem k_Query_entryAt {p : Program} {l : Launch} {e : Env} {s : State} {m : MethodId} {args : Array Value} {below : List Frame} {meth : Method} {c : Code} {g : Gz} {A2 A : Nat → Prop} {F : Nat} {a_t : Nat → Nat} (hC : Cx prog_5_method_6_code 2 (some .int) R_Query p s m args meth c g A2 A) : ∀ (t : StI) (x1 : Int32) (res : Int32), Query_entryAt F t x1 = some res → Go p l e rm_Query_entryAt s m args below meth c g A2 A 2 (MQ below (RI res A) args s 0 0 A) ((pic_Query g a_t t)) [(0, .ref (a_t 0)), (1, .int x1)] 0 [] := by
  obtain ⟨hx, hb, hr, hml, hown, htb, hlocks, hA, hAA, hG⟩ := id hC
  have hK := hG.1
  intro t x1 res h H locs ls hP hD hS hl
  rw [Query_entryAt] at h
  refine lv_iload_n hx hb d_Query_entryAt_0 rfl (lv_at hl 1 rfl) ?_
  refine lv_if_lt (tgt := 21) hx hb d_Query_entryAt_1 (by decide) (fun c4 => ?_) (fun c4 => ?_)
  · replace h := (if_pos c4).symm.trans h
    refine lv_iconst (v := -1) hx hb d_Query_entryAt_21 (by decide) ?_
    cases h
    exact W.iret hx hb hr (fun t ht hW => ⟨⟨_, (), rfl, rfl, trivial⟩, hS.F ht⟩) hS.2.2 d_Query_entryAt_22
  · replace h := (if_neg c4).symm.trans h
    refine lv_iload_n hx hb d_Query_entryAt_4 rfl (lv_at hl 1 rfl) ?_
    refine lv_aload_n hx hb d_Query_entryAt_5 rfl (lv_at hl 0 rfl) ?_
    refine va_get (D := gD g) (ci := 1) (v := .int (t 13 0)) (C := R_Query) (T := T_Query) (N := 14) hx hb htb in_Query hown hK hP 0 rfl rfl 13 (by decide) (htb _ L_Query_54) (fun _ h9 => h9) rfl d_Query_entryAt_6 ?_
    refine lv_icmp_ge (tgt := 21) hx hb d_Query_entryAt_9 (by decide) (fun c5 => ?_) (fun c5 => ?_)
    · replace h := (if_pos c5).symm.trans h
      refine lv_iconst (v := -1) hx hb d_Query_entryAt_21 (by decide) ?_
      cases h
      exact W.iret hx hb hr (fun t ht hW => ⟨⟨_, (), rfl, rfl, trivial⟩, hS.F ht⟩) hS.2.2 d_Query_entryAt_22
    · replace h := (if_neg c5).symm.trans h
      refine lv_aload_n hx hb d_Query_entryAt_12 rfl (lv_at hl 0 rfl) ?_
      refine va_get (D := gD g) (ci := 1) (v := .ref (a_t 13)) (C := R_Query) (T := T_Query) (N := 14) hx hb htb in_Query hown hK hP 0 rfl rfl 12 (by decide) (htb _ L_Query_51) (fun _ h9 => h9) rfl d_Query_entryAt_13 ?_
      refine lv_iload_n hx hb d_Query_entryAt_16 rfl (lv_at hl 1 rfl) ?_
      by_cases c6 : (x1 < 0 ∨ 229 ≤ x1.toNatClampNeg)
      · replace h := (if_pos c6).symm.trans h
        cases h
      replace h := (if_neg c6).symm.trans h
      refine va_iald hx hb hK hP 10 0 rfl rfl c6 d_Query_entryAt_17 ?_
      refine lv_goto (tgt := 22) hx hb d_Query_entryAt_18 (by decide) ?_
      cases h
      exact W.iret hx hb hr (fun t ht hW => ⟨⟨_, (), rfl, rfl, trivial⟩, hS.F ht⟩) hS.2.2 d_Query_entryAt_22
theorem c_Query_entryAt (l : Launch) (g : Gz) (F : Nat) (a_t : Nat → Nat) (t : StI) (x1 : Int32) (res : Int32) (h : Query_entryAt F t x1 = some res) : ∀ sz : Nat, Met l y_Query_entryAt (.code y_Query_entryAt prog_5_method_6_code 2 (some .int) :: TBL) rm_Query_entryAt (va_Pc [.ref (a_t 0), .int x1] (Pre0 g ((pic_Query g a_t t)) sz)) (RI res (fun q => sz ≤ q)) 0 0 (fun q => sz ≤ q) :=
  ct_r (Qc := fun A => RI res A) (by decide) (Nat.le_of_ble_eq_true rfl) (fun p e s m args below meth c A2 A hC => k_Query_entryAt hC t x1 res h)
def Query_find_3 (F : Nat) : Nat → StI → Int32 → Int32 → Int32 → Option (Int32)
  | 0, _, _, _, _ => none
  | n + 1, t, x1, x3, x4 => if x3 ≤ x4 then some (-1 : Int32) else (Query_byteAt F t x4).bind fun r5 => if r5 = x1 then some x4 else Query_find_3 F n t x1 x3 (x4 + (1 : Int32))
def Query_find (F : Nat) (t : StI) (x1 : Int32) (x2 : Int32) (x3 : Int32) : Option (Int32) := Query_find_3 F F t x1 x3 x2
set_option maxHeartbeats 4000000 in
set_option maxRecDepth 100000 in
theorem k_Query_find_3 {p : Program} {l : Launch} {e : Env} {s : State} {m : MethodId} {args : Array Value} {below : List Frame} {meth : Method} {c : Code} {g : Gz} {A2 A : Nat → Prop} {F : Nat} {a_t : Nat → Nat} (hC : Cx prog_5_method_7_code 5 (some .int) R_Query p s m args meth c g A2 A) : ∀ (n : Nat) (t : StI) (x1 : Int32) (x3 : Int32) (x4 : Int32) (res : Int32), Query_find_3 F n t x1 x3 x4 = some res → Go p l e rm_Query_find s m args below meth c g A2 A 5 (MQ below (RI res A) args s 0 0 A) ((pic_Query g a_t t)) [(0, .ref (a_t 0)), (1, .int x1), (3, .int x3), (4, .int x4)] 3 [] := by
  obtain ⟨hx, hb, hr, hml, hown, htb, hlocks, hA, hAA, hG⟩ := id hC
  have hK := hG.1
  intro n
  induction n with
  | zero => intro t x1 x3 x4 res h; rw [Query_find_3] at h; cases h
  | succ n ih =>
    intro t x1 x3 x4 res h H locs ls hP hD hS hl
    rw [Query_find_3] at h
    refine lv_iload hx hb d_Query_find_3 (lv_at hl 3 rfl) ?_
    refine lv_iload_n hx hb d_Query_find_5 rfl (lv_at hl 2 rfl) ?_
    refine lv_icmp_ge (tgt := 28) hx hb d_Query_find_6 (by decide) (fun c4 => ?_) (fun c4 => ?_)
    · replace h := (if_pos c4).symm.trans h
      refine lv_iconst (v := -1) hx hb d_Query_find_28 (by decide) ?_
      cases h
      exact W.iret hx hb hr (fun t ht hW => ⟨⟨_, (), rfl, rfl, trivial⟩, hS.F ht⟩) hS.2.2 d_Query_find_29
    · replace h := (if_neg c4).symm.trans h
      refine lv_aload_n hx hb d_Query_find_9 rfl (lv_at hl 0 rfl) ?_
      refine lv_iload hx hb d_Query_find_10 (lv_at hl 3 rfl) ?_
      obtain ⟨r5, hr5, h⟩ := Option.bind_eq_some_iff.mp h
      refine cl_Ir hP hS hA (va_runV (As := [.int x4]) (rest := []) ⟨hx, hb, hml, hown, htb⟩ (c_Query_byteAt l g F a_t t x4 _ hr5 H.size) (cw_V 1 htb mb_Query_byteAt (htb _ L_Query_72) ⟨Nat.le_of_ble_eq_true rfl, Nat.le_of_ble_eq_true rfl⟩) (pre_V (va_recv hK hP (ci := 1) (q0 := 0) rfl rfl) (pre_S [0, 1, 2, 3, 4, 5, 6, 7, 8, 9, 10] rfl rfl hP hD hS hA hAA hG)) rfl rfl hl.1 rfl (lv_room (Nat.le_of_ble_eq_true rfl)) d_Query_find_12 ⟨Nat.zero_le _, Nat.zero_le _⟩) (fun H locs hP hS => ?_)
      refine lv_iload_n hx hb d_Query_find_15 rfl (lv_at hl 1 rfl) ?_
      refine lv_icmp_ne (tgt := 22) hx hb d_Query_find_16 (by decide) (fun c6 => ?_) (fun c6 => ?_)
      · replace h := (if_neg c6).symm.trans h
        refine lv_iinc (v := (x4 + (1 : Int32))) (lv' := [(4, .int (x4 + (1 : Int32))), (0, .ref (a_t 0)), (1, .int x1), (3, .int x3)]) hx hb d_Query_find_22 hl (k := 3) rfl rfl (by decide) rfl (fun ls hl => ?_)
        refine lv_goto (tgt := 3) hx hb d_Query_find_25 (by decide) ?_
        exact ih _ _ _ _ _ h _ _ _ hP hD hS (lv_sub hl [1, 2, 3, 0] rfl)
      · replace h := (if_pos c6).symm.trans h
        refine lv_iload hx hb d_Query_find_19 (lv_at hl 3 rfl) ?_
        cases h
        exact W.iret hx hb hr (fun t ht hW => ⟨⟨_, (), rfl, rfl, trivial⟩, hS.F ht⟩) hS.2.2 d_Query_find_21
set_option maxHeartbeats 4000000 in
set_option maxRecDepth 100000 in
theorem k_Query_find {p : Program} {l : Launch} {e : Env} {s : State} {m : MethodId} {args : Array Value} {below : List Frame} {meth : Method} {c : Code} {g : Gz} {A2 A : Nat → Prop} {F : Nat} {a_t : Nat → Nat} (hC : Cx prog_5_method_7_code 5 (some .int) R_Query p s m args meth c g A2 A) : ∀ (t : StI) (x1 : Int32) (x2 : Int32) (x3 : Int32) (res : Int32), Query_find F t x1 x2 x3 = some res → Go p l e rm_Query_find s m args below meth c g A2 A 5 (MQ below (RI res A) args s 0 0 A) ((pic_Query g a_t t)) [(0, .ref (a_t 0)), (1, .int x1), (2, .int x2), (3, .int x3)] 0 [] := by
  obtain ⟨hx, hb, hr, hml, hown, htb, hlocks, hA, hAA, hG⟩ := id hC
  have hK := hG.1
  intro t x1 x2 x3 res h H locs ls hP hD hS hl
  rw [Query_find] at h
  refine lv_iload_n hx hb d_Query_find_0 rfl (lv_at hl 2 rfl) ?_
  refine lv_istore (lv' := [(4, .int x2), (0, .ref (a_t 0)), (1, .int x1), (2, .int x2), (3, .int x3)]) hx hb d_Query_find_1 hl (by decide) rfl (fun ls hl => ?_)
  exact k_Query_find_3 hC F _ _ _ _ _ h _ _ _ hP hD hS (lv_sub hl [1, 2, 4, 0] rfl)
theorem c_Query_find (l : Launch) (g : Gz) (F : Nat) (a_t : Nat → Nat) (t : StI) (x1 : Int32) (x2 : Int32) (x3 : Int32) (res : Int32) (h : Query_find F t x1 x2 x3 = some res) : ∀ sz : Nat, Met l y_Query_find (.code y_Query_find prog_5_method_7_code 5 (some .int) :: TBL) rm_Query_find (va_Pc [.ref (a_t 0), .int x1, .int x2, .int x3] (Pre0 g ((pic_Query g a_t t)) sz)) (RI res (fun q => sz ≤ q)) 0 0 (fun q => sz ≤ q) :=
  ct_r (Qc := fun A => RI res A) (by decide) (Nat.le_of_ble_eq_true rfl) (fun p e s m args below meth c A2 A hC => k_Query_find hC t x1 x2 x3 res h)
def Query_insert (F : Nat) (t : StI) (x1 : Int32) (x2 : Int32) : Option (StI) := if x1 < 0 then some t else if (t 13 0) < x1 then some t else if (t 13 0) < (229 : Int32) then if x1 < 0 then none else if (x1 + (1 : Int32)) < 0 then none else if ((t 13 0) - x1) < 0 then none else if 229 < x1.toNatClampNeg + ((t 13 0) - x1).toNatClampNeg then none else if 229 < (x1 + (1 : Int32)).toNatClampNeg + ((t 13 0) - x1).toNatClampNeg then none else if x1 < 0 ∨ 229 ≤ x1.toNatClampNeg then none else some (va_up (va_up t 12 (upd (va_cpy (t 12) (t 12) x1.toNatClampNeg (x1 + (1 : Int32)).toNatClampNeg ((t 13 0) - x1).toNatClampNeg) x1.toNatClampNeg x2)) 13 (fun _ => ((t 13 0) + (1 : Int32)))) else some t
set_option maxHeartbeats 4000000 in
set_option maxRecDepth 100000 in
theorem k_Query_insert {p : Program} {l : Launch} {e : Env} {s : State} {m : MethodId} {args : Array Value} {below : List Frame} {meth : Method} {c : Code} {g : Gz} {A : Nat → Prop} {F : Nat} {a_t : Nat → Nat} (hC : Cx prog_5_method_9_code 3 none R_Query p s m args meth c g A A) : ∀ (t : StI) (x1 : Int32) (x2 : Int32) (res : StI), Query_insert F t x1 x2 = some res → Go p l e rm_Query_insert s m args below meth c g A A 3 (MQ below (EV g ((pic_Query g a_t res)) A) args s 0 0 A) ((pic_Query g a_t t)) [(0, .ref (a_t 0)), (1, .int x1), (2, .int x2)] 0 [] := by
  obtain ⟨hx, hb, hr, hml, hown, htb, hlocks, hA, hAA, hG⟩ := id hC
  have hK := hG.1
  intro t x1 x2 res h H locs ls hP hD hS hl
  rw [Query_insert] at h
  refine lv_iload_n hx hb d_Query_insert_0 rfl (lv_at hl 1 rfl) ?_
  refine lv_if_lt (tgt := 24) hx hb d_Query_insert_1 (by decide) (fun c11 => ?_) (fun c11 => ?_)
  · replace h := (if_pos c11).symm.trans h
    cases h
    exact W.vret hx hb hr (fun t ht hW => ⟨⟨(), rfl, trivial, by rw [ht]; exact hP, hD⟩, hS.F ht⟩) hS.2.2 d_Query_insert_24
  · replace h := (if_neg c11).symm.trans h
    refine lv_iload_n hx hb d_Query_insert_4 rfl (lv_at hl 1 rfl) ?_
    refine lv_aload_n hx hb d_Query_insert_5 rfl (lv_at hl 0 rfl) ?_
    refine va_get (D := gD g) (ci := 1) (v := .int (t 13 0)) (C := R_Query) (T := T_Query) (N := 14) hx hb htb in_Query hown hK hP 0 rfl rfl 13 (by decide) (htb _ L_Query_54) (fun _ h9 => h9) rfl d_Query_insert_6 ?_
    refine lv_icmp_gt (tgt := 24) hx hb d_Query_insert_9 (by decide) (fun c12 => ?_) (fun c12 => ?_)
    · replace h := (if_pos c12).symm.trans h
      cases h
      exact W.vret hx hb hr (fun t ht hW => ⟨⟨(), rfl, trivial, by rw [ht]; exact hP, hD⟩, hS.F ht⟩) hS.2.2 d_Query_insert_24
    · replace h := (if_neg c12).symm.trans h
      refine lv_aload_n hx hb d_Query_insert_12 rfl (lv_at hl 0 rfl) ?_
      refine va_get (D := gD g) (ci := 1) (v := .int (t 13 0)) (C := R_Query) (T := T_Query) (N := 14) hx hb htb in_Query hown hK hP 0 rfl rfl 13 (by decide) (htb _ L_Query_54) (fun _ h9 => h9) rfl d_Query_insert_13 ?_
      refine lv_aload_n hx hb d_Query_insert_16 rfl (lv_at hl 0 rfl) ?_
      refine va_get (D := gD g) (ci := 1) (v := .ref (a_t 13)) (C := R_Query) (T := T_Query) (N := 14) hx hb htb in_Query hown hK hP 0 rfl rfl 12 (by decide) (htb _ L_Query_51) (fun _ h9 => h9) rfl d_Query_insert_17 ?_
      refine va_alen hx hb hK hP 10 0 rfl rfl rfl d_Query_insert_20 ?_
      refine lv_icmp_lt (tgt := 25) hx hb d_Query_insert_21 (by decide) (fun c13 => ?_) (fun c13 => ?_)
      · replace h := (if_pos c13).symm.trans h
        refine lv_aload_n hx hb d_Query_insert_25 rfl (lv_at hl 0 rfl) ?_
        refine va_get (D := gD g) (ci := 1) (v := .ref (a_t 13)) (C := R_Query) (T := T_Query) (N := 14) hx hb htb in_Query hown hK hP 0 rfl rfl 12 (by decide) (htb _ L_Query_51) (fun _ h9 => h9) rfl d_Query_insert_26 ?_
        refine lv_iload_n hx hb d_Query_insert_29 rfl (lv_at hl 1 rfl) ?_
        refine lv_aload_n hx hb d_Query_insert_30 rfl (lv_at hl 0 rfl) ?_
        refine va_get (D := gD g) (ci := 1) (v := .ref (a_t 13)) (C := R_Query) (T := T_Query) (N := 14) hx hb htb in_Query hown hK hP 0 rfl rfl 12 (by decide) (htb _ L_Query_51) (fun _ h9 => h9) rfl d_Query_insert_31 ?_
        refine lv_iload_n hx hb d_Query_insert_34 rfl (lv_at hl 1 rfl) ?_
        refine lv_iconst (v := 1) hx hb d_Query_insert_35 (by decide) ?_
        refine lv_iadd hx hb d_Query_insert_36 ?_
        refine lv_aload_n hx hb d_Query_insert_37 rfl (lv_at hl 0 rfl) ?_
        refine va_get (D := gD g) (ci := 1) (v := .int (t 13 0)) (C := R_Query) (T := T_Query) (N := 14) hx hb htb in_Query hown hK hP 0 rfl rfl 13 (by decide) (htb _ L_Query_54) (fun _ h9 => h9) rfl d_Query_insert_38 ?_
        refine lv_iload_n hx hb d_Query_insert_41 rfl (lv_at hl 1 rfl) ?_
        refine lv_isub hx hb d_Query_insert_42 ?_
        by_cases c14 : x1 < 0
        · replace h := (if_pos c14).symm.trans h
          cases h
        replace h := (if_neg c14).symm.trans h
        by_cases c15 : (x1 + (1 : Int32)) < 0
        · replace h := (if_pos c15).symm.trans h
          cases h
        replace h := (if_neg c15).symm.trans h
        by_cases c16 : ((t 13 0) - x1) < 0
        · replace h := (if_pos c16).symm.trans h
          cases h
        replace h := (if_neg c16).symm.trans h
        by_cases c17 : 229 < x1.toNatClampNeg + ((t 13 0) - x1).toNatClampNeg
        · replace h := (if_pos c17).symm.trans h
          cases h
        replace h := (if_neg c17).symm.trans h
        by_cases c18 : 229 < (x1 + (1 : Int32)).toNatClampNeg + ((t 13 0) - x1).toNatClampNeg
        · replace h := (if_pos c18).symm.trans h
          cases h
        replace h := (if_neg c18).symm.trans h
        refine va_copyi hx hb (hml.trans hl.1.symm) hown (htb _ L_Query_66) (htb _ W_copy_native) (htb _ W_copy_static) (htb _ W_system_init) hK hP hD hS 10 10 0 0 rfl rfl rfl rfl rfl c14 c15 c16 (Nat.not_lt.mp c17) (Nat.not_lt.mp c18) (fun _ _ => rfl) (Nat.le_of_ble_eq_true rfl) (by decide +kernel) d_Query_insert_43 (fun H locs hP hD hS => ?_)
        have hP : va_P (gD g) vwCl ((pic_Query g a_t (va_up t 12 (va_cpy (t 12) (t 12) x1.toNatClampNeg (x1 + (1 : Int32)).toNatClampNeg ((t 13 0) - x1).toNatClampNeg)))) H := hP
        have hD : va_D A ((pic_Query g a_t (va_up t 12 (va_cpy (t 12) (t 12) x1.toNatClampNeg (x1 + (1 : Int32)).toNatClampNeg ((t 13 0) - x1).toNatClampNeg)))) := hD
        refine lv_aload_n hx hb d_Query_insert_46 rfl (lv_at hl 0 rfl) ?_
        refine va_get (D := gD g) (ci := 1) (v := .ref (a_t 13)) (C := R_Query) (T := T_Query) (N := 14) hx hb htb in_Query hown hK hP 0 rfl rfl 12 (by decide) (htb _ L_Query_51) (fun _ h9 => h9) rfl d_Query_insert_47 ?_
        refine lv_iload_n hx hb d_Query_insert_50 rfl (lv_at hl 1 rfl) ?_
        refine lv_iload_n hx hb d_Query_insert_51 rfl (lv_at hl 2 rfl) ?_
        by_cases c20 : (x1 < 0 ∨ 229 ≤ x1.toNatClampNeg)
        · replace h := (if_pos c20).symm.trans h
          cases h
        replace h := (if_neg c20).symm.trans h
        refine va_iast hx hb hK hP hD hS 10 0 rfl rfl c20 d_Query_insert_52 (fun H locs hP hD hS => ?_)
        have hP : va_P (gD g) vwCl ((pic_Query g a_t (va_up t 12 (upd (va_cpy (t 12) (t 12) x1.toNatClampNeg (x1 + (1 : Int32)).toNatClampNeg ((t 13 0) - x1).toNatClampNeg) x1.toNatClampNeg x2)))) H := hP
        have hD : va_D A ((pic_Query g a_t (va_up t 12 (upd (va_cpy (t 12) (t 12) x1.toNatClampNeg (x1 + (1 : Int32)).toNatClampNeg ((t 13 0) - x1).toNatClampNeg) x1.toNatClampNeg x2)))) := hD
        refine lv_aload_n hx hb d_Query_insert_53 rfl (lv_at hl 0 rfl) ?_
        refine lv_dup hx hb d_Query_insert_54 rfl ?_
        refine va_get (D := gD g) (ci := 1) (v := .int (t 13 0)) (C := R_Query) (T := T_Query) (N := 14) hx hb htb in_Query hown hK hP 0 rfl rfl 13 (by decide) (htb _ L_Query_54) (fun _ h9 => h9) rfl d_Query_insert_55 ?_
        refine lv_iconst (v := 1) hx hb d_Query_insert_58 (by decide) ?_
        refine lv_iadd hx hb d_Query_insert_59 ?_
        refine va_put (D := gD g) (ci := 1) (v := .int ((t 13 0) + (1 : Int32))) (ty := .int) (C := R_Query) (T := T_Query) (N := 14) hx hb htb in_Query ty_Query ty_Query_ok nm_Query hown hK hP hD hS 0 rfl rfl 13 (by decide) (htb _ L_Query_54) (fun _ h9 => h9) rfl (by decide +kernel) rfl rfl (Nat.le_of_ble_eq_true rfl) d_Query_insert_60 (fun H locs hP hD hS => ?_)
        have hP : va_P (gD g) vwCl ((pic_Query g a_t (va_up (va_up t 12 (upd (va_cpy (t 12) (t 12) x1.toNatClampNeg (x1 + (1 : Int32)).toNatClampNeg ((t 13 0) - x1).toNatClampNeg) x1.toNatClampNeg x2)) 13 (fun _ => ((t 13 0) + (1 : Int32)))))) H := hP
        have hD : va_D A ((pic_Query g a_t (va_up (va_up t 12 (upd (va_cpy (t 12) (t 12) x1.toNatClampNeg (x1 + (1 : Int32)).toNatClampNeg ((t 13 0) - x1).toNatClampNeg) x1.toNatClampNeg x2)) 13 (fun _ => ((t 13 0) + (1 : Int32)))))) := hD
        cases h
        exact W.vret hx hb hr (fun t ht hW => ⟨⟨(), rfl, trivial, by rw [ht]; exact hP, hD⟩, hS.F ht⟩) hS.2.2 d_Query_insert_63
      · replace h := (if_neg c13).symm.trans h
        cases h
        exact W.vret hx hb hr (fun t ht hW => ⟨⟨(), rfl, trivial, by rw [ht]; exact hP, hD⟩, hS.F ht⟩) hS.2.2 d_Query_insert_24
theorem c_Query_insert (l : Launch) (g : Gz) (F : Nat) (a_t : Nat → Nat) (t : StI) (x1 : Int32) (x2 : Int32) (res : StI) (h : Query_insert F t x1 x2 = some res) : ∀ sz : Nat, Met l y_Query_insert (.code y_Query_insert prog_5_method_9_code 3 none :: TBL) rm_Query_insert (va_Pc [.ref (a_t 0), .int x1, .int x2] (Pre0 g ((pic_Query g a_t t)) sz)) (EV g ((pic_Query g a_t res)) (va_A ((pic_Query g a_t t)) sz)) 0 0 (va_A ((pic_Query g a_t t)) sz) :=
  ct_w (Qc := fun A => EV g ((pic_Query g a_t res)) A) (by decide) (Nat.le_of_ble_eq_true rfl) (fun p e s m args below meth c A hC => k_Query_insert hC t x1 x2 res h)
def Query_append (F : Nat) (t : StI) (x1 : Int32) : Option (StI) := (Query_insert F t (t 13 0) x1).bind fun r2 => some r2
set_option maxHeartbeats 4000000 in
set_option maxRecDepth 100000 in
theorem k_Query_append {p : Program} {l : Launch} {e : Env} {s : State} {m : MethodId} {args : Array Value} {below : List Frame} {meth : Method} {c : Code} {g : Gz} {A : Nat → Prop} {F : Nat} {a_t : Nat → Nat} (hC : Cx prog_5_method_10_code 2 none R_Query p s m args meth c g A A) : ∀ (t : StI) (x1 : Int32) (res : StI), Query_append F t x1 = some res → Go p l e rm_Query_append s m args below meth c g A A 2 (MQ below (EV g ((pic_Query g a_t res)) A) args s 0 0 A) ((pic_Query g a_t t)) [(0, .ref (a_t 0)), (1, .int x1)] 0 [] := by
  obtain ⟨hx, hb, hr, hml, hown, htb, hlocks, hA, hAA, hG⟩ := id hC
  have hK := hG.1
  intro t x1 res h H locs ls hP hD hS hl
  rw [Query_append] at h
  refine lv_aload_n hx hb d_Query_append_0 rfl (lv_at hl 0 rfl) ?_
  refine lv_aload_n hx hb d_Query_append_1 rfl (lv_at hl 0 rfl) ?_
  refine va_get (D := gD g) (ci := 1) (v := .int (t 13 0)) (C := R_Query) (T := T_Query) (N := 14) hx hb htb in_Query hown hK hP 0 rfl rfl 13 (by decide) (htb _ L_Query_54) (fun _ h9 => h9) rfl d_Query_append_2 ?_
  refine lv_iload_n hx hb d_Query_append_5 rfl (lv_at hl 1 rfl) ?_
  obtain ⟨r2, hr2, h⟩ := Option.bind_eq_some_iff.mp h
  refine cl_V [0, 1, 2, 3, 4, 5, 6, 7, 8, 9, 10] [] rfl rfl rfl (by decide) hP hD hS hA (va_runV (As := [.int (t 13 0), .int x1]) (rest := []) ⟨hx, hb, hml, hown, htb⟩ (c_Query_insert l g F a_t t (t 13 0) x1 _ hr2 H.size) (cw_V 2 htb mb_Query_insert (htb _ L_Query_85) ⟨Nat.le_of_ble_eq_true rfl, Nat.le_of_ble_eq_true rfl⟩) (pre_V (va_recv hK hP (ci := 1) (q0 := 0) rfl rfl) (pre_S [0, 1, 2, 3, 4, 5, 6, 7, 8, 9, 10] rfl rfl hP hD hS hA hAA hG)) rfl rfl hl.1 rfl (lv_room (Nat.le_of_ble_eq_true rfl)) d_Query_append_6 ⟨Nat.zero_le _, Nat.zero_le _⟩) (fun H locs hP hD hS => ?_)
  have hP : va_P (gD g) vwCl ((pic_Query g a_t r2)) H := hP.sub [0, 1, 2, 3, 4, 5, 6, 7, 8, 9, 10] rfl
  have hD : va_D A ((pic_Query g a_t r2)) := hD.sub [0, 1, 2, 3, 4, 5, 6, 7, 8, 9, 10] rfl rfl
  cases h
  exact W.vret hx hb hr (fun t ht hW => ⟨⟨(), rfl, trivial, by rw [ht]; exact hP, hD⟩, hS.F ht⟩) hS.2.2 d_Query_append_9
theorem c_Query_append (l : Launch) (g : Gz) (F : Nat) (a_t : Nat → Nat) (t : StI) (x1 : Int32) (res : StI) (h : Query_append F t x1 = some res) : ∀ sz : Nat, Met l y_Query_append (.code y_Query_append prog_5_method_10_code 2 none :: TBL) rm_Query_append (va_Pc [.ref (a_t 0), .int x1] (Pre0 g ((pic_Query g a_t t)) sz)) (EV g ((pic_Query g a_t res)) (va_A ((pic_Query g a_t t)) sz)) 0 0 (va_A ((pic_Query g a_t t)) sz) :=
  ct_w (Qc := fun A => EV g ((pic_Query g a_t res)) A) (by decide) (Nat.le_of_ble_eq_true rfl) (fun p e s m args below meth c A hC => k_Query_append hC t x1 res h)
