theorem L_Pile_7 : (Jvm.Cond.fieldLink "MailQueries$Pile" (7 : Nat) "MailQueries$Pile" "top" "I") ∈ TBL := TBL_in (List.mem_of_getElem? (i := 268) (by decide +kernel)) (by decide +kernel)
set_option maxRecDepth 100000 in
theorem W_Pile_clear_code : (Jvm.Cond.code ({ cls := "MailQueries$Pile", name := "clear", desc := "()V" } : Jvm.MethodName) prog_3_method_2_code (1 : Nat) (Option.none : Option Jvm.ClassFile.FieldType)) ∈ TBL := TBL_in (List.mem_of_getElem? (i := 429) rfl) rfl
theorem I_Pile : (Jvm.Cond.initialized "MailQueries$Pile") ∈ TBL := TBL_in (List.mem_of_getElem? (i := 106) (by decide +kernel)) (by decide +kernel)
theorem W_Pile_clear_in : (Jvm.Cond.instanceMethod ({ cls := "MailQueries$Pile", name := "clear", desc := "()V" } : Jvm.MethodName)) ∈ TBL := TBL_in (List.mem_of_getElem? (i := 427) (by decide +kernel)) (by decide +kernel)
theorem W_Pile_clear_se : (Jvm.Cond.selects "MailQueries$Pile" ({ cls := "MailQueries$Pile", name := "clear", desc := "()V" } : Jvm.MethodName) ({ cls := "MailQueries$Pile", name := "clear", desc := "()V" } : Jvm.MethodName)) ∈ TBL := TBL_in (List.mem_of_getElem? (i := 428) (by decide +kernel)) (by decide +kernel)
set_option maxRecDepth 100000 in
theorem W_Pile_isEmpty_code : (Jvm.Cond.code ({ cls := "MailQueries$Pile", name := "isEmpty", desc := "()Z" } : Jvm.MethodName) prog_3_method_3_code (1 : Nat) (Option.some Jvm.ClassFile.FieldType.boolean)) ∈ TBL := TBL_in (List.mem_of_getElem? (i := 437) rfl) rfl
theorem W_Pile_isEmpty_in : (Jvm.Cond.instanceMethod ({ cls := "MailQueries$Pile", name := "isEmpty", desc := "()Z" } : Jvm.MethodName)) ∈ TBL := TBL_in (List.mem_of_getElem? (i := 435) (by decide +kernel)) (by decide +kernel)
theorem W_Pile_isEmpty_se : (Jvm.Cond.selects "MailQueries$Pile" ({ cls := "MailQueries$Pile", name := "isEmpty", desc := "()Z" } : Jvm.MethodName) ({ cls := "MailQueries$Pile", name := "isEmpty", desc := "()Z" } : Jvm.MethodName)) ∈ TBL := TBL_in (List.mem_of_getElem? (i := 436) (by decide +kernel)) (by decide +kernel)
theorem L_Pile_13 : (Jvm.Cond.fieldLink "MailQueries$Pile" (13 : Nat) "MailQueries$Pile" "held" "[J") ∈ TBL := TBL_in (List.mem_of_getElem? (i := 267) (by decide +kernel)) (by decide +kernel)
set_option maxRecDepth 100000 in
theorem W_Pile_push_code : (Jvm.Cond.code ({ cls := "MailQueries$Pile", name := "push", desc := "(J)V" } : Jvm.MethodName) prog_3_method_4_code (3 : Nat) (Option.none : Option Jvm.ClassFile.FieldType)) ∈ TBL := TBL_in (List.mem_of_getElem? (i := 433) rfl) rfl
theorem W_Pile_push_in : (Jvm.Cond.instanceMethod ({ cls := "MailQueries$Pile", name := "push", desc := "(J)V" } : Jvm.MethodName)) ∈ TBL := TBL_in (List.mem_of_getElem? (i := 431) (by decide +kernel)) (by decide +kernel)
theorem W_Pile_push_se : (Jvm.Cond.selects "MailQueries$Pile" ({ cls := "MailQueries$Pile", name := "push", desc := "(J)V" } : Jvm.MethodName) ({ cls := "MailQueries$Pile", name := "push", desc := "(J)V" } : Jvm.MethodName)) ∈ TBL := TBL_in (List.mem_of_getElem? (i := 432) (by decide +kernel)) (by decide +kernel)
set_option maxRecDepth 100000 in
theorem W_Pile_pop_code : (Jvm.Cond.code ({ cls := "MailQueries$Pile", name := "pop", desc := "()J" } : Jvm.MethodName) prog_3_method_5_code (1 : Nat) (Option.some Jvm.ClassFile.FieldType.long)) ∈ TBL := TBL_in (List.mem_of_getElem? (i := 441) rfl) rfl
theorem W_Pile_pop_in : (Jvm.Cond.instanceMethod ({ cls := "MailQueries$Pile", name := "pop", desc := "()J" } : Jvm.MethodName)) ∈ TBL := TBL_in (List.mem_of_getElem? (i := 439) (by decide +kernel)) (by decide +kernel)
theorem W_Pile_pop_se : (Jvm.Cond.selects "MailQueries$Pile" ({ cls := "MailQueries$Pile", name := "pop", desc := "()J" } : Jvm.MethodName) ({ cls := "MailQueries$Pile", name := "pop", desc := "()J" } : Jvm.MethodName)) ∈ TBL := TBL_in (List.mem_of_getElem? (i := 440) (by decide +kernel)) (by decide +kernel)
def y_Pile_clear : MethodName := ⟨"MailQueries$Pile", "clear", "()V"⟩
def rm_Pile_clear : Room := { frames := 0, cells := 0, slots := 0, locals := 0 }
theorem d_Pile_clear_0 : decode prog_3_method_2_code 0 = .ok (.aload_n 0, 1) := by decide +kernel
theorem d_Pile_clear_1 : decode prog_3_method_2_code 1 = .ok (.iconst 0, 1) := by decide +kernel
theorem d_Pile_clear_2 : decode prog_3_method_2_code 2 = .ok (.putfield 7, 3) := by decide +kernel
theorem d_Pile_clear_5 : decode prog_3_method_2_code 5 = .ok (.return_, 1) := by decide +kernel
def y_Pile_isEmpty : MethodName := ⟨"MailQueries$Pile", "isEmpty", "()Z"⟩
def rm_Pile_isEmpty : Room := { frames := 0, cells := 0, slots := 0, locals := 0 }
theorem d_Pile_isEmpty_0 : decode prog_3_method_3_code 0 = .ok (.aload_n 0, 1) := by decide +kernel
theorem d_Pile_isEmpty_1 : decode prog_3_method_3_code 1 = .ok (.getfield 7, 3) := by decide +kernel
theorem d_Pile_isEmpty_4 : decode prog_3_method_3_code 4 = .ok (.ifCond .ne 7, 3) := by decide +kernel
theorem d_Pile_isEmpty_7 : decode prog_3_method_3_code 7 = .ok (.iconst 1, 1) := by decide +kernel
theorem d_Pile_isEmpty_8 : decode prog_3_method_3_code 8 = .ok (.goto 4, 3) := by decide +kernel
theorem d_Pile_isEmpty_11 : decode prog_3_method_3_code 11 = .ok (.iconst 0, 1) := by decide +kernel
theorem d_Pile_isEmpty_12 : decode prog_3_method_3_code 12 = .ok (.ireturn, 1) := by decide +kernel
def y_Pile_push : MethodName := ⟨"MailQueries$Pile", "push", "(J)V"⟩
def rm_Pile_push : Room := { frames := 0, cells := 0, slots := 0, locals := 0 }
theorem d_Pile_push_0 : decode prog_3_method_4_code 0 = .ok (.aload_n 0, 1) := by decide +kernel
theorem d_Pile_push_1 : decode prog_3_method_4_code 1 = .ok (.getfield 7, 3) := by decide +kernel
theorem d_Pile_push_4 : decode prog_3_method_4_code 4 = .ok (.aload_n 0, 1) := by decide +kernel
theorem d_Pile_push_5 : decode prog_3_method_4_code 5 = .ok (.getfield 13, 3) := by decide +kernel
theorem d_Pile_push_8 : decode prog_3_method_4_code 8 = .ok (.arraylength, 1) := by decide +kernel
theorem d_Pile_push_9 : decode prog_3_method_4_code 9 = .ok (.if_icmp .ge 23, 3) := by decide +kernel
theorem d_Pile_push_12 : decode prog_3_method_4_code 12 = .ok (.aload_n 0, 1) := by decide +kernel
theorem d_Pile_push_13 : decode prog_3_method_4_code 13 = .ok (.getfield 13, 3) := by decide +kernel
theorem d_Pile_push_16 : decode prog_3_method_4_code 16 = .ok (.aload_n 0, 1) := by decide +kernel
theorem d_Pile_push_17 : decode prog_3_method_4_code 17 = .ok (.getfield 7, 3) := by decide +kernel
theorem d_Pile_push_20 : decode prog_3_method_4_code 20 = .ok (.lload_n 1, 1) := by decide +kernel
theorem d_Pile_push_21 : decode prog_3_method_4_code 21 = .ok (.lastore, 1) := by decide +kernel
theorem d_Pile_push_22 : decode prog_3_method_4_code 22 = .ok (.aload_n 0, 1) := by decide +kernel
theorem d_Pile_push_23 : decode prog_3_method_4_code 23 = .ok (.dup, 1) := by decide +kernel
theorem d_Pile_push_24 : decode prog_3_method_4_code 24 = .ok (.getfield 7, 3) := by decide +kernel
theorem d_Pile_push_27 : decode prog_3_method_4_code 27 = .ok (.iconst 1, 1) := by decide +kernel
theorem d_Pile_push_28 : decode prog_3_method_4_code 28 = .ok (.iadd, 1) := by decide +kernel
theorem d_Pile_push_29 : decode prog_3_method_4_code 29 = .ok (.putfield 7, 3) := by decide +kernel
theorem d_Pile_push_32 : decode prog_3_method_4_code 32 = .ok (.return_, 1) := by decide +kernel
def y_Pile_pop : MethodName := ⟨"MailQueries$Pile", "pop", "()J"⟩
def rm_Pile_pop : Room := { frames := 0, cells := 0, slots := 0, locals := 0 }
theorem d_Pile_pop_0 : decode prog_3_method_5_code 0 = .ok (.aload_n 0, 1) := by decide +kernel
theorem d_Pile_pop_1 : decode prog_3_method_5_code 1 = .ok (.getfield 7, 3) := by decide +kernel
theorem d_Pile_pop_4 : decode prog_3_method_5_code 4 = .ok (.ifCond .gt 5, 3) := by decide +kernel
theorem d_Pile_pop_7 : decode prog_3_method_5_code 7 = .ok (.lconst 0, 1) := by decide +kernel
theorem d_Pile_pop_8 : decode prog_3_method_5_code 8 = .ok (.lreturn, 1) := by decide +kernel
theorem d_Pile_pop_9 : decode prog_3_method_5_code 9 = .ok (.aload_n 0, 1) := by decide +kernel
theorem d_Pile_pop_10 : decode prog_3_method_5_code 10 = .ok (.dup, 1) := by decide +kernel
theorem d_Pile_pop_11 : decode prog_3_method_5_code 11 = .ok (.getfield 7, 3) := by decide +kernel
theorem d_Pile_pop_14 : decode prog_3_method_5_code 14 = .ok (.iconst 1, 1) := by decide +kernel
theorem d_Pile_pop_15 : decode prog_3_method_5_code 15 = .ok (.isub, 1) := by decide +kernel
theorem d_Pile_pop_16 : decode prog_3_method_5_code 16 = .ok (.putfield 7, 3) := by decide +kernel
theorem d_Pile_pop_19 : decode prog_3_method_5_code 19 = .ok (.aload_n 0, 1) := by decide +kernel
theorem d_Pile_pop_20 : decode prog_3_method_5_code 20 = .ok (.getfield 13, 3) := by decide +kernel
theorem d_Pile_pop_23 : decode prog_3_method_5_code 23 = .ok (.aload_n 0, 1) := by decide +kernel
theorem d_Pile_pop_24 : decode prog_3_method_5_code 24 = .ok (.getfield 7, 3) := by decide +kernel
theorem d_Pile_pop_27 : decode prog_3_method_5_code 27 = .ok (.laload, 1) := by decide +kernel
theorem d_Pile_pop_28 : decode prog_3_method_5_code 28 = .ok (.lreturn, 1) := by decide +kernel
theorem mb_Pile_clear : Mb y_Pile_clear prog_3_method_2_code 1 none 0 := ⟨W_Pile_clear_code, W_Pile_clear_in, W_Pile_clear_se, I_Pile, by decide +kernel, by decide +kernel, by decide +kernel⟩
theorem mb_Pile_isEmpty : Mb y_Pile_isEmpty prog_3_method_3_code 1 (some .boolean) 0 := ⟨W_Pile_isEmpty_code, W_Pile_isEmpty_in, W_Pile_isEmpty_se, I_Pile, by decide +kernel, by decide +kernel, by decide +kernel⟩
theorem mb_Pile_push : Mb y_Pile_push prog_3_method_4_code 3 none 1 := ⟨W_Pile_push_code, W_Pile_push_in, W_Pile_push_se, I_Pile, by decide +kernel, by decide +kernel, by decide +kernel⟩
theorem mb_Pile_pop : Mb y_Pile_pop prog_3_method_5_code 1 (some .long) 0 := ⟨W_Pile_pop_code, W_Pile_pop_in, W_Pile_pop_se, I_Pile, by decide +kernel, by decide +kernel, by decide +kernel⟩
def Pile_clear (F : Nat) (tN : Nat) (t : StI) (tL : StL) : Option (StI × StL) := letS (va_up t 1 (fun _ => (0 : Int32))) fun t_2 => some (t_2, tL)
set_option maxHeartbeats 4000000 in
set_option maxRecDepth 100000 in
theorem k_Pile_clear {p : Program} {l : Launch} {e : Env} {s : State} {m : MethodId} {args : Array Value} {below : List Frame} {meth : Method} {c : Code} {g : Gz} {A : Nat → Prop} {F : Nat} {a_t : Nat → Nat} (hC : Cx prog_3_method_2_code 1 none R_Pile p s m args meth c g A A) : ∀ (tN : Nat) (t : StI) (tL : StL) (res : StI × StL), Pile_clear F tN t tL = some res → Go p l e rm_Pile_clear s m args below meth c g A A 1 (MQ below (EV g ((pic_Pile g a_t tN res.1 res.2)) A) args s 0 0 A) ((pic_Pile g a_t tN t tL)) [(0, .ref (a_t 0))] 0 [] := by
  obtain ⟨hx, hb, hr, hml, hown, htb, hlocks, hA, hAA, hG⟩ := id hC
  have hK := hG.1
  intro tN t tL res h H locs ls hP hD hS hl
  rw [Pile_clear] at h
  refine lv_aload_n hx hb d_Pile_clear_0 rfl (lv_at hl 0 rfl) ?_
  refine lv_iconst (v := 0) hx hb d_Pile_clear_1 (by decide) ?_
  refine va_put (D := gD g) (ci := 0) (v := .int (0 : Int32)) (ty := .int) (C := R_Pile) (T := T_Pile) (N := 2) hx hb htb in_Pile ty_Pile ty_Pile_ok nm_Pile hown hK hP hD hS 0 rfl rfl 1 (by decide) (htb _ L_Pile_7) (fun _ h9 => h9) rfl (by decide +kernel) rfl rfl (Nat.le_of_ble_eq_true rfl) d_Pile_clear_2 (fun H locs hP hD hS => ?_)
  obtain ⟨t_2, et_2, h⟩ := letS_el h
  have hP : va_P (gD g) vwCl ((pic_Pile g a_t tN t_2 tL)) H := by rw [et_2]; exact hP
  have hD : va_D A ((pic_Pile g a_t tN t_2 tL)) := by rw [et_2]; exact hD
  cases h
  exact W.vret hx hb hr (fun t ht hW => ⟨⟨(), rfl, trivial, by rw [ht]; exact hP, hD⟩, hS.F ht⟩) hS.2.2 d_Pile_clear_5
theorem c_Pile_clear (l : Launch) (g : Gz) (F : Nat) (a_t : Nat → Nat) (tN : Nat) (t : StI) (tL : StL) (res : StI × StL) (h : Pile_clear F tN t tL = some res) : ∀ sz : Nat, Met l y_Pile_clear (.code y_Pile_clear prog_3_method_2_code 1 none :: TBL) rm_Pile_clear (va_Pc [.ref (a_t 0)] (Pre0 g ((pic_Pile g a_t tN t tL)) sz)) (EV g ((pic_Pile g a_t tN res.1 res.2)) (va_A ((pic_Pile g a_t tN t tL)) sz)) 0 0 (va_A ((pic_Pile g a_t tN t tL)) sz) :=
  ct_w (Qc := fun A => EV g ((pic_Pile g a_t tN res.1 res.2)) A) (by decide) (Nat.le_of_ble_eq_true rfl) (fun p e s m args below meth c A hC => k_Pile_clear hC tN t tL res h)
def Pile_isEmpty (F : Nat) (tN : Nat) (t : StI) (tL : StL) : Option (Int32) := if (t 1 0) = 0 then some (1 : Int32) else some (0 : Int32)
set_option maxHeartbeats 4000000 in
set_option maxRecDepth 100000 in
theorem k_Pile_isEmpty {p : Program} {l : Launch} {e : Env} {s : State} {m : MethodId} {args : Array Value} {below : List Frame} {meth : Method} {c : Code} {g : Gz} {A2 A : Nat → Prop} {F : Nat} {a_t : Nat → Nat} (hC : Cx prog_3_method_3_code 1 (some .boolean) R_Pile p s m args meth c g A2 A) : ∀ (tN : Nat) (t : StI) (tL : StL) (res : Int32), Pile_isEmpty F tN t tL = some res → Go p l e rm_Pile_isEmpty s m args below meth c g A2 A 1 (MQ below (RI res A) args s 0 0 A) ((pic_Pile g a_t tN t tL)) [(0, .ref (a_t 0))] 0 [] := by
  obtain ⟨hx, hb, hr, hml, hown, htb, hlocks, hA, hAA, hG⟩ := id hC
  have hK := hG.1
  intro tN t tL res h H locs ls hP hD hS hl
  rw [Pile_isEmpty] at h
  refine lv_aload_n hx hb d_Pile_isEmpty_0 rfl (lv_at hl 0 rfl) ?_
  refine va_get (D := gD g) (ci := 0) (v := .int (t 1 0)) (C := R_Pile) (T := T_Pile) (N := 2) hx hb htb in_Pile hown hK hP 0 rfl rfl 1 (by decide) (htb _ L_Pile_7) (fun _ h9 => h9) rfl d_Pile_isEmpty_1 ?_
  refine lv_if_ne (tgt := 11) hx hb d_Pile_isEmpty_4 (by decide) (fun c2 => ?_) (fun c2 => ?_)
  · replace h := (if_neg c2).symm.trans h
    refine lv_iconst (v := 0) hx hb d_Pile_isEmpty_11 (by decide) ?_
    cases h
    exact W.zret hx hb hr rfl (fun t ht hW => ⟨⟨_, (), rfl, rfl, trivial⟩, hS.F ht⟩) hS.2.2 d_Pile_isEmpty_12
  · replace h := (if_pos c2).symm.trans h
    refine lv_iconst (v := 1) hx hb d_Pile_isEmpty_7 (by decide) ?_
    refine lv_goto (tgt := 12) hx hb d_Pile_isEmpty_8 (by decide) ?_
    cases h
    exact W.zret hx hb hr rfl (fun t ht hW => ⟨⟨_, (), rfl, rfl, trivial⟩, hS.F ht⟩) hS.2.2 d_Pile_isEmpty_12
theorem c_Pile_isEmpty (l : Launch) (g : Gz) (F : Nat) (a_t : Nat → Nat) (tN : Nat) (t : StI) (tL : StL) (res : Int32) (h : Pile_isEmpty F tN t tL = some res) : ∀ sz : Nat, Met l y_Pile_isEmpty (.code y_Pile_isEmpty prog_3_method_3_code 1 (some .boolean) :: TBL) rm_Pile_isEmpty (va_Pc [.ref (a_t 0)] (Pre0 g ((pic_Pile g a_t tN t tL)) sz)) (RI res (fun q => sz ≤ q)) 0 0 (fun q => sz ≤ q) :=
  ct_r (Qc := fun A => RI res A) (by decide) (Nat.le_of_ble_eq_true rfl) (fun p e s m args below meth c A2 A hC => k_Pile_isEmpty hC tN t tL res h)
def Pile_push (F : Nat) (tN : Nat) (t : StI) (tL : StL) (x1 : Int64) : Option (StI × StL) := if (Int32.ofNat tN) ≤ (t 1 0) then some (t, tL) else if (t 1 0) < 0 ∨ tN ≤ (t 1 0).toNatClampNeg then none else letS (va_up tL 0 (vp_updL (tL 0) (t 1 0).toNatClampNeg x1)) fun t_6 => letS (va_up t 1 (fun _ => ((t 1 0) + (1 : Int32)))) fun t_8 => some (t_8, t_6)
set_option maxHeartbeats 4000000 in
set_option maxRecDepth 100000 in
theorem k_Pile_push {p : Program} {l : Launch} {e : Env} {s : State} {m : MethodId} {args : Array Value} {below : List Frame} {meth : Method} {c : Code} {g : Gz} {A : Nat → Prop} {F : Nat} {a_t : Nat → Nat} (hC : Cx prog_3_method_4_code 3 none R_Pile p s m args meth c g A A) : ∀ (tN : Nat) (t : StI) (tL : StL) (x1 : Int64) (res : StI × StL), Pile_push F tN t tL x1 = some res → Go p l e rm_Pile_push s m args below meth c g A A 3 (MQ below (EV g ((pic_Pile g a_t tN res.1 res.2)) A) args s 0 0 A) ((pic_Pile g a_t tN t tL)) [(0, .ref (a_t 0)), (1, .long x1)] 0 [] := by
  obtain ⟨hx, hb, hr, hml, hown, htb, hlocks, hA, hAA, hG⟩ := id hC
  have hK := hG.1
  intro tN t tL x1 res h H locs ls hP hD hS hl
  rw [Pile_push] at h
  refine lv_aload_n hx hb d_Pile_push_0 rfl (lv_at hl 0 rfl) ?_
  refine va_get (D := gD g) (ci := 0) (v := .int (t 1 0)) (C := R_Pile) (T := T_Pile) (N := 2) hx hb htb in_Pile hown hK hP 0 rfl rfl 1 (by decide) (htb _ L_Pile_7) (fun _ h9 => h9) rfl d_Pile_push_1 ?_
  refine lv_aload_n hx hb d_Pile_push_4 rfl (lv_at hl 0 rfl) ?_
  refine va_get (D := gD g) (ci := 0) (v := .ref (a_t 1)) (C := R_Pile) (T := T_Pile) (N := 2) hx hb htb in_Pile hown hK hP 0 rfl rfl 0 (by decide) (htb _ L_Pile_13) (fun _ h9 => h9) rfl d_Pile_push_5 ?_
  refine va_alen hx hb hK hP 1 3 rfl rfl rfl d_Pile_push_8 ?_
  refine lv_icmp_ge (tgt := 32) hx hb d_Pile_push_9 (by decide) (fun c5 => ?_) (fun c5 => ?_)
  · replace h := (if_pos c5).symm.trans h
    cases h
    exact W.vret hx hb hr (fun t ht hW => ⟨⟨(), rfl, trivial, by rw [ht]; exact hP, hD⟩, hS.F ht⟩) hS.2.2 d_Pile_push_32
  · replace h := (if_neg c5).symm.trans h
    refine lv_aload_n hx hb d_Pile_push_12 rfl (lv_at hl 0 rfl) ?_
    refine va_get (D := gD g) (ci := 0) (v := .ref (a_t 1)) (C := R_Pile) (T := T_Pile) (N := 2) hx hb htb in_Pile hown hK hP 0 rfl rfl 0 (by decide) (htb _ L_Pile_13) (fun _ h9 => h9) rfl d_Pile_push_13 ?_
    refine lv_aload_n hx hb d_Pile_push_16 rfl (lv_at hl 0 rfl) ?_
    refine va_get (D := gD g) (ci := 0) (v := .int (t 1 0)) (C := R_Pile) (T := T_Pile) (N := 2) hx hb htb in_Pile hown hK hP 0 rfl rfl 1 (by decide) (htb _ L_Pile_7) (fun _ h9 => h9) rfl d_Pile_push_17 ?_
    refine lv_lload_n hx hb d_Pile_push_20 rfl (lv_at hl 1 rfl) ?_
    by_cases c7 : ((t 1 0) < 0 ∨ tN ≤ (t 1 0).toNatClampNeg)
    · replace h := (if_pos c7).symm.trans h
      cases h
    replace h := (if_neg c7).symm.trans h
    refine va_last hx hb hK hP hD hS 1 3 rfl rfl c7 d_Pile_push_21 (fun H locs hP hD hS => ?_)
    obtain ⟨t_6, et_6, h⟩ := letS_el h
    have hP : va_P (gD g) vwCl ((pic_Pile g a_t tN t t_6)) H := by rw [et_6]; exact hP
    have hD : va_D A ((pic_Pile g a_t tN t t_6)) := by rw [et_6]; exact hD
    refine lv_aload_n hx hb d_Pile_push_22 rfl (lv_at hl 0 rfl) ?_
    refine lv_dup hx hb d_Pile_push_23 rfl ?_
    refine va_get (D := gD g) (ci := 0) (v := .int (t 1 0)) (C := R_Pile) (T := T_Pile) (N := 2) hx hb htb in_Pile hown hK hP 0 rfl rfl 1 (by decide) (htb _ L_Pile_7) (fun _ h9 => h9) rfl d_Pile_push_24 ?_
    refine lv_iconst (v := 1) hx hb d_Pile_push_27 (by decide) ?_
    refine lv_iadd hx hb d_Pile_push_28 ?_
    refine va_put (D := gD g) (ci := 0) (v := .int ((t 1 0) + (1 : Int32))) (ty := .int) (C := R_Pile) (T := T_Pile) (N := 2) hx hb htb in_Pile ty_Pile ty_Pile_ok nm_Pile hown hK hP hD hS 0 rfl rfl 1 (by decide) (htb _ L_Pile_7) (fun _ h9 => h9) rfl (by decide +kernel) rfl rfl (Nat.le_of_ble_eq_true rfl) d_Pile_push_29 (fun H locs hP hD hS => ?_)
    obtain ⟨t_8, et_8, h⟩ := letS_el h
    have hP : va_P (gD g) vwCl ((pic_Pile g a_t tN t_8 t_6)) H := by rw [et_8]; exact hP
    have hD : va_D A ((pic_Pile g a_t tN t_8 t_6)) := by rw [et_8]; exact hD
    cases h
    exact W.vret hx hb hr (fun t ht hW => ⟨⟨(), rfl, trivial, by rw [ht]; exact hP, hD⟩, hS.F ht⟩) hS.2.2 d_Pile_push_32
theorem c_Pile_push (l : Launch) (g : Gz) (F : Nat) (a_t : Nat → Nat) (tN : Nat) (t : StI) (tL : StL) (x1 : Int64) (res : StI × StL) (h : Pile_push F tN t tL x1 = some res) : ∀ sz : Nat, Met l y_Pile_push (.code y_Pile_push prog_3_method_4_code 3 none :: TBL) rm_Pile_push (va_Pc [.ref (a_t 0), .long x1] (Pre0 g ((pic_Pile g a_t tN t tL)) sz)) (EV g ((pic_Pile g a_t tN res.1 res.2)) (va_A ((pic_Pile g a_t tN t tL)) sz)) 0 0 (va_A ((pic_Pile g a_t tN t tL)) sz) :=
  ct_w (Qc := fun A => EV g ((pic_Pile g a_t tN res.1 res.2)) A) (by decide) (Nat.le_of_ble_eq_true rfl) (fun p e s m args below meth c A hC => k_Pile_push hC tN t tL x1 res h)
def Pile_pop (F : Nat) (tN : Nat) (t : StI) (tL : StL) : Option (Int64 × StI × StL) := if 0 < (t 1 0) then letS (va_up t 1 (fun _ => ((t 1 0) - (1 : Int32)))) fun t_5 => if (t_5 1 0) < 0 ∨ tN ≤ (t_5 1 0).toNatClampNeg then none else some (((tL 0) (t_5 1 0).toNatClampNeg), t_5, tL) else some ((0 : Int64), t, tL)
set_option maxHeartbeats 4000000 in
set_option maxRecDepth 100000 in
theorem k_Pile_pop {p : Program} {l : Launch} {e : Env} {s : State} {m : MethodId} {args : Array Value} {below : List Frame} {meth : Method} {c : Code} {g : Gz} {A : Nat → Prop} {F : Nat} {a_t : Nat → Nat} (hC : Cx prog_3_method_5_code 1 (some .long) R_Pile p s m args meth c g A A) : ∀ (tN : Nat) (t : StI) (tL : StL) (res : Int64 × StI × StL), Pile_pop F tN t tL = some res → Go p l e rm_Pile_pop s m args below meth c g A A 1 (MQ below (EL g ((pic_Pile g a_t tN res.2.1 res.2.2)) res.1 A) args s 0 0 A) ((pic_Pile g a_t tN t tL)) [(0, .ref (a_t 0))] 0 [] := by
  obtain ⟨hx, hb, hr, hml, hown, htb, hlocks, hA, hAA, hG⟩ := id hC
  have hK := hG.1
  intro tN t tL res h H locs ls hP hD hS hl
  rw [Pile_pop] at h
  refine lv_aload_n hx hb d_Pile_pop_0 rfl (lv_at hl 0 rfl) ?_
  refine va_get (D := gD g) (ci := 0) (v := .int (t 1 0)) (C := R_Pile) (T := T_Pile) (N := 2) hx hb htb in_Pile hown hK hP 0 rfl rfl 1 (by decide) (htb _ L_Pile_7) (fun _ h9 => h9) rfl d_Pile_pop_1 ?_
  refine lv_if_gt (tgt := 9) hx hb d_Pile_pop_4 (by decide) (fun c4 => ?_) (fun c4 => ?_)
  · replace h := (if_pos c4).symm.trans h
    refine lv_aload_n hx hb d_Pile_pop_9 rfl (lv_at hl 0 rfl) ?_
    refine lv_dup hx hb d_Pile_pop_10 rfl ?_
    refine va_get (D := gD g) (ci := 0) (v := .int (t 1 0)) (C := R_Pile) (T := T_Pile) (N := 2) hx hb htb in_Pile hown hK hP 0 rfl rfl 1 (by decide) (htb _ L_Pile_7) (fun _ h9 => h9) rfl d_Pile_pop_11 ?_
    refine lv_iconst (v := 1) hx hb d_Pile_pop_14 (by decide) ?_
    refine lv_isub hx hb d_Pile_pop_15 ?_
    refine va_put (D := gD g) (ci := 0) (v := .int ((t 1 0) - (1 : Int32))) (ty := .int) (C := R_Pile) (T := T_Pile) (N := 2) hx hb htb in_Pile ty_Pile ty_Pile_ok nm_Pile hown hK hP hD hS 0 rfl rfl 1 (by decide) (htb _ L_Pile_7) (fun _ h9 => h9) rfl (by decide +kernel) rfl rfl (Nat.le_of_ble_eq_true rfl) d_Pile_pop_16 (fun H locs hP hD hS => ?_)
    obtain ⟨t_5, et_5, h⟩ := letS_el h
    have hP : va_P (gD g) vwCl ((pic_Pile g a_t tN t_5 tL)) H := by rw [et_5]; exact hP
    have hD : va_D A ((pic_Pile g a_t tN t_5 tL)) := by rw [et_5]; exact hD
    refine lv_aload_n hx hb d_Pile_pop_19 rfl (lv_at hl 0 rfl) ?_
    refine va_get (D := gD g) (ci := 0) (v := .ref (a_t 1)) (C := R_Pile) (T := T_Pile) (N := 2) hx hb htb in_Pile hown hK hP 0 rfl rfl 0 (by decide) (htb _ L_Pile_13) (fun _ h9 => h9) rfl d_Pile_pop_20 ?_
    refine lv_aload_n hx hb d_Pile_pop_23 rfl (lv_at hl 0 rfl) ?_
    refine va_get (D := gD g) (ci := 0) (v := .int (t_5 1 0)) (C := R_Pile) (T := T_Pile) (N := 2) hx hb htb in_Pile hown hK hP 0 rfl rfl 1 (by decide) (htb _ L_Pile_7) (fun _ h9 => h9) rfl d_Pile_pop_24 ?_
    by_cases c6 : ((t_5 1 0) < 0 ∨ tN ≤ (t_5 1 0).toNatClampNeg)
    · replace h := (if_pos c6).symm.trans h
      cases h
    replace h := (if_neg c6).symm.trans h
    refine va_lald hx hb hK hP 1 3 rfl rfl c6 d_Pile_pop_27 ?_
    cases h
    exact W.lret hx hb hr (fun t ht hW => ⟨⟨_, (), rfl, rfl, by rw [ht]; exact hP, hD⟩, hS.F ht⟩) hS.2.2 d_Pile_pop_28
  · replace h := (if_neg c4).symm.trans h
    refine lv_lconst (v := 0) hx hb d_Pile_pop_7 (by decide) ?_
    cases h
    exact W.lret hx hb hr (fun t ht hW => ⟨⟨_, (), rfl, rfl, by rw [ht]; exact hP, hD⟩, hS.F ht⟩) hS.2.2 d_Pile_pop_8
theorem c_Pile_pop (l : Launch) (g : Gz) (F : Nat) (a_t : Nat → Nat) (tN : Nat) (t : StI) (tL : StL) (res : Int64 × StI × StL) (h : Pile_pop F tN t tL = some res) : ∀ sz : Nat, Met l y_Pile_pop (.code y_Pile_pop prog_3_method_5_code 1 (some .long) :: TBL) rm_Pile_pop (va_Pc [.ref (a_t 0)] (Pre0 g ((pic_Pile g a_t tN t tL)) sz)) (EL g ((pic_Pile g a_t tN res.2.1 res.2.2)) res.1 (va_A ((pic_Pile g a_t tN t tL)) sz)) 0 0 (va_A ((pic_Pile g a_t tN t tL)) sz) :=
  ct_w (Qc := fun A => EL g ((pic_Pile g a_t tN res.2.1 res.2.2)) res.1 A) (by decide) (Nat.le_of_ble_eq_true rfl) (fun p e s m args below meth c A hC => k_Pile_pop hC tN t tL res h)
