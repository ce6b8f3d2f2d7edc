set_option maxRecDepth 100000 in
theorem W_MQ_isSmallLetter_code : (Jvm.Cond.code ({ cls := "MailQueries", name := "isSmallLetter", desc := "(I)Z" } : Jvm.MethodName) prog_1_method_18_code (1 : Nat) (Option.some Jvm.ClassFile.FieldType.boolean)) ∈ TBL := TBL_in (List.mem_of_getElem? (i := 753) rfl) rfl
theorem I_MQ : (Jvm.Cond.initialized "MailQueries") ∈ TBL := TBL_in (List.mem_of_getElem? (i := 101) (by decide +kernel)) (by decide +kernel)
theorem W_MQ_isSmallLetter_st : (Jvm.Cond.static ({ cls := "MailQueries", name := "isSmallLetter", desc := "(I)Z" } : Jvm.MethodName)) ∈ TBL := TBL_in (List.mem_of_getElem? (i := 752) (by decide +kernel)) (by decide +kernel)
set_option maxRecDepth 100000 in
theorem W_MQ_isDigit_code : (Jvm.Cond.code ({ cls := "MailQueries", name := "isDigit", desc := "(I)Z" } : Jvm.MethodName) prog_1_method_19_code (1 : Nat) (Option.some Jvm.ClassFile.FieldType.boolean)) ∈ TBL := TBL_in (List.mem_of_getElem? (i := 796) rfl) rfl
theorem W_MQ_isDigit_st : (Jvm.Cond.static ({ cls := "MailQueries", name := "isDigit", desc := "(I)Z" } : Jvm.MethodName)) ∈ TBL := TBL_in (List.mem_of_getElem? (i := 795) (by decide +kernel)) (by decide +kernel)
set_option maxRecDepth 100000 in
theorem W_MQ_isSpace_code : (Jvm.Cond.code ({ cls := "MailQueries", name := "isSpace", desc := "(I)Z" } : Jvm.MethodName) prog_1_method_20_code (1 : Nat) (Option.some Jvm.ClassFile.FieldType.boolean)) ∈ TBL := TBL_in (List.mem_of_getElem? (i := 715) rfl) rfl
theorem W_MQ_isSpace_st : (Jvm.Cond.static ({ cls := "MailQueries", name := "isSpace", desc := "(I)Z" } : Jvm.MethodName)) ∈ TBL := TBL_in (List.mem_of_getElem? (i := 714) (by decide +kernel)) (by decide +kernel)
set_option maxRecDepth 100000 in
theorem W_MQ_isTextByte_code : (Jvm.Cond.code ({ cls := "MailQueries", name := "isTextByte", desc := "(I)Z" } : Jvm.MethodName) prog_1_method_21_code (1 : Nat) (Option.some Jvm.ClassFile.FieldType.boolean)) ∈ TBL := TBL_in (List.mem_of_getElem? (i := 746) rfl) rfl
theorem W_MQ_isTextByte_st : (Jvm.Cond.static ({ cls := "MailQueries", name := "isTextByte", desc := "(I)Z" } : Jvm.MethodName)) ∈ TBL := TBL_in (List.mem_of_getElem? (i := 745) (by decide +kernel)) (by decide +kernel)
set_option maxRecDepth 100000 in
theorem W_MQ_small_code : (Jvm.Cond.code ({ cls := "MailQueries", name := "small", desc := "(I)I" } : Jvm.MethodName) prog_1_method_22_code (1 : Nat) (Option.some Jvm.ClassFile.FieldType.int)) ∈ TBL := TBL_in (List.mem_of_getElem? (i := 860) rfl) rfl
theorem W_MQ_small_st : (Jvm.Cond.static ({ cls := "MailQueries", name := "small", desc := "(I)I" } : Jvm.MethodName)) ∈ TBL := TBL_in (List.mem_of_getElem? (i := 859) (by decide +kernel)) (by decide +kernel)
def y_MQ_isSmallLetter : MethodName := ⟨"MailQueries", "isSmallLetter", "(I)Z"⟩
def rm_MQ_isSmallLetter : Room := { frames := 0, cells := 0, slots := 0, locals := 0 }
theorem d_MQ_isSmallLetter_0 : decode prog_1_method_18_code 0 = .ok (.iload_n 0, 1) := by decide +kernel
theorem d_MQ_isSmallLetter_1 : decode prog_1_method_18_code 1 = .ok (.bipush 97, 2) := by decide +kernel
theorem d_MQ_isSmallLetter_3 : decode prog_1_method_18_code 3 = .ok (.if_icmp .lt 13, 3) := by decide +kernel
theorem d_MQ_isSmallLetter_6 : decode prog_1_method_18_code 6 = .ok (.iload_n 0, 1) := by decide +kernel
theorem d_MQ_isSmallLetter_7 : decode prog_1_method_18_code 7 = .ok (.bipush 122, 2) := by decide +kernel
theorem d_MQ_isSmallLetter_9 : decode prog_1_method_18_code 9 = .ok (.if_icmp .gt 7, 3) := by decide +kernel
theorem d_MQ_isSmallLetter_12 : decode prog_1_method_18_code 12 = .ok (.iconst 1, 1) := by decide +kernel
theorem d_MQ_isSmallLetter_13 : decode prog_1_method_18_code 13 = .ok (.goto 4, 3) := by decide +kernel
theorem d_MQ_isSmallLetter_16 : decode prog_1_method_18_code 16 = .ok (.iconst 0, 1) := by decide +kernel
theorem d_MQ_isSmallLetter_17 : decode prog_1_method_18_code 17 = .ok (.ireturn, 1) := by decide +kernel
def y_MQ_isDigit : MethodName := ⟨"MailQueries", "isDigit", "(I)Z"⟩
def rm_MQ_isDigit : Room := { frames := 0, cells := 0, slots := 0, locals := 0 }
theorem d_MQ_isDigit_0 : decode prog_1_method_19_code 0 = .ok (.iload_n 0, 1) := by decide +kernel
theorem d_MQ_isDigit_1 : decode prog_1_method_19_code 1 = .ok (.bipush 48, 2) := by decide +kernel
theorem d_MQ_isDigit_3 : decode prog_1_method_19_code 3 = .ok (.if_icmp .lt 13, 3) := by decide +kernel
theorem d_MQ_isDigit_6 : decode prog_1_method_19_code 6 = .ok (.iload_n 0, 1) := by decide +kernel
theorem d_MQ_isDigit_7 : decode prog_1_method_19_code 7 = .ok (.bipush 57, 2) := by decide +kernel
theorem d_MQ_isDigit_9 : decode prog_1_method_19_code 9 = .ok (.if_icmp .gt 7, 3) := by decide +kernel
theorem d_MQ_isDigit_12 : decode prog_1_method_19_code 12 = .ok (.iconst 1, 1) := by decide +kernel
theorem d_MQ_isDigit_13 : decode prog_1_method_19_code 13 = .ok (.goto 4, 3) := by decide +kernel
theorem d_MQ_isDigit_16 : decode prog_1_method_19_code 16 = .ok (.iconst 0, 1) := by decide +kernel
theorem d_MQ_isDigit_17 : decode prog_1_method_19_code 17 = .ok (.ireturn, 1) := by decide +kernel
def y_MQ_isSpace : MethodName := ⟨"MailQueries", "isSpace", "(I)Z"⟩
def rm_MQ_isSpace : Room := { frames := 0, cells := 0, slots := 0, locals := 0 }
theorem d_MQ_isSpace_0 : decode prog_1_method_20_code 0 = .ok (.iload_n 0, 1) := by decide +kernel
theorem d_MQ_isSpace_1 : decode prog_1_method_20_code 1 = .ok (.bipush 32, 2) := by decide +kernel
theorem d_MQ_isSpace_3 : decode prog_1_method_20_code 3 = .ok (.if_icmp .eq 9, 3) := by decide +kernel
theorem d_MQ_isSpace_6 : decode prog_1_method_20_code 6 = .ok (.iload_n 0, 1) := by decide +kernel
theorem d_MQ_isSpace_7 : decode prog_1_method_20_code 7 = .ok (.bipush 9, 2) := by decide +kernel
theorem d_MQ_isSpace_9 : decode prog_1_method_20_code 9 = .ok (.if_icmp .ne 7, 3) := by decide +kernel
theorem d_MQ_isSpace_12 : decode prog_1_method_20_code 12 = .ok (.iconst 1, 1) := by decide +kernel
theorem d_MQ_isSpace_13 : decode prog_1_method_20_code 13 = .ok (.goto 4, 3) := by decide +kernel
theorem d_MQ_isSpace_16 : decode prog_1_method_20_code 16 = .ok (.iconst 0, 1) := by decide +kernel
theorem d_MQ_isSpace_17 : decode prog_1_method_20_code 17 = .ok (.ireturn, 1) := by decide +kernel
def y_MQ_isTextByte : MethodName := ⟨"MailQueries", "isTextByte", "(I)Z"⟩
def rm_MQ_isTextByte : Room := { frames := 0, cells := 0, slots := 0, locals := 0 }
theorem d_MQ_isTextByte_0 : decode prog_1_method_21_code 0 = .ok (.iload_n 0, 1) := by decide +kernel
theorem d_MQ_isTextByte_1 : decode prog_1_method_21_code 1 = .ok (.bipush 33, 2) := by decide +kernel
theorem d_MQ_isTextByte_3 : decode prog_1_method_21_code 3 = .ok (.if_icmp .lt 37, 3) := by decide +kernel
theorem d_MQ_isTextByte_6 : decode prog_1_method_21_code 6 = .ok (.iload_n 0, 1) := by decide +kernel
theorem d_MQ_isTextByte_7 : decode prog_1_method_21_code 7 = .ok (.bipush 126, 2) := by decide +kernel
theorem d_MQ_isTextByte_9 : decode prog_1_method_21_code 9 = .ok (.if_icmp .gt 31, 3) := by decide +kernel
theorem d_MQ_isTextByte_12 : decode prog_1_method_21_code 12 = .ok (.iload_n 0, 1) := by decide +kernel
theorem d_MQ_isTextByte_13 : decode prog_1_method_21_code 13 = .ok (.bipush 40, 2) := by decide +kernel
theorem d_MQ_isTextByte_15 : decode prog_1_method_21_code 15 = .ok (.if_icmp .eq 25, 3) := by decide +kernel
theorem d_MQ_isTextByte_18 : decode prog_1_method_21_code 18 = .ok (.iload_n 0, 1) := by decide +kernel
theorem d_MQ_isTextByte_19 : decode prog_1_method_21_code 19 = .ok (.bipush 41, 2) := by decide +kernel
theorem d_MQ_isTextByte_21 : decode prog_1_method_21_code 21 = .ok (.if_icmp .eq 19, 3) := by decide +kernel
theorem d_MQ_isTextByte_24 : decode prog_1_method_21_code 24 = .ok (.iload_n 0, 1) := by decide +kernel
theorem d_MQ_isTextByte_25 : decode prog_1_method_21_code 25 = .ok (.bipush 34, 2) := by decide +kernel
theorem d_MQ_isTextByte_27 : decode prog_1_method_21_code 27 = .ok (.if_icmp .eq 13, 3) := by decide +kernel
theorem d_MQ_isTextByte_30 : decode prog_1_method_21_code 30 = .ok (.iload_n 0, 1) := by decide +kernel
theorem d_MQ_isTextByte_31 : decode prog_1_method_21_code 31 = .ok (.bipush 58, 2) := by decide +kernel
theorem d_MQ_isTextByte_33 : decode prog_1_method_21_code 33 = .ok (.if_icmp .eq 7, 3) := by decide +kernel
theorem d_MQ_isTextByte_36 : decode prog_1_method_21_code 36 = .ok (.iconst 1, 1) := by decide +kernel
theorem d_MQ_isTextByte_37 : decode prog_1_method_21_code 37 = .ok (.goto 4, 3) := by decide +kernel
theorem d_MQ_isTextByte_40 : decode prog_1_method_21_code 40 = .ok (.iconst 0, 1) := by decide +kernel
theorem d_MQ_isTextByte_41 : decode prog_1_method_21_code 41 = .ok (.ireturn, 1) := by decide +kernel
def y_MQ_small : MethodName := ⟨"MailQueries", "small", "(I)I"⟩
def rm_MQ_small : Room := { frames := 0, cells := 0, slots := 0, locals := 0 }
theorem d_MQ_small_0 : decode prog_1_method_22_code 0 = .ok (.iload_n 0, 1) := by decide +kernel
theorem d_MQ_small_1 : decode prog_1_method_22_code 1 = .ok (.bipush 65, 2) := by decide +kernel
theorem d_MQ_small_3 : decode prog_1_method_22_code 3 = .ok (.if_icmp .lt 16, 3) := by decide +kernel
theorem d_MQ_small_6 : decode prog_1_method_22_code 6 = .ok (.iload_n 0, 1) := by decide +kernel
theorem d_MQ_small_7 : decode prog_1_method_22_code 7 = .ok (.bipush 90, 2) := by decide +kernel
theorem d_MQ_small_9 : decode prog_1_method_22_code 9 = .ok (.if_icmp .gt 10, 3) := by decide +kernel
theorem d_MQ_small_12 : decode prog_1_method_22_code 12 = .ok (.iload_n 0, 1) := by decide +kernel
theorem d_MQ_small_13 : decode prog_1_method_22_code 13 = .ok (.bipush 32, 2) := by decide +kernel
theorem d_MQ_small_15 : decode prog_1_method_22_code 15 = .ok (.iadd, 1) := by decide +kernel
theorem d_MQ_small_16 : decode prog_1_method_22_code 16 = .ok (.goto 4, 3) := by decide +kernel
theorem d_MQ_small_19 : decode prog_1_method_22_code 19 = .ok (.iload_n 0, 1) := by decide +kernel
theorem d_MQ_small_20 : decode prog_1_method_22_code 20 = .ok (.ireturn, 1) := by decide +kernel
theorem mb_MQ_isSmallLetter : MbS y_MQ_isSmallLetter prog_1_method_18_code 1 (some .boolean) 1 := ⟨W_MQ_isSmallLetter_code, W_MQ_isSmallLetter_st, I_MQ, by decide +kernel, by decide +kernel, by decide +kernel⟩
theorem mb_MQ_isDigit : MbS y_MQ_isDigit prog_1_method_19_code 1 (some .boolean) 1 := ⟨W_MQ_isDigit_code, W_MQ_isDigit_st, I_MQ, by decide +kernel, by decide +kernel, by decide +kernel⟩
theorem mb_MQ_isSpace : MbS y_MQ_isSpace prog_1_method_20_code 1 (some .boolean) 1 := ⟨W_MQ_isSpace_code, W_MQ_isSpace_st, I_MQ, by decide +kernel, by decide +kernel, by decide +kernel⟩
theorem mb_MQ_isTextByte : MbS y_MQ_isTextByte prog_1_method_21_code 1 (some .boolean) 1 := ⟨W_MQ_isTextByte_code, W_MQ_isTextByte_st, I_MQ, by decide +kernel, by decide +kernel, by decide +kernel⟩
theorem mb_MQ_small : MbS y_MQ_small prog_1_method_22_code 1 (some .int) 1 := ⟨W_MQ_small_code, W_MQ_small_st, I_MQ, by decide +kernel, by decide +kernel, by decide +kernel⟩
def MQ_isSmallLetter (F : Nat) (x0 : Int32) : Option (Int32) := if x0 < (97 : Int32) then some (0 : Int32) else if (122 : Int32) < x0 then some (0 : Int32) else some (1 : Int32)
set_option maxHeartbeats 4000000 in
set_option maxRecDepth 100000 in
theorem k_MQ_isSmallLetter {p : Program} {l : Launch} {e : Env} {s : State} {m : MethodId} {args : Array Value} {below : List Frame} {meth : Method} {c : Code} {g : Gz} {A2 A : Nat → Prop} {F : Nat} (hC : Cx prog_1_method_18_code 1 (some .boolean) R_MQ p s m args meth c g A2 A) : ∀ (x0 : Int32) (res : Int32), MQ_isSmallLetter F x0 = some res → Go p l e rm_MQ_isSmallLetter s m args below meth c g A2 A 1 (MQ below (RI res A) args s 0 0 A) ([]) [(0, .int x0)] 0 [] := by
  obtain ⟨hx, hb, hr, hml, hown, htb, hlocks, hA, hAA, hG⟩ := id hC
  have hK := hG.1
  intro x0 res h H locs ls hP hD hS hl
  rw [MQ_isSmallLetter] at h
  refine lv_iload_n hx hb d_MQ_isSmallLetter_0 rfl (lv_at hl 0 rfl) ?_
  refine lv_bipush (v := 97) hx hb d_MQ_isSmallLetter_1 (by decide) ?_
  refine lv_icmp_lt (tgt := 16) hx hb d_MQ_isSmallLetter_3 (by decide) (fun c3 => ?_) (fun c3 => ?_)
  · replace h := (if_pos c3).symm.trans h
    refine lv_iconst (v := 0) hx hb d_MQ_isSmallLetter_16 (by decide) ?_
    cases h
    exact W.zret hx hb hr rfl (fun t ht hW => ⟨⟨_, (), rfl, rfl, trivial⟩, hS.F ht⟩) hS.2.2 d_MQ_isSmallLetter_17
  · replace h := (if_neg c3).symm.trans h
    refine lv_iload_n hx hb d_MQ_isSmallLetter_6 rfl (lv_at hl 0 rfl) ?_
    refine lv_bipush (v := 122) hx hb d_MQ_isSmallLetter_7 (by decide) ?_
    refine lv_icmp_gt (tgt := 16) hx hb d_MQ_isSmallLetter_9 (by decide) (fun c4 => ?_) (fun c4 => ?_)
    · replace h := (if_pos c4).symm.trans h
      refine lv_iconst (v := 0) hx hb d_MQ_isSmallLetter_16 (by decide) ?_
      cases h
      exact W.zret hx hb hr rfl (fun t ht hW => ⟨⟨_, (), rfl, rfl, trivial⟩, hS.F ht⟩) hS.2.2 d_MQ_isSmallLetter_17
    · replace h := (if_neg c4).symm.trans h
      refine lv_iconst (v := 1) hx hb d_MQ_isSmallLetter_12 (by decide) ?_
      refine lv_goto (tgt := 17) hx hb d_MQ_isSmallLetter_13 (by decide) ?_
      cases h
      exact W.zret hx hb hr rfl (fun t ht hW => ⟨⟨_, (), rfl, rfl, trivial⟩, hS.F ht⟩) hS.2.2 d_MQ_isSmallLetter_17
theorem c_MQ_isSmallLetter (l : Launch) (g : Gz) (F : Nat) (x0 : Int32) (res : Int32) (h : MQ_isSmallLetter F x0 = some res) : ∀ sz : Nat, Met l y_MQ_isSmallLetter (.code y_MQ_isSmallLetter prog_1_method_18_code 1 (some .boolean) :: TBL) rm_MQ_isSmallLetter (va_Pc [.int x0] (Pre0 g ([]) sz)) (RI res (fun q => sz ≤ q)) 0 0 (fun q => sz ≤ q) :=
  ct_r (Qc := fun A => RI res A) (by decide) (Nat.le_of_ble_eq_true rfl) (fun p e s m args below meth c A2 A hC => k_MQ_isSmallLetter hC x0 res h)
def MQ_isDigit (F : Nat) (x0 : Int32) : Option (Int32) := if x0 < (48 : Int32) then some (0 : Int32) else if (57 : Int32) < x0 then some (0 : Int32) else some (1 : Int32)
set_option maxHeartbeats 4000000 in
set_option maxRecDepth 100000 in
theorem k_MQ_isDigit {p : Program} {l : Launch} {e : Env} {s : State} {m : MethodId} {args : Array Value} {below : List Frame} {meth : Method} {c : Code} {g : Gz} {A2 A : Nat → Prop} {F : Nat} (hC : Cx prog_1_method_19_code 1 (some .boolean) R_MQ p s m args meth c g A2 A) : ∀ (x0 : Int32) (res : Int32), MQ_isDigit F x0 = some res → Go p l e rm_MQ_isDigit s m args below meth c g A2 A 1 (MQ below (RI res A) args s 0 0 A) ([]) [(0, .int x0)] 0 [] := by
  obtain ⟨hx, hb, hr, hml, hown, htb, hlocks, hA, hAA, hG⟩ := id hC
  have hK := hG.1
  intro x0 res h H locs ls hP hD hS hl
  rw [MQ_isDigit] at h
  refine lv_iload_n hx hb d_MQ_isDigit_0 rfl (lv_at hl 0 rfl) ?_
  refine lv_bipush (v := 48) hx hb d_MQ_isDigit_1 (by decide) ?_
  refine lv_icmp_lt (tgt := 16) hx hb d_MQ_isDigit_3 (by decide) (fun c3 => ?_) (fun c3 => ?_)
  · replace h := (if_pos c3).symm.trans h
    refine lv_iconst (v := 0) hx hb d_MQ_isDigit_16 (by decide) ?_
    cases h
    exact W.zret hx hb hr rfl (fun t ht hW => ⟨⟨_, (), rfl, rfl, trivial⟩, hS.F ht⟩) hS.2.2 d_MQ_isDigit_17
  · replace h := (if_neg c3).symm.trans h
    refine lv_iload_n hx hb d_MQ_isDigit_6 rfl (lv_at hl 0 rfl) ?_
    refine lv_bipush (v := 57) hx hb d_MQ_isDigit_7 (by decide) ?_
    refine lv_icmp_gt (tgt := 16) hx hb d_MQ_isDigit_9 (by decide) (fun c4 => ?_) (fun c4 => ?_)
    · replace h := (if_pos c4).symm.trans h
      refine lv_iconst (v := 0) hx hb d_MQ_isDigit_16 (by decide) ?_
      cases h
      exact W.zret hx hb hr rfl (fun t ht hW => ⟨⟨_, (), rfl, rfl, trivial⟩, hS.F ht⟩) hS.2.2 d_MQ_isDigit_17
    · replace h := (if_neg c4).symm.trans h
      refine lv_iconst (v := 1) hx hb d_MQ_isDigit_12 (by decide) ?_
      refine lv_goto (tgt := 17) hx hb d_MQ_isDigit_13 (by decide) ?_
      cases h
      exact W.zret hx hb hr rfl (fun t ht hW => ⟨⟨_, (), rfl, rfl, trivial⟩, hS.F ht⟩) hS.2.2 d_MQ_isDigit_17
theorem c_MQ_isDigit (l : Launch) (g : Gz) (F : Nat) (x0 : Int32) (res : Int32) (h : MQ_isDigit F x0 = some res) : ∀ sz : Nat, Met l y_MQ_isDigit (.code y_MQ_isDigit prog_1_method_19_code 1 (some .boolean) :: TBL) rm_MQ_isDigit (va_Pc [.int x0] (Pre0 g ([]) sz)) (RI res (fun q => sz ≤ q)) 0 0 (fun q => sz ≤ q) :=
  ct_r (Qc := fun A => RI res A) (by decide) (Nat.le_of_ble_eq_true rfl) (fun p e s m args below meth c A2 A hC => k_MQ_isDigit hC x0 res h)
def MQ_isSpace (F : Nat) (x0 : Int32) : Option (Int32) := if x0 = (32 : Int32) then some (1 : Int32) else if x0 = (9 : Int32) then some (1 : Int32) else some (0 : Int32)
set_option maxHeartbeats 4000000 in
set_option maxRecDepth 100000 in
theorem k_MQ_isSpace {p : Program} {l : Launch} {e : Env} {s : State} {m : MethodId} {args : Array Value} {below : List Frame} {meth : Method} {c : Code} {g : Gz} {A2 A : Nat → Prop} {F : Nat} (hC : Cx prog_1_method_20_code 1 (some .boolean) R_MQ p s m args meth c g A2 A) : ∀ (x0 : Int32) (res : Int32), MQ_isSpace F x0 = some res → Go p l e rm_MQ_isSpace s m args below meth c g A2 A 1 (MQ below (RI res A) args s 0 0 A) ([]) [(0, .int x0)] 0 [] := by
  obtain ⟨hx, hb, hr, hml, hown, htb, hlocks, hA, hAA, hG⟩ := id hC
  have hK := hG.1
  intro x0 res h H locs ls hP hD hS hl
  rw [MQ_isSpace] at h
  refine lv_iload_n hx hb d_MQ_isSpace_0 rfl (lv_at hl 0 rfl) ?_
  refine lv_bipush (v := 32) hx hb d_MQ_isSpace_1 (by decide) ?_
  refine lv_icmp_eq (tgt := 12) hx hb d_MQ_isSpace_3 (by decide) (fun c3 => ?_) (fun c3 => ?_)
  · replace h := (if_pos c3).symm.trans h
    refine lv_iconst (v := 1) hx hb d_MQ_isSpace_12 (by decide) ?_
    refine lv_goto (tgt := 17) hx hb d_MQ_isSpace_13 (by decide) ?_
    cases h
    exact W.zret hx hb hr rfl (fun t ht hW => ⟨⟨_, (), rfl, rfl, trivial⟩, hS.F ht⟩) hS.2.2 d_MQ_isSpace_17
  · replace h := (if_neg c3).symm.trans h
    refine lv_iload_n hx hb d_MQ_isSpace_6 rfl (lv_at hl 0 rfl) ?_
    refine lv_bipush (v := 9) hx hb d_MQ_isSpace_7 (by decide) ?_
    refine lv_icmp_ne (tgt := 16) hx hb d_MQ_isSpace_9 (by decide) (fun c4 => ?_) (fun c4 => ?_)
    · replace h := (if_neg c4).symm.trans h
      refine lv_iconst (v := 0) hx hb d_MQ_isSpace_16 (by decide) ?_
      cases h
      exact W.zret hx hb hr rfl (fun t ht hW => ⟨⟨_, (), rfl, rfl, trivial⟩, hS.F ht⟩) hS.2.2 d_MQ_isSpace_17
    · replace h := (if_pos c4).symm.trans h
      refine lv_iconst (v := 1) hx hb d_MQ_isSpace_12 (by decide) ?_
      refine lv_goto (tgt := 17) hx hb d_MQ_isSpace_13 (by decide) ?_
      cases h
      exact W.zret hx hb hr rfl (fun t ht hW => ⟨⟨_, (), rfl, rfl, trivial⟩, hS.F ht⟩) hS.2.2 d_MQ_isSpace_17
theorem c_MQ_isSpace (l : Launch) (g : Gz) (F : Nat) (x0 : Int32) (res : Int32) (h : MQ_isSpace F x0 = some res) : ∀ sz : Nat, Met l y_MQ_isSpace (.code y_MQ_isSpace prog_1_method_20_code 1 (some .boolean) :: TBL) rm_MQ_isSpace (va_Pc [.int x0] (Pre0 g ([]) sz)) (RI res (fun q => sz ≤ q)) 0 0 (fun q => sz ≤ q) :=
  ct_r (Qc := fun A => RI res A) (by decide) (Nat.le_of_ble_eq_true rfl) (fun p e s m args below meth c A2 A hC => k_MQ_isSpace hC x0 res h)
def MQ_isTextByte (F : Nat) (x0 : Int32) : Option (Int32) := if x0 < (33 : Int32) then some (0 : Int32) else if (126 : Int32) < x0 then some (0 : Int32) else if x0 = (40 : Int32) then some (0 : Int32) else if x0 = (41 : Int32) then some (0 : Int32) else if x0 = (34 : Int32) then some (0 : Int32) else if x0 = (58 : Int32) then some (0 : Int32) else some (1 : Int32)
set_option maxHeartbeats 4000000 in
set_option maxRecDepth 100000 in
theorem k_MQ_isTextByte {p : Program} {l : Launch} {e : Env} {s : State} {m : MethodId} {args : Array Value} {below : List Frame} {meth : Method} {c : Code} {g : Gz} {A2 A : Nat → Prop} {F : Nat} (hC : Cx prog_1_method_21_code 1 (some .boolean) R_MQ p s m args meth c g A2 A) : ∀ (x0 : Int32) (res : Int32), MQ_isTextByte F x0 = some res → Go p l e rm_MQ_isTextByte s m args below meth c g A2 A 1 (MQ below (RI res A) args s 0 0 A) ([]) [(0, .int x0)] 0 [] := by
  obtain ⟨hx, hb, hr, hml, hown, htb, hlocks, hA, hAA, hG⟩ := id hC
  have hK := hG.1
  intro x0 res h H locs ls hP hD hS hl
  rw [MQ_isTextByte] at h
  refine lv_iload_n hx hb d_MQ_isTextByte_0 rfl (lv_at hl 0 rfl) ?_
  refine lv_bipush (v := 33) hx hb d_MQ_isTextByte_1 (by decide) ?_
  refine lv_icmp_lt (tgt := 40) hx hb d_MQ_isTextByte_3 (by decide) (fun c7 => ?_) (fun c7 => ?_)
  · replace h := (if_pos c7).symm.trans h
    refine lv_iconst (v := 0) hx hb d_MQ_isTextByte_40 (by decide) ?_
    cases h
    exact W.zret hx hb hr rfl (fun t ht hW => ⟨⟨_, (), rfl, rfl, trivial⟩, hS.F ht⟩) hS.2.2 d_MQ_isTextByte_41
  · replace h := (if_neg c7).symm.trans h
    refine lv_iload_n hx hb d_MQ_isTextByte_6 rfl (lv_at hl 0 rfl) ?_
    refine lv_bipush (v := 126) hx hb d_MQ_isTextByte_7 (by decide) ?_
    refine lv_icmp_gt (tgt := 40) hx hb d_MQ_isTextByte_9 (by decide) (fun c8 => ?_) (fun c8 => ?_)
    · replace h := (if_pos c8).symm.trans h
      refine lv_iconst (v := 0) hx hb d_MQ_isTextByte_40 (by decide) ?_
      cases h
      exact W.zret hx hb hr rfl (fun t ht hW => ⟨⟨_, (), rfl, rfl, trivial⟩, hS.F ht⟩) hS.2.2 d_MQ_isTextByte_41
    · replace h := (if_neg c8).symm.trans h
      refine lv_iload_n hx hb d_MQ_isTextByte_12 rfl (lv_at hl 0 rfl) ?_
      refine lv_bipush (v := 40) hx hb d_MQ_isTextByte_13 (by decide) ?_
      refine lv_icmp_eq (tgt := 40) hx hb d_MQ_isTextByte_15 (by decide) (fun c9 => ?_) (fun c9 => ?_)
      · replace h := (if_pos c9).symm.trans h
        refine lv_iconst (v := 0) hx hb d_MQ_isTextByte_40 (by decide) ?_
        cases h
        exact W.zret hx hb hr rfl (fun t ht hW => ⟨⟨_, (), rfl, rfl, trivial⟩, hS.F ht⟩) hS.2.2 d_MQ_isTextByte_41
      · replace h := (if_neg c9).symm.trans h
        refine lv_iload_n hx hb d_MQ_isTextByte_18 rfl (lv_at hl 0 rfl) ?_
        refine lv_bipush (v := 41) hx hb d_MQ_isTextByte_19 (by decide) ?_
        refine lv_icmp_eq (tgt := 40) hx hb d_MQ_isTextByte_21 (by decide) (fun c10 => ?_) (fun c10 => ?_)
        · replace h := (if_pos c10).symm.trans h
          refine lv_iconst (v := 0) hx hb d_MQ_isTextByte_40 (by decide) ?_
          cases h
          exact W.zret hx hb hr rfl (fun t ht hW => ⟨⟨_, (), rfl, rfl, trivial⟩, hS.F ht⟩) hS.2.2 d_MQ_isTextByte_41
        · replace h := (if_neg c10).symm.trans h
          refine lv_iload_n hx hb d_MQ_isTextByte_24 rfl (lv_at hl 0 rfl) ?_
          refine lv_bipush (v := 34) hx hb d_MQ_isTextByte_25 (by decide) ?_
          refine lv_icmp_eq (tgt := 40) hx hb d_MQ_isTextByte_27 (by decide) (fun c11 => ?_) (fun c11 => ?_)
          · replace h := (if_pos c11).symm.trans h
            refine lv_iconst (v := 0) hx hb d_MQ_isTextByte_40 (by decide) ?_
            cases h
            exact W.zret hx hb hr rfl (fun t ht hW => ⟨⟨_, (), rfl, rfl, trivial⟩, hS.F ht⟩) hS.2.2 d_MQ_isTextByte_41
          · replace h := (if_neg c11).symm.trans h
            refine lv_iload_n hx hb d_MQ_isTextByte_30 rfl (lv_at hl 0 rfl) ?_
            refine lv_bipush (v := 58) hx hb d_MQ_isTextByte_31 (by decide) ?_
            refine lv_icmp_eq (tgt := 40) hx hb d_MQ_isTextByte_33 (by decide) (fun c12 => ?_) (fun c12 => ?_)
            · replace h := (if_pos c12).symm.trans h
              refine lv_iconst (v := 0) hx hb d_MQ_isTextByte_40 (by decide) ?_
              cases h
              exact W.zret hx hb hr rfl (fun t ht hW => ⟨⟨_, (), rfl, rfl, trivial⟩, hS.F ht⟩) hS.2.2 d_MQ_isTextByte_41
            · replace h := (if_neg c12).symm.trans h
              refine lv_iconst (v := 1) hx hb d_MQ_isTextByte_36 (by decide) ?_
              refine lv_goto (tgt := 41) hx hb d_MQ_isTextByte_37 (by decide) ?_
              cases h
              exact W.zret hx hb hr rfl (fun t ht hW => ⟨⟨_, (), rfl, rfl, trivial⟩, hS.F ht⟩) hS.2.2 d_MQ_isTextByte_41
theorem c_MQ_isTextByte (l : Launch) (g : Gz) (F : Nat) (x0 : Int32) (res : Int32) (h : MQ_isTextByte F x0 = some res) : ∀ sz : Nat, Met l y_MQ_isTextByte (.code y_MQ_isTextByte prog_1_method_21_code 1 (some .boolean) :: TBL) rm_MQ_isTextByte (va_Pc [.int x0] (Pre0 g ([]) sz)) (RI res (fun q => sz ≤ q)) 0 0 (fun q => sz ≤ q) :=
  ct_r (Qc := fun A => RI res A) (by decide) (Nat.le_of_ble_eq_true rfl) (fun p e s m args below meth c A2 A hC => k_MQ_isTextByte hC x0 res h)
def MQ_small (F : Nat) (x0 : Int32) : Option (Int32) := if x0 < (65 : Int32) then some x0 else if (90 : Int32) < x0 then some x0 else some (x0 + (32 : Int32))
set_option maxHeartbeats 4000000 in
set_option maxRecDepth 100000 in
theorem k_MQ_small {p : Program} {l : Launch} {e : Env} {s : State} {m : MethodId} {args : Array Value} {below : List Frame} {meth : Method} {c : Code} {g : Gz} {A2 A : Nat → Prop} {F : Nat} (hC : Cx prog_1_method_22_code 1 (some .int) R_MQ p s m args meth c g A2 A) : ∀ (x0 : Int32) (res : Int32), MQ_small F x0 = some res → Go p l e rm_MQ_small s m args below meth c g A2 A 1 (MQ below (RI res A) args s 0 0 A) ([]) [(0, .int x0)] 0 [] := by
  obtain ⟨hx, hb, hr, hml, hown, htb, hlocks, hA, hAA, hG⟩ := id hC
  have hK := hG.1
  intro x0 res h H locs ls hP hD hS hl
  rw [MQ_small] at h
  refine lv_iload_n hx hb d_MQ_small_0 rfl (lv_at hl 0 rfl) ?_
  refine lv_bipush (v := 65) hx hb d_MQ_small_1 (by decide) ?_
  refine lv_icmp_lt (tgt := 19) hx hb d_MQ_small_3 (by decide) (fun c3 => ?_) (fun c3 => ?_)
  · replace h := (if_pos c3).symm.trans h
    refine lv_iload_n hx hb d_MQ_small_19 rfl (lv_at hl 0 rfl) ?_
    cases h
    exact W.iret hx hb hr (fun t ht hW => ⟨⟨_, (), rfl, rfl, trivial⟩, hS.F ht⟩) hS.2.2 d_MQ_small_20
  · replace h := (if_neg c3).symm.trans h
    refine lv_iload_n hx hb d_MQ_small_6 rfl (lv_at hl 0 rfl) ?_
    refine lv_bipush (v := 90) hx hb d_MQ_small_7 (by decide) ?_
    refine lv_icmp_gt (tgt := 19) hx hb d_MQ_small_9 (by decide) (fun c4 => ?_) (fun c4 => ?_)
    · replace h := (if_pos c4).symm.trans h
      refine lv_iload_n hx hb d_MQ_small_19 rfl (lv_at hl 0 rfl) ?_
      cases h
      exact W.iret hx hb hr (fun t ht hW => ⟨⟨_, (), rfl, rfl, trivial⟩, hS.F ht⟩) hS.2.2 d_MQ_small_20
    · replace h := (if_neg c4).symm.trans h
      refine lv_iload_n hx hb d_MQ_small_12 rfl (lv_at hl 0 rfl) ?_
      refine lv_bipush (v := 32) hx hb d_MQ_small_13 (by decide) ?_
      refine lv_iadd hx hb d_MQ_small_15 ?_
      refine lv_goto (tgt := 20) hx hb d_MQ_small_16 (by decide) ?_
      cases h
      exact W.iret hx hb hr (fun t ht hW => ⟨⟨_, (), rfl, rfl, trivial⟩, hS.F ht⟩) hS.2.2 d_MQ_small_20
theorem c_MQ_small (l : Launch) (g : Gz) (F : Nat) (x0 : Int32) (res : Int32) (h : MQ_small F x0 = some res) : ∀ sz : Nat, Met l y_MQ_small (.code y_MQ_small prog_1_method_22_code 1 (some .int) :: TBL) rm_MQ_small (va_Pc [.int x0] (Pre0 g ([]) sz)) (RI res (fun q => sz ≤ q)) 0 0 (fun q => sz ≤ q) :=
  ct_r (Qc := fun A => RI res A) (by decide) (Nat.le_of_ble_eq_true rfl) (fun p e s m args below meth c A2 A hC => k_MQ_small hC x0 res h)
