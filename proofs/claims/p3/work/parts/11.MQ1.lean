set_option maxRecDepth 100000 in
theorem W_MQ_isSmallLetter_code : (Jvm.Cond.code ({ cls := "MailQueries", name := "isSmallLetter", desc := "(I)Z" } : Jvm.MethodName) prog_1_method_18_code (1 : Nat) (Option.some Jvm.ClassFile.FieldType.boolean)) ∈ TBL := TBL_in (List.mem_of_getElem? (i := 752) rfl) rfl
theorem I_MQ : (Jvm.Cond.initialized "MailQueries") ∈ TBL := TBL_in (List.mem_of_getElem? (i := 101) (by decide +kernel)) (by decide +kernel)
theorem W_MQ_isSmallLetter_st : (Jvm.Cond.static ({ cls := "MailQueries", name := "isSmallLetter", desc := "(I)Z" } : Jvm.MethodName)) ∈ TBL := TBL_in (List.mem_of_getElem? (i := 751) (by decide +kernel)) (by decide +kernel)
set_option maxRecDepth 100000 in
theorem W_MQ_isDigit_code : (Jvm.Cond.code ({ cls := "MailQueries", name := "isDigit", desc := "(I)Z" } : Jvm.MethodName) prog_1_method_19_code (1 : Nat) (Option.some Jvm.ClassFile.FieldType.boolean)) ∈ TBL := TBL_in (List.mem_of_getElem? (i := 795) rfl) rfl
theorem W_MQ_isDigit_st : (Jvm.Cond.static ({ cls := "MailQueries", name := "isDigit", desc := "(I)Z" } : Jvm.MethodName)) ∈ TBL := TBL_in (List.mem_of_getElem? (i := 794) (by decide +kernel)) (by decide +kernel)
set_option maxRecDepth 100000 in
theorem W_MQ_isSpace_code : (Jvm.Cond.code ({ cls := "MailQueries", name := "isSpace", desc := "(I)Z" } : Jvm.MethodName) prog_1_method_20_code (1 : Nat) (Option.some Jvm.ClassFile.FieldType.boolean)) ∈ TBL := TBL_in (List.mem_of_getElem? (i := 714) rfl) rfl
theorem W_MQ_isSpace_st : (Jvm.Cond.static ({ cls := "MailQueries", name := "isSpace", desc := "(I)Z" } : Jvm.MethodName)) ∈ TBL := TBL_in (List.mem_of_getElem? (i := 713) (by decide +kernel)) (by decide +kernel)
set_option maxRecDepth 100000 in
theorem W_MQ_isTextByte_code : (Jvm.Cond.code ({ cls := "MailQueries", name := "isTextByte", desc := "(I)Z" } : Jvm.MethodName) prog_1_method_21_code (1 : Nat) (Option.some Jvm.ClassFile.FieldType.boolean)) ∈ TBL := TBL_in (List.mem_of_getElem? (i := 745) rfl) rfl
theorem W_MQ_isTextByte_st : (Jvm.Cond.static ({ cls := "MailQueries", name := "isTextByte", desc := "(I)Z" } : Jvm.MethodName)) ∈ TBL := TBL_in (List.mem_of_getElem? (i := 744) (by decide +kernel)) (by decide +kernel)
set_option maxRecDepth 100000 in
theorem W_MQ_small_code : (Jvm.Cond.code ({ cls := "MailQueries", name := "small", desc := "(I)I" } : Jvm.MethodName) prog_1_method_22_code (1 : Nat) (Option.some Jvm.ClassFile.FieldType.int)) ∈ TBL := TBL_in (List.mem_of_getElem? (i := 859) rfl) rfl
theorem W_MQ_small_st : (Jvm.Cond.static ({ cls := "MailQueries", name := "small", desc := "(I)I" } : Jvm.MethodName)) ∈ TBL := TBL_in (List.mem_of_getElem? (i := 858) (by decide +kernel)) (by decide +kernel)
set_option maxRecDepth 100000 in
theorem W_MQ_nameOf_code : (Jvm.Cond.code ({ cls := "MailQueries", name := "nameOf", desc := "(I)Ljava/lang/String;" } : Jvm.MethodName) prog_1_method_17_code (1 : Nat) (Option.some (Jvm.ClassFile.FieldType.object "java/lang/String"))) ∈ TBL := TBL_in (List.mem_of_getElem? (i := 454) rfl) rfl
theorem W_MQ_nameOf_st : (Jvm.Cond.static ({ cls := "MailQueries", name := "nameOf", desc := "(I)Ljava/lang/String;" } : Jvm.MethodName)) ∈ TBL := TBL_in (List.mem_of_getElem? (i := 453) (by decide +kernel)) (by decide +kernel)
def y_MQ_isSmallLetter : MethodName := ⟨"MailQueries", "isSmallLetter", "(I)Z"⟩
def rm_MQ_isSmallLetter : Room := { frames := 0, cells := 0, slots := 0, locals := 0 }
theorem d_MQ_isSmallLetter_0 : decode prog_1_method_18_code 0 = .ok (.iload_n 0, 1) := by decide +kernel
theorem d_MQ_isSmallLetter_1 : decode prog_1_method_18_code 1 = .ok (.bipush 97, 2) := by decide +kernel
theorem d_MQ_isSmallLetter_3 : decode prog_1_method_18_code 3 = .ok (.if_icmp .lt 13, 3) := by decide +kernel
theorem d_MQ_isSmallLetter_6 : decode prog_1_method_18_code 6 = .ok (.iload_n 0, 1) := by decide +kernel
theorem d_MQ_isSmallLetter_7 : decode prog_1_method_18_code 7 = .ok (.bipush 122, 2) := by decide +kernel
theorem d_MQ_isSmallLetter_9 : decode prog_1_method_18_code 9 = .ok (.if_icmp .gt 7, 3) := by decide +kernel
theorem d_MQ_isSmallLetter_12 : decode prog_1_method_18_code 12 = .ok (.iconst 1, 1) := by decide +kernel
theorem d_MQ_isSmallLetter_13 : decode prog_1_method_18_code 13 = .ok (.goto 4, 3) := by decide +kernel
theorem d_MQ_isSmallLetter_16 : decode prog_1_method_18_code 16 = .ok (.iconst 0, 1) := by decide +kernel
theorem d_MQ_isSmallLetter_17 : decode prog_1_method_18_code 17 = .ok (.ireturn, 1) := by decide +kernel
def y_MQ_isDigit : MethodName := ⟨"MailQueries", "isDigit", "(I)Z"⟩
def rm_MQ_isDigit : Room := { frames := 0, cells := 0, slots := 0, locals := 0 }
theorem d_MQ_isDigit_0 : decode prog_1_method_19_code 0 = .ok (.iload_n 0, 1) := by decide +kernel
theorem d_MQ_isDigit_1 : decode prog_1_method_19_code 1 = .ok (.bipush 48, 2) := by decide +kernel
theorem d_MQ_isDigit_3 : decode prog_1_method_19_code 3 = .ok (.if_icmp .lt 13, 3) := by decide +kernel
theorem d_MQ_isDigit_6 : decode prog_1_method_19_code 6 = .ok (.iload_n 0, 1) := by decide +kernel
theorem d_MQ_isDigit_7 : decode prog_1_method_19_code 7 = .ok (.bipush 57, 2) := by decide +kernel
theorem d_MQ_isDigit_9 : decode prog_1_method_19_code 9 = .ok (.if_icmp .gt 7, 3) := by decide +kernel
theorem d_MQ_isDigit_12 : decode prog_1_method_19_code 12 = .ok (.iconst 1, 1) := by decide +kernel
theorem d_MQ_isDigit_13 : decode prog_1_method_19_code 13 = .ok (.goto 4, 3) := by decide +kernel
theorem d_MQ_isDigit_16 : decode prog_1_method_19_code 16 = .ok (.iconst 0, 1) := by decide +kernel
theorem d_MQ_isDigit_17 : decode prog_1_method_19_code 17 = .ok (.ireturn, 1) := by decide +kernel
def y_MQ_isSpace : MethodName := ⟨"MailQueries", "isSpace", "(I)Z"⟩
def rm_MQ_isSpace : Room := { frames := 0, cells := 0, slots := 0, locals := 0 }
theorem d_MQ_isSpace_0 : decode prog_1_method_20_code 0 = .ok (.iload_n 0, 1) := by decide +kernel
theorem d_MQ_isSpace_1 : decode prog_1_method_20_code 1 = .ok (.bipush 32, 2) := by decide +kernel
theorem d_MQ_isSpace_3 : decode prog_1_method_20_code 3 = .ok (.if_icmp .eq 9, 3) := by decide +kernel
theorem d_MQ_isSpace_6 : decode prog_1_method_20_code 6 = .ok (.iload_n 0, 1) := by decide +kernel
theorem d_MQ_isSpace_7 : decode prog_1_method_20_code 7 = .ok (.bipush 9, 2) := by decide +kernel
theorem d_MQ_isSpace_9 : decode prog_1_method_20_code 9 = .ok (.if_icmp .ne 7, 3) := by decide +kernel
theorem d_MQ_isSpace_12 : decode prog_1_method_20_code 12 = .ok (.iconst 1, 1) := by decide +kernel
theorem d_MQ_isSpace_13 : decode prog_1_method_20_code 13 = .ok (.goto 4, 3) := by decide +kernel
theorem d_MQ_isSpace_16 : decode prog_1_method_20_code 16 = .ok (.iconst 0, 1) := by decide +kernel
theorem d_MQ_isSpace_17 : decode prog_1_method_20_code 17 = .ok (.ireturn, 1) := by decide +kernel
def y_MQ_isTextByte : MethodName := ⟨"MailQueries", "isTextByte", "(I)Z"⟩
def rm_MQ_isTextByte : Room := { frames := 0, cells := 0, slots := 0, locals := 0 }
theorem d_MQ_isTextByte_0 : decode prog_1_method_21_code 0 = .ok (.iload_n 0, 1) := by decide +kernel
theorem d_MQ_isTextByte_1 : decode prog_1_method_21_code 1 = .ok (.bipush 33, 2) := by decide +kernel
theorem d_MQ_isTextByte_3 : decode prog_1_method_21_code 3 = .ok (.if_icmp .lt 37, 3) := by decide +kernel
theorem d_MQ_isTextByte_6 : decode prog_1_method_21_code 6 = .ok (.iload_n 0, 1) := by decide +kernel
theorem d_MQ_isTextByte_7 : decode prog_1_method_21_code 7 = .ok (.bipush 126, 2) := by decide +kernel
theorem d_MQ_isTextByte_9 : decode prog_1_method_21_code 9 = .ok (.if_icmp .gt 31, 3) := by decide +kernel
theorem d_MQ_isTextByte_12 : decode prog_1_method_21_code 12 = .ok (.iload_n 0, 1) := by decide +kernel
theorem d_MQ_isTextByte_13 : decode prog_1_method_21_code 13 = .ok (.bipush 40, 2) := by decide +kernel
theorem d_MQ_isTextByte_15 : decode prog_1_method_21_code 15 = .ok (.if_icmp .eq 25, 3) := by decide +kernel
theorem d_MQ_isTextByte_18 : decode prog_1_method_21_code 18 = .ok (.iload_n 0, 1) := by decide +kernel
theorem d_MQ_isTextByte_19 : decode prog_1_method_21_code 19 = .ok (.bipush 41, 2) := by decide +kernel
theorem d_MQ_isTextByte_21 : decode prog_1_method_21_code 21 = .ok (.if_icmp .eq 19, 3) := by decide +kernel
theorem d_MQ_isTextByte_24 : decode prog_1_method_21_code 24 = .ok (.iload_n 0, 1) := by decide +kernel
theorem d_MQ_isTextByte_25 : decode prog_1_method_21_code 25 = .ok (.bipush 34, 2) := by decide +kernel
theorem d_MQ_isTextByte_27 : decode prog_1_method_21_code 27 = .ok (.if_icmp .eq 13, 3) := by decide +kernel
theorem d_MQ_isTextByte_30 : decode prog_1_method_21_code 30 = .ok (.iload_n 0, 1) := by decide +kernel
theorem d_MQ_isTextByte_31 : decode prog_1_method_21_code 31 = .ok (.bipush 58, 2) := by decide +kernel
theorem d_MQ_isTextByte_33 : decode prog_1_method_21_code 33 = .ok (.if_icmp .eq 7, 3) := by decide +kernel
theorem d_MQ_isTextByte_36 : decode prog_1_method_21_code 36 = .ok (.iconst 1, 1) := by decide +kernel
theorem d_MQ_isTextByte_37 : decode prog_1_method_21_code 37 = .ok (.goto 4, 3) := by decide +kernel
theorem d_MQ_isTextByte_40 : decode prog_1_method_21_code 40 = .ok (.iconst 0, 1) := by decide +kernel
theorem d_MQ_isTextByte_41 : decode prog_1_method_21_code 41 = .ok (.ireturn, 1) := by decide +kernel
def y_MQ_small : MethodName := ⟨"MailQueries", "small", "(I)I"⟩
def rm_MQ_small : Room := { frames := 0, cells := 0, slots := 0, locals := 0 }
theorem d_MQ_small_0 : decode prog_1_method_22_code 0 = .ok (.iload_n 0, 1) := by decide +kernel
theorem d_MQ_small_1 : decode prog_1_method_22_code 1 = .ok (.bipush 65, 2) := by decide +kernel
theorem d_MQ_small_3 : decode prog_1_method_22_code 3 = .ok (.if_icmp .lt 16, 3) := by decide +kernel
theorem d_MQ_small_6 : decode prog_1_method_22_code 6 = .ok (.iload_n 0, 1) := by decide +kernel
theorem d_MQ_small_7 : decode prog_1_method_22_code 7 = .ok (.bipush 90, 2) := by decide +kernel
theorem d_MQ_small_9 : decode prog_1_method_22_code 9 = .ok (.if_icmp .gt 10, 3) := by decide +kernel
theorem d_MQ_small_12 : decode prog_1_method_22_code 12 = .ok (.iload_n 0, 1) := by decide +kernel
theorem d_MQ_small_13 : decode prog_1_method_22_code 13 = .ok (.bipush 32, 2) := by decide +kernel
theorem d_MQ_small_15 : decode prog_1_method_22_code 15 = .ok (.iadd, 1) := by decide +kernel
theorem d_MQ_small_16 : decode prog_1_method_22_code 16 = .ok (.goto 4, 3) := by decide +kernel
theorem d_MQ_small_19 : decode prog_1_method_22_code 19 = .ok (.iload_n 0, 1) := by decide +kernel
theorem d_MQ_small_20 : decode prog_1_method_22_code 20 = .ok (.ireturn, 1) := by decide +kernel
def y_MQ_nameOf : MethodName := ⟨"MailQueries", "nameOf", "(I)Ljava/lang/String;"⟩
def rm_MQ_nameOf : Room := { frames := 0, cells := 0, slots := 0, locals := 0 }
theorem d_MQ_nameOf_0 : decode prog_1_method_17_code 0 = .ok (.iload_n 0, 1) := by decide +kernel
theorem d_MQ_nameOf_1 : decode prog_1_method_17_code 1 = .ok (.tableswitch 99 1 12 #[63, 66, 69, 72, 75, 78, 81, 84, 87, 90, 93, 96], 63) := by decide +kernel
theorem d_MQ_nameOf_64 : decode prog_1_method_17_code 64 = .ok (.ldc 149, 2) := by decide +kernel
theorem d_MQ_nameOf_66 : decode prog_1_method_17_code 66 = .ok (.areturn, 1) := by decide +kernel
theorem d_MQ_nameOf_67 : decode prog_1_method_17_code 67 = .ok (.ldc 151, 2) := by decide +kernel
theorem d_MQ_nameOf_69 : decode prog_1_method_17_code 69 = .ok (.areturn, 1) := by decide +kernel
theorem d_MQ_nameOf_70 : decode prog_1_method_17_code 70 = .ok (.ldc 153, 2) := by decide +kernel
theorem d_MQ_nameOf_72 : decode prog_1_method_17_code 72 = .ok (.areturn, 1) := by decide +kernel
theorem d_MQ_nameOf_73 : decode prog_1_method_17_code 73 = .ok (.ldc 155, 2) := by decide +kernel
theorem d_MQ_nameOf_75 : decode prog_1_method_17_code 75 = .ok (.areturn, 1) := by decide +kernel
theorem d_MQ_nameOf_76 : decode prog_1_method_17_code 76 = .ok (.ldc 157, 2) := by decide +kernel
theorem d_MQ_nameOf_78 : decode prog_1_method_17_code 78 = .ok (.areturn, 1) := by decide +kernel
theorem d_MQ_nameOf_79 : decode prog_1_method_17_code 79 = .ok (.ldc 159, 2) := by decide +kernel
theorem d_MQ_nameOf_81 : decode prog_1_method_17_code 81 = .ok (.areturn, 1) := by decide +kernel
theorem d_MQ_nameOf_82 : decode prog_1_method_17_code 82 = .ok (.ldc 161, 2) := by decide +kernel
theorem d_MQ_nameOf_84 : decode prog_1_method_17_code 84 = .ok (.areturn, 1) := by decide +kernel
theorem d_MQ_nameOf_85 : decode prog_1_method_17_code 85 = .ok (.ldc 163, 2) := by decide +kernel
theorem d_MQ_nameOf_87 : decode prog_1_method_17_code 87 = .ok (.areturn, 1) := by decide +kernel
theorem d_MQ_nameOf_88 : decode prog_1_method_17_code 88 = .ok (.ldc 165, 2) := by decide +kernel
theorem d_MQ_nameOf_90 : decode prog_1_method_17_code 90 = .ok (.areturn, 1) := by decide +kernel
theorem d_MQ_nameOf_91 : decode prog_1_method_17_code 91 = .ok (.ldc 167, 2) := by decide +kernel
theorem d_MQ_nameOf_93 : decode prog_1_method_17_code 93 = .ok (.areturn, 1) := by decide +kernel
theorem d_MQ_nameOf_94 : decode prog_1_method_17_code 94 = .ok (.ldc 169, 2) := by decide +kernel
theorem d_MQ_nameOf_96 : decode prog_1_method_17_code 96 = .ok (.areturn, 1) := by decide +kernel
theorem d_MQ_nameOf_97 : decode prog_1_method_17_code 97 = .ok (.ldc 171, 2) := by decide +kernel
theorem d_MQ_nameOf_99 : decode prog_1_method_17_code 99 = .ok (.areturn, 1) := by decide +kernel
theorem d_MQ_nameOf_100 : decode prog_1_method_17_code 100 = .ok (.ldc 173, 2) := by decide +kernel
theorem d_MQ_nameOf_102 : decode prog_1_method_17_code 102 = .ok (.areturn, 1) := by decide +kernel
theorem mb_MQ_isSmallLetter : MbS y_MQ_isSmallLetter prog_1_method_18_code 1 (some .boolean) 1 := ⟨W_MQ_isSmallLetter_code, W_MQ_isSmallLetter_st, I_MQ, by decide +kernel, by decide +kernel, by decide +kernel⟩
theorem mb_MQ_isDigit : MbS y_MQ_isDigit prog_1_method_19_code 1 (some .boolean) 1 := ⟨W_MQ_isDigit_code, W_MQ_isDigit_st, I_MQ, by decide +kernel, by decide +kernel, by decide +kernel⟩
theorem mb_MQ_isSpace : MbS y_MQ_isSpace prog_1_method_20_code 1 (some .boolean) 1 := ⟨W_MQ_isSpace_code, W_MQ_isSpace_st, I_MQ, by decide +kernel, by decide +kernel, by decide +kernel⟩
theorem mb_MQ_isTextByte : MbS y_MQ_isTextByte prog_1_method_21_code 1 (some .boolean) 1 := ⟨W_MQ_isTextByte_code, W_MQ_isTextByte_st, I_MQ, by decide +kernel, by decide +kernel, by decide +kernel⟩
theorem mb_MQ_small : MbS y_MQ_small prog_1_method_22_code 1 (some .int) 1 := ⟨W_MQ_small_code, W_MQ_small_st, I_MQ, by decide +kernel, by decide +kernel, by decide +kernel⟩
theorem mb_MQ_nameOf : MbS y_MQ_nameOf prog_1_method_17_code 1 (some (.object "java/lang/String")) 1 := ⟨W_MQ_nameOf_code, W_MQ_nameOf_st, I_MQ, by decide +kernel, by decide +kernel, by decide +kernel⟩
def MQ_isSmallLetter (F : Nat) (x0 : Int32) : Option (Int32) := if x0 < (97 : Int32) then some (0 : Int32) else if (122 : Int32) < x0 then some (0 : Int32) else some (1 : Int32)
set_option maxHeartbeats 4000000 in
set_option maxRecDepth 100000 in
theorem k_MQ_isSmallLetter {p : Program} {l : Launch} {e : Env} {s : State} {m : MethodId} {args : Array Value} {below : List Frame} {meth : Method} {c : Code} {g : Gz} {A2 A : Nat → Prop} {F : Nat} (hC : Cx prog_1_method_18_code 1 (some .boolean) R_MQ p s m args meth c g A2 A) : ∀ (x0 : Int32) (res : Int32), MQ_isSmallLetter F x0 = some res → Go p l e rm_MQ_isSmallLetter s m args below meth c g A2 A 1 (MQ below (RI res A) args s 0 0 A) ([]) [(0, .int x0)] 0 [] := by
  obtain ⟨hx, hb, hr, hml, hown, htb, hlocks, hA, hAA, hG⟩ := id hC
  have hK := hG.1
  intro x0 res h H locs ls hP hD hS hl
  rw [MQ_isSmallLetter] at h
  refine lv_iload_n hx hb d_MQ_isSmallLetter_0 rfl (lv_at hl 0 rfl) ?_
  refine lv_bipush (v := 97) hx hb d_MQ_isSmallLetter_1 (by decide) ?_
  refine lv_icmp_lt (tgt := 16) hx hb d_MQ_isSmallLetter_3 (by decide) (fun c3 => ?_) (fun c3 => ?_)
  · replace h := (if_pos c3).symm.trans h
    refine lv_iconst (v := 0) hx hb d_MQ_isSmallLetter_16 (by decide) ?_
    cases h
    exact W.zret hx hb hr rfl (fun t ht hW => ⟨⟨_, (), rfl, rfl, trivial⟩, hS.F ht⟩) hS.2.2 d_MQ_isSmallLetter_17
  · replace h := (if_neg c3).symm.trans h
    refine lv_iload_n hx hb d_MQ_isSmallLetter_6 rfl (lv_at hl 0 rfl) ?_
    refine lv_bipush (v := 122) hx hb d_MQ_isSmallLetter_7 (by decide) ?_
    refine lv_icmp_gt (tgt := 16) hx hb d_MQ_isSmallLetter_9 (by decide) (fun c4 => ?_) (fun c4 => ?_)
    · replace h := (if_pos c4).symm.trans h
      refine lv_iconst (v := 0) hx hb d_MQ_isSmallLetter_16 (by decide) ?_
      cases h
      exact W.zret hx hb hr rfl (fun t ht hW => ⟨⟨_, (), rfl, rfl, trivial⟩, hS.F ht⟩) hS.2.2 d_MQ_isSmallLetter_17
    · replace h := (if_neg c4).symm.trans h
      refine lv_iconst (v := 1) hx hb d_MQ_isSmallLetter_12 (by decide) ?_
      refine lv_goto (tgt := 17) hx hb d_MQ_isSmallLetter_13 (by decide) ?_
      cases h
      exact W.zret hx hb hr rfl (fun t ht hW => ⟨⟨_, (), rfl, rfl, trivial⟩, hS.F ht⟩) hS.2.2 d_MQ_isSmallLetter_17
theorem c_MQ_isSmallLetter (l : Launch) (g : Gz) (F : Nat) (x0 : Int32) (res : Int32) (h : MQ_isSmallLetter F x0 = some res) : ∀ sz : Nat, Met l y_MQ_isSmallLetter (.code y_MQ_isSmallLetter prog_1_method_18_code 1 (some .boolean) :: TBL) rm_MQ_isSmallLetter (va_Pc [.int x0] (Pre0 g ([]) sz)) (RI res (fun q => sz ≤ q)) 0 0 (fun q => sz ≤ q) :=
  ct_r (Qc := fun A => RI res A) (by decide) (Nat.le_of_ble_eq_true rfl) (fun p e s m args below meth c A2 A hC => k_MQ_isSmallLetter hC x0 res h)
def MQ_isDigit (F : Nat) (x0 : Int32) : Option (Int32) := if x0 < (48 : Int32) then some (0 : Int32) else if (57 : Int32) < x0 then some (0 : Int32) else some (1 : Int32)
set_option maxHeartbeats 4000000 in
set_option maxRecDepth 100000 in
theorem k_MQ_isDigit {p : Program} {l : Launch} {e : Env} {s : State} {m : MethodId} {args : Array Value} {below : List Frame} {meth : Method} {c : Code} {g : Gz} {A2 A : Nat → Prop} {F : Nat} (hC : Cx prog_1_method_19_code 1 (some .boolean) R_MQ p s m args meth c g A2 A) : ∀ (x0 : Int32) (res : Int32), MQ_isDigit F x0 = some res → Go p l e rm_MQ_isDigit s m args below meth c g A2 A 1 (MQ below (RI res A) args s 0 0 A) ([]) [(0, .int x0)] 0 [] := by
  obtain ⟨hx, hb, hr, hml, hown, htb, hlocks, hA, hAA, hG⟩ := id hC
  have hK := hG.1
  intro x0 res h H locs ls hP hD hS hl
  rw [MQ_isDigit] at h
  refine lv_iload_n hx hb d_MQ_isDigit_0 rfl (lv_at hl 0 rfl) ?_
  refine lv_bipush (v := 48) hx hb d_MQ_isDigit_1 (by decide) ?_
  refine lv_icmp_lt (tgt := 16) hx hb d_MQ_isDigit_3 (by decide) (fun c3 => ?_) (fun c3 => ?_)
  · replace h := (if_pos c3).symm.trans h
    refine lv_iconst (v := 0) hx hb d_MQ_isDigit_16 (by decide) ?_
    cases h
    exact W.zret hx hb hr rfl (fun t ht hW => ⟨⟨_, (), rfl, rfl, trivial⟩, hS.F ht⟩) hS.2.2 d_MQ_isDigit_17
  · replace h := (if_neg c3).symm.trans h
    refine lv_iload_n hx hb d_MQ_isDigit_6 rfl (lv_at hl 0 rfl) ?_
    refine lv_bipush (v := 57) hx hb d_MQ_isDigit_7 (by decide) ?_
    refine lv_icmp_gt (tgt := 16) hx hb d_MQ_isDigit_9 (by decide) (fun c4 => ?_) (fun c4 => ?_)
    · replace h := (if_pos c4).symm.trans h
      refine lv_iconst (v := 0) hx hb d_MQ_isDigit_16 (by decide) ?_
      cases h
      exact W.zret hx hb hr rfl (fun t ht hW => ⟨⟨_, (), rfl, rfl, trivial⟩, hS.F ht⟩) hS.2.2 d_MQ_isDigit_17
    · replace h := (if_neg c4).symm.trans h
      refine lv_iconst (v := 1) hx hb d_MQ_isDigit_12 (by decide) ?_
      refine lv_goto (tgt := 17) hx hb d_MQ_isDigit_13 (by decide) ?_
      cases h
      exact W.zret hx hb hr rfl (fun t ht hW => ⟨⟨_, (), rfl, rfl, trivial⟩, hS.F ht⟩) hS.2.2 d_MQ_isDigit_17
theorem c_MQ_isDigit (l : Launch) (g : Gz) (F : Nat) (x0 : Int32) (res : Int32) (h : MQ_isDigit F x0 = some res) : ∀ sz : Nat, Met l y_MQ_isDigit (.code y_MQ_isDigit prog_1_method_19_code 1 (some .boolean) :: TBL) rm_MQ_isDigit (va_Pc [.int x0] (Pre0 g ([]) sz)) (RI res (fun q => sz ≤ q)) 0 0 (fun q => sz ≤ q) :=
  ct_r (Qc := fun A => RI res A) (by decide) (Nat.le_of_ble_eq_true rfl) (fun p e s m args below meth c A2 A hC => k_MQ_isDigit hC x0 res h)
def MQ_isSpace (F : Nat) (x0 : Int32) : Option (Int32) := if x0 = (32 : Int32) then some (1 : Int32) else if x0 = (9 : Int32) then some (1 : Int32) else some (0 : Int32)
set_option maxHeartbeats 4000000 in
set_option maxRecDepth 100000 in
theorem k_MQ_isSpace {p : Program} {l : Launch} {e : Env} {s : State} {m : MethodId} {args : Array Value} {below : List Frame} {meth : Method} {c : Code} {g : Gz} {A2 A : Nat → Prop} {F : Nat} (hC : Cx prog_1_method_20_code 1 (some .boolean) R_MQ p s m args meth c g A2 A) : ∀ (x0 : Int32) (res : Int32), MQ_isSpace F x0 = some res → Go p l e rm_MQ_isSpace s m args below meth c g A2 A 1 (MQ below (RI res A) args s 0 0 A) ([]) [(0, .int x0)] 0 [] := by
  obtain ⟨hx, hb, hr, hml, hown, htb, hlocks, hA, hAA, hG⟩ := id hC
  have hK := hG.1
  intro x0 res h H locs ls hP hD hS hl
  rw [MQ_isSpace] at h
  refine lv_iload_n hx hb d_MQ_isSpace_0 rfl (lv_at hl 0 rfl) ?_
  refine lv_bipush (v := 32) hx hb d_MQ_isSpace_1 (by decide) ?_
  refine lv_icmp_eq (tgt := 12) hx hb d_MQ_isSpace_3 (by decide) (fun c3 => ?_) (fun c3 => ?_)
  · replace h := (if_pos c3).symm.trans h
    refine lv_iconst (v := 1) hx hb d_MQ_isSpace_12 (by decide) ?_
    refine lv_goto (tgt := 17) hx hb d_MQ_isSpace_13 (by decide) ?_
    cases h
    exact W.zret hx hb hr rfl (fun t ht hW => ⟨⟨_, (), rfl, rfl, trivial⟩, hS.F ht⟩) hS.2.2 d_MQ_isSpace_17
  · replace h := (if_neg c3).symm.trans h
    refine lv_iload_n hx hb d_MQ_isSpace_6 rfl (lv_at hl 0 rfl) ?_
    refine lv_bipush (v := 9) hx hb d_MQ_isSpace_7 (by decide) ?_
    refine lv_icmp_ne (tgt := 16) hx hb d_MQ_isSpace_9 (by decide) (fun c4 => ?_) (fun c4 => ?_)
    · replace h := (if_neg c4).symm.trans h
      refine lv_iconst (v := 0) hx hb d_MQ_isSpace_16 (by decide) ?_
      cases h
      exact W.zret hx hb hr rfl (fun t ht hW => ⟨⟨_, (), rfl, rfl, trivial⟩, hS.F ht⟩) hS.2.2 d_MQ_isSpace_17
    · replace h := (if_pos c4).symm.trans h
      refine lv_iconst (v := 1) hx hb d_MQ_isSpace_12 (by decide) ?_
      refine lv_goto (tgt := 17) hx hb d_MQ_isSpace_13 (by decide) ?_
      cases h
      exact W.zret hx hb hr rfl (fun t ht hW => ⟨⟨_, (), rfl, rfl, trivial⟩, hS.F ht⟩) hS.2.2 d_MQ_isSpace_17
theorem c_MQ_isSpace (l : Launch) (g : Gz) (F : Nat) (x0 : Int32) (res : Int32) (h : MQ_isSpace F x0 = some res) : ∀ sz : Nat, Met l y_MQ_isSpace (.code y_MQ_isSpace prog_1_method_20_code 1 (some .boolean) :: TBL) rm_MQ_isSpace (va_Pc [.int x0] (Pre0 g ([]) sz)) (RI res (fun q => sz ≤ q)) 0 0 (fun q => sz ≤ q) :=
  ct_r (Qc := fun A => RI res A) (by decide) (Nat.le_of_ble_eq_true rfl) (fun p e s m args below meth c A2 A hC => k_MQ_isSpace hC x0 res h)
def MQ_isTextByte (F : Nat) (x0 : Int32) : Option (Int32) := if x0 < (33 : Int32) then some (0 : Int32) else if (126 : Int32) < x0 then some (0 : Int32) else if x0 = (40 : Int32) then some (0 : Int32) else if x0 = (41 : Int32) then some (0 : Int32) else if x0 = (34 : Int32) then some (0 : Int32) else if x0 = (58 : Int32) then some (0 : Int32) else some (1 : Int32)
set_option maxHeartbeats 4000000 in
set_option maxRecDepth 100000 in
theorem k_MQ_isTextByte {p : Program} {l : Launch} {e : Env} {s : State} {m : MethodId} {args : Array Value} {below : List Frame} {meth : Method} {c : Code} {g : Gz} {A2 A : Nat → Prop} {F : Nat} (hC : Cx prog_1_method_21_code 1 (some .boolean) R_MQ p s m args meth c g A2 A) : ∀ (x0 : Int32) (res : Int32), MQ_isTextByte F x0 = some res → Go p l e rm_MQ_isTextByte s m args below meth c g A2 A 1 (MQ below (RI res A) args s 0 0 A) ([]) [(0, .int x0)] 0 [] := by
  obtain ⟨hx, hb, hr, hml, hown, htb, hlocks, hA, hAA, hG⟩ := id hC
  have hK := hG.1
  intro x0 res h H locs ls hP hD hS hl
  rw [MQ_isTextByte] at h
  refine lv_iload_n hx hb d_MQ_isTextByte_0 rfl (lv_at hl 0 rfl) ?_
  refine lv_bipush (v := 33) hx hb d_MQ_isTextByte_1 (by decide) ?_
  refine lv_icmp_lt (tgt := 40) hx hb d_MQ_isTextByte_3 (by decide) (fun c7 => ?_) (fun c7 => ?_)
  · replace h := (if_pos c7).symm.trans h
    refine lv_iconst (v := 0) hx hb d_MQ_isTextByte_40 (by decide) ?_
    cases h
    exact W.zret hx hb hr rfl (fun t ht hW => ⟨⟨_, (), rfl, rfl, trivial⟩, hS.F ht⟩) hS.2.2 d_MQ_isTextByte_41
  · replace h := (if_neg c7).symm.trans h
    refine lv_iload_n hx hb d_MQ_isTextByte_6 rfl (lv_at hl 0 rfl) ?_
    refine lv_bipush (v := 126) hx hb d_MQ_isTextByte_7 (by decide) ?_
    refine lv_icmp_gt (tgt := 40) hx hb d_MQ_isTextByte_9 (by decide) (fun c8 => ?_) (fun c8 => ?_)
    · replace h := (if_pos c8).symm.trans h
      refine lv_iconst (v := 0) hx hb d_MQ_isTextByte_40 (by decide) ?_
      cases h
      exact W.zret hx hb hr rfl (fun t ht hW => ⟨⟨_, (), rfl, rfl, trivial⟩, hS.F ht⟩) hS.2.2 d_MQ_isTextByte_41
    · replace h := (if_neg c8).symm.trans h
      refine lv_iload_n hx hb d_MQ_isTextByte_12 rfl (lv_at hl 0 rfl) ?_
      refine lv_bipush (v := 40) hx hb d_MQ_isTextByte_13 (by decide) ?_
      refine lv_icmp_eq (tgt := 40) hx hb d_MQ_isTextByte_15 (by decide) (fun c9 => ?_) (fun c9 => ?_)
      · replace h := (if_pos c9).symm.trans h
        refine lv_iconst (v := 0) hx hb d_MQ_isTextByte_40 (by decide) ?_
        cases h
        exact W.zret hx hb hr rfl (fun t ht hW => ⟨⟨_, (), rfl, rfl, trivial⟩, hS.F ht⟩) hS.2.2 d_MQ_isTextByte_41
      · replace h := (if_neg c9).symm.trans h
        refine lv_iload_n hx hb d_MQ_isTextByte_18 rfl (lv_at hl 0 rfl) ?_
        refine lv_bipush (v := 41) hx hb d_MQ_isTextByte_19 (by decide) ?_
        refine lv_icmp_eq (tgt := 40) hx hb d_MQ_isTextByte_21 (by decide) (fun c10 => ?_) (fun c10 => ?_)
        · replace h := (if_pos c10).symm.trans h
          refine lv_iconst (v := 0) hx hb d_MQ_isTextByte_40 (by decide) ?_
          cases h
          exact W.zret hx hb hr rfl (fun t ht hW => ⟨⟨_, (), rfl, rfl, trivial⟩, hS.F ht⟩) hS.2.2 d_MQ_isTextByte_41
        · replace h := (if_neg c10).symm.trans h
          refine lv_iload_n hx hb d_MQ_isTextByte_24 rfl (lv_at hl 0 rfl) ?_
          refine lv_bipush (v := 34) hx hb d_MQ_isTextByte_25 (by decide) ?_
          refine lv_icmp_eq (tgt := 40) hx hb d_MQ_isTextByte_27 (by decide) (fun c11 => ?_) (fun c11 => ?_)
          · replace h := (if_pos c11).symm.trans h
            refine lv_iconst (v := 0) hx hb d_MQ_isTextByte_40 (by decide) ?_
            cases h
            exact W.zret hx hb hr rfl (fun t ht hW => ⟨⟨_, (), rfl, rfl, trivial⟩, hS.F ht⟩) hS.2.2 d_MQ_isTextByte_41
          · replace h := (if_neg c11).symm.trans h
            refine lv_iload_n hx hb d_MQ_isTextByte_30 rfl (lv_at hl 0 rfl) ?_
            refine lv_bipush (v := 58) hx hb d_MQ_isTextByte_31 (by decide) ?_
            refine lv_icmp_eq (tgt := 40) hx hb d_MQ_isTextByte_33 (by decide) (fun c12 => ?_) (fun c12 => ?_)
            · replace h := (if_pos c12).symm.trans h
              refine lv_iconst (v := 0) hx hb d_MQ_isTextByte_40 (by decide) ?_
              cases h
              exact W.zret hx hb hr rfl (fun t ht hW => ⟨⟨_, (), rfl, rfl, trivial⟩, hS.F ht⟩) hS.2.2 d_MQ_isTextByte_41
            · replace h := (if_neg c12).symm.trans h
              refine lv_iconst (v := 1) hx hb d_MQ_isTextByte_36 (by decide) ?_
              refine lv_goto (tgt := 41) hx hb d_MQ_isTextByte_37 (by decide) ?_
              cases h
              exact W.zret hx hb hr rfl (fun t ht hW => ⟨⟨_, (), rfl, rfl, trivial⟩, hS.F ht⟩) hS.2.2 d_MQ_isTextByte_41
theorem c_MQ_isTextByte (l : Launch) (g : Gz) (F : Nat) (x0 : Int32) (res : Int32) (h : MQ_isTextByte F x0 = some res) : ∀ sz : Nat, Met l y_MQ_isTextByte (.code y_MQ_isTextByte prog_1_method_21_code 1 (some .boolean) :: TBL) rm_MQ_isTextByte (va_Pc [.int x0] (Pre0 g ([]) sz)) (RI res (fun q => sz ≤ q)) 0 0 (fun q => sz ≤ q) :=
  ct_r (Qc := fun A => RI res A) (by decide) (Nat.le_of_ble_eq_true rfl) (fun p e s m args below meth c A2 A hC => k_MQ_isTextByte hC x0 res h)
def MQ_small (F : Nat) (x0 : Int32) : Option (Int32) := if x0 < (65 : Int32) then some x0 else if (90 : Int32) < x0 then some x0 else some (x0 + (32 : Int32))
set_option maxHeartbeats 4000000 in
set_option maxRecDepth 100000 in
theorem k_MQ_small {p : Program} {l : Launch} {e : Env} {s : State} {m : MethodId} {args : Array Value} {below : List Frame} {meth : Method} {c : Code} {g : Gz} {A2 A : Nat → Prop} {F : Nat} (hC : Cx prog_1_method_22_code 1 (some .int) R_MQ p s m args meth c g A2 A) : ∀ (x0 : Int32) (res : Int32), MQ_small F x0 = some res → Go p l e rm_MQ_small s m args below meth c g A2 A 1 (MQ below (RI res A) args s 0 0 A) ([]) [(0, .int x0)] 0 [] := by
  obtain ⟨hx, hb, hr, hml, hown, htb, hlocks, hA, hAA, hG⟩ := id hC
  have hK := hG.1
  intro x0 res h H locs ls hP hD hS hl
  rw [MQ_small] at h
  refine lv_iload_n hx hb d_MQ_small_0 rfl (lv_at hl 0 rfl) ?_
  refine lv_bipush (v := 65) hx hb d_MQ_small_1 (by decide) ?_
  refine lv_icmp_lt (tgt := 19) hx hb d_MQ_small_3 (by decide) (fun c3 => ?_) (fun c3 => ?_)
  · replace h := (if_pos c3).symm.trans h
    refine lv_iload_n hx hb d_MQ_small_19 rfl (lv_at hl 0 rfl) ?_
    cases h
    exact W.iret hx hb hr (fun t ht hW => ⟨⟨_, (), rfl, rfl, trivial⟩, hS.F ht⟩) hS.2.2 d_MQ_small_20
  · replace h := (if_neg c3).symm.trans h
    refine lv_iload_n hx hb d_MQ_small_6 rfl (lv_at hl 0 rfl) ?_
    refine lv_bipush (v := 90) hx hb d_MQ_small_7 (by decide) ?_
    refine lv_icmp_gt (tgt := 19) hx hb d_MQ_small_9 (by decide) (fun c4 => ?_) (fun c4 => ?_)
    · replace h := (if_pos c4).symm.trans h
      refine lv_iload_n hx hb d_MQ_small_19 rfl (lv_at hl 0 rfl) ?_
      cases h
      exact W.iret hx hb hr (fun t ht hW => ⟨⟨_, (), rfl, rfl, trivial⟩, hS.F ht⟩) hS.2.2 d_MQ_small_20
    · replace h := (if_neg c4).symm.trans h
      refine lv_iload_n hx hb d_MQ_small_12 rfl (lv_at hl 0 rfl) ?_
      refine lv_bipush (v := 32) hx hb d_MQ_small_13 (by decide) ?_
      refine lv_iadd hx hb d_MQ_small_15 ?_
      refine lv_goto (tgt := 20) hx hb d_MQ_small_16 (by decide) ?_
      cases h
      exact W.iret hx hb hr (fun t ht hW => ⟨⟨_, (), rfl, rfl, trivial⟩, hS.F ht⟩) hS.2.2 d_MQ_small_20
theorem c_MQ_small (l : Launch) (g : Gz) (F : Nat) (x0 : Int32) (res : Int32) (h : MQ_small F x0 = some res) : ∀ sz : Nat, Met l y_MQ_small (.code y_MQ_small prog_1_method_22_code 1 (some .int) :: TBL) rm_MQ_small (va_Pc [.int x0] (Pre0 g ([]) sz)) (RI res (fun q => sz ≤ q)) 0 0 (fun q => sz ≤ q) :=
  ct_r (Qc := fun A => RI res A) (by decide) (Nat.le_of_ble_eq_true rfl) (fun p e s m args below meth c A2 A hC => k_MQ_small hC x0 res h)
def MQ_nameOf (F : Nat) (x0 : Int32) : Option (Nat) := if x0 = (1 : Int32) then some 0 else if x0 = (2 : Int32) then some 1 else if x0 = (3 : Int32) then some 2 else if x0 = (4 : Int32) then some 3 else if x0 = (5 : Int32) then some 4 else if x0 = (6 : Int32) then some 5 else if x0 = (7 : Int32) then some 6 else if x0 = (8 : Int32) then some 7 else if x0 = (9 : Int32) then some 8 else if x0 = (10 : Int32) then some 9 else if x0 = (11 : Int32) then some 10 else if x0 = (12 : Int32) then some 11 else some 12
set_option maxHeartbeats 4000000 in
set_option maxRecDepth 100000 in
theorem k_MQ_nameOf {p : Program} {l : Launch} {e : Env} {s : State} {m : MethodId} {args : Array Value} {below : List Frame} {meth : Method} {c : Code} {g : Gz} {A2 A : Nat → Prop} {F : Nat} (hC : Cx prog_1_method_17_code 1 (some (.object "java/lang/String")) R_MQ p s m args meth c g A2 A) : ∀ (x0 : Int32) (res : Nat), MQ_nameOf F x0 = some res → Go p l e rm_MQ_nameOf s m args below meth c g A2 A 1 (MQ below (RS g res A) args s 0 0 A) ([]) [(0, .int x0)] 0 [] := by
  obtain ⟨hx, hb, hr, hml, hown, htb, hlocks, hA, hAA, hG⟩ := id hC
  have hK := hG.1
  intro x0 res h H locs ls hP hD hS hl
  rw [MQ_nameOf] at h
  refine lv_iload_n hx hb d_MQ_nameOf_0 rfl (lv_at hl 0 rfl) ?_
  by_cases c13 : x0 = (1 : Int32)
  · replace h := (if_pos c13).symm.trans h
    refine lv_tableIn (off := 63) (tgt := 64) hx hb d_MQ_nameOf_1 (by rw [c13]; decide) (by rw [c13]; decide) (by rw [c13]; rfl) (by decide) ?_
    refine ldc_s hx hb hG M_str_MQ_149 hown d_MQ_nameOf_64 ?_
    cases h
    exact W.aret hx hb hr (Or.inl ⟨_, rfl⟩) (Or.inr ⟨_, rfl⟩) (fun t ht hW => ⟨⟨(), _, rfl, trivial, rfl⟩, hS.F ht⟩) hS.2.2 d_MQ_nameOf_66
  replace h := (if_neg c13).symm.trans h
  by_cases c14 : x0 = (2 : Int32)
  · replace h := (if_pos c14).symm.trans h
    refine lv_tableIn (off := 66) (tgt := 67) hx hb d_MQ_nameOf_1 (by rw [c14]; decide) (by rw [c14]; decide) (by rw [c14]; rfl) (by decide) ?_
    refine ldc_s hx hb hG M_str_MQ_151 hown d_MQ_nameOf_67 ?_
    cases h
    exact W.aret hx hb hr (Or.inl ⟨_, rfl⟩) (Or.inr ⟨_, rfl⟩) (fun t ht hW => ⟨⟨(), _, rfl, trivial, rfl⟩, hS.F ht⟩) hS.2.2 d_MQ_nameOf_69
  replace h := (if_neg c14).symm.trans h
  by_cases c15 : x0 = (3 : Int32)
  · replace h := (if_pos c15).symm.trans h
    refine lv_tableIn (off := 69) (tgt := 70) hx hb d_MQ_nameOf_1 (by rw [c15]; decide) (by rw [c15]; decide) (by rw [c15]; rfl) (by decide) ?_
    refine ldc_s hx hb hG M_str_MQ_153 hown d_MQ_nameOf_70 ?_
    cases h
    exact W.aret hx hb hr (Or.inl ⟨_, rfl⟩) (Or.inr ⟨_, rfl⟩) (fun t ht hW => ⟨⟨(), _, rfl, trivial, rfl⟩, hS.F ht⟩) hS.2.2 d_MQ_nameOf_72
  replace h := (if_neg c15).symm.trans h
  by_cases c16 : x0 = (4 : Int32)
  · replace h := (if_pos c16).symm.trans h
    refine lv_tableIn (off := 72) (tgt := 73) hx hb d_MQ_nameOf_1 (by rw [c16]; decide) (by rw [c16]; decide) (by rw [c16]; rfl) (by decide) ?_
    refine ldc_s hx hb hG M_str_MQ_155 hown d_MQ_nameOf_73 ?_
    cases h
    exact W.aret hx hb hr (Or.inl ⟨_, rfl⟩) (Or.inr ⟨_, rfl⟩) (fun t ht hW => ⟨⟨(), _, rfl, trivial, rfl⟩, hS.F ht⟩) hS.2.2 d_MQ_nameOf_75
  replace h := (if_neg c16).symm.trans h
  by_cases c17 : x0 = (5 : Int32)
  · replace h := (if_pos c17).symm.trans h
    refine lv_tableIn (off := 75) (tgt := 76) hx hb d_MQ_nameOf_1 (by rw [c17]; decide) (by rw [c17]; decide) (by rw [c17]; rfl) (by decide) ?_
    refine ldc_s hx hb hG M_str_MQ_157 hown d_MQ_nameOf_76 ?_
    cases h
    exact W.aret hx hb hr (Or.inl ⟨_, rfl⟩) (Or.inr ⟨_, rfl⟩) (fun t ht hW => ⟨⟨(), _, rfl, trivial, rfl⟩, hS.F ht⟩) hS.2.2 d_MQ_nameOf_78
  replace h := (if_neg c17).symm.trans h
  by_cases c18 : x0 = (6 : Int32)
  · replace h := (if_pos c18).symm.trans h
    refine lv_tableIn (off := 78) (tgt := 79) hx hb d_MQ_nameOf_1 (by rw [c18]; decide) (by rw [c18]; decide) (by rw [c18]; rfl) (by decide) ?_
    refine ldc_s hx hb hG M_str_MQ_159 hown d_MQ_nameOf_79 ?_
    cases h
    exact W.aret hx hb hr (Or.inl ⟨_, rfl⟩) (Or.inr ⟨_, rfl⟩) (fun t ht hW => ⟨⟨(), _, rfl, trivial, rfl⟩, hS.F ht⟩) hS.2.2 d_MQ_nameOf_81
  replace h := (if_neg c18).symm.trans h
  by_cases c19 : x0 = (7 : Int32)
  · replace h := (if_pos c19).symm.trans h
    refine lv_tableIn (off := 81) (tgt := 82) hx hb d_MQ_nameOf_1 (by rw [c19]; decide) (by rw [c19]; decide) (by rw [c19]; rfl) (by decide) ?_
    refine ldc_s hx hb hG M_str_MQ_161 hown d_MQ_nameOf_82 ?_
    cases h
    exact W.aret hx hb hr (Or.inl ⟨_, rfl⟩) (Or.inr ⟨_, rfl⟩) (fun t ht hW => ⟨⟨(), _, rfl, trivial, rfl⟩, hS.F ht⟩) hS.2.2 d_MQ_nameOf_84
  replace h := (if_neg c19).symm.trans h
  by_cases c20 : x0 = (8 : Int32)
  · replace h := (if_pos c20).symm.trans h
    refine lv_tableIn (off := 84) (tgt := 85) hx hb d_MQ_nameOf_1 (by rw [c20]; decide) (by rw [c20]; decide) (by rw [c20]; rfl) (by decide) ?_
    refine ldc_s hx hb hG M_str_MQ_163 hown d_MQ_nameOf_85 ?_
    cases h
    exact W.aret hx hb hr (Or.inl ⟨_, rfl⟩) (Or.inr ⟨_, rfl⟩) (fun t ht hW => ⟨⟨(), _, rfl, trivial, rfl⟩, hS.F ht⟩) hS.2.2 d_MQ_nameOf_87
  replace h := (if_neg c20).symm.trans h
  by_cases c21 : x0 = (9 : Int32)
  · replace h := (if_pos c21).symm.trans h
    refine lv_tableIn (off := 87) (tgt := 88) hx hb d_MQ_nameOf_1 (by rw [c21]; decide) (by rw [c21]; decide) (by rw [c21]; rfl) (by decide) ?_
    refine ldc_s hx hb hG M_str_MQ_165 hown d_MQ_nameOf_88 ?_
    cases h
    exact W.aret hx hb hr (Or.inl ⟨_, rfl⟩) (Or.inr ⟨_, rfl⟩) (fun t ht hW => ⟨⟨(), _, rfl, trivial, rfl⟩, hS.F ht⟩) hS.2.2 d_MQ_nameOf_90
  replace h := (if_neg c21).symm.trans h
  by_cases c22 : x0 = (10 : Int32)
  · replace h := (if_pos c22).symm.trans h
    refine lv_tableIn (off := 90) (tgt := 91) hx hb d_MQ_nameOf_1 (by rw [c22]; decide) (by rw [c22]; decide) (by rw [c22]; rfl) (by decide) ?_
    refine ldc_s hx hb hG M_str_MQ_167 hown d_MQ_nameOf_91 ?_
    cases h
    exact W.aret hx hb hr (Or.inl ⟨_, rfl⟩) (Or.inr ⟨_, rfl⟩) (fun t ht hW => ⟨⟨(), _, rfl, trivial, rfl⟩, hS.F ht⟩) hS.2.2 d_MQ_nameOf_93
  replace h := (if_neg c22).symm.trans h
  by_cases c23 : x0 = (11 : Int32)
  · replace h := (if_pos c23).symm.trans h
    refine lv_tableIn (off := 93) (tgt := 94) hx hb d_MQ_nameOf_1 (by rw [c23]; decide) (by rw [c23]; decide) (by rw [c23]; rfl) (by decide) ?_
    refine ldc_s hx hb hG M_str_MQ_169 hown d_MQ_nameOf_94 ?_
    cases h
    exact W.aret hx hb hr (Or.inl ⟨_, rfl⟩) (Or.inr ⟨_, rfl⟩) (fun t ht hW => ⟨⟨(), _, rfl, trivial, rfl⟩, hS.F ht⟩) hS.2.2 d_MQ_nameOf_96
  replace h := (if_neg c23).symm.trans h
  by_cases c24 : x0 = (12 : Int32)
  · replace h := (if_pos c24).symm.trans h
    refine lv_tableIn (off := 96) (tgt := 97) hx hb d_MQ_nameOf_1 (by rw [c24]; decide) (by rw [c24]; decide) (by rw [c24]; rfl) (by decide) ?_
    refine ldc_s hx hb hG M_str_MQ_171 hown d_MQ_nameOf_97 ?_
    cases h
    exact W.aret hx hb hr (Or.inl ⟨_, rfl⟩) (Or.inr ⟨_, rfl⟩) (fun t ht hW => ⟨⟨(), _, rfl, trivial, rfl⟩, hS.F ht⟩) hS.2.2 d_MQ_nameOf_99
  replace h := (if_neg c24).symm.trans h
  refine lv_tableOut (tgt := 100) hx hb d_MQ_nameOf_1 (by have z0 := lv_neT (a := 1) c13 (by decide); have z1 := lv_neT (a := 2) c14 (by decide); have z2 := lv_neT (a := 3) c15 (by decide); have z3 := lv_neT (a := 4) c16 (by decide); have z4 := lv_neT (a := 5) c17 (by decide); have z5 := lv_neT (a := 6) c18 (by decide); have z6 := lv_neT (a := 7) c19 (by decide); have z7 := lv_neT (a := 8) c20 (by decide); have z8 := lv_neT (a := 9) c21 (by decide); have z9 := lv_neT (a := 10) c22 (by decide); have z10 := lv_neT (a := 11) c23 (by decide); have z11 := lv_neT (a := 12) c24 (by decide); omega) (by decide) ?_
  refine ldc_s hx hb hG M_str_MQ_173 hown d_MQ_nameOf_100 ?_
  cases h
  exact W.aret hx hb hr (Or.inl ⟨_, rfl⟩) (Or.inr ⟨_, rfl⟩) (fun t ht hW => ⟨⟨(), _, rfl, trivial, rfl⟩, hS.F ht⟩) hS.2.2 d_MQ_nameOf_102
theorem c_MQ_nameOf (l : Launch) (g : Gz) (F : Nat) (x0 : Int32) (res : Nat) (h : MQ_nameOf F x0 = some res) : ∀ sz : Nat, Met l y_MQ_nameOf (.code y_MQ_nameOf prog_1_method_17_code 1 (some (.object "java/lang/String")) :: TBL) rm_MQ_nameOf (va_Pc [.int x0] (Pre0 g ([]) sz)) (RS g res (fun q => sz ≤ q)) 0 0 (fun q => sz ≤ q) :=
  ct_r (Qc := fun A => RS g res A) (by decide) (Nat.le_of_ble_eq_true rfl) (fun p e s m args below meth c A2 A hC => k_MQ_nameOf hC x0 res h)
