theorem L_Reader_25 : (Jvm.Cond.fieldLink "MailQueries$Reader" (25 : Nat) "MailQueries$Reader" "faultKind" "I") ∈ TBL := TBL_in (List.mem_of_getElem? (i := 227) (by decide +kernel)) (by decide +kernel)
theorem L_Reader_29 : (Jvm.Cond.fieldLink "MailQueries$Reader" (29 : Nat) "MailQueries$Reader" "faultPlace" "I") ∈ TBL := TBL_in (List.mem_of_getElem? (i := 229) (by decide +kernel)) (by decide +kernel)
set_option maxRecDepth 100000 in
theorem W_Reader_fail_code : (Jvm.Cond.code ({ cls := "MailQueries$Reader", name := "fail", desc := "(II)I" } : Jvm.MethodName) prog_6_method_4_code (3 : Nat) (Option.some Jvm.ClassFile.FieldType.int)) ∈ TBL := TBL_in (List.mem_of_getElem? (i := 726) rfl) rfl
theorem I_Reader : (Jvm.Cond.initialized "MailQueries$Reader") ∈ TBL := TBL_in (List.mem_of_getElem? (i := 103) (by decide +kernel)) (by decide +kernel)
theorem W_Reader_fail_in : (Jvm.Cond.instanceMethod ({ cls := "MailQueries$Reader", name := "fail", desc := "(II)I" } : Jvm.MethodName)) ∈ TBL := TBL_in (List.mem_of_getElem? (i := 725) (by decide +kernel)) (by decide +kernel)
theorem sel_29 : Cond.selects "MailQueries$Reader" ⟨"MailQueries$Reader", "fail", "(II)I"⟩ ⟨"MailQueries$Reader", "fail", "(II)I"⟩ ∈ TBL := TBL_in (List.mem_of_getElem? (i := 29) (by decide +kernel)) (by decide +kernel)
theorem L_Reader_12 : (Jvm.Cond.fieldLink "MailQueries$Reader" (12 : Nat) "MailQueries$Reader" "query" "LMailQueries$Query;") ∈ TBL := TBL_in (List.mem_of_getElem? (i := 225) (by decide +kernel)) (by decide +kernel)
theorem L_Reader_70 : (Jvm.Cond.methodLink "MailQueries$Reader" (70 : Nat) ({ cls := "MailQueries$Query", name := "byteAt", desc := "(I)I" } : Jvm.MethodName)) ∈ TBL := TBL_in (List.mem_of_getElem? (i := 711) (by decide +kernel)) (by decide +kernel)
set_option maxRecDepth 100000 in
theorem W_Reader_pastSpaces_code : (Jvm.Cond.code ({ cls := "MailQueries$Reader", name := "pastSpaces", desc := "(I)I" } : Jvm.MethodName) prog_6_method_22_code (3 : Nat) (Option.some Jvm.ClassFile.FieldType.int)) ∈ TBL := TBL_in (List.mem_of_getElem? (i := 710) rfl) rfl
theorem W_Reader_pastSpaces_in : (Jvm.Cond.instanceMethod ({ cls := "MailQueries$Reader", name := "pastSpaces", desc := "(I)I" } : Jvm.MethodName)) ∈ TBL := TBL_in (List.mem_of_getElem? (i := 709) (by decide +kernel)) (by decide +kernel)
theorem sel_26 : Cond.selects "MailQueries$Reader" ⟨"MailQueries$Reader", "pastSpaces", "(I)I"⟩ ⟨"MailQueries$Reader", "pastSpaces", "(I)I"⟩ ∈ TBL := TBL_in (List.mem_of_getElem? (i := 26) (by decide +kernel)) (by decide +kernel)
set_option maxRecDepth 100000 in
theorem W_Reader_pastLetters_code : (Jvm.Cond.code ({ cls := "MailQueries$Reader", name := "pastLetters", desc := "(I)I" } : Jvm.MethodName) prog_6_method_23_code (3 : Nat) (Option.some Jvm.ClassFile.FieldType.int)) ∈ TBL := TBL_in (List.mem_of_getElem? (i := 749) rfl) rfl
theorem W_Reader_pastLetters_in : (Jvm.Cond.instanceMethod ({ cls := "MailQueries$Reader", name := "pastLetters", desc := "(I)I" } : Jvm.MethodName)) ∈ TBL := TBL_in (List.mem_of_getElem? (i := 748) (by decide +kernel)) (by decide +kernel)
theorem sel_33 : Cond.selects "MailQueries$Reader" ⟨"MailQueries$Reader", "pastLetters", "(I)I"⟩ ⟨"MailQueries$Reader", "pastLetters", "(I)I"⟩ ∈ TBL := TBL_in (List.mem_of_getElem? (i := 33) (by decide +kernel)) (by decide +kernel)
set_option maxRecDepth 100000 in
theorem W_Reader_pastTextBytes_code : (Jvm.Cond.code ({ cls := "MailQueries$Reader", name := "pastTextBytes", desc := "(I)I" } : Jvm.MethodName) prog_6_method_24_code (3 : Nat) (Option.some Jvm.ClassFile.FieldType.int)) ∈ TBL := TBL_in (List.mem_of_getElem? (i := 784) rfl) rfl
theorem W_Reader_pastTextBytes_in : (Jvm.Cond.instanceMethod ({ cls := "MailQueries$Reader", name := "pastTextBytes", desc := "(I)I" } : Jvm.MethodName)) ∈ TBL := TBL_in (List.mem_of_getElem? (i := 783) (by decide +kernel)) (by decide +kernel)
theorem sel_37 : Cond.selects "MailQueries$Reader" ⟨"MailQueries$Reader", "pastTextBytes", "(I)I"⟩ ⟨"MailQueries$Reader", "pastTextBytes", "(I)I"⟩ ∈ TBL := TBL_in (List.mem_of_getElem? (i := 37) (by decide +kernel)) (by decide +kernel)
theorem L_Reader_166 : (Jvm.Cond.methodLink "MailQueries$Reader" (166 : Nat) ({ cls := "MailQueries$Query", name := "says", desc := "(IILjava/lang/String;)Z" } : Jvm.MethodName)) ∈ TBL := TBL_in (List.mem_of_getElem? (i := 758) (by decide +kernel)) (by decide +kernel)
set_option maxRecDepth 100000 in
theorem W_Reader_signOf_code : (Jvm.Cond.code ({ cls := "MailQueries$Reader", name := "signOf", desc := "(II)I" } : Jvm.MethodName) prog_6_method_21_code (3 : Nat) (Option.some Jvm.ClassFile.FieldType.int)) ∈ TBL := TBL_in (List.mem_of_getElem? (i := 869) rfl) rfl
theorem W_Reader_signOf_in : (Jvm.Cond.instanceMethod ({ cls := "MailQueries$Reader", name := "signOf", desc := "(II)I" } : Jvm.MethodName)) ∈ TBL := TBL_in (List.mem_of_getElem? (i := 868) (by decide +kernel)) (by decide +kernel)
theorem sel_45 : Cond.selects "MailQueries$Reader" ⟨"MailQueries$Reader", "signOf", "(II)I"⟩ ⟨"MailQueries$Reader", "signOf", "(II)I"⟩ ∈ TBL := TBL_in (List.mem_of_getElem? (i := 45) (by decide +kernel)) (by decide +kernel)
set_option maxRecDepth 100000 in
theorem W_Reader_fieldOf_code : (Jvm.Cond.code ({ cls := "MailQueries$Reader", name := "fieldOf", desc := "(II)I" } : Jvm.MethodName) prog_6_method_20_code (4 : Nat) (Option.some Jvm.ClassFile.FieldType.int)) ∈ TBL := TBL_in (List.mem_of_getElem? (i := 756) rfl) rfl
theorem W_Reader_fieldOf_in : (Jvm.Cond.instanceMethod ({ cls := "MailQueries$Reader", name := "fieldOf", desc := "(II)I" } : Jvm.MethodName)) ∈ TBL := TBL_in (List.mem_of_getElem? (i := 755) (by decide +kernel)) (by decide +kernel)
theorem sel_34 : Cond.selects "MailQueries$Reader" ⟨"MailQueries$Reader", "fieldOf", "(II)I"⟩ ⟨"MailQueries$Reader", "fieldOf", "(II)I"⟩ ∈ TBL := TBL_in (List.mem_of_getElem? (i := 34) (by decide +kernel)) (by decide +kernel)
theorem L_Reader_116 : (Jvm.Cond.methodLink "MailQueries$Reader" (116 : Nat) ({ cls := "MailQueries$Query", name := "find", desc := "(III)I" } : Jvm.MethodName)) ∈ TBL := TBL_in (List.mem_of_getElem? (i := 777) (by decide +kernel)) (by decide +kernel)
set_option maxRecDepth 100000 in
theorem W_Reader_starFits_code : (Jvm.Cond.code ({ cls := "MailQueries$Reader", name := "starFits", desc := "(IZII)Z" } : Jvm.MethodName) prog_6_method_19_code (7 : Nat) (Option.some Jvm.ClassFile.FieldType.boolean)) ∈ TBL := TBL_in (List.mem_of_getElem? (i := 844) rfl) rfl
theorem W_Reader_starFits_in : (Jvm.Cond.instanceMethod ({ cls := "MailQueries$Reader", name := "starFits", desc := "(IZII)Z" } : Jvm.MethodName)) ∈ TBL := TBL_in (List.mem_of_getElem? (i := 843) (by decide +kernel)) (by decide +kernel)
theorem sel_42 : Cond.selects "MailQueries$Reader" ⟨"MailQueries$Reader", "starFits", "(IZII)Z"⟩ ⟨"MailQueries$Reader", "starFits", "(IZII)Z"⟩ ∈ TBL := TBL_in (List.mem_of_getElem? (i := 42) (by decide +kernel)) (by decide +kernel)
set_option maxRecDepth 100000 in
theorem W_Reader_isState_code : (Jvm.Cond.code ({ cls := "MailQueries$Reader", name := "isState", desc := "(II)Z" } : Jvm.MethodName) prog_6_method_18_code (3 : Nat) (Option.some Jvm.ClassFile.FieldType.boolean)) ∈ TBL := TBL_in (List.mem_of_getElem? (i := 799) rfl) rfl
theorem W_Reader_isState_in : (Jvm.Cond.instanceMethod ({ cls := "MailQueries$Reader", name := "isState", desc := "(II)Z" } : Jvm.MethodName)) ∈ TBL := TBL_in (List.mem_of_getElem? (i := 798) (by decide +kernel)) (by decide +kernel)
theorem sel_40 : Cond.selects "MailQueries$Reader" ⟨"MailQueries$Reader", "isState", "(II)Z"⟩ ⟨"MailQueries$Reader", "isState", "(II)Z"⟩ ∈ TBL := TBL_in (List.mem_of_getElem? (i := 40) (by decide +kernel)) (by decide +kernel)
set_option maxRecDepth 100000 in
theorem W_Reader_isTag_code : (Jvm.Cond.code ({ cls := "MailQueries$Reader", name := "isTag", desc := "(II)Z" } : Jvm.MethodName) prog_6_method_17_code (5 : Nat) (Option.some Jvm.ClassFile.FieldType.boolean)) ∈ TBL := TBL_in (List.mem_of_getElem? (i := 792) rfl) rfl
theorem W_Reader_isTag_in : (Jvm.Cond.instanceMethod ({ cls := "MailQueries$Reader", name := "isTag", desc := "(II)Z" } : Jvm.MethodName)) ∈ TBL := TBL_in (List.mem_of_getElem? (i := 791) (by decide +kernel)) (by decide +kernel)
theorem sel_39 : Cond.selects "MailQueries$Reader" ⟨"MailQueries$Reader", "isTag", "(II)Z"⟩ ⟨"MailQueries$Reader", "isTag", "(II)Z"⟩ ∈ TBL := TBL_in (List.mem_of_getElem? (i := 39) (by decide +kernel)) (by decide +kernel)
theorem L_Reader_144 : (Jvm.Cond.methodLink "MailQueries$Reader" (144 : Nat) ({ cls := "MailQueries$Reader", name := "isTag", desc := "(II)Z" } : Jvm.MethodName)) ∈ TBL := TBL_in (List.mem_of_getElem? (i := 789) (by decide +kernel)) (by decide +kernel)
theorem L_Reader_155 : (Jvm.Cond.methodLink "MailQueries$Reader" (155 : Nat) ({ cls := "MailQueries$Reader", name := "starFits", desc := "(IZII)Z" } : Jvm.MethodName)) ∈ TBL := TBL_in (List.mem_of_getElem? (i := 841) (by decide +kernel)) (by decide +kernel)
theorem L_Reader_148 : (Jvm.Cond.methodLink "MailQueries$Reader" (148 : Nat) ({ cls := "MailQueries$Reader", name := "isState", desc := "(II)Z" } : Jvm.MethodName)) ∈ TBL := TBL_in (List.mem_of_getElem? (i := 796) (by decide +kernel)) (by decide +kernel)
theorem L_Reader_21 : (Jvm.Cond.fieldLink "MailQueries$Reader" (21 : Nat) "MailQueries$Reader" "span" "LMailQueries$Span;") ∈ TBL := TBL_in (List.mem_of_getElem? (i := 226) (by decide +kernel)) (by decide +kernel)
theorem L_Reader_151 : (Jvm.Cond.methodLink "MailQueries$Reader" (151 : Nat) ({ cls := "MailQueries$Span", name := "fits", desc := "(LMailQueries$Query;IIZ)Z" } : Jvm.MethodName)) ∈ TBL := TBL_in (List.mem_of_getElem? (i := 804) (by decide +kernel)) (by decide +kernel)
set_option maxRecDepth 100000 in
theorem W_Reader_fieldHas_code : (Jvm.Cond.code ({ cls := "MailQueries$Reader", name := "fieldHas", desc := "(IZII)Z" } : Jvm.MethodName) prog_6_method_16_code (5 : Nat) (Option.some Jvm.ClassFile.FieldType.boolean)) ∈ TBL := TBL_in (List.mem_of_getElem? (i := 788) rfl) rfl
theorem W_Reader_fieldHas_in : (Jvm.Cond.instanceMethod ({ cls := "MailQueries$Reader", name := "fieldHas", desc := "(IZII)Z" } : Jvm.MethodName)) ∈ TBL := TBL_in (List.mem_of_getElem? (i := 787) (by decide +kernel)) (by decide +kernel)
theorem sel_38 : Cond.selects "MailQueries$Reader" ⟨"MailQueries$Reader", "fieldHas", "(IZII)Z"⟩ ⟨"MailQueries$Reader", "fieldHas", "(IZII)Z"⟩ ∈ TBL := TBL_in (List.mem_of_getElem? (i := 38) (by decide +kernel)) (by decide +kernel)
def y_Reader_fail : MethodName := ⟨"MailQueries$Reader", "fail", "(II)I"⟩
def rm_Reader_fail : Room := { frames := 0, cells := 0, slots := 0, locals := 0 }
theorem d_Reader_fail_0 : decode prog_6_method_4_code 0 = .ok (.aload_n 0, 1) := by decide +kernel
theorem d_Reader_fail_1 : decode prog_6_method_4_code 1 = .ok (.iload_n 1, 1) := by decide +kernel
theorem d_Reader_fail_2 : decode prog_6_method_4_code 2 = .ok (.putfield 25, 3) := by decide +kernel
theorem d_Reader_fail_5 : decode prog_6_method_4_code 5 = .ok (.aload_n 0, 1) := by decide +kernel
theorem d_Reader_fail_6 : decode prog_6_method_4_code 6 = .ok (.iload_n 2, 1) := by decide +kernel
theorem d_Reader_fail_7 : decode prog_6_method_4_code 7 = .ok (.putfield 29, 3) := by decide +kernel
theorem d_Reader_fail_10 : decode prog_6_method_4_code 10 = .ok (.iconst (-1), 1) := by decide +kernel
theorem d_Reader_fail_11 : decode prog_6_method_4_code 11 = .ok (.ireturn, 1) := by decide +kernel
def y_Reader_pastSpaces : MethodName := ⟨"MailQueries$Reader", "pastSpaces", "(I)I"⟩
def rm_Reader_pastSpaces : Room := { frames := 1, cells := 0, slots := 0, locals := 21 }
theorem d_Reader_pastSpaces_0 : decode prog_6_method_22_code 0 = .ok (.iload_n 1, 1) := by decide +kernel
theorem d_Reader_pastSpaces_1 : decode prog_6_method_22_code 1 = .ok (.istore_n 2, 1) := by decide +kernel
theorem d_Reader_pastSpaces_2 : decode prog_6_method_22_code 2 = .ok (.iload_n 2, 1) := by decide +kernel
theorem d_Reader_pastSpaces_3 : decode prog_6_method_22_code 3 = .ok (.aload_n 0, 1) := by decide +kernel
theorem d_Reader_pastSpaces_4 : decode prog_6_method_22_code 4 = .ok (.getfield 12, 3) := by decide +kernel
theorem d_Reader_pastSpaces_7 : decode prog_6_method_22_code 7 = .ok (.getfield 60, 3) := by decide +kernel
theorem d_Reader_pastSpaces_10 : decode prog_6_method_22_code 10 = .ok (.if_icmp .ge 23, 3) := by decide +kernel
theorem d_Reader_pastSpaces_13 : decode prog_6_method_22_code 13 = .ok (.aload_n 0, 1) := by decide +kernel
theorem d_Reader_pastSpaces_14 : decode prog_6_method_22_code 14 = .ok (.getfield 12, 3) := by decide +kernel
theorem d_Reader_pastSpaces_17 : decode prog_6_method_22_code 17 = .ok (.iload_n 2, 1) := by decide +kernel
theorem d_Reader_pastSpaces_18 : decode prog_6_method_22_code 18 = .ok (.invokevirtual 70, 3) := by decide +kernel
theorem d_Reader_pastSpaces_21 : decode prog_6_method_22_code 21 = .ok (.invokestatic 188, 3) := by decide +kernel
theorem d_Reader_pastSpaces_24 : decode prog_6_method_22_code 24 = .ok (.ifCond .eq 9, 3) := by decide +kernel
theorem d_Reader_pastSpaces_27 : decode prog_6_method_22_code 27 = .ok (.iinc 2 1, 3) := by decide +kernel
theorem d_Reader_pastSpaces_30 : decode prog_6_method_22_code 30 = .ok (.goto (-28), 3) := by decide +kernel
theorem d_Reader_pastSpaces_33 : decode prog_6_method_22_code 33 = .ok (.iload_n 2, 1) := by decide +kernel
theorem d_Reader_pastSpaces_34 : decode prog_6_method_22_code 34 = .ok (.ireturn, 1) := by decide +kernel
def y_Reader_pastLetters : MethodName := ⟨"MailQueries$Reader", "pastLetters", "(I)I"⟩
def rm_Reader_pastLetters : Room := { frames := 1, cells := 0, slots := 0, locals := 21 }
theorem d_Reader_pastLetters_0 : decode prog_6_method_23_code 0 = .ok (.iload_n 1, 1) := by decide +kernel
theorem d_Reader_pastLetters_1 : decode prog_6_method_23_code 1 = .ok (.istore_n 2, 1) := by decide +kernel
theorem d_Reader_pastLetters_2 : decode prog_6_method_23_code 2 = .ok (.iload_n 2, 1) := by decide +kernel
theorem d_Reader_pastLetters_3 : decode prog_6_method_23_code 3 = .ok (.aload_n 0, 1) := by decide +kernel
theorem d_Reader_pastLetters_4 : decode prog_6_method_23_code 4 = .ok (.getfield 12, 3) := by decide +kernel
theorem d_Reader_pastLetters_7 : decode prog_6_method_23_code 7 = .ok (.getfield 60, 3) := by decide +kernel
theorem d_Reader_pastLetters_10 : decode prog_6_method_23_code 10 = .ok (.if_icmp .ge 23, 3) := by decide +kernel
theorem d_Reader_pastLetters_13 : decode prog_6_method_23_code 13 = .ok (.aload_n 0, 1) := by decide +kernel
theorem d_Reader_pastLetters_14 : decode prog_6_method_23_code 14 = .ok (.getfield 12, 3) := by decide +kernel
theorem d_Reader_pastLetters_17 : decode prog_6_method_23_code 17 = .ok (.iload_n 2, 1) := by decide +kernel
theorem d_Reader_pastLetters_18 : decode prog_6_method_23_code 18 = .ok (.invokevirtual 70, 3) := by decide +kernel
theorem d_Reader_pastLetters_21 : decode prog_6_method_23_code 21 = .ok (.invokestatic 158, 3) := by decide +kernel
theorem d_Reader_pastLetters_24 : decode prog_6_method_23_code 24 = .ok (.ifCond .eq 9, 3) := by decide +kernel
theorem d_Reader_pastLetters_27 : decode prog_6_method_23_code 27 = .ok (.iinc 2 1, 3) := by decide +kernel
theorem d_Reader_pastLetters_30 : decode prog_6_method_23_code 30 = .ok (.goto (-28), 3) := by decide +kernel
theorem d_Reader_pastLetters_33 : decode prog_6_method_23_code 33 = .ok (.iload_n 2, 1) := by decide +kernel
theorem d_Reader_pastLetters_34 : decode prog_6_method_23_code 34 = .ok (.ireturn, 1) := by decide +kernel
def y_Reader_pastTextBytes : MethodName := ⟨"MailQueries$Reader", "pastTextBytes", "(I)I"⟩
def rm_Reader_pastTextBytes : Room := { frames := 1, cells := 0, slots := 0, locals := 21 }
theorem d_Reader_pastTextBytes_0 : decode prog_6_method_24_code 0 = .ok (.iload_n 1, 1) := by decide +kernel
theorem d_Reader_pastTextBytes_1 : decode prog_6_method_24_code 1 = .ok (.istore_n 2, 1) := by decide +kernel
theorem d_Reader_pastTextBytes_2 : decode prog_6_method_24_code 2 = .ok (.iload_n 2, 1) := by decide +kernel
theorem d_Reader_pastTextBytes_3 : decode prog_6_method_24_code 3 = .ok (.aload_n 0, 1) := by decide +kernel
theorem d_Reader_pastTextBytes_4 : decode prog_6_method_24_code 4 = .ok (.getfield 12, 3) := by decide +kernel
theorem d_Reader_pastTextBytes_7 : decode prog_6_method_24_code 7 = .ok (.getfield 60, 3) := by decide +kernel
theorem d_Reader_pastTextBytes_10 : decode prog_6_method_24_code 10 = .ok (.if_icmp .ge 23, 3) := by decide +kernel
theorem d_Reader_pastTextBytes_13 : decode prog_6_method_24_code 13 = .ok (.aload_n 0, 1) := by decide +kernel
theorem d_Reader_pastTextBytes_14 : decode prog_6_method_24_code 14 = .ok (.getfield 12, 3) := by decide +kernel
theorem d_Reader_pastTextBytes_17 : decode prog_6_method_24_code 17 = .ok (.iload_n 2, 1) := by decide +kernel
theorem d_Reader_pastTextBytes_18 : decode prog_6_method_24_code 18 = .ok (.invokevirtual 70, 3) := by decide +kernel
theorem d_Reader_pastTextBytes_21 : decode prog_6_method_24_code 21 = .ok (.invokestatic 79, 3) := by decide +kernel
theorem d_Reader_pastTextBytes_24 : decode prog_6_method_24_code 24 = .ok (.ifCond .eq 9, 3) := by decide +kernel
theorem d_Reader_pastTextBytes_27 : decode prog_6_method_24_code 27 = .ok (.iinc 2 1, 3) := by decide +kernel
theorem d_Reader_pastTextBytes_30 : decode prog_6_method_24_code 30 = .ok (.goto (-28), 3) := by decide +kernel
theorem d_Reader_pastTextBytes_33 : decode prog_6_method_24_code 33 = .ok (.iload_n 2, 1) := by decide +kernel
theorem d_Reader_pastTextBytes_34 : decode prog_6_method_24_code 34 = .ok (.ireturn, 1) := by decide +kernel
def y_Reader_signOf : MethodName := ⟨"MailQueries$Reader", "signOf", "(II)I"⟩
def rm_Reader_signOf : Room := { frames := 5, cells := 0, slots := 0, locals := 109 }
theorem d_Reader_signOf_0 : decode prog_6_method_21_code 0 = .ok (.aload_n 0, 1) := by decide +kernel
theorem d_Reader_signOf_1 : decode prog_6_method_21_code 1 = .ok (.getfield 12, 3) := by decide +kernel
theorem d_Reader_signOf_4 : decode prog_6_method_21_code 4 = .ok (.iload_n 1, 1) := by decide +kernel
theorem d_Reader_signOf_5 : decode prog_6_method_21_code 5 = .ok (.iload_n 2, 1) := by decide +kernel
theorem d_Reader_signOf_6 : decode prog_6_method_21_code 6 = .ok (.ldc 180, 2) := by decide +kernel
theorem d_Reader_signOf_8 : decode prog_6_method_21_code 8 = .ok (.invokevirtual 166, 3) := by decide +kernel
theorem d_Reader_signOf_11 : decode prog_6_method_21_code 11 = .ok (.ifCond .eq 6, 3) := by decide +kernel
theorem d_Reader_signOf_14 : decode prog_6_method_21_code 14 = .ok (.bipush (-3), 2) := by decide +kernel
theorem d_Reader_signOf_16 : decode prog_6_method_21_code 16 = .ok (.ireturn, 1) := by decide +kernel
theorem d_Reader_signOf_17 : decode prog_6_method_21_code 17 = .ok (.aload_n 0, 1) := by decide +kernel
theorem d_Reader_signOf_18 : decode prog_6_method_21_code 18 = .ok (.getfield 12, 3) := by decide +kernel
theorem d_Reader_signOf_21 : decode prog_6_method_21_code 21 = .ok (.iload_n 1, 1) := by decide +kernel
theorem d_Reader_signOf_22 : decode prog_6_method_21_code 22 = .ok (.iload_n 2, 1) := by decide +kernel
theorem d_Reader_signOf_23 : decode prog_6_method_21_code 23 = .ok (.ldc 182, 2) := by decide +kernel
theorem d_Reader_signOf_25 : decode prog_6_method_21_code 25 = .ok (.invokevirtual 166, 3) := by decide +kernel
theorem d_Reader_signOf_28 : decode prog_6_method_21_code 28 = .ok (.ifCond .eq 6, 3) := by decide +kernel
theorem d_Reader_signOf_31 : decode prog_6_method_21_code 31 = .ok (.bipush (-4), 2) := by decide +kernel
theorem d_Reader_signOf_33 : decode prog_6_method_21_code 33 = .ok (.ireturn, 1) := by decide +kernel
theorem d_Reader_signOf_34 : decode prog_6_method_21_code 34 = .ok (.aload_n 0, 1) := by decide +kernel
theorem d_Reader_signOf_35 : decode prog_6_method_21_code 35 = .ok (.getfield 12, 3) := by decide +kernel
theorem d_Reader_signOf_38 : decode prog_6_method_21_code 38 = .ok (.iload_n 1, 1) := by decide +kernel
theorem d_Reader_signOf_39 : decode prog_6_method_21_code 39 = .ok (.iload_n 2, 1) := by decide +kernel
theorem d_Reader_signOf_40 : decode prog_6_method_21_code 40 = .ok (.ldc 184, 2) := by decide +kernel
theorem d_Reader_signOf_42 : decode prog_6_method_21_code 42 = .ok (.invokevirtual 166, 3) := by decide +kernel
theorem d_Reader_signOf_45 : decode prog_6_method_21_code 45 = .ok (.ifCond .eq 6, 3) := by decide +kernel
theorem d_Reader_signOf_48 : decode prog_6_method_21_code 48 = .ok (.bipush (-5), 2) := by decide +kernel
theorem d_Reader_signOf_50 : decode prog_6_method_21_code 50 = .ok (.ireturn, 1) := by decide +kernel
theorem d_Reader_signOf_51 : decode prog_6_method_21_code 51 = .ok (.aload_n 0, 1) := by decide +kernel
theorem d_Reader_signOf_52 : decode prog_6_method_21_code 52 = .ok (.getfield 12, 3) := by decide +kernel
theorem d_Reader_signOf_55 : decode prog_6_method_21_code 55 = .ok (.iload_n 1, 1) := by decide +kernel
theorem d_Reader_signOf_56 : decode prog_6_method_21_code 56 = .ok (.iload_n 2, 1) := by decide +kernel
theorem d_Reader_signOf_57 : decode prog_6_method_21_code 57 = .ok (.ldc 186, 2) := by decide +kernel
theorem d_Reader_signOf_59 : decode prog_6_method_21_code 59 = .ok (.invokevirtual 166, 3) := by decide +kernel
theorem d_Reader_signOf_62 : decode prog_6_method_21_code 62 = .ok (.ifCond .eq 8, 3) := by decide +kernel
theorem d_Reader_signOf_65 : decode prog_6_method_21_code 65 = .ok (.bipush (-2), 2) := by decide +kernel
theorem d_Reader_signOf_67 : decode prog_6_method_21_code 67 = .ok (.goto 4, 3) := by decide +kernel
theorem d_Reader_signOf_70 : decode prog_6_method_21_code 70 = .ok (.iconst (-1), 1) := by decide +kernel
theorem d_Reader_signOf_71 : decode prog_6_method_21_code 71 = .ok (.ireturn, 1) := by decide +kernel
def y_Reader_fieldOf : MethodName := ⟨"MailQueries$Reader", "fieldOf", "(II)I"⟩
def rm_Reader_fieldOf : Room := { frames := 5, cells := 0, slots := 0, locals := 109 }
theorem d_Reader_fieldOf_0 : decode prog_6_method_20_code 0 = .ok (.iconst 1, 1) := by decide +kernel
theorem d_Reader_fieldOf_1 : decode prog_6_method_20_code 1 = .ok (.istore_n 3, 1) := by decide +kernel
theorem d_Reader_fieldOf_2 : decode prog_6_method_20_code 2 = .ok (.iload_n 3, 1) := by decide +kernel
theorem d_Reader_fieldOf_3 : decode prog_6_method_20_code 3 = .ok (.bipush 12, 2) := by decide +kernel
theorem d_Reader_fieldOf_5 : decode prog_6_method_20_code 5 = .ok (.if_icmp .gt 27, 3) := by decide +kernel
theorem d_Reader_fieldOf_8 : decode prog_6_method_20_code 8 = .ok (.aload_n 0, 1) := by decide +kernel
theorem d_Reader_fieldOf_9 : decode prog_6_method_20_code 9 = .ok (.getfield 12, 3) := by decide +kernel
theorem d_Reader_fieldOf_12 : decode prog_6_method_20_code 12 = .ok (.iload_n 1, 1) := by decide +kernel
theorem d_Reader_fieldOf_13 : decode prog_6_method_20_code 13 = .ok (.iload_n 2, 1) := by decide +kernel
theorem d_Reader_fieldOf_14 : decode prog_6_method_20_code 14 = .ok (.iload_n 3, 1) := by decide +kernel
theorem d_Reader_fieldOf_15 : decode prog_6_method_20_code 15 = .ok (.invokestatic 176, 3) := by decide +kernel
theorem d_Reader_fieldOf_18 : decode prog_6_method_20_code 18 = .ok (.invokevirtual 166, 3) := by decide +kernel
theorem d_Reader_fieldOf_21 : decode prog_6_method_20_code 21 = .ok (.ifCond .eq 5, 3) := by decide +kernel
theorem d_Reader_fieldOf_24 : decode prog_6_method_20_code 24 = .ok (.iload_n 3, 1) := by decide +kernel
theorem d_Reader_fieldOf_25 : decode prog_6_method_20_code 25 = .ok (.ireturn, 1) := by decide +kernel
theorem d_Reader_fieldOf_26 : decode prog_6_method_20_code 26 = .ok (.iinc 3 1, 3) := by decide +kernel
theorem d_Reader_fieldOf_29 : decode prog_6_method_20_code 29 = .ok (.goto (-27), 3) := by decide +kernel
theorem d_Reader_fieldOf_32 : decode prog_6_method_20_code 32 = .ok (.iconst (-1), 1) := by decide +kernel
theorem d_Reader_fieldOf_33 : decode prog_6_method_20_code 33 = .ok (.ireturn, 1) := by decide +kernel
def y_Reader_starFits : MethodName := ⟨"MailQueries$Reader", "starFits", "(IZII)Z"⟩
def rm_Reader_starFits : Room := { frames := 2, cells := 0, slots := 0, locals := 45 }
theorem d_Reader_starFits_0 : decode prog_6_method_19_code 0 = .ok (.aload_n 0, 1) := by decide +kernel
theorem d_Reader_starFits_1 : decode prog_6_method_19_code 1 = .ok (.getfield 12, 3) := by decide +kernel
theorem d_Reader_starFits_4 : decode prog_6_method_19_code 4 = .ok (.bipush 42, 2) := by decide +kernel
theorem d_Reader_starFits_6 : decode prog_6_method_19_code 6 = .ok (.iload_n 3, 1) := by decide +kernel
theorem d_Reader_starFits_7 : decode prog_6_method_19_code 7 = .ok (.iload 4, 2) := by decide +kernel
theorem d_Reader_starFits_9 : decode prog_6_method_19_code 9 = .ok (.invokevirtual 116, 3) := by decide +kernel
theorem d_Reader_starFits_12 : decode prog_6_method_19_code 12 = .ok (.istore 5, 2) := by decide +kernel
theorem d_Reader_starFits_14 : decode prog_6_method_19_code 14 = .ok (.iload 5, 2) := by decide +kernel
theorem d_Reader_starFits_16 : decode prog_6_method_19_code 16 = .ok (.iconst (-1), 1) := by decide +kernel
theorem d_Reader_starFits_17 : decode prog_6_method_19_code 17 = .ok (.if_icmp .ne 5, 3) := by decide +kernel
theorem d_Reader_starFits_20 : decode prog_6_method_19_code 20 = .ok (.iconst 1, 1) := by decide +kernel
theorem d_Reader_starFits_21 : decode prog_6_method_19_code 21 = .ok (.ireturn, 1) := by decide +kernel
theorem d_Reader_starFits_22 : decode prog_6_method_19_code 22 = .ok (.iload_n 1, 1) := by decide +kernel
theorem d_Reader_starFits_23 : decode prog_6_method_19_code 23 = .ok (.iconst 4, 1) := by decide +kernel
theorem d_Reader_starFits_24 : decode prog_6_method_19_code 24 = .ok (.if_icmp .le 15, 3) := by decide +kernel
theorem d_Reader_starFits_27 : decode prog_6_method_19_code 27 = .ok (.iload_n 1, 1) := by decide +kernel
theorem d_Reader_starFits_28 : decode prog_6_method_19_code 28 = .ok (.bipush 7, 2) := by decide +kernel
theorem d_Reader_starFits_30 : decode prog_6_method_19_code 30 = .ok (.if_icmp .eq 9, 3) := by decide +kernel
theorem d_Reader_starFits_33 : decode prog_6_method_19_code 33 = .ok (.iload_n 1, 1) := by decide +kernel
theorem d_Reader_starFits_34 : decode prog_6_method_19_code 34 = .ok (.bipush 9, 2) := by decide +kernel
theorem d_Reader_starFits_36 : decode prog_6_method_19_code 36 = .ok (.if_icmp .ne 7, 3) := by decide +kernel
theorem d_Reader_starFits_39 : decode prog_6_method_19_code 39 = .ok (.iconst 1, 1) := by decide +kernel
theorem d_Reader_starFits_40 : decode prog_6_method_19_code 40 = .ok (.goto 4, 3) := by decide +kernel
theorem d_Reader_starFits_43 : decode prog_6_method_19_code 43 = .ok (.iconst 0, 1) := by decide +kernel
theorem d_Reader_starFits_44 : decode prog_6_method_19_code 44 = .ok (.istore 6, 2) := by decide +kernel
theorem d_Reader_starFits_46 : decode prog_6_method_19_code 46 = .ok (.iload 6, 2) := by decide +kernel
theorem d_Reader_starFits_48 : decode prog_6_method_19_code 48 = .ok (.ifCond .eq 38, 3) := by decide +kernel
theorem d_Reader_starFits_51 : decode prog_6_method_19_code 51 = .ok (.iload_n 2, 1) := by decide +kernel
theorem d_Reader_starFits_52 : decode prog_6_method_19_code 52 = .ok (.ifCond .ne 34, 3) := by decide +kernel
theorem d_Reader_starFits_55 : decode prog_6_method_19_code 55 = .ok (.iload 4, 2) := by decide +kernel
theorem d_Reader_starFits_57 : decode prog_6_method_19_code 57 = .ok (.iload_n 3, 1) := by decide +kernel
theorem d_Reader_starFits_58 : decode prog_6_method_19_code 58 = .ok (.isub, 1) := by decide +kernel
theorem d_Reader_starFits_59 : decode prog_6_method_19_code 59 = .ok (.iconst 1, 1) := by decide +kernel
theorem d_Reader_starFits_60 : decode prog_6_method_19_code 60 = .ok (.if_icmp .le 26, 3) := by decide +kernel
theorem d_Reader_starFits_63 : decode prog_6_method_19_code 63 = .ok (.aload_n 0, 1) := by decide +kernel
theorem d_Reader_starFits_64 : decode prog_6_method_19_code 64 = .ok (.getfield 12, 3) := by decide +kernel
theorem d_Reader_starFits_67 : decode prog_6_method_19_code 67 = .ok (.bipush 42, 2) := by decide +kernel
theorem d_Reader_starFits_69 : decode prog_6_method_19_code 69 = .ok (.iload 5, 2) := by decide +kernel
theorem d_Reader_starFits_71 : decode prog_6_method_19_code 71 = .ok (.iconst 1, 1) := by decide +kernel
theorem d_Reader_starFits_72 : decode prog_6_method_19_code 72 = .ok (.iadd, 1) := by decide +kernel
theorem d_Reader_starFits_73 : decode prog_6_method_19_code 73 = .ok (.iload 4, 2) := by decide +kernel
theorem d_Reader_starFits_75 : decode prog_6_method_19_code 75 = .ok (.invokevirtual 116, 3) := by decide +kernel
theorem d_Reader_starFits_78 : decode prog_6_method_19_code 78 = .ok (.iconst (-1), 1) := by decide +kernel
theorem d_Reader_starFits_79 : decode prog_6_method_19_code 79 = .ok (.if_icmp .ne 7, 3) := by decide +kernel
theorem d_Reader_starFits_82 : decode prog_6_method_19_code 82 = .ok (.iconst 1, 1) := by decide +kernel
theorem d_Reader_starFits_83 : decode prog_6_method_19_code 83 = .ok (.goto 4, 3) := by decide +kernel
theorem d_Reader_starFits_86 : decode prog_6_method_19_code 86 = .ok (.iconst 0, 1) := by decide +kernel
theorem d_Reader_starFits_87 : decode prog_6_method_19_code 87 = .ok (.ireturn, 1) := by decide +kernel
def y_Reader_isState : MethodName := ⟨"MailQueries$Reader", "isState", "(II)Z"⟩
def rm_Reader_isState : Room := { frames := 5, cells := 0, slots := 0, locals := 109 }
theorem d_Reader_isState_0 : decode prog_6_method_18_code 0 = .ok (.aload_n 0, 1) := by decide +kernel
theorem d_Reader_isState_1 : decode prog_6_method_18_code 1 = .ok (.getfield 12, 3) := by decide +kernel
theorem d_Reader_isState_4 : decode prog_6_method_18_code 4 = .ok (.iload_n 1, 1) := by decide +kernel
theorem d_Reader_isState_5 : decode prog_6_method_18_code 5 = .ok (.iload_n 2, 1) := by decide +kernel
theorem d_Reader_isState_6 : decode prog_6_method_18_code 6 = .ok (.ldc 164, 2) := by decide +kernel
theorem d_Reader_isState_8 : decode prog_6_method_18_code 8 = .ok (.invokevirtual 166, 3) := by decide +kernel
theorem d_Reader_isState_11 : decode prog_6_method_18_code 11 = .ok (.ifCond .ne 45, 3) := by decide +kernel
theorem d_Reader_isState_14 : decode prog_6_method_18_code 14 = .ok (.aload_n 0, 1) := by decide +kernel
theorem d_Reader_isState_15 : decode prog_6_method_18_code 15 = .ok (.getfield 12, 3) := by decide +kernel
theorem d_Reader_isState_18 : decode prog_6_method_18_code 18 = .ok (.iload_n 1, 1) := by decide +kernel
theorem d_Reader_isState_19 : decode prog_6_method_18_code 19 = .ok (.iload_n 2, 1) := by decide +kernel
theorem d_Reader_isState_20 : decode prog_6_method_18_code 20 = .ok (.ldc 170, 2) := by decide +kernel
theorem d_Reader_isState_22 : decode prog_6_method_18_code 22 = .ok (.invokevirtual 166, 3) := by decide +kernel
theorem d_Reader_isState_25 : decode prog_6_method_18_code 25 = .ok (.ifCond .ne 31, 3) := by decide +kernel
theorem d_Reader_isState_28 : decode prog_6_method_18_code 28 = .ok (.aload_n 0, 1) := by decide +kernel
theorem d_Reader_isState_29 : decode prog_6_method_18_code 29 = .ok (.getfield 12, 3) := by decide +kernel
theorem d_Reader_isState_32 : decode prog_6_method_18_code 32 = .ok (.iload_n 1, 1) := by decide +kernel
theorem d_Reader_isState_33 : decode prog_6_method_18_code 33 = .ok (.iload_n 2, 1) := by decide +kernel
theorem d_Reader_isState_34 : decode prog_6_method_18_code 34 = .ok (.ldc 172, 2) := by decide +kernel
theorem d_Reader_isState_36 : decode prog_6_method_18_code 36 = .ok (.invokevirtual 166, 3) := by decide +kernel
theorem d_Reader_isState_39 : decode prog_6_method_18_code 39 = .ok (.ifCond .ne 17, 3) := by decide +kernel
theorem d_Reader_isState_42 : decode prog_6_method_18_code 42 = .ok (.aload_n 0, 1) := by decide +kernel
theorem d_Reader_isState_43 : decode prog_6_method_18_code 43 = .ok (.getfield 12, 3) := by decide +kernel
theorem d_Reader_isState_46 : decode prog_6_method_18_code 46 = .ok (.iload_n 1, 1) := by decide +kernel
theorem d_Reader_isState_47 : decode prog_6_method_18_code 47 = .ok (.iload_n 2, 1) := by decide +kernel
theorem d_Reader_isState_48 : decode prog_6_method_18_code 48 = .ok (.ldc 174, 2) := by decide +kernel
theorem d_Reader_isState_50 : decode prog_6_method_18_code 50 = .ok (.invokevirtual 166, 3) := by decide +kernel
theorem d_Reader_isState_53 : decode prog_6_method_18_code 53 = .ok (.ifCond .eq 7, 3) := by decide +kernel
theorem d_Reader_isState_56 : decode prog_6_method_18_code 56 = .ok (.iconst 1, 1) := by decide +kernel
theorem d_Reader_isState_57 : decode prog_6_method_18_code 57 = .ok (.goto 4, 3) := by decide +kernel
theorem d_Reader_isState_60 : decode prog_6_method_18_code 60 = .ok (.iconst 0, 1) := by decide +kernel
theorem d_Reader_isState_61 : decode prog_6_method_18_code 61 = .ok (.ireturn, 1) := by decide +kernel
def y_Reader_isTag : MethodName := ⟨"MailQueries$Reader", "isTag", "(II)Z"⟩
def rm_Reader_isTag : Room := { frames := 1, cells := 0, slots := 0, locals := 21 }
theorem d_Reader_isTag_0 : decode prog_6_method_17_code 0 = .ok (.iload_n 1, 1) := by decide +kernel
theorem d_Reader_isTag_1 : decode prog_6_method_17_code 1 = .ok (.istore_n 3, 1) := by decide +kernel
theorem d_Reader_isTag_2 : decode prog_6_method_17_code 2 = .ok (.iload_n 3, 1) := by decide +kernel
theorem d_Reader_isTag_3 : decode prog_6_method_17_code 3 = .ok (.iload_n 2, 1) := by decide +kernel
theorem d_Reader_isTag_4 : decode prog_6_method_17_code 4 = .ok (.if_icmp .ge 44, 3) := by decide +kernel
theorem d_Reader_isTag_7 : decode prog_6_method_17_code 7 = .ok (.aload_n 0, 1) := by decide +kernel
theorem d_Reader_isTag_8 : decode prog_6_method_17_code 8 = .ok (.getfield 12, 3) := by decide +kernel
theorem d_Reader_isTag_11 : decode prog_6_method_17_code 11 = .ok (.iload_n 3, 1) := by decide +kernel
theorem d_Reader_isTag_12 : decode prog_6_method_17_code 12 = .ok (.invokevirtual 70, 3) := by decide +kernel
theorem d_Reader_isTag_15 : decode prog_6_method_17_code 15 = .ok (.istore 4, 2) := by decide +kernel
theorem d_Reader_isTag_17 : decode prog_6_method_17_code 17 = .ok (.iload 4, 2) := by decide +kernel
theorem d_Reader_isTag_19 : decode prog_6_method_17_code 19 = .ok (.invokestatic 158, 3) := by decide +kernel
theorem d_Reader_isTag_22 : decode prog_6_method_17_code 22 = .ok (.ifCond .ne 20, 3) := by decide +kernel
theorem d_Reader_isTag_25 : decode prog_6_method_17_code 25 = .ok (.iload 4, 2) := by decide +kernel
theorem d_Reader_isTag_27 : decode prog_6_method_17_code 27 = .ok (.invokestatic 161, 3) := by decide +kernel
theorem d_Reader_isTag_30 : decode prog_6_method_17_code 30 = .ok (.ifCond .ne 12, 3) := by decide +kernel
theorem d_Reader_isTag_33 : decode prog_6_method_17_code 33 = .ok (.iload 4, 2) := by decide +kernel
theorem d_Reader_isTag_35 : decode prog_6_method_17_code 35 = .ok (.bipush 45, 2) := by decide +kernel
theorem d_Reader_isTag_37 : decode prog_6_method_17_code 37 = .ok (.if_icmp .eq 5, 3) := by decide +kernel
theorem d_Reader_isTag_40 : decode prog_6_method_17_code 40 = .ok (.iconst 0, 1) := by decide +kernel
theorem d_Reader_isTag_41 : decode prog_6_method_17_code 41 = .ok (.ireturn, 1) := by decide +kernel
theorem d_Reader_isTag_42 : decode prog_6_method_17_code 42 = .ok (.iinc 3 1, 3) := by decide +kernel
theorem d_Reader_isTag_45 : decode prog_6_method_17_code 45 = .ok (.goto (-43), 3) := by decide +kernel
theorem d_Reader_isTag_48 : decode prog_6_method_17_code 48 = .ok (.iload_n 2, 1) := by decide +kernel
theorem d_Reader_isTag_49 : decode prog_6_method_17_code 49 = .ok (.iload_n 1, 1) := by decide +kernel
theorem d_Reader_isTag_50 : decode prog_6_method_17_code 50 = .ok (.isub, 1) := by decide +kernel
theorem d_Reader_isTag_51 : decode prog_6_method_17_code 51 = .ok (.bipush 16, 2) := by decide +kernel
theorem d_Reader_isTag_53 : decode prog_6_method_17_code 53 = .ok (.if_icmp .gt 7, 3) := by decide +kernel
theorem d_Reader_isTag_56 : decode prog_6_method_17_code 56 = .ok (.iconst 1, 1) := by decide +kernel
theorem d_Reader_isTag_57 : decode prog_6_method_17_code 57 = .ok (.goto 4, 3) := by decide +kernel
theorem d_Reader_isTag_60 : decode prog_6_method_17_code 60 = .ok (.iconst 0, 1) := by decide +kernel
theorem d_Reader_isTag_61 : decode prog_6_method_17_code 61 = .ok (.ireturn, 1) := by decide +kernel
def y_Reader_fieldHas : MethodName := ⟨"MailQueries$Reader", "fieldHas", "(IZII)Z"⟩
def rm_Reader_fieldHas : Room := { frames := 6, cells := 0, slots := 0, locals := 131 }
theorem d_Reader_fieldHas_0 : decode prog_6_method_16_code 0 = .ok (.iload_n 1, 1) := by decide +kernel
theorem d_Reader_fieldHas_1 : decode prog_6_method_16_code 1 = .ok (.tableswitch 143 5 12 #[47, 143, 143, 143, 143, 67, 87, 115], 47) := by decide +kernel
theorem d_Reader_fieldHas_48 : decode prog_6_method_16_code 48 = .ok (.iload_n 2, 1) := by decide +kernel
theorem d_Reader_fieldHas_49 : decode prog_6_method_16_code 49 = .ok (.ifCond .ne 17, 3) := by decide +kernel
theorem d_Reader_fieldHas_52 : decode prog_6_method_16_code 52 = .ok (.aload_n 0, 1) := by decide +kernel
theorem d_Reader_fieldHas_53 : decode prog_6_method_16_code 53 = .ok (.iload_n 3, 1) := by decide +kernel
theorem d_Reader_fieldHas_54 : decode prog_6_method_16_code 54 = .ok (.iload 4, 2) := by decide +kernel
theorem d_Reader_fieldHas_56 : decode prog_6_method_16_code 56 = .ok (.invokevirtual 144, 3) := by decide +kernel
theorem d_Reader_fieldHas_59 : decode prog_6_method_16_code 59 = .ok (.ifCond .eq 7, 3) := by decide +kernel
theorem d_Reader_fieldHas_62 : decode prog_6_method_16_code 62 = .ok (.iconst 1, 1) := by decide +kernel
theorem d_Reader_fieldHas_63 : decode prog_6_method_16_code 63 = .ok (.goto 4, 3) := by decide +kernel
theorem d_Reader_fieldHas_66 : decode prog_6_method_16_code 66 = .ok (.iconst 0, 1) := by decide +kernel
theorem d_Reader_fieldHas_67 : decode prog_6_method_16_code 67 = .ok (.ireturn, 1) := by decide +kernel
theorem d_Reader_fieldHas_68 : decode prog_6_method_16_code 68 = .ok (.iload_n 2, 1) := by decide +kernel
theorem d_Reader_fieldHas_69 : decode prog_6_method_16_code 69 = .ok (.ifCond .ne 17, 3) := by decide +kernel
theorem d_Reader_fieldHas_72 : decode prog_6_method_16_code 72 = .ok (.aload_n 0, 1) := by decide +kernel
theorem d_Reader_fieldHas_73 : decode prog_6_method_16_code 73 = .ok (.iload_n 3, 1) := by decide +kernel
theorem d_Reader_fieldHas_74 : decode prog_6_method_16_code 74 = .ok (.iload 4, 2) := by decide +kernel
theorem d_Reader_fieldHas_76 : decode prog_6_method_16_code 76 = .ok (.invokevirtual 148, 3) := by decide +kernel
theorem d_Reader_fieldHas_79 : decode prog_6_method_16_code 79 = .ok (.ifCond .eq 7, 3) := by decide +kernel
theorem d_Reader_fieldHas_82 : decode prog_6_method_16_code 82 = .ok (.iconst 1, 1) := by decide +kernel
theorem d_Reader_fieldHas_83 : decode prog_6_method_16_code 83 = .ok (.goto 4, 3) := by decide +kernel
theorem d_Reader_fieldHas_86 : decode prog_6_method_16_code 86 = .ok (.iconst 0, 1) := by decide +kernel
theorem d_Reader_fieldHas_87 : decode prog_6_method_16_code 87 = .ok (.ireturn, 1) := by decide +kernel
theorem d_Reader_fieldHas_88 : decode prog_6_method_16_code 88 = .ok (.iload_n 2, 1) := by decide +kernel
theorem d_Reader_fieldHas_89 : decode prog_6_method_16_code 89 = .ok (.ifCond .ne 25, 3) := by decide +kernel
theorem d_Reader_fieldHas_92 : decode prog_6_method_16_code 92 = .ok (.aload_n 0, 1) := by decide +kernel
theorem d_Reader_fieldHas_93 : decode prog_6_method_16_code 93 = .ok (.getfield 21, 3) := by decide +kernel
theorem d_Reader_fieldHas_96 : decode prog_6_method_16_code 96 = .ok (.aload_n 0, 1) := by decide +kernel
theorem d_Reader_fieldHas_97 : decode prog_6_method_16_code 97 = .ok (.getfield 12, 3) := by decide +kernel
theorem d_Reader_fieldHas_100 : decode prog_6_method_16_code 100 = .ok (.iload_n 3, 1) := by decide +kernel
theorem d_Reader_fieldHas_101 : decode prog_6_method_16_code 101 = .ok (.iload 4, 2) := by decide +kernel
theorem d_Reader_fieldHas_103 : decode prog_6_method_16_code 103 = .ok (.iconst 1, 1) := by decide +kernel
theorem d_Reader_fieldHas_104 : decode prog_6_method_16_code 104 = .ok (.invokevirtual 151, 3) := by decide +kernel
theorem d_Reader_fieldHas_107 : decode prog_6_method_16_code 107 = .ok (.ifCond .eq 7, 3) := by decide +kernel
theorem d_Reader_fieldHas_110 : decode prog_6_method_16_code 110 = .ok (.iconst 1, 1) := by decide +kernel
theorem d_Reader_fieldHas_111 : decode prog_6_method_16_code 111 = .ok (.goto 4, 3) := by decide +kernel
theorem d_Reader_fieldHas_114 : decode prog_6_method_16_code 114 = .ok (.iconst 0, 1) := by decide +kernel
theorem d_Reader_fieldHas_115 : decode prog_6_method_16_code 115 = .ok (.ireturn, 1) := by decide +kernel
theorem d_Reader_fieldHas_116 : decode prog_6_method_16_code 116 = .ok (.iload_n 2, 1) := by decide +kernel
theorem d_Reader_fieldHas_117 : decode prog_6_method_16_code 117 = .ok (.ifCond .ne 25, 3) := by decide +kernel
theorem d_Reader_fieldHas_120 : decode prog_6_method_16_code 120 = .ok (.aload_n 0, 1) := by decide +kernel
theorem d_Reader_fieldHas_121 : decode prog_6_method_16_code 121 = .ok (.getfield 21, 3) := by decide +kernel
theorem d_Reader_fieldHas_124 : decode prog_6_method_16_code 124 = .ok (.aload_n 0, 1) := by decide +kernel
theorem d_Reader_fieldHas_125 : decode prog_6_method_16_code 125 = .ok (.getfield 12, 3) := by decide +kernel
theorem d_Reader_fieldHas_128 : decode prog_6_method_16_code 128 = .ok (.iload_n 3, 1) := by decide +kernel
theorem d_Reader_fieldHas_129 : decode prog_6_method_16_code 129 = .ok (.iload 4, 2) := by decide +kernel
theorem d_Reader_fieldHas_131 : decode prog_6_method_16_code 131 = .ok (.iconst 0, 1) := by decide +kernel
theorem d_Reader_fieldHas_132 : decode prog_6_method_16_code 132 = .ok (.invokevirtual 151, 3) := by decide +kernel
theorem d_Reader_fieldHas_135 : decode prog_6_method_16_code 135 = .ok (.ifCond .eq 7, 3) := by decide +kernel
theorem d_Reader_fieldHas_138 : decode prog_6_method_16_code 138 = .ok (.iconst 1, 1) := by decide +kernel
theorem d_Reader_fieldHas_139 : decode prog_6_method_16_code 139 = .ok (.goto 4, 3) := by decide +kernel
theorem d_Reader_fieldHas_142 : decode prog_6_method_16_code 142 = .ok (.iconst 0, 1) := by decide +kernel
theorem d_Reader_fieldHas_143 : decode prog_6_method_16_code 143 = .ok (.ireturn, 1) := by decide +kernel
theorem d_Reader_fieldHas_144 : decode prog_6_method_16_code 144 = .ok (.aload_n 0, 1) := by decide +kernel
theorem d_Reader_fieldHas_145 : decode prog_6_method_16_code 145 = .ok (.iload_n 1, 1) := by decide +kernel
theorem d_Reader_fieldHas_146 : decode prog_6_method_16_code 146 = .ok (.iload_n 2, 1) := by decide +kernel
theorem d_Reader_fieldHas_147 : decode prog_6_method_16_code 147 = .ok (.iload_n 3, 1) := by decide +kernel
theorem d_Reader_fieldHas_148 : decode prog_6_method_16_code 148 = .ok (.iload 4, 2) := by decide +kernel
theorem d_Reader_fieldHas_150 : decode prog_6_method_16_code 150 = .ok (.invokevirtual 155, 3) := by decide +kernel
theorem d_Reader_fieldHas_153 : decode prog_6_method_16_code 153 = .ok (.ireturn, 1) := by decide +kernel
theorem mb_Reader_fail : Mb y_Reader_fail prog_6_method_4_code 3 (some .int) 2 := ⟨W_Reader_fail_code, W_Reader_fail_in, sel_29, I_Reader, by decide +kernel, by decide +kernel, by decide +kernel⟩
theorem mb_Reader_pastSpaces : Mb y_Reader_pastSpaces prog_6_method_22_code 3 (some .int) 1 := ⟨W_Reader_pastSpaces_code, W_Reader_pastSpaces_in, sel_26, I_Reader, by decide +kernel, by decide +kernel, by decide +kernel⟩
theorem mb_Reader_pastLetters : Mb y_Reader_pastLetters prog_6_method_23_code 3 (some .int) 1 := ⟨W_Reader_pastLetters_code, W_Reader_pastLetters_in, sel_33, I_Reader, by decide +kernel, by decide +kernel, by decide +kernel⟩
theorem mb_Reader_pastTextBytes : Mb y_Reader_pastTextBytes prog_6_method_24_code 3 (some .int) 1 := ⟨W_Reader_pastTextBytes_code, W_Reader_pastTextBytes_in, sel_37, I_Reader, by decide +kernel, by decide +kernel, by decide +kernel⟩
theorem mb_Reader_signOf : Mb y_Reader_signOf prog_6_method_21_code 3 (some .int) 2 := ⟨W_Reader_signOf_code, W_Reader_signOf_in, sel_45, I_Reader, by decide +kernel, by decide +kernel, by decide +kernel⟩
theorem mb_Reader_fieldOf : Mb y_Reader_fieldOf prog_6_method_20_code 4 (some .int) 2 := ⟨W_Reader_fieldOf_code, W_Reader_fieldOf_in, sel_34, I_Reader, by decide +kernel, by decide +kernel, by decide +kernel⟩
theorem mb_Reader_starFits : Mb y_Reader_starFits prog_6_method_19_code 7 (some .boolean) 4 := ⟨W_Reader_starFits_code, W_Reader_starFits_in, sel_42, I_Reader, by decide +kernel, by decide +kernel, by decide +kernel⟩
theorem mb_Reader_isState : Mb y_Reader_isState prog_6_method_18_code 3 (some .boolean) 2 := ⟨W_Reader_isState_code, W_Reader_isState_in, sel_40, I_Reader, by decide +kernel, by decide +kernel, by decide +kernel⟩
theorem mb_Reader_isTag : Mb y_Reader_isTag prog_6_method_17_code 5 (some .boolean) 2 := ⟨W_Reader_isTag_code, W_Reader_isTag_in, sel_39, I_Reader, by decide +kernel, by decide +kernel, by decide +kernel⟩
theorem mb_Reader_fieldHas : Mb y_Reader_fieldHas prog_6_method_16_code 5 (some .boolean) 4 := ⟨W_Reader_fieldHas_code, W_Reader_fieldHas_in, sel_38, I_Reader, by decide +kernel, by decide +kernel, by decide +kernel⟩
def Reader_fail (F : Nat) (t : StI) (x1 : Int32) (x2 : Int32) : Option (Int32 × StI) := letS (va_up t 2 (fun _ => x1)) fun t_3 => letS (va_up t_3 3 (fun _ => x2)) fun t_4 => some ((-1 : Int32), t_4)
set_option maxHeartbeats 4000000 in
set_option maxRecDepth 100000 in
theorem k_Reader_fail {p : Program} {l : Launch} {e : Env} {s : State} {m : MethodId} {args : Array Value} {below : List Frame} {meth : Method} {c : Code} {g : Gz} {A : Nat → Prop} {F : Nat} {a_t : Nat → Nat} {r_query r_span : Nat} (hC : Cx prog_6_method_4_code 3 (some .int) R_Reader p s m args meth c g A A) : ∀ (t : StI) (x1 : Int32) (x2 : Int32) (res : Int32 × StI), Reader_fail F t x1 x2 = some res → Go p l e rm_Reader_fail s m args below meth c g A A 3 (MQ below (EI g ((pic_Reader g a_t r_query r_span res.2)) res.1 A) args s 0 0 A) ((pic_Reader g a_t r_query r_span t)) [(0, .ref (a_t 0)), (1, .int x1), (2, .int x2)] 0 [] := by
  obtain ⟨hx, hb, hr, hml, hown, htb, hlocks, hA, hAA, hG⟩ := id hC
  have hK := hG.1
  intro t x1 x2 res h H locs ls hP hD hS hl
  rw [Reader_fail] at h
  refine lv_aload_n hx hb d_Reader_fail_0 rfl (lv_at hl 0 rfl) ?_
  refine lv_iload_n hx hb d_Reader_fail_1 rfl (lv_at hl 1 rfl) ?_
  refine va_put (D := gD g) (ci := 3) (v := .int x1) (ty := .int) (C := R_Reader) (T := T_Reader) (N := 9) hx hb htb in_Reader ty_Reader ty_Reader_ok nm_Reader hown hK hP hD hS 0 rfl rfl 2 (by decide) (htb _ L_Reader_25) (fun _ h9 => h9) rfl (by decide +kernel) rfl rfl (Nat.le_of_ble_eq_true rfl) d_Reader_fail_2 (fun H locs hP hD hS => ?_)
  obtain ⟨t_3, et_3, h⟩ := letS_el h
  have hP : va_P (gD g) vwCl ((pic_Reader g a_t r_query r_span t_3)) H := by rw [et_3]; exact hP
  have hD : va_D A ((pic_Reader g a_t r_query r_span t_3)) := by rw [et_3]; exact hD
  refine lv_aload_n hx hb d_Reader_fail_5 rfl (lv_at hl 0 rfl) ?_
  refine lv_iload_n hx hb d_Reader_fail_6 rfl (lv_at hl 2 rfl) ?_
  refine va_put (D := gD g) (ci := 3) (v := .int x2) (ty := .int) (C := R_Reader) (T := T_Reader) (N := 9) hx hb htb in_Reader ty_Reader ty_Reader_ok nm_Reader hown hK hP hD hS 0 rfl rfl 3 (by decide) (htb _ L_Reader_29) (fun _ h9 => h9) rfl (by decide +kernel) rfl rfl (Nat.le_of_ble_eq_true rfl) d_Reader_fail_7 (fun H locs hP hD hS => ?_)
  obtain ⟨t_4, et_4, h⟩ := letS_el h
  have hP : va_P (gD g) vwCl ((pic_Reader g a_t r_query r_span t_4)) H := by rw [et_4]; exact hP
  have hD : va_D A ((pic_Reader g a_t r_query r_span t_4)) := by rw [et_4]; exact hD
  refine lv_iconst (v := -1) hx hb d_Reader_fail_10 (by decide) ?_
  cases h
  exact W.iret hx hb hr (fun t ht hW => ⟨⟨_, (), rfl, rfl, by rw [ht]; exact hP, hD⟩, hS.F ht⟩) hS.2.2 d_Reader_fail_11
theorem c_Reader_fail (l : Launch) (g : Gz) (F : Nat) (a_t : Nat → Nat) (r_query : Nat) (r_span : Nat) (t : StI) (x1 : Int32) (x2 : Int32) (res : Int32 × StI) (h : Reader_fail F t x1 x2 = some res) : ∀ sz : Nat, Met l y_Reader_fail (.code y_Reader_fail prog_6_method_4_code 3 (some .int) :: TBL) rm_Reader_fail (va_Pc [.ref (a_t 0), .int x1, .int x2] (Pre0 g ((pic_Reader g a_t r_query r_span t)) sz)) (EI g ((pic_Reader g a_t r_query r_span res.2)) res.1 (va_A ((pic_Reader g a_t r_query r_span t)) sz)) 0 0 (va_A ((pic_Reader g a_t r_query r_span t)) sz) :=
  ct_w (Qc := fun A => EI g ((pic_Reader g a_t r_query r_span res.2)) res.1 A) (by decide) (Nat.le_of_ble_eq_true rfl) (fun p e s m args below meth c A hC => k_Reader_fail hC t x1 x2 res h)
def Reader_pastSpaces_2 (F : Nat) : Nat → StI → StI → Int32 → Option (Int32)
  | 0, _, _, _ => none
  | n + 1, t, query, x2 => if (query 1 0) ≤ x2 then some x2 else (Query_byteAt F query x2).bind fun r6 => (MQ_isSpace F r6).bind fun r7 => if r7 = 0 then some x2 else Reader_pastSpaces_2 F n t query (x2 + (1 : Int32))
def Reader_pastSpaces (F : Nat) (t : StI) (query : StI) (x1 : Int32) : Option (Int32) := Reader_pastSpaces_2 F F t query x1
set_option maxHeartbeats 4000000 in
set_option maxRecDepth 100000 in
theorem k_Reader_pastSpaces_2 {p : Program} {l : Launch} {e : Env} {s : State} {m : MethodId} {args : Array Value} {below : List Frame} {meth : Method} {c : Code} {g : Gz} {A2 A : Nat → Prop} {F : Nat} {a_t a_query : Nat → Nat} {r_span : Nat} (hC : Cx prog_6_method_22_code 3 (some .int) R_Reader p s m args meth c g A2 A) : ∀ (n : Nat) (t : StI) (query : StI) (x2 : Int32) (res : Int32), Reader_pastSpaces_2 F n t query x2 = some res → Go p l e rm_Reader_pastSpaces s m args below meth c g A2 A 3 (MQ below (RI res A) args s 0 0 A) ((pic_Reader g a_t (a_query 0) r_span t) ++ (pic_Query g a_query query)) [(0, .ref (a_t 0)), (2, .int x2)] 2 [] := by
  obtain ⟨hx, hb, hr, hml, hown, htb, hlocks, hA, hAA, hG⟩ := id hC
  have hK := hG.1
  intro n
  induction n with
  | zero => intro t query x2 res h; rw [Reader_pastSpaces_2] at h; cases h
  | succ n ih =>
    intro t query x2 res h H locs ls hP hD hS hl
    rw [Reader_pastSpaces_2] at h
    refine lv_iload_n hx hb d_Reader_pastSpaces_2 rfl (lv_at hl 1 rfl) ?_
    refine lv_aload_n hx hb d_Reader_pastSpaces_3 rfl (lv_at hl 0 rfl) ?_
    refine va_get (D := gD g) (ci := 3) (v := .ref (a_query 0)) (C := R_Reader) (T := T_Reader) (N := 9) hx hb htb in_Reader hown hK hP 0 rfl rfl 0 (by decide) (htb _ L_Reader_12) (fun _ h9 => h9) rfl d_Reader_pastSpaces_4 ?_
    refine va_getN (D := gD g) (ci := 1) (v := .int (query 1 0)) (C := R_Query) (T := T_Query) (N := 14) hx hb htb in_Query hown hK hP 4 rfl rfl 1 (by decide) (nf_of hG N_Reader_60) (fun _ h9 => h9) rfl d_Reader_pastSpaces_7 ?_
    refine lv_icmp_ge (tgt := 33) hx hb d_Reader_pastSpaces_10 (by decide) (fun c5 => ?_) (fun c5 => ?_)
    · replace h := (if_pos c5).symm.trans h
      refine lv_iload_n hx hb d_Reader_pastSpaces_33 rfl (lv_at hl 1 rfl) ?_
      cases h
      exact W.iret hx hb hr (fun t ht hW => ⟨⟨_, (), rfl, rfl, trivial⟩, hS.F ht⟩) hS.2.2 d_Reader_pastSpaces_34
    · replace h := (if_neg c5).symm.trans h
      refine lv_aload_n hx hb d_Reader_pastSpaces_13 rfl (lv_at hl 0 rfl) ?_
      refine va_get (D := gD g) (ci := 3) (v := .ref (a_query 0)) (C := R_Reader) (T := T_Reader) (N := 9) hx hb htb in_Reader hown hK hP 0 rfl rfl 0 (by decide) (htb _ L_Reader_12) (fun _ h9 => h9) rfl d_Reader_pastSpaces_14 ?_
      refine lv_iload_n hx hb d_Reader_pastSpaces_17 rfl (lv_at hl 1 rfl) ?_
      obtain ⟨r6, hr6, h⟩ := Option.bind_eq_some_iff.mp h
      refine cl_Ir hP hS hA (va_runV (As := [.int x2]) (rest := []) ⟨hx, hb, hml, hown, htb⟩ (c_Query_byteAt l g F a_query query x2 _ hr6 H.size) (cw_V htb mb_Query_byteAt (htb _ L_Reader_70) rfl rfl ⟨Nat.le_of_ble_eq_true rfl, Nat.le_of_ble_eq_true rfl⟩) (pre_V (va_recv hK hP (ci := 1) (q0 := 4) rfl rfl) (pre_S [4, 5, 6, 7, 8, 9, 10, 11, 12, 13, 14] rfl rfl hP hD hS hA hAA hG)) rfl rfl hl.1 rfl (lv_room (Nat.le_of_ble_eq_true rfl)) d_Reader_pastSpaces_18 ⟨Nat.zero_le _, Nat.zero_le _⟩) (fun H locs hP hS => ?_)
      obtain ⟨r7, hr7, h⟩ := Option.bind_eq_some_iff.mp h
      refine cl_Ir hP hS hA (va_runSN (As := [.int r6]) (rest := []) ⟨hx, hb, hml, hown, htb⟩ (c_MQ_isSpace l g F r6 _ hr7 H.size) (cn_S htb mb_MQ_isSpace (nm_of hG N_Reader_188) rfl rfl ⟨Nat.le_of_ble_eq_true rfl, Nat.le_of_ble_eq_true rfl⟩) (pre_S [] rfl rfl hP hD hS hA hAA hG) rfl rfl hl.1 rfl (lv_room (Nat.le_of_ble_eq_true rfl)) d_Reader_pastSpaces_21 ⟨Nat.zero_le _, Nat.zero_le _⟩) (fun H locs hP hS => ?_)
      refine lv_if_eq (tgt := 33) hx hb d_Reader_pastSpaces_24 (by decide) (fun c8 => ?_) (fun c8 => ?_)
      · replace h := (if_pos c8).symm.trans h
        refine lv_iload_n hx hb d_Reader_pastSpaces_33 rfl (lv_at hl 1 rfl) ?_
        cases h
        exact W.iret hx hb hr (fun t ht hW => ⟨⟨_, (), rfl, rfl, trivial⟩, hS.F ht⟩) hS.2.2 d_Reader_pastSpaces_34
      · replace h := (if_neg c8).symm.trans h
        refine lv_iinc (v := (x2 + (1 : Int32))) (lv' := [(2, .int (x2 + (1 : Int32))), (0, .ref (a_t 0))]) hx hb d_Reader_pastSpaces_27 hl (k := 1) rfl rfl (by decide) rfl (fun ls hl => ?_)
        refine lv_goto (tgt := 2) hx hb d_Reader_pastSpaces_30 (by decide) ?_
        exact ih _ _ _ _ h _ _ _ hP hD hS (lv_sub hl [1, 0] rfl)
set_option maxHeartbeats 4000000 in
set_option maxRecDepth 100000 in
theorem k_Reader_pastSpaces {p : Program} {l : Launch} {e : Env} {s : State} {m : MethodId} {args : Array Value} {below : List Frame} {meth : Method} {c : Code} {g : Gz} {A2 A : Nat → Prop} {F : Nat} {a_t a_query : Nat → Nat} {r_span : Nat} (hC : Cx prog_6_method_22_code 3 (some .int) R_Reader p s m args meth c g A2 A) : ∀ (t : StI) (query : StI) (x1 : Int32) (res : Int32), Reader_pastSpaces F t query x1 = some res → Go p l e rm_Reader_pastSpaces s m args below meth c g A2 A 3 (MQ below (RI res A) args s 0 0 A) ((pic_Reader g a_t (a_query 0) r_span t) ++ (pic_Query g a_query query)) [(0, .ref (a_t 0)), (1, .int x1)] 0 [] := by
  obtain ⟨hx, hb, hr, hml, hown, htb, hlocks, hA, hAA, hG⟩ := id hC
  have hK := hG.1
  intro t query x1 res h H locs ls hP hD hS hl
  rw [Reader_pastSpaces] at h
  refine lv_iload_n hx hb d_Reader_pastSpaces_0 rfl (lv_at hl 1 rfl) ?_
  refine lv_istore_n (lv' := [(2, .int x1), (0, .ref (a_t 0)), (1, .int x1)]) hx hb d_Reader_pastSpaces_1 rfl hl (by decide) rfl (fun ls hl => ?_)
  exact k_Reader_pastSpaces_2 hC F _ _ _ _ h _ _ _ hP hD hS (lv_sub hl [1, 0] rfl)
theorem c_Reader_pastSpaces (l : Launch) (g : Gz) (F : Nat) (a_t : Nat → Nat) (a_query : Nat → Nat) (r_span : Nat) (t : StI) (query : StI) (x1 : Int32) (res : Int32) (h : Reader_pastSpaces F t query x1 = some res) : ∀ sz : Nat, Met l y_Reader_pastSpaces (.code y_Reader_pastSpaces prog_6_method_22_code 3 (some .int) :: TBL) rm_Reader_pastSpaces (va_Pc [.ref (a_t 0), .int x1] (Pre0 g ((pic_Reader g a_t (a_query 0) r_span t) ++ (pic_Query g a_query query)) sz)) (RI res (fun q => sz ≤ q)) 0 0 (fun q => sz ≤ q) :=
  ct_r (Qc := fun A => RI res A) (by decide) (Nat.le_of_ble_eq_true rfl) (fun p e s m args below meth c A2 A hC => k_Reader_pastSpaces hC t query x1 res h)
def Reader_pastLetters_2 (F : Nat) : Nat → StI → StI → Int32 → Option (Int32)
  | 0, _, _, _ => none
  | n + 1, t, query, x2 => if (query 1 0) ≤ x2 then some x2 else (Query_byteAt F query x2).bind fun r6 => (MQ_isSmallLetter F r6).bind fun r7 => if r7 = 0 then some x2 else Reader_pastLetters_2 F n t query (x2 + (1 : Int32))
def Reader_pastLetters (F : Nat) (t : StI) (query : StI) (x1 : Int32) : Option (Int32) := Reader_pastLetters_2 F F t query x1
set_option maxHeartbeats 4000000 in
set_option maxRecDepth 100000 in
theorem k_Reader_pastLetters_2 {p : Program} {l : Launch} {e : Env} {s : State} {m : MethodId} {args : Array Value} {below : List Frame} {meth : Method} {c : Code} {g : Gz} {A2 A : Nat → Prop} {F : Nat} {a_t a_query : Nat → Nat} {r_span : Nat} (hC : Cx prog_6_method_23_code 3 (some .int) R_Reader p s m args meth c g A2 A) : ∀ (n : Nat) (t : StI) (query : StI) (x2 : Int32) (res : Int32), Reader_pastLetters_2 F n t query x2 = some res → Go p l e rm_Reader_pastLetters s m args below meth c g A2 A 3 (MQ below (RI res A) args s 0 0 A) ((pic_Reader g a_t (a_query 0) r_span t) ++ (pic_Query g a_query query)) [(0, .ref (a_t 0)), (2, .int x2)] 2 [] := by
  obtain ⟨hx, hb, hr, hml, hown, htb, hlocks, hA, hAA, hG⟩ := id hC
  have hK := hG.1
  intro n
  induction n with
  | zero => intro t query x2 res h; rw [Reader_pastLetters_2] at h; cases h
  | succ n ih =>
    intro t query x2 res h H locs ls hP hD hS hl
    rw [Reader_pastLetters_2] at h
    refine lv_iload_n hx hb d_Reader_pastLetters_2 rfl (lv_at hl 1 rfl) ?_
    refine lv_aload_n hx hb d_Reader_pastLetters_3 rfl (lv_at hl 0 rfl) ?_
    refine va_get (D := gD g) (ci := 3) (v := .ref (a_query 0)) (C := R_Reader) (T := T_Reader) (N := 9) hx hb htb in_Reader hown hK hP 0 rfl rfl 0 (by decide) (htb _ L_Reader_12) (fun _ h9 => h9) rfl d_Reader_pastLetters_4 ?_
    refine va_getN (D := gD g) (ci := 1) (v := .int (query 1 0)) (C := R_Query) (T := T_Query) (N := 14) hx hb htb in_Query hown hK hP 4 rfl rfl 1 (by decide) (nf_of hG N_Reader_60) (fun _ h9 => h9) rfl d_Reader_pastLetters_7 ?_
    refine lv_icmp_ge (tgt := 33) hx hb d_Reader_pastLetters_10 (by decide) (fun c5 => ?_) (fun c5 => ?_)
    · replace h := (if_pos c5).symm.trans h
      refine lv_iload_n hx hb d_Reader_pastLetters_33 rfl (lv_at hl 1 rfl) ?_
      cases h
      exact W.iret hx hb hr (fun t ht hW => ⟨⟨_, (), rfl, rfl, trivial⟩, hS.F ht⟩) hS.2.2 d_Reader_pastLetters_34
    · replace h := (if_neg c5).symm.trans h
      refine lv_aload_n hx hb d_Reader_pastLetters_13 rfl (lv_at hl 0 rfl) ?_
      refine va_get (D := gD g) (ci := 3) (v := .ref (a_query 0)) (C := R_Reader) (T := T_Reader) (N := 9) hx hb htb in_Reader hown hK hP 0 rfl rfl 0 (by decide) (htb _ L_Reader_12) (fun _ h9 => h9) rfl d_Reader_pastLetters_14 ?_
      refine lv_iload_n hx hb d_Reader_pastLetters_17 rfl (lv_at hl 1 rfl) ?_
      obtain ⟨r6, hr6, h⟩ := Option.bind_eq_some_iff.mp h
      refine cl_Ir hP hS hA (va_runV (As := [.int x2]) (rest := []) ⟨hx, hb, hml, hown, htb⟩ (c_Query_byteAt l g F a_query query x2 _ hr6 H.size) (cw_V htb mb_Query_byteAt (htb _ L_Reader_70) rfl rfl ⟨Nat.le_of_ble_eq_true rfl, Nat.le_of_ble_eq_true rfl⟩) (pre_V (va_recv hK hP (ci := 1) (q0 := 4) rfl rfl) (pre_S [4, 5, 6, 7, 8, 9, 10, 11, 12, 13, 14] rfl rfl hP hD hS hA hAA hG)) rfl rfl hl.1 rfl (lv_room (Nat.le_of_ble_eq_true rfl)) d_Reader_pastLetters_18 ⟨Nat.zero_le _, Nat.zero_le _⟩) (fun H locs hP hS => ?_)
      obtain ⟨r7, hr7, h⟩ := Option.bind_eq_some_iff.mp h
      refine cl_Ir hP hS hA (va_runSN (As := [.int r6]) (rest := []) ⟨hx, hb, hml, hown, htb⟩ (c_MQ_isSmallLetter l g F r6 _ hr7 H.size) (cn_S htb mb_MQ_isSmallLetter (nm_of hG N_Reader_158) rfl rfl ⟨Nat.le_of_ble_eq_true rfl, Nat.le_of_ble_eq_true rfl⟩) (pre_S [] rfl rfl hP hD hS hA hAA hG) rfl rfl hl.1 rfl (lv_room (Nat.le_of_ble_eq_true rfl)) d_Reader_pastLetters_21 ⟨Nat.zero_le _, Nat.zero_le _⟩) (fun H locs hP hS => ?_)
      refine lv_if_eq (tgt := 33) hx hb d_Reader_pastLetters_24 (by decide) (fun c8 => ?_) (fun c8 => ?_)
      · replace h := (if_pos c8).symm.trans h
        refine lv_iload_n hx hb d_Reader_pastLetters_33 rfl (lv_at hl 1 rfl) ?_
        cases h
        exact W.iret hx hb hr (fun t ht hW => ⟨⟨_, (), rfl, rfl, trivial⟩, hS.F ht⟩) hS.2.2 d_Reader_pastLetters_34
      · replace h := (if_neg c8).symm.trans h
        refine lv_iinc (v := (x2 + (1 : Int32))) (lv' := [(2, .int (x2 + (1 : Int32))), (0, .ref (a_t 0))]) hx hb d_Reader_pastLetters_27 hl (k := 1) rfl rfl (by decide) rfl (fun ls hl => ?_)
        refine lv_goto (tgt := 2) hx hb d_Reader_pastLetters_30 (by decide) ?_
        exact ih _ _ _ _ h _ _ _ hP hD hS (lv_sub hl [1, 0] rfl)
set_option maxHeartbeats 4000000 in
set_option maxRecDepth 100000 in
theorem k_Reader_pastLetters {p : Program} {l : Launch} {e : Env} {s : State} {m : MethodId} {args : Array Value} {below : List Frame} {meth : Method} {c : Code} {g : Gz} {A2 A : Nat → Prop} {F : Nat} {a_t a_query : Nat → Nat} {r_span : Nat} (hC : Cx prog_6_method_23_code 3 (some .int) R_Reader p s m args meth c g A2 A) : ∀ (t : StI) (query : StI) (x1 : Int32) (res : Int32), Reader_pastLetters F t query x1 = some res → Go p l e rm_Reader_pastLetters s m args below meth c g A2 A 3 (MQ below (RI res A) args s 0 0 A) ((pic_Reader g a_t (a_query 0) r_span t) ++ (pic_Query g a_query query)) [(0, .ref (a_t 0)), (1, .int x1)] 0 [] := by
  obtain ⟨hx, hb, hr, hml, hown, htb, hlocks, hA, hAA, hG⟩ := id hC
  have hK := hG.1
  intro t query x1 res h H locs ls hP hD hS hl
  rw [Reader_pastLetters] at h
  refine lv_iload_n hx hb d_Reader_pastLetters_0 rfl (lv_at hl 1 rfl) ?_
  refine lv_istore_n (lv' := [(2, .int x1), (0, .ref (a_t 0)), (1, .int x1)]) hx hb d_Reader_pastLetters_1 rfl hl (by decide) rfl (fun ls hl => ?_)
  exact k_Reader_pastLetters_2 hC F _ _ _ _ h _ _ _ hP hD hS (lv_sub hl [1, 0] rfl)
theorem c_Reader_pastLetters (l : Launch) (g : Gz) (F : Nat) (a_t : Nat → Nat) (a_query : Nat → Nat) (r_span : Nat) (t : StI) (query : StI) (x1 : Int32) (res : Int32) (h : Reader_pastLetters F t query x1 = some res) : ∀ sz : Nat, Met l y_Reader_pastLetters (.code y_Reader_pastLetters prog_6_method_23_code 3 (some .int) :: TBL) rm_Reader_pastLetters (va_Pc [.ref (a_t 0), .int x1] (Pre0 g ((pic_Reader g a_t (a_query 0) r_span t) ++ (pic_Query g a_query query)) sz)) (RI res (fun q => sz ≤ q)) 0 0 (fun q => sz ≤ q) :=
  ct_r (Qc := fun A => RI res A) (by decide) (Nat.le_of_ble_eq_true rfl) (fun p e s m args below meth c A2 A hC => k_Reader_pastLetters hC t query x1 res h)
def Reader_pastTextBytes_2 (F : Nat) : Nat → StI → StI → Int32 → Option (Int32)
  | 0, _, _, _ => none
  | n + 1, t, query, x2 => if (query 1 0) ≤ x2 then some x2 else (Query_byteAt F query x2).bind fun r6 => (MQ_isTextByte F r6).bind fun r7 => if r7 = 0 then some x2 else Reader_pastTextBytes_2 F n t query (x2 + (1 : Int32))
def Reader_pastTextBytes (F : Nat) (t : StI) (query : StI) (x1 : Int32) : Option (Int32) := Reader_pastTextBytes_2 F F t query x1
set_option maxHeartbeats 4000000 in
set_option maxRecDepth 100000 in
theorem k_Reader_pastTextBytes_2 {p : Program} {l : Launch} {e : Env} {s : State} {m : MethodId} {args : Array Value} {below : List Frame} {meth : Method} {c : Code} {g : Gz} {A2 A : Nat → Prop} {F : Nat} {a_t a_query : Nat → Nat} {r_span : Nat} (hC : Cx prog_6_method_24_code 3 (some .int) R_Reader p s m args meth c g A2 A) : ∀ (n : Nat) (t : StI) (query : StI) (x2 : Int32) (res : Int32), Reader_pastTextBytes_2 F n t query x2 = some res → Go p l e rm_Reader_pastTextBytes s m args below meth c g A2 A 3 (MQ below (RI res A) args s 0 0 A) ((pic_Reader g a_t (a_query 0) r_span t) ++ (pic_Query g a_query query)) [(0, .ref (a_t 0)), (2, .int x2)] 2 [] := by
  obtain ⟨hx, hb, hr, hml, hown, htb, hlocks, hA, hAA, hG⟩ := id hC
  have hK := hG.1
  intro n
  induction n with
  | zero => intro t query x2 res h; rw [Reader_pastTextBytes_2] at h; cases h
  | succ n ih =>
    intro t query x2 res h H locs ls hP hD hS hl
    rw [Reader_pastTextBytes_2] at h
    refine lv_iload_n hx hb d_Reader_pastTextBytes_2 rfl (lv_at hl 1 rfl) ?_
    refine lv_aload_n hx hb d_Reader_pastTextBytes_3 rfl (lv_at hl 0 rfl) ?_
    refine va_get (D := gD g) (ci := 3) (v := .ref (a_query 0)) (C := R_Reader) (T := T_Reader) (N := 9) hx hb htb in_Reader hown hK hP 0 rfl rfl 0 (by decide) (htb _ L_Reader_12) (fun _ h9 => h9) rfl d_Reader_pastTextBytes_4 ?_
    refine va_getN (D := gD g) (ci := 1) (v := .int (query 1 0)) (C := R_Query) (T := T_Query) (N := 14) hx hb htb in_Query hown hK hP 4 rfl rfl 1 (by decide) (nf_of hG N_Reader_60) (fun _ h9 => h9) rfl d_Reader_pastTextBytes_7 ?_
    refine lv_icmp_ge (tgt := 33) hx hb d_Reader_pastTextBytes_10 (by decide) (fun c5 => ?_) (fun c5 => ?_)
    · replace h := (if_pos c5).symm.trans h
      refine lv_iload_n hx hb d_Reader_pastTextBytes_33 rfl (lv_at hl 1 rfl) ?_
      cases h
      exact W.iret hx hb hr (fun t ht hW => ⟨⟨_, (), rfl, rfl, trivial⟩, hS.F ht⟩) hS.2.2 d_Reader_pastTextBytes_34
    · replace h := (if_neg c5).symm.trans h
      refine lv_aload_n hx hb d_Reader_pastTextBytes_13 rfl (lv_at hl 0 rfl) ?_
      refine va_get (D := gD g) (ci := 3) (v := .ref (a_query 0)) (C := R_Reader) (T := T_Reader) (N := 9) hx hb htb in_Reader hown hK hP 0 rfl rfl 0 (by decide) (htb _ L_Reader_12) (fun _ h9 => h9) rfl d_Reader_pastTextBytes_14 ?_
      refine lv_iload_n hx hb d_Reader_pastTextBytes_17 rfl (lv_at hl 1 rfl) ?_
      obtain ⟨r6, hr6, h⟩ := Option.bind_eq_some_iff.mp h
      refine cl_Ir hP hS hA (va_runV (As := [.int x2]) (rest := []) ⟨hx, hb, hml, hown, htb⟩ (c_Query_byteAt l g F a_query query x2 _ hr6 H.size) (cw_V htb mb_Query_byteAt (htb _ L_Reader_70) rfl rfl ⟨Nat.le_of_ble_eq_true rfl, Nat.le_of_ble_eq_true rfl⟩) (pre_V (va_recv hK hP (ci := 1) (q0 := 4) rfl rfl) (pre_S [4, 5, 6, 7, 8, 9, 10, 11, 12, 13, 14] rfl rfl hP hD hS hA hAA hG)) rfl rfl hl.1 rfl (lv_room (Nat.le_of_ble_eq_true rfl)) d_Reader_pastTextBytes_18 ⟨Nat.zero_le _, Nat.zero_le _⟩) (fun H locs hP hS => ?_)
      obtain ⟨r7, hr7, h⟩ := Option.bind_eq_some_iff.mp h
      refine cl_Ir hP hS hA (va_runSN (As := [.int r6]) (rest := []) ⟨hx, hb, hml, hown, htb⟩ (c_MQ_isTextByte l g F r6 _ hr7 H.size) (cn_S htb mb_MQ_isTextByte (nm_of hG N_Reader_79) rfl rfl ⟨Nat.le_of_ble_eq_true rfl, Nat.le_of_ble_eq_true rfl⟩) (pre_S [] rfl rfl hP hD hS hA hAA hG) rfl rfl hl.1 rfl (lv_room (Nat.le_of_ble_eq_true rfl)) d_Reader_pastTextBytes_21 ⟨Nat.zero_le _, Nat.zero_le _⟩) (fun H locs hP hS => ?_)
      refine lv_if_eq (tgt := 33) hx hb d_Reader_pastTextBytes_24 (by decide) (fun c8 => ?_) (fun c8 => ?_)
      · replace h := (if_pos c8).symm.trans h
        refine lv_iload_n hx hb d_Reader_pastTextBytes_33 rfl (lv_at hl 1 rfl) ?_
        cases h
        exact W.iret hx hb hr (fun t ht hW => ⟨⟨_, (), rfl, rfl, trivial⟩, hS.F ht⟩) hS.2.2 d_Reader_pastTextBytes_34
      · replace h := (if_neg c8).symm.trans h
        refine lv_iinc (v := (x2 + (1 : Int32))) (lv' := [(2, .int (x2 + (1 : Int32))), (0, .ref (a_t 0))]) hx hb d_Reader_pastTextBytes_27 hl (k := 1) rfl rfl (by decide) rfl (fun ls hl => ?_)
        refine lv_goto (tgt := 2) hx hb d_Reader_pastTextBytes_30 (by decide) ?_
        exact ih _ _ _ _ h _ _ _ hP hD hS (lv_sub hl [1, 0] rfl)
set_option maxHeartbeats 4000000 in
set_option maxRecDepth 100000 in
theorem k_Reader_pastTextBytes {p : Program} {l : Launch} {e : Env} {s : State} {m : MethodId} {args : Array Value} {below : List Frame} {meth : Method} {c : Code} {g : Gz} {A2 A : Nat → Prop} {F : Nat} {a_t a_query : Nat → Nat} {r_span : Nat} (hC : Cx prog_6_method_24_code 3 (some .int) R_Reader p s m args meth c g A2 A) : ∀ (t : StI) (query : StI) (x1 : Int32) (res : Int32), Reader_pastTextBytes F t query x1 = some res → Go p l e rm_Reader_pastTextBytes s m args below meth c g A2 A 3 (MQ below (RI res A) args s 0 0 A) ((pic_Reader g a_t (a_query 0) r_span t) ++ (pic_Query g a_query query)) [(0, .ref (a_t 0)), (1, .int x1)] 0 [] := by
  obtain ⟨hx, hb, hr, hml, hown, htb, hlocks, hA, hAA, hG⟩ := id hC
  have hK := hG.1
  intro t query x1 res h H locs ls hP hD hS hl
  rw [Reader_pastTextBytes] at h
  refine lv_iload_n hx hb d_Reader_pastTextBytes_0 rfl (lv_at hl 1 rfl) ?_
  refine lv_istore_n (lv' := [(2, .int x1), (0, .ref (a_t 0)), (1, .int x1)]) hx hb d_Reader_pastTextBytes_1 rfl hl (by decide) rfl (fun ls hl => ?_)
  exact k_Reader_pastTextBytes_2 hC F _ _ _ _ h _ _ _ hP hD hS (lv_sub hl [1, 0] rfl)
theorem c_Reader_pastTextBytes (l : Launch) (g : Gz) (F : Nat) (a_t : Nat → Nat) (a_query : Nat → Nat) (r_span : Nat) (t : StI) (query : StI) (x1 : Int32) (res : Int32) (h : Reader_pastTextBytes F t query x1 = some res) : ∀ sz : Nat, Met l y_Reader_pastTextBytes (.code y_Reader_pastTextBytes prog_6_method_24_code 3 (some .int) :: TBL) rm_Reader_pastTextBytes (va_Pc [.ref (a_t 0), .int x1] (Pre0 g ((pic_Reader g a_t (a_query 0) r_span t) ++ (pic_Query g a_query query)) sz)) (RI res (fun q => sz ≤ q)) 0 0 (fun q => sz ≤ q) :=
  ct_r (Qc := fun A => RI res A) (by decide) (Nat.le_of_ble_eq_true rfl) (fun p e s m args below meth c A2 A hC => k_Reader_pastTextBytes hC t query x1 res h)
def Reader_signOf (F : Nat) (t : StI) (query : StI) (x1 : Int32) (x2 : Int32) : Option (Int32) := (Query_says F query x1 x2 21).bind fun r9 => if r9 = 0 then (Query_says F query x1 x2 15).bind fun r11 => if r11 = 0 then (Query_says F query x1 x2 16).bind fun r13 => if r13 = 0 then (Query_says F query x1 x2 13).bind fun r15 => if r15 = 0 then some (-1 : Int32) else some (-2 : Int32) else some (-5 : Int32) else some (-4 : Int32) else some (-3 : Int32)
set_option maxHeartbeats 4000000 in
set_option maxRecDepth 100000 in
theorem k_Reader_signOf {p : Program} {l : Launch} {e : Env} {s : State} {m : MethodId} {args : Array Value} {below : List Frame} {meth : Method} {c : Code} {g : Gz} {A2 A : Nat → Prop} {F : Nat} {a_t a_query : Nat → Nat} {r_span : Nat} (hC : Cx prog_6_method_21_code 3 (some .int) R_Reader p s m args meth c g A2 A) : ∀ (t : StI) (query : StI) (x1 : Int32) (x2 : Int32) (res : Int32), Reader_signOf F t query x1 x2 = some res → Go p l e rm_Reader_signOf s m args below meth c g A2 A 3 (MQ below (RI res A) args s 0 0 A) ((pic_Reader g a_t (a_query 0) r_span t) ++ (pic_Query g a_query query)) [(0, .ref (a_t 0)), (1, .int x1), (2, .int x2)] 0 [] := by
  obtain ⟨hx, hb, hr, hml, hown, htb, hlocks, hA, hAA, hG⟩ := id hC
  have hK := hG.1
  intro t query x1 x2 res h H locs ls hP hD hS hl
  rw [Reader_signOf] at h
  refine lv_aload_n hx hb d_Reader_signOf_0 rfl (lv_at hl 0 rfl) ?_
  refine va_get (D := gD g) (ci := 3) (v := .ref (a_query 0)) (C := R_Reader) (T := T_Reader) (N := 9) hx hb htb in_Reader hown hK hP 0 rfl rfl 0 (by decide) (htb _ L_Reader_12) (fun _ h9 => h9) rfl d_Reader_signOf_1 ?_
  refine lv_iload_n hx hb d_Reader_signOf_4 rfl (lv_at hl 1 rfl) ?_
  refine lv_iload_n hx hb d_Reader_signOf_5 rfl (lv_at hl 2 rfl) ?_
  refine ldc_s hx hb hG M_str_Reader_180 hown d_Reader_signOf_6 ?_
  obtain ⟨r9, hr9, h⟩ := Option.bind_eq_some_iff.mp h
  refine cl_Ir hP hS hA (va_runV (As := [.int x1, .int x2, .ref (g.2.2.2.1 21)]) (rest := []) ⟨hx, hb, hml, hown, htb⟩ (c_Query_says l g F a_query query x1 x2 21 _ hr9 H.size) (cw_V htb mb_Query_says (htb _ L_Reader_166) rfl rfl ⟨Nat.le_of_ble_eq_true rfl, Nat.le_of_ble_eq_true rfl⟩) (pre_V (va_recv hK hP (ci := 1) (q0 := 4) rfl rfl) (pre_S [4, 5, 6, 7, 8, 9, 10, 11, 12, 13, 14] rfl rfl hP hD hS hA hAA hG)) rfl rfl hl.1 rfl (lv_room (Nat.le_of_ble_eq_true rfl)) d_Reader_signOf_8 ⟨Nat.zero_le _, Nat.zero_le _⟩) (fun H locs hP hS => ?_)
  refine lv_if_eq (tgt := 17) hx hb d_Reader_signOf_11 (by decide) (fun c10 => ?_) (fun c10 => ?_)
  · replace h := (if_pos c10).symm.trans h
    refine lv_aload_n hx hb d_Reader_signOf_17 rfl (lv_at hl 0 rfl) ?_
    refine va_get (D := gD g) (ci := 3) (v := .ref (a_query 0)) (C := R_Reader) (T := T_Reader) (N := 9) hx hb htb in_Reader hown hK hP 0 rfl rfl 0 (by decide) (htb _ L_Reader_12) (fun _ h9 => h9) rfl d_Reader_signOf_18 ?_
    refine lv_iload_n hx hb d_Reader_signOf_21 rfl (lv_at hl 1 rfl) ?_
    refine lv_iload_n hx hb d_Reader_signOf_22 rfl (lv_at hl 2 rfl) ?_
    refine ldc_s hx hb hG M_str_Reader_182 hown d_Reader_signOf_23 ?_
    obtain ⟨r11, hr11, h⟩ := Option.bind_eq_some_iff.mp h
    refine cl_Ir hP hS hA (va_runV (As := [.int x1, .int x2, .ref (g.2.2.2.1 15)]) (rest := []) ⟨hx, hb, hml, hown, htb⟩ (c_Query_says l g F a_query query x1 x2 15 _ hr11 H.size) (cw_V htb mb_Query_says (htb _ L_Reader_166) rfl rfl ⟨Nat.le_of_ble_eq_true rfl, Nat.le_of_ble_eq_true rfl⟩) (pre_V (va_recv hK hP (ci := 1) (q0 := 4) rfl rfl) (pre_S [4, 5, 6, 7, 8, 9, 10, 11, 12, 13, 14] rfl rfl hP hD hS hA hAA hG)) rfl rfl hl.1 rfl (lv_room (Nat.le_of_ble_eq_true rfl)) d_Reader_signOf_25 ⟨Nat.zero_le _, Nat.zero_le _⟩) (fun H locs hP hS => ?_)
    refine lv_if_eq (tgt := 34) hx hb d_Reader_signOf_28 (by decide) (fun c12 => ?_) (fun c12 => ?_)
    · replace h := (if_pos c12).symm.trans h
      refine lv_aload_n hx hb d_Reader_signOf_34 rfl (lv_at hl 0 rfl) ?_
      refine va_get (D := gD g) (ci := 3) (v := .ref (a_query 0)) (C := R_Reader) (T := T_Reader) (N := 9) hx hb htb in_Reader hown hK hP 0 rfl rfl 0 (by decide) (htb _ L_Reader_12) (fun _ h9 => h9) rfl d_Reader_signOf_35 ?_
      refine lv_iload_n hx hb d_Reader_signOf_38 rfl (lv_at hl 1 rfl) ?_
      refine lv_iload_n hx hb d_Reader_signOf_39 rfl (lv_at hl 2 rfl) ?_
      refine ldc_s hx hb hG M_str_Reader_184 hown d_Reader_signOf_40 ?_
      obtain ⟨r13, hr13, h⟩ := Option.bind_eq_some_iff.mp h
      refine cl_Ir hP hS hA (va_runV (As := [.int x1, .int x2, .ref (g.2.2.2.1 16)]) (rest := []) ⟨hx, hb, hml, hown, htb⟩ (c_Query_says l g F a_query query x1 x2 16 _ hr13 H.size) (cw_V htb mb_Query_says (htb _ L_Reader_166) rfl rfl ⟨Nat.le_of_ble_eq_true rfl, Nat.le_of_ble_eq_true rfl⟩) (pre_V (va_recv hK hP (ci := 1) (q0 := 4) rfl rfl) (pre_S [4, 5, 6, 7, 8, 9, 10, 11, 12, 13, 14] rfl rfl hP hD hS hA hAA hG)) rfl rfl hl.1 rfl (lv_room (Nat.le_of_ble_eq_true rfl)) d_Reader_signOf_42 ⟨Nat.zero_le _, Nat.zero_le _⟩) (fun H locs hP hS => ?_)
      refine lv_if_eq (tgt := 51) hx hb d_Reader_signOf_45 (by decide) (fun c14 => ?_) (fun c14 => ?_)
      · replace h := (if_pos c14).symm.trans h
        refine lv_aload_n hx hb d_Reader_signOf_51 rfl (lv_at hl 0 rfl) ?_
        refine va_get (D := gD g) (ci := 3) (v := .ref (a_query 0)) (C := R_Reader) (T := T_Reader) (N := 9) hx hb htb in_Reader hown hK hP 0 rfl rfl 0 (by decide) (htb _ L_Reader_12) (fun _ h9 => h9) rfl d_Reader_signOf_52 ?_
        refine lv_iload_n hx hb d_Reader_signOf_55 rfl (lv_at hl 1 rfl) ?_
        refine lv_iload_n hx hb d_Reader_signOf_56 rfl (lv_at hl 2 rfl) ?_
        refine ldc_s hx hb hG M_str_Reader_186 hown d_Reader_signOf_57 ?_
        obtain ⟨r15, hr15, h⟩ := Option.bind_eq_some_iff.mp h
        refine cl_Ir hP hS hA (va_runV (As := [.int x1, .int x2, .ref (g.2.2.2.1 13)]) (rest := []) ⟨hx, hb, hml, hown, htb⟩ (c_Query_says l g F a_query query x1 x2 13 _ hr15 H.size) (cw_V htb mb_Query_says (htb _ L_Reader_166) rfl rfl ⟨Nat.le_of_ble_eq_true rfl, Nat.le_of_ble_eq_true rfl⟩) (pre_V (va_recv hK hP (ci := 1) (q0 := 4) rfl rfl) (pre_S [4, 5, 6, 7, 8, 9, 10, 11, 12, 13, 14] rfl rfl hP hD hS hA hAA hG)) rfl rfl hl.1 rfl (lv_room (Nat.le_of_ble_eq_true rfl)) d_Reader_signOf_59 ⟨Nat.zero_le _, Nat.zero_le _⟩) (fun H locs hP hS => ?_)
        refine lv_if_eq (tgt := 70) hx hb d_Reader_signOf_62 (by decide) (fun c16 => ?_) (fun c16 => ?_)
        · replace h := (if_pos c16).symm.trans h
          refine lv_iconst (v := -1) hx hb d_Reader_signOf_70 (by decide) ?_
          cases h
          exact W.iret hx hb hr (fun t ht hW => ⟨⟨_, (), rfl, rfl, trivial⟩, hS.F ht⟩) hS.2.2 d_Reader_signOf_71
        · replace h := (if_neg c16).symm.trans h
          refine lv_bipush (v := -2) hx hb d_Reader_signOf_65 (by decide) ?_
          refine lv_goto (tgt := 71) hx hb d_Reader_signOf_67 (by decide) ?_
          cases h
          exact W.iret hx hb hr (fun t ht hW => ⟨⟨_, (), rfl, rfl, trivial⟩, hS.F ht⟩) hS.2.2 d_Reader_signOf_71
      · replace h := (if_neg c14).symm.trans h
        refine lv_bipush (v := -5) hx hb d_Reader_signOf_48 (by decide) ?_
        cases h
        exact W.iret hx hb hr (fun t ht hW => ⟨⟨_, (), rfl, rfl, trivial⟩, hS.F ht⟩) hS.2.2 d_Reader_signOf_50
    · replace h := (if_neg c12).symm.trans h
      refine lv_bipush (v := -4) hx hb d_Reader_signOf_31 (by decide) ?_
      cases h
      exact W.iret hx hb hr (fun t ht hW => ⟨⟨_, (), rfl, rfl, trivial⟩, hS.F ht⟩) hS.2.2 d_Reader_signOf_33
  · replace h := (if_neg c10).symm.trans h
    refine lv_bipush (v := -3) hx hb d_Reader_signOf_14 (by decide) ?_
    cases h
    exact W.iret hx hb hr (fun t ht hW => ⟨⟨_, (), rfl, rfl, trivial⟩, hS.F ht⟩) hS.2.2 d_Reader_signOf_16
theorem c_Reader_signOf (l : Launch) (g : Gz) (F : Nat) (a_t : Nat → Nat) (a_query : Nat → Nat) (r_span : Nat) (t : StI) (query : StI) (x1 : Int32) (x2 : Int32) (res : Int32) (h : Reader_signOf F t query x1 x2 = some res) : ∀ sz : Nat, Met l y_Reader_signOf (.code y_Reader_signOf prog_6_method_21_code 3 (some .int) :: TBL) rm_Reader_signOf (va_Pc [.ref (a_t 0), .int x1, .int x2] (Pre0 g ((pic_Reader g a_t (a_query 0) r_span t) ++ (pic_Query g a_query query)) sz)) (RI res (fun q => sz ≤ q)) 0 0 (fun q => sz ≤ q) :=
  ct_r (Qc := fun A => RI res A) (by decide) (Nat.le_of_ble_eq_true rfl) (fun p e s m args below meth c A2 A hC => k_Reader_signOf hC t query x1 x2 res h)
def Reader_fieldOf_2 (F : Nat) : Nat → StI → StI → Int32 → Int32 → Int32 → Option (Int32)
  | 0, _, _, _, _, _ => none
  | n + 1, t, query, x1, x2, x3 => if (12 : Int32) < x3 then some (-1 : Int32) else (MQ_nameOf F x3).bind fun r6 => (Query_says F query x1 x2 r6).bind fun r7 => if r7 = 0 then Reader_fieldOf_2 F n t query x1 x2 (x3 + (1 : Int32)) else some x3
def Reader_fieldOf (F : Nat) (t : StI) (query : StI) (x1 : Int32) (x2 : Int32) : Option (Int32) := Reader_fieldOf_2 F F t query x1 x2 (1 : Int32)
set_option maxHeartbeats 4000000 in
set_option maxRecDepth 100000 in
theorem k_Reader_fieldOf_2 {p : Program} {l : Launch} {e : Env} {s : State} {m : MethodId} {args : Array Value} {below : List Frame} {meth : Method} {c : Code} {g : Gz} {A2 A : Nat → Prop} {F : Nat} {a_t a_query : Nat → Nat} {r_span : Nat} (hC : Cx prog_6_method_20_code 4 (some .int) R_Reader p s m args meth c g A2 A) : ∀ (n : Nat) (t : StI) (query : StI) (x1 : Int32) (x2 : Int32) (x3 : Int32) (res : Int32), Reader_fieldOf_2 F n t query x1 x2 x3 = some res → Go p l e rm_Reader_fieldOf s m args below meth c g A2 A 4 (MQ below (RI res A) args s 0 0 A) ((pic_Reader g a_t (a_query 0) r_span t) ++ (pic_Query g a_query query)) [(0, .ref (a_t 0)), (1, .int x1), (2, .int x2), (3, .int x3)] 2 [] := by
  obtain ⟨hx, hb, hr, hml, hown, htb, hlocks, hA, hAA, hG⟩ := id hC
  have hK := hG.1
  intro n
  induction n with
  | zero => intro t query x1 x2 x3 res h; rw [Reader_fieldOf_2] at h; cases h
  | succ n ih =>
    intro t query x1 x2 x3 res h H locs ls hP hD hS hl
    rw [Reader_fieldOf_2] at h
    refine lv_iload_n hx hb d_Reader_fieldOf_2 rfl (lv_at hl 3 rfl) ?_
    refine lv_bipush (v := 12) hx hb d_Reader_fieldOf_3 (by decide) ?_
    refine lv_icmp_gt (tgt := 32) hx hb d_Reader_fieldOf_5 (by decide) (fun c5 => ?_) (fun c5 => ?_)
    · replace h := (if_pos c5).symm.trans h
      refine lv_iconst (v := -1) hx hb d_Reader_fieldOf_32 (by decide) ?_
      cases h
      exact W.iret hx hb hr (fun t ht hW => ⟨⟨_, (), rfl, rfl, trivial⟩, hS.F ht⟩) hS.2.2 d_Reader_fieldOf_33
    · replace h := (if_neg c5).symm.trans h
      refine lv_aload_n hx hb d_Reader_fieldOf_8 rfl (lv_at hl 0 rfl) ?_
      refine va_get (D := gD g) (ci := 3) (v := .ref (a_query 0)) (C := R_Reader) (T := T_Reader) (N := 9) hx hb htb in_Reader hown hK hP 0 rfl rfl 0 (by decide) (htb _ L_Reader_12) (fun _ h9 => h9) rfl d_Reader_fieldOf_9 ?_
      refine lv_iload_n hx hb d_Reader_fieldOf_12 rfl (lv_at hl 1 rfl) ?_
      refine lv_iload_n hx hb d_Reader_fieldOf_13 rfl (lv_at hl 2 rfl) ?_
      refine lv_iload_n hx hb d_Reader_fieldOf_14 rfl (lv_at hl 3 rfl) ?_
      obtain ⟨r6, hr6, h⟩ := Option.bind_eq_some_iff.mp h
      refine cl_Sr hP hS hA (va_runSN (As := [.int x3]) (rest := [.int x2, .int x1, .ref (a_query 0)]) ⟨hx, hb, hml, hown, htb⟩ (c_MQ_nameOf l g F x3 _ hr6 H.size) (cn_S htb mb_MQ_nameOf (nm_of hG N_Reader_176) rfl rfl ⟨Nat.le_of_ble_eq_true rfl, Nat.le_of_ble_eq_true rfl⟩) (pre_S [] rfl rfl hP hD hS hA hAA hG) rfl rfl hl.1 rfl (lv_room (Nat.le_of_ble_eq_true rfl)) d_Reader_fieldOf_15 ⟨Nat.zero_le _, Nat.zero_le _⟩) (fun H locs hP hS => ?_)
      obtain ⟨r7, hr7, h⟩ := Option.bind_eq_some_iff.mp h
      refine cl_Ir hP hS hA (va_runV (As := [.int x1, .int x2, .ref (g.2.2.2.1 r6)]) (rest := []) ⟨hx, hb, hml, hown, htb⟩ (c_Query_says l g F a_query query x1 x2 r6 _ hr7 H.size) (cw_V htb mb_Query_says (htb _ L_Reader_166) rfl rfl ⟨Nat.le_of_ble_eq_true rfl, Nat.le_of_ble_eq_true rfl⟩) (pre_V (va_recv hK hP (ci := 1) (q0 := 4) rfl rfl) (pre_S [4, 5, 6, 7, 8, 9, 10, 11, 12, 13, 14] rfl rfl hP hD hS hA hAA hG)) rfl rfl hl.1 rfl (lv_room (Nat.le_of_ble_eq_true rfl)) d_Reader_fieldOf_18 ⟨Nat.zero_le _, Nat.zero_le _⟩) (fun H locs hP hS => ?_)
      refine lv_if_eq (tgt := 26) hx hb d_Reader_fieldOf_21 (by decide) (fun c8 => ?_) (fun c8 => ?_)
      · replace h := (if_pos c8).symm.trans h
        refine lv_iinc (v := (x3 + (1 : Int32))) (lv' := [(3, .int (x3 + (1 : Int32))), (0, .ref (a_t 0)), (1, .int x1), (2, .int x2)]) hx hb d_Reader_fieldOf_26 hl (k := 3) rfl rfl (by decide) rfl (fun ls hl => ?_)
        refine lv_goto (tgt := 2) hx hb d_Reader_fieldOf_29 (by decide) ?_
        exact ih _ _ _ _ _ _ h _ _ _ hP hD hS (lv_sub hl [1, 2, 3, 0] rfl)
      · replace h := (if_neg c8).symm.trans h
        refine lv_iload_n hx hb d_Reader_fieldOf_24 rfl (lv_at hl 3 rfl) ?_
        cases h
        exact W.iret hx hb hr (fun t ht hW => ⟨⟨_, (), rfl, rfl, trivial⟩, hS.F ht⟩) hS.2.2 d_Reader_fieldOf_25
set_option maxHeartbeats 4000000 in
set_option maxRecDepth 100000 in
theorem k_Reader_fieldOf {p : Program} {l : Launch} {e : Env} {s : State} {m : MethodId} {args : Array Value} {below : List Frame} {meth : Method} {c : Code} {g : Gz} {A2 A : Nat → Prop} {F : Nat} {a_t a_query : Nat → Nat} {r_span : Nat} (hC : Cx prog_6_method_20_code 4 (some .int) R_Reader p s m args meth c g A2 A) : ∀ (t : StI) (query : StI) (x1 : Int32) (x2 : Int32) (res : Int32), Reader_fieldOf F t query x1 x2 = some res → Go p l e rm_Reader_fieldOf s m args below meth c g A2 A 4 (MQ below (RI res A) args s 0 0 A) ((pic_Reader g a_t (a_query 0) r_span t) ++ (pic_Query g a_query query)) [(0, .ref (a_t 0)), (1, .int x1), (2, .int x2)] 0 [] := by
  obtain ⟨hx, hb, hr, hml, hown, htb, hlocks, hA, hAA, hG⟩ := id hC
  have hK := hG.1
  intro t query x1 x2 res h H locs ls hP hD hS hl
  rw [Reader_fieldOf] at h
  refine lv_iconst (v := 1) hx hb d_Reader_fieldOf_0 (by decide) ?_
  refine lv_istore_n (lv' := [(3, .int (1 : Int32)), (0, .ref (a_t 0)), (1, .int x1), (2, .int x2)]) hx hb d_Reader_fieldOf_1 rfl hl (by decide) rfl (fun ls hl => ?_)
  exact k_Reader_fieldOf_2 hC F _ _ _ _ _ _ h _ _ _ hP hD hS (lv_sub hl [1, 2, 3, 0] rfl)
theorem c_Reader_fieldOf (l : Launch) (g : Gz) (F : Nat) (a_t : Nat → Nat) (a_query : Nat → Nat) (r_span : Nat) (t : StI) (query : StI) (x1 : Int32) (x2 : Int32) (res : Int32) (h : Reader_fieldOf F t query x1 x2 = some res) : ∀ sz : Nat, Met l y_Reader_fieldOf (.code y_Reader_fieldOf prog_6_method_20_code 4 (some .int) :: TBL) rm_Reader_fieldOf (va_Pc [.ref (a_t 0), .int x1, .int x2] (Pre0 g ((pic_Reader g a_t (a_query 0) r_span t) ++ (pic_Query g a_query query)) sz)) (RI res (fun q => sz ≤ q)) 0 0 (fun q => sz ≤ q) :=
  ct_r (Qc := fun A => RI res A) (by decide) (Nat.le_of_ble_eq_true rfl) (fun p e s m args below meth c A2 A hC => k_Reader_fieldOf hC t query x1 x2 res h)
def Reader_starFits_44 (F : Nat) (t : StI) (query : StI) (x2 : Int32) (x3 : Int32) (x4 : Int32) (x5 : Int32) (y0 : Int32) : Option (Int32) := if y0 = 0 then some (0 : Int32) else if x2 = 0 then if (x4 - x3) ≤ (1 : Int32) then some (0 : Int32) else (Query_find F query (42 : Int32) (x5 + (1 : Int32)) x4).bind fun r14 => if r14 = (-1 : Int32) then some (1 : Int32) else some (0 : Int32) else some (0 : Int32)
def Reader_starFits_39 (F : Nat) (t : StI) (query : StI) (x2 : Int32) (x3 : Int32) (x4 : Int32) (x5 : Int32) : Option (Int32) := Reader_starFits_44 F t query x2 x3 x4 x5 (1 : Int32)
def Reader_starFits (F : Nat) (t : StI) (query : StI) (x1 : Int32) (x2 : Int32) (x3 : Int32) (x4 : Int32) : Option (Int32) := (Query_find F query (42 : Int32) x3 x4).bind fun r16 => if r16 = (-1 : Int32) then some (1 : Int32) else if x1 ≤ (4 : Int32) then Reader_starFits_39 F t query x2 x3 x4 r16 else if x1 = (7 : Int32) then Reader_starFits_39 F t query x2 x3 x4 r16 else if x1 = (9 : Int32) then Reader_starFits_39 F t query x2 x3 x4 r16 else Reader_starFits_44 F t query x2 x3 x4 r16 (0 : Int32)
set_option maxHeartbeats 4000000 in
set_option maxRecDepth 100000 in
theorem k_Reader_starFits_44 {p : Program} {l : Launch} {e : Env} {s : State} {m : MethodId} {args : Array Value} {below : List Frame} {meth : Method} {c : Code} {g : Gz} {A2 A : Nat → Prop} {F : Nat} {a_t a_query : Nat → Nat} {r_span : Nat} (hC : Cx prog_6_method_19_code 7 (some .boolean) R_Reader p s m args meth c g A2 A) : ∀ (t : StI) (query : StI) (x2 : Int32) (x3 : Int32) (x4 : Int32) (x5 : Int32) (y0 : Int32) (res : Int32), Reader_starFits_44 F t query x2 x3 x4 x5 y0 = some res → Go p l e rm_Reader_starFits s m args below meth c g A2 A 7 (MQ below (RI res A) args s 0 0 A) ((pic_Reader g a_t (a_query 0) r_span t) ++ (pic_Query g a_query query)) [(0, .ref (a_t 0)), (2, .int x2), (3, .int x3), (4, .int x4), (5, .int x5)] 44 [.int y0] := by
  obtain ⟨hx, hb, hr, hml, hown, htb, hlocks, hA, hAA, hG⟩ := id hC
  have hK := hG.1
  intro t query x2 x3 x4 x5 y0 res h H locs ls hP hD hS hl
  rw [Reader_starFits_44] at h
  refine lv_istore (lv' := [(6, .int y0), (0, .ref (a_t 0)), (2, .int x2), (3, .int x3), (4, .int x4), (5, .int x5)]) hx hb d_Reader_starFits_44 hl (by decide) rfl (fun ls hl => ?_)
  refine lv_iload hx hb d_Reader_starFits_46 (lv_at hl 0 rfl) ?_
  refine lv_if_eq (tgt := 86) hx hb d_Reader_starFits_48 (by decide) (fun c11 => ?_) (fun c11 => ?_)
  · replace h := (if_pos c11).symm.trans h
    refine lv_iconst (v := 0) hx hb d_Reader_starFits_86 (by decide) ?_
    cases h
    exact W.zret hx hb hr rfl (fun t ht hW => ⟨⟨_, (), rfl, rfl, trivial⟩, hS.F ht⟩) hS.2.2 d_Reader_starFits_87
  · replace h := (if_neg c11).symm.trans h
    refine lv_iload_n hx hb d_Reader_starFits_51 rfl (lv_at hl 2 rfl) ?_
    refine lv_if_ne (tgt := 86) hx hb d_Reader_starFits_52 (by decide) (fun c12 => ?_) (fun c12 => ?_)
    · replace h := (if_neg c12).symm.trans h
      refine lv_iconst (v := 0) hx hb d_Reader_starFits_86 (by decide) ?_
      cases h
      exact W.zret hx hb hr rfl (fun t ht hW => ⟨⟨_, (), rfl, rfl, trivial⟩, hS.F ht⟩) hS.2.2 d_Reader_starFits_87
    · replace h := (if_pos c12).symm.trans h
      refine lv_iload hx hb d_Reader_starFits_55 (lv_at hl 4 rfl) ?_
      refine lv_iload_n hx hb d_Reader_starFits_57 rfl (lv_at hl 3 rfl) ?_
      refine lv_isub hx hb d_Reader_starFits_58 ?_
      refine lv_iconst (v := 1) hx hb d_Reader_starFits_59 (by decide) ?_
      refine lv_icmp_le (tgt := 86) hx hb d_Reader_starFits_60 (by decide) (fun c13 => ?_) (fun c13 => ?_)
      · replace h := (if_pos c13).symm.trans h
        refine lv_iconst (v := 0) hx hb d_Reader_starFits_86 (by decide) ?_
        cases h
        exact W.zret hx hb hr rfl (fun t ht hW => ⟨⟨_, (), rfl, rfl, trivial⟩, hS.F ht⟩) hS.2.2 d_Reader_starFits_87
      · replace h := (if_neg c13).symm.trans h
        refine lv_aload_n hx hb d_Reader_starFits_63 rfl (lv_at hl 1 rfl) ?_
        refine va_get (D := gD g) (ci := 3) (v := .ref (a_query 0)) (C := R_Reader) (T := T_Reader) (N := 9) hx hb htb in_Reader hown hK hP 0 rfl rfl 0 (by decide) (htb _ L_Reader_12) (fun _ h9 => h9) rfl d_Reader_starFits_64 ?_
        refine lv_bipush (v := 42) hx hb d_Reader_starFits_67 (by decide) ?_
        refine lv_iload hx hb d_Reader_starFits_69 (lv_at hl 5 rfl) ?_
        refine lv_iconst (v := 1) hx hb d_Reader_starFits_71 (by decide) ?_
        refine lv_iadd hx hb d_Reader_starFits_72 ?_
        refine lv_iload hx hb d_Reader_starFits_73 (lv_at hl 4 rfl) ?_
        obtain ⟨r14, hr14, h⟩ := Option.bind_eq_some_iff.mp h
        refine cl_Ir hP hS hA (va_runV (As := [.int (42 : Int32), .int (x5 + (1 : Int32)), .int x4]) (rest := []) ⟨hx, hb, hml, hown, htb⟩ (c_Query_find l g F a_query query (42 : Int32) (x5 + (1 : Int32)) x4 _ hr14 H.size) (cw_V htb mb_Query_find (htb _ L_Reader_116) rfl rfl ⟨Nat.le_of_ble_eq_true rfl, Nat.le_of_ble_eq_true rfl⟩) (pre_V (va_recv hK hP (ci := 1) (q0 := 4) rfl rfl) (pre_S [4, 5, 6, 7, 8, 9, 10, 11, 12, 13, 14] rfl rfl hP hD hS hA hAA hG)) rfl rfl hl.1 rfl (lv_room (Nat.le_of_ble_eq_true rfl)) d_Reader_starFits_75 ⟨Nat.zero_le _, Nat.zero_le _⟩) (fun H locs hP hS => ?_)
        refine lv_iconst (v := -1) hx hb d_Reader_starFits_78 (by decide) ?_
        refine lv_icmp_ne (tgt := 86) hx hb d_Reader_starFits_79 (by decide) (fun c15 => ?_) (fun c15 => ?_)
        · replace h := (if_neg c15).symm.trans h
          refine lv_iconst (v := 0) hx hb d_Reader_starFits_86 (by decide) ?_
          cases h
          exact W.zret hx hb hr rfl (fun t ht hW => ⟨⟨_, (), rfl, rfl, trivial⟩, hS.F ht⟩) hS.2.2 d_Reader_starFits_87
        · replace h := (if_pos c15).symm.trans h
          refine lv_iconst (v := 1) hx hb d_Reader_starFits_82 (by decide) ?_
          refine lv_goto (tgt := 87) hx hb d_Reader_starFits_83 (by decide) ?_
          cases h
          exact W.zret hx hb hr rfl (fun t ht hW => ⟨⟨_, (), rfl, rfl, trivial⟩, hS.F ht⟩) hS.2.2 d_Reader_starFits_87
set_option maxHeartbeats 4000000 in
set_option maxRecDepth 100000 in
theorem k_Reader_starFits_39 {p : Program} {l : Launch} {e : Env} {s : State} {m : MethodId} {args : Array Value} {below : List Frame} {meth : Method} {c : Code} {g : Gz} {A2 A : Nat → Prop} {F : Nat} {a_t a_query : Nat → Nat} {r_span : Nat} (hC : Cx prog_6_method_19_code 7 (some .boolean) R_Reader p s m args meth c g A2 A) : ∀ (t : StI) (query : StI) (x2 : Int32) (x3 : Int32) (x4 : Int32) (x5 : Int32) (res : Int32), Reader_starFits_39 F t query x2 x3 x4 x5 = some res → Go p l e rm_Reader_starFits s m args below meth c g A2 A 7 (MQ below (RI res A) args s 0 0 A) ((pic_Reader g a_t (a_query 0) r_span t) ++ (pic_Query g a_query query)) [(0, .ref (a_t 0)), (2, .int x2), (3, .int x3), (4, .int x4), (5, .int x5)] 39 [] := by
  obtain ⟨hx, hb, hr, hml, hown, htb, hlocks, hA, hAA, hG⟩ := id hC
  have hK := hG.1
  intro t query x2 x3 x4 x5 res h H locs ls hP hD hS hl
  rw [Reader_starFits_39] at h
  refine lv_iconst (v := 1) hx hb d_Reader_starFits_39 (by decide) ?_
  refine lv_goto (tgt := 44) hx hb d_Reader_starFits_40 (by decide) ?_
  exact k_Reader_starFits_44 hC _ _ _ _ _ _ _ _ h _ _ _ hP hD hS (lv_sub hl [0, 1, 2, 3, 4] rfl)
set_option maxHeartbeats 4000000 in
set_option maxRecDepth 100000 in
theorem k_Reader_starFits {p : Program} {l : Launch} {e : Env} {s : State} {m : MethodId} {args : Array Value} {below : List Frame} {meth : Method} {c : Code} {g : Gz} {A2 A : Nat → Prop} {F : Nat} {a_t a_query : Nat → Nat} {r_span : Nat} (hC : Cx prog_6_method_19_code 7 (some .boolean) R_Reader p s m args meth c g A2 A) : ∀ (t : StI) (query : StI) (x1 : Int32) (x2 : Int32) (x3 : Int32) (x4 : Int32) (res : Int32), Reader_starFits F t query x1 x2 x3 x4 = some res → Go p l e rm_Reader_starFits s m args below meth c g A2 A 7 (MQ below (RI res A) args s 0 0 A) ((pic_Reader g a_t (a_query 0) r_span t) ++ (pic_Query g a_query query)) [(0, .ref (a_t 0)), (1, .int x1), (2, .int x2), (3, .int x3), (4, .int x4)] 0 [] := by
  obtain ⟨hx, hb, hr, hml, hown, htb, hlocks, hA, hAA, hG⟩ := id hC
  have hK := hG.1
  intro t query x1 x2 x3 x4 res h H locs ls hP hD hS hl
  rw [Reader_starFits] at h
  refine lv_aload_n hx hb d_Reader_starFits_0 rfl (lv_at hl 0 rfl) ?_
  refine va_get (D := gD g) (ci := 3) (v := .ref (a_query 0)) (C := R_Reader) (T := T_Reader) (N := 9) hx hb htb in_Reader hown hK hP 0 rfl rfl 0 (by decide) (htb _ L_Reader_12) (fun _ h9 => h9) rfl d_Reader_starFits_1 ?_
  refine lv_bipush (v := 42) hx hb d_Reader_starFits_4 (by decide) ?_
  refine lv_iload_n hx hb d_Reader_starFits_6 rfl (lv_at hl 3 rfl) ?_
  refine lv_iload hx hb d_Reader_starFits_7 (lv_at hl 4 rfl) ?_
  obtain ⟨r16, hr16, h⟩ := Option.bind_eq_some_iff.mp h
  refine cl_Ir hP hS hA (va_runV (As := [.int (42 : Int32), .int x3, .int x4]) (rest := []) ⟨hx, hb, hml, hown, htb⟩ (c_Query_find l g F a_query query (42 : Int32) x3 x4 _ hr16 H.size) (cw_V htb mb_Query_find (htb _ L_Reader_116) rfl rfl ⟨Nat.le_of_ble_eq_true rfl, Nat.le_of_ble_eq_true rfl⟩) (pre_V (va_recv hK hP (ci := 1) (q0 := 4) rfl rfl) (pre_S [4, 5, 6, 7, 8, 9, 10, 11, 12, 13, 14] rfl rfl hP hD hS hA hAA hG)) rfl rfl hl.1 rfl (lv_room (Nat.le_of_ble_eq_true rfl)) d_Reader_starFits_9 ⟨Nat.zero_le _, Nat.zero_le _⟩) (fun H locs hP hS => ?_)
  refine lv_istore (lv' := [(5, .int r16), (0, .ref (a_t 0)), (1, .int x1), (2, .int x2), (3, .int x3), (4, .int x4)]) hx hb d_Reader_starFits_12 hl (by decide) rfl (fun ls hl => ?_)
  refine lv_iload hx hb d_Reader_starFits_14 (lv_at hl 0 rfl) ?_
  refine lv_iconst (v := -1) hx hb d_Reader_starFits_16 (by decide) ?_
  refine lv_icmp_ne (tgt := 22) hx hb d_Reader_starFits_17 (by decide) (fun c17 => ?_) (fun c17 => ?_)
  · replace h := (if_neg c17).symm.trans h
    refine lv_iload_n hx hb d_Reader_starFits_22 rfl (lv_at hl 2 rfl) ?_
    refine lv_iconst (v := 4) hx hb d_Reader_starFits_23 (by decide) ?_
    refine lv_icmp_le (tgt := 39) hx hb d_Reader_starFits_24 (by decide) (fun c18 => ?_) (fun c18 => ?_)
    · replace h := (if_pos c18).symm.trans h
      exact k_Reader_starFits_39 hC _ _ _ _ _ _ _ h _ _ _ hP hD hS (lv_sub hl [1, 3, 4, 5, 0] rfl)
    · replace h := (if_neg c18).symm.trans h
      refine lv_iload_n hx hb d_Reader_starFits_27 rfl (lv_at hl 2 rfl) ?_
      refine lv_bipush (v := 7) hx hb d_Reader_starFits_28 (by decide) ?_
      refine lv_icmp_eq (tgt := 39) hx hb d_Reader_starFits_30 (by decide) (fun c19 => ?_) (fun c19 => ?_)
      · replace h := (if_pos c19).symm.trans h
        exact k_Reader_starFits_39 hC _ _ _ _ _ _ _ h _ _ _ hP hD hS (lv_sub hl [1, 3, 4, 5, 0] rfl)
      · replace h := (if_neg c19).symm.trans h
        refine lv_iload_n hx hb d_Reader_starFits_33 rfl (lv_at hl 2 rfl) ?_
        refine lv_bipush (v := 9) hx hb d_Reader_starFits_34 (by decide) ?_
        refine lv_icmp_ne (tgt := 43) hx hb d_Reader_starFits_36 (by decide) (fun c20 => ?_) (fun c20 => ?_)
        · replace h := (if_neg c20).symm.trans h
          refine lv_iconst (v := 0) hx hb d_Reader_starFits_43 (by decide) ?_
          exact k_Reader_starFits_44 hC _ _ _ _ _ _ _ _ h _ _ _ hP hD hS (lv_sub hl [1, 3, 4, 5, 0] rfl)
        · replace h := (if_pos c20).symm.trans h
          exact k_Reader_starFits_39 hC _ _ _ _ _ _ _ h _ _ _ hP hD hS (lv_sub hl [1, 3, 4, 5, 0] rfl)
  · replace h := (if_pos c17).symm.trans h
    refine lv_iconst (v := 1) hx hb d_Reader_starFits_20 (by decide) ?_
    cases h
    exact W.zret hx hb hr rfl (fun t ht hW => ⟨⟨_, (), rfl, rfl, trivial⟩, hS.F ht⟩) hS.2.2 d_Reader_starFits_21
theorem c_Reader_starFits (l : Launch) (g : Gz) (F : Nat) (a_t : Nat → Nat) (a_query : Nat → Nat) (r_span : Nat) (t : StI) (query : StI) (x1 : Int32) (x2 : Int32) (x3 : Int32) (x4 : Int32) (res : Int32) (h : Reader_starFits F t query x1 x2 x3 x4 = some res) : ∀ sz : Nat, Met l y_Reader_starFits (.code y_Reader_starFits prog_6_method_19_code 7 (some .boolean) :: TBL) rm_Reader_starFits (va_Pc [.ref (a_t 0), .int x1, .int x2, .int x3, .int x4] (Pre0 g ((pic_Reader g a_t (a_query 0) r_span t) ++ (pic_Query g a_query query)) sz)) (RI res (fun q => sz ≤ q)) 0 0 (fun q => sz ≤ q) :=
  ct_r (Qc := fun A => RI res A) (by decide) (Nat.le_of_ble_eq_true rfl) (fun p e s m args below meth c A2 A hC => k_Reader_starFits hC t query x1 x2 x3 x4 res h)
def Reader_isState (F : Nat) (t : StI) (query : StI) (x1 : Int32) (x2 : Int32) : Option (Int32) := (Query_says F query x1 x2 17).bind fun r9 => if r9 = 0 then (Query_says F query x1 x2 18).bind fun r11 => if r11 = 0 then (Query_says F query x1 x2 19).bind fun r13 => if r13 = 0 then (Query_says F query x1 x2 20).bind fun r15 => if r15 = 0 then some (0 : Int32) else some (1 : Int32) else some (1 : Int32) else some (1 : Int32) else some (1 : Int32)
set_option maxHeartbeats 4000000 in
set_option maxRecDepth 100000 in
theorem k_Reader_isState {p : Program} {l : Launch} {e : Env} {s : State} {m : MethodId} {args : Array Value} {below : List Frame} {meth : Method} {c : Code} {g : Gz} {A2 A : Nat → Prop} {F : Nat} {a_t a_query : Nat → Nat} {r_span : Nat} (hC : Cx prog_6_method_18_code 3 (some .boolean) R_Reader p s m args meth c g A2 A) : ∀ (t : StI) (query : StI) (x1 : Int32) (x2 : Int32) (res : Int32), Reader_isState F t query x1 x2 = some res → Go p l e rm_Reader_isState s m args below meth c g A2 A 3 (MQ below (RI res A) args s 0 0 A) ((pic_Reader g a_t (a_query 0) r_span t) ++ (pic_Query g a_query query)) [(0, .ref (a_t 0)), (1, .int x1), (2, .int x2)] 0 [] := by
  obtain ⟨hx, hb, hr, hml, hown, htb, hlocks, hA, hAA, hG⟩ := id hC
  have hK := hG.1
  intro t query x1 x2 res h H locs ls hP hD hS hl
  rw [Reader_isState] at h
  refine lv_aload_n hx hb d_Reader_isState_0 rfl (lv_at hl 0 rfl) ?_
  refine va_get (D := gD g) (ci := 3) (v := .ref (a_query 0)) (C := R_Reader) (T := T_Reader) (N := 9) hx hb htb in_Reader hown hK hP 0 rfl rfl 0 (by decide) (htb _ L_Reader_12) (fun _ h9 => h9) rfl d_Reader_isState_1 ?_
  refine lv_iload_n hx hb d_Reader_isState_4 rfl (lv_at hl 1 rfl) ?_
  refine lv_iload_n hx hb d_Reader_isState_5 rfl (lv_at hl 2 rfl) ?_
  refine ldc_s hx hb hG M_str_Reader_164 hown d_Reader_isState_6 ?_
  obtain ⟨r9, hr9, h⟩ := Option.bind_eq_some_iff.mp h
  refine cl_Ir hP hS hA (va_runV (As := [.int x1, .int x2, .ref (g.2.2.2.1 17)]) (rest := []) ⟨hx, hb, hml, hown, htb⟩ (c_Query_says l g F a_query query x1 x2 17 _ hr9 H.size) (cw_V htb mb_Query_says (htb _ L_Reader_166) rfl rfl ⟨Nat.le_of_ble_eq_true rfl, Nat.le_of_ble_eq_true rfl⟩) (pre_V (va_recv hK hP (ci := 1) (q0 := 4) rfl rfl) (pre_S [4, 5, 6, 7, 8, 9, 10, 11, 12, 13, 14] rfl rfl hP hD hS hA hAA hG)) rfl rfl hl.1 rfl (lv_room (Nat.le_of_ble_eq_true rfl)) d_Reader_isState_8 ⟨Nat.zero_le _, Nat.zero_le _⟩) (fun H locs hP hS => ?_)
  refine lv_if_ne (tgt := 56) hx hb d_Reader_isState_11 (by decide) (fun c10 => ?_) (fun c10 => ?_)
  · replace h := (if_neg c10).symm.trans h
    refine lv_iconst (v := 1) hx hb d_Reader_isState_56 (by decide) ?_
    refine lv_goto (tgt := 61) hx hb d_Reader_isState_57 (by decide) ?_
    cases h
    exact W.zret hx hb hr rfl (fun t ht hW => ⟨⟨_, (), rfl, rfl, trivial⟩, hS.F ht⟩) hS.2.2 d_Reader_isState_61
  · replace h := (if_pos c10).symm.trans h
    refine lv_aload_n hx hb d_Reader_isState_14 rfl (lv_at hl 0 rfl) ?_
    refine va_get (D := gD g) (ci := 3) (v := .ref (a_query 0)) (C := R_Reader) (T := T_Reader) (N := 9) hx hb htb in_Reader hown hK hP 0 rfl rfl 0 (by decide) (htb _ L_Reader_12) (fun _ h9 => h9) rfl d_Reader_isState_15 ?_
    refine lv_iload_n hx hb d_Reader_isState_18 rfl (lv_at hl 1 rfl) ?_
    refine lv_iload_n hx hb d_Reader_isState_19 rfl (lv_at hl 2 rfl) ?_
    refine ldc_s hx hb hG M_str_Reader_170 hown d_Reader_isState_20 ?_
    obtain ⟨r11, hr11, h⟩ := Option.bind_eq_some_iff.mp h
    refine cl_Ir hP hS hA (va_runV (As := [.int x1, .int x2, .ref (g.2.2.2.1 18)]) (rest := []) ⟨hx, hb, hml, hown, htb⟩ (c_Query_says l g F a_query query x1 x2 18 _ hr11 H.size) (cw_V htb mb_Query_says (htb _ L_Reader_166) rfl rfl ⟨Nat.le_of_ble_eq_true rfl, Nat.le_of_ble_eq_true rfl⟩) (pre_V (va_recv hK hP (ci := 1) (q0 := 4) rfl rfl) (pre_S [4, 5, 6, 7, 8, 9, 10, 11, 12, 13, 14] rfl rfl hP hD hS hA hAA hG)) rfl rfl hl.1 rfl (lv_room (Nat.le_of_ble_eq_true rfl)) d_Reader_isState_22 ⟨Nat.zero_le _, Nat.zero_le _⟩) (fun H locs hP hS => ?_)
    refine lv_if_ne (tgt := 56) hx hb d_Reader_isState_25 (by decide) (fun c12 => ?_) (fun c12 => ?_)
    · replace h := (if_neg c12).symm.trans h
      refine lv_iconst (v := 1) hx hb d_Reader_isState_56 (by decide) ?_
      refine lv_goto (tgt := 61) hx hb d_Reader_isState_57 (by decide) ?_
      cases h
      exact W.zret hx hb hr rfl (fun t ht hW => ⟨⟨_, (), rfl, rfl, trivial⟩, hS.F ht⟩) hS.2.2 d_Reader_isState_61
    · replace h := (if_pos c12).symm.trans h
      refine lv_aload_n hx hb d_Reader_isState_28 rfl (lv_at hl 0 rfl) ?_
      refine va_get (D := gD g) (ci := 3) (v := .ref (a_query 0)) (C := R_Reader) (T := T_Reader) (N := 9) hx hb htb in_Reader hown hK hP 0 rfl rfl 0 (by decide) (htb _ L_Reader_12) (fun _ h9 => h9) rfl d_Reader_isState_29 ?_
      refine lv_iload_n hx hb d_Reader_isState_32 rfl (lv_at hl 1 rfl) ?_
      refine lv_iload_n hx hb d_Reader_isState_33 rfl (lv_at hl 2 rfl) ?_
      refine ldc_s hx hb hG M_str_Reader_172 hown d_Reader_isState_34 ?_
      obtain ⟨r13, hr13, h⟩ := Option.bind_eq_some_iff.mp h
      refine cl_Ir hP hS hA (va_runV (As := [.int x1, .int x2, .ref (g.2.2.2.1 19)]) (rest := []) ⟨hx, hb, hml, hown, htb⟩ (c_Query_says l g F a_query query x1 x2 19 _ hr13 H.size) (cw_V htb mb_Query_says (htb _ L_Reader_166) rfl rfl ⟨Nat.le_of_ble_eq_true rfl, Nat.le_of_ble_eq_true rfl⟩) (pre_V (va_recv hK hP (ci := 1) (q0 := 4) rfl rfl) (pre_S [4, 5, 6, 7, 8, 9, 10, 11, 12, 13, 14] rfl rfl hP hD hS hA hAA hG)) rfl rfl hl.1 rfl (lv_room (Nat.le_of_ble_eq_true rfl)) d_Reader_isState_36 ⟨Nat.zero_le _, Nat.zero_le _⟩) (fun H locs hP hS => ?_)
      refine lv_if_ne (tgt := 56) hx hb d_Reader_isState_39 (by decide) (fun c14 => ?_) (fun c14 => ?_)
      · replace h := (if_neg c14).symm.trans h
        refine lv_iconst (v := 1) hx hb d_Reader_isState_56 (by decide) ?_
        refine lv_goto (tgt := 61) hx hb d_Reader_isState_57 (by decide) ?_
        cases h
        exact W.zret hx hb hr rfl (fun t ht hW => ⟨⟨_, (), rfl, rfl, trivial⟩, hS.F ht⟩) hS.2.2 d_Reader_isState_61
      · replace h := (if_pos c14).symm.trans h
        refine lv_aload_n hx hb d_Reader_isState_42 rfl (lv_at hl 0 rfl) ?_
        refine va_get (D := gD g) (ci := 3) (v := .ref (a_query 0)) (C := R_Reader) (T := T_Reader) (N := 9) hx hb htb in_Reader hown hK hP 0 rfl rfl 0 (by decide) (htb _ L_Reader_12) (fun _ h9 => h9) rfl d_Reader_isState_43 ?_
        refine lv_iload_n hx hb d_Reader_isState_46 rfl (lv_at hl 1 rfl) ?_
        refine lv_iload_n hx hb d_Reader_isState_47 rfl (lv_at hl 2 rfl) ?_
        refine ldc_s hx hb hG M_str_Reader_174 hown d_Reader_isState_48 ?_
        obtain ⟨r15, hr15, h⟩ := Option.bind_eq_some_iff.mp h
        refine cl_Ir hP hS hA (va_runV (As := [.int x1, .int x2, .ref (g.2.2.2.1 20)]) (rest := []) ⟨hx, hb, hml, hown, htb⟩ (c_Query_says l g F a_query query x1 x2 20 _ hr15 H.size) (cw_V htb mb_Query_says (htb _ L_Reader_166) rfl rfl ⟨Nat.le_of_ble_eq_true rfl, Nat.le_of_ble_eq_true rfl⟩) (pre_V (va_recv hK hP (ci := 1) (q0 := 4) rfl rfl) (pre_S [4, 5, 6, 7, 8, 9, 10, 11, 12, 13, 14] rfl rfl hP hD hS hA hAA hG)) rfl rfl hl.1 rfl (lv_room (Nat.le_of_ble_eq_true rfl)) d_Reader_isState_50 ⟨Nat.zero_le _, Nat.zero_le _⟩) (fun H locs hP hS => ?_)
        refine lv_if_eq (tgt := 60) hx hb d_Reader_isState_53 (by decide) (fun c16 => ?_) (fun c16 => ?_)
        · replace h := (if_pos c16).symm.trans h
          refine lv_iconst (v := 0) hx hb d_Reader_isState_60 (by decide) ?_
          cases h
          exact W.zret hx hb hr rfl (fun t ht hW => ⟨⟨_, (), rfl, rfl, trivial⟩, hS.F ht⟩) hS.2.2 d_Reader_isState_61
        · replace h := (if_neg c16).symm.trans h
          refine lv_iconst (v := 1) hx hb d_Reader_isState_56 (by decide) ?_
          refine lv_goto (tgt := 61) hx hb d_Reader_isState_57 (by decide) ?_
          cases h
          exact W.zret hx hb hr rfl (fun t ht hW => ⟨⟨_, (), rfl, rfl, trivial⟩, hS.F ht⟩) hS.2.2 d_Reader_isState_61
theorem c_Reader_isState (l : Launch) (g : Gz) (F : Nat) (a_t : Nat → Nat) (a_query : Nat → Nat) (r_span : Nat) (t : StI) (query : StI) (x1 : Int32) (x2 : Int32) (res : Int32) (h : Reader_isState F t query x1 x2 = some res) : ∀ sz : Nat, Met l y_Reader_isState (.code y_Reader_isState prog_6_method_18_code 3 (some .boolean) :: TBL) rm_Reader_isState (va_Pc [.ref (a_t 0), .int x1, .int x2] (Pre0 g ((pic_Reader g a_t (a_query 0) r_span t) ++ (pic_Query g a_query query)) sz)) (RI res (fun q => sz ≤ q)) 0 0 (fun q => sz ≤ q) :=
  ct_r (Qc := fun A => RI res A) (by decide) (Nat.le_of_ble_eq_true rfl) (fun p e s m args below meth c A2 A hC => k_Reader_isState hC t query x1 x2 res h)
def Reader_isTag_42 (F : Nat) (k2 : StI → StI → Int32 → Int32 → Int32 → Option (Int32)) (t : StI) (query : StI) (x1 : Int32) (x2 : Int32) (x3 : Int32) : Option (Int32) := k2 t query x1 x2 (x3 + (1 : Int32))
def Reader_isTag_2 (F : Nat) : Nat → StI → StI → Int32 → Int32 → Int32 → Option (Int32)
  | 0, _, _, _, _, _ => none
  | n + 1, t, query, x1, x2, x3 => if x2 ≤ x3 then if (16 : Int32) < (x2 - x1) then some (0 : Int32) else some (1 : Int32) else (Query_byteAt F query x3).bind fun r11 => (MQ_isSmallLetter F r11).bind fun r12 => if r12 = 0 then (MQ_isDigit F r11).bind fun r14 => if r14 = 0 then if r11 = (45 : Int32) then Reader_isTag_42 F (Reader_isTag_2 F n) t query x1 x2 x3 else some (0 : Int32) else Reader_isTag_42 F (Reader_isTag_2 F n) t query x1 x2 x3 else Reader_isTag_42 F (Reader_isTag_2 F n) t query x1 x2 x3
def Reader_isTag (F : Nat) (t : StI) (query : StI) (x1 : Int32) (x2 : Int32) : Option (Int32) := Reader_isTag_2 F F t query x1 x2 x1
set_option maxHeartbeats 4000000 in
set_option maxRecDepth 100000 in
theorem k_Reader_isTag_42 {p : Program} {l : Launch} {e : Env} {s : State} {m : MethodId} {args : Array Value} {below : List Frame} {meth : Method} {c : Code} {g : Gz} {A2 A : Nat → Prop} {F : Nat} {a_t a_query : Nat → Nat} {r_span : Nat} {k2 : StI → StI → Int32 → Int32 → Int32 → Option (Int32)} (hC : Cx prog_6_method_17_code 5 (some .boolean) R_Reader p s m args meth c g A2 A) : ∀ (t : StI) (query : StI) (x1 : Int32) (x2 : Int32) (x3 : Int32) (res : Int32), Reader_isTag_42 F k2 t query x1 x2 x3 = some res → (∀ (t : StI) (query : StI) (x1 : Int32) (x2 : Int32) (x3 : Int32), k2 t query x1 x2 x3 = some res → Go p l e rm_Reader_isTag s m args below meth c g A2 A 5 (MQ below (RI res A) args s 0 0 A) ((pic_Reader g a_t (a_query 0) r_span t) ++ (pic_Query g a_query query)) [(0, .ref (a_t 0)), (1, .int x1), (2, .int x2), (3, .int x3)] 2 []) → Go p l e rm_Reader_isTag s m args below meth c g A2 A 5 (MQ below (RI res A) args s 0 0 A) ((pic_Reader g a_t (a_query 0) r_span t) ++ (pic_Query g a_query query)) [(0, .ref (a_t 0)), (1, .int x1), (2, .int x2), (3, .int x3)] 42 [] := by
  obtain ⟨hx, hb, hr, hml, hown, htb, hlocks, hA, hAA, hG⟩ := id hC
  have hK := hG.1
  intro t query x1 x2 x3 res h hk2 H locs ls hP hD hS hl
  rw [Reader_isTag_42] at h
  refine lv_iinc (v := (x3 + (1 : Int32))) (lv' := [(3, .int (x3 + (1 : Int32))), (0, .ref (a_t 0)), (1, .int x1), (2, .int x2)]) hx hb d_Reader_isTag_42 hl (k := 3) rfl rfl (by decide) rfl (fun ls hl => ?_)
  refine lv_goto (tgt := 2) hx hb d_Reader_isTag_45 (by decide) ?_
  exact hk2 _ _ _ _ _ h _ _ _ hP hD hS (lv_sub hl [1, 2, 3, 0] rfl)
set_option maxHeartbeats 4000000 in
set_option maxRecDepth 100000 in
theorem k_Reader_isTag_2 {p : Program} {l : Launch} {e : Env} {s : State} {m : MethodId} {args : Array Value} {below : List Frame} {meth : Method} {c : Code} {g : Gz} {A2 A : Nat → Prop} {F : Nat} {a_t a_query : Nat → Nat} {r_span : Nat} (hC : Cx prog_6_method_17_code 5 (some .boolean) R_Reader p s m args meth c g A2 A) : ∀ (n : Nat) (t : StI) (query : StI) (x1 : Int32) (x2 : Int32) (x3 : Int32) (res : Int32), Reader_isTag_2 F n t query x1 x2 x3 = some res → Go p l e rm_Reader_isTag s m args below meth c g A2 A 5 (MQ below (RI res A) args s 0 0 A) ((pic_Reader g a_t (a_query 0) r_span t) ++ (pic_Query g a_query query)) [(0, .ref (a_t 0)), (1, .int x1), (2, .int x2), (3, .int x3)] 2 [] := by
  obtain ⟨hx, hb, hr, hml, hown, htb, hlocks, hA, hAA, hG⟩ := id hC
  have hK := hG.1
  intro n
  induction n with
  | zero => intro t query x1 x2 x3 res h; rw [Reader_isTag_2] at h; cases h
  | succ n ih =>
    intro t query x1 x2 x3 res h H locs ls hP hD hS hl
    rw [Reader_isTag_2] at h
    refine lv_iload_n hx hb d_Reader_isTag_2 rfl (lv_at hl 3 rfl) ?_
    refine lv_iload_n hx hb d_Reader_isTag_3 rfl (lv_at hl 2 rfl) ?_
    refine lv_icmp_ge (tgt := 48) hx hb d_Reader_isTag_4 (by decide) (fun c9 => ?_) (fun c9 => ?_)
    · replace h := (if_pos c9).symm.trans h
      refine lv_iload_n hx hb d_Reader_isTag_48 rfl (lv_at hl 2 rfl) ?_
      refine lv_iload_n hx hb d_Reader_isTag_49 rfl (lv_at hl 1 rfl) ?_
      refine lv_isub hx hb d_Reader_isTag_50 ?_
      refine lv_bipush (v := 16) hx hb d_Reader_isTag_51 (by decide) ?_
      refine lv_icmp_gt (tgt := 60) hx hb d_Reader_isTag_53 (by decide) (fun c10 => ?_) (fun c10 => ?_)
      · replace h := (if_pos c10).symm.trans h
        refine lv_iconst (v := 0) hx hb d_Reader_isTag_60 (by decide) ?_
        cases h
        exact W.zret hx hb hr rfl (fun t ht hW => ⟨⟨_, (), rfl, rfl, trivial⟩, hS.F ht⟩) hS.2.2 d_Reader_isTag_61
      · replace h := (if_neg c10).symm.trans h
        refine lv_iconst (v := 1) hx hb d_Reader_isTag_56 (by decide) ?_
        refine lv_goto (tgt := 61) hx hb d_Reader_isTag_57 (by decide) ?_
        cases h
        exact W.zret hx hb hr rfl (fun t ht hW => ⟨⟨_, (), rfl, rfl, trivial⟩, hS.F ht⟩) hS.2.2 d_Reader_isTag_61
    · replace h := (if_neg c9).symm.trans h
      refine lv_aload_n hx hb d_Reader_isTag_7 rfl (lv_at hl 0 rfl) ?_
      refine va_get (D := gD g) (ci := 3) (v := .ref (a_query 0)) (C := R_Reader) (T := T_Reader) (N := 9) hx hb htb in_Reader hown hK hP 0 rfl rfl 0 (by decide) (htb _ L_Reader_12) (fun _ h9 => h9) rfl d_Reader_isTag_8 ?_
      refine lv_iload_n hx hb d_Reader_isTag_11 rfl (lv_at hl 3 rfl) ?_
      obtain ⟨r11, hr11, h⟩ := Option.bind_eq_some_iff.mp h
      refine cl_Ir hP hS hA (va_runV (As := [.int x3]) (rest := []) ⟨hx, hb, hml, hown, htb⟩ (c_Query_byteAt l g F a_query query x3 _ hr11 H.size) (cw_V htb mb_Query_byteAt (htb _ L_Reader_70) rfl rfl ⟨Nat.le_of_ble_eq_true rfl, Nat.le_of_ble_eq_true rfl⟩) (pre_V (va_recv hK hP (ci := 1) (q0 := 4) rfl rfl) (pre_S [4, 5, 6, 7, 8, 9, 10, 11, 12, 13, 14] rfl rfl hP hD hS hA hAA hG)) rfl rfl hl.1 rfl (lv_room (Nat.le_of_ble_eq_true rfl)) d_Reader_isTag_12 ⟨Nat.zero_le _, Nat.zero_le _⟩) (fun H locs hP hS => ?_)
      refine lv_istore (lv' := [(4, .int r11), (0, .ref (a_t 0)), (1, .int x1), (2, .int x2), (3, .int x3)]) hx hb d_Reader_isTag_15 hl (by decide) rfl (fun ls hl => ?_)
      refine lv_iload hx hb d_Reader_isTag_17 (lv_at hl 0 rfl) ?_
      obtain ⟨r12, hr12, h⟩ := Option.bind_eq_some_iff.mp h
      refine cl_Ir hP hS hA (va_runSN (As := [.int r11]) (rest := []) ⟨hx, hb, hml, hown, htb⟩ (c_MQ_isSmallLetter l g F r11 _ hr12 H.size) (cn_S htb mb_MQ_isSmallLetter (nm_of hG N_Reader_158) rfl rfl ⟨Nat.le_of_ble_eq_true rfl, Nat.le_of_ble_eq_true rfl⟩) (pre_S [] rfl rfl hP hD hS hA hAA hG) rfl rfl hl.1 rfl (lv_room (Nat.le_of_ble_eq_true rfl)) d_Reader_isTag_19 ⟨Nat.zero_le _, Nat.zero_le _⟩) (fun H locs hP hS => ?_)
      refine lv_if_ne (tgt := 42) hx hb d_Reader_isTag_22 (by decide) (fun c13 => ?_) (fun c13 => ?_)
      · replace h := (if_neg c13).symm.trans h
        exact k_Reader_isTag_42 hC _ _ _ _ _ _ h (fun z0 z1 z2 z3 z4 hz => ih z0 z1 z2 z3 z4 _ hz) _ _ _ hP hD hS (lv_sub hl [1, 2, 3, 4] rfl)
      · replace h := (if_pos c13).symm.trans h
        refine lv_iload hx hb d_Reader_isTag_25 (lv_at hl 0 rfl) ?_
        obtain ⟨r14, hr14, h⟩ := Option.bind_eq_some_iff.mp h
        refine cl_Ir hP hS hA (va_runSN (As := [.int r11]) (rest := []) ⟨hx, hb, hml, hown, htb⟩ (c_MQ_isDigit l g F r11 _ hr14 H.size) (cn_S htb mb_MQ_isDigit (nm_of hG N_Reader_161) rfl rfl ⟨Nat.le_of_ble_eq_true rfl, Nat.le_of_ble_eq_true rfl⟩) (pre_S [] rfl rfl hP hD hS hA hAA hG) rfl rfl hl.1 rfl (lv_room (Nat.le_of_ble_eq_true rfl)) d_Reader_isTag_27 ⟨Nat.zero_le _, Nat.zero_le _⟩) (fun H locs hP hS => ?_)
        refine lv_if_ne (tgt := 42) hx hb d_Reader_isTag_30 (by decide) (fun c15 => ?_) (fun c15 => ?_)
        · replace h := (if_neg c15).symm.trans h
          exact k_Reader_isTag_42 hC _ _ _ _ _ _ h (fun z0 z1 z2 z3 z4 hz => ih z0 z1 z2 z3 z4 _ hz) _ _ _ hP hD hS (lv_sub hl [1, 2, 3, 4] rfl)
        · replace h := (if_pos c15).symm.trans h
          refine lv_iload hx hb d_Reader_isTag_33 (lv_at hl 0 rfl) ?_
          refine lv_bipush (v := 45) hx hb d_Reader_isTag_35 (by decide) ?_
          refine lv_icmp_eq (tgt := 42) hx hb d_Reader_isTag_37 (by decide) (fun c16 => ?_) (fun c16 => ?_)
          · replace h := (if_pos c16).symm.trans h
            exact k_Reader_isTag_42 hC _ _ _ _ _ _ h (fun z0 z1 z2 z3 z4 hz => ih z0 z1 z2 z3 z4 _ hz) _ _ _ hP hD hS (lv_sub hl [1, 2, 3, 4] rfl)
          · replace h := (if_neg c16).symm.trans h
            refine lv_iconst (v := 0) hx hb d_Reader_isTag_40 (by decide) ?_
            cases h
            exact W.zret hx hb hr rfl (fun t ht hW => ⟨⟨_, (), rfl, rfl, trivial⟩, hS.F ht⟩) hS.2.2 d_Reader_isTag_41
set_option maxHeartbeats 4000000 in
set_option maxRecDepth 100000 in
theorem k_Reader_isTag {p : Program} {l : Launch} {e : Env} {s : State} {m : MethodId} {args : Array Value} {below : List Frame} {meth : Method} {c : Code} {g : Gz} {A2 A : Nat → Prop} {F : Nat} {a_t a_query : Nat → Nat} {r_span : Nat} (hC : Cx prog_6_method_17_code 5 (some .boolean) R_Reader p s m args meth c g A2 A) : ∀ (t : StI) (query : StI) (x1 : Int32) (x2 : Int32) (res : Int32), Reader_isTag F t query x1 x2 = some res → Go p l e rm_Reader_isTag s m args below meth c g A2 A 5 (MQ below (RI res A) args s 0 0 A) ((pic_Reader g a_t (a_query 0) r_span t) ++ (pic_Query g a_query query)) [(0, .ref (a_t 0)), (1, .int x1), (2, .int x2)] 0 [] := by
  obtain ⟨hx, hb, hr, hml, hown, htb, hlocks, hA, hAA, hG⟩ := id hC
  have hK := hG.1
  intro t query x1 x2 res h H locs ls hP hD hS hl
  rw [Reader_isTag] at h
  refine lv_iload_n hx hb d_Reader_isTag_0 rfl (lv_at hl 1 rfl) ?_
  refine lv_istore_n (lv' := [(3, .int x1), (0, .ref (a_t 0)), (1, .int x1), (2, .int x2)]) hx hb d_Reader_isTag_1 rfl hl (by decide) rfl (fun ls hl => ?_)
  exact k_Reader_isTag_2 hC F _ _ _ _ _ _ h _ _ _ hP hD hS (lv_sub hl [1, 2, 3, 0] rfl)
theorem c_Reader_isTag (l : Launch) (g : Gz) (F : Nat) (a_t : Nat → Nat) (a_query : Nat → Nat) (r_span : Nat) (t : StI) (query : StI) (x1 : Int32) (x2 : Int32) (res : Int32) (h : Reader_isTag F t query x1 x2 = some res) : ∀ sz : Nat, Met l y_Reader_isTag (.code y_Reader_isTag prog_6_method_17_code 5 (some .boolean) :: TBL) rm_Reader_isTag (va_Pc [.ref (a_t 0), .int x1, .int x2] (Pre0 g ((pic_Reader g a_t (a_query 0) r_span t) ++ (pic_Query g a_query query)) sz)) (RI res (fun q => sz ≤ q)) 0 0 (fun q => sz ≤ q) :=
  ct_r (Qc := fun A => RI res A) (by decide) (Nat.le_of_ble_eq_true rfl) (fun p e s m args below meth c A2 A hC => k_Reader_isTag hC t query x1 x2 res h)
def Reader_fieldHas (F : Nat) (t : StI) (query : StI) (span : StI) (x1 : Int32) (x2 : Int32) (x3 : Int32) (x4 : Int32) : Option (Int32 × StI) := if x1 = (5 : Int32) then if x2 = 0 then (Reader_isTag F t query x3 x4).bind fun r59 => if r59 = 0 then some ((0 : Int32), span) else some ((1 : Int32), span) else some ((0 : Int32), span) else if x1 = (6 : Int32) then (Reader_starFits F t query x1 x2 x3 x4).bind fun r56 => if r56 = 0 ∨ r56 = 1 then some (r56, span) else none else if x1 = (7 : Int32) then (Reader_starFits F t query x1 x2 x3 x4).bind fun r54 => if r54 = 0 ∨ r54 = 1 then some (r54, span) else none else if x1 = (8 : Int32) then (Reader_starFits F t query x1 x2 x3 x4).bind fun r52 => if r52 = 0 ∨ r52 = 1 then some (r52, span) else none else if x1 = (9 : Int32) then (Reader_starFits F t query x1 x2 x3 x4).bind fun r50 => if r50 = 0 ∨ r50 = 1 then some (r50, span) else none else if x1 = (10 : Int32) then if x2 = 0 then (Reader_isState F t query x3 x4).bind fun r48 => if r48 = 0 then some ((0 : Int32), span) else some ((1 : Int32), span) else some ((0 : Int32), span) else if x1 = (11 : Int32) then if x2 = 0 then (Span_fits F span query x3 x4 (1 : Int32)).bind fun r45 => if r45.1 = 0 then some ((0 : Int32), r45.2) else some ((1 : Int32), r45.2) else some ((0 : Int32), span) else if x1 = (12 : Int32) then if x2 = 0 then (Span_fits F span query x3 x4 (0 : Int32)).bind fun r42 => if r42.1 = 0 then some ((0 : Int32), r42.2) else some ((1 : Int32), r42.2) else some ((0 : Int32), span) else (Reader_starFits F t query x1 x2 x3 x4).bind fun r39 => if r39 = 0 ∨ r39 = 1 then some (r39, span) else none
set_option maxHeartbeats 4000000 in
set_option maxRecDepth 100000 in
theorem k_Reader_fieldHas {p : Program} {l : Launch} {e : Env} {s : State} {m : MethodId} {args : Array Value} {below : List Frame} {meth : Method} {c : Code} {g : Gz} {A : Nat → Prop} {F : Nat} {a_t a_query a_span : Nat → Nat} (hC : Cx prog_6_method_16_code 5 (some .boolean) R_Reader p s m args meth c g A A) : ∀ (t : StI) (query : StI) (span : StI) (x1 : Int32) (x2 : Int32) (x3 : Int32) (x4 : Int32) (res : Int32 × StI), Reader_fieldHas F t query span x1 x2 x3 x4 = some res → Go p l e rm_Reader_fieldHas s m args below meth c g A A 5 (MQ below (EI g ((pic_Reader g a_t (a_query 0) (a_span 0) t) ++ (pic_Query g a_query query) ++ (pic_Span g a_span res.2)) res.1 A) args s 0 0 A) ((pic_Reader g a_t (a_query 0) (a_span 0) t) ++ (pic_Query g a_query query) ++ (pic_Span g a_span span)) [(0, .ref (a_t 0)), (1, .int x1), (2, .int x2), (3, .int x3), (4, .int x4)] 0 [] := by
  obtain ⟨hx, hb, hr, hml, hown, htb, hlocks, hA, hAA, hG⟩ := id hC
  have hK := hG.1
  intro t query span x1 x2 x3 x4 res h H locs ls hP hD hS hl
  rw [Reader_fieldHas] at h
  refine lv_iload_n hx hb d_Reader_fieldHas_0 rfl (lv_at hl 1 rfl) ?_
  by_cases c31 : x1 = (5 : Int32)
  · replace h := (if_pos c31).symm.trans h
    refine lv_tableIn (off := 47) (tgt := 48) hx hb d_Reader_fieldHas_1 (by rw [c31]; decide) (by rw [c31]; decide) (by rw [c31]; rfl) (by decide) ?_
    refine lv_iload_n hx hb d_Reader_fieldHas_48 rfl (lv_at hl 2 rfl) ?_
    refine lv_if_ne (tgt := 66) hx hb d_Reader_fieldHas_49 (by decide) (fun c58 => ?_) (fun c58 => ?_)
    · replace h := (if_neg c58).symm.trans h
      refine lv_iconst (v := 0) hx hb d_Reader_fieldHas_66 (by decide) ?_
      cases h
      exact W.zret hx hb hr rfl (fun t ht hW => ⟨⟨_, (), rfl, rfl, by rw [ht]; exact hP, hD⟩, hS.F ht⟩) hS.2.2 d_Reader_fieldHas_67
    · replace h := (if_pos c58).symm.trans h
      refine lv_aload_n hx hb d_Reader_fieldHas_52 rfl (lv_at hl 0 rfl) ?_
      refine lv_iload_n hx hb d_Reader_fieldHas_53 rfl (lv_at hl 3 rfl) ?_
      refine lv_iload hx hb d_Reader_fieldHas_54 (lv_at hl 4 rfl) ?_
      obtain ⟨r59, hr59, h⟩ := Option.bind_eq_some_iff.mp h
      refine cl_Ir hP hS hA (va_runV (As := [.int x3, .int x4]) (rest := []) ⟨hx, hb, hml, hown, htb⟩ (c_Reader_isTag l g F a_t a_query (a_span 0) t query x3 x4 _ hr59 H.size) (cw_V htb mb_Reader_isTag (htb _ L_Reader_144) rfl rfl ⟨Nat.le_of_ble_eq_true rfl, Nat.le_of_ble_eq_true rfl⟩) (pre_V (va_recv hK hP (ci := 3) (q0 := 0) rfl rfl) (pre_S [0, 1, 2, 3, 4, 5, 6, 7, 8, 9, 10, 11, 12, 13, 14] rfl rfl hP hD hS hA hAA hG)) rfl rfl hl.1 rfl (lv_room (Nat.le_of_ble_eq_true rfl)) d_Reader_fieldHas_56 ⟨Nat.zero_le _, Nat.zero_le _⟩) (fun H locs hP hS => ?_)
      refine lv_if_eq (tgt := 66) hx hb d_Reader_fieldHas_59 (by decide) (fun c60 => ?_) (fun c60 => ?_)
      · replace h := (if_pos c60).symm.trans h
        refine lv_iconst (v := 0) hx hb d_Reader_fieldHas_66 (by decide) ?_
        cases h
        exact W.zret hx hb hr rfl (fun t ht hW => ⟨⟨_, (), rfl, rfl, by rw [ht]; exact hP, hD⟩, hS.F ht⟩) hS.2.2 d_Reader_fieldHas_67
      · replace h := (if_neg c60).symm.trans h
        refine lv_iconst (v := 1) hx hb d_Reader_fieldHas_62 (by decide) ?_
        refine lv_goto (tgt := 67) hx hb d_Reader_fieldHas_63 (by decide) ?_
        cases h
        exact W.zret hx hb hr rfl (fun t ht hW => ⟨⟨_, (), rfl, rfl, by rw [ht]; exact hP, hD⟩, hS.F ht⟩) hS.2.2 d_Reader_fieldHas_67
  replace h := (if_neg c31).symm.trans h
  by_cases c32 : x1 = (6 : Int32)
  · replace h := (if_pos c32).symm.trans h
    refine lv_tableIn (off := 143) (tgt := 144) hx hb d_Reader_fieldHas_1 (by rw [c32]; decide) (by rw [c32]; decide) (by rw [c32]; rfl) (by decide) ?_
    refine lv_aload_n hx hb d_Reader_fieldHas_144 rfl (lv_at hl 0 rfl) ?_
    refine lv_iload_n hx hb d_Reader_fieldHas_145 rfl (lv_at hl 1 rfl) ?_
    refine lv_iload_n hx hb d_Reader_fieldHas_146 rfl (lv_at hl 2 rfl) ?_
    refine lv_iload_n hx hb d_Reader_fieldHas_147 rfl (lv_at hl 3 rfl) ?_
    refine lv_iload hx hb d_Reader_fieldHas_148 (lv_at hl 4 rfl) ?_
    obtain ⟨r56, hr56, h⟩ := Option.bind_eq_some_iff.mp h
    refine cl_Ir hP hS hA (va_runV (As := [.int x1, .int x2, .int x3, .int x4]) (rest := []) ⟨hx, hb, hml, hown, htb⟩ (c_Reader_starFits l g F a_t a_query (a_span 0) t query x1 x2 x3 x4 _ hr56 H.size) (cw_V htb mb_Reader_starFits (htb _ L_Reader_155) rfl rfl ⟨Nat.le_of_ble_eq_true rfl, Nat.le_of_ble_eq_true rfl⟩) (pre_V (va_recv hK hP (ci := 3) (q0 := 0) rfl rfl) (pre_S [0, 1, 2, 3, 4, 5, 6, 7, 8, 9, 10, 11, 12, 13, 14] rfl rfl hP hD hS hA hAA hG)) rfl rfl hl.1 rfl (lv_room (Nat.le_of_ble_eq_true rfl)) d_Reader_fieldHas_150 ⟨Nat.zero_le _, Nat.zero_le _⟩) (fun H locs hP hS => ?_)
    by_cases c57 : (r56 = 0 ∨ r56 = 1)
    rotate_left
    · replace h := (if_neg c57).symm.trans h
      cases h
    replace h := (if_pos c57).symm.trans h
    cases h
    exact W.zret hx hb hr (by rcases c57 with c57 | c57 <;> rw [c57] <;> rfl) (fun t ht hW => ⟨⟨_, (), rfl, rfl, by rw [ht]; exact hP, hD⟩, hS.F ht⟩) hS.2.2 d_Reader_fieldHas_153
  replace h := (if_neg c32).symm.trans h
  by_cases c33 : x1 = (7 : Int32)
  · replace h := (if_pos c33).symm.trans h
    refine lv_tableIn (off := 143) (tgt := 144) hx hb d_Reader_fieldHas_1 (by rw [c33]; decide) (by rw [c33]; decide) (by rw [c33]; rfl) (by decide) ?_
    refine lv_aload_n hx hb d_Reader_fieldHas_144 rfl (lv_at hl 0 rfl) ?_
    refine lv_iload_n hx hb d_Reader_fieldHas_145 rfl (lv_at hl 1 rfl) ?_
    refine lv_iload_n hx hb d_Reader_fieldHas_146 rfl (lv_at hl 2 rfl) ?_
    refine lv_iload_n hx hb d_Reader_fieldHas_147 rfl (lv_at hl 3 rfl) ?_
    refine lv_iload hx hb d_Reader_fieldHas_148 (lv_at hl 4 rfl) ?_
    obtain ⟨r54, hr54, h⟩ := Option.bind_eq_some_iff.mp h
    refine cl_Ir hP hS hA (va_runV (As := [.int x1, .int x2, .int x3, .int x4]) (rest := []) ⟨hx, hb, hml, hown, htb⟩ (c_Reader_starFits l g F a_t a_query (a_span 0) t query x1 x2 x3 x4 _ hr54 H.size) (cw_V htb mb_Reader_starFits (htb _ L_Reader_155) rfl rfl ⟨Nat.le_of_ble_eq_true rfl, Nat.le_of_ble_eq_true rfl⟩) (pre_V (va_recv hK hP (ci := 3) (q0 := 0) rfl rfl) (pre_S [0, 1, 2, 3, 4, 5, 6, 7, 8, 9, 10, 11, 12, 13, 14] rfl rfl hP hD hS hA hAA hG)) rfl rfl hl.1 rfl (lv_room (Nat.le_of_ble_eq_true rfl)) d_Reader_fieldHas_150 ⟨Nat.zero_le _, Nat.zero_le _⟩) (fun H locs hP hS => ?_)
    by_cases c55 : (r54 = 0 ∨ r54 = 1)
    rotate_left
    · replace h := (if_neg c55).symm.trans h
      cases h
    replace h := (if_pos c55).symm.trans h
    cases h
    exact W.zret hx hb hr (by rcases c55 with c55 | c55 <;> rw [c55] <;> rfl) (fun t ht hW => ⟨⟨_, (), rfl, rfl, by rw [ht]; exact hP, hD⟩, hS.F ht⟩) hS.2.2 d_Reader_fieldHas_153
  replace h := (if_neg c33).symm.trans h
  by_cases c34 : x1 = (8 : Int32)
  · replace h := (if_pos c34).symm.trans h
    refine lv_tableIn (off := 143) (tgt := 144) hx hb d_Reader_fieldHas_1 (by rw [c34]; decide) (by rw [c34]; decide) (by rw [c34]; rfl) (by decide) ?_
    refine lv_aload_n hx hb d_Reader_fieldHas_144 rfl (lv_at hl 0 rfl) ?_
    refine lv_iload_n hx hb d_Reader_fieldHas_145 rfl (lv_at hl 1 rfl) ?_
    refine lv_iload_n hx hb d_Reader_fieldHas_146 rfl (lv_at hl 2 rfl) ?_
    refine lv_iload_n hx hb d_Reader_fieldHas_147 rfl (lv_at hl 3 rfl) ?_
    refine lv_iload hx hb d_Reader_fieldHas_148 (lv_at hl 4 rfl) ?_
    obtain ⟨r52, hr52, h⟩ := Option.bind_eq_some_iff.mp h
    refine cl_Ir hP hS hA (va_runV (As := [.int x1, .int x2, .int x3, .int x4]) (rest := []) ⟨hx, hb, hml, hown, htb⟩ (c_Reader_starFits l g F a_t a_query (a_span 0) t query x1 x2 x3 x4 _ hr52 H.size) (cw_V htb mb_Reader_starFits (htb _ L_Reader_155) rfl rfl ⟨Nat.le_of_ble_eq_true rfl, Nat.le_of_ble_eq_true rfl⟩) (pre_V (va_recv hK hP (ci := 3) (q0 := 0) rfl rfl) (pre_S [0, 1, 2, 3, 4, 5, 6, 7, 8, 9, 10, 11, 12, 13, 14] rfl rfl hP hD hS hA hAA hG)) rfl rfl hl.1 rfl (lv_room (Nat.le_of_ble_eq_true rfl)) d_Reader_fieldHas_150 ⟨Nat.zero_le _, Nat.zero_le _⟩) (fun H locs hP hS => ?_)
    by_cases c53 : (r52 = 0 ∨ r52 = 1)
    rotate_left
    · replace h := (if_neg c53).symm.trans h
      cases h
    replace h := (if_pos c53).symm.trans h
    cases h
    exact W.zret hx hb hr (by rcases c53 with c53 | c53 <;> rw [c53] <;> rfl) (fun t ht hW => ⟨⟨_, (), rfl, rfl, by rw [ht]; exact hP, hD⟩, hS.F ht⟩) hS.2.2 d_Reader_fieldHas_153
  replace h := (if_neg c34).symm.trans h
  by_cases c35 : x1 = (9 : Int32)
  · replace h := (if_pos c35).symm.trans h
    refine lv_tableIn (off := 143) (tgt := 144) hx hb d_Reader_fieldHas_1 (by rw [c35]; decide) (by rw [c35]; decide) (by rw [c35]; rfl) (by decide) ?_
    refine lv_aload_n hx hb d_Reader_fieldHas_144 rfl (lv_at hl 0 rfl) ?_
    refine lv_iload_n hx hb d_Reader_fieldHas_145 rfl (lv_at hl 1 rfl) ?_
    refine lv_iload_n hx hb d_Reader_fieldHas_146 rfl (lv_at hl 2 rfl) ?_
    refine lv_iload_n hx hb d_Reader_fieldHas_147 rfl (lv_at hl 3 rfl) ?_
    refine lv_iload hx hb d_Reader_fieldHas_148 (lv_at hl 4 rfl) ?_
    obtain ⟨r50, hr50, h⟩ := Option.bind_eq_some_iff.mp h
    refine cl_Ir hP hS hA (va_runV (As := [.int x1, .int x2, .int x3, .int x4]) (rest := []) ⟨hx, hb, hml, hown, htb⟩ (c_Reader_starFits l g F a_t a_query (a_span 0) t query x1 x2 x3 x4 _ hr50 H.size) (cw_V htb mb_Reader_starFits (htb _ L_Reader_155) rfl rfl ⟨Nat.le_of_ble_eq_true rfl, Nat.le_of_ble_eq_true rfl⟩) (pre_V (va_recv hK hP (ci := 3) (q0 := 0) rfl rfl) (pre_S [0, 1, 2, 3, 4, 5, 6, 7, 8, 9, 10, 11, 12, 13, 14] rfl rfl hP hD hS hA hAA hG)) rfl rfl hl.1 rfl (lv_room (Nat.le_of_ble_eq_true rfl)) d_Reader_fieldHas_150 ⟨Nat.zero_le _, Nat.zero_le _⟩) (fun H locs hP hS => ?_)
    by_cases c51 : (r50 = 0 ∨ r50 = 1)
    rotate_left
    · replace h := (if_neg c51).symm.trans h
      cases h
    replace h := (if_pos c51).symm.trans h
    cases h
    exact W.zret hx hb hr (by rcases c51 with c51 | c51 <;> rw [c51] <;> rfl) (fun t ht hW => ⟨⟨_, (), rfl, rfl, by rw [ht]; exact hP, hD⟩, hS.F ht⟩) hS.2.2 d_Reader_fieldHas_153
  replace h := (if_neg c35).symm.trans h
  by_cases c36 : x1 = (10 : Int32)
  · replace h := (if_pos c36).symm.trans h
    refine lv_tableIn (off := 67) (tgt := 68) hx hb d_Reader_fieldHas_1 (by rw [c36]; decide) (by rw [c36]; decide) (by rw [c36]; rfl) (by decide) ?_
    refine lv_iload_n hx hb d_Reader_fieldHas_68 rfl (lv_at hl 2 rfl) ?_
    refine lv_if_ne (tgt := 86) hx hb d_Reader_fieldHas_69 (by decide) (fun c47 => ?_) (fun c47 => ?_)
    · replace h := (if_neg c47).symm.trans h
      refine lv_iconst (v := 0) hx hb d_Reader_fieldHas_86 (by decide) ?_
      cases h
      exact W.zret hx hb hr rfl (fun t ht hW => ⟨⟨_, (), rfl, rfl, by rw [ht]; exact hP, hD⟩, hS.F ht⟩) hS.2.2 d_Reader_fieldHas_87
    · replace h := (if_pos c47).symm.trans h
      refine lv_aload_n hx hb d_Reader_fieldHas_72 rfl (lv_at hl 0 rfl) ?_
      refine lv_iload_n hx hb d_Reader_fieldHas_73 rfl (lv_at hl 3 rfl) ?_
      refine lv_iload hx hb d_Reader_fieldHas_74 (lv_at hl 4 rfl) ?_
      obtain ⟨r48, hr48, h⟩ := Option.bind_eq_some_iff.mp h
      refine cl_Ir hP hS hA (va_runV (As := [.int x3, .int x4]) (rest := []) ⟨hx, hb, hml, hown, htb⟩ (c_Reader_isState l g F a_t a_query (a_span 0) t query x3 x4 _ hr48 H.size) (cw_V htb mb_Reader_isState (htb _ L_Reader_148) rfl rfl ⟨Nat.le_of_ble_eq_true rfl, Nat.le_of_ble_eq_true rfl⟩) (pre_V (va_recv hK hP (ci := 3) (q0 := 0) rfl rfl) (pre_S [0, 1, 2, 3, 4, 5, 6, 7, 8, 9, 10, 11, 12, 13, 14] rfl rfl hP hD hS hA hAA hG)) rfl rfl hl.1 rfl (lv_room (Nat.le_of_ble_eq_true rfl)) d_Reader_fieldHas_76 ⟨Nat.zero_le _, Nat.zero_le _⟩) (fun H locs hP hS => ?_)
      refine lv_if_eq (tgt := 86) hx hb d_Reader_fieldHas_79 (by decide) (fun c49 => ?_) (fun c49 => ?_)
      · replace h := (if_pos c49).symm.trans h
        refine lv_iconst (v := 0) hx hb d_Reader_fieldHas_86 (by decide) ?_
        cases h
        exact W.zret hx hb hr rfl (fun t ht hW => ⟨⟨_, (), rfl, rfl, by rw [ht]; exact hP, hD⟩, hS.F ht⟩) hS.2.2 d_Reader_fieldHas_87
      · replace h := (if_neg c49).symm.trans h
        refine lv_iconst (v := 1) hx hb d_Reader_fieldHas_82 (by decide) ?_
        refine lv_goto (tgt := 87) hx hb d_Reader_fieldHas_83 (by decide) ?_
        cases h
        exact W.zret hx hb hr rfl (fun t ht hW => ⟨⟨_, (), rfl, rfl, by rw [ht]; exact hP, hD⟩, hS.F ht⟩) hS.2.2 d_Reader_fieldHas_87
  replace h := (if_neg c36).symm.trans h
  by_cases c37 : x1 = (11 : Int32)
  · replace h := (if_pos c37).symm.trans h
    refine lv_tableIn (off := 87) (tgt := 88) hx hb d_Reader_fieldHas_1 (by rw [c37]; decide) (by rw [c37]; decide) (by rw [c37]; rfl) (by decide) ?_
    refine lv_iload_n hx hb d_Reader_fieldHas_88 rfl (lv_at hl 2 rfl) ?_
    refine lv_if_ne (tgt := 114) hx hb d_Reader_fieldHas_89 (by decide) (fun c44 => ?_) (fun c44 => ?_)
    · replace h := (if_neg c44).symm.trans h
      refine lv_iconst (v := 0) hx hb d_Reader_fieldHas_114 (by decide) ?_
      cases h
      exact W.zret hx hb hr rfl (fun t ht hW => ⟨⟨_, (), rfl, rfl, by rw [ht]; exact hP, hD⟩, hS.F ht⟩) hS.2.2 d_Reader_fieldHas_115
    · replace h := (if_pos c44).symm.trans h
      refine lv_aload_n hx hb d_Reader_fieldHas_92 rfl (lv_at hl 0 rfl) ?_
      refine va_get (D := gD g) (ci := 3) (v := .ref (a_span 0)) (C := R_Reader) (T := T_Reader) (N := 9) hx hb htb in_Reader hown hK hP 0 rfl rfl 1 (by decide) (htb _ L_Reader_21) (fun _ h9 => h9) rfl d_Reader_fieldHas_93 ?_
      refine lv_aload_n hx hb d_Reader_fieldHas_96 rfl (lv_at hl 0 rfl) ?_
      refine va_get (D := gD g) (ci := 3) (v := .ref (a_query 0)) (C := R_Reader) (T := T_Reader) (N := 9) hx hb htb in_Reader hown hK hP 0 rfl rfl 0 (by decide) (htb _ L_Reader_12) (fun _ h9 => h9) rfl d_Reader_fieldHas_97 ?_
      refine lv_iload_n hx hb d_Reader_fieldHas_100 rfl (lv_at hl 3 rfl) ?_
      refine lv_iload hx hb d_Reader_fieldHas_101 (lv_at hl 4 rfl) ?_
      refine lv_iconst (v := 1) hx hb d_Reader_fieldHas_103 (by decide) ?_
      obtain ⟨r45, hr45, h⟩ := Option.bind_eq_some_iff.mp h
      refine cl_I (wr := (pic_Reader g a_t (a_query 0) (a_span 0) t)) [15, 4, 5, 6, 7, 8, 9, 10, 11, 12, 13, 14] [0, 1, 2, 3] rfl rfl rfl (by decide) hP hD hS hA (va_runV (As := [.ref (a_query 0), .int x3, .int x4, .int (1 : Int32)]) (rest := []) ⟨hx, hb, hml, hown, htb⟩ (c_Span_fits l g F a_span a_query span query x3 x4 (1 : Int32) _ hr45 H.size) (cw_V htb mb_Span_fits (htb _ L_Reader_151) rfl rfl ⟨Nat.le_of_ble_eq_true rfl, Nat.le_of_ble_eq_true rfl⟩) (pre_V (va_recv hK hP (ci := 2) (q0 := 15) rfl rfl) (pre_S [15, 4, 5, 6, 7, 8, 9, 10, 11, 12, 13, 14] rfl rfl hP hD hS hA hAA hG)) rfl rfl hl.1 rfl (lv_room (Nat.le_of_ble_eq_true rfl)) d_Reader_fieldHas_104 ⟨Nat.zero_le _, Nat.zero_le _⟩) (fun H locs hP hD hS => ?_)
      have hP : va_P (gD g) vwCl ((pic_Reader g a_t (a_query 0) (a_span 0) t) ++ (pic_Query g a_query query) ++ (pic_Span g a_span r45.2)) H := hP.sub [0, 1, 2, 3, 5, 6, 7, 8, 9, 10, 11, 12, 13, 14, 15, 4] rfl
      have hD : va_D A ((pic_Reader g a_t (a_query 0) (a_span 0) t) ++ (pic_Query g a_query query) ++ (pic_Span g a_span r45.2)) := hD.sub [0, 1, 2, 3, 5, 6, 7, 8, 9, 10, 11, 12, 13, 14, 15, 4] rfl rfl
      refine lv_if_eq (tgt := 114) hx hb d_Reader_fieldHas_107 (by decide) (fun c46 => ?_) (fun c46 => ?_)
      · replace h := (if_pos c46).symm.trans h
        refine lv_iconst (v := 0) hx hb d_Reader_fieldHas_114 (by decide) ?_
        cases h
        exact W.zret hx hb hr rfl (fun t ht hW => ⟨⟨_, (), rfl, rfl, by rw [ht]; exact hP, hD⟩, hS.F ht⟩) hS.2.2 d_Reader_fieldHas_115
      · replace h := (if_neg c46).symm.trans h
        refine lv_iconst (v := 1) hx hb d_Reader_fieldHas_110 (by decide) ?_
        refine lv_goto (tgt := 115) hx hb d_Reader_fieldHas_111 (by decide) ?_
        cases h
        exact W.zret hx hb hr rfl (fun t ht hW => ⟨⟨_, (), rfl, rfl, by rw [ht]; exact hP, hD⟩, hS.F ht⟩) hS.2.2 d_Reader_fieldHas_115
  replace h := (if_neg c37).symm.trans h
  by_cases c38 : x1 = (12 : Int32)
  · replace h := (if_pos c38).symm.trans h
    refine lv_tableIn (off := 115) (tgt := 116) hx hb d_Reader_fieldHas_1 (by rw [c38]; decide) (by rw [c38]; decide) (by rw [c38]; rfl) (by decide) ?_
    refine lv_iload_n hx hb d_Reader_fieldHas_116 rfl (lv_at hl 2 rfl) ?_
    refine lv_if_ne (tgt := 142) hx hb d_Reader_fieldHas_117 (by decide) (fun c41 => ?_) (fun c41 => ?_)
    · replace h := (if_neg c41).symm.trans h
      refine lv_iconst (v := 0) hx hb d_Reader_fieldHas_142 (by decide) ?_
      cases h
      exact W.zret hx hb hr rfl (fun t ht hW => ⟨⟨_, (), rfl, rfl, by rw [ht]; exact hP, hD⟩, hS.F ht⟩) hS.2.2 d_Reader_fieldHas_143
    · replace h := (if_pos c41).symm.trans h
      refine lv_aload_n hx hb d_Reader_fieldHas_120 rfl (lv_at hl 0 rfl) ?_
      refine va_get (D := gD g) (ci := 3) (v := .ref (a_span 0)) (C := R_Reader) (T := T_Reader) (N := 9) hx hb htb in_Reader hown hK hP 0 rfl rfl 1 (by decide) (htb _ L_Reader_21) (fun _ h9 => h9) rfl d_Reader_fieldHas_121 ?_
      refine lv_aload_n hx hb d_Reader_fieldHas_124 rfl (lv_at hl 0 rfl) ?_
      refine va_get (D := gD g) (ci := 3) (v := .ref (a_query 0)) (C := R_Reader) (T := T_Reader) (N := 9) hx hb htb in_Reader hown hK hP 0 rfl rfl 0 (by decide) (htb _ L_Reader_12) (fun _ h9 => h9) rfl d_Reader_fieldHas_125 ?_
      refine lv_iload_n hx hb d_Reader_fieldHas_128 rfl (lv_at hl 3 rfl) ?_
      refine lv_iload hx hb d_Reader_fieldHas_129 (lv_at hl 4 rfl) ?_
      refine lv_iconst (v := 0) hx hb d_Reader_fieldHas_131 (by decide) ?_
      obtain ⟨r42, hr42, h⟩ := Option.bind_eq_some_iff.mp h
      refine cl_I (wr := (pic_Reader g a_t (a_query 0) (a_span 0) t)) [15, 4, 5, 6, 7, 8, 9, 10, 11, 12, 13, 14] [0, 1, 2, 3] rfl rfl rfl (by decide) hP hD hS hA (va_runV (As := [.ref (a_query 0), .int x3, .int x4, .int (0 : Int32)]) (rest := []) ⟨hx, hb, hml, hown, htb⟩ (c_Span_fits l g F a_span a_query span query x3 x4 (0 : Int32) _ hr42 H.size) (cw_V htb mb_Span_fits (htb _ L_Reader_151) rfl rfl ⟨Nat.le_of_ble_eq_true rfl, Nat.le_of_ble_eq_true rfl⟩) (pre_V (va_recv hK hP (ci := 2) (q0 := 15) rfl rfl) (pre_S [15, 4, 5, 6, 7, 8, 9, 10, 11, 12, 13, 14] rfl rfl hP hD hS hA hAA hG)) rfl rfl hl.1 rfl (lv_room (Nat.le_of_ble_eq_true rfl)) d_Reader_fieldHas_132 ⟨Nat.zero_le _, Nat.zero_le _⟩) (fun H locs hP hD hS => ?_)
      have hP : va_P (gD g) vwCl ((pic_Reader g a_t (a_query 0) (a_span 0) t) ++ (pic_Query g a_query query) ++ (pic_Span g a_span r42.2)) H := hP.sub [0, 1, 2, 3, 5, 6, 7, 8, 9, 10, 11, 12, 13, 14, 15, 4] rfl
      have hD : va_D A ((pic_Reader g a_t (a_query 0) (a_span 0) t) ++ (pic_Query g a_query query) ++ (pic_Span g a_span r42.2)) := hD.sub [0, 1, 2, 3, 5, 6, 7, 8, 9, 10, 11, 12, 13, 14, 15, 4] rfl rfl
      refine lv_if_eq (tgt := 142) hx hb d_Reader_fieldHas_135 (by decide) (fun c43 => ?_) (fun c43 => ?_)
      · replace h := (if_pos c43).symm.trans h
        refine lv_iconst (v := 0) hx hb d_Reader_fieldHas_142 (by decide) ?_
        cases h
        exact W.zret hx hb hr rfl (fun t ht hW => ⟨⟨_, (), rfl, rfl, by rw [ht]; exact hP, hD⟩, hS.F ht⟩) hS.2.2 d_Reader_fieldHas_143
      · replace h := (if_neg c43).symm.trans h
        refine lv_iconst (v := 1) hx hb d_Reader_fieldHas_138 (by decide) ?_
        refine lv_goto (tgt := 143) hx hb d_Reader_fieldHas_139 (by decide) ?_
        cases h
        exact W.zret hx hb hr rfl (fun t ht hW => ⟨⟨_, (), rfl, rfl, by rw [ht]; exact hP, hD⟩, hS.F ht⟩) hS.2.2 d_Reader_fieldHas_143
  replace h := (if_neg c38).symm.trans h
  refine lv_tableOut (tgt := 144) hx hb d_Reader_fieldHas_1 (by have z0 := lv_neT (a := 5) c31 (by decide); have z1 := lv_neT (a := 6) c32 (by decide); have z2 := lv_neT (a := 7) c33 (by decide); have z3 := lv_neT (a := 8) c34 (by decide); have z4 := lv_neT (a := 9) c35 (by decide); have z5 := lv_neT (a := 10) c36 (by decide); have z6 := lv_neT (a := 11) c37 (by decide); have z7 := lv_neT (a := 12) c38 (by decide); omega) (by decide) ?_
  refine lv_aload_n hx hb d_Reader_fieldHas_144 rfl (lv_at hl 0 rfl) ?_
  refine lv_iload_n hx hb d_Reader_fieldHas_145 rfl (lv_at hl 1 rfl) ?_
  refine lv_iload_n hx hb d_Reader_fieldHas_146 rfl (lv_at hl 2 rfl) ?_
  refine lv_iload_n hx hb d_Reader_fieldHas_147 rfl (lv_at hl 3 rfl) ?_
  refine lv_iload hx hb d_Reader_fieldHas_148 (lv_at hl 4 rfl) ?_
  obtain ⟨r39, hr39, h⟩ := Option.bind_eq_some_iff.mp h
  refine cl_Ir hP hS hA (va_runV (As := [.int x1, .int x2, .int x3, .int x4]) (rest := []) ⟨hx, hb, hml, hown, htb⟩ (c_Reader_starFits l g F a_t a_query (a_span 0) t query x1 x2 x3 x4 _ hr39 H.size) (cw_V htb mb_Reader_starFits (htb _ L_Reader_155) rfl rfl ⟨Nat.le_of_ble_eq_true rfl, Nat.le_of_ble_eq_true rfl⟩) (pre_V (va_recv hK hP (ci := 3) (q0 := 0) rfl rfl) (pre_S [0, 1, 2, 3, 4, 5, 6, 7, 8, 9, 10, 11, 12, 13, 14] rfl rfl hP hD hS hA hAA hG)) rfl rfl hl.1 rfl (lv_room (Nat.le_of_ble_eq_true rfl)) d_Reader_fieldHas_150 ⟨Nat.zero_le _, Nat.zero_le _⟩) (fun H locs hP hS => ?_)
  by_cases c40 : (r39 = 0 ∨ r39 = 1)
  rotate_left
  · replace h := (if_neg c40).symm.trans h
    cases h
  replace h := (if_pos c40).symm.trans h
  cases h
  exact W.zret hx hb hr (by rcases c40 with c40 | c40 <;> rw [c40] <;> rfl) (fun t ht hW => ⟨⟨_, (), rfl, rfl, by rw [ht]; exact hP, hD⟩, hS.F ht⟩) hS.2.2 d_Reader_fieldHas_153
theorem c_Reader_fieldHas (l : Launch) (g : Gz) (F : Nat) (a_t : Nat → Nat) (a_query : Nat → Nat) (a_span : Nat → Nat) (t : StI) (query : StI) (span : StI) (x1 : Int32) (x2 : Int32) (x3 : Int32) (x4 : Int32) (res : Int32 × StI) (h : Reader_fieldHas F t query span x1 x2 x3 x4 = some res) : ∀ sz : Nat, Met l y_Reader_fieldHas (.code y_Reader_fieldHas prog_6_method_16_code 5 (some .boolean) :: TBL) rm_Reader_fieldHas (va_Pc [.ref (a_t 0), .int x1, .int x2, .int x3, .int x4] (Pre0 g ((pic_Reader g a_t (a_query 0) (a_span 0) t) ++ (pic_Query g a_query query) ++ (pic_Span g a_span span)) sz)) (EI g ((pic_Reader g a_t (a_query 0) (a_span 0) t) ++ (pic_Query g a_query query) ++ (pic_Span g a_span res.2)) res.1 (va_A ((pic_Reader g a_t (a_query 0) (a_span 0) t) ++ (pic_Query g a_query query) ++ (pic_Span g a_span span)) sz)) 0 0 (va_A ((pic_Reader g a_t (a_query 0) (a_span 0) t) ++ (pic_Query g a_query query) ++ (pic_Span g a_span span)) sz) :=
  ct_w (Qc := fun A => EI g ((pic_Reader g a_t (a_query 0) (a_span 0) t) ++ (pic_Query g a_query query) ++ (pic_Span g a_span res.2)) res.1 A) (by decide) (Nat.le_of_ble_eq_true rfl) (fun p e s m args below meth c A hC => k_Reader_fieldHas hC t query span x1 x2 x3 x4 res h)
