theorem L_Rows_50 : (Jvm.Cond.fieldLink "MailQueries$Rows" (50 : Nat) "MailQueries$Rows" "kept" "I") ∈ TBL := TBL_in (List.mem_of_getElem? (i := 306) (by decide +kernel)) (by decide +kernel)
theorem L_Rows_44 : (Jvm.Cond.fieldLink "MailQueries$Rows" (44 : Nat) "MailQueries$Rows" "keptPlain" "[J") ∈ TBL := TBL_in (List.mem_of_getElem? (i := 304) (by decide +kernel)) (by decide +kernel)
theorem L_Rows_47 : (Jvm.Cond.fieldLink "MailQueries$Rows" (47 : Nat) "MailQueries$Rows" "keptNegated" "[J") ∈ TBL := TBL_in (List.mem_of_getElem? (i := 305) (by decide +kernel)) (by decide +kernel)
set_option maxRecDepth 100000 in
theorem W_Rows_bitsOf_code : (Jvm.Cond.code ({ cls := "MailQueries$Rows", name := "bitsOf", desc := "(IZ)J" } : Jvm.MethodName) prog_7_method_2_code (3 : Nat) (Option.some Jvm.ClassFile.FieldType.long)) ∈ TBL := TBL_in (List.mem_of_getElem? (i := 635) rfl) rfl
theorem I_Rows : (Jvm.Cond.initialized "MailQueries$Rows") ∈ TBL := TBL_in (List.mem_of_getElem? (i := 107) (by decide +kernel)) (by decide +kernel)
theorem W_Rows_bitsOf_in : (Jvm.Cond.instanceMethod ({ cls := "MailQueries$Rows", name := "bitsOf", desc := "(IZ)J" } : Jvm.MethodName)) ∈ TBL := TBL_in (List.mem_of_getElem? (i := 633) (by decide +kernel)) (by decide +kernel)
theorem W_Rows_bitsOf_se : (Jvm.Cond.selects "MailQueries$Rows" ({ cls := "MailQueries$Rows", name := "bitsOf", desc := "(IZ)J" } : Jvm.MethodName) ({ cls := "MailQueries$Rows", name := "bitsOf", desc := "(IZ)J" } : Jvm.MethodName)) ∈ TBL := TBL_in (List.mem_of_getElem? (i := 634) (by decide +kernel)) (by decide +kernel)
theorem L_Rows_29 : (Jvm.Cond.fieldLink "MailQueries$Rows" (29 : Nat) "MailQueries$Rows" "sets" "I") ∈ TBL := TBL_in (List.mem_of_getElem? (i := 301) (by decide +kernel)) (by decide +kernel)
theorem L_Rows_26 : (Jvm.Cond.fieldLink "MailQueries$Rows" (26 : Nat) "MailQueries$Rows" "setMiddle" "[I") ∈ TBL := TBL_in (List.mem_of_getElem? (i := 300) (by decide +kernel)) (by decide +kernel)
theorem L_Rows_22 : (Jvm.Cond.fieldLink "MailQueries$Rows" (22 : Nat) "MailQueries$Rows" "setFrom" "[I") ∈ TBL := TBL_in (List.mem_of_getElem? (i := 299) (by decide +kernel)) (by decide +kernel)
set_option maxRecDepth 100000 in
theorem W_Rows_sideFrom_code : (Jvm.Cond.code ({ cls := "MailQueries$Rows", name := "sideFrom", desc := "(II)I" } : Jvm.MethodName) prog_7_method_16_code (3 : Nat) (Option.some Jvm.ClassFile.FieldType.int)) ∈ TBL := TBL_in (List.mem_of_getElem? (i := 598) rfl) rfl
theorem W_Rows_sideFrom_in : (Jvm.Cond.instanceMethod ({ cls := "MailQueries$Rows", name := "sideFrom", desc := "(II)I" } : Jvm.MethodName)) ∈ TBL := TBL_in (List.mem_of_getElem? (i := 597) (by decide +kernel)) (by decide +kernel)
theorem sel_13 : Cond.selects "MailQueries$Rows" ⟨"MailQueries$Rows", "sideFrom", "(II)I"⟩ ⟨"MailQueries$Rows", "sideFrom", "(II)I"⟩ ∈ TBL := TBL_in (List.mem_of_getElem? (i := 13) (by decide +kernel)) (by decide +kernel)
set_option maxRecDepth 100000 in
theorem W_Rows_sideTo_code : (Jvm.Cond.code ({ cls := "MailQueries$Rows", name := "sideTo", desc := "(II)I" } : Jvm.MethodName) prog_7_method_17_code (3 : Nat) (Option.some Jvm.ClassFile.FieldType.int)) ∈ TBL := TBL_in (List.mem_of_getElem? (i := 594) rfl) rfl
theorem W_Rows_sideTo_in : (Jvm.Cond.instanceMethod ({ cls := "MailQueries$Rows", name := "sideTo", desc := "(II)I" } : Jvm.MethodName)) ∈ TBL := TBL_in (List.mem_of_getElem? (i := 593) (by decide +kernel)) (by decide +kernel)
theorem sel_12 : Cond.selects "MailQueries$Rows" ⟨"MailQueries$Rows", "sideTo", "(II)I"⟩ ⟨"MailQueries$Rows", "sideTo", "(II)I"⟩ ∈ TBL := TBL_in (List.mem_of_getElem? (i := 12) (by decide +kernel)) (by decide +kernel)
theorem L_Rows_18 : (Jvm.Cond.fieldLink "MailQueries$Rows" (18 : Nat) "MailQueries$Rows" "top" "I") ∈ TBL := TBL_in (List.mem_of_getElem? (i := 298) (by decide +kernel)) (by decide +kernel)
theorem L_Rows_11 : (Jvm.Cond.fieldLink "MailQueries$Rows" (11 : Nat) "MailQueries$Rows" "plain" "[J") ∈ TBL := TBL_in (List.mem_of_getElem? (i := 296) (by decide +kernel)) (by decide +kernel)
theorem L_Rows_15 : (Jvm.Cond.fieldLink "MailQueries$Rows" (15 : Nat) "MailQueries$Rows" "negated" "[J") ∈ TBL := TBL_in (List.mem_of_getElem? (i := 297) (by decide +kernel)) (by decide +kernel)
set_option maxRecDepth 100000 in
theorem W_Rows_put_code : (Jvm.Cond.code ({ cls := "MailQueries$Rows", name := "put", desc := "(IJJ)Z" } : Jvm.MethodName) prog_7_method_13_code (6 : Nat) (Option.some Jvm.ClassFile.FieldType.boolean)) ∈ TBL := TBL_in (List.mem_of_getElem? (i := 558) rfl) rfl
theorem W_Rows_put_in : (Jvm.Cond.instanceMethod ({ cls := "MailQueries$Rows", name := "put", desc := "(IJJ)Z" } : Jvm.MethodName)) ∈ TBL := TBL_in (List.mem_of_getElem? (i := 557) (by decide +kernel)) (by decide +kernel)
theorem sel_6 : Cond.selects "MailQueries$Rows" ⟨"MailQueries$Rows", "put", "(IJJ)Z"⟩ ⟨"MailQueries$Rows", "put", "(IJJ)Z"⟩ ∈ TBL := TBL_in (List.mem_of_getElem? (i := 6) (by decide +kernel)) (by decide +kernel)
theorem K_Rows_142 : (Jvm.Cond.constantLong "MailQueries$Rows" (142 : Nat) (-1 : Int64)) ∈ TBL := TBL_in (List.mem_of_getElem? (i := 619) (by decide +kernel)) (by decide +kernel)
set_option maxRecDepth 100000 in
theorem W_Rows_hasOneOf_code : (Jvm.Cond.code ({ cls := "MailQueries$Rows", name := "hasOneOf", desc := "(IIIZ)Z" } : Jvm.MethodName) prog_7_method_15_code (10 : Nat) (Option.some Jvm.ClassFile.FieldType.boolean)) ∈ TBL := TBL_in (List.mem_of_getElem? (i := 618) rfl) rfl
theorem W_Rows_hasOneOf_in : (Jvm.Cond.instanceMethod ({ cls := "MailQueries$Rows", name := "hasOneOf", desc := "(IIIZ)Z" } : Jvm.MethodName)) ∈ TBL := TBL_in (List.mem_of_getElem? (i := 617) (by decide +kernel)) (by decide +kernel)
theorem sel_18 : Cond.selects "MailQueries$Rows" ⟨"MailQueries$Rows", "hasOneOf", "(IIIZ)Z"⟩ ⟨"MailQueries$Rows", "hasOneOf", "(IIIZ)Z"⟩ ∈ TBL := TBL_in (List.mem_of_getElem? (i := 18) (by decide +kernel)) (by decide +kernel)
theorem L_Rows_138 : (Jvm.Cond.methodLink "MailQueries$Rows" (138 : Nat) ({ cls := "MailQueries$Rows", name := "hasOneOf", desc := "(IIIZ)Z" } : Jvm.MethodName)) ∈ TBL := TBL_in (List.mem_of_getElem? (i := 615) (by decide +kernel)) (by decide +kernel)
set_option maxRecDepth 100000 in
theorem W_Rows_leaveOut_code : (Jvm.Cond.code ({ cls := "MailQueries$Rows", name := "leaveOut", desc := "(I)V" } : Jvm.MethodName) prog_7_method_14_code (5 : Nat) (Option.none : Option Jvm.ClassFile.FieldType)) ∈ TBL := TBL_in (List.mem_of_getElem? (i := 614) rfl) rfl
theorem W_Rows_leaveOut_in : (Jvm.Cond.instanceMethod ({ cls := "MailQueries$Rows", name := "leaveOut", desc := "(I)V" } : Jvm.MethodName)) ∈ TBL := TBL_in (List.mem_of_getElem? (i := 613) (by decide +kernel)) (by decide +kernel)
theorem sel_17 : Cond.selects "MailQueries$Rows" ⟨"MailQueries$Rows", "leaveOut", "(I)V"⟩ ⟨"MailQueries$Rows", "leaveOut", "(I)V"⟩ ∈ TBL := TBL_in (List.mem_of_getElem? (i := 17) (by decide +kernel)) (by decide +kernel)
theorem L_Rows_58 : (Jvm.Cond.methodLink "MailQueries$Rows" (58 : Nat) ({ cls := "MailQueries$Rows", name := "put", desc := "(IJJ)Z" } : Jvm.MethodName)) ∈ TBL := TBL_in (List.mem_of_getElem? (i := 555) (by decide +kernel)) (by decide +kernel)
theorem L_Rows_83 : (Jvm.Cond.methodLink "MailQueries$Rows" (83 : Nat) ({ cls := "MailQueries$Rows", name := "sideTo", desc := "(II)I" } : Jvm.MethodName)) ∈ TBL := TBL_in (List.mem_of_getElem? (i := 591) (by decide +kernel)) (by decide +kernel)
theorem L_Rows_135 : (Jvm.Cond.methodLink "MailQueries$Rows" (135 : Nat) ({ cls := "MailQueries$Rows", name := "sideFrom", desc := "(II)I" } : Jvm.MethodName)) ∈ TBL := TBL_in (List.mem_of_getElem? (i := 595) (by decide +kernel)) (by decide +kernel)
set_option maxRecDepth 100000 in
theorem W_Rows_putSide_code : (Jvm.Cond.code ({ cls := "MailQueries$Rows", name := "putSide", desc := "(III)Z" } : Jvm.MethodName) prog_7_method_12_code (6 : Nat) (Option.some Jvm.ClassFile.FieldType.boolean)) ∈ TBL := TBL_in (List.mem_of_getElem? (i := 590) rfl) rfl
theorem W_Rows_putSide_in : (Jvm.Cond.instanceMethod ({ cls := "MailQueries$Rows", name := "putSide", desc := "(III)Z" } : Jvm.MethodName)) ∈ TBL := TBL_in (List.mem_of_getElem? (i := 589) (by decide +kernel)) (by decide +kernel)
theorem sel_11 : Cond.selects "MailQueries$Rows" ⟨"MailQueries$Rows", "putSide", "(III)Z"⟩ ⟨"MailQueries$Rows", "putSide", "(III)Z"⟩ ∈ TBL := TBL_in (List.mem_of_getElem? (i := 11) (by decide +kernel)) (by decide +kernel)
theorem L_Rows_132 : (Jvm.Cond.methodLink "MailQueries$Rows" (132 : Nat) ({ cls := "MailQueries$Rows", name := "leaveOut", desc := "(I)V" } : Jvm.MethodName)) ∈ TBL := TBL_in (List.mem_of_getElem? (i := 611) (by decide +kernel)) (by decide +kernel)
set_option maxRecDepth 100000 in
theorem W_Rows_putPairs_code : (Jvm.Cond.code ({ cls := "MailQueries$Rows", name := "putPairs", desc := "(II)Z" } : Jvm.MethodName) prog_7_method_11_code (13 : Nat) (Option.some Jvm.ClassFile.FieldType.boolean)) ∈ TBL := TBL_in (List.mem_of_getElem? (i := 610) rfl) rfl
theorem W_Rows_putPairs_in : (Jvm.Cond.instanceMethod ({ cls := "MailQueries$Rows", name := "putPairs", desc := "(II)Z" } : Jvm.MethodName)) ∈ TBL := TBL_in (List.mem_of_getElem? (i := 609) (by decide +kernel)) (by decide +kernel)
theorem sel_16 : Cond.selects "MailQueries$Rows" ⟨"MailQueries$Rows", "putPairs", "(II)Z"⟩ ⟨"MailQueries$Rows", "putPairs", "(II)Z"⟩ ∈ TBL := TBL_in (List.mem_of_getElem? (i := 16) (by decide +kernel)) (by decide +kernel)
theorem L_Rows_112 : (Jvm.Cond.methodLink "MailQueries$Rows" (112 : Nat) ({ cls := "MailQueries$Rows", name := "putSide", desc := "(III)Z" } : Jvm.MethodName)) ∈ TBL := TBL_in (List.mem_of_getElem? (i := 587) (by decide +kernel)) (by decide +kernel)
set_option maxRecDepth 100000 in
theorem W_Rows_putAny_code : (Jvm.Cond.code ({ cls := "MailQueries$Rows", name := "putAny", desc := "(I)Z" } : Jvm.MethodName) prog_7_method_10_code (3 : Nat) (Option.some Jvm.ClassFile.FieldType.boolean)) ∈ TBL := TBL_in (List.mem_of_getElem? (i := 623) rfl) rfl
theorem W_Rows_putAny_in : (Jvm.Cond.instanceMethod ({ cls := "MailQueries$Rows", name := "putAny", desc := "(I)Z" } : Jvm.MethodName)) ∈ TBL := TBL_in (List.mem_of_getElem? (i := 622) (by decide +kernel)) (by decide +kernel)
theorem sel_19 : Cond.selects "MailQueries$Rows" ⟨"MailQueries$Rows", "putAny", "(I)Z"⟩ ⟨"MailQueries$Rows", "putAny", "(I)Z"⟩ ∈ TBL := TBL_in (List.mem_of_getElem? (i := 19) (by decide +kernel)) (by decide +kernel)
theorem L_Rows_129 : (Jvm.Cond.methodLink "MailQueries$Rows" (129 : Nat) ({ cls := "MailQueries$Rows", name := "putPairs", desc := "(II)Z" } : Jvm.MethodName)) ∈ TBL := TBL_in (List.mem_of_getElem? (i := 607) (by decide +kernel)) (by decide +kernel)
set_option maxRecDepth 100000 in
theorem W_Rows_putEither_code : (Jvm.Cond.code ({ cls := "MailQueries$Rows", name := "putEither", desc := "(IIII)Z" } : Jvm.MethodName) prog_7_method_9_code (6 : Nat) (Option.some Jvm.ClassFile.FieldType.boolean)) ∈ TBL := TBL_in (List.mem_of_getElem? (i := 606) rfl) rfl
theorem W_Rows_putEither_in : (Jvm.Cond.instanceMethod ({ cls := "MailQueries$Rows", name := "putEither", desc := "(IIII)Z" } : Jvm.MethodName)) ∈ TBL := TBL_in (List.mem_of_getElem? (i := 605) (by decide +kernel)) (by decide +kernel)
theorem sel_15 : Cond.selects "MailQueries$Rows" ⟨"MailQueries$Rows", "putEither", "(IIII)Z"⟩ ⟨"MailQueries$Rows", "putEither", "(IIII)Z"⟩ ∈ TBL := TBL_in (List.mem_of_getElem? (i := 15) (by decide +kernel)) (by decide +kernel)
def y_Rows_bitsOf : MethodName := ⟨"MailQueries$Rows", "bitsOf", "(IZ)J"⟩
def rm_Rows_bitsOf : Room := { frames := 0, cells := 0, slots := 0, locals := 0 }
theorem d_Rows_bitsOf_0 : decode prog_7_method_2_code 0 = .ok (.iload_n 1, 1) := by decide +kernel
theorem d_Rows_bitsOf_1 : decode prog_7_method_2_code 1 = .ok (.ifCond .lt 11, 3) := by decide +kernel
theorem d_Rows_bitsOf_4 : decode prog_7_method_2_code 4 = .ok (.iload_n 1, 1) := by decide +kernel
theorem d_Rows_bitsOf_5 : decode prog_7_method_2_code 5 = .ok (.aload_n 0, 1) := by decide +kernel
theorem d_Rows_bitsOf_6 : decode prog_7_method_2_code 6 = .ok (.getfield 50, 3) := by decide +kernel
theorem d_Rows_bitsOf_9 : decode prog_7_method_2_code 9 = .ok (.if_icmp .lt 5, 3) := by decide +kernel
theorem d_Rows_bitsOf_12 : decode prog_7_method_2_code 12 = .ok (.lconst 0, 1) := by decide +kernel
theorem d_Rows_bitsOf_13 : decode prog_7_method_2_code 13 = .ok (.lreturn, 1) := by decide +kernel
theorem d_Rows_bitsOf_14 : decode prog_7_method_2_code 14 = .ok (.iload_n 2, 1) := by decide +kernel
theorem d_Rows_bitsOf_15 : decode prog_7_method_2_code 15 = .ok (.ifCond .eq 12, 3) := by decide +kernel
theorem d_Rows_bitsOf_18 : decode prog_7_method_2_code 18 = .ok (.aload_n 0, 1) := by decide +kernel
theorem d_Rows_bitsOf_19 : decode prog_7_method_2_code 19 = .ok (.getfield 47, 3) := by decide +kernel
theorem d_Rows_bitsOf_22 : decode prog_7_method_2_code 22 = .ok (.iload_n 1, 1) := by decide +kernel
theorem d_Rows_bitsOf_23 : decode prog_7_method_2_code 23 = .ok (.laload, 1) := by decide +kernel
theorem d_Rows_bitsOf_24 : decode prog_7_method_2_code 24 = .ok (.goto 9, 3) := by decide +kernel
theorem d_Rows_bitsOf_27 : decode prog_7_method_2_code 27 = .ok (.aload_n 0, 1) := by decide +kernel
theorem d_Rows_bitsOf_28 : decode prog_7_method_2_code 28 = .ok (.getfield 44, 3) := by decide +kernel
theorem d_Rows_bitsOf_31 : decode prog_7_method_2_code 31 = .ok (.iload_n 1, 1) := by decide +kernel
theorem d_Rows_bitsOf_32 : decode prog_7_method_2_code 32 = .ok (.laload, 1) := by decide +kernel
theorem d_Rows_bitsOf_33 : decode prog_7_method_2_code 33 = .ok (.lreturn, 1) := by decide +kernel
def y_Rows_sideFrom : MethodName := ⟨"MailQueries$Rows", "sideFrom", "(II)I"⟩
def rm_Rows_sideFrom : Room := { frames := 0, cells := 0, slots := 0, locals := 0 }
theorem d_Rows_sideFrom_0 : decode prog_7_method_16_code 0 = .ok (.iload_n 1, 1) := by decide +kernel
theorem d_Rows_sideFrom_1 : decode prog_7_method_16_code 1 = .ok (.ifCond .lt 11, 3) := by decide +kernel
theorem d_Rows_sideFrom_4 : decode prog_7_method_16_code 4 = .ok (.iload_n 1, 1) := by decide +kernel
theorem d_Rows_sideFrom_5 : decode prog_7_method_16_code 5 = .ok (.aload_n 0, 1) := by decide +kernel
theorem d_Rows_sideFrom_6 : decode prog_7_method_16_code 6 = .ok (.getfield 29, 3) := by decide +kernel
theorem d_Rows_sideFrom_9 : decode prog_7_method_16_code 9 = .ok (.if_icmp .lt 5, 3) := by decide +kernel
theorem d_Rows_sideFrom_12 : decode prog_7_method_16_code 12 = .ok (.iconst 0, 1) := by decide +kernel
theorem d_Rows_sideFrom_13 : decode prog_7_method_16_code 13 = .ok (.ireturn, 1) := by decide +kernel
theorem d_Rows_sideFrom_14 : decode prog_7_method_16_code 14 = .ok (.iload_n 2, 1) := by decide +kernel
theorem d_Rows_sideFrom_15 : decode prog_7_method_16_code 15 = .ok (.iconst 1, 1) := by decide +kernel
theorem d_Rows_sideFrom_16 : decode prog_7_method_16_code 16 = .ok (.if_icmp .ne 12, 3) := by decide +kernel
theorem d_Rows_sideFrom_19 : decode prog_7_method_16_code 19 = .ok (.aload_n 0, 1) := by decide +kernel
theorem d_Rows_sideFrom_20 : decode prog_7_method_16_code 20 = .ok (.getfield 22, 3) := by decide +kernel
theorem d_Rows_sideFrom_23 : decode prog_7_method_16_code 23 = .ok (.iload_n 1, 1) := by decide +kernel
theorem d_Rows_sideFrom_24 : decode prog_7_method_16_code 24 = .ok (.iaload, 1) := by decide +kernel
theorem d_Rows_sideFrom_25 : decode prog_7_method_16_code 25 = .ok (.goto 9, 3) := by decide +kernel
theorem d_Rows_sideFrom_28 : decode prog_7_method_16_code 28 = .ok (.aload_n 0, 1) := by decide +kernel
theorem d_Rows_sideFrom_29 : decode prog_7_method_16_code 29 = .ok (.getfield 26, 3) := by decide +kernel
theorem d_Rows_sideFrom_32 : decode prog_7_method_16_code 32 = .ok (.iload_n 1, 1) := by decide +kernel
theorem d_Rows_sideFrom_33 : decode prog_7_method_16_code 33 = .ok (.iaload, 1) := by decide +kernel
theorem d_Rows_sideFrom_34 : decode prog_7_method_16_code 34 = .ok (.ireturn, 1) := by decide +kernel
def y_Rows_sideTo : MethodName := ⟨"MailQueries$Rows", "sideTo", "(II)I"⟩
def rm_Rows_sideTo : Room := { frames := 0, cells := 0, slots := 0, locals := 0 }
theorem d_Rows_sideTo_0 : decode prog_7_method_17_code 0 = .ok (.iload_n 1, 1) := by decide +kernel
theorem d_Rows_sideTo_1 : decode prog_7_method_17_code 1 = .ok (.ifCond .lt 11, 3) := by decide +kernel
theorem d_Rows_sideTo_4 : decode prog_7_method_17_code 4 = .ok (.iload_n 1, 1) := by decide +kernel
theorem d_Rows_sideTo_5 : decode prog_7_method_17_code 5 = .ok (.aload_n 0, 1) := by decide +kernel
theorem d_Rows_sideTo_6 : decode prog_7_method_17_code 6 = .ok (.getfield 29, 3) := by decide +kernel
theorem d_Rows_sideTo_9 : decode prog_7_method_17_code 9 = .ok (.if_icmp .lt 5, 3) := by decide +kernel
theorem d_Rows_sideTo_12 : decode prog_7_method_17_code 12 = .ok (.iconst 0, 1) := by decide +kernel
theorem d_Rows_sideTo_13 : decode prog_7_method_17_code 13 = .ok (.ireturn, 1) := by decide +kernel
theorem d_Rows_sideTo_14 : decode prog_7_method_17_code 14 = .ok (.iload_n 2, 1) := by decide +kernel
theorem d_Rows_sideTo_15 : decode prog_7_method_17_code 15 = .ok (.iconst 1, 1) := by decide +kernel
theorem d_Rows_sideTo_16 : decode prog_7_method_17_code 16 = .ok (.if_icmp .ne 12, 3) := by decide +kernel
theorem d_Rows_sideTo_19 : decode prog_7_method_17_code 19 = .ok (.aload_n 0, 1) := by decide +kernel
theorem d_Rows_sideTo_20 : decode prog_7_method_17_code 20 = .ok (.getfield 26, 3) := by decide +kernel
theorem d_Rows_sideTo_23 : decode prog_7_method_17_code 23 = .ok (.iload_n 1, 1) := by decide +kernel
theorem d_Rows_sideTo_24 : decode prog_7_method_17_code 24 = .ok (.iaload, 1) := by decide +kernel
theorem d_Rows_sideTo_25 : decode prog_7_method_17_code 25 = .ok (.goto 11, 3) := by decide +kernel
theorem d_Rows_sideTo_28 : decode prog_7_method_17_code 28 = .ok (.aload_n 0, 1) := by decide +kernel
theorem d_Rows_sideTo_29 : decode prog_7_method_17_code 29 = .ok (.getfield 22, 3) := by decide +kernel
theorem d_Rows_sideTo_32 : decode prog_7_method_17_code 32 = .ok (.iload_n 1, 1) := by decide +kernel
theorem d_Rows_sideTo_33 : decode prog_7_method_17_code 33 = .ok (.iconst 1, 1) := by decide +kernel
theorem d_Rows_sideTo_34 : decode prog_7_method_17_code 34 = .ok (.iadd, 1) := by decide +kernel
theorem d_Rows_sideTo_35 : decode prog_7_method_17_code 35 = .ok (.iaload, 1) := by decide +kernel
theorem d_Rows_sideTo_36 : decode prog_7_method_17_code 36 = .ok (.ireturn, 1) := by decide +kernel
def y_Rows_put : MethodName := ⟨"MailQueries$Rows", "put", "(IJJ)Z"⟩
def rm_Rows_put : Room := { frames := 0, cells := 0, slots := 0, locals := 0 }
theorem d_Rows_put_0 : decode prog_7_method_13_code 0 = .ok (.aload_n 0, 1) := by decide +kernel
theorem d_Rows_put_1 : decode prog_7_method_13_code 1 = .ok (.getfield 18, 3) := by decide +kernel
theorem d_Rows_put_4 : decode prog_7_method_13_code 4 = .ok (.iload_n 1, 1) := by decide +kernel
theorem d_Rows_put_5 : decode prog_7_method_13_code 5 = .ok (.isub, 1) := by decide +kernel
theorem d_Rows_put_6 : decode prog_7_method_13_code 6 = .ok (.sipush 200, 3) := by decide +kernel
theorem d_Rows_put_9 : decode prog_7_method_13_code 9 = .ok (.if_icmp .ge 20, 3) := by decide +kernel
theorem d_Rows_put_12 : decode prog_7_method_13_code 12 = .ok (.aload_n 0, 1) := by decide +kernel
theorem d_Rows_put_13 : decode prog_7_method_13_code 13 = .ok (.getfield 18, 3) := by decide +kernel
theorem d_Rows_put_16 : decode prog_7_method_13_code 16 = .ok (.ifCond .lt 13, 3) := by decide +kernel
theorem d_Rows_put_19 : decode prog_7_method_13_code 19 = .ok (.aload_n 0, 1) := by decide +kernel
theorem d_Rows_put_20 : decode prog_7_method_13_code 20 = .ok (.getfield 18, 3) := by decide +kernel
theorem d_Rows_put_23 : decode prog_7_method_13_code 23 = .ok (.sipush 2400, 3) := by decide +kernel
theorem d_Rows_put_26 : decode prog_7_method_13_code 26 = .ok (.if_icmp .lt 5, 3) := by decide +kernel
theorem d_Rows_put_29 : decode prog_7_method_13_code 29 = .ok (.iconst 0, 1) := by decide +kernel
theorem d_Rows_put_30 : decode prog_7_method_13_code 30 = .ok (.ireturn, 1) := by decide +kernel
theorem d_Rows_put_31 : decode prog_7_method_13_code 31 = .ok (.aload_n 0, 1) := by decide +kernel
theorem d_Rows_put_32 : decode prog_7_method_13_code 32 = .ok (.getfield 11, 3) := by decide +kernel
theorem d_Rows_put_35 : decode prog_7_method_13_code 35 = .ok (.aload_n 0, 1) := by decide +kernel
theorem d_Rows_put_36 : decode prog_7_method_13_code 36 = .ok (.getfield 18, 3) := by decide +kernel
theorem d_Rows_put_39 : decode prog_7_method_13_code 39 = .ok (.lload_n 2, 1) := by decide +kernel
theorem d_Rows_put_40 : decode prog_7_method_13_code 40 = .ok (.lastore, 1) := by decide +kernel
theorem d_Rows_put_41 : decode prog_7_method_13_code 41 = .ok (.aload_n 0, 1) := by decide +kernel
theorem d_Rows_put_42 : decode prog_7_method_13_code 42 = .ok (.getfield 15, 3) := by decide +kernel
theorem d_Rows_put_45 : decode prog_7_method_13_code 45 = .ok (.aload_n 0, 1) := by decide +kernel
theorem d_Rows_put_46 : decode prog_7_method_13_code 46 = .ok (.getfield 18, 3) := by decide +kernel
theorem d_Rows_put_49 : decode prog_7_method_13_code 49 = .ok (.lload 4, 2) := by decide +kernel
theorem d_Rows_put_51 : decode prog_7_method_13_code 51 = .ok (.lastore, 1) := by decide +kernel
theorem d_Rows_put_52 : decode prog_7_method_13_code 52 = .ok (.aload_n 0, 1) := by decide +kernel
theorem d_Rows_put_53 : decode prog_7_method_13_code 53 = .ok (.dup, 1) := by decide +kernel
theorem d_Rows_put_54 : decode prog_7_method_13_code 54 = .ok (.getfield 18, 3) := by decide +kernel
theorem d_Rows_put_57 : decode prog_7_method_13_code 57 = .ok (.iconst 1, 1) := by decide +kernel
theorem d_Rows_put_58 : decode prog_7_method_13_code 58 = .ok (.iadd, 1) := by decide +kernel
theorem d_Rows_put_59 : decode prog_7_method_13_code 59 = .ok (.putfield 18, 3) := by decide +kernel
theorem d_Rows_put_62 : decode prog_7_method_13_code 62 = .ok (.iconst 1, 1) := by decide +kernel
theorem d_Rows_put_63 : decode prog_7_method_13_code 63 = .ok (.ireturn, 1) := by decide +kernel
def y_Rows_hasOneOf : MethodName := ⟨"MailQueries$Rows", "hasOneOf", "(IIIZ)Z"⟩
def rm_Rows_hasOneOf : Room := { frames := 0, cells := 0, slots := 0, locals := 0 }
theorem d_Rows_hasOneOf_0 : decode prog_7_method_15_code 0 = .ok (.aload_n 0, 1) := by decide +kernel
theorem d_Rows_hasOneOf_1 : decode prog_7_method_15_code 1 = .ok (.getfield 11, 3) := by decide +kernel
theorem d_Rows_hasOneOf_4 : decode prog_7_method_15_code 4 = .ok (.iload_n 1, 1) := by decide +kernel
theorem d_Rows_hasOneOf_5 : decode prog_7_method_15_code 5 = .ok (.laload, 1) := by decide +kernel
theorem d_Rows_hasOneOf_6 : decode prog_7_method_15_code 6 = .ok (.ldc2_w 142, 3) := by decide +kernel
theorem d_Rows_hasOneOf_9 : decode prog_7_method_15_code 9 = .ok (.lxor, 1) := by decide +kernel
theorem d_Rows_hasOneOf_10 : decode prog_7_method_15_code 10 = .ok (.lstore 5, 2) := by decide +kernel
theorem d_Rows_hasOneOf_12 : decode prog_7_method_15_code 12 = .ok (.aload_n 0, 1) := by decide +kernel
theorem d_Rows_hasOneOf_13 : decode prog_7_method_15_code 13 = .ok (.getfield 15, 3) := by decide +kernel
theorem d_Rows_hasOneOf_16 : decode prog_7_method_15_code 16 = .ok (.iload_n 1, 1) := by decide +kernel
theorem d_Rows_hasOneOf_17 : decode prog_7_method_15_code 17 = .ok (.laload, 1) := by decide +kernel
theorem d_Rows_hasOneOf_18 : decode prog_7_method_15_code 18 = .ok (.ldc2_w 142, 3) := by decide +kernel
theorem d_Rows_hasOneOf_21 : decode prog_7_method_15_code 21 = .ok (.lxor, 1) := by decide +kernel
theorem d_Rows_hasOneOf_22 : decode prog_7_method_15_code 22 = .ok (.lstore 7, 2) := by decide +kernel
theorem d_Rows_hasOneOf_24 : decode prog_7_method_15_code 24 = .ok (.iload_n 2, 1) := by decide +kernel
theorem d_Rows_hasOneOf_25 : decode prog_7_method_15_code 25 = .ok (.istore 9, 2) := by decide +kernel
theorem d_Rows_hasOneOf_27 : decode prog_7_method_15_code 27 = .ok (.iload 9, 2) := by decide +kernel
theorem d_Rows_hasOneOf_29 : decode prog_7_method_15_code 29 = .ok (.iload_n 3, 1) := by decide +kernel
theorem d_Rows_hasOneOf_30 : decode prog_7_method_15_code 30 = .ok (.if_icmp .ge 80, 3) := by decide +kernel
theorem d_Rows_hasOneOf_33 : decode prog_7_method_15_code 33 = .ok (.aload_n 0, 1) := by decide +kernel
theorem d_Rows_hasOneOf_34 : decode prog_7_method_15_code 34 = .ok (.getfield 11, 3) := by decide +kernel
theorem d_Rows_hasOneOf_37 : decode prog_7_method_15_code 37 = .ok (.iload 9, 2) := by decide +kernel
theorem d_Rows_hasOneOf_39 : decode prog_7_method_15_code 39 = .ok (.laload, 1) := by decide +kernel
theorem d_Rows_hasOneOf_40 : decode prog_7_method_15_code 40 = .ok (.lload 5, 2) := by decide +kernel
theorem d_Rows_hasOneOf_42 : decode prog_7_method_15_code 42 = .ok (.land, 1) := by decide +kernel
theorem d_Rows_hasOneOf_43 : decode prog_7_method_15_code 43 = .ok (.lconst 0, 1) := by decide +kernel
theorem d_Rows_hasOneOf_44 : decode prog_7_method_15_code 44 = .ok (.lcmp, 1) := by decide +kernel
theorem d_Rows_hasOneOf_45 : decode prog_7_method_15_code 45 = .ok (.ifCond .ne 59, 3) := by decide +kernel
theorem d_Rows_hasOneOf_48 : decode prog_7_method_15_code 48 = .ok (.aload_n 0, 1) := by decide +kernel
theorem d_Rows_hasOneOf_49 : decode prog_7_method_15_code 49 = .ok (.getfield 15, 3) := by decide +kernel
theorem d_Rows_hasOneOf_52 : decode prog_7_method_15_code 52 = .ok (.iload 9, 2) := by decide +kernel
theorem d_Rows_hasOneOf_54 : decode prog_7_method_15_code 54 = .ok (.laload, 1) := by decide +kernel
theorem d_Rows_hasOneOf_55 : decode prog_7_method_15_code 55 = .ok (.lload 7, 2) := by decide +kernel
theorem d_Rows_hasOneOf_57 : decode prog_7_method_15_code 57 = .ok (.land, 1) := by decide +kernel
theorem d_Rows_hasOneOf_58 : decode prog_7_method_15_code 58 = .ok (.lconst 0, 1) := by decide +kernel
theorem d_Rows_hasOneOf_59 : decode prog_7_method_15_code 59 = .ok (.lcmp, 1) := by decide +kernel
theorem d_Rows_hasOneOf_60 : decode prog_7_method_15_code 60 = .ok (.ifCond .ne 44, 3) := by decide +kernel
theorem d_Rows_hasOneOf_63 : decode prog_7_method_15_code 63 = .ok (.iload 4, 2) := by decide +kernel
theorem d_Rows_hasOneOf_65 : decode prog_7_method_15_code 65 = .ok (.ifCond .ne 37, 3) := by decide +kernel
theorem d_Rows_hasOneOf_68 : decode prog_7_method_15_code 68 = .ok (.aload_n 0, 1) := by decide +kernel
theorem d_Rows_hasOneOf_69 : decode prog_7_method_15_code 69 = .ok (.getfield 11, 3) := by decide +kernel
theorem d_Rows_hasOneOf_72 : decode prog_7_method_15_code 72 = .ok (.iload 9, 2) := by decide +kernel
theorem d_Rows_hasOneOf_74 : decode prog_7_method_15_code 74 = .ok (.laload, 1) := by decide +kernel
theorem d_Rows_hasOneOf_75 : decode prog_7_method_15_code 75 = .ok (.aload_n 0, 1) := by decide +kernel
theorem d_Rows_hasOneOf_76 : decode prog_7_method_15_code 76 = .ok (.getfield 11, 3) := by decide +kernel
theorem d_Rows_hasOneOf_79 : decode prog_7_method_15_code 79 = .ok (.iload_n 1, 1) := by decide +kernel
theorem d_Rows_hasOneOf_80 : decode prog_7_method_15_code 80 = .ok (.laload, 1) := by decide +kernel
theorem d_Rows_hasOneOf_81 : decode prog_7_method_15_code 81 = .ok (.lcmp, 1) := by decide +kernel
theorem d_Rows_hasOneOf_82 : decode prog_7_method_15_code 82 = .ok (.ifCond .ne 20, 3) := by decide +kernel
theorem d_Rows_hasOneOf_85 : decode prog_7_method_15_code 85 = .ok (.aload_n 0, 1) := by decide +kernel
theorem d_Rows_hasOneOf_86 : decode prog_7_method_15_code 86 = .ok (.getfield 15, 3) := by decide +kernel
theorem d_Rows_hasOneOf_89 : decode prog_7_method_15_code 89 = .ok (.iload 9, 2) := by decide +kernel
theorem d_Rows_hasOneOf_91 : decode prog_7_method_15_code 91 = .ok (.laload, 1) := by decide +kernel
theorem d_Rows_hasOneOf_92 : decode prog_7_method_15_code 92 = .ok (.aload_n 0, 1) := by decide +kernel
theorem d_Rows_hasOneOf_93 : decode prog_7_method_15_code 93 = .ok (.getfield 15, 3) := by decide +kernel
theorem d_Rows_hasOneOf_96 : decode prog_7_method_15_code 96 = .ok (.iload_n 1, 1) := by decide +kernel
theorem d_Rows_hasOneOf_97 : decode prog_7_method_15_code 97 = .ok (.laload, 1) := by decide +kernel
theorem d_Rows_hasOneOf_98 : decode prog_7_method_15_code 98 = .ok (.lcmp, 1) := by decide +kernel
theorem d_Rows_hasOneOf_99 : decode prog_7_method_15_code 99 = .ok (.ifCond .eq 5, 3) := by decide +kernel
theorem d_Rows_hasOneOf_102 : decode prog_7_method_15_code 102 = .ok (.iconst 1, 1) := by decide +kernel
theorem d_Rows_hasOneOf_103 : decode prog_7_method_15_code 103 = .ok (.ireturn, 1) := by decide +kernel
theorem d_Rows_hasOneOf_104 : decode prog_7_method_15_code 104 = .ok (.iinc 9 1, 3) := by decide +kernel
theorem d_Rows_hasOneOf_107 : decode prog_7_method_15_code 107 = .ok (.goto (-80), 3) := by decide +kernel
theorem d_Rows_hasOneOf_110 : decode prog_7_method_15_code 110 = .ok (.iconst 0, 1) := by decide +kernel
theorem d_Rows_hasOneOf_111 : decode prog_7_method_15_code 111 = .ok (.ireturn, 1) := by decide +kernel
def y_Rows_leaveOut : MethodName := ⟨"MailQueries$Rows", "leaveOut", "(I)V"⟩
def rm_Rows_leaveOut : Room := { frames := 1, cells := 0, slots := 0, locals := 29 }
theorem d_Rows_leaveOut_0 : decode prog_7_method_14_code 0 = .ok (.aload_n 0, 1) := by decide +kernel
theorem d_Rows_leaveOut_1 : decode prog_7_method_14_code 1 = .ok (.getfield 18, 3) := by decide +kernel
theorem d_Rows_leaveOut_4 : decode prog_7_method_14_code 4 = .ok (.istore_n 2, 1) := by decide +kernel
theorem d_Rows_leaveOut_5 : decode prog_7_method_14_code 5 = .ok (.iload_n 1, 1) := by decide +kernel
theorem d_Rows_leaveOut_6 : decode prog_7_method_14_code 6 = .ok (.istore_n 3, 1) := by decide +kernel
theorem d_Rows_leaveOut_7 : decode prog_7_method_14_code 7 = .ok (.iload_n 1, 1) := by decide +kernel
theorem d_Rows_leaveOut_8 : decode prog_7_method_14_code 8 = .ok (.istore 4, 2) := by decide +kernel
theorem d_Rows_leaveOut_10 : decode prog_7_method_14_code 10 = .ok (.iload 4, 2) := by decide +kernel
theorem d_Rows_leaveOut_12 : decode prog_7_method_14_code 12 = .ok (.iload_n 2, 1) := by decide +kernel
theorem d_Rows_leaveOut_13 : decode prog_7_method_14_code 13 = .ok (.if_icmp .ge 65, 3) := by decide +kernel
theorem d_Rows_leaveOut_16 : decode prog_7_method_14_code 16 = .ok (.aload_n 0, 1) := by decide +kernel
theorem d_Rows_leaveOut_17 : decode prog_7_method_14_code 17 = .ok (.iload 4, 2) := by decide +kernel
theorem d_Rows_leaveOut_19 : decode prog_7_method_14_code 19 = .ok (.iload_n 1, 1) := by decide +kernel
theorem d_Rows_leaveOut_20 : decode prog_7_method_14_code 20 = .ok (.iload_n 3, 1) := by decide +kernel
theorem d_Rows_leaveOut_21 : decode prog_7_method_14_code 21 = .ok (.iconst 1, 1) := by decide +kernel
theorem d_Rows_leaveOut_22 : decode prog_7_method_14_code 22 = .ok (.invokevirtual 138, 3) := by decide +kernel
theorem d_Rows_leaveOut_25 : decode prog_7_method_14_code 25 = .ok (.ifCond .ne 47, 3) := by decide +kernel
theorem d_Rows_leaveOut_28 : decode prog_7_method_14_code 28 = .ok (.aload_n 0, 1) := by decide +kernel
theorem d_Rows_leaveOut_29 : decode prog_7_method_14_code 29 = .ok (.iload 4, 2) := by decide +kernel
theorem d_Rows_leaveOut_31 : decode prog_7_method_14_code 31 = .ok (.iload 4, 2) := by decide +kernel
theorem d_Rows_leaveOut_33 : decode prog_7_method_14_code 33 = .ok (.iconst 1, 1) := by decide +kernel
theorem d_Rows_leaveOut_34 : decode prog_7_method_14_code 34 = .ok (.iadd, 1) := by decide +kernel
theorem d_Rows_leaveOut_35 : decode prog_7_method_14_code 35 = .ok (.iload_n 2, 1) := by decide +kernel
theorem d_Rows_leaveOut_36 : decode prog_7_method_14_code 36 = .ok (.iconst 0, 1) := by decide +kernel
theorem d_Rows_leaveOut_37 : decode prog_7_method_14_code 37 = .ok (.invokevirtual 138, 3) := by decide +kernel
theorem d_Rows_leaveOut_40 : decode prog_7_method_14_code 40 = .ok (.ifCond .ne 32, 3) := by decide +kernel
theorem d_Rows_leaveOut_43 : decode prog_7_method_14_code 43 = .ok (.aload_n 0, 1) := by decide +kernel
theorem d_Rows_leaveOut_44 : decode prog_7_method_14_code 44 = .ok (.getfield 11, 3) := by decide +kernel
theorem d_Rows_leaveOut_47 : decode prog_7_method_14_code 47 = .ok (.iload_n 3, 1) := by decide +kernel
theorem d_Rows_leaveOut_48 : decode prog_7_method_14_code 48 = .ok (.aload_n 0, 1) := by decide +kernel
theorem d_Rows_leaveOut_49 : decode prog_7_method_14_code 49 = .ok (.getfield 11, 3) := by decide +kernel
theorem d_Rows_leaveOut_52 : decode prog_7_method_14_code 52 = .ok (.iload 4, 2) := by decide +kernel
theorem d_Rows_leaveOut_54 : decode prog_7_method_14_code 54 = .ok (.laload, 1) := by decide +kernel
theorem d_Rows_leaveOut_55 : decode prog_7_method_14_code 55 = .ok (.lastore, 1) := by decide +kernel
theorem d_Rows_leaveOut_56 : decode prog_7_method_14_code 56 = .ok (.aload_n 0, 1) := by decide +kernel
theorem d_Rows_leaveOut_57 : decode prog_7_method_14_code 57 = .ok (.getfield 15, 3) := by decide +kernel
theorem d_Rows_leaveOut_60 : decode prog_7_method_14_code 60 = .ok (.iload_n 3, 1) := by decide +kernel
theorem d_Rows_leaveOut_61 : decode prog_7_method_14_code 61 = .ok (.aload_n 0, 1) := by decide +kernel
theorem d_Rows_leaveOut_62 : decode prog_7_method_14_code 62 = .ok (.getfield 15, 3) := by decide +kernel
theorem d_Rows_leaveOut_65 : decode prog_7_method_14_code 65 = .ok (.iload 4, 2) := by decide +kernel
theorem d_Rows_leaveOut_67 : decode prog_7_method_14_code 67 = .ok (.laload, 1) := by decide +kernel
theorem d_Rows_leaveOut_68 : decode prog_7_method_14_code 68 = .ok (.lastore, 1) := by decide +kernel
theorem d_Rows_leaveOut_69 : decode prog_7_method_14_code 69 = .ok (.iinc 3 1, 3) := by decide +kernel
theorem d_Rows_leaveOut_72 : decode prog_7_method_14_code 72 = .ok (.iinc 4 1, 3) := by decide +kernel
theorem d_Rows_leaveOut_75 : decode prog_7_method_14_code 75 = .ok (.goto (-65), 3) := by decide +kernel
theorem d_Rows_leaveOut_78 : decode prog_7_method_14_code 78 = .ok (.aload_n 0, 1) := by decide +kernel
theorem d_Rows_leaveOut_79 : decode prog_7_method_14_code 79 = .ok (.iload_n 3, 1) := by decide +kernel
theorem d_Rows_leaveOut_80 : decode prog_7_method_14_code 80 = .ok (.putfield 18, 3) := by decide +kernel
theorem d_Rows_leaveOut_83 : decode prog_7_method_14_code 83 = .ok (.return_, 1) := by decide +kernel
def y_Rows_putSide : MethodName := ⟨"MailQueries$Rows", "putSide", "(III)Z"⟩
def rm_Rows_putSide : Room := { frames := 1, cells := 0, slots := 0, locals := 25 }
theorem d_Rows_putSide_0 : decode prog_7_method_12_code 0 = .ok (.aload_n 0, 1) := by decide +kernel
theorem d_Rows_putSide_1 : decode prog_7_method_12_code 1 = .ok (.iload_n 2, 1) := by decide +kernel
theorem d_Rows_putSide_2 : decode prog_7_method_12_code 2 = .ok (.iload_n 3, 1) := by decide +kernel
theorem d_Rows_putSide_3 : decode prog_7_method_12_code 3 = .ok (.invokevirtual 83, 3) := by decide +kernel
theorem d_Rows_putSide_6 : decode prog_7_method_12_code 6 = .ok (.istore 4, 2) := by decide +kernel
theorem d_Rows_putSide_8 : decode prog_7_method_12_code 8 = .ok (.aload_n 0, 1) := by decide +kernel
theorem d_Rows_putSide_9 : decode prog_7_method_12_code 9 = .ok (.iload_n 2, 1) := by decide +kernel
theorem d_Rows_putSide_10 : decode prog_7_method_12_code 10 = .ok (.iload_n 3, 1) := by decide +kernel
theorem d_Rows_putSide_11 : decode prog_7_method_12_code 11 = .ok (.invokevirtual 135, 3) := by decide +kernel
theorem d_Rows_putSide_14 : decode prog_7_method_12_code 14 = .ok (.istore 5, 2) := by decide +kernel
theorem d_Rows_putSide_16 : decode prog_7_method_12_code 16 = .ok (.iload 5, 2) := by decide +kernel
theorem d_Rows_putSide_18 : decode prog_7_method_12_code 18 = .ok (.iload 4, 2) := by decide +kernel
theorem d_Rows_putSide_20 : decode prog_7_method_12_code 20 = .ok (.if_icmp .ge 33, 3) := by decide +kernel
theorem d_Rows_putSide_23 : decode prog_7_method_12_code 23 = .ok (.aload_n 0, 1) := by decide +kernel
theorem d_Rows_putSide_24 : decode prog_7_method_12_code 24 = .ok (.iload_n 1, 1) := by decide +kernel
theorem d_Rows_putSide_25 : decode prog_7_method_12_code 25 = .ok (.aload_n 0, 1) := by decide +kernel
theorem d_Rows_putSide_26 : decode prog_7_method_12_code 26 = .ok (.getfield 11, 3) := by decide +kernel
theorem d_Rows_putSide_29 : decode prog_7_method_12_code 29 = .ok (.iload 5, 2) := by decide +kernel
theorem d_Rows_putSide_31 : decode prog_7_method_12_code 31 = .ok (.laload, 1) := by decide +kernel
theorem d_Rows_putSide_32 : decode prog_7_method_12_code 32 = .ok (.aload_n 0, 1) := by decide +kernel
theorem d_Rows_putSide_33 : decode prog_7_method_12_code 33 = .ok (.getfield 15, 3) := by decide +kernel
theorem d_Rows_putSide_36 : decode prog_7_method_12_code 36 = .ok (.iload 5, 2) := by decide +kernel
theorem d_Rows_putSide_38 : decode prog_7_method_12_code 38 = .ok (.laload, 1) := by decide +kernel
theorem d_Rows_putSide_39 : decode prog_7_method_12_code 39 = .ok (.invokevirtual 58, 3) := by decide +kernel
theorem d_Rows_putSide_42 : decode prog_7_method_12_code 42 = .ok (.ifCond .ne 5, 3) := by decide +kernel
theorem d_Rows_putSide_45 : decode prog_7_method_12_code 45 = .ok (.iconst 0, 1) := by decide +kernel
theorem d_Rows_putSide_46 : decode prog_7_method_12_code 46 = .ok (.ireturn, 1) := by decide +kernel
theorem d_Rows_putSide_47 : decode prog_7_method_12_code 47 = .ok (.iinc 5 1, 3) := by decide +kernel
theorem d_Rows_putSide_50 : decode prog_7_method_12_code 50 = .ok (.goto (-34), 3) := by decide +kernel
theorem d_Rows_putSide_53 : decode prog_7_method_12_code 53 = .ok (.iconst 1, 1) := by decide +kernel
theorem d_Rows_putSide_54 : decode prog_7_method_12_code 54 = .ok (.ireturn, 1) := by decide +kernel
def y_Rows_putPairs : MethodName := ⟨"MailQueries$Rows", "putPairs", "(II)Z"⟩
def rm_Rows_putPairs : Room := { frames := 2, cells := 0, slots := 0, locals := 53 }
theorem d_Rows_putPairs_0 : decode prog_7_method_11_code 0 = .ok (.aload_n 0, 1) := by decide +kernel
theorem d_Rows_putPairs_1 : decode prog_7_method_11_code 1 = .ok (.getfield 18, 3) := by decide +kernel
theorem d_Rows_putPairs_4 : decode prog_7_method_11_code 4 = .ok (.istore_n 3, 1) := by decide +kernel
theorem d_Rows_putPairs_5 : decode prog_7_method_11_code 5 = .ok (.aload_n 0, 1) := by decide +kernel
theorem d_Rows_putPairs_6 : decode prog_7_method_11_code 6 = .ok (.aload_n 0, 1) := by decide +kernel
theorem d_Rows_putPairs_7 : decode prog_7_method_11_code 7 = .ok (.getfield 29, 3) := by decide +kernel
theorem d_Rows_putPairs_10 : decode prog_7_method_11_code 10 = .ok (.iconst 1, 1) := by decide +kernel
theorem d_Rows_putPairs_11 : decode prog_7_method_11_code 11 = .ok (.isub, 1) := by decide +kernel
theorem d_Rows_putPairs_12 : decode prog_7_method_11_code 12 = .ok (.iload_n 1, 1) := by decide +kernel
theorem d_Rows_putPairs_13 : decode prog_7_method_11_code 13 = .ok (.invokevirtual 83, 3) := by decide +kernel
theorem d_Rows_putPairs_16 : decode prog_7_method_11_code 16 = .ok (.istore 4, 2) := by decide +kernel
theorem d_Rows_putPairs_18 : decode prog_7_method_11_code 18 = .ok (.aload_n 0, 1) := by decide +kernel
theorem d_Rows_putPairs_19 : decode prog_7_method_11_code 19 = .ok (.aload_n 0, 1) := by decide +kernel
theorem d_Rows_putPairs_20 : decode prog_7_method_11_code 20 = .ok (.getfield 29, 3) := by decide +kernel
theorem d_Rows_putPairs_23 : decode prog_7_method_11_code 23 = .ok (.iconst 2, 1) := by decide +kernel
theorem d_Rows_putPairs_24 : decode prog_7_method_11_code 24 = .ok (.isub, 1) := by decide +kernel
theorem d_Rows_putPairs_25 : decode prog_7_method_11_code 25 = .ok (.iload_n 2, 1) := by decide +kernel
theorem d_Rows_putPairs_26 : decode prog_7_method_11_code 26 = .ok (.invokevirtual 135, 3) := by decide +kernel
theorem d_Rows_putPairs_29 : decode prog_7_method_11_code 29 = .ok (.istore 5, 2) := by decide +kernel
theorem d_Rows_putPairs_31 : decode prog_7_method_11_code 31 = .ok (.aload_n 0, 1) := by decide +kernel
theorem d_Rows_putPairs_32 : decode prog_7_method_11_code 32 = .ok (.aload_n 0, 1) := by decide +kernel
theorem d_Rows_putPairs_33 : decode prog_7_method_11_code 33 = .ok (.getfield 29, 3) := by decide +kernel
theorem d_Rows_putPairs_36 : decode prog_7_method_11_code 36 = .ok (.iconst 2, 1) := by decide +kernel
theorem d_Rows_putPairs_37 : decode prog_7_method_11_code 37 = .ok (.isub, 1) := by decide +kernel
theorem d_Rows_putPairs_38 : decode prog_7_method_11_code 38 = .ok (.iload_n 2, 1) := by decide +kernel
theorem d_Rows_putPairs_39 : decode prog_7_method_11_code 39 = .ok (.invokevirtual 83, 3) := by decide +kernel
theorem d_Rows_putPairs_42 : decode prog_7_method_11_code 42 = .ok (.istore 6, 2) := by decide +kernel
theorem d_Rows_putPairs_44 : decode prog_7_method_11_code 44 = .ok (.aload_n 0, 1) := by decide +kernel
theorem d_Rows_putPairs_45 : decode prog_7_method_11_code 45 = .ok (.aload_n 0, 1) := by decide +kernel
theorem d_Rows_putPairs_46 : decode prog_7_method_11_code 46 = .ok (.getfield 29, 3) := by decide +kernel
theorem d_Rows_putPairs_49 : decode prog_7_method_11_code 49 = .ok (.iconst 1, 1) := by decide +kernel
theorem d_Rows_putPairs_50 : decode prog_7_method_11_code 50 = .ok (.isub, 1) := by decide +kernel
theorem d_Rows_putPairs_51 : decode prog_7_method_11_code 51 = .ok (.iload_n 1, 1) := by decide +kernel
theorem d_Rows_putPairs_52 : decode prog_7_method_11_code 52 = .ok (.invokevirtual 135, 3) := by decide +kernel
theorem d_Rows_putPairs_55 : decode prog_7_method_11_code 55 = .ok (.istore 7, 2) := by decide +kernel
theorem d_Rows_putPairs_57 : decode prog_7_method_11_code 57 = .ok (.iload 7, 2) := by decide +kernel
theorem d_Rows_putPairs_59 : decode prog_7_method_11_code 59 = .ok (.iload 4, 2) := by decide +kernel
theorem d_Rows_putPairs_61 : decode prog_7_method_11_code 61 = .ok (.if_icmp .ge 84, 3) := by decide +kernel
theorem d_Rows_putPairs_64 : decode prog_7_method_11_code 64 = .ok (.iload 5, 2) := by decide +kernel
theorem d_Rows_putPairs_66 : decode prog_7_method_11_code 66 = .ok (.istore 8, 2) := by decide +kernel
theorem d_Rows_putPairs_68 : decode prog_7_method_11_code 68 = .ok (.iload 8, 2) := by decide +kernel
theorem d_Rows_putPairs_70 : decode prog_7_method_11_code 70 = .ok (.iload 6, 2) := by decide +kernel
theorem d_Rows_putPairs_72 : decode prog_7_method_11_code 72 = .ok (.if_icmp .ge 67, 3) := by decide +kernel
theorem d_Rows_putPairs_75 : decode prog_7_method_11_code 75 = .ok (.aload_n 0, 1) := by decide +kernel
theorem d_Rows_putPairs_76 : decode prog_7_method_11_code 76 = .ok (.getfield 11, 3) := by decide +kernel
theorem d_Rows_putPairs_79 : decode prog_7_method_11_code 79 = .ok (.iload 7, 2) := by decide +kernel
theorem d_Rows_putPairs_81 : decode prog_7_method_11_code 81 = .ok (.laload, 1) := by decide +kernel
theorem d_Rows_putPairs_82 : decode prog_7_method_11_code 82 = .ok (.aload_n 0, 1) := by decide +kernel
theorem d_Rows_putPairs_83 : decode prog_7_method_11_code 83 = .ok (.getfield 11, 3) := by decide +kernel
theorem d_Rows_putPairs_86 : decode prog_7_method_11_code 86 = .ok (.iload 8, 2) := by decide +kernel
theorem d_Rows_putPairs_88 : decode prog_7_method_11_code 88 = .ok (.laload, 1) := by decide +kernel
theorem d_Rows_putPairs_89 : decode prog_7_method_11_code 89 = .ok (.lor, 1) := by decide +kernel
theorem d_Rows_putPairs_90 : decode prog_7_method_11_code 90 = .ok (.lstore 9, 2) := by decide +kernel
theorem d_Rows_putPairs_92 : decode prog_7_method_11_code 92 = .ok (.aload_n 0, 1) := by decide +kernel
theorem d_Rows_putPairs_93 : decode prog_7_method_11_code 93 = .ok (.getfield 15, 3) := by decide +kernel
theorem d_Rows_putPairs_96 : decode prog_7_method_11_code 96 = .ok (.iload 7, 2) := by decide +kernel
theorem d_Rows_putPairs_98 : decode prog_7_method_11_code 98 = .ok (.laload, 1) := by decide +kernel
theorem d_Rows_putPairs_99 : decode prog_7_method_11_code 99 = .ok (.aload_n 0, 1) := by decide +kernel
theorem d_Rows_putPairs_100 : decode prog_7_method_11_code 100 = .ok (.getfield 15, 3) := by decide +kernel
theorem d_Rows_putPairs_103 : decode prog_7_method_11_code 103 = .ok (.iload 8, 2) := by decide +kernel
theorem d_Rows_putPairs_105 : decode prog_7_method_11_code 105 = .ok (.laload, 1) := by decide +kernel
theorem d_Rows_putPairs_106 : decode prog_7_method_11_code 106 = .ok (.lor, 1) := by decide +kernel
theorem d_Rows_putPairs_107 : decode prog_7_method_11_code 107 = .ok (.lstore 11, 2) := by decide +kernel
theorem d_Rows_putPairs_109 : decode prog_7_method_11_code 109 = .ok (.lload 9, 2) := by decide +kernel
theorem d_Rows_putPairs_111 : decode prog_7_method_11_code 111 = .ok (.lload 11, 2) := by decide +kernel
theorem d_Rows_putPairs_113 : decode prog_7_method_11_code 113 = .ok (.land, 1) := by decide +kernel
theorem d_Rows_putPairs_114 : decode prog_7_method_11_code 114 = .ok (.lconst 0, 1) := by decide +kernel
theorem d_Rows_putPairs_115 : decode prog_7_method_11_code 115 = .ok (.lcmp, 1) := by decide +kernel
theorem d_Rows_putPairs_116 : decode prog_7_method_11_code 116 = .ok (.ifCond .ne 17, 3) := by decide +kernel
theorem d_Rows_putPairs_119 : decode prog_7_method_11_code 119 = .ok (.aload_n 0, 1) := by decide +kernel
theorem d_Rows_putPairs_120 : decode prog_7_method_11_code 120 = .ok (.iload_n 3, 1) := by decide +kernel
theorem d_Rows_putPairs_121 : decode prog_7_method_11_code 121 = .ok (.lload 9, 2) := by decide +kernel
theorem d_Rows_putPairs_123 : decode prog_7_method_11_code 123 = .ok (.lload 11, 2) := by decide +kernel
theorem d_Rows_putPairs_125 : decode prog_7_method_11_code 125 = .ok (.invokevirtual 58, 3) := by decide +kernel
theorem d_Rows_putPairs_128 : decode prog_7_method_11_code 128 = .ok (.ifCond .ne 5, 3) := by decide +kernel
theorem d_Rows_putPairs_131 : decode prog_7_method_11_code 131 = .ok (.iconst 0, 1) := by decide +kernel
theorem d_Rows_putPairs_132 : decode prog_7_method_11_code 132 = .ok (.ireturn, 1) := by decide +kernel
theorem d_Rows_putPairs_133 : decode prog_7_method_11_code 133 = .ok (.iinc 8 1, 3) := by decide +kernel
theorem d_Rows_putPairs_136 : decode prog_7_method_11_code 136 = .ok (.goto (-68), 3) := by decide +kernel
theorem d_Rows_putPairs_139 : decode prog_7_method_11_code 139 = .ok (.iinc 7 1, 3) := by decide +kernel
theorem d_Rows_putPairs_142 : decode prog_7_method_11_code 142 = .ok (.goto (-85), 3) := by decide +kernel
theorem d_Rows_putPairs_145 : decode prog_7_method_11_code 145 = .ok (.aload_n 0, 1) := by decide +kernel
theorem d_Rows_putPairs_146 : decode prog_7_method_11_code 146 = .ok (.iload_n 3, 1) := by decide +kernel
theorem d_Rows_putPairs_147 : decode prog_7_method_11_code 147 = .ok (.invokevirtual 132, 3) := by decide +kernel
theorem d_Rows_putPairs_150 : decode prog_7_method_11_code 150 = .ok (.iconst 1, 1) := by decide +kernel
theorem d_Rows_putPairs_151 : decode prog_7_method_11_code 151 = .ok (.ireturn, 1) := by decide +kernel
def y_Rows_putAny : MethodName := ⟨"MailQueries$Rows", "putAny", "(I)Z"⟩
def rm_Rows_putAny : Room := { frames := 2, cells := 0, slots := 0, locals := 53 }
theorem d_Rows_putAny_0 : decode prog_7_method_10_code 0 = .ok (.aload_n 0, 1) := by decide +kernel
theorem d_Rows_putAny_1 : decode prog_7_method_10_code 1 = .ok (.getfield 18, 3) := by decide +kernel
theorem d_Rows_putAny_4 : decode prog_7_method_10_code 4 = .ok (.istore_n 2, 1) := by decide +kernel
theorem d_Rows_putAny_5 : decode prog_7_method_10_code 5 = .ok (.aload_n 0, 1) := by decide +kernel
theorem d_Rows_putAny_6 : decode prog_7_method_10_code 6 = .ok (.iload_n 2, 1) := by decide +kernel
theorem d_Rows_putAny_7 : decode prog_7_method_10_code 7 = .ok (.aload_n 0, 1) := by decide +kernel
theorem d_Rows_putAny_8 : decode prog_7_method_10_code 8 = .ok (.getfield 29, 3) := by decide +kernel
theorem d_Rows_putAny_11 : decode prog_7_method_10_code 11 = .ok (.iconst 1, 1) := by decide +kernel
theorem d_Rows_putAny_12 : decode prog_7_method_10_code 12 = .ok (.isub, 1) := by decide +kernel
theorem d_Rows_putAny_13 : decode prog_7_method_10_code 13 = .ok (.iload_n 1, 1) := by decide +kernel
theorem d_Rows_putAny_14 : decode prog_7_method_10_code 14 = .ok (.invokevirtual 112, 3) := by decide +kernel
theorem d_Rows_putAny_17 : decode prog_7_method_10_code 17 = .ok (.ifCond .eq 18, 3) := by decide +kernel
theorem d_Rows_putAny_20 : decode prog_7_method_10_code 20 = .ok (.aload_n 0, 1) := by decide +kernel
theorem d_Rows_putAny_21 : decode prog_7_method_10_code 21 = .ok (.iload_n 2, 1) := by decide +kernel
theorem d_Rows_putAny_22 : decode prog_7_method_10_code 22 = .ok (.aload_n 0, 1) := by decide +kernel
theorem d_Rows_putAny_23 : decode prog_7_method_10_code 23 = .ok (.getfield 29, 3) := by decide +kernel
theorem d_Rows_putAny_26 : decode prog_7_method_10_code 26 = .ok (.iconst 2, 1) := by decide +kernel
theorem d_Rows_putAny_27 : decode prog_7_method_10_code 27 = .ok (.isub, 1) := by decide +kernel
theorem d_Rows_putAny_28 : decode prog_7_method_10_code 28 = .ok (.iload_n 1, 1) := by decide +kernel
theorem d_Rows_putAny_29 : decode prog_7_method_10_code 29 = .ok (.invokevirtual 112, 3) := by decide +kernel
theorem d_Rows_putAny_32 : decode prog_7_method_10_code 32 = .ok (.ifCond .ne 5, 3) := by decide +kernel
theorem d_Rows_putAny_35 : decode prog_7_method_10_code 35 = .ok (.iconst 0, 1) := by decide +kernel
theorem d_Rows_putAny_36 : decode prog_7_method_10_code 36 = .ok (.ireturn, 1) := by decide +kernel
theorem d_Rows_putAny_37 : decode prog_7_method_10_code 37 = .ok (.aload_n 0, 1) := by decide +kernel
theorem d_Rows_putAny_38 : decode prog_7_method_10_code 38 = .ok (.iload_n 2, 1) := by decide +kernel
theorem d_Rows_putAny_39 : decode prog_7_method_10_code 39 = .ok (.invokevirtual 132, 3) := by decide +kernel
theorem d_Rows_putAny_42 : decode prog_7_method_10_code 42 = .ok (.iconst 1, 1) := by decide +kernel
theorem d_Rows_putAny_43 : decode prog_7_method_10_code 43 = .ok (.ireturn, 1) := by decide +kernel
def y_Rows_putEither : MethodName := ⟨"MailQueries$Rows", "putEither", "(IIII)Z"⟩
def rm_Rows_putEither : Room := { frames := 3, cells := 0, slots := 0, locals := 85 }
theorem d_Rows_putEither_0 : decode prog_7_method_9_code 0 = .ok (.aload_n 0, 1) := by decide +kernel
theorem d_Rows_putEither_1 : decode prog_7_method_9_code 1 = .ok (.getfield 18, 3) := by decide +kernel
theorem d_Rows_putEither_4 : decode prog_7_method_9_code 4 = .ok (.istore 5, 2) := by decide +kernel
theorem d_Rows_putEither_6 : decode prog_7_method_9_code 6 = .ok (.aload_n 0, 1) := by decide +kernel
theorem d_Rows_putEither_7 : decode prog_7_method_9_code 7 = .ok (.iload_n 1, 1) := by decide +kernel
theorem d_Rows_putEither_8 : decode prog_7_method_9_code 8 = .ok (.iload_n 2, 1) := by decide +kernel
theorem d_Rows_putEither_9 : decode prog_7_method_9_code 9 = .ok (.invokevirtual 129, 3) := by decide +kernel
theorem d_Rows_putEither_12 : decode prog_7_method_9_code 12 = .ok (.ifCond .eq 26, 3) := by decide +kernel
theorem d_Rows_putEither_15 : decode prog_7_method_9_code 15 = .ok (.aload_n 0, 1) := by decide +kernel
theorem d_Rows_putEither_16 : decode prog_7_method_9_code 16 = .ok (.iload_n 3, 1) := by decide +kernel
theorem d_Rows_putEither_17 : decode prog_7_method_9_code 17 = .ok (.iload 4, 2) := by decide +kernel
theorem d_Rows_putEither_19 : decode prog_7_method_9_code 19 = .ok (.invokevirtual 129, 3) := by decide +kernel
theorem d_Rows_putEither_22 : decode prog_7_method_9_code 22 = .ok (.ifCond .eq 16, 3) := by decide +kernel
theorem d_Rows_putEither_25 : decode prog_7_method_9_code 25 = .ok (.aload_n 0, 1) := by decide +kernel
theorem d_Rows_putEither_26 : decode prog_7_method_9_code 26 = .ok (.getfield 18, 3) := by decide +kernel
theorem d_Rows_putEither_29 : decode prog_7_method_9_code 29 = .ok (.iload 5, 2) := by decide +kernel
theorem d_Rows_putEither_31 : decode prog_7_method_9_code 31 = .ok (.isub, 1) := by decide +kernel
theorem d_Rows_putEither_32 : decode prog_7_method_9_code 32 = .ok (.sipush 200, 3) := by decide +kernel
theorem d_Rows_putEither_35 : decode prog_7_method_9_code 35 = .ok (.if_icmp .le 5, 3) := by decide +kernel
theorem d_Rows_putEither_38 : decode prog_7_method_9_code 38 = .ok (.iconst 0, 1) := by decide +kernel
theorem d_Rows_putEither_39 : decode prog_7_method_9_code 39 = .ok (.ireturn, 1) := by decide +kernel
theorem d_Rows_putEither_40 : decode prog_7_method_9_code 40 = .ok (.aload_n 0, 1) := by decide +kernel
theorem d_Rows_putEither_41 : decode prog_7_method_9_code 41 = .ok (.iload 5, 2) := by decide +kernel
theorem d_Rows_putEither_43 : decode prog_7_method_9_code 43 = .ok (.invokevirtual 132, 3) := by decide +kernel
theorem d_Rows_putEither_46 : decode prog_7_method_9_code 46 = .ok (.iconst 1, 1) := by decide +kernel
theorem d_Rows_putEither_47 : decode prog_7_method_9_code 47 = .ok (.ireturn, 1) := by decide +kernel
theorem mb_Rows_bitsOf : Mb y_Rows_bitsOf prog_7_method_2_code 3 (some .long) 2 := ⟨W_Rows_bitsOf_code, W_Rows_bitsOf_in, W_Rows_bitsOf_se, I_Rows, by decide +kernel, by decide +kernel, by decide +kernel⟩
theorem mb_Rows_sideFrom : Mb y_Rows_sideFrom prog_7_method_16_code 3 (some .int) 2 := ⟨W_Rows_sideFrom_code, W_Rows_sideFrom_in, sel_13, I_Rows, by decide +kernel, by decide +kernel, by decide +kernel⟩
theorem mb_Rows_sideTo : Mb y_Rows_sideTo prog_7_method_17_code 3 (some .int) 2 := ⟨W_Rows_sideTo_code, W_Rows_sideTo_in, sel_12, I_Rows, by decide +kernel, by decide +kernel, by decide +kernel⟩
theorem mb_Rows_put : Mb y_Rows_put prog_7_method_13_code 6 (some .boolean) 3 := ⟨W_Rows_put_code, W_Rows_put_in, sel_6, I_Rows, by decide +kernel, by decide +kernel, by decide +kernel⟩
theorem mb_Rows_hasOneOf : Mb y_Rows_hasOneOf prog_7_method_15_code 10 (some .boolean) 4 := ⟨W_Rows_hasOneOf_code, W_Rows_hasOneOf_in, sel_18, I_Rows, by decide +kernel, by decide +kernel, by decide +kernel⟩
theorem mb_Rows_leaveOut : Mb y_Rows_leaveOut prog_7_method_14_code 5 none 1 := ⟨W_Rows_leaveOut_code, W_Rows_leaveOut_in, sel_17, I_Rows, by decide +kernel, by decide +kernel, by decide +kernel⟩
theorem mb_Rows_putSide : Mb y_Rows_putSide prog_7_method_12_code 6 (some .boolean) 3 := ⟨W_Rows_putSide_code, W_Rows_putSide_in, sel_11, I_Rows, by decide +kernel, by decide +kernel, by decide +kernel⟩
theorem mb_Rows_putPairs : Mb y_Rows_putPairs prog_7_method_11_code 13 (some .boolean) 2 := ⟨W_Rows_putPairs_code, W_Rows_putPairs_in, sel_16, I_Rows, by decide +kernel, by decide +kernel, by decide +kernel⟩
theorem mb_Rows_putAny : Mb y_Rows_putAny prog_7_method_10_code 3 (some .boolean) 1 := ⟨W_Rows_putAny_code, W_Rows_putAny_in, sel_19, I_Rows, by decide +kernel, by decide +kernel, by decide +kernel⟩
theorem mb_Rows_putEither : Mb y_Rows_putEither prog_7_method_9_code 6 (some .boolean) 4 := ⟨W_Rows_putEither_code, W_Rows_putEither_in, sel_15, I_Rows, by decide +kernel, by decide +kernel, by decide +kernel⟩
def Rows_bitsOf (F : Nat) (t : StI) (tL : StL) (x1 : Int32) (x2 : Int32) : Option (Int64) := if x1 < 0 then some (0 : Int64) else if x1 < (t 10 0) then if x2 = 0 then if x1 < 0 ∨ 200 ≤ x1.toNatClampNeg then none else some ((tL 8) x1.toNatClampNeg) else if x1 < 0 ∨ 200 ≤ x1.toNatClampNeg then none else some ((tL 9) x1.toNatClampNeg) else some (0 : Int64)
set_option maxHeartbeats 4000000 in
set_option maxRecDepth 100000 in
theorem k_Rows_bitsOf {p : Program} {l : Launch} {e : Env} {s : State} {m : MethodId} {args : Array Value} {below : List Frame} {meth : Method} {c : Code} {g : Gz} {A2 A : Nat → Prop} {F : Nat} {a_t : Nat → Nat} {r_pile : Nat} (hC : Cx prog_7_method_2_code 3 (some .long) R_Rows p s m args meth c g A2 A) : ∀ (t : StI) (tL : StL) (x1 : Int32) (x2 : Int32) (res : Int64), Rows_bitsOf F t tL x1 x2 = some res → Go p l e rm_Rows_bitsOf s m args below meth c g A2 A 3 (MQ below (RL res A) args s 0 0 A) ((pic_Rows g a_t r_pile t tL)) [(0, .ref (a_t 0)), (1, .int x1), (2, .int x2)] 0 [] := by
  obtain ⟨hx, hb, hr, hml, hown, htb, hlocks, hA, hAA, hG⟩ := id hC
  have hK := hG.1
  intro t tL x1 x2 res h H locs ls hP hD hS hl
  rw [Rows_bitsOf] at h
  refine lv_iload_n hx hb d_Rows_bitsOf_0 rfl (lv_at hl 1 rfl) ?_
  refine lv_if_lt (tgt := 12) hx hb d_Rows_bitsOf_1 (by decide) (fun c6 => ?_) (fun c6 => ?_)
  · replace h := (if_pos c6).symm.trans h
    refine lv_lconst (v := 0) hx hb d_Rows_bitsOf_12 (by decide) ?_
    cases h
    exact W.lret hx hb hr (fun t ht hW => ⟨⟨_, (), rfl, rfl, trivial⟩, hS.F ht⟩) hS.2.2 d_Rows_bitsOf_13
  · replace h := (if_neg c6).symm.trans h
    refine lv_iload_n hx hb d_Rows_bitsOf_4 rfl (lv_at hl 1 rfl) ?_
    refine lv_aload_n hx hb d_Rows_bitsOf_5 rfl (lv_at hl 0 rfl) ?_
    refine va_get (D := gD g) (ci := 6) (v := .int (t 10 0)) (C := R_Rows) (T := T_Rows) (N := 11) hx hb htb in_Rows hown hK hP 0 rfl rfl 10 (by decide) (htb _ L_Rows_50) (fun _ h9 => h9) rfl d_Rows_bitsOf_6 ?_
    refine lv_icmp_lt (tgt := 14) hx hb d_Rows_bitsOf_9 (by decide) (fun c7 => ?_) (fun c7 => ?_)
    · replace h := (if_pos c7).symm.trans h
      refine lv_iload_n hx hb d_Rows_bitsOf_14 rfl (lv_at hl 2 rfl) ?_
      refine lv_if_eq (tgt := 27) hx hb d_Rows_bitsOf_15 (by decide) (fun c8 => ?_) (fun c8 => ?_)
      · replace h := (if_pos c8).symm.trans h
        refine lv_aload_n hx hb d_Rows_bitsOf_27 rfl (lv_at hl 0 rfl) ?_
        refine va_get (D := gD g) (ci := 6) (v := .ref (a_t 9)) (C := R_Rows) (T := T_Rows) (N := 11) hx hb htb in_Rows hown hK hP 0 rfl rfl 8 (by decide) (htb _ L_Rows_44) (fun _ h9 => h9) rfl d_Rows_bitsOf_28 ?_
        refine lv_iload_n hx hb d_Rows_bitsOf_31 rfl (lv_at hl 1 rfl) ?_
        by_cases c9 : (x1 < 0 ∨ 200 ≤ x1.toNatClampNeg)
        · replace h := (if_pos c9).symm.trans h
          cases h
        replace h := (if_neg c9).symm.trans h
        refine va_lald hx hb hK hP 6 3 rfl rfl c9 d_Rows_bitsOf_32 ?_
        cases h
        exact W.lret hx hb hr (fun t ht hW => ⟨⟨_, (), rfl, rfl, trivial⟩, hS.F ht⟩) hS.2.2 d_Rows_bitsOf_33
      · replace h := (if_neg c8).symm.trans h
        refine lv_aload_n hx hb d_Rows_bitsOf_18 rfl (lv_at hl 0 rfl) ?_
        refine va_get (D := gD g) (ci := 6) (v := .ref (a_t 10)) (C := R_Rows) (T := T_Rows) (N := 11) hx hb htb in_Rows hown hK hP 0 rfl rfl 9 (by decide) (htb _ L_Rows_47) (fun _ h9 => h9) rfl d_Rows_bitsOf_19 ?_
        refine lv_iload_n hx hb d_Rows_bitsOf_22 rfl (lv_at hl 1 rfl) ?_
        by_cases c10 : (x1 < 0 ∨ 200 ≤ x1.toNatClampNeg)
        · replace h := (if_pos c10).symm.trans h
          cases h
        replace h := (if_neg c10).symm.trans h
        refine va_lald hx hb hK hP 7 3 rfl rfl c10 d_Rows_bitsOf_23 ?_
        refine lv_goto (tgt := 33) hx hb d_Rows_bitsOf_24 (by decide) ?_
        cases h
        exact W.lret hx hb hr (fun t ht hW => ⟨⟨_, (), rfl, rfl, trivial⟩, hS.F ht⟩) hS.2.2 d_Rows_bitsOf_33
    · replace h := (if_neg c7).symm.trans h
      refine lv_lconst (v := 0) hx hb d_Rows_bitsOf_12 (by decide) ?_
      cases h
      exact W.lret hx hb hr (fun t ht hW => ⟨⟨_, (), rfl, rfl, trivial⟩, hS.F ht⟩) hS.2.2 d_Rows_bitsOf_13
theorem c_Rows_bitsOf (l : Launch) (g : Gz) (F : Nat) (a_t : Nat → Nat) (r_pile : Nat) (t : StI) (tL : StL) (x1 : Int32) (x2 : Int32) (res : Int64) (h : Rows_bitsOf F t tL x1 x2 = some res) : ∀ sz : Nat, Met l y_Rows_bitsOf (.code y_Rows_bitsOf prog_7_method_2_code 3 (some .long) :: TBL) rm_Rows_bitsOf (va_Pc [.ref (a_t 0), .int x1, .int x2] (Pre0 g ((pic_Rows g a_t r_pile t tL)) sz)) (RL res (fun q => sz ≤ q)) 0 0 (fun q => sz ≤ q) :=
  ct_r (Qc := fun A => RL res A) (by decide) (Nat.le_of_ble_eq_true rfl) (fun p e s m args below meth c A2 A hC => k_Rows_bitsOf hC t tL x1 x2 res h)
def Rows_sideFrom (F : Nat) (t : StI) (tL : StL) (x1 : Int32) (x2 : Int32) : Option (Int32) := if x1 < 0 then some (0 : Int32) else if x1 < (t 5 0) then if x2 = (1 : Int32) then if x1 < 0 ∨ 41 ≤ x1.toNatClampNeg then none else some ((t 3) x1.toNatClampNeg) else if x1 < 0 ∨ 41 ≤ x1.toNatClampNeg then none else some ((t 4) x1.toNatClampNeg) else some (0 : Int32)
set_option maxHeartbeats 4000000 in
set_option maxRecDepth 100000 in
theorem k_Rows_sideFrom {p : Program} {l : Launch} {e : Env} {s : State} {m : MethodId} {args : Array Value} {below : List Frame} {meth : Method} {c : Code} {g : Gz} {A2 A : Nat → Prop} {F : Nat} {a_t : Nat → Nat} {r_pile : Nat} (hC : Cx prog_7_method_16_code 3 (some .int) R_Rows p s m args meth c g A2 A) : ∀ (t : StI) (tL : StL) (x1 : Int32) (x2 : Int32) (res : Int32), Rows_sideFrom F t tL x1 x2 = some res → Go p l e rm_Rows_sideFrom s m args below meth c g A2 A 3 (MQ below (RI res A) args s 0 0 A) ((pic_Rows g a_t r_pile t tL)) [(0, .ref (a_t 0)), (1, .int x1), (2, .int x2)] 0 [] := by
  obtain ⟨hx, hb, hr, hml, hown, htb, hlocks, hA, hAA, hG⟩ := id hC
  have hK := hG.1
  intro t tL x1 x2 res h H locs ls hP hD hS hl
  rw [Rows_sideFrom] at h
  refine lv_iload_n hx hb d_Rows_sideFrom_0 rfl (lv_at hl 1 rfl) ?_
  refine lv_if_lt (tgt := 12) hx hb d_Rows_sideFrom_1 (by decide) (fun c6 => ?_) (fun c6 => ?_)
  · replace h := (if_pos c6).symm.trans h
    refine lv_iconst (v := 0) hx hb d_Rows_sideFrom_12 (by decide) ?_
    cases h
    exact W.iret hx hb hr (fun t ht hW => ⟨⟨_, (), rfl, rfl, trivial⟩, hS.F ht⟩) hS.2.2 d_Rows_sideFrom_13
  · replace h := (if_neg c6).symm.trans h
    refine lv_iload_n hx hb d_Rows_sideFrom_4 rfl (lv_at hl 1 rfl) ?_
    refine lv_aload_n hx hb d_Rows_sideFrom_5 rfl (lv_at hl 0 rfl) ?_
    refine va_get (D := gD g) (ci := 6) (v := .int (t 5 0)) (C := R_Rows) (T := T_Rows) (N := 11) hx hb htb in_Rows hown hK hP 0 rfl rfl 5 (by decide) (htb _ L_Rows_29) (fun _ h9 => h9) rfl d_Rows_sideFrom_6 ?_
    refine lv_icmp_lt (tgt := 14) hx hb d_Rows_sideFrom_9 (by decide) (fun c7 => ?_) (fun c7 => ?_)
    · replace h := (if_pos c7).symm.trans h
      refine lv_iload_n hx hb d_Rows_sideFrom_14 rfl (lv_at hl 2 rfl) ?_
      refine lv_iconst (v := 1) hx hb d_Rows_sideFrom_15 (by decide) ?_
      refine lv_icmp_ne (tgt := 28) hx hb d_Rows_sideFrom_16 (by decide) (fun c8 => ?_) (fun c8 => ?_)
      · replace h := (if_neg c8).symm.trans h
        refine lv_aload_n hx hb d_Rows_sideFrom_28 rfl (lv_at hl 0 rfl) ?_
        refine va_get (D := gD g) (ci := 6) (v := .ref (a_t 5)) (C := R_Rows) (T := T_Rows) (N := 11) hx hb htb in_Rows hown hK hP 0 rfl rfl 4 (by decide) (htb _ L_Rows_26) (fun _ h9 => h9) rfl d_Rows_sideFrom_29 ?_
        refine lv_iload_n hx hb d_Rows_sideFrom_32 rfl (lv_at hl 1 rfl) ?_
        by_cases c9 : (x1 < 0 ∨ 41 ≤ x1.toNatClampNeg)
        · replace h := (if_pos c9).symm.trans h
          cases h
        replace h := (if_neg c9).symm.trans h
        refine va_iald hx hb hK hP 4 0 rfl rfl c9 d_Rows_sideFrom_33 ?_
        cases h
        exact W.iret hx hb hr (fun t ht hW => ⟨⟨_, (), rfl, rfl, trivial⟩, hS.F ht⟩) hS.2.2 d_Rows_sideFrom_34
      · replace h := (if_pos c8).symm.trans h
        refine lv_aload_n hx hb d_Rows_sideFrom_19 rfl (lv_at hl 0 rfl) ?_
        refine va_get (D := gD g) (ci := 6) (v := .ref (a_t 4)) (C := R_Rows) (T := T_Rows) (N := 11) hx hb htb in_Rows hown hK hP 0 rfl rfl 3 (by decide) (htb _ L_Rows_22) (fun _ h9 => h9) rfl d_Rows_sideFrom_20 ?_
        refine lv_iload_n hx hb d_Rows_sideFrom_23 rfl (lv_at hl 1 rfl) ?_
        by_cases c10 : (x1 < 0 ∨ 41 ≤ x1.toNatClampNeg)
        · replace h := (if_pos c10).symm.trans h
          cases h
        replace h := (if_neg c10).symm.trans h
        refine va_iald hx hb hK hP 3 0 rfl rfl c10 d_Rows_sideFrom_24 ?_
        refine lv_goto (tgt := 34) hx hb d_Rows_sideFrom_25 (by decide) ?_
        cases h
        exact W.iret hx hb hr (fun t ht hW => ⟨⟨_, (), rfl, rfl, trivial⟩, hS.F ht⟩) hS.2.2 d_Rows_sideFrom_34
    · replace h := (if_neg c7).symm.trans h
      refine lv_iconst (v := 0) hx hb d_Rows_sideFrom_12 (by decide) ?_
      cases h
      exact W.iret hx hb hr (fun t ht hW => ⟨⟨_, (), rfl, rfl, trivial⟩, hS.F ht⟩) hS.2.2 d_Rows_sideFrom_13
theorem c_Rows_sideFrom (l : Launch) (g : Gz) (F : Nat) (a_t : Nat → Nat) (r_pile : Nat) (t : StI) (tL : StL) (x1 : Int32) (x2 : Int32) (res : Int32) (h : Rows_sideFrom F t tL x1 x2 = some res) : ∀ sz : Nat, Met l y_Rows_sideFrom (.code y_Rows_sideFrom prog_7_method_16_code 3 (some .int) :: TBL) rm_Rows_sideFrom (va_Pc [.ref (a_t 0), .int x1, .int x2] (Pre0 g ((pic_Rows g a_t r_pile t tL)) sz)) (RI res (fun q => sz ≤ q)) 0 0 (fun q => sz ≤ q) :=
  ct_r (Qc := fun A => RI res A) (by decide) (Nat.le_of_ble_eq_true rfl) (fun p e s m args below meth c A2 A hC => k_Rows_sideFrom hC t tL x1 x2 res h)
def Rows_sideTo (F : Nat) (t : StI) (tL : StL) (x1 : Int32) (x2 : Int32) : Option (Int32) := if x1 < 0 then some (0 : Int32) else if x1 < (t 5 0) then if x2 = (1 : Int32) then if x1 < 0 ∨ 41 ≤ x1.toNatClampNeg then none else some ((t 4) x1.toNatClampNeg) else if (x1 + (1 : Int32)) < 0 ∨ 41 ≤ (x1 + (1 : Int32)).toNatClampNeg then none else some ((t 3) (x1 + (1 : Int32)).toNatClampNeg) else some (0 : Int32)
set_option maxHeartbeats 4000000 in
set_option maxRecDepth 100000 in
theorem k_Rows_sideTo {p : Program} {l : Launch} {e : Env} {s : State} {m : MethodId} {args : Array Value} {below : List Frame} {meth : Method} {c : Code} {g : Gz} {A2 A : Nat → Prop} {F : Nat} {a_t : Nat → Nat} {r_pile : Nat} (hC : Cx prog_7_method_17_code 3 (some .int) R_Rows p s m args meth c g A2 A) : ∀ (t : StI) (tL : StL) (x1 : Int32) (x2 : Int32) (res : Int32), Rows_sideTo F t tL x1 x2 = some res → Go p l e rm_Rows_sideTo s m args below meth c g A2 A 3 (MQ below (RI res A) args s 0 0 A) ((pic_Rows g a_t r_pile t tL)) [(0, .ref (a_t 0)), (1, .int x1), (2, .int x2)] 0 [] := by
  obtain ⟨hx, hb, hr, hml, hown, htb, hlocks, hA, hAA, hG⟩ := id hC
  have hK := hG.1
  intro t tL x1 x2 res h H locs ls hP hD hS hl
  rw [Rows_sideTo] at h
  refine lv_iload_n hx hb d_Rows_sideTo_0 rfl (lv_at hl 1 rfl) ?_
  refine lv_if_lt (tgt := 12) hx hb d_Rows_sideTo_1 (by decide) (fun c6 => ?_) (fun c6 => ?_)
  · replace h := (if_pos c6).symm.trans h
    refine lv_iconst (v := 0) hx hb d_Rows_sideTo_12 (by decide) ?_
    cases h
    exact W.iret hx hb hr (fun t ht hW => ⟨⟨_, (), rfl, rfl, trivial⟩, hS.F ht⟩) hS.2.2 d_Rows_sideTo_13
  · replace h := (if_neg c6).symm.trans h
    refine lv_iload_n hx hb d_Rows_sideTo_4 rfl (lv_at hl 1 rfl) ?_
    refine lv_aload_n hx hb d_Rows_sideTo_5 rfl (lv_at hl 0 rfl) ?_
    refine va_get (D := gD g) (ci := 6) (v := .int (t 5 0)) (C := R_Rows) (T := T_Rows) (N := 11) hx hb htb in_Rows hown hK hP 0 rfl rfl 5 (by decide) (htb _ L_Rows_29) (fun _ h9 => h9) rfl d_Rows_sideTo_6 ?_
    refine lv_icmp_lt (tgt := 14) hx hb d_Rows_sideTo_9 (by decide) (fun c7 => ?_) (fun c7 => ?_)
    · replace h := (if_pos c7).symm.trans h
      refine lv_iload_n hx hb d_Rows_sideTo_14 rfl (lv_at hl 2 rfl) ?_
      refine lv_iconst (v := 1) hx hb d_Rows_sideTo_15 (by decide) ?_
      refine lv_icmp_ne (tgt := 28) hx hb d_Rows_sideTo_16 (by decide) (fun c8 => ?_) (fun c8 => ?_)
      · replace h := (if_neg c8).symm.trans h
        refine lv_aload_n hx hb d_Rows_sideTo_28 rfl (lv_at hl 0 rfl) ?_
        refine va_get (D := gD g) (ci := 6) (v := .ref (a_t 4)) (C := R_Rows) (T := T_Rows) (N := 11) hx hb htb in_Rows hown hK hP 0 rfl rfl 3 (by decide) (htb _ L_Rows_22) (fun _ h9 => h9) rfl d_Rows_sideTo_29 ?_
        refine lv_iload_n hx hb d_Rows_sideTo_32 rfl (lv_at hl 1 rfl) ?_
        refine lv_iconst (v := 1) hx hb d_Rows_sideTo_33 (by decide) ?_
        refine lv_iadd hx hb d_Rows_sideTo_34 ?_
        by_cases c9 : ((x1 + (1 : Int32)) < 0 ∨ 41 ≤ (x1 + (1 : Int32)).toNatClampNeg)
        · replace h := (if_pos c9).symm.trans h
          cases h
        replace h := (if_neg c9).symm.trans h
        refine va_iald hx hb hK hP 3 0 rfl rfl c9 d_Rows_sideTo_35 ?_
        cases h
        exact W.iret hx hb hr (fun t ht hW => ⟨⟨_, (), rfl, rfl, trivial⟩, hS.F ht⟩) hS.2.2 d_Rows_sideTo_36
      · replace h := (if_pos c8).symm.trans h
        refine lv_aload_n hx hb d_Rows_sideTo_19 rfl (lv_at hl 0 rfl) ?_
        refine va_get (D := gD g) (ci := 6) (v := .ref (a_t 5)) (C := R_Rows) (T := T_Rows) (N := 11) hx hb htb in_Rows hown hK hP 0 rfl rfl 4 (by decide) (htb _ L_Rows_26) (fun _ h9 => h9) rfl d_Rows_sideTo_20 ?_
        refine lv_iload_n hx hb d_Rows_sideTo_23 rfl (lv_at hl 1 rfl) ?_
        by_cases c10 : (x1 < 0 ∨ 41 ≤ x1.toNatClampNeg)
        · replace h := (if_pos c10).symm.trans h
          cases h
        replace h := (if_neg c10).symm.trans h
        refine va_iald hx hb hK hP 4 0 rfl rfl c10 d_Rows_sideTo_24 ?_
        refine lv_goto (tgt := 36) hx hb d_Rows_sideTo_25 (by decide) ?_
        cases h
        exact W.iret hx hb hr (fun t ht hW => ⟨⟨_, (), rfl, rfl, trivial⟩, hS.F ht⟩) hS.2.2 d_Rows_sideTo_36
    · replace h := (if_neg c7).symm.trans h
      refine lv_iconst (v := 0) hx hb d_Rows_sideTo_12 (by decide) ?_
      cases h
      exact W.iret hx hb hr (fun t ht hW => ⟨⟨_, (), rfl, rfl, trivial⟩, hS.F ht⟩) hS.2.2 d_Rows_sideTo_13
theorem c_Rows_sideTo (l : Launch) (g : Gz) (F : Nat) (a_t : Nat → Nat) (r_pile : Nat) (t : StI) (tL : StL) (x1 : Int32) (x2 : Int32) (res : Int32) (h : Rows_sideTo F t tL x1 x2 = some res) : ∀ sz : Nat, Met l y_Rows_sideTo (.code y_Rows_sideTo prog_7_method_17_code 3 (some .int) :: TBL) rm_Rows_sideTo (va_Pc [.ref (a_t 0), .int x1, .int x2] (Pre0 g ((pic_Rows g a_t r_pile t tL)) sz)) (RI res (fun q => sz ≤ q)) 0 0 (fun q => sz ≤ q) :=
  ct_r (Qc := fun A => RI res A) (by decide) (Nat.le_of_ble_eq_true rfl) (fun p e s m args below meth c A2 A hC => k_Rows_sideTo hC t tL x1 x2 res h)
def Rows_put (F : Nat) (t : StI) (tL : StL) (x1 : Int32) (x2 : Int64) (x4 : Int64) : Option (Int32 × StI × StL) := if (200 : Int32) ≤ ((t 2 0) - x1) then some ((0 : Int32), t, tL) else if (t 2 0) < 0 then some ((0 : Int32), t, tL) else if (t 2 0) < (2400 : Int32) then if (t 2 0) < 0 ∨ 2400 ≤ (t 2 0).toNatClampNeg then none else letS (va_up tL 0 (vp_updL (tL 0) (t 2 0).toNatClampNeg x2)) fun t_12 => if (t 2 0) < 0 ∨ 2400 ≤ (t 2 0).toNatClampNeg then none else letS (va_up t_12 1 (vp_updL (t_12 1) (t 2 0).toNatClampNeg x4)) fun t_14 => letS (va_up t 2 (fun _ => ((t 2 0) + (1 : Int32)))) fun t_16 => some ((1 : Int32), t_16, t_14) else some ((0 : Int32), t, tL)
set_option maxHeartbeats 4000000 in
set_option maxRecDepth 100000 in
theorem k_Rows_put {p : Program} {l : Launch} {e : Env} {s : State} {m : MethodId} {args : Array Value} {below : List Frame} {meth : Method} {c : Code} {g : Gz} {A : Nat → Prop} {F : Nat} {a_t : Nat → Nat} {r_pile : Nat} (hC : Cx prog_7_method_13_code 6 (some .boolean) R_Rows p s m args meth c g A A) : ∀ (t : StI) (tL : StL) (x1 : Int32) (x2 : Int64) (x4 : Int64) (res : Int32 × StI × StL), Rows_put F t tL x1 x2 x4 = some res → Go p l e rm_Rows_put s m args below meth c g A A 6 (MQ below (EI g ((pic_Rows g a_t r_pile res.2.1 res.2.2)) res.1 A) args s 0 0 A) ((pic_Rows g a_t r_pile t tL)) [(0, .ref (a_t 0)), (1, .int x1), (2, .long x2), (4, .long x4)] 0 [] := by
  obtain ⟨hx, hb, hr, hml, hown, htb, hlocks, hA, hAA, hG⟩ := id hC
  have hK := hG.1
  intro t tL x1 x2 x4 res h H locs ls hP hD hS hl
  rw [Rows_put] at h
  refine lv_aload_n hx hb d_Rows_put_0 rfl (lv_at hl 0 rfl) ?_
  refine va_get (D := gD g) (ci := 6) (v := .int (t 2 0)) (C := R_Rows) (T := T_Rows) (N := 11) hx hb htb in_Rows hown hK hP 0 rfl rfl 2 (by decide) (htb _ L_Rows_18) (fun _ h9 => h9) rfl d_Rows_put_1 ?_
  refine lv_iload_n hx hb d_Rows_put_4 rfl (lv_at hl 1 rfl) ?_
  refine lv_isub hx hb d_Rows_put_5 ?_
  refine lv_sipush (v := 200) hx hb d_Rows_put_6 (by decide) ?_
  refine lv_icmp_ge (tgt := 29) hx hb d_Rows_put_9 (by decide) (fun c9 => ?_) (fun c9 => ?_)
  · replace h := (if_pos c9).symm.trans h
    refine lv_iconst (v := 0) hx hb d_Rows_put_29 (by decide) ?_
    cases h
    exact W.zret hx hb hr rfl (fun t ht hW => ⟨⟨_, (), rfl, rfl, by rw [ht]; exact hP, hD⟩, hS.F ht⟩) hS.2.2 d_Rows_put_30
  · replace h := (if_neg c9).symm.trans h
    refine lv_aload_n hx hb d_Rows_put_12 rfl (lv_at hl 0 rfl) ?_
    refine va_get (D := gD g) (ci := 6) (v := .int (t 2 0)) (C := R_Rows) (T := T_Rows) (N := 11) hx hb htb in_Rows hown hK hP 0 rfl rfl 2 (by decide) (htb _ L_Rows_18) (fun _ h9 => h9) rfl d_Rows_put_13 ?_
    refine lv_if_lt (tgt := 29) hx hb d_Rows_put_16 (by decide) (fun c10 => ?_) (fun c10 => ?_)
    · replace h := (if_pos c10).symm.trans h
      refine lv_iconst (v := 0) hx hb d_Rows_put_29 (by decide) ?_
      cases h
      exact W.zret hx hb hr rfl (fun t ht hW => ⟨⟨_, (), rfl, rfl, by rw [ht]; exact hP, hD⟩, hS.F ht⟩) hS.2.2 d_Rows_put_30
    · replace h := (if_neg c10).symm.trans h
      refine lv_aload_n hx hb d_Rows_put_19 rfl (lv_at hl 0 rfl) ?_
      refine va_get (D := gD g) (ci := 6) (v := .int (t 2 0)) (C := R_Rows) (T := T_Rows) (N := 11) hx hb htb in_Rows hown hK hP 0 rfl rfl 2 (by decide) (htb _ L_Rows_18) (fun _ h9 => h9) rfl d_Rows_put_20 ?_
      refine lv_sipush (v := 2400) hx hb d_Rows_put_23 (by decide) ?_
      refine lv_icmp_lt (tgt := 31) hx hb d_Rows_put_26 (by decide) (fun c11 => ?_) (fun c11 => ?_)
      · replace h := (if_pos c11).symm.trans h
        refine lv_aload_n hx hb d_Rows_put_31 rfl (lv_at hl 0 rfl) ?_
        refine va_get (D := gD g) (ci := 6) (v := .ref (a_t 1)) (C := R_Rows) (T := T_Rows) (N := 11) hx hb htb in_Rows hown hK hP 0 rfl rfl 0 (by decide) (htb _ L_Rows_11) (fun _ h9 => h9) rfl d_Rows_put_32 ?_
        refine lv_aload_n hx hb d_Rows_put_35 rfl (lv_at hl 0 rfl) ?_
        refine va_get (D := gD g) (ci := 6) (v := .int (t 2 0)) (C := R_Rows) (T := T_Rows) (N := 11) hx hb htb in_Rows hown hK hP 0 rfl rfl 2 (by decide) (htb _ L_Rows_18) (fun _ h9 => h9) rfl d_Rows_put_36 ?_
        refine lv_lload_n hx hb d_Rows_put_39 rfl (lv_at hl 2 rfl) ?_
        by_cases c13 : ((t 2 0) < 0 ∨ 2400 ≤ (t 2 0).toNatClampNeg)
        · replace h := (if_pos c13).symm.trans h
          cases h
        replace h := (if_neg c13).symm.trans h
        refine va_last hx hb hK hP hD hS 1 3 rfl rfl c13 d_Rows_put_40 (fun H locs hP hD hS => ?_)
        obtain ⟨t_12, et_12, h⟩ := letS_el h
        have hP : va_P (gD g) vwCl ((pic_Rows g a_t r_pile t t_12)) H := by rw [et_12]; exact hP
        have hD : va_D A ((pic_Rows g a_t r_pile t t_12)) := by rw [et_12]; exact hD
        refine lv_aload_n hx hb d_Rows_put_41 rfl (lv_at hl 0 rfl) ?_
        refine va_get (D := gD g) (ci := 6) (v := .ref (a_t 2)) (C := R_Rows) (T := T_Rows) (N := 11) hx hb htb in_Rows hown hK hP 0 rfl rfl 1 (by decide) (htb _ L_Rows_15) (fun _ h9 => h9) rfl d_Rows_put_42 ?_
        refine lv_aload_n hx hb d_Rows_put_45 rfl (lv_at hl 0 rfl) ?_
        refine va_get (D := gD g) (ci := 6) (v := .int (t 2 0)) (C := R_Rows) (T := T_Rows) (N := 11) hx hb htb in_Rows hown hK hP 0 rfl rfl 2 (by decide) (htb _ L_Rows_18) (fun _ h9 => h9) rfl d_Rows_put_46 ?_
        refine lv_lload hx hb d_Rows_put_49 (lv_at hl 3 rfl) ?_
        by_cases c15 : ((t 2 0) < 0 ∨ 2400 ≤ (t 2 0).toNatClampNeg)
        · replace h := (if_pos c15).symm.trans h
          cases h
        replace h := (if_neg c15).symm.trans h
        refine va_last hx hb hK hP hD hS 2 3 rfl rfl c15 d_Rows_put_51 (fun H locs hP hD hS => ?_)
        obtain ⟨t_14, et_14, h⟩ := letS_el h
        have hP : va_P (gD g) vwCl ((pic_Rows g a_t r_pile t t_14)) H := by rw [et_14]; exact hP
        have hD : va_D A ((pic_Rows g a_t r_pile t t_14)) := by rw [et_14]; exact hD
        refine lv_aload_n hx hb d_Rows_put_52 rfl (lv_at hl 0 rfl) ?_
        refine lv_dup hx hb d_Rows_put_53 rfl ?_
        refine va_get (D := gD g) (ci := 6) (v := .int (t 2 0)) (C := R_Rows) (T := T_Rows) (N := 11) hx hb htb in_Rows hown hK hP 0 rfl rfl 2 (by decide) (htb _ L_Rows_18) (fun _ h9 => h9) rfl d_Rows_put_54 ?_
        refine lv_iconst (v := 1) hx hb d_Rows_put_57 (by decide) ?_
        refine lv_iadd hx hb d_Rows_put_58 ?_
        refine va_put (D := gD g) (ci := 6) (v := .int ((t 2 0) + (1 : Int32))) (ty := .int) (C := R_Rows) (T := T_Rows) (N := 11) hx hb htb in_Rows ty_Rows ty_Rows_ok nm_Rows hown hK hP hD hS 0 rfl rfl 2 (by decide) (htb _ L_Rows_18) (fun _ h9 => h9) rfl (by decide +kernel) rfl rfl (Nat.le_of_ble_eq_true rfl) d_Rows_put_59 (fun H locs hP hD hS => ?_)
        obtain ⟨t_16, et_16, h⟩ := letS_el h
        have hP : va_P (gD g) vwCl ((pic_Rows g a_t r_pile t_16 t_14)) H := by rw [et_16]; exact hP
        have hD : va_D A ((pic_Rows g a_t r_pile t_16 t_14)) := by rw [et_16]; exact hD
        refine lv_iconst (v := 1) hx hb d_Rows_put_62 (by decide) ?_
        cases h
        exact W.zret hx hb hr rfl (fun t ht hW => ⟨⟨_, (), rfl, rfl, by rw [ht]; exact hP, hD⟩, hS.F ht⟩) hS.2.2 d_Rows_put_63
      · replace h := (if_neg c11).symm.trans h
        refine lv_iconst (v := 0) hx hb d_Rows_put_29 (by decide) ?_
        cases h
        exact W.zret hx hb hr rfl (fun t ht hW => ⟨⟨_, (), rfl, rfl, by rw [ht]; exact hP, hD⟩, hS.F ht⟩) hS.2.2 d_Rows_put_30
theorem c_Rows_put (l : Launch) (g : Gz) (F : Nat) (a_t : Nat → Nat) (r_pile : Nat) (t : StI) (tL : StL) (x1 : Int32) (x2 : Int64) (x4 : Int64) (res : Int32 × StI × StL) (h : Rows_put F t tL x1 x2 x4 = some res) : ∀ sz : Nat, Met l y_Rows_put (.code y_Rows_put prog_7_method_13_code 6 (some .boolean) :: TBL) rm_Rows_put (va_Pc [.ref (a_t 0), .int x1, .long x2, .long x4] (Pre0 g ((pic_Rows g a_t r_pile t tL)) sz)) (EI g ((pic_Rows g a_t r_pile res.2.1 res.2.2)) res.1 (va_A ((pic_Rows g a_t r_pile t tL)) sz)) 0 0 (va_A ((pic_Rows g a_t r_pile t tL)) sz) :=
  ct_w (Qc := fun A => EI g ((pic_Rows g a_t r_pile res.2.1 res.2.2)) res.1 A) (by decide) (Nat.le_of_ble_eq_true rfl) (fun p e s m args below meth c A hC => k_Rows_put hC t tL x1 x2 x4 res h)
def Rows_hasOneOf_104 (F : Nat) (k27 : StI → StL → Int32 → Int32 → Int32 → Int64 → Int64 → Int32 → Option (Int32)) (t : StI) (tL : StL) (x1 : Int32) (x3 : Int32) (x4 : Int32) (x5 : Int64) (x7 : Int64) (x9 : Int32) : Option (Int32) := k27 t tL x1 x3 x4 x5 x7 (x9 + (1 : Int32))
def Rows_hasOneOf_27 (F : Nat) : Nat → StI → StL → Int32 → Int32 → Int32 → Int64 → Int64 → Int32 → Option (Int32)
  | 0, _, _, _, _, _, _, _, _ => none
  | n + 1, t, tL, x1, x3, x4, x5, x7, x9 => if x3 ≤ x9 then some (0 : Int32) else if x9 < 0 ∨ 2400 ≤ x9.toNatClampNeg then none else if (lg_cmp (((tL 0) x9.toNatClampNeg) &&& x5) (0 : Int64)) = 0 then if x9 < 0 ∨ 2400 ≤ x9.toNatClampNeg then none else if (lg_cmp (((tL 1) x9.toNatClampNeg) &&& x7) (0 : Int64)) = 0 then if x4 = 0 then if x9 < 0 ∨ 2400 ≤ x9.toNatClampNeg then none else if x1 < 0 ∨ 2400 ≤ x1.toNatClampNeg then none else if (lg_cmp ((tL 0) x9.toNatClampNeg) ((tL 0) x1.toNatClampNeg)) = 0 then if x9 < 0 ∨ 2400 ≤ x9.toNatClampNeg then none else if x1 < 0 ∨ 2400 ≤ x1.toNatClampNeg then none else if (lg_cmp ((tL 1) x9.toNatClampNeg) ((tL 1) x1.toNatClampNeg)) = 0 then Rows_hasOneOf_104 F (Rows_hasOneOf_27 F n) t tL x1 x3 x4 x5 x7 x9 else some (1 : Int32) else some (1 : Int32) else some (1 : Int32) else Rows_hasOneOf_104 F (Rows_hasOneOf_27 F n) t tL x1 x3 x4 x5 x7 x9 else Rows_hasOneOf_104 F (Rows_hasOneOf_27 F n) t tL x1 x3 x4 x5 x7 x9
def Rows_hasOneOf (F : Nat) (t : StI) (tL : StL) (x1 : Int32) (x2 : Int32) (x3 : Int32) (x4 : Int32) : Option (Int32) := if x1 < 0 ∨ 2400 ≤ x1.toNatClampNeg then none else if x1 < 0 ∨ 2400 ≤ x1.toNatClampNeg then none else Rows_hasOneOf_27 F F t tL x1 x3 x4 (((tL 0) x1.toNatClampNeg) ^^^ (-1 : Int64)) (((tL 1) x1.toNatClampNeg) ^^^ (-1 : Int64)) x2
set_option maxHeartbeats 4000000 in
set_option maxRecDepth 100000 in
theorem k_Rows_hasOneOf_104 {p : Program} {l : Launch} {e : Env} {s : State} {m : MethodId} {args : Array Value} {below : List Frame} {meth : Method} {c : Code} {g : Gz} {A2 A : Nat → Prop} {F : Nat} {a_t : Nat → Nat} {r_pile : Nat} {k27 : StI → StL → Int32 → Int32 → Int32 → Int64 → Int64 → Int32 → Option (Int32)} (hC : Cx prog_7_method_15_code 10 (some .boolean) R_Rows p s m args meth c g A2 A) : ∀ (t : StI) (tL : StL) (x1 : Int32) (x3 : Int32) (x4 : Int32) (x5 : Int64) (x7 : Int64) (x9 : Int32) (res : Int32), Rows_hasOneOf_104 F k27 t tL x1 x3 x4 x5 x7 x9 = some res → (∀ (t : StI) (tL : StL) (x1 : Int32) (x3 : Int32) (x4 : Int32) (x5 : Int64) (x7 : Int64) (x9 : Int32), k27 t tL x1 x3 x4 x5 x7 x9 = some res → Go p l e rm_Rows_hasOneOf s m args below meth c g A2 A 10 (MQ below (RI res A) args s 0 0 A) ((pic_Rows g a_t r_pile t tL)) [(0, .ref (a_t 0)), (1, .int x1), (3, .int x3), (4, .int x4), (5, .long x5), (7, .long x7), (9, .int x9)] 27 []) → Go p l e rm_Rows_hasOneOf s m args below meth c g A2 A 10 (MQ below (RI res A) args s 0 0 A) ((pic_Rows g a_t r_pile t tL)) [(0, .ref (a_t 0)), (1, .int x1), (3, .int x3), (4, .int x4), (5, .long x5), (7, .long x7), (9, .int x9)] 104 [] := by
  obtain ⟨hx, hb, hr, hml, hown, htb, hlocks, hA, hAA, hG⟩ := id hC
  have hK := hG.1
  intro t tL x1 x3 x4 x5 x7 x9 res h hk27 H locs ls hP hD hS hl
  rw [Rows_hasOneOf_104] at h
  refine lv_iinc (v := (x9 + (1 : Int32))) (lv' := [(9, .int (x9 + (1 : Int32))), (0, .ref (a_t 0)), (1, .int x1), (3, .int x3), (4, .int x4), (5, .long x5), (7, .long x7)]) hx hb d_Rows_hasOneOf_104 hl (k := 6) rfl rfl (by decide) rfl (fun ls hl => ?_)
  refine lv_goto (tgt := 27) hx hb d_Rows_hasOneOf_107 (by decide) ?_
  exact hk27 _ _ _ _ _ _ _ _ h _ _ _ hP hD hS (lv_sub hl [1, 2, 3, 4, 5, 6, 0] rfl)
set_option maxHeartbeats 4000000 in
set_option maxRecDepth 100000 in
theorem k_Rows_hasOneOf_27 {p : Program} {l : Launch} {e : Env} {s : State} {m : MethodId} {args : Array Value} {below : List Frame} {meth : Method} {c : Code} {g : Gz} {A2 A : Nat → Prop} {F : Nat} {a_t : Nat → Nat} {r_pile : Nat} (hC : Cx prog_7_method_15_code 10 (some .boolean) R_Rows p s m args meth c g A2 A) : ∀ (n : Nat) (t : StI) (tL : StL) (x1 : Int32) (x3 : Int32) (x4 : Int32) (x5 : Int64) (x7 : Int64) (x9 : Int32) (res : Int32), Rows_hasOneOf_27 F n t tL x1 x3 x4 x5 x7 x9 = some res → Go p l e rm_Rows_hasOneOf s m args below meth c g A2 A 10 (MQ below (RI res A) args s 0 0 A) ((pic_Rows g a_t r_pile t tL)) [(0, .ref (a_t 0)), (1, .int x1), (3, .int x3), (4, .int x4), (5, .long x5), (7, .long x7), (9, .int x9)] 27 [] := by
  obtain ⟨hx, hb, hr, hml, hown, htb, hlocks, hA, hAA, hG⟩ := id hC
  have hK := hG.1
  intro n
  induction n with
  | zero => intro t tL x1 x3 x4 x5 x7 x9 res h; rw [Rows_hasOneOf_27] at h; cases h
  | succ n ih =>
    intro t tL x1 x3 x4 x5 x7 x9 res h H locs ls hP hD hS hl
    rw [Rows_hasOneOf_27] at h
    refine lv_iload hx hb d_Rows_hasOneOf_27 (lv_at hl 6 rfl) ?_
    refine lv_iload_n hx hb d_Rows_hasOneOf_29 rfl (lv_at hl 2 rfl) ?_
    refine lv_icmp_ge (tgt := 110) hx hb d_Rows_hasOneOf_30 (by decide) (fun c15 => ?_) (fun c15 => ?_)
    · replace h := (if_pos c15).symm.trans h
      refine lv_iconst (v := 0) hx hb d_Rows_hasOneOf_110 (by decide) ?_
      cases h
      exact W.zret hx hb hr rfl (fun t ht hW => ⟨⟨_, (), rfl, rfl, trivial⟩, hS.F ht⟩) hS.2.2 d_Rows_hasOneOf_111
    · replace h := (if_neg c15).symm.trans h
      refine lv_aload_n hx hb d_Rows_hasOneOf_33 rfl (lv_at hl 0 rfl) ?_
      refine va_get (D := gD g) (ci := 6) (v := .ref (a_t 1)) (C := R_Rows) (T := T_Rows) (N := 11) hx hb htb in_Rows hown hK hP 0 rfl rfl 0 (by decide) (htb _ L_Rows_11) (fun _ h9 => h9) rfl d_Rows_hasOneOf_34 ?_
      refine lv_iload hx hb d_Rows_hasOneOf_37 (lv_at hl 6 rfl) ?_
      by_cases c16 : (x9 < 0 ∨ 2400 ≤ x9.toNatClampNeg)
      · replace h := (if_pos c16).symm.trans h
        cases h
      replace h := (if_neg c16).symm.trans h
      refine va_lald hx hb hK hP 1 3 rfl rfl c16 d_Rows_hasOneOf_39 ?_
      refine lv_lload hx hb d_Rows_hasOneOf_40 (lv_at hl 4 rfl) ?_
      refine lv_land hx hb d_Rows_hasOneOf_42 ?_
      refine lv_lconst (v := 0) hx hb d_Rows_hasOneOf_43 (by decide) ?_
      refine W.lcmp hx hb d_Rows_hasOneOf_44 ?_
      refine lv_if_ne (tgt := 104) hx hb d_Rows_hasOneOf_45 (by decide) (fun c17 => ?_) (fun c17 => ?_)
      · replace h := (if_neg c17).symm.trans h
        exact k_Rows_hasOneOf_104 hC _ _ _ _ _ _ _ _ _ h (fun z0 z1 z2 z3 z4 z5 z6 z7 hz => ih z0 z1 z2 z3 z4 z5 z6 z7 _ hz) _ _ _ hP hD hS (lv_sub hl [0, 1, 2, 3, 4, 5, 6] rfl)
      · replace h := (if_pos c17).symm.trans h
        refine lv_aload_n hx hb d_Rows_hasOneOf_48 rfl (lv_at hl 0 rfl) ?_
        refine va_get (D := gD g) (ci := 6) (v := .ref (a_t 2)) (C := R_Rows) (T := T_Rows) (N := 11) hx hb htb in_Rows hown hK hP 0 rfl rfl 1 (by decide) (htb _ L_Rows_15) (fun _ h9 => h9) rfl d_Rows_hasOneOf_49 ?_
        refine lv_iload hx hb d_Rows_hasOneOf_52 (lv_at hl 6 rfl) ?_
        by_cases c18 : (x9 < 0 ∨ 2400 ≤ x9.toNatClampNeg)
        · replace h := (if_pos c18).symm.trans h
          cases h
        replace h := (if_neg c18).symm.trans h
        refine va_lald hx hb hK hP 2 3 rfl rfl c18 d_Rows_hasOneOf_54 ?_
        refine lv_lload hx hb d_Rows_hasOneOf_55 (lv_at hl 5 rfl) ?_
        refine lv_land hx hb d_Rows_hasOneOf_57 ?_
        refine lv_lconst (v := 0) hx hb d_Rows_hasOneOf_58 (by decide) ?_
        refine W.lcmp hx hb d_Rows_hasOneOf_59 ?_
        refine lv_if_ne (tgt := 104) hx hb d_Rows_hasOneOf_60 (by decide) (fun c19 => ?_) (fun c19 => ?_)
        · replace h := (if_neg c19).symm.trans h
          exact k_Rows_hasOneOf_104 hC _ _ _ _ _ _ _ _ _ h (fun z0 z1 z2 z3 z4 z5 z6 z7 hz => ih z0 z1 z2 z3 z4 z5 z6 z7 _ hz) _ _ _ hP hD hS (lv_sub hl [0, 1, 2, 3, 4, 5, 6] rfl)
        · replace h := (if_pos c19).symm.trans h
          refine lv_iload hx hb d_Rows_hasOneOf_63 (lv_at hl 3 rfl) ?_
          refine lv_if_ne (tgt := 102) hx hb d_Rows_hasOneOf_65 (by decide) (fun c20 => ?_) (fun c20 => ?_)
          · replace h := (if_neg c20).symm.trans h
            refine lv_iconst (v := 1) hx hb d_Rows_hasOneOf_102 (by decide) ?_
            cases h
            exact W.zret hx hb hr rfl (fun t ht hW => ⟨⟨_, (), rfl, rfl, trivial⟩, hS.F ht⟩) hS.2.2 d_Rows_hasOneOf_103
          · replace h := (if_pos c20).symm.trans h
            refine lv_aload_n hx hb d_Rows_hasOneOf_68 rfl (lv_at hl 0 rfl) ?_
            refine va_get (D := gD g) (ci := 6) (v := .ref (a_t 1)) (C := R_Rows) (T := T_Rows) (N := 11) hx hb htb in_Rows hown hK hP 0 rfl rfl 0 (by decide) (htb _ L_Rows_11) (fun _ h9 => h9) rfl d_Rows_hasOneOf_69 ?_
            refine lv_iload hx hb d_Rows_hasOneOf_72 (lv_at hl 6 rfl) ?_
            by_cases c21 : (x9 < 0 ∨ 2400 ≤ x9.toNatClampNeg)
            · replace h := (if_pos c21).symm.trans h
              cases h
            replace h := (if_neg c21).symm.trans h
            refine va_lald hx hb hK hP 1 3 rfl rfl c21 d_Rows_hasOneOf_74 ?_
            refine lv_aload_n hx hb d_Rows_hasOneOf_75 rfl (lv_at hl 0 rfl) ?_
            refine va_get (D := gD g) (ci := 6) (v := .ref (a_t 1)) (C := R_Rows) (T := T_Rows) (N := 11) hx hb htb in_Rows hown hK hP 0 rfl rfl 0 (by decide) (htb _ L_Rows_11) (fun _ h9 => h9) rfl d_Rows_hasOneOf_76 ?_
            refine lv_iload_n hx hb d_Rows_hasOneOf_79 rfl (lv_at hl 1 rfl) ?_
            by_cases c22 : (x1 < 0 ∨ 2400 ≤ x1.toNatClampNeg)
            · replace h := (if_pos c22).symm.trans h
              cases h
            replace h := (if_neg c22).symm.trans h
            refine va_lald hx hb hK hP 1 3 rfl rfl c22 d_Rows_hasOneOf_80 ?_
            refine W.lcmp hx hb d_Rows_hasOneOf_81 ?_
            refine lv_if_ne (tgt := 102) hx hb d_Rows_hasOneOf_82 (by decide) (fun c23 => ?_) (fun c23 => ?_)
            · replace h := (if_neg c23).symm.trans h
              refine lv_iconst (v := 1) hx hb d_Rows_hasOneOf_102 (by decide) ?_
              cases h
              exact W.zret hx hb hr rfl (fun t ht hW => ⟨⟨_, (), rfl, rfl, trivial⟩, hS.F ht⟩) hS.2.2 d_Rows_hasOneOf_103
            · replace h := (if_pos c23).symm.trans h
              refine lv_aload_n hx hb d_Rows_hasOneOf_85 rfl (lv_at hl 0 rfl) ?_
              refine va_get (D := gD g) (ci := 6) (v := .ref (a_t 2)) (C := R_Rows) (T := T_Rows) (N := 11) hx hb htb in_Rows hown hK hP 0 rfl rfl 1 (by decide) (htb _ L_Rows_15) (fun _ h9 => h9) rfl d_Rows_hasOneOf_86 ?_
              refine lv_iload hx hb d_Rows_hasOneOf_89 (lv_at hl 6 rfl) ?_
              by_cases c24 : (x9 < 0 ∨ 2400 ≤ x9.toNatClampNeg)
              · replace h := (if_pos c24).symm.trans h
                cases h
              replace h := (if_neg c24).symm.trans h
              refine va_lald hx hb hK hP 2 3 rfl rfl c24 d_Rows_hasOneOf_91 ?_
              refine lv_aload_n hx hb d_Rows_hasOneOf_92 rfl (lv_at hl 0 rfl) ?_
              refine va_get (D := gD g) (ci := 6) (v := .ref (a_t 2)) (C := R_Rows) (T := T_Rows) (N := 11) hx hb htb in_Rows hown hK hP 0 rfl rfl 1 (by decide) (htb _ L_Rows_15) (fun _ h9 => h9) rfl d_Rows_hasOneOf_93 ?_
              refine lv_iload_n hx hb d_Rows_hasOneOf_96 rfl (lv_at hl 1 rfl) ?_
              by_cases c25 : (x1 < 0 ∨ 2400 ≤ x1.toNatClampNeg)
              · replace h := (if_pos c25).symm.trans h
                cases h
              replace h := (if_neg c25).symm.trans h
              refine va_lald hx hb hK hP 2 3 rfl rfl c25 d_Rows_hasOneOf_97 ?_
              refine W.lcmp hx hb d_Rows_hasOneOf_98 ?_
              refine lv_if_eq (tgt := 104) hx hb d_Rows_hasOneOf_99 (by decide) (fun c26 => ?_) (fun c26 => ?_)
              · replace h := (if_pos c26).symm.trans h
                exact k_Rows_hasOneOf_104 hC _ _ _ _ _ _ _ _ _ h (fun z0 z1 z2 z3 z4 z5 z6 z7 hz => ih z0 z1 z2 z3 z4 z5 z6 z7 _ hz) _ _ _ hP hD hS (lv_sub hl [0, 1, 2, 3, 4, 5, 6] rfl)
              · replace h := (if_neg c26).symm.trans h
                refine lv_iconst (v := 1) hx hb d_Rows_hasOneOf_102 (by decide) ?_
                cases h
                exact W.zret hx hb hr rfl (fun t ht hW => ⟨⟨_, (), rfl, rfl, trivial⟩, hS.F ht⟩) hS.2.2 d_Rows_hasOneOf_103
set_option maxHeartbeats 4000000 in
set_option maxRecDepth 100000 in
theorem k_Rows_hasOneOf {p : Program} {l : Launch} {e : Env} {s : State} {m : MethodId} {args : Array Value} {below : List Frame} {meth : Method} {c : Code} {g : Gz} {A2 A : Nat → Prop} {F : Nat} {a_t : Nat → Nat} {r_pile : Nat} (hC : Cx prog_7_method_15_code 10 (some .boolean) R_Rows p s m args meth c g A2 A) : ∀ (t : StI) (tL : StL) (x1 : Int32) (x2 : Int32) (x3 : Int32) (x4 : Int32) (res : Int32), Rows_hasOneOf F t tL x1 x2 x3 x4 = some res → Go p l e rm_Rows_hasOneOf s m args below meth c g A2 A 10 (MQ below (RI res A) args s 0 0 A) ((pic_Rows g a_t r_pile t tL)) [(0, .ref (a_t 0)), (1, .int x1), (2, .int x2), (3, .int x3), (4, .int x4)] 0 [] := by
  obtain ⟨hx, hb, hr, hml, hown, htb, hlocks, hA, hAA, hG⟩ := id hC
  have hK := hG.1
  intro t tL x1 x2 x3 x4 res h H locs ls hP hD hS hl
  rw [Rows_hasOneOf] at h
  refine lv_aload_n hx hb d_Rows_hasOneOf_0 rfl (lv_at hl 0 rfl) ?_
  refine va_get (D := gD g) (ci := 6) (v := .ref (a_t 1)) (C := R_Rows) (T := T_Rows) (N := 11) hx hb htb in_Rows hown hK hP 0 rfl rfl 0 (by decide) (htb _ L_Rows_11) (fun _ h9 => h9) rfl d_Rows_hasOneOf_1 ?_
  refine lv_iload_n hx hb d_Rows_hasOneOf_4 rfl (lv_at hl 1 rfl) ?_
  by_cases c27 : (x1 < 0 ∨ 2400 ≤ x1.toNatClampNeg)
  · replace h := (if_pos c27).symm.trans h
    cases h
  replace h := (if_neg c27).symm.trans h
  refine va_lald hx hb hK hP 1 3 rfl rfl c27 d_Rows_hasOneOf_5 ?_
  refine lv_ldc2 (v := -1) hx hb hown (htb _ K_Rows_142) d_Rows_hasOneOf_6 ?_
  refine lv_lxor hx hb d_Rows_hasOneOf_9 ?_
  refine lv_lstore (lv' := [(5, .long (((tL 0) x1.toNatClampNeg) ^^^ (-1 : Int64))), (0, .ref (a_t 0)), (1, .int x1), (2, .int x2), (3, .int x3), (4, .int x4)]) hx hb d_Rows_hasOneOf_10 hl (by decide) rfl (fun ls hl => ?_)
  refine lv_aload_n hx hb d_Rows_hasOneOf_12 rfl (lv_at hl 1 rfl) ?_
  refine va_get (D := gD g) (ci := 6) (v := .ref (a_t 2)) (C := R_Rows) (T := T_Rows) (N := 11) hx hb htb in_Rows hown hK hP 0 rfl rfl 1 (by decide) (htb _ L_Rows_15) (fun _ h9 => h9) rfl d_Rows_hasOneOf_13 ?_
  refine lv_iload_n hx hb d_Rows_hasOneOf_16 rfl (lv_at hl 2 rfl) ?_
  by_cases c28 : (x1 < 0 ∨ 2400 ≤ x1.toNatClampNeg)
  · replace h := (if_pos c28).symm.trans h
    cases h
  replace h := (if_neg c28).symm.trans h
  refine va_lald hx hb hK hP 2 3 rfl rfl c28 d_Rows_hasOneOf_17 ?_
  refine lv_ldc2 (v := -1) hx hb hown (htb _ K_Rows_142) d_Rows_hasOneOf_18 ?_
  refine lv_lxor hx hb d_Rows_hasOneOf_21 ?_
  refine lv_lstore (lv' := [(7, .long (((tL 1) x1.toNatClampNeg) ^^^ (-1 : Int64))), (5, .long (((tL 0) x1.toNatClampNeg) ^^^ (-1 : Int64))), (0, .ref (a_t 0)), (1, .int x1), (2, .int x2), (3, .int x3), (4, .int x4)]) hx hb d_Rows_hasOneOf_22 hl (by decide) rfl (fun ls hl => ?_)
  refine lv_iload_n hx hb d_Rows_hasOneOf_24 rfl (lv_at hl 4 rfl) ?_
  refine lv_istore (lv' := [(9, .int x2), (7, .long (((tL 1) x1.toNatClampNeg) ^^^ (-1 : Int64))), (5, .long (((tL 0) x1.toNatClampNeg) ^^^ (-1 : Int64))), (0, .ref (a_t 0)), (1, .int x1), (2, .int x2), (3, .int x3), (4, .int x4)]) hx hb d_Rows_hasOneOf_25 hl (by decide) rfl (fun ls hl => ?_)
  exact k_Rows_hasOneOf_27 hC F _ _ _ _ _ _ _ _ _ h _ _ _ hP hD hS (lv_sub hl [3, 4, 6, 7, 2, 1, 0] rfl)
theorem c_Rows_hasOneOf (l : Launch) (g : Gz) (F : Nat) (a_t : Nat → Nat) (r_pile : Nat) (t : StI) (tL : StL) (x1 : Int32) (x2 : Int32) (x3 : Int32) (x4 : Int32) (res : Int32) (h : Rows_hasOneOf F t tL x1 x2 x3 x4 = some res) : ∀ sz : Nat, Met l y_Rows_hasOneOf (.code y_Rows_hasOneOf prog_7_method_15_code 10 (some .boolean) :: TBL) rm_Rows_hasOneOf (va_Pc [.ref (a_t 0), .int x1, .int x2, .int x3, .int x4] (Pre0 g ((pic_Rows g a_t r_pile t tL)) sz)) (RI res (fun q => sz ≤ q)) 0 0 (fun q => sz ≤ q) :=
  ct_r (Qc := fun A => RI res A) (by decide) (Nat.le_of_ble_eq_true rfl) (fun p e s m args below meth c A2 A hC => k_Rows_hasOneOf hC t tL x1 x2 x3 x4 res h)
def Rows_leaveOut_72 (F : Nat) (k10 : StI → StL → Int32 → Int32 → Int32 → Int32 → Option (StI × StL)) (t : StI) (tL : StL) (x1 : Int32) (x2 : Int32) (x3 : Int32) (x4 : Int32) : Option (StI × StL) := k10 t tL x1 x2 x3 (x4 + (1 : Int32))
def Rows_leaveOut_10 (F : Nat) : Nat → StI → StL → Int32 → Int32 → Int32 → Int32 → Option (StI × StL)
  | 0, _, _, _, _, _, _ => none
  | n + 1, t, tL, x1, x2, x3, x4 => if x2 ≤ x4 then letS (va_up t 2 (fun _ => x3)) fun t_14 => some (t_14, tL) else (Rows_hasOneOf F t tL x4 x1 x3 (1 : Int32)).bind fun r15 => if r15 = 0 then (Rows_hasOneOf F t tL x4 (x4 + (1 : Int32)) x2 (0 : Int32)).bind fun r17 => if r17 = 0 then if x4 < 0 ∨ 2400 ≤ x4.toNatClampNeg then none else if x3 < 0 ∨ 2400 ≤ x3.toNatClampNeg then none else letS (va_up tL 0 (vp_updL (tL 0) x3.toNatClampNeg ((tL 0) x4.toNatClampNeg))) fun t_20 => if x4 < 0 ∨ 2400 ≤ x4.toNatClampNeg then none else if x3 < 0 ∨ 2400 ≤ x3.toNatClampNeg then none else letS (va_up t_20 1 (vp_updL (t_20 1) x3.toNatClampNeg ((t_20 1) x4.toNatClampNeg))) fun t_23 => Rows_leaveOut_72 F (Rows_leaveOut_10 F n) t t_23 x1 x2 (x3 + (1 : Int32)) x4 else Rows_leaveOut_72 F (Rows_leaveOut_10 F n) t tL x1 x2 x3 x4 else Rows_leaveOut_72 F (Rows_leaveOut_10 F n) t tL x1 x2 x3 x4
def Rows_leaveOut (F : Nat) (t : StI) (tL : StL) (x1 : Int32) : Option (StI × StL) := Rows_leaveOut_10 F F t tL x1 (t 2 0) x1 x1
set_option maxHeartbeats 4000000 in
set_option maxRecDepth 100000 in
theorem k_Rows_leaveOut_72 {p : Program} {l : Launch} {e : Env} {s : State} {m : MethodId} {args : Array Value} {below : List Frame} {meth : Method} {c : Code} {g : Gz} {A : Nat → Prop} {F : Nat} {a_t : Nat → Nat} {r_pile : Nat} {k10 : StI → StL → Int32 → Int32 → Int32 → Int32 → Option (StI × StL)} (hC : Cx prog_7_method_14_code 5 none R_Rows p s m args meth c g A A) : ∀ (t : StI) (tL : StL) (x1 : Int32) (x2 : Int32) (x3 : Int32) (x4 : Int32) (res : StI × StL), Rows_leaveOut_72 F k10 t tL x1 x2 x3 x4 = some res → (∀ (t : StI) (tL : StL) (x1 : Int32) (x2 : Int32) (x3 : Int32) (x4 : Int32), k10 t tL x1 x2 x3 x4 = some res → Go p l e rm_Rows_leaveOut s m args below meth c g A A 5 (MQ below (EV g ((pic_Rows g a_t r_pile res.1 res.2)) A) args s 0 0 A) ((pic_Rows g a_t r_pile t tL)) [(0, .ref (a_t 0)), (1, .int x1), (2, .int x2), (3, .int x3), (4, .int x4)] 10 []) → Go p l e rm_Rows_leaveOut s m args below meth c g A A 5 (MQ below (EV g ((pic_Rows g a_t r_pile res.1 res.2)) A) args s 0 0 A) ((pic_Rows g a_t r_pile t tL)) [(0, .ref (a_t 0)), (1, .int x1), (2, .int x2), (3, .int x3), (4, .int x4)] 72 [] := by
  obtain ⟨hx, hb, hr, hml, hown, htb, hlocks, hA, hAA, hG⟩ := id hC
  have hK := hG.1
  intro t tL x1 x2 x3 x4 res h hk10 H locs ls hP hD hS hl
  rw [Rows_leaveOut_72] at h
  refine lv_iinc (v := (x4 + (1 : Int32))) (lv' := [(4, .int (x4 + (1 : Int32))), (0, .ref (a_t 0)), (1, .int x1), (2, .int x2), (3, .int x3)]) hx hb d_Rows_leaveOut_72 hl (k := 4) rfl rfl (by decide) rfl (fun ls hl => ?_)
  refine lv_goto (tgt := 10) hx hb d_Rows_leaveOut_75 (by decide) ?_
  exact hk10 _ _ _ _ _ _ h _ _ _ hP hD hS (lv_sub hl [1, 2, 3, 4, 0] rfl)
set_option maxHeartbeats 4000000 in
set_option maxRecDepth 100000 in
theorem k_Rows_leaveOut_10 {p : Program} {l : Launch} {e : Env} {s : State} {m : MethodId} {args : Array Value} {below : List Frame} {meth : Method} {c : Code} {g : Gz} {A : Nat → Prop} {F : Nat} {a_t : Nat → Nat} {r_pile : Nat} (hC : Cx prog_7_method_14_code 5 none R_Rows p s m args meth c g A A) : ∀ (n : Nat) (t : StI) (tL : StL) (x1 : Int32) (x2 : Int32) (x3 : Int32) (x4 : Int32) (res : StI × StL), Rows_leaveOut_10 F n t tL x1 x2 x3 x4 = some res → Go p l e rm_Rows_leaveOut s m args below meth c g A A 5 (MQ below (EV g ((pic_Rows g a_t r_pile res.1 res.2)) A) args s 0 0 A) ((pic_Rows g a_t r_pile t tL)) [(0, .ref (a_t 0)), (1, .int x1), (2, .int x2), (3, .int x3), (4, .int x4)] 10 [] := by
  obtain ⟨hx, hb, hr, hml, hown, htb, hlocks, hA, hAA, hG⟩ := id hC
  have hK := hG.1
  intro n
  induction n with
  | zero => intro t tL x1 x2 x3 x4 res h; rw [Rows_leaveOut_10] at h; cases h
  | succ n ih =>
    intro t tL x1 x2 x3 x4 res h H locs ls hP hD hS hl
    rw [Rows_leaveOut_10] at h
    refine lv_iload hx hb d_Rows_leaveOut_10 (lv_at hl 4 rfl) ?_
    refine lv_iload_n hx hb d_Rows_leaveOut_12 rfl (lv_at hl 2 rfl) ?_
    refine lv_icmp_ge (tgt := 78) hx hb d_Rows_leaveOut_13 (by decide) (fun c13 => ?_) (fun c13 => ?_)
    · replace h := (if_pos c13).symm.trans h
      refine lv_aload_n hx hb d_Rows_leaveOut_78 rfl (lv_at hl 0 rfl) ?_
      refine lv_iload_n hx hb d_Rows_leaveOut_79 rfl (lv_at hl 3 rfl) ?_
      refine va_put (D := gD g) (ci := 6) (v := .int x3) (ty := .int) (C := R_Rows) (T := T_Rows) (N := 11) hx hb htb in_Rows ty_Rows ty_Rows_ok nm_Rows hown hK hP hD hS 0 rfl rfl 2 (by decide) (htb _ L_Rows_18) (fun _ h9 => h9) rfl (by decide +kernel) rfl rfl (Nat.le_of_ble_eq_true rfl) d_Rows_leaveOut_80 (fun H locs hP hD hS => ?_)
      obtain ⟨t_14, et_14, h⟩ := letS_el h
      have hP : va_P (gD g) vwCl ((pic_Rows g a_t r_pile t_14 tL)) H := by rw [et_14]; exact hP
      have hD : va_D A ((pic_Rows g a_t r_pile t_14 tL)) := by rw [et_14]; exact hD
      cases h
      exact W.vret hx hb hr (fun t ht hW => ⟨⟨(), rfl, trivial, by rw [ht]; exact hP, hD⟩, hS.F ht⟩) hS.2.2 d_Rows_leaveOut_83
    · replace h := (if_neg c13).symm.trans h
      refine lv_aload_n hx hb d_Rows_leaveOut_16 rfl (lv_at hl 0 rfl) ?_
      refine lv_iload hx hb d_Rows_leaveOut_17 (lv_at hl 4 rfl) ?_
      refine lv_iload_n hx hb d_Rows_leaveOut_19 rfl (lv_at hl 1 rfl) ?_
      refine lv_iload_n hx hb d_Rows_leaveOut_20 rfl (lv_at hl 3 rfl) ?_
      refine lv_iconst (v := 1) hx hb d_Rows_leaveOut_21 (by decide) ?_
      obtain ⟨r15, hr15, h⟩ := Option.bind_eq_some_iff.mp h
      refine cl_Ir hP hS hA (va_runV (As := [.int x4, .int x1, .int x3, .int (1 : Int32)]) (rest := []) ⟨hx, hb, hml, hown, htb⟩ (c_Rows_hasOneOf l g F a_t r_pile t tL x4 x1 x3 (1 : Int32) _ hr15 H.size) (cw_V htb mb_Rows_hasOneOf (htb _ L_Rows_138) rfl rfl ⟨Nat.le_of_ble_eq_true rfl, Nat.le_of_ble_eq_true rfl⟩) (pre_V (va_recv hK hP (ci := 6) (q0 := 0) rfl rfl) (pre_S [0, 1, 2, 3, 4, 5, 6, 7] rfl rfl hP hD hS hA hAA hG)) rfl rfl hl.1 rfl (lv_room (Nat.le_of_ble_eq_true rfl)) d_Rows_leaveOut_22 ⟨Nat.zero_le _, Nat.zero_le _⟩) (fun H locs hP hS => ?_)
      refine lv_if_ne (tgt := 72) hx hb d_Rows_leaveOut_25 (by decide) (fun c16 => ?_) (fun c16 => ?_)
      · replace h := (if_neg c16).symm.trans h
        exact k_Rows_leaveOut_72 hC _ _ _ _ _ _ _ h (fun z0 z1 z2 z3 z4 z5 hz => ih z0 z1 z2 z3 z4 z5 _ hz) _ _ _ hP hD hS (lv_sub hl [0, 1, 2, 3, 4] rfl)
      · replace h := (if_pos c16).symm.trans h
        refine lv_aload_n hx hb d_Rows_leaveOut_28 rfl (lv_at hl 0 rfl) ?_
        refine lv_iload hx hb d_Rows_leaveOut_29 (lv_at hl 4 rfl) ?_
        refine lv_iload hx hb d_Rows_leaveOut_31 (lv_at hl 4 rfl) ?_
        refine lv_iconst (v := 1) hx hb d_Rows_leaveOut_33 (by decide) ?_
        refine lv_iadd hx hb d_Rows_leaveOut_34 ?_
        refine lv_iload_n hx hb d_Rows_leaveOut_35 rfl (lv_at hl 2 rfl) ?_
        refine lv_iconst (v := 0) hx hb d_Rows_leaveOut_36 (by decide) ?_
        obtain ⟨r17, hr17, h⟩ := Option.bind_eq_some_iff.mp h
        refine cl_Ir hP hS hA (va_runV (As := [.int x4, .int (x4 + (1 : Int32)), .int x2, .int (0 : Int32)]) (rest := []) ⟨hx, hb, hml, hown, htb⟩ (c_Rows_hasOneOf l g F a_t r_pile t tL x4 (x4 + (1 : Int32)) x2 (0 : Int32) _ hr17 H.size) (cw_V htb mb_Rows_hasOneOf (htb _ L_Rows_138) rfl rfl ⟨Nat.le_of_ble_eq_true rfl, Nat.le_of_ble_eq_true rfl⟩) (pre_V (va_recv hK hP (ci := 6) (q0 := 0) rfl rfl) (pre_S [0, 1, 2, 3, 4, 5, 6, 7] rfl rfl hP hD hS hA hAA hG)) rfl rfl hl.1 rfl (lv_room (Nat.le_of_ble_eq_true rfl)) d_Rows_leaveOut_37 ⟨Nat.zero_le _, Nat.zero_le _⟩) (fun H locs hP hS => ?_)
        refine lv_if_ne (tgt := 72) hx hb d_Rows_leaveOut_40 (by decide) (fun c18 => ?_) (fun c18 => ?_)
        · replace h := (if_neg c18).symm.trans h
          exact k_Rows_leaveOut_72 hC _ _ _ _ _ _ _ h (fun z0 z1 z2 z3 z4 z5 hz => ih z0 z1 z2 z3 z4 z5 _ hz) _ _ _ hP hD hS (lv_sub hl [0, 1, 2, 3, 4] rfl)
        · replace h := (if_pos c18).symm.trans h
          refine lv_aload_n hx hb d_Rows_leaveOut_43 rfl (lv_at hl 0 rfl) ?_
          refine va_get (D := gD g) (ci := 6) (v := .ref (a_t 1)) (C := R_Rows) (T := T_Rows) (N := 11) hx hb htb in_Rows hown hK hP 0 rfl rfl 0 (by decide) (htb _ L_Rows_11) (fun _ h9 => h9) rfl d_Rows_leaveOut_44 ?_
          refine lv_iload_n hx hb d_Rows_leaveOut_47 rfl (lv_at hl 3 rfl) ?_
          refine lv_aload_n hx hb d_Rows_leaveOut_48 rfl (lv_at hl 0 rfl) ?_
          refine va_get (D := gD g) (ci := 6) (v := .ref (a_t 1)) (C := R_Rows) (T := T_Rows) (N := 11) hx hb htb in_Rows hown hK hP 0 rfl rfl 0 (by decide) (htb _ L_Rows_11) (fun _ h9 => h9) rfl d_Rows_leaveOut_49 ?_
          refine lv_iload hx hb d_Rows_leaveOut_52 (lv_at hl 4 rfl) ?_
          by_cases c19 : (x4 < 0 ∨ 2400 ≤ x4.toNatClampNeg)
          · replace h := (if_pos c19).symm.trans h
            cases h
          replace h := (if_neg c19).symm.trans h
          refine va_lald hx hb hK hP 1 3 rfl rfl c19 d_Rows_leaveOut_54 ?_
          by_cases c21 : (x3 < 0 ∨ 2400 ≤ x3.toNatClampNeg)
          · replace h := (if_pos c21).symm.trans h
            cases h
          replace h := (if_neg c21).symm.trans h
          refine va_last hx hb hK hP hD hS 1 3 rfl rfl c21 d_Rows_leaveOut_55 (fun H locs hP hD hS => ?_)
          obtain ⟨t_20, et_20, h⟩ := letS_el h
          have hP : va_P (gD g) vwCl ((pic_Rows g a_t r_pile t t_20)) H := by rw [et_20]; exact hP
          have hD : va_D A ((pic_Rows g a_t r_pile t t_20)) := by rw [et_20]; exact hD
          refine lv_aload_n hx hb d_Rows_leaveOut_56 rfl (lv_at hl 0 rfl) ?_
          refine va_get (D := gD g) (ci := 6) (v := .ref (a_t 2)) (C := R_Rows) (T := T_Rows) (N := 11) hx hb htb in_Rows hown hK hP 0 rfl rfl 1 (by decide) (htb _ L_Rows_15) (fun _ h9 => h9) rfl d_Rows_leaveOut_57 ?_
          refine lv_iload_n hx hb d_Rows_leaveOut_60 rfl (lv_at hl 3 rfl) ?_
          refine lv_aload_n hx hb d_Rows_leaveOut_61 rfl (lv_at hl 0 rfl) ?_
          refine va_get (D := gD g) (ci := 6) (v := .ref (a_t 2)) (C := R_Rows) (T := T_Rows) (N := 11) hx hb htb in_Rows hown hK hP 0 rfl rfl 1 (by decide) (htb _ L_Rows_15) (fun _ h9 => h9) rfl d_Rows_leaveOut_62 ?_
          refine lv_iload hx hb d_Rows_leaveOut_65 (lv_at hl 4 rfl) ?_
          by_cases c22 : (x4 < 0 ∨ 2400 ≤ x4.toNatClampNeg)
          · replace h := (if_pos c22).symm.trans h
            cases h
          replace h := (if_neg c22).symm.trans h
          refine va_lald hx hb hK hP 2 3 rfl rfl c22 d_Rows_leaveOut_67 ?_
          by_cases c24 : (x3 < 0 ∨ 2400 ≤ x3.toNatClampNeg)
          · replace h := (if_pos c24).symm.trans h
            cases h
          replace h := (if_neg c24).symm.trans h
          refine va_last hx hb hK hP hD hS 2 3 rfl rfl c24 d_Rows_leaveOut_68 (fun H locs hP hD hS => ?_)
          obtain ⟨t_23, et_23, h⟩ := letS_el h
          have hP : va_P (gD g) vwCl ((pic_Rows g a_t r_pile t t_23)) H := by rw [et_23]; exact hP
          have hD : va_D A ((pic_Rows g a_t r_pile t t_23)) := by rw [et_23]; exact hD
          refine lv_iinc (v := (x3 + (1 : Int32))) (lv' := [(3, .int (x3 + (1 : Int32))), (0, .ref (a_t 0)), (1, .int x1), (2, .int x2), (4, .int x4)]) hx hb d_Rows_leaveOut_69 hl (k := 3) rfl rfl (by decide) rfl (fun ls hl => ?_)
          exact k_Rows_leaveOut_72 hC _ _ _ _ _ _ _ h (fun z0 z1 z2 z3 z4 z5 hz => ih z0 z1 z2 z3 z4 z5 _ hz) _ _ _ hP hD hS (lv_sub hl [1, 2, 3, 0, 4] rfl)
set_option maxHeartbeats 4000000 in
set_option maxRecDepth 100000 in
theorem k_Rows_leaveOut {p : Program} {l : Launch} {e : Env} {s : State} {m : MethodId} {args : Array Value} {below : List Frame} {meth : Method} {c : Code} {g : Gz} {A : Nat → Prop} {F : Nat} {a_t : Nat → Nat} {r_pile : Nat} (hC : Cx prog_7_method_14_code 5 none R_Rows p s m args meth c g A A) : ∀ (t : StI) (tL : StL) (x1 : Int32) (res : StI × StL), Rows_leaveOut F t tL x1 = some res → Go p l e rm_Rows_leaveOut s m args below meth c g A A 5 (MQ below (EV g ((pic_Rows g a_t r_pile res.1 res.2)) A) args s 0 0 A) ((pic_Rows g a_t r_pile t tL)) [(0, .ref (a_t 0)), (1, .int x1)] 0 [] := by
  obtain ⟨hx, hb, hr, hml, hown, htb, hlocks, hA, hAA, hG⟩ := id hC
  have hK := hG.1
  intro t tL x1 res h H locs ls hP hD hS hl
  rw [Rows_leaveOut] at h
  refine lv_aload_n hx hb d_Rows_leaveOut_0 rfl (lv_at hl 0 rfl) ?_
  refine va_get (D := gD g) (ci := 6) (v := .int (t 2 0)) (C := R_Rows) (T := T_Rows) (N := 11) hx hb htb in_Rows hown hK hP 0 rfl rfl 2 (by decide) (htb _ L_Rows_18) (fun _ h9 => h9) rfl d_Rows_leaveOut_1 ?_
  refine lv_istore_n (lv' := [(2, .int (t 2 0)), (0, .ref (a_t 0)), (1, .int x1)]) hx hb d_Rows_leaveOut_4 rfl hl (by decide) rfl (fun ls hl => ?_)
  refine lv_iload_n hx hb d_Rows_leaveOut_5 rfl (lv_at hl 2 rfl) ?_
  refine lv_istore_n (lv' := [(3, .int x1), (2, .int (t 2 0)), (0, .ref (a_t 0)), (1, .int x1)]) hx hb d_Rows_leaveOut_6 rfl hl (by decide) rfl (fun ls hl => ?_)
  refine lv_iload_n hx hb d_Rows_leaveOut_7 rfl (lv_at hl 3 rfl) ?_
  refine lv_istore (lv' := [(4, .int x1), (3, .int x1), (2, .int (t 2 0)), (0, .ref (a_t 0)), (1, .int x1)]) hx hb d_Rows_leaveOut_8 hl (by decide) rfl (fun ls hl => ?_)
  exact k_Rows_leaveOut_10 hC F _ _ _ _ _ _ _ h _ _ _ hP hD hS (lv_sub hl [3, 4, 2, 1, 0] rfl)
theorem c_Rows_leaveOut (l : Launch) (g : Gz) (F : Nat) (a_t : Nat → Nat) (r_pile : Nat) (t : StI) (tL : StL) (x1 : Int32) (res : StI × StL) (h : Rows_leaveOut F t tL x1 = some res) : ∀ sz : Nat, Met l y_Rows_leaveOut (.code y_Rows_leaveOut prog_7_method_14_code 5 none :: TBL) rm_Rows_leaveOut (va_Pc [.ref (a_t 0), .int x1] (Pre0 g ((pic_Rows g a_t r_pile t tL)) sz)) (EV g ((pic_Rows g a_t r_pile res.1 res.2)) (va_A ((pic_Rows g a_t r_pile t tL)) sz)) 0 0 (va_A ((pic_Rows g a_t r_pile t tL)) sz) :=
  ct_w (Qc := fun A => EV g ((pic_Rows g a_t r_pile res.1 res.2)) A) (by decide) (Nat.le_of_ble_eq_true rfl) (fun p e s m args below meth c A hC => k_Rows_leaveOut hC t tL x1 res h)
def Rows_putSide_16 (F : Nat) : Nat → StI → StL → Int32 → Int32 → Int32 → Option (Int32 × StI × StL)
  | 0, _, _, _, _, _ => none
  | n + 1, t, tL, x1, x4, x5 => if x4 ≤ x5 then some ((1 : Int32), t, tL) else if x5 < 0 ∨ 2400 ≤ x5.toNatClampNeg then none else if x5 < 0 ∨ 2400 ≤ x5.toNatClampNeg then none else (Rows_put F t tL x1 ((tL 0) x5.toNatClampNeg) ((tL 1) x5.toNatClampNeg)).bind fun r11 => if r11.1 = 0 then some ((0 : Int32), r11.2.1, r11.2.2) else Rows_putSide_16 F n r11.2.1 r11.2.2 x1 x4 (x5 + (1 : Int32))
def Rows_putSide (F : Nat) (t : StI) (tL : StL) (x1 : Int32) (x2 : Int32) (x3 : Int32) : Option (Int32 × StI × StL) := (Rows_sideTo F t tL x2 x3).bind fun r13 => (Rows_sideFrom F t tL x2 x3).bind fun r14 => Rows_putSide_16 F F t tL x1 r13 r14
set_option maxHeartbeats 4000000 in
set_option maxRecDepth 100000 in
theorem k_Rows_putSide_16 {p : Program} {l : Launch} {e : Env} {s : State} {m : MethodId} {args : Array Value} {below : List Frame} {meth : Method} {c : Code} {g : Gz} {A : Nat → Prop} {F : Nat} {a_t : Nat → Nat} {r_pile : Nat} (hC : Cx prog_7_method_12_code 6 (some .boolean) R_Rows p s m args meth c g A A) : ∀ (n : Nat) (t : StI) (tL : StL) (x1 : Int32) (x4 : Int32) (x5 : Int32) (res : Int32 × StI × StL), Rows_putSide_16 F n t tL x1 x4 x5 = some res → Go p l e rm_Rows_putSide s m args below meth c g A A 6 (MQ below (EI g ((pic_Rows g a_t r_pile res.2.1 res.2.2)) res.1 A) args s 0 0 A) ((pic_Rows g a_t r_pile t tL)) [(0, .ref (a_t 0)), (1, .int x1), (4, .int x4), (5, .int x5)] 16 [] := by
  obtain ⟨hx, hb, hr, hml, hown, htb, hlocks, hA, hAA, hG⟩ := id hC
  have hK := hG.1
  intro n
  induction n with
  | zero => intro t tL x1 x4 x5 res h; rw [Rows_putSide_16] at h; cases h
  | succ n ih =>
    intro t tL x1 x4 x5 res h H locs ls hP hD hS hl
    rw [Rows_putSide_16] at h
    refine lv_iload hx hb d_Rows_putSide_16 (lv_at hl 3 rfl) ?_
    refine lv_iload hx hb d_Rows_putSide_18 (lv_at hl 2 rfl) ?_
    refine lv_icmp_ge (tgt := 53) hx hb d_Rows_putSide_20 (by decide) (fun c8 => ?_) (fun c8 => ?_)
    · replace h := (if_pos c8).symm.trans h
      refine lv_iconst (v := 1) hx hb d_Rows_putSide_53 (by decide) ?_
      cases h
      exact W.zret hx hb hr rfl (fun t ht hW => ⟨⟨_, (), rfl, rfl, by rw [ht]; exact hP, hD⟩, hS.F ht⟩) hS.2.2 d_Rows_putSide_54
    · replace h := (if_neg c8).symm.trans h
      refine lv_aload_n hx hb d_Rows_putSide_23 rfl (lv_at hl 0 rfl) ?_
      refine lv_iload_n hx hb d_Rows_putSide_24 rfl (lv_at hl 1 rfl) ?_
      refine lv_aload_n hx hb d_Rows_putSide_25 rfl (lv_at hl 0 rfl) ?_
      refine va_get (D := gD g) (ci := 6) (v := .ref (a_t 1)) (C := R_Rows) (T := T_Rows) (N := 11) hx hb htb in_Rows hown hK hP 0 rfl rfl 0 (by decide) (htb _ L_Rows_11) (fun _ h9 => h9) rfl d_Rows_putSide_26 ?_
      refine lv_iload hx hb d_Rows_putSide_29 (lv_at hl 3 rfl) ?_
      by_cases c9 : (x5 < 0 ∨ 2400 ≤ x5.toNatClampNeg)
      · replace h := (if_pos c9).symm.trans h
        cases h
      replace h := (if_neg c9).symm.trans h
      refine va_lald hx hb hK hP 1 3 rfl rfl c9 d_Rows_putSide_31 ?_
      refine lv_aload_n hx hb d_Rows_putSide_32 rfl (lv_at hl 0 rfl) ?_
      refine va_get (D := gD g) (ci := 6) (v := .ref (a_t 2)) (C := R_Rows) (T := T_Rows) (N := 11) hx hb htb in_Rows hown hK hP 0 rfl rfl 1 (by decide) (htb _ L_Rows_15) (fun _ h9 => h9) rfl d_Rows_putSide_33 ?_
      refine lv_iload hx hb d_Rows_putSide_36 (lv_at hl 3 rfl) ?_
      by_cases c10 : (x5 < 0 ∨ 2400 ≤ x5.toNatClampNeg)
      · replace h := (if_pos c10).symm.trans h
        cases h
      replace h := (if_neg c10).symm.trans h
      refine va_lald hx hb hK hP 2 3 rfl rfl c10 d_Rows_putSide_38 ?_
      obtain ⟨r11, hr11, h⟩ := Option.bind_eq_some_iff.mp h
      refine cl_I (wr := []) [0, 1, 2, 3, 4, 5, 6, 7] [] rfl rfl rfl (by decide) hP hD hS hA (va_runV (As := [.int x1, .long ((tL 0) x5.toNatClampNeg), .long ((tL 1) x5.toNatClampNeg)]) (rest := []) ⟨hx, hb, hml, hown, htb⟩ (c_Rows_put l g F a_t r_pile t tL x1 ((tL 0) x5.toNatClampNeg) ((tL 1) x5.toNatClampNeg) _ hr11 H.size) (cw_V htb mb_Rows_put (htb _ L_Rows_58) rfl rfl ⟨Nat.le_of_ble_eq_true rfl, Nat.le_of_ble_eq_true rfl⟩) (pre_V (va_recv hK hP (ci := 6) (q0 := 0) rfl rfl) (pre_S [0, 1, 2, 3, 4, 5, 6, 7] rfl rfl hP hD hS hA hAA hG)) rfl rfl hl.1 rfl (lv_room (Nat.le_of_ble_eq_true rfl)) d_Rows_putSide_39 ⟨Nat.zero_le _, Nat.zero_le _⟩) (fun H locs hP hD hS => ?_)
      have hP : va_P (gD g) vwCl ((pic_Rows g a_t r_pile r11.2.1 r11.2.2)) H := hP.sub [0, 1, 2, 3, 4, 5, 6, 7] rfl
      have hD : va_D A ((pic_Rows g a_t r_pile r11.2.1 r11.2.2)) := hD.sub [0, 1, 2, 3, 4, 5, 6, 7] rfl rfl
      refine lv_if_ne (tgt := 47) hx hb d_Rows_putSide_42 (by decide) (fun c12 => ?_) (fun c12 => ?_)
      · replace h := (if_neg c12).symm.trans h
        refine lv_iinc (v := (x5 + (1 : Int32))) (lv' := [(5, .int (x5 + (1 : Int32))), (0, .ref (a_t 0)), (1, .int x1), (4, .int x4)]) hx hb d_Rows_putSide_47 hl (k := 3) rfl rfl (by decide) rfl (fun ls hl => ?_)
        refine lv_goto (tgt := 16) hx hb d_Rows_putSide_50 (by decide) ?_
        exact ih _ _ _ _ _ _ h _ _ _ hP hD hS (lv_sub hl [1, 2, 3, 0] rfl)
      · replace h := (if_pos c12).symm.trans h
        refine lv_iconst (v := 0) hx hb d_Rows_putSide_45 (by decide) ?_
        cases h
        exact W.zret hx hb hr rfl (fun t ht hW => ⟨⟨_, (), rfl, rfl, by rw [ht]; exact hP, hD⟩, hS.F ht⟩) hS.2.2 d_Rows_putSide_46
set_option maxHeartbeats 4000000 in
set_option maxRecDepth 100000 in
theorem k_Rows_putSide {p : Program} {l : Launch} {e : Env} {s : State} {m : MethodId} {args : Array Value} {below : List Frame} {meth : Method} {c : Code} {g : Gz} {A : Nat → Prop} {F : Nat} {a_t : Nat → Nat} {r_pile : Nat} (hC : Cx prog_7_method_12_code 6 (some .boolean) R_Rows p s m args meth c g A A) : ∀ (t : StI) (tL : StL) (x1 : Int32) (x2 : Int32) (x3 : Int32) (res : Int32 × StI × StL), Rows_putSide F t tL x1 x2 x3 = some res → Go p l e rm_Rows_putSide s m args below meth c g A A 6 (MQ below (EI g ((pic_Rows g a_t r_pile res.2.1 res.2.2)) res.1 A) args s 0 0 A) ((pic_Rows g a_t r_pile t tL)) [(0, .ref (a_t 0)), (1, .int x1), (2, .int x2), (3, .int x3)] 0 [] := by
  obtain ⟨hx, hb, hr, hml, hown, htb, hlocks, hA, hAA, hG⟩ := id hC
  have hK := hG.1
  intro t tL x1 x2 x3 res h H locs ls hP hD hS hl
  rw [Rows_putSide] at h
  refine lv_aload_n hx hb d_Rows_putSide_0 rfl (lv_at hl 0 rfl) ?_
  refine lv_iload_n hx hb d_Rows_putSide_1 rfl (lv_at hl 2 rfl) ?_
  refine lv_iload_n hx hb d_Rows_putSide_2 rfl (lv_at hl 3 rfl) ?_
  obtain ⟨r13, hr13, h⟩ := Option.bind_eq_some_iff.mp h
  refine cl_Ir hP hS hA (va_runV (As := [.int x2, .int x3]) (rest := []) ⟨hx, hb, hml, hown, htb⟩ (c_Rows_sideTo l g F a_t r_pile t tL x2 x3 _ hr13 H.size) (cw_V htb mb_Rows_sideTo (htb _ L_Rows_83) rfl rfl ⟨Nat.le_of_ble_eq_true rfl, Nat.le_of_ble_eq_true rfl⟩) (pre_V (va_recv hK hP (ci := 6) (q0 := 0) rfl rfl) (pre_S [0, 1, 2, 3, 4, 5, 6, 7] rfl rfl hP hD hS hA hAA hG)) rfl rfl hl.1 rfl (lv_room (Nat.le_of_ble_eq_true rfl)) d_Rows_putSide_3 ⟨Nat.zero_le _, Nat.zero_le _⟩) (fun H locs hP hS => ?_)
  refine lv_istore (lv' := [(4, .int r13), (0, .ref (a_t 0)), (1, .int x1), (2, .int x2), (3, .int x3)]) hx hb d_Rows_putSide_6 hl (by decide) rfl (fun ls hl => ?_)
  refine lv_aload_n hx hb d_Rows_putSide_8 rfl (lv_at hl 1 rfl) ?_
  refine lv_iload_n hx hb d_Rows_putSide_9 rfl (lv_at hl 3 rfl) ?_
  refine lv_iload_n hx hb d_Rows_putSide_10 rfl (lv_at hl 4 rfl) ?_
  obtain ⟨r14, hr14, h⟩ := Option.bind_eq_some_iff.mp h
  refine cl_Ir hP hS hA (va_runV (As := [.int x2, .int x3]) (rest := []) ⟨hx, hb, hml, hown, htb⟩ (c_Rows_sideFrom l g F a_t r_pile t tL x2 x3 _ hr14 H.size) (cw_V htb mb_Rows_sideFrom (htb _ L_Rows_135) rfl rfl ⟨Nat.le_of_ble_eq_true rfl, Nat.le_of_ble_eq_true rfl⟩) (pre_V (va_recv hK hP (ci := 6) (q0 := 0) rfl rfl) (pre_S [0, 1, 2, 3, 4, 5, 6, 7] rfl rfl hP hD hS hA hAA hG)) rfl rfl hl.1 rfl (lv_room (Nat.le_of_ble_eq_true rfl)) d_Rows_putSide_11 ⟨Nat.zero_le _, Nat.zero_le _⟩) (fun H locs hP hS => ?_)
  refine lv_istore (lv' := [(5, .int r14), (4, .int r13), (0, .ref (a_t 0)), (1, .int x1), (2, .int x2), (3, .int x3)]) hx hb d_Rows_putSide_14 hl (by decide) rfl (fun ls hl => ?_)
  exact k_Rows_putSide_16 hC F _ _ _ _ _ _ h _ _ _ hP hD hS (lv_sub hl [2, 3, 1, 0] rfl)
theorem c_Rows_putSide (l : Launch) (g : Gz) (F : Nat) (a_t : Nat → Nat) (r_pile : Nat) (t : StI) (tL : StL) (x1 : Int32) (x2 : Int32) (x3 : Int32) (res : Int32 × StI × StL) (h : Rows_putSide F t tL x1 x2 x3 = some res) : ∀ sz : Nat, Met l y_Rows_putSide (.code y_Rows_putSide prog_7_method_12_code 6 (some .boolean) :: TBL) rm_Rows_putSide (va_Pc [.ref (a_t 0), .int x1, .int x2, .int x3] (Pre0 g ((pic_Rows g a_t r_pile t tL)) sz)) (EI g ((pic_Rows g a_t r_pile res.2.1 res.2.2)) res.1 (va_A ((pic_Rows g a_t r_pile t tL)) sz)) 0 0 (va_A ((pic_Rows g a_t r_pile t tL)) sz) :=
  ct_w (Qc := fun A => EI g ((pic_Rows g a_t r_pile res.2.1 res.2.2)) res.1 A) (by decide) (Nat.le_of_ble_eq_true rfl) (fun p e s m args below meth c A hC => k_Rows_putSide hC t tL x1 x2 x3 res h)
def Rows_putPairs_133 (F : Nat) (k57 : StI → StL → Int32 → Int32 → Int32 → Int32 → Int32 → Option (Int32 × StI × StL)) (k68 : StI → StL → Int32 → Int32 → Int32 → Int32 → Int32 → Int32 → Option (Int32 × StI × StL)) (t : StI) (tL : StL) (x3 : Int32) (x4 : Int32) (x5 : Int32) (x6 : Int32) (x7 : Int32) (x8 : Int32) : Option (Int32 × StI × StL) := k68 t tL x3 x4 x5 x6 x7 (x8 + (1 : Int32))
def Rows_putPairs_68 (F : Nat) (k57 : StI → StL → Int32 → Int32 → Int32 → Int32 → Int32 → Option (Int32 × StI × StL)) : Nat → StI → StL → Int32 → Int32 → Int32 → Int32 → Int32 → Int32 → Option (Int32 × StI × StL)
  | 0, _, _, _, _, _, _, _, _ => none
  | n + 1, t, tL, x3, x4, x5, x6, x7, x8 => if x6 ≤ x8 then k57 t tL x3 x4 x5 x6 (x7 + (1 : Int32)) else if x7 < 0 ∨ 2400 ≤ x7.toNatClampNeg then none else if x8 < 0 ∨ 2400 ≤ x8.toNatClampNeg then none else if x7 < 0 ∨ 2400 ≤ x7.toNatClampNeg then none else if x8 < 0 ∨ 2400 ≤ x8.toNatClampNeg then none else if (lg_cmp ((((tL 0) x7.toNatClampNeg) ||| ((tL 0) x8.toNatClampNeg)) &&& (((tL 1) x7.toNatClampNeg) ||| ((tL 1) x8.toNatClampNeg))) (0 : Int64)) = 0 then (Rows_put F t tL x3 (((tL 0) x7.toNatClampNeg) ||| ((tL 0) x8.toNatClampNeg)) (((tL 1) x7.toNatClampNeg) ||| ((tL 1) x8.toNatClampNeg))).bind fun r21 => if r21.1 = 0 then some ((0 : Int32), r21.2.1, r21.2.2) else Rows_putPairs_133 F k57 (Rows_putPairs_68 F k57 n) r21.2.1 r21.2.2 x3 x4 x5 x6 x7 x8 else Rows_putPairs_133 F k57 (Rows_putPairs_68 F k57 n) t tL x3 x4 x5 x6 x7 x8
def Rows_putPairs_57 (F : Nat) : Nat → StI → StL → Int32 → Int32 → Int32 → Int32 → Int32 → Option (Int32 × StI × StL)
  | 0, _, _, _, _, _, _, _ => none
  | n + 1, t, tL, x3, x4, x5, x6, x7 => if x4 ≤ x7 then (Rows_leaveOut F t tL x3).bind fun r24 => some ((1 : Int32), r24.1, r24.2) else Rows_putPairs_68 F (Rows_putPairs_57 F n) F t tL x3 x4 x5 x6 x7 x5
def Rows_putPairs (F : Nat) (t : StI) (tL : StL) (x1 : Int32) (x2 : Int32) : Option (Int32 × StI × StL) := (Rows_sideTo F t tL ((t 5 0) - (1 : Int32)) x1).bind fun r25 => (Rows_sideFrom F t tL ((t 5 0) - (2 : Int32)) x2).bind fun r26 => (Rows_sideTo F t tL ((t 5 0) - (2 : Int32)) x2).bind fun r27 => (Rows_sideFrom F t tL ((t 5 0) - (1 : Int32)) x1).bind fun r28 => Rows_putPairs_57 F F t tL (t 2 0) r25 r26 r27 r28
set_option maxHeartbeats 4000000 in
set_option maxRecDepth 100000 in
theorem k_Rows_putPairs_133 {p : Program} {l : Launch} {e : Env} {s : State} {m : MethodId} {args : Array Value} {below : List Frame} {meth : Method} {c : Code} {g : Gz} {A : Nat → Prop} {F : Nat} {a_t : Nat → Nat} {r_pile : Nat} {k57 : StI → StL → Int32 → Int32 → Int32 → Int32 → Int32 → Option (Int32 × StI × StL)} {k68 : StI → StL → Int32 → Int32 → Int32 → Int32 → Int32 → Int32 → Option (Int32 × StI × StL)} (hC : Cx prog_7_method_11_code 13 (some .boolean) R_Rows p s m args meth c g A A) : ∀ (t : StI) (tL : StL) (x3 : Int32) (x4 : Int32) (x5 : Int32) (x6 : Int32) (x7 : Int32) (x8 : Int32) (res : Int32 × StI × StL), Rows_putPairs_133 F k57 k68 t tL x3 x4 x5 x6 x7 x8 = some res → (∀ (t : StI) (tL : StL) (x3 : Int32) (x4 : Int32) (x5 : Int32) (x6 : Int32) (x7 : Int32), k57 t tL x3 x4 x5 x6 x7 = some res → Go p l e rm_Rows_putPairs s m args below meth c g A A 13 (MQ below (EI g ((pic_Rows g a_t r_pile res.2.1 res.2.2)) res.1 A) args s 0 0 A) ((pic_Rows g a_t r_pile t tL)) [(0, .ref (a_t 0)), (3, .int x3), (4, .int x4), (5, .int x5), (6, .int x6), (7, .int x7)] 57 []) → (∀ (t : StI) (tL : StL) (x3 : Int32) (x4 : Int32) (x5 : Int32) (x6 : Int32) (x7 : Int32) (x8 : Int32), k68 t tL x3 x4 x5 x6 x7 x8 = some res → Go p l e rm_Rows_putPairs s m args below meth c g A A 13 (MQ below (EI g ((pic_Rows g a_t r_pile res.2.1 res.2.2)) res.1 A) args s 0 0 A) ((pic_Rows g a_t r_pile t tL)) [(0, .ref (a_t 0)), (3, .int x3), (4, .int x4), (5, .int x5), (6, .int x6), (7, .int x7), (8, .int x8)] 68 []) → Go p l e rm_Rows_putPairs s m args below meth c g A A 13 (MQ below (EI g ((pic_Rows g a_t r_pile res.2.1 res.2.2)) res.1 A) args s 0 0 A) ((pic_Rows g a_t r_pile t tL)) [(0, .ref (a_t 0)), (3, .int x3), (4, .int x4), (5, .int x5), (6, .int x6), (7, .int x7), (8, .int x8)] 133 [] := by
  obtain ⟨hx, hb, hr, hml, hown, htb, hlocks, hA, hAA, hG⟩ := id hC
  have hK := hG.1
  intro t tL x3 x4 x5 x6 x7 x8 res h hk57 hk68 H locs ls hP hD hS hl
  rw [Rows_putPairs_133] at h
  refine lv_iinc (v := (x8 + (1 : Int32))) (lv' := [(8, .int (x8 + (1 : Int32))), (0, .ref (a_t 0)), (3, .int x3), (4, .int x4), (5, .int x5), (6, .int x6), (7, .int x7)]) hx hb d_Rows_putPairs_133 hl (k := 6) rfl rfl (by decide) rfl (fun ls hl => ?_)
  refine lv_goto (tgt := 68) hx hb d_Rows_putPairs_136 (by decide) ?_
  exact hk68 _ _ _ _ _ _ _ _ h _ _ _ hP hD hS (lv_sub hl [1, 2, 3, 4, 5, 6, 0] rfl)
set_option maxHeartbeats 4000000 in
set_option maxRecDepth 100000 in
theorem k_Rows_putPairs_68 {p : Program} {l : Launch} {e : Env} {s : State} {m : MethodId} {args : Array Value} {below : List Frame} {meth : Method} {c : Code} {g : Gz} {A : Nat → Prop} {F : Nat} {a_t : Nat → Nat} {r_pile : Nat} {k57 : StI → StL → Int32 → Int32 → Int32 → Int32 → Int32 → Option (Int32 × StI × StL)} (hC : Cx prog_7_method_11_code 13 (some .boolean) R_Rows p s m args meth c g A A) : ∀ (n : Nat) (t : StI) (tL : StL) (x3 : Int32) (x4 : Int32) (x5 : Int32) (x6 : Int32) (x7 : Int32) (x8 : Int32) (res : Int32 × StI × StL), Rows_putPairs_68 F k57 n t tL x3 x4 x5 x6 x7 x8 = some res → (∀ (t : StI) (tL : StL) (x3 : Int32) (x4 : Int32) (x5 : Int32) (x6 : Int32) (x7 : Int32), k57 t tL x3 x4 x5 x6 x7 = some res → Go p l e rm_Rows_putPairs s m args below meth c g A A 13 (MQ below (EI g ((pic_Rows g a_t r_pile res.2.1 res.2.2)) res.1 A) args s 0 0 A) ((pic_Rows g a_t r_pile t tL)) [(0, .ref (a_t 0)), (3, .int x3), (4, .int x4), (5, .int x5), (6, .int x6), (7, .int x7)] 57 []) → Go p l e rm_Rows_putPairs s m args below meth c g A A 13 (MQ below (EI g ((pic_Rows g a_t r_pile res.2.1 res.2.2)) res.1 A) args s 0 0 A) ((pic_Rows g a_t r_pile t tL)) [(0, .ref (a_t 0)), (3, .int x3), (4, .int x4), (5, .int x5), (6, .int x6), (7, .int x7), (8, .int x8)] 68 [] := by
  obtain ⟨hx, hb, hr, hml, hown, htb, hlocks, hA, hAA, hG⟩ := id hC
  have hK := hG.1
  intro n
  induction n with
  | zero => intro t tL x3 x4 x5 x6 x7 x8 res h hk57; rw [Rows_putPairs_68] at h; cases h
  | succ n ih =>
    intro t tL x3 x4 x5 x6 x7 x8 res h hk57 H locs ls hP hD hS hl
    rw [Rows_putPairs_68] at h
    refine lv_iload hx hb d_Rows_putPairs_68 (lv_at hl 6 rfl) ?_
    refine lv_iload hx hb d_Rows_putPairs_70 (lv_at hl 4 rfl) ?_
    refine lv_icmp_ge (tgt := 139) hx hb d_Rows_putPairs_72 (by decide) (fun c15 => ?_) (fun c15 => ?_)
    · replace h := (if_pos c15).symm.trans h
      refine lv_iinc (v := (x7 + (1 : Int32))) (lv' := [(7, .int (x7 + (1 : Int32))), (0, .ref (a_t 0)), (3, .int x3), (4, .int x4), (5, .int x5), (6, .int x6), (8, .int x8)]) hx hb d_Rows_putPairs_139 hl (k := 5) rfl rfl (by decide) rfl (fun ls hl => ?_)
      refine lv_goto (tgt := 57) hx hb d_Rows_putPairs_142 (by decide) ?_
      exact hk57 _ _ _ _ _ _ _ h _ _ _ hP hD hS (lv_sub hl [1, 2, 3, 4, 5, 0] rfl)
    · replace h := (if_neg c15).symm.trans h
      refine lv_aload_n hx hb d_Rows_putPairs_75 rfl (lv_at hl 0 rfl) ?_
      refine va_get (D := gD g) (ci := 6) (v := .ref (a_t 1)) (C := R_Rows) (T := T_Rows) (N := 11) hx hb htb in_Rows hown hK hP 0 rfl rfl 0 (by decide) (htb _ L_Rows_11) (fun _ h9 => h9) rfl d_Rows_putPairs_76 ?_
      refine lv_iload hx hb d_Rows_putPairs_79 (lv_at hl 5 rfl) ?_
      by_cases c16 : (x7 < 0 ∨ 2400 ≤ x7.toNatClampNeg)
      · replace h := (if_pos c16).symm.trans h
        cases h
      replace h := (if_neg c16).symm.trans h
      refine va_lald hx hb hK hP 1 3 rfl rfl c16 d_Rows_putPairs_81 ?_
      refine lv_aload_n hx hb d_Rows_putPairs_82 rfl (lv_at hl 0 rfl) ?_
      refine va_get (D := gD g) (ci := 6) (v := .ref (a_t 1)) (C := R_Rows) (T := T_Rows) (N := 11) hx hb htb in_Rows hown hK hP 0 rfl rfl 0 (by decide) (htb _ L_Rows_11) (fun _ h9 => h9) rfl d_Rows_putPairs_83 ?_
      refine lv_iload hx hb d_Rows_putPairs_86 (lv_at hl 6 rfl) ?_
      by_cases c17 : (x8 < 0 ∨ 2400 ≤ x8.toNatClampNeg)
      · replace h := (if_pos c17).symm.trans h
        cases h
      replace h := (if_neg c17).symm.trans h
      refine va_lald hx hb hK hP 1 3 rfl rfl c17 d_Rows_putPairs_88 ?_
      refine lv_lor hx hb d_Rows_putPairs_89 ?_
      refine lv_lstore (lv' := [(9, .long (((tL 0) x7.toNatClampNeg) ||| ((tL 0) x8.toNatClampNeg))), (0, .ref (a_t 0)), (3, .int x3), (4, .int x4), (5, .int x5), (6, .int x6), (7, .int x7), (8, .int x8)]) hx hb d_Rows_putPairs_90 hl (by decide) rfl (fun ls hl => ?_)
      refine lv_aload_n hx hb d_Rows_putPairs_92 rfl (lv_at hl 1 rfl) ?_
      refine va_get (D := gD g) (ci := 6) (v := .ref (a_t 2)) (C := R_Rows) (T := T_Rows) (N := 11) hx hb htb in_Rows hown hK hP 0 rfl rfl 1 (by decide) (htb _ L_Rows_15) (fun _ h9 => h9) rfl d_Rows_putPairs_93 ?_
      refine lv_iload hx hb d_Rows_putPairs_96 (lv_at hl 6 rfl) ?_
      by_cases c18 : (x7 < 0 ∨ 2400 ≤ x7.toNatClampNeg)
      · replace h := (if_pos c18).symm.trans h
        cases h
      replace h := (if_neg c18).symm.trans h
      refine va_lald hx hb hK hP 2 3 rfl rfl c18 d_Rows_putPairs_98 ?_
      refine lv_aload_n hx hb d_Rows_putPairs_99 rfl (lv_at hl 1 rfl) ?_
      refine va_get (D := gD g) (ci := 6) (v := .ref (a_t 2)) (C := R_Rows) (T := T_Rows) (N := 11) hx hb htb in_Rows hown hK hP 0 rfl rfl 1 (by decide) (htb _ L_Rows_15) (fun _ h9 => h9) rfl d_Rows_putPairs_100 ?_
      refine lv_iload hx hb d_Rows_putPairs_103 (lv_at hl 7 rfl) ?_
      by_cases c19 : (x8 < 0 ∨ 2400 ≤ x8.toNatClampNeg)
      · replace h := (if_pos c19).symm.trans h
        cases h
      replace h := (if_neg c19).symm.trans h
      refine va_lald hx hb hK hP 2 3 rfl rfl c19 d_Rows_putPairs_105 ?_
      refine lv_lor hx hb d_Rows_putPairs_106 ?_
      refine lv_lstore (lv' := [(11, .long (((tL 1) x7.toNatClampNeg) ||| ((tL 1) x8.toNatClampNeg))), (9, .long (((tL 0) x7.toNatClampNeg) ||| ((tL 0) x8.toNatClampNeg))), (0, .ref (a_t 0)), (3, .int x3), (4, .int x4), (5, .int x5), (6, .int x6), (7, .int x7), (8, .int x8)]) hx hb d_Rows_putPairs_107 hl (by decide) rfl (fun ls hl => ?_)
      refine lv_lload hx hb d_Rows_putPairs_109 (lv_at hl 1 rfl) ?_
      refine lv_lload hx hb d_Rows_putPairs_111 (lv_at hl 0 rfl) ?_
      refine lv_land hx hb d_Rows_putPairs_113 ?_
      refine lv_lconst (v := 0) hx hb d_Rows_putPairs_114 (by decide) ?_
      refine W.lcmp hx hb d_Rows_putPairs_115 ?_
      refine lv_if_ne (tgt := 133) hx hb d_Rows_putPairs_116 (by decide) (fun c20 => ?_) (fun c20 => ?_)
      · replace h := (if_neg c20).symm.trans h
        exact k_Rows_putPairs_133 hC _ _ _ _ _ _ _ _ _ h hk57 (fun z0 z1 z2 z3 z4 z5 z6 z7 hz => ih z0 z1 z2 z3 z4 z5 z6 z7 _ hz hk57) _ _ _ hP hD hS (lv_sub hl [2, 3, 4, 5, 6, 7, 8] rfl)
      · replace h := (if_pos c20).symm.trans h
        refine lv_aload_n hx hb d_Rows_putPairs_119 rfl (lv_at hl 2 rfl) ?_
        refine lv_iload_n hx hb d_Rows_putPairs_120 rfl (lv_at hl 3 rfl) ?_
        refine lv_lload hx hb d_Rows_putPairs_121 (lv_at hl 1 rfl) ?_
        refine lv_lload hx hb d_Rows_putPairs_123 (lv_at hl 0 rfl) ?_
        obtain ⟨r21, hr21, h⟩ := Option.bind_eq_some_iff.mp h
        refine cl_I (wr := []) [0, 1, 2, 3, 4, 5, 6, 7] [] rfl rfl rfl (by decide) hP hD hS hA (va_runV (As := [.int x3, .long (((tL 0) x7.toNatClampNeg) ||| ((tL 0) x8.toNatClampNeg)), .long (((tL 1) x7.toNatClampNeg) ||| ((tL 1) x8.toNatClampNeg))]) (rest := []) ⟨hx, hb, hml, hown, htb⟩ (c_Rows_put l g F a_t r_pile t tL x3 (((tL 0) x7.toNatClampNeg) ||| ((tL 0) x8.toNatClampNeg)) (((tL 1) x7.toNatClampNeg) ||| ((tL 1) x8.toNatClampNeg)) _ hr21 H.size) (cw_V htb mb_Rows_put (htb _ L_Rows_58) rfl rfl ⟨Nat.le_of_ble_eq_true rfl, Nat.le_of_ble_eq_true rfl⟩) (pre_V (va_recv hK hP (ci := 6) (q0 := 0) rfl rfl) (pre_S [0, 1, 2, 3, 4, 5, 6, 7] rfl rfl hP hD hS hA hAA hG)) rfl rfl hl.1 rfl (lv_room (Nat.le_of_ble_eq_true rfl)) d_Rows_putPairs_125 ⟨Nat.zero_le _, Nat.zero_le _⟩) (fun H locs hP hD hS => ?_)
        have hP : va_P (gD g) vwCl ((pic_Rows g a_t r_pile r21.2.1 r21.2.2)) H := hP.sub [0, 1, 2, 3, 4, 5, 6, 7] rfl
        have hD : va_D A ((pic_Rows g a_t r_pile r21.2.1 r21.2.2)) := hD.sub [0, 1, 2, 3, 4, 5, 6, 7] rfl rfl
        refine lv_if_ne (tgt := 133) hx hb d_Rows_putPairs_128 (by decide) (fun c22 => ?_) (fun c22 => ?_)
        · replace h := (if_neg c22).symm.trans h
          exact k_Rows_putPairs_133 hC _ _ _ _ _ _ _ _ _ h hk57 (fun z0 z1 z2 z3 z4 z5 z6 z7 hz => ih z0 z1 z2 z3 z4 z5 z6 z7 _ hz hk57) _ _ _ hP hD hS (lv_sub hl [2, 3, 4, 5, 6, 7, 8] rfl)
        · replace h := (if_pos c22).symm.trans h
          refine lv_iconst (v := 0) hx hb d_Rows_putPairs_131 (by decide) ?_
          cases h
          exact W.zret hx hb hr rfl (fun t ht hW => ⟨⟨_, (), rfl, rfl, by rw [ht]; exact hP, hD⟩, hS.F ht⟩) hS.2.2 d_Rows_putPairs_132
set_option maxHeartbeats 4000000 in
set_option maxRecDepth 100000 in
theorem k_Rows_putPairs_57 {p : Program} {l : Launch} {e : Env} {s : State} {m : MethodId} {args : Array Value} {below : List Frame} {meth : Method} {c : Code} {g : Gz} {A : Nat → Prop} {F : Nat} {a_t : Nat → Nat} {r_pile : Nat} (hC : Cx prog_7_method_11_code 13 (some .boolean) R_Rows p s m args meth c g A A) : ∀ (n : Nat) (t : StI) (tL : StL) (x3 : Int32) (x4 : Int32) (x5 : Int32) (x6 : Int32) (x7 : Int32) (res : Int32 × StI × StL), Rows_putPairs_57 F n t tL x3 x4 x5 x6 x7 = some res → Go p l e rm_Rows_putPairs s m args below meth c g A A 13 (MQ below (EI g ((pic_Rows g a_t r_pile res.2.1 res.2.2)) res.1 A) args s 0 0 A) ((pic_Rows g a_t r_pile t tL)) [(0, .ref (a_t 0)), (3, .int x3), (4, .int x4), (5, .int x5), (6, .int x6), (7, .int x7)] 57 [] := by
  obtain ⟨hx, hb, hr, hml, hown, htb, hlocks, hA, hAA, hG⟩ := id hC
  have hK := hG.1
  intro n
  induction n with
  | zero => intro t tL x3 x4 x5 x6 x7 res h; rw [Rows_putPairs_57] at h; cases h
  | succ n ih =>
    intro t tL x3 x4 x5 x6 x7 res h H locs ls hP hD hS hl
    rw [Rows_putPairs_57] at h
    refine lv_iload hx hb d_Rows_putPairs_57 (lv_at hl 5 rfl) ?_
    refine lv_iload hx hb d_Rows_putPairs_59 (lv_at hl 2 rfl) ?_
    refine lv_icmp_ge (tgt := 145) hx hb d_Rows_putPairs_61 (by decide) (fun c23 => ?_) (fun c23 => ?_)
    · replace h := (if_pos c23).symm.trans h
      refine lv_aload_n hx hb d_Rows_putPairs_145 rfl (lv_at hl 0 rfl) ?_
      refine lv_iload_n hx hb d_Rows_putPairs_146 rfl (lv_at hl 1 rfl) ?_
      obtain ⟨r24, hr24, h⟩ := Option.bind_eq_some_iff.mp h
      refine cl_V (wr := []) [0, 1, 2, 3, 4, 5, 6, 7] [] rfl rfl rfl (by decide) hP hD hS hA (va_runV (As := [.int x3]) (rest := []) ⟨hx, hb, hml, hown, htb⟩ (c_Rows_leaveOut l g F a_t r_pile t tL x3 _ hr24 H.size) (cw_V htb mb_Rows_leaveOut (htb _ L_Rows_132) rfl rfl ⟨Nat.le_of_ble_eq_true rfl, Nat.le_of_ble_eq_true rfl⟩) (pre_V (va_recv hK hP (ci := 6) (q0 := 0) rfl rfl) (pre_S [0, 1, 2, 3, 4, 5, 6, 7] rfl rfl hP hD hS hA hAA hG)) rfl rfl hl.1 rfl (lv_room (Nat.le_of_ble_eq_true rfl)) d_Rows_putPairs_147 ⟨Nat.zero_le _, Nat.zero_le _⟩) (fun H locs hP hD hS => ?_)
      have hP : va_P (gD g) vwCl ((pic_Rows g a_t r_pile r24.1 r24.2)) H := hP.sub [0, 1, 2, 3, 4, 5, 6, 7] rfl
      have hD : va_D A ((pic_Rows g a_t r_pile r24.1 r24.2)) := hD.sub [0, 1, 2, 3, 4, 5, 6, 7] rfl rfl
      refine lv_iconst (v := 1) hx hb d_Rows_putPairs_150 (by decide) ?_
      cases h
      exact W.zret hx hb hr rfl (fun t ht hW => ⟨⟨_, (), rfl, rfl, by rw [ht]; exact hP, hD⟩, hS.F ht⟩) hS.2.2 d_Rows_putPairs_151
    · replace h := (if_neg c23).symm.trans h
      refine lv_iload hx hb d_Rows_putPairs_64 (lv_at hl 3 rfl) ?_
      refine lv_istore (lv' := [(8, .int x5), (0, .ref (a_t 0)), (3, .int x3), (4, .int x4), (5, .int x5), (6, .int x6), (7, .int x7)]) hx hb d_Rows_putPairs_66 hl (by decide) rfl (fun ls hl => ?_)
      exact k_Rows_putPairs_68 hC F _ _ _ _ _ _ _ _ _ h (fun z0 z1 z2 z3 z4 z5 z6 hz => ih z0 z1 z2 z3 z4 z5 z6 _ hz) _ _ _ hP hD hS (lv_sub hl [1, 2, 3, 4, 5, 6, 0] rfl)
set_option maxHeartbeats 4000000 in
set_option maxRecDepth 100000 in
theorem k_Rows_putPairs {p : Program} {l : Launch} {e : Env} {s : State} {m : MethodId} {args : Array Value} {below : List Frame} {meth : Method} {c : Code} {g : Gz} {A : Nat → Prop} {F : Nat} {a_t : Nat → Nat} {r_pile : Nat} (hC : Cx prog_7_method_11_code 13 (some .boolean) R_Rows p s m args meth c g A A) : ∀ (t : StI) (tL : StL) (x1 : Int32) (x2 : Int32) (res : Int32 × StI × StL), Rows_putPairs F t tL x1 x2 = some res → Go p l e rm_Rows_putPairs s m args below meth c g A A 13 (MQ below (EI g ((pic_Rows g a_t r_pile res.2.1 res.2.2)) res.1 A) args s 0 0 A) ((pic_Rows g a_t r_pile t tL)) [(0, .ref (a_t 0)), (1, .int x1), (2, .int x2)] 0 [] := by
  obtain ⟨hx, hb, hr, hml, hown, htb, hlocks, hA, hAA, hG⟩ := id hC
  have hK := hG.1
  intro t tL x1 x2 res h H locs ls hP hD hS hl
  rw [Rows_putPairs] at h
  refine lv_aload_n hx hb d_Rows_putPairs_0 rfl (lv_at hl 0 rfl) ?_
  refine va_get (D := gD g) (ci := 6) (v := .int (t 2 0)) (C := R_Rows) (T := T_Rows) (N := 11) hx hb htb in_Rows hown hK hP 0 rfl rfl 2 (by decide) (htb _ L_Rows_18) (fun _ h9 => h9) rfl d_Rows_putPairs_1 ?_
  refine lv_istore_n (lv' := [(3, .int (t 2 0)), (0, .ref (a_t 0)), (1, .int x1), (2, .int x2)]) hx hb d_Rows_putPairs_4 rfl hl (by decide) rfl (fun ls hl => ?_)
  refine lv_aload_n hx hb d_Rows_putPairs_5 rfl (lv_at hl 1 rfl) ?_
  refine lv_aload_n hx hb d_Rows_putPairs_6 rfl (lv_at hl 1 rfl) ?_
  refine va_get (D := gD g) (ci := 6) (v := .int (t 5 0)) (C := R_Rows) (T := T_Rows) (N := 11) hx hb htb in_Rows hown hK hP 0 rfl rfl 5 (by decide) (htb _ L_Rows_29) (fun _ h9 => h9) rfl d_Rows_putPairs_7 ?_
  refine lv_iconst (v := 1) hx hb d_Rows_putPairs_10 (by decide) ?_
  refine lv_isub hx hb d_Rows_putPairs_11 ?_
  refine lv_iload_n hx hb d_Rows_putPairs_12 rfl (lv_at hl 2 rfl) ?_
  obtain ⟨r25, hr25, h⟩ := Option.bind_eq_some_iff.mp h
  refine cl_Ir hP hS hA (va_runV (As := [.int ((t 5 0) - (1 : Int32)), .int x1]) (rest := []) ⟨hx, hb, hml, hown, htb⟩ (c_Rows_sideTo l g F a_t r_pile t tL ((t 5 0) - (1 : Int32)) x1 _ hr25 H.size) (cw_V htb mb_Rows_sideTo (htb _ L_Rows_83) rfl rfl ⟨Nat.le_of_ble_eq_true rfl, Nat.le_of_ble_eq_true rfl⟩) (pre_V (va_recv hK hP (ci := 6) (q0 := 0) rfl rfl) (pre_S [0, 1, 2, 3, 4, 5, 6, 7] rfl rfl hP hD hS hA hAA hG)) rfl rfl hl.1 rfl (lv_room (Nat.le_of_ble_eq_true rfl)) d_Rows_putPairs_13 ⟨Nat.zero_le _, Nat.zero_le _⟩) (fun H locs hP hS => ?_)
  refine lv_istore (lv' := [(4, .int r25), (3, .int (t 2 0)), (0, .ref (a_t 0)), (1, .int x1), (2, .int x2)]) hx hb d_Rows_putPairs_16 hl (by decide) rfl (fun ls hl => ?_)
  refine lv_aload_n hx hb d_Rows_putPairs_18 rfl (lv_at hl 2 rfl) ?_
  refine lv_aload_n hx hb d_Rows_putPairs_19 rfl (lv_at hl 2 rfl) ?_
  refine va_get (D := gD g) (ci := 6) (v := .int (t 5 0)) (C := R_Rows) (T := T_Rows) (N := 11) hx hb htb in_Rows hown hK hP 0 rfl rfl 5 (by decide) (htb _ L_Rows_29) (fun _ h9 => h9) rfl d_Rows_putPairs_20 ?_
  refine lv_iconst (v := 2) hx hb d_Rows_putPairs_23 (by decide) ?_
  refine lv_isub hx hb d_Rows_putPairs_24 ?_
  refine lv_iload_n hx hb d_Rows_putPairs_25 rfl (lv_at hl 4 rfl) ?_
  obtain ⟨r26, hr26, h⟩ := Option.bind_eq_some_iff.mp h
  refine cl_Ir hP hS hA (va_runV (As := [.int ((t 5 0) - (2 : Int32)), .int x2]) (rest := []) ⟨hx, hb, hml, hown, htb⟩ (c_Rows_sideFrom l g F a_t r_pile t tL ((t 5 0) - (2 : Int32)) x2 _ hr26 H.size) (cw_V htb mb_Rows_sideFrom (htb _ L_Rows_135) rfl rfl ⟨Nat.le_of_ble_eq_true rfl, Nat.le_of_ble_eq_true rfl⟩) (pre_V (va_recv hK hP (ci := 6) (q0 := 0) rfl rfl) (pre_S [0, 1, 2, 3, 4, 5, 6, 7] rfl rfl hP hD hS hA hAA hG)) rfl rfl hl.1 rfl (lv_room (Nat.le_of_ble_eq_true rfl)) d_Rows_putPairs_26 ⟨Nat.zero_le _, Nat.zero_le _⟩) (fun H locs hP hS => ?_)
  refine lv_istore (lv' := [(5, .int r26), (4, .int r25), (3, .int (t 2 0)), (0, .ref (a_t 0)), (1, .int x1), (2, .int x2)]) hx hb d_Rows_putPairs_29 hl (by decide) rfl (fun ls hl => ?_)
  refine lv_aload_n hx hb d_Rows_putPairs_31 rfl (lv_at hl 3 rfl) ?_
  refine lv_aload_n hx hb d_Rows_putPairs_32 rfl (lv_at hl 3 rfl) ?_
  refine va_get (D := gD g) (ci := 6) (v := .int (t 5 0)) (C := R_Rows) (T := T_Rows) (N := 11) hx hb htb in_Rows hown hK hP 0 rfl rfl 5 (by decide) (htb _ L_Rows_29) (fun _ h9 => h9) rfl d_Rows_putPairs_33 ?_
  refine lv_iconst (v := 2) hx hb d_Rows_putPairs_36 (by decide) ?_
  refine lv_isub hx hb d_Rows_putPairs_37 ?_
  refine lv_iload_n hx hb d_Rows_putPairs_38 rfl (lv_at hl 5 rfl) ?_
  obtain ⟨r27, hr27, h⟩ := Option.bind_eq_some_iff.mp h
  refine cl_Ir hP hS hA (va_runV (As := [.int ((t 5 0) - (2 : Int32)), .int x2]) (rest := []) ⟨hx, hb, hml, hown, htb⟩ (c_Rows_sideTo l g F a_t r_pile t tL ((t 5 0) - (2 : Int32)) x2 _ hr27 H.size) (cw_V htb mb_Rows_sideTo (htb _ L_Rows_83) rfl rfl ⟨Nat.le_of_ble_eq_true rfl, Nat.le_of_ble_eq_true rfl⟩) (pre_V (va_recv hK hP (ci := 6) (q0 := 0) rfl rfl) (pre_S [0, 1, 2, 3, 4, 5, 6, 7] rfl rfl hP hD hS hA hAA hG)) rfl rfl hl.1 rfl (lv_room (Nat.le_of_ble_eq_true rfl)) d_Rows_putPairs_39 ⟨Nat.zero_le _, Nat.zero_le _⟩) (fun H locs hP hS => ?_)
  refine lv_istore (lv' := [(6, .int r27), (5, .int r26), (4, .int r25), (3, .int (t 2 0)), (0, .ref (a_t 0)), (1, .int x1), (2, .int x2)]) hx hb d_Rows_putPairs_42 hl (by decide) rfl (fun ls hl => ?_)
  refine lv_aload_n hx hb d_Rows_putPairs_44 rfl (lv_at hl 4 rfl) ?_
  refine lv_aload_n hx hb d_Rows_putPairs_45 rfl (lv_at hl 4 rfl) ?_
  refine va_get (D := gD g) (ci := 6) (v := .int (t 5 0)) (C := R_Rows) (T := T_Rows) (N := 11) hx hb htb in_Rows hown hK hP 0 rfl rfl 5 (by decide) (htb _ L_Rows_29) (fun _ h9 => h9) rfl d_Rows_putPairs_46 ?_
  refine lv_iconst (v := 1) hx hb d_Rows_putPairs_49 (by decide) ?_
  refine lv_isub hx hb d_Rows_putPairs_50 ?_
  refine lv_iload_n hx hb d_Rows_putPairs_51 rfl (lv_at hl 5 rfl) ?_
  obtain ⟨r28, hr28, h⟩ := Option.bind_eq_some_iff.mp h
  refine cl_Ir hP hS hA (va_runV (As := [.int ((t 5 0) - (1 : Int32)), .int x1]) (rest := []) ⟨hx, hb, hml, hown, htb⟩ (c_Rows_sideFrom l g F a_t r_pile t tL ((t 5 0) - (1 : Int32)) x1 _ hr28 H.size) (cw_V htb mb_Rows_sideFrom (htb _ L_Rows_135) rfl rfl ⟨Nat.le_of_ble_eq_true rfl, Nat.le_of_ble_eq_true rfl⟩) (pre_V (va_recv hK hP (ci := 6) (q0 := 0) rfl rfl) (pre_S [0, 1, 2, 3, 4, 5, 6, 7] rfl rfl hP hD hS hA hAA hG)) rfl rfl hl.1 rfl (lv_room (Nat.le_of_ble_eq_true rfl)) d_Rows_putPairs_52 ⟨Nat.zero_le _, Nat.zero_le _⟩) (fun H locs hP hS => ?_)
  refine lv_istore (lv' := [(7, .int r28), (6, .int r27), (5, .int r26), (4, .int r25), (3, .int (t 2 0)), (0, .ref (a_t 0)), (1, .int x1), (2, .int x2)]) hx hb d_Rows_putPairs_55 hl (by decide) rfl (fun ls hl => ?_)
  exact k_Rows_putPairs_57 hC F _ _ _ _ _ _ _ _ h _ _ _ hP hD hS (lv_sub hl [5, 4, 3, 2, 1, 0] rfl)
theorem c_Rows_putPairs (l : Launch) (g : Gz) (F : Nat) (a_t : Nat → Nat) (r_pile : Nat) (t : StI) (tL : StL) (x1 : Int32) (x2 : Int32) (res : Int32 × StI × StL) (h : Rows_putPairs F t tL x1 x2 = some res) : ∀ sz : Nat, Met l y_Rows_putPairs (.code y_Rows_putPairs prog_7_method_11_code 13 (some .boolean) :: TBL) rm_Rows_putPairs (va_Pc [.ref (a_t 0), .int x1, .int x2] (Pre0 g ((pic_Rows g a_t r_pile t tL)) sz)) (EI g ((pic_Rows g a_t r_pile res.2.1 res.2.2)) res.1 (va_A ((pic_Rows g a_t r_pile t tL)) sz)) 0 0 (va_A ((pic_Rows g a_t r_pile t tL)) sz) :=
  ct_w (Qc := fun A => EI g ((pic_Rows g a_t r_pile res.2.1 res.2.2)) res.1 A) (by decide) (Nat.le_of_ble_eq_true rfl) (fun p e s m args below meth c A hC => k_Rows_putPairs hC t tL x1 x2 res h)
def Rows_putAny (F : Nat) (t : StI) (tL : StL) (x1 : Int32) : Option (Int32 × StI × StL) := (Rows_putSide F t tL (t 2 0) ((t 5 0) - (1 : Int32)) x1).bind fun r6 => if r6.1 = 0 then some ((0 : Int32), r6.2.1, r6.2.2) else (Rows_putSide F r6.2.1 r6.2.2 (t 2 0) ((r6.2.1 5 0) - (2 : Int32)) x1).bind fun r8 => if r8.1 = 0 then some ((0 : Int32), r8.2.1, r8.2.2) else (Rows_leaveOut F r8.2.1 r8.2.2 (t 2 0)).bind fun r10 => some ((1 : Int32), r10.1, r10.2)
set_option maxHeartbeats 4000000 in
set_option maxRecDepth 100000 in
theorem k_Rows_putAny {p : Program} {l : Launch} {e : Env} {s : State} {m : MethodId} {args : Array Value} {below : List Frame} {meth : Method} {c : Code} {g : Gz} {A : Nat → Prop} {F : Nat} {a_t : Nat → Nat} {r_pile : Nat} (hC : Cx prog_7_method_10_code 3 (some .boolean) R_Rows p s m args meth c g A A) : ∀ (t : StI) (tL : StL) (x1 : Int32) (res : Int32 × StI × StL), Rows_putAny F t tL x1 = some res → Go p l e rm_Rows_putAny s m args below meth c g A A 3 (MQ below (EI g ((pic_Rows g a_t r_pile res.2.1 res.2.2)) res.1 A) args s 0 0 A) ((pic_Rows g a_t r_pile t tL)) [(0, .ref (a_t 0)), (1, .int x1)] 0 [] := by
  obtain ⟨hx, hb, hr, hml, hown, htb, hlocks, hA, hAA, hG⟩ := id hC
  have hK := hG.1
  intro t tL x1 res h H locs ls hP hD hS hl
  rw [Rows_putAny] at h
  refine lv_aload_n hx hb d_Rows_putAny_0 rfl (lv_at hl 0 rfl) ?_
  refine va_get (D := gD g) (ci := 6) (v := .int (t 2 0)) (C := R_Rows) (T := T_Rows) (N := 11) hx hb htb in_Rows hown hK hP 0 rfl rfl 2 (by decide) (htb _ L_Rows_18) (fun _ h9 => h9) rfl d_Rows_putAny_1 ?_
  refine lv_istore_n (lv' := [(2, .int (t 2 0)), (0, .ref (a_t 0)), (1, .int x1)]) hx hb d_Rows_putAny_4 rfl hl (by decide) rfl (fun ls hl => ?_)
  refine lv_aload_n hx hb d_Rows_putAny_5 rfl (lv_at hl 1 rfl) ?_
  refine lv_iload_n hx hb d_Rows_putAny_6 rfl (lv_at hl 0 rfl) ?_
  refine lv_aload_n hx hb d_Rows_putAny_7 rfl (lv_at hl 1 rfl) ?_
  refine va_get (D := gD g) (ci := 6) (v := .int (t 5 0)) (C := R_Rows) (T := T_Rows) (N := 11) hx hb htb in_Rows hown hK hP 0 rfl rfl 5 (by decide) (htb _ L_Rows_29) (fun _ h9 => h9) rfl d_Rows_putAny_8 ?_
  refine lv_iconst (v := 1) hx hb d_Rows_putAny_11 (by decide) ?_
  refine lv_isub hx hb d_Rows_putAny_12 ?_
  refine lv_iload_n hx hb d_Rows_putAny_13 rfl (lv_at hl 2 rfl) ?_
  obtain ⟨r6, hr6, h⟩ := Option.bind_eq_some_iff.mp h
  refine cl_I (wr := []) [0, 1, 2, 3, 4, 5, 6, 7] [] rfl rfl rfl (by decide) hP hD hS hA (va_runV (As := [.int (t 2 0), .int ((t 5 0) - (1 : Int32)), .int x1]) (rest := []) ⟨hx, hb, hml, hown, htb⟩ (c_Rows_putSide l g F a_t r_pile t tL (t 2 0) ((t 5 0) - (1 : Int32)) x1 _ hr6 H.size) (cw_V htb mb_Rows_putSide (htb _ L_Rows_112) rfl rfl ⟨Nat.le_of_ble_eq_true rfl, Nat.le_of_ble_eq_true rfl⟩) (pre_V (va_recv hK hP (ci := 6) (q0 := 0) rfl rfl) (pre_S [0, 1, 2, 3, 4, 5, 6, 7] rfl rfl hP hD hS hA hAA hG)) rfl rfl hl.1 rfl (lv_room (Nat.le_of_ble_eq_true rfl)) d_Rows_putAny_14 ⟨Nat.zero_le _, Nat.zero_le _⟩) (fun H locs hP hD hS => ?_)
  have hP : va_P (gD g) vwCl ((pic_Rows g a_t r_pile r6.2.1 r6.2.2)) H := hP.sub [0, 1, 2, 3, 4, 5, 6, 7] rfl
  have hD : va_D A ((pic_Rows g a_t r_pile r6.2.1 r6.2.2)) := hD.sub [0, 1, 2, 3, 4, 5, 6, 7] rfl rfl
  refine lv_if_eq (tgt := 35) hx hb d_Rows_putAny_17 (by decide) (fun c7 => ?_) (fun c7 => ?_)
  · replace h := (if_pos c7).symm.trans h
    refine lv_iconst (v := 0) hx hb d_Rows_putAny_35 (by decide) ?_
    cases h
    exact W.zret hx hb hr rfl (fun t ht hW => ⟨⟨_, (), rfl, rfl, by rw [ht]; exact hP, hD⟩, hS.F ht⟩) hS.2.2 d_Rows_putAny_36
  · replace h := (if_neg c7).symm.trans h
    refine lv_aload_n hx hb d_Rows_putAny_20 rfl (lv_at hl 1 rfl) ?_
    refine lv_iload_n hx hb d_Rows_putAny_21 rfl (lv_at hl 0 rfl) ?_
    refine lv_aload_n hx hb d_Rows_putAny_22 rfl (lv_at hl 1 rfl) ?_
    refine va_get (D := gD g) (ci := 6) (v := .int (r6.2.1 5 0)) (C := R_Rows) (T := T_Rows) (N := 11) hx hb htb in_Rows hown hK hP 0 rfl rfl 5 (by decide) (htb _ L_Rows_29) (fun _ h9 => h9) rfl d_Rows_putAny_23 ?_
    refine lv_iconst (v := 2) hx hb d_Rows_putAny_26 (by decide) ?_
    refine lv_isub hx hb d_Rows_putAny_27 ?_
    refine lv_iload_n hx hb d_Rows_putAny_28 rfl (lv_at hl 2 rfl) ?_
    obtain ⟨r8, hr8, h⟩ := Option.bind_eq_some_iff.mp h
    refine cl_I (wr := []) [0, 1, 2, 3, 4, 5, 6, 7] [] rfl rfl rfl (by decide) hP hD hS hA (va_runV (As := [.int (t 2 0), .int ((r6.2.1 5 0) - (2 : Int32)), .int x1]) (rest := []) ⟨hx, hb, hml, hown, htb⟩ (c_Rows_putSide l g F a_t r_pile r6.2.1 r6.2.2 (t 2 0) ((r6.2.1 5 0) - (2 : Int32)) x1 _ hr8 H.size) (cw_V htb mb_Rows_putSide (htb _ L_Rows_112) rfl rfl ⟨Nat.le_of_ble_eq_true rfl, Nat.le_of_ble_eq_true rfl⟩) (pre_V (va_recv hK hP (ci := 6) (q0 := 0) rfl rfl) (pre_S [0, 1, 2, 3, 4, 5, 6, 7] rfl rfl hP hD hS hA hAA hG)) rfl rfl hl.1 rfl (lv_room (Nat.le_of_ble_eq_true rfl)) d_Rows_putAny_29 ⟨Nat.zero_le _, Nat.zero_le _⟩) (fun H locs hP hD hS => ?_)
    have hP : va_P (gD g) vwCl ((pic_Rows g a_t r_pile r8.2.1 r8.2.2)) H := hP.sub [0, 1, 2, 3, 4, 5, 6, 7] rfl
    have hD : va_D A ((pic_Rows g a_t r_pile r8.2.1 r8.2.2)) := hD.sub [0, 1, 2, 3, 4, 5, 6, 7] rfl rfl
    refine lv_if_ne (tgt := 37) hx hb d_Rows_putAny_32 (by decide) (fun c9 => ?_) (fun c9 => ?_)
    · replace h := (if_neg c9).symm.trans h
      refine lv_aload_n hx hb d_Rows_putAny_37 rfl (lv_at hl 1 rfl) ?_
      refine lv_iload_n hx hb d_Rows_putAny_38 rfl (lv_at hl 0 rfl) ?_
      obtain ⟨r10, hr10, h⟩ := Option.bind_eq_some_iff.mp h
      refine cl_V (wr := []) [0, 1, 2, 3, 4, 5, 6, 7] [] rfl rfl rfl (by decide) hP hD hS hA (va_runV (As := [.int (t 2 0)]) (rest := []) ⟨hx, hb, hml, hown, htb⟩ (c_Rows_leaveOut l g F a_t r_pile r8.2.1 r8.2.2 (t 2 0) _ hr10 H.size) (cw_V htb mb_Rows_leaveOut (htb _ L_Rows_132) rfl rfl ⟨Nat.le_of_ble_eq_true rfl, Nat.le_of_ble_eq_true rfl⟩) (pre_V (va_recv hK hP (ci := 6) (q0 := 0) rfl rfl) (pre_S [0, 1, 2, 3, 4, 5, 6, 7] rfl rfl hP hD hS hA hAA hG)) rfl rfl hl.1 rfl (lv_room (Nat.le_of_ble_eq_true rfl)) d_Rows_putAny_39 ⟨Nat.zero_le _, Nat.zero_le _⟩) (fun H locs hP hD hS => ?_)
      have hP : va_P (gD g) vwCl ((pic_Rows g a_t r_pile r10.1 r10.2)) H := hP.sub [0, 1, 2, 3, 4, 5, 6, 7] rfl
      have hD : va_D A ((pic_Rows g a_t r_pile r10.1 r10.2)) := hD.sub [0, 1, 2, 3, 4, 5, 6, 7] rfl rfl
      refine lv_iconst (v := 1) hx hb d_Rows_putAny_42 (by decide) ?_
      cases h
      exact W.zret hx hb hr rfl (fun t ht hW => ⟨⟨_, (), rfl, rfl, by rw [ht]; exact hP, hD⟩, hS.F ht⟩) hS.2.2 d_Rows_putAny_43
    · replace h := (if_pos c9).symm.trans h
      refine lv_iconst (v := 0) hx hb d_Rows_putAny_35 (by decide) ?_
      cases h
      exact W.zret hx hb hr rfl (fun t ht hW => ⟨⟨_, (), rfl, rfl, by rw [ht]; exact hP, hD⟩, hS.F ht⟩) hS.2.2 d_Rows_putAny_36
theorem c_Rows_putAny (l : Launch) (g : Gz) (F : Nat) (a_t : Nat → Nat) (r_pile : Nat) (t : StI) (tL : StL) (x1 : Int32) (res : Int32 × StI × StL) (h : Rows_putAny F t tL x1 = some res) : ∀ sz : Nat, Met l y_Rows_putAny (.code y_Rows_putAny prog_7_method_10_code 3 (some .boolean) :: TBL) rm_Rows_putAny (va_Pc [.ref (a_t 0), .int x1] (Pre0 g ((pic_Rows g a_t r_pile t tL)) sz)) (EI g ((pic_Rows g a_t r_pile res.2.1 res.2.2)) res.1 (va_A ((pic_Rows g a_t r_pile t tL)) sz)) 0 0 (va_A ((pic_Rows g a_t r_pile t tL)) sz) :=
  ct_w (Qc := fun A => EI g ((pic_Rows g a_t r_pile res.2.1 res.2.2)) res.1 A) (by decide) (Nat.le_of_ble_eq_true rfl) (fun p e s m args below meth c A hC => k_Rows_putAny hC t tL x1 res h)
def Rows_putEither (F : Nat) (t : StI) (tL : StL) (x1 : Int32) (x2 : Int32) (x3 : Int32) (x4 : Int32) : Option (Int32 × StI × StL) := (Rows_putPairs F t tL x1 x2).bind fun r7 => if r7.1 = 0 then some ((0 : Int32), r7.2.1, r7.2.2) else (Rows_putPairs F r7.2.1 r7.2.2 x3 x4).bind fun r9 => if r9.1 = 0 then some ((0 : Int32), r9.2.1, r9.2.2) else if ((r9.2.1 2 0) - (t 2 0)) ≤ (200 : Int32) then (Rows_leaveOut F r9.2.1 r9.2.2 (t 2 0)).bind fun r12 => some ((1 : Int32), r12.1, r12.2) else some ((0 : Int32), r9.2.1, r9.2.2)
set_option maxHeartbeats 4000000 in
set_option maxRecDepth 100000 in
theorem k_Rows_putEither {p : Program} {l : Launch} {e : Env} {s : State} {m : MethodId} {args : Array Value} {below : List Frame} {meth : Method} {c : Code} {g : Gz} {A : Nat → Prop} {F : Nat} {a_t : Nat → Nat} {r_pile : Nat} (hC : Cx prog_7_method_9_code 6 (some .boolean) R_Rows p s m args meth c g A A) : ∀ (t : StI) (tL : StL) (x1 : Int32) (x2 : Int32) (x3 : Int32) (x4 : Int32) (res : Int32 × StI × StL), Rows_putEither F t tL x1 x2 x3 x4 = some res → Go p l e rm_Rows_putEither s m args below meth c g A A 6 (MQ below (EI g ((pic_Rows g a_t r_pile res.2.1 res.2.2)) res.1 A) args s 0 0 A) ((pic_Rows g a_t r_pile t tL)) [(0, .ref (a_t 0)), (1, .int x1), (2, .int x2), (3, .int x3), (4, .int x4)] 0 [] := by
  obtain ⟨hx, hb, hr, hml, hown, htb, hlocks, hA, hAA, hG⟩ := id hC
  have hK := hG.1
  intro t tL x1 x2 x3 x4 res h H locs ls hP hD hS hl
  rw [Rows_putEither] at h
  refine lv_aload_n hx hb d_Rows_putEither_0 rfl (lv_at hl 0 rfl) ?_
  refine va_get (D := gD g) (ci := 6) (v := .int (t 2 0)) (C := R_Rows) (T := T_Rows) (N := 11) hx hb htb in_Rows hown hK hP 0 rfl rfl 2 (by decide) (htb _ L_Rows_18) (fun _ h9 => h9) rfl d_Rows_putEither_1 ?_
  refine lv_istore (lv' := [(5, .int (t 2 0)), (0, .ref (a_t 0)), (1, .int x1), (2, .int x2), (3, .int x3), (4, .int x4)]) hx hb d_Rows_putEither_4 hl (by decide) rfl (fun ls hl => ?_)
  refine lv_aload_n hx hb d_Rows_putEither_6 rfl (lv_at hl 1 rfl) ?_
  refine lv_iload_n hx hb d_Rows_putEither_7 rfl (lv_at hl 2 rfl) ?_
  refine lv_iload_n hx hb d_Rows_putEither_8 rfl (lv_at hl 3 rfl) ?_
  obtain ⟨r7, hr7, h⟩ := Option.bind_eq_some_iff.mp h
  refine cl_I (wr := []) [0, 1, 2, 3, 4, 5, 6, 7] [] rfl rfl rfl (by decide) hP hD hS hA (va_runV (As := [.int x1, .int x2]) (rest := []) ⟨hx, hb, hml, hown, htb⟩ (c_Rows_putPairs l g F a_t r_pile t tL x1 x2 _ hr7 H.size) (cw_V htb mb_Rows_putPairs (htb _ L_Rows_129) rfl rfl ⟨Nat.le_of_ble_eq_true rfl, Nat.le_of_ble_eq_true rfl⟩) (pre_V (va_recv hK hP (ci := 6) (q0 := 0) rfl rfl) (pre_S [0, 1, 2, 3, 4, 5, 6, 7] rfl rfl hP hD hS hA hAA hG)) rfl rfl hl.1 rfl (lv_room (Nat.le_of_ble_eq_true rfl)) d_Rows_putEither_9 ⟨Nat.zero_le _, Nat.zero_le _⟩) (fun H locs hP hD hS => ?_)
  have hP : va_P (gD g) vwCl ((pic_Rows g a_t r_pile r7.2.1 r7.2.2)) H := hP.sub [0, 1, 2, 3, 4, 5, 6, 7] rfl
  have hD : va_D A ((pic_Rows g a_t r_pile r7.2.1 r7.2.2)) := hD.sub [0, 1, 2, 3, 4, 5, 6, 7] rfl rfl
  refine lv_if_eq (tgt := 38) hx hb d_Rows_putEither_12 (by decide) (fun c8 => ?_) (fun c8 => ?_)
  · replace h := (if_pos c8).symm.trans h
    refine lv_iconst (v := 0) hx hb d_Rows_putEither_38 (by decide) ?_
    cases h
    exact W.zret hx hb hr rfl (fun t ht hW => ⟨⟨_, (), rfl, rfl, by rw [ht]; exact hP, hD⟩, hS.F ht⟩) hS.2.2 d_Rows_putEither_39
  · replace h := (if_neg c8).symm.trans h
    refine lv_aload_n hx hb d_Rows_putEither_15 rfl (lv_at hl 1 rfl) ?_
    refine lv_iload_n hx hb d_Rows_putEither_16 rfl (lv_at hl 4 rfl) ?_
    refine lv_iload hx hb d_Rows_putEither_17 (lv_at hl 5 rfl) ?_
    obtain ⟨r9, hr9, h⟩ := Option.bind_eq_some_iff.mp h
    refine cl_I (wr := []) [0, 1, 2, 3, 4, 5, 6, 7] [] rfl rfl rfl (by decide) hP hD hS hA (va_runV (As := [.int x3, .int x4]) (rest := []) ⟨hx, hb, hml, hown, htb⟩ (c_Rows_putPairs l g F a_t r_pile r7.2.1 r7.2.2 x3 x4 _ hr9 H.size) (cw_V htb mb_Rows_putPairs (htb _ L_Rows_129) rfl rfl ⟨Nat.le_of_ble_eq_true rfl, Nat.le_of_ble_eq_true rfl⟩) (pre_V (va_recv hK hP (ci := 6) (q0 := 0) rfl rfl) (pre_S [0, 1, 2, 3, 4, 5, 6, 7] rfl rfl hP hD hS hA hAA hG)) rfl rfl hl.1 rfl (lv_room (Nat.le_of_ble_eq_true rfl)) d_Rows_putEither_19 ⟨Nat.zero_le _, Nat.zero_le _⟩) (fun H locs hP hD hS => ?_)
    have hP : va_P (gD g) vwCl ((pic_Rows g a_t r_pile r9.2.1 r9.2.2)) H := hP.sub [0, 1, 2, 3, 4, 5, 6, 7] rfl
    have hD : va_D A ((pic_Rows g a_t r_pile r9.2.1 r9.2.2)) := hD.sub [0, 1, 2, 3, 4, 5, 6, 7] rfl rfl
    refine lv_if_eq (tgt := 38) hx hb d_Rows_putEither_22 (by decide) (fun c10 => ?_) (fun c10 => ?_)
    · replace h := (if_pos c10).symm.trans h
      refine lv_iconst (v := 0) hx hb d_Rows_putEither_38 (by decide) ?_
      cases h
      exact W.zret hx hb hr rfl (fun t ht hW => ⟨⟨_, (), rfl, rfl, by rw [ht]; exact hP, hD⟩, hS.F ht⟩) hS.2.2 d_Rows_putEither_39
    · replace h := (if_neg c10).symm.trans h
      refine lv_aload_n hx hb d_Rows_putEither_25 rfl (lv_at hl 1 rfl) ?_
      refine va_get (D := gD g) (ci := 6) (v := .int (r9.2.1 2 0)) (C := R_Rows) (T := T_Rows) (N := 11) hx hb htb in_Rows hown hK hP 0 rfl rfl 2 (by decide) (htb _ L_Rows_18) (fun _ h9 => h9) rfl d_Rows_putEither_26 ?_
      refine lv_iload hx hb d_Rows_putEither_29 (lv_at hl 0 rfl) ?_
      refine lv_isub hx hb d_Rows_putEither_31 ?_
      refine lv_sipush (v := 200) hx hb d_Rows_putEither_32 (by decide) ?_
      refine lv_icmp_le (tgt := 40) hx hb d_Rows_putEither_35 (by decide) (fun c11 => ?_) (fun c11 => ?_)
      · replace h := (if_pos c11).symm.trans h
        refine lv_aload_n hx hb d_Rows_putEither_40 rfl (lv_at hl 1 rfl) ?_
        refine lv_iload hx hb d_Rows_putEither_41 (lv_at hl 0 rfl) ?_
        obtain ⟨r12, hr12, h⟩ := Option.bind_eq_some_iff.mp h
        refine cl_V (wr := []) [0, 1, 2, 3, 4, 5, 6, 7] [] rfl rfl rfl (by decide) hP hD hS hA (va_runV (As := [.int (t 2 0)]) (rest := []) ⟨hx, hb, hml, hown, htb⟩ (c_Rows_leaveOut l g F a_t r_pile r9.2.1 r9.2.2 (t 2 0) _ hr12 H.size) (cw_V htb mb_Rows_leaveOut (htb _ L_Rows_132) rfl rfl ⟨Nat.le_of_ble_eq_true rfl, Nat.le_of_ble_eq_true rfl⟩) (pre_V (va_recv hK hP (ci := 6) (q0 := 0) rfl rfl) (pre_S [0, 1, 2, 3, 4, 5, 6, 7] rfl rfl hP hD hS hA hAA hG)) rfl rfl hl.1 rfl (lv_room (Nat.le_of_ble_eq_true rfl)) d_Rows_putEither_43 ⟨Nat.zero_le _, Nat.zero_le _⟩) (fun H locs hP hD hS => ?_)
        have hP : va_P (gD g) vwCl ((pic_Rows g a_t r_pile r12.1 r12.2)) H := hP.sub [0, 1, 2, 3, 4, 5, 6, 7] rfl
        have hD : va_D A ((pic_Rows g a_t r_pile r12.1 r12.2)) := hD.sub [0, 1, 2, 3, 4, 5, 6, 7] rfl rfl
        refine lv_iconst (v := 1) hx hb d_Rows_putEither_46 (by decide) ?_
        cases h
        exact W.zret hx hb hr rfl (fun t ht hW => ⟨⟨_, (), rfl, rfl, by rw [ht]; exact hP, hD⟩, hS.F ht⟩) hS.2.2 d_Rows_putEither_47
      · replace h := (if_neg c11).symm.trans h
        refine lv_iconst (v := 0) hx hb d_Rows_putEither_38 (by decide) ?_
        cases h
        exact W.zret hx hb hr rfl (fun t ht hW => ⟨⟨_, (), rfl, rfl, by rw [ht]; exact hP, hD⟩, hS.F ht⟩) hS.2.2 d_Rows_putEither_39
theorem c_Rows_putEither (l : Launch) (g : Gz) (F : Nat) (a_t : Nat → Nat) (r_pile : Nat) (t : StI) (tL : StL) (x1 : Int32) (x2 : Int32) (x3 : Int32) (x4 : Int32) (res : Int32 × StI × StL) (h : Rows_putEither F t tL x1 x2 x3 x4 = some res) : ∀ sz : Nat, Met l y_Rows_putEither (.code y_Rows_putEither prog_7_method_9_code 6 (some .boolean) :: TBL) rm_Rows_putEither (va_Pc [.ref (a_t 0), .int x1, .int x2, .int x3, .int x4] (Pre0 g ((pic_Rows g a_t r_pile t tL)) sz)) (EI g ((pic_Rows g a_t r_pile res.2.1 res.2.2)) res.1 (va_A ((pic_Rows g a_t r_pile t tL)) sz)) 0 0 (va_A ((pic_Rows g a_t r_pile t tL)) sz) :=
  ct_w (Qc := fun A => EI g ((pic_Rows g a_t r_pile res.2.1 res.2.2)) res.1 A) (by decide) (Nat.le_of_ble_eq_true rfl) (fun p e s m args below meth c A hC => k_Rows_putEither hC t tL x1 x2 x3 x4 res h)
