theorem L_Mo_406 : (Jvm.Cond.methodLink "MailQueriesModel" (406 : Nat) ({ cls := "MailQueriesModel", name := "putAtom", desc := "(I)V" } : Jvm.MethodName)) ∈ TBL := TBL_in (List.mem_of_getElem? (i := 1382) (by decide +kernel)) (by decide +kernel)
set_option maxRecDepth 100000 in
theorem W_Mo_printNode_code : (Jvm.Cond.code ({ cls := "MailQueriesModel", name := "printNode", desc := "(II)V" } : Jvm.MethodName) prog_10_method_58_code (4 : Nat) (Option.none : Option Jvm.ClassFile.FieldType)) ∈ TBL := TBL_in (List.mem_of_getElem? (i := 1381) rfl) rfl
theorem W_Mo_printNode_in : (Jvm.Cond.instanceMethod ({ cls := "MailQueriesModel", name := "printNode", desc := "(II)V" } : Jvm.MethodName)) ∈ TBL := TBL_in (List.mem_of_getElem? (i := 1380) (by decide +kernel)) (by decide +kernel)
theorem sel_85 : Cond.selects "MailQueriesModel" ⟨"MailQueriesModel", "printNode", "(II)V"⟩ ⟨"MailQueriesModel", "printNode", "(II)V"⟩ ∈ TBL := TBL_in (List.mem_of_getElem? (i := 85) (by decide +kernel)) (by decide +kernel)
set_option maxRecDepth 100000 in
theorem W_Mo_printWord_code : (Jvm.Cond.code ({ cls := "MailQueriesModel", name := "printWord", desc := "(I)V" } : Jvm.MethodName) prog_10_method_59_code (2 : Nat) (Option.none : Option Jvm.ClassFile.FieldType)) ∈ TBL := TBL_in (List.mem_of_getElem? (i := 1401) rfl) rfl
theorem W_Mo_printWord_in : (Jvm.Cond.instanceMethod ({ cls := "MailQueriesModel", name := "printWord", desc := "(I)V" } : Jvm.MethodName)) ∈ TBL := TBL_in (List.mem_of_getElem? (i := 1400) (by decide +kernel)) (by decide +kernel)
theorem sel_90 : Cond.selects "MailQueriesModel" ⟨"MailQueriesModel", "printWord", "(I)V"⟩ ⟨"MailQueriesModel", "printWord", "(I)V"⟩ ∈ TBL := TBL_in (List.mem_of_getElem? (i := 90) (by decide +kernel)) (by decide +kernel)
theorem L_Mo_412 : (Jvm.Cond.methodLink "MailQueriesModel" (412 : Nat) ({ cls := "MailQueriesModel", name := "printWord", desc := "(I)V" } : Jvm.MethodName)) ∈ TBL := TBL_in (List.mem_of_getElem? (i := 1398) (by decide +kernel)) (by decide +kernel)
theorem L_Mo_409 : (Jvm.Cond.methodLink "MailQueriesModel" (409 : Nat) ({ cls := "MailQueriesModel", name := "printNode", desc := "(II)V" } : Jvm.MethodName)) ∈ TBL := TBL_in (List.mem_of_getElem? (i := 1378) (by decide +kernel)) (by decide +kernel)
set_option maxRecDepth 100000 in
theorem W_Mo_print_code : (Jvm.Cond.code ({ cls := "MailQueriesModel", name := "print", desc := "()I" } : Jvm.MethodName) prog_10_method_60_code (1 : Nat) (Option.some Jvm.ClassFile.FieldType.int)) ∈ TBL := TBL_in (List.mem_of_getElem? (i := 1377) rfl) rfl
theorem W_Mo_print_in : (Jvm.Cond.instanceMethod ({ cls := "MailQueriesModel", name := "print", desc := "()I" } : Jvm.MethodName)) ∈ TBL := TBL_in (List.mem_of_getElem? (i := 1375) (by decide +kernel)) (by decide +kernel)
theorem W_Mo_print_se : (Jvm.Cond.selects "MailQueriesModel" ({ cls := "MailQueriesModel", name := "print", desc := "()I" } : Jvm.MethodName) ({ cls := "MailQueriesModel", name := "print", desc := "()I" } : Jvm.MethodName)) ∈ TBL := TBL_in (List.mem_of_getElem? (i := 1376) (by decide +kernel)) (by decide +kernel)
set_option maxRecDepth 100000 in
theorem W_Mo_printed_code : (Jvm.Cond.code ({ cls := "MailQueriesModel", name := "printed", desc := "(I)I" } : Jvm.MethodName) prog_10_method_61_code (2 : Nat) (Option.some Jvm.ClassFile.FieldType.int)) ∈ TBL := TBL_in (List.mem_of_getElem? (i := 1405) rfl) rfl
theorem W_Mo_printed_in : (Jvm.Cond.instanceMethod ({ cls := "MailQueriesModel", name := "printed", desc := "(I)I" } : Jvm.MethodName)) ∈ TBL := TBL_in (List.mem_of_getElem? (i := 1403) (by decide +kernel)) (by decide +kernel)
theorem W_Mo_printed_se : (Jvm.Cond.selects "MailQueriesModel" ({ cls := "MailQueriesModel", name := "printed", desc := "(I)I" } : Jvm.MethodName) ({ cls := "MailQueriesModel", name := "printed", desc := "(I)I" } : Jvm.MethodName)) ∈ TBL := TBL_in (List.mem_of_getElem? (i := 1404) (by decide +kernel)) (by decide +kernel)
theorem L_Mo_415 : (Jvm.Cond.fieldLink "MailQueriesModel" (415 : Nat) "MailQueriesModel" "rows" "I") ∈ TBL := TBL_in (List.mem_of_getElem? (i := 1015) (by decide +kernel)) (by decide +kernel)
theorem L_Mo_114 : (Jvm.Cond.fieldLink "MailQueriesModel" (114 : Nat) "MailQueriesModel" "as" "[J") ∈ TBL := TBL_in (List.mem_of_getElem? (i := 1016) (by decide +kernel)) (by decide +kernel)
theorem L_Mo_117 : (Jvm.Cond.fieldLink "MailQueriesModel" (117 : Nat) "MailQueriesModel" "not" "[J") ∈ TBL := TBL_in (List.mem_of_getElem? (i := 1017) (by decide +kernel)) (by decide +kernel)
theorem L_Mo_418 : (Jvm.Cond.fieldLink "MailQueriesModel" (418 : Nat) "MailQueriesModel" "over" "Z") ∈ TBL := TBL_in (List.mem_of_getElem? (i := 1018) (by decide +kernel)) (by decide +kernel)
set_option maxRecDepth 100000 in
theorem W_Mo_addRow_code : (Jvm.Cond.code ({ cls := "MailQueriesModel", name := "addRow", desc := "(IJJ)V" } : Jvm.MethodName) prog_10_method_62_code (6 : Nat) (Option.none : Option Jvm.ClassFile.FieldType)) ∈ TBL := TBL_in (List.mem_of_getElem? (i := 1425) rfl) rfl
theorem W_Mo_addRow_in : (Jvm.Cond.instanceMethod ({ cls := "MailQueriesModel", name := "addRow", desc := "(IJJ)V" } : Jvm.MethodName)) ∈ TBL := TBL_in (List.mem_of_getElem? (i := 1424) (by decide +kernel)) (by decide +kernel)
theorem sel_94 : Cond.selects "MailQueriesModel" ⟨"MailQueriesModel", "addRow", "(IJJ)V"⟩ ⟨"MailQueriesModel", "addRow", "(IJJ)V"⟩ ∈ TBL := TBL_in (List.mem_of_getElem? (i := 94) (by decide +kernel)) (by decide +kernel)
theorem K_Mo_421 : (Jvm.Cond.constantLong "MailQueriesModel" (421 : Nat) (-1 : Int64)) ∈ TBL := TBL_in (List.mem_of_getElem? (i := 1438) (by decide +kernel)) (by decide +kernel)
set_option maxRecDepth 100000 in
theorem W_Mo_isLeftOut_code : (Jvm.Cond.code ({ cls := "MailQueriesModel", name := "isLeftOut", desc := "(II)Z" } : Jvm.MethodName) prog_10_method_63_code (6 : Nat) (Option.some Jvm.ClassFile.FieldType.boolean)) ∈ TBL := TBL_in (List.mem_of_getElem? (i := 1437) rfl) rfl
theorem W_Mo_isLeftOut_in : (Jvm.Cond.instanceMethod ({ cls := "MailQueriesModel", name := "isLeftOut", desc := "(II)Z" } : Jvm.MethodName)) ∈ TBL := TBL_in (List.mem_of_getElem? (i := 1436) (by decide +kernel)) (by decide +kernel)
theorem sel_97 : Cond.selects "MailQueriesModel" ⟨"MailQueriesModel", "isLeftOut", "(II)Z"⟩ ⟨"MailQueriesModel", "isLeftOut", "(II)Z"⟩ ∈ TBL := TBL_in (List.mem_of_getElem? (i := 97) (by decide +kernel)) (by decide +kernel)
theorem L_Mo_138 : (Jvm.Cond.fieldLink "MailQueriesModel" (138 : Nat) "MailQueriesModel" "isOut" "[Z") ∈ TBL := TBL_in (List.mem_of_getElem? (i := 1030) (by decide +kernel)) (by decide +kernel)
theorem L_Mo_423 : (Jvm.Cond.methodLink "MailQueriesModel" (423 : Nat) ({ cls := "MailQueriesModel", name := "isLeftOut", desc := "(II)Z" } : Jvm.MethodName)) ∈ TBL := TBL_in (List.mem_of_getElem? (i := 1434) (by decide +kernel)) (by decide +kernel)
set_option maxRecDepth 100000 in
theorem W_Mo_clean_code : (Jvm.Cond.code ({ cls := "MailQueriesModel", name := "clean", desc := "(I)V" } : Jvm.MethodName) prog_10_method_64_code (4 : Nat) (Option.none : Option Jvm.ClassFile.FieldType)) ∈ TBL := TBL_in (List.mem_of_getElem? (i := 1433) rfl) rfl
theorem W_Mo_clean_in : (Jvm.Cond.instanceMethod ({ cls := "MailQueriesModel", name := "clean", desc := "(I)V" } : Jvm.MethodName)) ∈ TBL := TBL_in (List.mem_of_getElem? (i := 1432) (by decide +kernel)) (by decide +kernel)
theorem sel_96 : Cond.selects "MailQueriesModel" ⟨"MailQueriesModel", "clean", "(I)V"⟩ ⟨"MailQueriesModel", "clean", "(I)V"⟩ ∈ TBL := TBL_in (List.mem_of_getElem? (i := 96) (by decide +kernel)) (by decide +kernel)
theorem L_Mo_132 : (Jvm.Cond.fieldLink "MailQueriesModel" (132 : Nat) "MailQueriesModel" "listEnd" "[I") ∈ TBL := TBL_in (List.mem_of_getElem? (i := 1028) (by decide +kernel)) (by decide +kernel)
theorem L_Mo_426 : (Jvm.Cond.methodLink "MailQueriesModel" (426 : Nat) ({ cls := "MailQueriesModel", name := "addRow", desc := "(IJJ)V" } : Jvm.MethodName)) ∈ TBL := TBL_in (List.mem_of_getElem? (i := 1422) (by decide +kernel)) (by decide +kernel)
theorem L_Mo_430 : (Jvm.Cond.methodLink "MailQueriesModel" (430 : Nat) ({ cls := "MailQueriesModel", name := "clean", desc := "(I)V" } : Jvm.MethodName)) ∈ TBL := TBL_in (List.mem_of_getElem? (i := 1430) (by decide +kernel)) (by decide +kernel)
theorem L_Mo_129 : (Jvm.Cond.fieldLink "MailQueriesModel" (129 : Nat) "MailQueriesModel" "listAt" "[I") ∈ TBL := TBL_in (List.mem_of_getElem? (i := 1027) (by decide +kernel)) (by decide +kernel)
set_option maxRecDepth 100000 in
theorem W_Mo_both_code : (Jvm.Cond.code ({ cls := "MailQueriesModel", name := "both", desc := "(II)V" } : Jvm.MethodName) prog_10_method_65_code (10 : Nat) (Option.none : Option Jvm.ClassFile.FieldType)) ∈ TBL := TBL_in (List.mem_of_getElem? (i := 1429) rfl) rfl
theorem W_Mo_both_in : (Jvm.Cond.instanceMethod ({ cls := "MailQueriesModel", name := "both", desc := "(II)V" } : Jvm.MethodName)) ∈ TBL := TBL_in (List.mem_of_getElem? (i := 1428) (by decide +kernel)) (by decide +kernel)
theorem sel_95 : Cond.selects "MailQueriesModel" ⟨"MailQueriesModel", "both", "(II)V"⟩ ⟨"MailQueriesModel", "both", "(II)V"⟩ ∈ TBL := TBL_in (List.mem_of_getElem? (i := 95) (by decide +kernel)) (by decide +kernel)
def y_Mo_printNode : MethodName := ⟨"MailQueriesModel", "printNode", "(II)V"⟩
def rm_Mo_printNode : Room := { frames := 3, cells := 0, slots := 0, locals := 67 }
theorem d_Mo_printNode_0 : decode prog_10_method_58_code 0 = .ok (.aload_n 0, 1) := by decide +kernel
theorem d_Mo_printNode_1 : decode prog_10_method_58_code 1 = .ok (.getfield 83, 3) := by decide +kernel
theorem d_Mo_printNode_4 : decode prog_10_method_58_code 4 = .ok (.iload_n 1, 1) := by decide +kernel
theorem d_Mo_printNode_5 : decode prog_10_method_58_code 5 = .ok (.iaload, 1) := by decide +kernel
theorem d_Mo_printNode_6 : decode prog_10_method_58_code 6 = .ok (.istore_n 3, 1) := by decide +kernel
theorem d_Mo_printNode_7 : decode prog_10_method_58_code 7 = .ok (.iload_n 3, 1) := by decide +kernel
theorem d_Mo_printNode_8 : decode prog_10_method_58_code 8 = .ok (.bipush 7, 2) := by decide +kernel
theorem d_Mo_printNode_10 : decode prog_10_method_58_code 10 = .ok (.if_icmp .ne 14, 3) := by decide +kernel
theorem d_Mo_printNode_13 : decode prog_10_method_58_code 13 = .ok (.aload_n 0, 1) := by decide +kernel
theorem d_Mo_printNode_14 : decode prog_10_method_58_code 14 = .ok (.aload_n 0, 1) := by decide +kernel
theorem d_Mo_printNode_15 : decode prog_10_method_58_code 15 = .ok (.getfield 86, 3) := by decide +kernel
theorem d_Mo_printNode_18 : decode prog_10_method_58_code 18 = .ok (.iload_n 1, 1) := by decide +kernel
theorem d_Mo_printNode_19 : decode prog_10_method_58_code 19 = .ok (.iaload, 1) := by decide +kernel
theorem d_Mo_printNode_20 : decode prog_10_method_58_code 20 = .ok (.invokevirtual 406, 3) := by decide +kernel
theorem d_Mo_printNode_23 : decode prog_10_method_58_code 23 = .ok (.return_, 1) := by decide +kernel
theorem d_Mo_printNode_24 : decode prog_10_method_58_code 24 = .ok (.iload_n 3, 1) := by decide +kernel
theorem d_Mo_printNode_25 : decode prog_10_method_58_code 25 = .ok (.iload_n 2, 1) := by decide +kernel
theorem d_Mo_printNode_26 : decode prog_10_method_58_code 26 = .ok (.if_icmp .ge 20, 3) := by decide +kernel
theorem d_Mo_printNode_29 : decode prog_10_method_58_code 29 = .ok (.aload_n 0, 1) := by decide +kernel
theorem d_Mo_printNode_30 : decode prog_10_method_58_code 30 = .ok (.invokevirtual 399, 3) := by decide +kernel
theorem d_Mo_printNode_33 : decode prog_10_method_58_code 33 = .ok (.aload_n 0, 1) := by decide +kernel
theorem d_Mo_printNode_34 : decode prog_10_method_58_code 34 = .ok (.bipush 40, 2) := by decide +kernel
theorem d_Mo_printNode_36 : decode prog_10_method_58_code 36 = .ok (.invokevirtual 396, 3) := by decide +kernel
theorem d_Mo_printNode_39 : decode prog_10_method_58_code 39 = .ok (.aload_n 0, 1) := by decide +kernel
theorem d_Mo_printNode_40 : decode prog_10_method_58_code 40 = .ok (.iconst 2, 1) := by decide +kernel
theorem d_Mo_printNode_41 : decode prog_10_method_58_code 41 = .ok (.iconst 0, 1) := by decide +kernel
theorem d_Mo_printNode_42 : decode prog_10_method_58_code 42 = .ok (.iconst 0, 1) := by decide +kernel
theorem d_Mo_printNode_43 : decode prog_10_method_58_code 43 = .ok (.invokevirtual 386, 3) := by decide +kernel
theorem d_Mo_printNode_46 : decode prog_10_method_58_code 46 = .ok (.iload_n 3, 1) := by decide +kernel
theorem d_Mo_printNode_47 : decode prog_10_method_58_code 47 = .ok (.iconst 4, 1) := by decide +kernel
theorem d_Mo_printNode_48 : decode prog_10_method_58_code 48 = .ok (.if_icmp .ne 40, 3) := by decide +kernel
theorem d_Mo_printNode_51 : decode prog_10_method_58_code 51 = .ok (.aload_n 0, 1) := by decide +kernel
theorem d_Mo_printNode_52 : decode prog_10_method_58_code 52 = .ok (.invokevirtual 399, 3) := by decide +kernel
theorem d_Mo_printNode_55 : decode prog_10_method_58_code 55 = .ok (.aload_n 0, 1) := by decide +kernel
theorem d_Mo_printNode_56 : decode prog_10_method_58_code 56 = .ok (.bipush 110, 2) := by decide +kernel
theorem d_Mo_printNode_58 : decode prog_10_method_58_code 58 = .ok (.invokevirtual 396, 3) := by decide +kernel
theorem d_Mo_printNode_61 : decode prog_10_method_58_code 61 = .ok (.aload_n 0, 1) := by decide +kernel
theorem d_Mo_printNode_62 : decode prog_10_method_58_code 62 = .ok (.bipush 111, 2) := by decide +kernel
theorem d_Mo_printNode_64 : decode prog_10_method_58_code 64 = .ok (.invokevirtual 396, 3) := by decide +kernel
theorem d_Mo_printNode_67 : decode prog_10_method_58_code 67 = .ok (.aload_n 0, 1) := by decide +kernel
theorem d_Mo_printNode_68 : decode prog_10_method_58_code 68 = .ok (.bipush 116, 2) := by decide +kernel
theorem d_Mo_printNode_70 : decode prog_10_method_58_code 70 = .ok (.invokevirtual 396, 3) := by decide +kernel
theorem d_Mo_printNode_73 : decode prog_10_method_58_code 73 = .ok (.aload_n 0, 1) := by decide +kernel
theorem d_Mo_printNode_74 : decode prog_10_method_58_code 74 = .ok (.iconst 0, 1) := by decide +kernel
theorem d_Mo_printNode_75 : decode prog_10_method_58_code 75 = .ok (.aload_n 0, 1) := by decide +kernel
theorem d_Mo_printNode_76 : decode prog_10_method_58_code 76 = .ok (.getfield 86, 3) := by decide +kernel
theorem d_Mo_printNode_79 : decode prog_10_method_58_code 79 = .ok (.iload_n 1, 1) := by decide +kernel
theorem d_Mo_printNode_80 : decode prog_10_method_58_code 80 = .ok (.iaload, 1) := by decide +kernel
theorem d_Mo_printNode_81 : decode prog_10_method_58_code 81 = .ok (.iconst 4, 1) := by decide +kernel
theorem d_Mo_printNode_82 : decode prog_10_method_58_code 82 = .ok (.invokevirtual 386, 3) := by decide +kernel
theorem d_Mo_printNode_85 : decode prog_10_method_58_code 85 = .ok (.goto 36, 3) := by decide +kernel
theorem d_Mo_printNode_88 : decode prog_10_method_58_code 88 = .ok (.aload_n 0, 1) := by decide +kernel
theorem d_Mo_printNode_89 : decode prog_10_method_58_code 89 = .ok (.iconst 0, 1) := by decide +kernel
theorem d_Mo_printNode_90 : decode prog_10_method_58_code 90 = .ok (.aload_n 0, 1) := by decide +kernel
theorem d_Mo_printNode_91 : decode prog_10_method_58_code 91 = .ok (.getfield 89, 3) := by decide +kernel
theorem d_Mo_printNode_94 : decode prog_10_method_58_code 94 = .ok (.iload_n 1, 1) := by decide +kernel
theorem d_Mo_printNode_95 : decode prog_10_method_58_code 95 = .ok (.iaload, 1) := by decide +kernel
theorem d_Mo_printNode_96 : decode prog_10_method_58_code 96 = .ok (.iload_n 3, 1) := by decide +kernel
theorem d_Mo_printNode_97 : decode prog_10_method_58_code 97 = .ok (.iconst 1, 1) := by decide +kernel
theorem d_Mo_printNode_98 : decode prog_10_method_58_code 98 = .ok (.iadd, 1) := by decide +kernel
theorem d_Mo_printNode_99 : decode prog_10_method_58_code 99 = .ok (.invokevirtual 386, 3) := by decide +kernel
theorem d_Mo_printNode_102 : decode prog_10_method_58_code 102 = .ok (.aload_n 0, 1) := by decide +kernel
theorem d_Mo_printNode_103 : decode prog_10_method_58_code 103 = .ok (.iconst 1, 1) := by decide +kernel
theorem d_Mo_printNode_104 : decode prog_10_method_58_code 104 = .ok (.iload_n 3, 1) := by decide +kernel
theorem d_Mo_printNode_105 : decode prog_10_method_58_code 105 = .ok (.iconst 0, 1) := by decide +kernel
theorem d_Mo_printNode_106 : decode prog_10_method_58_code 106 = .ok (.invokevirtual 386, 3) := by decide +kernel
theorem d_Mo_printNode_109 : decode prog_10_method_58_code 109 = .ok (.aload_n 0, 1) := by decide +kernel
theorem d_Mo_printNode_110 : decode prog_10_method_58_code 110 = .ok (.iconst 0, 1) := by decide +kernel
theorem d_Mo_printNode_111 : decode prog_10_method_58_code 111 = .ok (.aload_n 0, 1) := by decide +kernel
theorem d_Mo_printNode_112 : decode prog_10_method_58_code 112 = .ok (.getfield 86, 3) := by decide +kernel
theorem d_Mo_printNode_115 : decode prog_10_method_58_code 115 = .ok (.iload_n 1, 1) := by decide +kernel
theorem d_Mo_printNode_116 : decode prog_10_method_58_code 116 = .ok (.iaload, 1) := by decide +kernel
theorem d_Mo_printNode_117 : decode prog_10_method_58_code 117 = .ok (.iload_n 3, 1) := by decide +kernel
theorem d_Mo_printNode_118 : decode prog_10_method_58_code 118 = .ok (.invokevirtual 386, 3) := by decide +kernel
theorem d_Mo_printNode_121 : decode prog_10_method_58_code 121 = .ok (.return_, 1) := by decide +kernel
def y_Mo_printWord : MethodName := ⟨"MailQueriesModel", "printWord", "(I)V"⟩
def rm_Mo_printWord : Room := { frames := 2, cells := 0, slots := 0, locals := 41 }
theorem d_Mo_printWord_0 : decode prog_10_method_59_code 0 = .ok (.iload_n 1, 1) := by decide +kernel
theorem d_Mo_printWord_1 : decode prog_10_method_59_code 1 = .ok (.iconst 3, 1) := by decide +kernel
theorem d_Mo_printWord_2 : decode prog_10_method_59_code 2 = .ok (.if_icmp .eq 30, 3) := by decide +kernel
theorem d_Mo_printWord_5 : decode prog_10_method_59_code 5 = .ok (.aload_n 0, 1) := by decide +kernel
theorem d_Mo_printWord_6 : decode prog_10_method_59_code 6 = .ok (.invokevirtual 399, 3) := by decide +kernel
theorem d_Mo_printWord_9 : decode prog_10_method_59_code 9 = .ok (.iload_n 1, 1) := by decide +kernel
theorem d_Mo_printWord_10 : decode prog_10_method_59_code 10 = .ok (.iconst 2, 1) := by decide +kernel
theorem d_Mo_printWord_11 : decode prog_10_method_59_code 11 = .ok (.if_icmp .ne 9, 3) := by decide +kernel
theorem d_Mo_printWord_14 : decode prog_10_method_59_code 14 = .ok (.aload_n 0, 1) := by decide +kernel
theorem d_Mo_printWord_15 : decode prog_10_method_59_code 15 = .ok (.bipush 120, 2) := by decide +kernel
theorem d_Mo_printWord_17 : decode prog_10_method_59_code 17 = .ok (.invokevirtual 396, 3) := by decide +kernel
theorem d_Mo_printWord_20 : decode prog_10_method_59_code 20 = .ok (.aload_n 0, 1) := by decide +kernel
theorem d_Mo_printWord_21 : decode prog_10_method_59_code 21 = .ok (.bipush 111, 2) := by decide +kernel
theorem d_Mo_printWord_23 : decode prog_10_method_59_code 23 = .ok (.invokevirtual 396, 3) := by decide +kernel
theorem d_Mo_printWord_26 : decode prog_10_method_59_code 26 = .ok (.aload_n 0, 1) := by decide +kernel
theorem d_Mo_printWord_27 : decode prog_10_method_59_code 27 = .ok (.bipush 114, 2) := by decide +kernel
theorem d_Mo_printWord_29 : decode prog_10_method_59_code 29 = .ok (.invokevirtual 396, 3) := by decide +kernel
theorem d_Mo_printWord_32 : decode prog_10_method_59_code 32 = .ok (.return_, 1) := by decide +kernel
def y_Mo_print : MethodName := ⟨"MailQueriesModel", "print", "()I"⟩
def rm_Mo_print : Room := { frames := 4, cells := 0, slots := 0, locals := 90 }
theorem d_Mo_print_0 : decode prog_10_method_60_code 0 = .ok (.aload_n 0, 1) := by decide +kernel
theorem d_Mo_print_1 : decode prog_10_method_60_code 1 = .ok (.iconst 0, 1) := by decide +kernel
theorem d_Mo_print_2 : decode prog_10_method_60_code 2 = .ok (.putfield 144, 3) := by decide +kernel
theorem d_Mo_print_5 : decode prog_10_method_60_code 5 = .ok (.aload_n 0, 1) := by decide +kernel
theorem d_Mo_print_6 : decode prog_10_method_60_code 6 = .ok (.iconst 0, 1) := by decide +kernel
theorem d_Mo_print_7 : decode prog_10_method_60_code 7 = .ok (.putfield 393, 3) := by decide +kernel
theorem d_Mo_print_10 : decode prog_10_method_60_code 10 = .ok (.aload_n 0, 1) := by decide +kernel
theorem d_Mo_print_11 : decode prog_10_method_60_code 11 = .ok (.iconst 0, 1) := by decide +kernel
theorem d_Mo_print_12 : decode prog_10_method_60_code 12 = .ok (.putfield 380, 3) := by decide +kernel
theorem d_Mo_print_15 : decode prog_10_method_60_code 15 = .ok (.aload_n 0, 1) := by decide +kernel
theorem d_Mo_print_16 : decode prog_10_method_60_code 16 = .ok (.getfield 141, 3) := by decide +kernel
theorem d_Mo_print_19 : decode prog_10_method_60_code 19 = .ok (.iconst (-1), 1) := by decide +kernel
theorem d_Mo_print_20 : decode prog_10_method_60_code 20 = .ok (.if_icmp .eq 13, 3) := by decide +kernel
theorem d_Mo_print_23 : decode prog_10_method_60_code 23 = .ok (.aload_n 0, 1) := by decide +kernel
theorem d_Mo_print_24 : decode prog_10_method_60_code 24 = .ok (.iconst 0, 1) := by decide +kernel
theorem d_Mo_print_25 : decode prog_10_method_60_code 25 = .ok (.aload_n 0, 1) := by decide +kernel
theorem d_Mo_print_26 : decode prog_10_method_60_code 26 = .ok (.getfield 141, 3) := by decide +kernel
theorem d_Mo_print_29 : decode prog_10_method_60_code 29 = .ok (.iconst 1, 1) := by decide +kernel
theorem d_Mo_print_30 : decode prog_10_method_60_code 30 = .ok (.invokevirtual 386, 3) := by decide +kernel
theorem d_Mo_print_33 : decode prog_10_method_60_code 33 = .ok (.aload_n 0, 1) := by decide +kernel
theorem d_Mo_print_34 : decode prog_10_method_60_code 34 = .ok (.getfield 380, 3) := by decide +kernel
theorem d_Mo_print_37 : decode prog_10_method_60_code 37 = .ok (.ifCond .le 88, 3) := by decide +kernel
theorem d_Mo_print_40 : decode prog_10_method_60_code 40 = .ok (.aload_n 0, 1) := by decide +kernel
theorem d_Mo_print_41 : decode prog_10_method_60_code 41 = .ok (.dup, 1) := by decide +kernel
theorem d_Mo_print_42 : decode prog_10_method_60_code 42 = .ok (.getfield 380, 3) := by decide +kernel
theorem d_Mo_print_45 : decode prog_10_method_60_code 45 = .ok (.iconst 1, 1) := by decide +kernel
theorem d_Mo_print_46 : decode prog_10_method_60_code 46 = .ok (.isub, 1) := by decide +kernel
theorem d_Mo_print_47 : decode prog_10_method_60_code 47 = .ok (.putfield 380, 3) := by decide +kernel
theorem d_Mo_print_50 : decode prog_10_method_60_code 50 = .ok (.aload_n 0, 1) := by decide +kernel
theorem d_Mo_print_51 : decode prog_10_method_60_code 51 = .ok (.getfield 98, 3) := by decide +kernel
theorem d_Mo_print_54 : decode prog_10_method_60_code 54 = .ok (.aload_n 0, 1) := by decide +kernel
theorem d_Mo_print_55 : decode prog_10_method_60_code 55 = .ok (.getfield 380, 3) := by decide +kernel
theorem d_Mo_print_58 : decode prog_10_method_60_code 58 = .ok (.iaload, 1) := by decide +kernel
theorem d_Mo_print_59 : decode prog_10_method_60_code 59 = .ok (.ifCond .ne 28, 3) := by decide +kernel
theorem d_Mo_print_62 : decode prog_10_method_60_code 62 = .ok (.aload_n 0, 1) := by decide +kernel
theorem d_Mo_print_63 : decode prog_10_method_60_code 63 = .ok (.aload_n 0, 1) := by decide +kernel
theorem d_Mo_print_64 : decode prog_10_method_60_code 64 = .ok (.getfield 101, 3) := by decide +kernel
theorem d_Mo_print_67 : decode prog_10_method_60_code 67 = .ok (.aload_n 0, 1) := by decide +kernel
theorem d_Mo_print_68 : decode prog_10_method_60_code 68 = .ok (.getfield 380, 3) := by decide +kernel
theorem d_Mo_print_71 : decode prog_10_method_60_code 71 = .ok (.iaload, 1) := by decide +kernel
theorem d_Mo_print_72 : decode prog_10_method_60_code 72 = .ok (.aload_n 0, 1) := by decide +kernel
theorem d_Mo_print_73 : decode prog_10_method_60_code 73 = .ok (.getfield 104, 3) := by decide +kernel
theorem d_Mo_print_76 : decode prog_10_method_60_code 76 = .ok (.aload_n 0, 1) := by decide +kernel
theorem d_Mo_print_77 : decode prog_10_method_60_code 77 = .ok (.getfield 380, 3) := by decide +kernel
theorem d_Mo_print_80 : decode prog_10_method_60_code 80 = .ok (.iaload, 1) := by decide +kernel
theorem d_Mo_print_81 : decode prog_10_method_60_code 81 = .ok (.invokevirtual 409, 3) := by decide +kernel
theorem d_Mo_print_84 : decode prog_10_method_60_code 84 = .ok (.goto (-51), 3) := by decide +kernel
theorem d_Mo_print_87 : decode prog_10_method_60_code 87 = .ok (.aload_n 0, 1) := by decide +kernel
theorem d_Mo_print_88 : decode prog_10_method_60_code 88 = .ok (.getfield 98, 3) := by decide +kernel
theorem d_Mo_print_91 : decode prog_10_method_60_code 91 = .ok (.aload_n 0, 1) := by decide +kernel
theorem d_Mo_print_92 : decode prog_10_method_60_code 92 = .ok (.getfield 380, 3) := by decide +kernel
theorem d_Mo_print_95 : decode prog_10_method_60_code 95 = .ok (.iaload, 1) := by decide +kernel
theorem d_Mo_print_96 : decode prog_10_method_60_code 96 = .ok (.iconst 1, 1) := by decide +kernel
theorem d_Mo_print_97 : decode prog_10_method_60_code 97 = .ok (.if_icmp .ne 19, 3) := by decide +kernel
theorem d_Mo_print_100 : decode prog_10_method_60_code 100 = .ok (.aload_n 0, 1) := by decide +kernel
theorem d_Mo_print_101 : decode prog_10_method_60_code 101 = .ok (.aload_n 0, 1) := by decide +kernel
theorem d_Mo_print_102 : decode prog_10_method_60_code 102 = .ok (.getfield 101, 3) := by decide +kernel
theorem d_Mo_print_105 : decode prog_10_method_60_code 105 = .ok (.aload_n 0, 1) := by decide +kernel
theorem d_Mo_print_106 : decode prog_10_method_60_code 106 = .ok (.getfield 380, 3) := by decide +kernel
theorem d_Mo_print_109 : decode prog_10_method_60_code 109 = .ok (.iaload, 1) := by decide +kernel
theorem d_Mo_print_110 : decode prog_10_method_60_code 110 = .ok (.invokevirtual 412, 3) := by decide +kernel
theorem d_Mo_print_113 : decode prog_10_method_60_code 113 = .ok (.goto (-80), 3) := by decide +kernel
theorem d_Mo_print_116 : decode prog_10_method_60_code 116 = .ok (.aload_n 0, 1) := by decide +kernel
theorem d_Mo_print_117 : decode prog_10_method_60_code 117 = .ok (.bipush 41, 2) := by decide +kernel
theorem d_Mo_print_119 : decode prog_10_method_60_code 119 = .ok (.invokevirtual 396, 3) := by decide +kernel
theorem d_Mo_print_122 : decode prog_10_method_60_code 122 = .ok (.goto (-89), 3) := by decide +kernel
theorem d_Mo_print_125 : decode prog_10_method_60_code 125 = .ok (.aload_n 0, 1) := by decide +kernel
theorem d_Mo_print_126 : decode prog_10_method_60_code 126 = .ok (.getfield 393, 3) := by decide +kernel
theorem d_Mo_print_129 : decode prog_10_method_60_code 129 = .ok (.ireturn, 1) := by decide +kernel
def y_Mo_printed : MethodName := ⟨"MailQueriesModel", "printed", "(I)I"⟩
def rm_Mo_printed : Room := { frames := 0, cells := 0, slots := 0, locals := 0 }
theorem d_Mo_printed_0 : decode prog_10_method_61_code 0 = .ok (.aload_n 0, 1) := by decide +kernel
theorem d_Mo_printed_1 : decode prog_10_method_61_code 1 = .ok (.iconst 0, 1) := by decide +kernel
theorem d_Mo_printed_2 : decode prog_10_method_61_code 2 = .ok (.putfield 144, 3) := by decide +kernel
theorem d_Mo_printed_5 : decode prog_10_method_61_code 5 = .ok (.iload_n 1, 1) := by decide +kernel
theorem d_Mo_printed_6 : decode prog_10_method_61_code 6 = .ok (.ifCond .lt 24, 3) := by decide +kernel
theorem d_Mo_printed_9 : decode prog_10_method_61_code 9 = .ok (.iload_n 1, 1) := by decide +kernel
theorem d_Mo_printed_10 : decode prog_10_method_61_code 10 = .ok (.aload_n 0, 1) := by decide +kernel
theorem d_Mo_printed_11 : decode prog_10_method_61_code 11 = .ok (.getfield 393, 3) := by decide +kernel
theorem d_Mo_printed_14 : decode prog_10_method_61_code 14 = .ok (.if_icmp .ge 16, 3) := by decide +kernel
theorem d_Mo_printed_17 : decode prog_10_method_61_code 17 = .ok (.aload_n 0, 1) := by decide +kernel
theorem d_Mo_printed_18 : decode prog_10_method_61_code 18 = .ok (.getfield 110, 3) := by decide +kernel
theorem d_Mo_printed_21 : decode prog_10_method_61_code 21 = .ok (.iload_n 1, 1) := by decide +kernel
theorem d_Mo_printed_22 : decode prog_10_method_61_code 22 = .ok (.baload, 1) := by decide +kernel
theorem d_Mo_printed_23 : decode prog_10_method_61_code 23 = .ok (.sipush 255, 3) := by decide +kernel
theorem d_Mo_printed_26 : decode prog_10_method_61_code 26 = .ok (.iand, 1) := by decide +kernel
theorem d_Mo_printed_27 : decode prog_10_method_61_code 27 = .ok (.goto 4, 3) := by decide +kernel
theorem d_Mo_printed_30 : decode prog_10_method_61_code 30 = .ok (.iconst (-1), 1) := by decide +kernel
theorem d_Mo_printed_31 : decode prog_10_method_61_code 31 = .ok (.ireturn, 1) := by decide +kernel
def y_Mo_addRow : MethodName := ⟨"MailQueriesModel", "addRow", "(IJJ)V"⟩
def rm_Mo_addRow : Room := { frames := 0, cells := 0, slots := 0, locals := 0 }
theorem d_Mo_addRow_0 : decode prog_10_method_62_code 0 = .ok (.aload_n 0, 1) := by decide +kernel
theorem d_Mo_addRow_1 : decode prog_10_method_62_code 1 = .ok (.getfield 415, 3) := by decide +kernel
theorem d_Mo_addRow_4 : decode prog_10_method_62_code 4 = .ok (.iload_n 1, 1) := by decide +kernel
theorem d_Mo_addRow_5 : decode prog_10_method_62_code 5 = .ok (.isub, 1) := by decide +kernel
theorem d_Mo_addRow_6 : decode prog_10_method_62_code 6 = .ok (.sipush 200, 3) := by decide +kernel
theorem d_Mo_addRow_9 : decode prog_10_method_62_code 9 = .ok (.if_icmp .ne 9, 3) := by decide +kernel
theorem d_Mo_addRow_12 : decode prog_10_method_62_code 12 = .ok (.aload_n 0, 1) := by decide +kernel
theorem d_Mo_addRow_13 : decode prog_10_method_62_code 13 = .ok (.iconst 1, 1) := by decide +kernel
theorem d_Mo_addRow_14 : decode prog_10_method_62_code 14 = .ok (.putfield 418, 3) := by decide +kernel
theorem d_Mo_addRow_17 : decode prog_10_method_62_code 17 = .ok (.return_, 1) := by decide +kernel
theorem d_Mo_addRow_18 : decode prog_10_method_62_code 18 = .ok (.aload_n 0, 1) := by decide +kernel
theorem d_Mo_addRow_19 : decode prog_10_method_62_code 19 = .ok (.getfield 114, 3) := by decide +kernel
theorem d_Mo_addRow_22 : decode prog_10_method_62_code 22 = .ok (.aload_n 0, 1) := by decide +kernel
theorem d_Mo_addRow_23 : decode prog_10_method_62_code 23 = .ok (.getfield 415, 3) := by decide +kernel
theorem d_Mo_addRow_26 : decode prog_10_method_62_code 26 = .ok (.lload_n 2, 1) := by decide +kernel
theorem d_Mo_addRow_27 : decode prog_10_method_62_code 27 = .ok (.lastore, 1) := by decide +kernel
theorem d_Mo_addRow_28 : decode prog_10_method_62_code 28 = .ok (.aload_n 0, 1) := by decide +kernel
theorem d_Mo_addRow_29 : decode prog_10_method_62_code 29 = .ok (.getfield 117, 3) := by decide +kernel
theorem d_Mo_addRow_32 : decode prog_10_method_62_code 32 = .ok (.aload_n 0, 1) := by decide +kernel
theorem d_Mo_addRow_33 : decode prog_10_method_62_code 33 = .ok (.getfield 415, 3) := by decide +kernel
theorem d_Mo_addRow_36 : decode prog_10_method_62_code 36 = .ok (.lload 4, 2) := by decide +kernel
theorem d_Mo_addRow_38 : decode prog_10_method_62_code 38 = .ok (.lastore, 1) := by decide +kernel
theorem d_Mo_addRow_39 : decode prog_10_method_62_code 39 = .ok (.aload_n 0, 1) := by decide +kernel
theorem d_Mo_addRow_40 : decode prog_10_method_62_code 40 = .ok (.dup, 1) := by decide +kernel
theorem d_Mo_addRow_41 : decode prog_10_method_62_code 41 = .ok (.getfield 415, 3) := by decide +kernel
theorem d_Mo_addRow_44 : decode prog_10_method_62_code 44 = .ok (.iconst 1, 1) := by decide +kernel
theorem d_Mo_addRow_45 : decode prog_10_method_62_code 45 = .ok (.iadd, 1) := by decide +kernel
theorem d_Mo_addRow_46 : decode prog_10_method_62_code 46 = .ok (.putfield 415, 3) := by decide +kernel
theorem d_Mo_addRow_49 : decode prog_10_method_62_code 49 = .ok (.return_, 1) := by decide +kernel
def y_Mo_isLeftOut : MethodName := ⟨"MailQueriesModel", "isLeftOut", "(II)Z"⟩
def rm_Mo_isLeftOut : Room := { frames := 0, cells := 0, slots := 0, locals := 0 }
theorem d_Mo_isLeftOut_0 : decode prog_10_method_63_code 0 = .ok (.iload_n 2, 1) := by decide +kernel
theorem d_Mo_isLeftOut_1 : decode prog_10_method_63_code 1 = .ok (.istore_n 3, 1) := by decide +kernel
theorem d_Mo_isLeftOut_2 : decode prog_10_method_63_code 2 = .ok (.iload_n 3, 1) := by decide +kernel
theorem d_Mo_isLeftOut_3 : decode prog_10_method_63_code 3 = .ok (.aload_n 0, 1) := by decide +kernel
theorem d_Mo_isLeftOut_4 : decode prog_10_method_63_code 4 = .ok (.getfield 415, 3) := by decide +kernel
theorem d_Mo_isLeftOut_7 : decode prog_10_method_63_code 7 = .ok (.if_icmp .ge 121, 3) := by decide +kernel
theorem d_Mo_isLeftOut_10 : decode prog_10_method_63_code 10 = .ok (.iload_n 3, 1) := by decide +kernel
theorem d_Mo_isLeftOut_11 : decode prog_10_method_63_code 11 = .ok (.iload_n 1, 1) := by decide +kernel
theorem d_Mo_isLeftOut_12 : decode prog_10_method_63_code 12 = .ok (.if_icmp .eq 51, 3) := by decide +kernel
theorem d_Mo_isLeftOut_15 : decode prog_10_method_63_code 15 = .ok (.aload_n 0, 1) := by decide +kernel
theorem d_Mo_isLeftOut_16 : decode prog_10_method_63_code 16 = .ok (.getfield 114, 3) := by decide +kernel
theorem d_Mo_isLeftOut_19 : decode prog_10_method_63_code 19 = .ok (.iload_n 3, 1) := by decide +kernel
theorem d_Mo_isLeftOut_20 : decode prog_10_method_63_code 20 = .ok (.laload, 1) := by decide +kernel
theorem d_Mo_isLeftOut_21 : decode prog_10_method_63_code 21 = .ok (.aload_n 0, 1) := by decide +kernel
theorem d_Mo_isLeftOut_22 : decode prog_10_method_63_code 22 = .ok (.getfield 114, 3) := by decide +kernel
theorem d_Mo_isLeftOut_25 : decode prog_10_method_63_code 25 = .ok (.iload_n 1, 1) := by decide +kernel
theorem d_Mo_isLeftOut_26 : decode prog_10_method_63_code 26 = .ok (.laload, 1) := by decide +kernel
theorem d_Mo_isLeftOut_27 : decode prog_10_method_63_code 27 = .ok (.ldc2_w 421, 3) := by decide +kernel
theorem d_Mo_isLeftOut_30 : decode prog_10_method_63_code 30 = .ok (.lxor, 1) := by decide +kernel
theorem d_Mo_isLeftOut_31 : decode prog_10_method_63_code 31 = .ok (.land, 1) := by decide +kernel
theorem d_Mo_isLeftOut_32 : decode prog_10_method_63_code 32 = .ok (.lconst 0, 1) := by decide +kernel
theorem d_Mo_isLeftOut_33 : decode prog_10_method_63_code 33 = .ok (.lcmp, 1) := by decide +kernel
theorem d_Mo_isLeftOut_34 : decode prog_10_method_63_code 34 = .ok (.ifCond .ne 29, 3) := by decide +kernel
theorem d_Mo_isLeftOut_37 : decode prog_10_method_63_code 37 = .ok (.aload_n 0, 1) := by decide +kernel
theorem d_Mo_isLeftOut_38 : decode prog_10_method_63_code 38 = .ok (.getfield 117, 3) := by decide +kernel
theorem d_Mo_isLeftOut_41 : decode prog_10_method_63_code 41 = .ok (.iload_n 3, 1) := by decide +kernel
theorem d_Mo_isLeftOut_42 : decode prog_10_method_63_code 42 = .ok (.laload, 1) := by decide +kernel
theorem d_Mo_isLeftOut_43 : decode prog_10_method_63_code 43 = .ok (.aload_n 0, 1) := by decide +kernel
theorem d_Mo_isLeftOut_44 : decode prog_10_method_63_code 44 = .ok (.getfield 117, 3) := by decide +kernel
theorem d_Mo_isLeftOut_47 : decode prog_10_method_63_code 47 = .ok (.iload_n 1, 1) := by decide +kernel
theorem d_Mo_isLeftOut_48 : decode prog_10_method_63_code 48 = .ok (.laload, 1) := by decide +kernel
theorem d_Mo_isLeftOut_49 : decode prog_10_method_63_code 49 = .ok (.ldc2_w 421, 3) := by decide +kernel
theorem d_Mo_isLeftOut_52 : decode prog_10_method_63_code 52 = .ok (.lxor, 1) := by decide +kernel
theorem d_Mo_isLeftOut_53 : decode prog_10_method_63_code 53 = .ok (.land, 1) := by decide +kernel
theorem d_Mo_isLeftOut_54 : decode prog_10_method_63_code 54 = .ok (.lconst 0, 1) := by decide +kernel
theorem d_Mo_isLeftOut_55 : decode prog_10_method_63_code 55 = .ok (.lcmp, 1) := by decide +kernel
theorem d_Mo_isLeftOut_56 : decode prog_10_method_63_code 56 = .ok (.ifCond .ne 7, 3) := by decide +kernel
theorem d_Mo_isLeftOut_59 : decode prog_10_method_63_code 59 = .ok (.iconst 1, 1) := by decide +kernel
theorem d_Mo_isLeftOut_60 : decode prog_10_method_63_code 60 = .ok (.goto 4, 3) := by decide +kernel
theorem d_Mo_isLeftOut_63 : decode prog_10_method_63_code 63 = .ok (.iconst 0, 1) := by decide +kernel
theorem d_Mo_isLeftOut_64 : decode prog_10_method_63_code 64 = .ok (.istore 4, 2) := by decide +kernel
theorem d_Mo_isLeftOut_66 : decode prog_10_method_63_code 66 = .ok (.aload_n 0, 1) := by decide +kernel
theorem d_Mo_isLeftOut_67 : decode prog_10_method_63_code 67 = .ok (.getfield 114, 3) := by decide +kernel
theorem d_Mo_isLeftOut_70 : decode prog_10_method_63_code 70 = .ok (.iload_n 3, 1) := by decide +kernel
theorem d_Mo_isLeftOut_71 : decode prog_10_method_63_code 71 = .ok (.laload, 1) := by decide +kernel
theorem d_Mo_isLeftOut_72 : decode prog_10_method_63_code 72 = .ok (.aload_n 0, 1) := by decide +kernel
theorem d_Mo_isLeftOut_73 : decode prog_10_method_63_code 73 = .ok (.getfield 114, 3) := by decide +kernel
theorem d_Mo_isLeftOut_76 : decode prog_10_method_63_code 76 = .ok (.iload_n 1, 1) := by decide +kernel
theorem d_Mo_isLeftOut_77 : decode prog_10_method_63_code 77 = .ok (.laload, 1) := by decide +kernel
theorem d_Mo_isLeftOut_78 : decode prog_10_method_63_code 78 = .ok (.lcmp, 1) := by decide +kernel
theorem d_Mo_isLeftOut_79 : decode prog_10_method_63_code 79 = .ok (.ifCond .ne 23, 3) := by decide +kernel
theorem d_Mo_isLeftOut_82 : decode prog_10_method_63_code 82 = .ok (.aload_n 0, 1) := by decide +kernel
theorem d_Mo_isLeftOut_83 : decode prog_10_method_63_code 83 = .ok (.getfield 117, 3) := by decide +kernel
theorem d_Mo_isLeftOut_86 : decode prog_10_method_63_code 86 = .ok (.iload_n 3, 1) := by decide +kernel
theorem d_Mo_isLeftOut_87 : decode prog_10_method_63_code 87 = .ok (.laload, 1) := by decide +kernel
theorem d_Mo_isLeftOut_88 : decode prog_10_method_63_code 88 = .ok (.aload_n 0, 1) := by decide +kernel
theorem d_Mo_isLeftOut_89 : decode prog_10_method_63_code 89 = .ok (.getfield 117, 3) := by decide +kernel
theorem d_Mo_isLeftOut_92 : decode prog_10_method_63_code 92 = .ok (.iload_n 1, 1) := by decide +kernel
theorem d_Mo_isLeftOut_93 : decode prog_10_method_63_code 93 = .ok (.laload, 1) := by decide +kernel
theorem d_Mo_isLeftOut_94 : decode prog_10_method_63_code 94 = .ok (.lcmp, 1) := by decide +kernel
theorem d_Mo_isLeftOut_95 : decode prog_10_method_63_code 95 = .ok (.ifCond .ne 7, 3) := by decide +kernel
theorem d_Mo_isLeftOut_98 : decode prog_10_method_63_code 98 = .ok (.iconst 1, 1) := by decide +kernel
theorem d_Mo_isLeftOut_99 : decode prog_10_method_63_code 99 = .ok (.goto 4, 3) := by decide +kernel
theorem d_Mo_isLeftOut_102 : decode prog_10_method_63_code 102 = .ok (.iconst 0, 1) := by decide +kernel
theorem d_Mo_isLeftOut_103 : decode prog_10_method_63_code 103 = .ok (.istore 5, 2) := by decide +kernel
theorem d_Mo_isLeftOut_105 : decode prog_10_method_63_code 105 = .ok (.iload 4, 2) := by decide +kernel
theorem d_Mo_isLeftOut_107 : decode prog_10_method_63_code 107 = .ok (.ifCond .eq 15, 3) := by decide +kernel
theorem d_Mo_isLeftOut_110 : decode prog_10_method_63_code 110 = .ok (.iload 5, 2) := by decide +kernel
theorem d_Mo_isLeftOut_112 : decode prog_10_method_63_code 112 = .ok (.ifCond .eq 8, 3) := by decide +kernel
theorem d_Mo_isLeftOut_115 : decode prog_10_method_63_code 115 = .ok (.iload_n 3, 1) := by decide +kernel
theorem d_Mo_isLeftOut_116 : decode prog_10_method_63_code 116 = .ok (.iload_n 1, 1) := by decide +kernel
theorem d_Mo_isLeftOut_117 : decode prog_10_method_63_code 117 = .ok (.if_icmp .ge 5, 3) := by decide +kernel
theorem d_Mo_isLeftOut_120 : decode prog_10_method_63_code 120 = .ok (.iconst 1, 1) := by decide +kernel
theorem d_Mo_isLeftOut_121 : decode prog_10_method_63_code 121 = .ok (.ireturn, 1) := by decide +kernel
theorem d_Mo_isLeftOut_122 : decode prog_10_method_63_code 122 = .ok (.iinc 3 1, 3) := by decide +kernel
theorem d_Mo_isLeftOut_125 : decode prog_10_method_63_code 125 = .ok (.goto (-123), 3) := by decide +kernel
theorem d_Mo_isLeftOut_128 : decode prog_10_method_63_code 128 = .ok (.iconst 0, 1) := by decide +kernel
theorem d_Mo_isLeftOut_129 : decode prog_10_method_63_code 129 = .ok (.ireturn, 1) := by decide +kernel
def y_Mo_clean : MethodName := ⟨"MailQueriesModel", "clean", "(I)V"⟩
def rm_Mo_clean : Room := { frames := 1, cells := 0, slots := 0, locals := 25 }
theorem d_Mo_clean_0 : decode prog_10_method_64_code 0 = .ok (.iload_n 1, 1) := by decide +kernel
theorem d_Mo_clean_1 : decode prog_10_method_64_code 1 = .ok (.istore_n 2, 1) := by decide +kernel
theorem d_Mo_clean_2 : decode prog_10_method_64_code 2 = .ok (.iload_n 2, 1) := by decide +kernel
theorem d_Mo_clean_3 : decode prog_10_method_64_code 3 = .ok (.aload_n 0, 1) := by decide +kernel
theorem d_Mo_clean_4 : decode prog_10_method_64_code 4 = .ok (.getfield 415, 3) := by decide +kernel
theorem d_Mo_clean_7 : decode prog_10_method_64_code 7 = .ok (.if_icmp .ge 23, 3) := by decide +kernel
theorem d_Mo_clean_10 : decode prog_10_method_64_code 10 = .ok (.aload_n 0, 1) := by decide +kernel
theorem d_Mo_clean_11 : decode prog_10_method_64_code 11 = .ok (.getfield 138, 3) := by decide +kernel
theorem d_Mo_clean_14 : decode prog_10_method_64_code 14 = .ok (.iload_n 2, 1) := by decide +kernel
theorem d_Mo_clean_15 : decode prog_10_method_64_code 15 = .ok (.iload_n 1, 1) := by decide +kernel
theorem d_Mo_clean_16 : decode prog_10_method_64_code 16 = .ok (.isub, 1) := by decide +kernel
theorem d_Mo_clean_17 : decode prog_10_method_64_code 17 = .ok (.aload_n 0, 1) := by decide +kernel
theorem d_Mo_clean_18 : decode prog_10_method_64_code 18 = .ok (.iload_n 2, 1) := by decide +kernel
theorem d_Mo_clean_19 : decode prog_10_method_64_code 19 = .ok (.iload_n 1, 1) := by decide +kernel
theorem d_Mo_clean_20 : decode prog_10_method_64_code 20 = .ok (.invokevirtual 423, 3) := by decide +kernel
theorem d_Mo_clean_23 : decode prog_10_method_64_code 23 = .ok (.bastore, 1) := by decide +kernel
theorem d_Mo_clean_24 : decode prog_10_method_64_code 24 = .ok (.iinc 2 1, 3) := by decide +kernel
theorem d_Mo_clean_27 : decode prog_10_method_64_code 27 = .ok (.goto (-25), 3) := by decide +kernel
theorem d_Mo_clean_30 : decode prog_10_method_64_code 30 = .ok (.iload_n 1, 1) := by decide +kernel
theorem d_Mo_clean_31 : decode prog_10_method_64_code 31 = .ok (.istore_n 2, 1) := by decide +kernel
theorem d_Mo_clean_32 : decode prog_10_method_64_code 32 = .ok (.iload_n 1, 1) := by decide +kernel
theorem d_Mo_clean_33 : decode prog_10_method_64_code 33 = .ok (.istore_n 3, 1) := by decide +kernel
theorem d_Mo_clean_34 : decode prog_10_method_64_code 34 = .ok (.iload_n 3, 1) := by decide +kernel
theorem d_Mo_clean_35 : decode prog_10_method_64_code 35 = .ok (.aload_n 0, 1) := by decide +kernel
theorem d_Mo_clean_36 : decode prog_10_method_64_code 36 = .ok (.getfield 415, 3) := by decide +kernel
theorem d_Mo_clean_39 : decode prog_10_method_64_code 39 = .ok (.if_icmp .ge 47, 3) := by decide +kernel
theorem d_Mo_clean_42 : decode prog_10_method_64_code 42 = .ok (.aload_n 0, 1) := by decide +kernel
theorem d_Mo_clean_43 : decode prog_10_method_64_code 43 = .ok (.getfield 138, 3) := by decide +kernel
theorem d_Mo_clean_46 : decode prog_10_method_64_code 46 = .ok (.iload_n 3, 1) := by decide +kernel
theorem d_Mo_clean_47 : decode prog_10_method_64_code 47 = .ok (.iload_n 1, 1) := by decide +kernel
theorem d_Mo_clean_48 : decode prog_10_method_64_code 48 = .ok (.isub, 1) := by decide +kernel
theorem d_Mo_clean_49 : decode prog_10_method_64_code 49 = .ok (.baload, 1) := by decide +kernel
theorem d_Mo_clean_50 : decode prog_10_method_64_code 50 = .ok (.ifCond .ne 30, 3) := by decide +kernel
theorem d_Mo_clean_53 : decode prog_10_method_64_code 53 = .ok (.aload_n 0, 1) := by decide +kernel
theorem d_Mo_clean_54 : decode prog_10_method_64_code 54 = .ok (.getfield 114, 3) := by decide +kernel
theorem d_Mo_clean_57 : decode prog_10_method_64_code 57 = .ok (.iload_n 2, 1) := by decide +kernel
theorem d_Mo_clean_58 : decode prog_10_method_64_code 58 = .ok (.aload_n 0, 1) := by decide +kernel
theorem d_Mo_clean_59 : decode prog_10_method_64_code 59 = .ok (.getfield 114, 3) := by decide +kernel
theorem d_Mo_clean_62 : decode prog_10_method_64_code 62 = .ok (.iload_n 3, 1) := by decide +kernel
theorem d_Mo_clean_63 : decode prog_10_method_64_code 63 = .ok (.laload, 1) := by decide +kernel
theorem d_Mo_clean_64 : decode prog_10_method_64_code 64 = .ok (.lastore, 1) := by decide +kernel
theorem d_Mo_clean_65 : decode prog_10_method_64_code 65 = .ok (.aload_n 0, 1) := by decide +kernel
theorem d_Mo_clean_66 : decode prog_10_method_64_code 66 = .ok (.getfield 117, 3) := by decide +kernel
theorem d_Mo_clean_69 : decode prog_10_method_64_code 69 = .ok (.iload_n 2, 1) := by decide +kernel
theorem d_Mo_clean_70 : decode prog_10_method_64_code 70 = .ok (.aload_n 0, 1) := by decide +kernel
theorem d_Mo_clean_71 : decode prog_10_method_64_code 71 = .ok (.getfield 117, 3) := by decide +kernel
theorem d_Mo_clean_74 : decode prog_10_method_64_code 74 = .ok (.iload_n 3, 1) := by decide +kernel
theorem d_Mo_clean_75 : decode prog_10_method_64_code 75 = .ok (.laload, 1) := by decide +kernel
theorem d_Mo_clean_76 : decode prog_10_method_64_code 76 = .ok (.lastore, 1) := by decide +kernel
theorem d_Mo_clean_77 : decode prog_10_method_64_code 77 = .ok (.iinc 2 1, 3) := by decide +kernel
theorem d_Mo_clean_80 : decode prog_10_method_64_code 80 = .ok (.iinc 3 1, 3) := by decide +kernel
theorem d_Mo_clean_83 : decode prog_10_method_64_code 83 = .ok (.goto (-49), 3) := by decide +kernel
theorem d_Mo_clean_86 : decode prog_10_method_64_code 86 = .ok (.aload_n 0, 1) := by decide +kernel
theorem d_Mo_clean_87 : decode prog_10_method_64_code 87 = .ok (.iload_n 2, 1) := by decide +kernel
theorem d_Mo_clean_88 : decode prog_10_method_64_code 88 = .ok (.putfield 415, 3) := by decide +kernel
theorem d_Mo_clean_91 : decode prog_10_method_64_code 91 = .ok (.return_, 1) := by decide +kernel
def y_Mo_both : MethodName := ⟨"MailQueriesModel", "both", "(II)V"⟩
def rm_Mo_both : Room := { frames := 2, cells := 0, slots := 0, locals := 48 }
theorem d_Mo_both_0 : decode prog_10_method_65_code 0 = .ok (.aload_n 0, 1) := by decide +kernel
theorem d_Mo_both_1 : decode prog_10_method_65_code 1 = .ok (.getfield 415, 3) := by decide +kernel
theorem d_Mo_both_4 : decode prog_10_method_65_code 4 = .ok (.istore_n 3, 1) := by decide +kernel
theorem d_Mo_both_5 : decode prog_10_method_65_code 5 = .ok (.aload_n 0, 1) := by decide +kernel
theorem d_Mo_both_6 : decode prog_10_method_65_code 6 = .ok (.getfield 129, 3) := by decide +kernel
theorem d_Mo_both_9 : decode prog_10_method_65_code 9 = .ok (.iload_n 1, 1) := by decide +kernel
theorem d_Mo_both_10 : decode prog_10_method_65_code 10 = .ok (.iaload, 1) := by decide +kernel
theorem d_Mo_both_11 : decode prog_10_method_65_code 11 = .ok (.istore 4, 2) := by decide +kernel
theorem d_Mo_both_13 : decode prog_10_method_65_code 13 = .ok (.iload 4, 2) := by decide +kernel
theorem d_Mo_both_15 : decode prog_10_method_65_code 15 = .ok (.aload_n 0, 1) := by decide +kernel
theorem d_Mo_both_16 : decode prog_10_method_65_code 16 = .ok (.getfield 132, 3) := by decide +kernel
theorem d_Mo_both_19 : decode prog_10_method_65_code 19 = .ok (.iload_n 1, 1) := by decide +kernel
theorem d_Mo_both_20 : decode prog_10_method_65_code 20 = .ok (.iaload, 1) := by decide +kernel
theorem d_Mo_both_21 : decode prog_10_method_65_code 21 = .ok (.if_icmp .ge 94, 3) := by decide +kernel
theorem d_Mo_both_24 : decode prog_10_method_65_code 24 = .ok (.aload_n 0, 1) := by decide +kernel
theorem d_Mo_both_25 : decode prog_10_method_65_code 25 = .ok (.getfield 129, 3) := by decide +kernel
theorem d_Mo_both_28 : decode prog_10_method_65_code 28 = .ok (.iload_n 2, 1) := by decide +kernel
theorem d_Mo_both_29 : decode prog_10_method_65_code 29 = .ok (.iaload, 1) := by decide +kernel
theorem d_Mo_both_30 : decode prog_10_method_65_code 30 = .ok (.istore 5, 2) := by decide +kernel
theorem d_Mo_both_32 : decode prog_10_method_65_code 32 = .ok (.iload 5, 2) := by decide +kernel
theorem d_Mo_both_34 : decode prog_10_method_65_code 34 = .ok (.aload_n 0, 1) := by decide +kernel
theorem d_Mo_both_35 : decode prog_10_method_65_code 35 = .ok (.getfield 132, 3) := by decide +kernel
theorem d_Mo_both_38 : decode prog_10_method_65_code 38 = .ok (.iload_n 2, 1) := by decide +kernel
theorem d_Mo_both_39 : decode prog_10_method_65_code 39 = .ok (.iaload, 1) := by decide +kernel
theorem d_Mo_both_40 : decode prog_10_method_65_code 40 = .ok (.if_icmp .ge 69, 3) := by decide +kernel
theorem d_Mo_both_43 : decode prog_10_method_65_code 43 = .ok (.aload_n 0, 1) := by decide +kernel
theorem d_Mo_both_44 : decode prog_10_method_65_code 44 = .ok (.getfield 418, 3) := by decide +kernel
theorem d_Mo_both_47 : decode prog_10_method_65_code 47 = .ok (.ifCond .ne 62, 3) := by decide +kernel
theorem d_Mo_both_50 : decode prog_10_method_65_code 50 = .ok (.aload_n 0, 1) := by decide +kernel
theorem d_Mo_both_51 : decode prog_10_method_65_code 51 = .ok (.getfield 114, 3) := by decide +kernel
theorem d_Mo_both_54 : decode prog_10_method_65_code 54 = .ok (.iload 4, 2) := by decide +kernel
theorem d_Mo_both_56 : decode prog_10_method_65_code 56 = .ok (.laload, 1) := by decide +kernel
theorem d_Mo_both_57 : decode prog_10_method_65_code 57 = .ok (.aload_n 0, 1) := by decide +kernel
theorem d_Mo_both_58 : decode prog_10_method_65_code 58 = .ok (.getfield 114, 3) := by decide +kernel
theorem d_Mo_both_61 : decode prog_10_method_65_code 61 = .ok (.iload 5, 2) := by decide +kernel
theorem d_Mo_both_63 : decode prog_10_method_65_code 63 = .ok (.laload, 1) := by decide +kernel
theorem d_Mo_both_64 : decode prog_10_method_65_code 64 = .ok (.lor, 1) := by decide +kernel
theorem d_Mo_both_65 : decode prog_10_method_65_code 65 = .ok (.lstore 6, 2) := by decide +kernel
theorem d_Mo_both_67 : decode prog_10_method_65_code 67 = .ok (.aload_n 0, 1) := by decide +kernel
theorem d_Mo_both_68 : decode prog_10_method_65_code 68 = .ok (.getfield 117, 3) := by decide +kernel
theorem d_Mo_both_71 : decode prog_10_method_65_code 71 = .ok (.iload 4, 2) := by decide +kernel
theorem d_Mo_both_73 : decode prog_10_method_65_code 73 = .ok (.laload, 1) := by decide +kernel
theorem d_Mo_both_74 : decode prog_10_method_65_code 74 = .ok (.aload_n 0, 1) := by decide +kernel
theorem d_Mo_both_75 : decode prog_10_method_65_code 75 = .ok (.getfield 117, 3) := by decide +kernel
theorem d_Mo_both_78 : decode prog_10_method_65_code 78 = .ok (.iload 5, 2) := by decide +kernel
theorem d_Mo_both_80 : decode prog_10_method_65_code 80 = .ok (.laload, 1) := by decide +kernel
theorem d_Mo_both_81 : decode prog_10_method_65_code 81 = .ok (.lor, 1) := by decide +kernel
theorem d_Mo_both_82 : decode prog_10_method_65_code 82 = .ok (.lstore 8, 2) := by decide +kernel
theorem d_Mo_both_84 : decode prog_10_method_65_code 84 = .ok (.lload 6, 2) := by decide +kernel
theorem d_Mo_both_86 : decode prog_10_method_65_code 86 = .ok (.lload 8, 2) := by decide +kernel
theorem d_Mo_both_88 : decode prog_10_method_65_code 88 = .ok (.land, 1) := by decide +kernel
theorem d_Mo_both_89 : decode prog_10_method_65_code 89 = .ok (.lconst 0, 1) := by decide +kernel
theorem d_Mo_both_90 : decode prog_10_method_65_code 90 = .ok (.lcmp, 1) := by decide +kernel
theorem d_Mo_both_91 : decode prog_10_method_65_code 91 = .ok (.ifCond .ne 12, 3) := by decide +kernel
theorem d_Mo_both_94 : decode prog_10_method_65_code 94 = .ok (.aload_n 0, 1) := by decide +kernel
theorem d_Mo_both_95 : decode prog_10_method_65_code 95 = .ok (.iload_n 3, 1) := by decide +kernel
theorem d_Mo_both_96 : decode prog_10_method_65_code 96 = .ok (.lload 6, 2) := by decide +kernel
theorem d_Mo_both_98 : decode prog_10_method_65_code 98 = .ok (.lload 8, 2) := by decide +kernel
theorem d_Mo_both_100 : decode prog_10_method_65_code 100 = .ok (.invokevirtual 426, 3) := by decide +kernel
theorem d_Mo_both_103 : decode prog_10_method_65_code 103 = .ok (.iinc 5 1, 3) := by decide +kernel
theorem d_Mo_both_106 : decode prog_10_method_65_code 106 = .ok (.goto (-74), 3) := by decide +kernel
theorem d_Mo_both_109 : decode prog_10_method_65_code 109 = .ok (.iinc 4 1, 3) := by decide +kernel
theorem d_Mo_both_112 : decode prog_10_method_65_code 112 = .ok (.goto (-99), 3) := by decide +kernel
theorem d_Mo_both_115 : decode prog_10_method_65_code 115 = .ok (.aload_n 0, 1) := by decide +kernel
theorem d_Mo_both_116 : decode prog_10_method_65_code 116 = .ok (.iload_n 3, 1) := by decide +kernel
theorem d_Mo_both_117 : decode prog_10_method_65_code 117 = .ok (.invokevirtual 430, 3) := by decide +kernel
theorem d_Mo_both_120 : decode prog_10_method_65_code 120 = .ok (.return_, 1) := by decide +kernel
theorem mb_Mo_printNode : Mb y_Mo_printNode prog_10_method_58_code 4 none 2 := ⟨W_Mo_printNode_code, W_Mo_printNode_in, sel_85, I_Mo, by decide +kernel, by decide +kernel, by decide +kernel⟩
theorem mb_Mo_printWord : Mb y_Mo_printWord prog_10_method_59_code 2 none 1 := ⟨W_Mo_printWord_code, W_Mo_printWord_in, sel_90, I_Mo, by decide +kernel, by decide +kernel, by decide +kernel⟩
theorem mb_Mo_print : Mb y_Mo_print prog_10_method_60_code 1 (some .int) 0 := ⟨W_Mo_print_code, W_Mo_print_in, W_Mo_print_se, I_Mo, by decide +kernel, by decide +kernel, by decide +kernel⟩
theorem mb_Mo_printed : Mb y_Mo_printed prog_10_method_61_code 2 (some .int) 1 := ⟨W_Mo_printed_code, W_Mo_printed_in, W_Mo_printed_se, I_Mo, by decide +kernel, by decide +kernel, by decide +kernel⟩
theorem mb_Mo_addRow : Mb y_Mo_addRow prog_10_method_62_code 6 none 3 := ⟨W_Mo_addRow_code, W_Mo_addRow_in, sel_94, I_Mo, by decide +kernel, by decide +kernel, by decide +kernel⟩
theorem mb_Mo_isLeftOut : Mb y_Mo_isLeftOut prog_10_method_63_code 6 (some .boolean) 2 := ⟨W_Mo_isLeftOut_code, W_Mo_isLeftOut_in, sel_97, I_Mo, by decide +kernel, by decide +kernel, by decide +kernel⟩
theorem mb_Mo_clean : Mb y_Mo_clean prog_10_method_64_code 4 none 1 := ⟨W_Mo_clean_code, W_Mo_clean_in, sel_96, I_Mo, by decide +kernel, by decide +kernel, by decide +kernel⟩
theorem mb_Mo_both : Mb y_Mo_both prog_10_method_65_code 10 none 2 := ⟨W_Mo_both_code, W_Mo_both_in, sel_95, I_Mo, by decide +kernel, by decide +kernel, by decide +kernel⟩
def Mo_printNode_46 (F : Nat) (t : StI) (tL : StL) (x1 : Int32) (x3 : Int32) : Option (StI × StL) := if x3 = (4 : Int32) then (Mo_space F t tL).bind fun r27 => (Mo_put F r27.1 r27.2 (110 : Int32)).bind fun r28 => (Mo_put F r28.1 r28.2 (111 : Int32)).bind fun r29 => (Mo_put F r29.1 r29.2 (116 : Int32)).bind fun r30 => if x1 < 0 ∨ 700 ≤ x1.toNatClampNeg then none else (Mo_plan F r30.1 r30.2 (0 : Int32) ((r30.1 33) x1.toNatClampNeg) (4 : Int32)).bind fun r32 => some (r32.1, r32.2) else if x1 < 0 ∨ 700 ≤ x1.toNatClampNeg then none else (Mo_plan F t tL (0 : Int32) ((t 34) x1.toNatClampNeg) (x3 + (1 : Int32))).bind fun r23 => (Mo_plan F r23.1 r23.2 (1 : Int32) x3 (0 : Int32)).bind fun r24 => if x1 < 0 ∨ 700 ≤ x1.toNatClampNeg then none else (Mo_plan F r24.1 r24.2 (0 : Int32) ((r24.1 33) x1.toNatClampNeg) x3).bind fun r26 => some (r26.1, r26.2)
def Mo_printNode (F : Nat) (t : StI) (tL : StL) (x1 : Int32) (x2 : Int32) : Option (StI × StL) := if x1 < 0 ∨ 700 ≤ x1.toNatClampNeg then none else if ((t 32) x1.toNatClampNeg) = (7 : Int32) then if x1 < 0 ∨ 700 ≤ x1.toNatClampNeg then none else (Mo_putAtom F t tL ((t 33) x1.toNatClampNeg)).bind fun r40 => some (r40.1, r40.2) else if x2 ≤ ((t 32) x1.toNatClampNeg) then Mo_printNode_46 F t tL x1 ((t 32) x1.toNatClampNeg) else (Mo_space F t tL).bind fun r36 => (Mo_put F r36.1 r36.2 (40 : Int32)).bind fun r37 => (Mo_plan F r37.1 r37.2 (2 : Int32) (0 : Int32) (0 : Int32)).bind fun r38 => Mo_printNode_46 F r38.1 r38.2 x1 ((t 32) x1.toNatClampNeg)
set_option maxHeartbeats 4000000 in
set_option maxRecDepth 100000 in
theorem k_Mo_printNode_46 {p : Program} {l : Launch} {e : Env} {s : State} {m : MethodId} {args : Array Value} {below : List Frame} {meth : Method} {c : Code} {g : Gz} {A : Nat → Prop} {F : Nat} {a_t : Nat → Nat} (hC : Cx prog_10_method_58_code 4 none R_Mo p s m args meth c g A A) : ∀ (t : StI) (tL : StL) (x1 : Int32) (x3 : Int32) (res : StI × StL), Mo_printNode_46 F t tL x1 x3 = some res → Go p l e rm_Mo_printNode s m args below meth c g A A 4 (MQ below (EV g ((pic_Mo g a_t res.1 res.2)) A) args s 0 0 A) ((pic_Mo g a_t t tL)) [(0, .ref (a_t 0)), (1, .int x1), (3, .int x3)] 46 [] := by
  obtain ⟨hx, hb, hr, hml, hown, htb, hlocks, hA, hAA, hG⟩ := id hC
  have hK := hG.1
  intro t tL x1 x3 res h H locs ls hP hD hS hl
  rw [Mo_printNode_46] at h
  refine lv_iload_n hx hb d_Mo_printNode_46 rfl (lv_at hl 2 rfl) ?_
  refine lv_iconst (v := 4) hx hb d_Mo_printNode_47 (by decide) ?_
  refine lv_icmp_ne (tgt := 88) hx hb d_Mo_printNode_48 (by decide) (fun c21 => ?_) (fun c21 => ?_)
  · replace h := (if_neg c21).symm.trans h
    refine lv_aload_n hx hb d_Mo_printNode_88 rfl (lv_at hl 0 rfl) ?_
    refine lv_iconst (v := 0) hx hb d_Mo_printNode_89 (by decide) ?_
    refine lv_aload_n hx hb d_Mo_printNode_90 rfl (lv_at hl 0 rfl) ?_
    refine va_get (D := gD g) (ci := 8) (v := .ref (a_t 35)) (C := R_Mo) (T := T_Mo) (N := 64) hx hb htb in_Mo hown hK hP 0 rfl rfl 34 (by decide) (htb _ L_Mo_89) (fun _ h9 => h9) rfl d_Mo_printNode_91 ?_
    refine lv_iload_n hx hb d_Mo_printNode_94 rfl (lv_at hl 1 rfl) ?_
    by_cases c22 : (x1 < 0 ∨ 700 ≤ x1.toNatClampNeg)
    · replace h := (if_pos c22).symm.trans h
      cases h
    replace h := (if_neg c22).symm.trans h
    refine va_iald hx hb hK hP 16 0 rfl rfl c22 d_Mo_printNode_95 ?_
    refine lv_iload_n hx hb d_Mo_printNode_96 rfl (lv_at hl 2 rfl) ?_
    refine lv_iconst (v := 1) hx hb d_Mo_printNode_97 (by decide) ?_
    refine lv_iadd hx hb d_Mo_printNode_98 ?_
    obtain ⟨r23, hr23, h⟩ := Option.bind_eq_some_iff.mp h
    refine cl_V (wr := []) [0, 1, 2, 3, 4, 5, 6, 7, 8, 9, 10, 11, 12, 13, 14, 15, 16, 17, 18, 19, 20, 21, 22, 23, 24, 25, 26, 27, 28, 29, 30, 31, 32] [] rfl rfl rfl (by decide) hP hD hS hA (va_runV (As := [.int (0 : Int32), .int ((t 34) x1.toNatClampNeg), .int (x3 + (1 : Int32))]) (rest := []) ⟨hx, hb, hml, hown, htb⟩ (c_Mo_plan l g F a_t t tL (0 : Int32) ((t 34) x1.toNatClampNeg) (x3 + (1 : Int32)) _ hr23 H.size) (cw_V htb mb_Mo_plan (htb _ L_Mo_386) rfl rfl ⟨Nat.le_of_ble_eq_true rfl, Nat.le_of_ble_eq_true rfl⟩) (pre_V (va_recv hK hP (ci := 8) (q0 := 0) rfl rfl) (pre_S [0, 1, 2, 3, 4, 5, 6, 7, 8, 9, 10, 11, 12, 13, 14, 15, 16, 17, 18, 19, 20, 21, 22, 23, 24, 25, 26, 27, 28, 29, 30, 31, 32] rfl rfl hP hD hS hA hAA hG)) rfl rfl hl.1 rfl (lv_room (Nat.le_of_ble_eq_true rfl)) d_Mo_printNode_99 ⟨Nat.zero_le _, Nat.zero_le _⟩) (fun H locs hP hD hS => ?_)
    have hP : va_P (gD g) vwCl ((pic_Mo g a_t r23.1 r23.2)) H := hP.sub [0, 1, 2, 3, 4, 5, 6, 7, 8, 9, 10, 11, 12, 13, 14, 15, 16, 17, 18, 19, 20, 21, 22, 23, 24, 25, 26, 27, 28, 29, 30, 31, 32] rfl
    have hD : va_D A ((pic_Mo g a_t r23.1 r23.2)) := hD.sub [0, 1, 2, 3, 4, 5, 6, 7, 8, 9, 10, 11, 12, 13, 14, 15, 16, 17, 18, 19, 20, 21, 22, 23, 24, 25, 26, 27, 28, 29, 30, 31, 32] rfl rfl
    refine lv_aload_n hx hb d_Mo_printNode_102 rfl (lv_at hl 0 rfl) ?_
    refine lv_iconst (v := 1) hx hb d_Mo_printNode_103 (by decide) ?_
    refine lv_iload_n hx hb d_Mo_printNode_104 rfl (lv_at hl 2 rfl) ?_
    refine lv_iconst (v := 0) hx hb d_Mo_printNode_105 (by decide) ?_
    obtain ⟨r24, hr24, h⟩ := Option.bind_eq_some_iff.mp h
    refine cl_V (wr := []) [0, 1, 2, 3, 4, 5, 6, 7, 8, 9, 10, 11, 12, 13, 14, 15, 16, 17, 18, 19, 20, 21, 22, 23, 24, 25, 26, 27, 28, 29, 30, 31, 32] [] rfl rfl rfl (by decide) hP hD hS hA (va_runV (As := [.int (1 : Int32), .int x3, .int (0 : Int32)]) (rest := []) ⟨hx, hb, hml, hown, htb⟩ (c_Mo_plan l g F a_t r23.1 r23.2 (1 : Int32) x3 (0 : Int32) _ hr24 H.size) (cw_V htb mb_Mo_plan (htb _ L_Mo_386) rfl rfl ⟨Nat.le_of_ble_eq_true rfl, Nat.le_of_ble_eq_true rfl⟩) (pre_V (va_recv hK hP (ci := 8) (q0 := 0) rfl rfl) (pre_S [0, 1, 2, 3, 4, 5, 6, 7, 8, 9, 10, 11, 12, 13, 14, 15, 16, 17, 18, 19, 20, 21, 22, 23, 24, 25, 26, 27, 28, 29, 30, 31, 32] rfl rfl hP hD hS hA hAA hG)) rfl rfl hl.1 rfl (lv_room (Nat.le_of_ble_eq_true rfl)) d_Mo_printNode_106 ⟨Nat.zero_le _, Nat.zero_le _⟩) (fun H locs hP hD hS => ?_)
    have hP : va_P (gD g) vwCl ((pic_Mo g a_t r24.1 r24.2)) H := hP.sub [0, 1, 2, 3, 4, 5, 6, 7, 8, 9, 10, 11, 12, 13, 14, 15, 16, 17, 18, 19, 20, 21, 22, 23, 24, 25, 26, 27, 28, 29, 30, 31, 32] rfl
    have hD : va_D A ((pic_Mo g a_t r24.1 r24.2)) := hD.sub [0, 1, 2, 3, 4, 5, 6, 7, 8, 9, 10, 11, 12, 13, 14, 15, 16, 17, 18, 19, 20, 21, 22, 23, 24, 25, 26, 27, 28, 29, 30, 31, 32] rfl rfl
    refine lv_aload_n hx hb d_Mo_printNode_109 rfl (lv_at hl 0 rfl) ?_
    refine lv_iconst (v := 0) hx hb d_Mo_printNode_110 (by decide) ?_
    refine lv_aload_n hx hb d_Mo_printNode_111 rfl (lv_at hl 0 rfl) ?_
    refine va_get (D := gD g) (ci := 8) (v := .ref (a_t 34)) (C := R_Mo) (T := T_Mo) (N := 64) hx hb htb in_Mo hown hK hP 0 rfl rfl 33 (by decide) (htb _ L_Mo_86) (fun _ h9 => h9) rfl d_Mo_printNode_112 ?_
    refine lv_iload_n hx hb d_Mo_printNode_115 rfl (lv_at hl 1 rfl) ?_
    by_cases c25 : (x1 < 0 ∨ 700 ≤ x1.toNatClampNeg)
    · replace h := (if_pos c25).symm.trans h
      cases h
    replace h := (if_neg c25).symm.trans h
    refine va_iald hx hb hK hP 15 0 rfl rfl c25 d_Mo_printNode_116 ?_
    refine lv_iload_n hx hb d_Mo_printNode_117 rfl (lv_at hl 2 rfl) ?_
    obtain ⟨r26, hr26, h⟩ := Option.bind_eq_some_iff.mp h
    refine cl_V (wr := []) [0, 1, 2, 3, 4, 5, 6, 7, 8, 9, 10, 11, 12, 13, 14, 15, 16, 17, 18, 19, 20, 21, 22, 23, 24, 25, 26, 27, 28, 29, 30, 31, 32] [] rfl rfl rfl (by decide) hP hD hS hA (va_runV (As := [.int (0 : Int32), .int ((r24.1 33) x1.toNatClampNeg), .int x3]) (rest := []) ⟨hx, hb, hml, hown, htb⟩ (c_Mo_plan l g F a_t r24.1 r24.2 (0 : Int32) ((r24.1 33) x1.toNatClampNeg) x3 _ hr26 H.size) (cw_V htb mb_Mo_plan (htb _ L_Mo_386) rfl rfl ⟨Nat.le_of_ble_eq_true rfl, Nat.le_of_ble_eq_true rfl⟩) (pre_V (va_recv hK hP (ci := 8) (q0 := 0) rfl rfl) (pre_S [0, 1, 2, 3, 4, 5, 6, 7, 8, 9, 10, 11, 12, 13, 14, 15, 16, 17, 18, 19, 20, 21, 22, 23, 24, 25, 26, 27, 28, 29, 30, 31, 32] rfl rfl hP hD hS hA hAA hG)) rfl rfl hl.1 rfl (lv_room (Nat.le_of_ble_eq_true rfl)) d_Mo_printNode_118 ⟨Nat.zero_le _, Nat.zero_le _⟩) (fun H locs hP hD hS => ?_)
    have hP : va_P (gD g) vwCl ((pic_Mo g a_t r26.1 r26.2)) H := hP.sub [0, 1, 2, 3, 4, 5, 6, 7, 8, 9, 10, 11, 12, 13, 14, 15, 16, 17, 18, 19, 20, 21, 22, 23, 24, 25, 26, 27, 28, 29, 30, 31, 32] rfl
    have hD : va_D A ((pic_Mo g a_t r26.1 r26.2)) := hD.sub [0, 1, 2, 3, 4, 5, 6, 7, 8, 9, 10, 11, 12, 13, 14, 15, 16, 17, 18, 19, 20, 21, 22, 23, 24, 25, 26, 27, 28, 29, 30, 31, 32] rfl rfl
    cases h
    exact W.vret hx hb hr (fun t ht hW => ⟨⟨(), rfl, trivial, by rw [ht]; exact hP, hD⟩, hS.F ht⟩) hS.2.2 d_Mo_printNode_121
  · replace h := (if_pos c21).symm.trans h
    refine lv_aload_n hx hb d_Mo_printNode_51 rfl (lv_at hl 0 rfl) ?_
    obtain ⟨r27, hr27, h⟩ := Option.bind_eq_some_iff.mp h
    refine cl_V (wr := []) [0, 1, 2, 3, 4, 5, 6, 7, 8, 9, 10, 11, 12, 13, 14, 15, 16, 17, 18, 19, 20, 21, 22, 23, 24, 25, 26, 27, 28, 29, 30, 31, 32] [] rfl rfl rfl (by decide) hP hD hS hA (va_runV (As := []) (rest := []) ⟨hx, hb, hml, hown, htb⟩ (c_Mo_space l g F a_t t tL _ hr27 H.size) (cw_V htb mb_Mo_space (htb _ L_Mo_399) rfl rfl ⟨Nat.le_of_ble_eq_true rfl, Nat.le_of_ble_eq_true rfl⟩) (pre_V (va_recv hK hP (ci := 8) (q0 := 0) rfl rfl) (pre_S [0, 1, 2, 3, 4, 5, 6, 7, 8, 9, 10, 11, 12, 13, 14, 15, 16, 17, 18, 19, 20, 21, 22, 23, 24, 25, 26, 27, 28, 29, 30, 31, 32] rfl rfl hP hD hS hA hAA hG)) rfl rfl hl.1 rfl (lv_room (Nat.le_of_ble_eq_true rfl)) d_Mo_printNode_52 ⟨Nat.zero_le _, Nat.zero_le _⟩) (fun H locs hP hD hS => ?_)
    have hP : va_P (gD g) vwCl ((pic_Mo g a_t r27.1 r27.2)) H := hP.sub [0, 1, 2, 3, 4, 5, 6, 7, 8, 9, 10, 11, 12, 13, 14, 15, 16, 17, 18, 19, 20, 21, 22, 23, 24, 25, 26, 27, 28, 29, 30, 31, 32] rfl
    have hD : va_D A ((pic_Mo g a_t r27.1 r27.2)) := hD.sub [0, 1, 2, 3, 4, 5, 6, 7, 8, 9, 10, 11, 12, 13, 14, 15, 16, 17, 18, 19, 20, 21, 22, 23, 24, 25, 26, 27, 28, 29, 30, 31, 32] rfl rfl
    refine lv_aload_n hx hb d_Mo_printNode_55 rfl (lv_at hl 0 rfl) ?_
    refine lv_bipush (v := 110) hx hb d_Mo_printNode_56 (by decide) ?_
    obtain ⟨r28, hr28, h⟩ := Option.bind_eq_some_iff.mp h
    refine cl_V (wr := []) [0, 1, 2, 3, 4, 5, 6, 7, 8, 9, 10, 11, 12, 13, 14, 15, 16, 17, 18, 19, 20, 21, 22, 23, 24, 25, 26, 27, 28, 29, 30, 31, 32] [] rfl rfl rfl (by decide) hP hD hS hA (va_runV (As := [.int (110 : Int32)]) (rest := []) ⟨hx, hb, hml, hown, htb⟩ (c_Mo_put l g F a_t r27.1 r27.2 (110 : Int32) _ hr28 H.size) (cw_V htb mb_Mo_put (htb _ L_Mo_396) rfl rfl ⟨Nat.le_of_ble_eq_true rfl, Nat.le_of_ble_eq_true rfl⟩) (pre_V (va_recv hK hP (ci := 8) (q0 := 0) rfl rfl) (pre_S [0, 1, 2, 3, 4, 5, 6, 7, 8, 9, 10, 11, 12, 13, 14, 15, 16, 17, 18, 19, 20, 21, 22, 23, 24, 25, 26, 27, 28, 29, 30, 31, 32] rfl rfl hP hD hS hA hAA hG)) rfl rfl hl.1 rfl (lv_room (Nat.le_of_ble_eq_true rfl)) d_Mo_printNode_58 ⟨Nat.zero_le _, Nat.zero_le _⟩) (fun H locs hP hD hS => ?_)
    have hP : va_P (gD g) vwCl ((pic_Mo g a_t r28.1 r28.2)) H := hP.sub [0, 1, 2, 3, 4, 5, 6, 7, 8, 9, 10, 11, 12, 13, 14, 15, 16, 17, 18, 19, 20, 21, 22, 23, 24, 25, 26, 27, 28, 29, 30, 31, 32] rfl
    have hD : va_D A ((pic_Mo g a_t r28.1 r28.2)) := hD.sub [0, 1, 2, 3, 4, 5, 6, 7, 8, 9, 10, 11, 12, 13, 14, 15, 16, 17, 18, 19, 20, 21, 22, 23, 24, 25, 26, 27, 28, 29, 30, 31, 32] rfl rfl
    refine lv_aload_n hx hb d_Mo_printNode_61 rfl (lv_at hl 0 rfl) ?_
    refine lv_bipush (v := 111) hx hb d_Mo_printNode_62 (by decide) ?_
    obtain ⟨r29, hr29, h⟩ := Option.bind_eq_some_iff.mp h
    refine cl_V (wr := []) [0, 1, 2, 3, 4, 5, 6, 7, 8, 9, 10, 11, 12, 13, 14, 15, 16, 17, 18, 19, 20, 21, 22, 23, 24, 25, 26, 27, 28, 29, 30, 31, 32] [] rfl rfl rfl (by decide) hP hD hS hA (va_runV (As := [.int (111 : Int32)]) (rest := []) ⟨hx, hb, hml, hown, htb⟩ (c_Mo_put l g F a_t r28.1 r28.2 (111 : Int32) _ hr29 H.size) (cw_V htb mb_Mo_put (htb _ L_Mo_396) rfl rfl ⟨Nat.le_of_ble_eq_true rfl, Nat.le_of_ble_eq_true rfl⟩) (pre_V (va_recv hK hP (ci := 8) (q0 := 0) rfl rfl) (pre_S [0, 1, 2, 3, 4, 5, 6, 7, 8, 9, 10, 11, 12, 13, 14, 15, 16, 17, 18, 19, 20, 21, 22, 23, 24, 25, 26, 27, 28, 29, 30, 31, 32] rfl rfl hP hD hS hA hAA hG)) rfl rfl hl.1 rfl (lv_room (Nat.le_of_ble_eq_true rfl)) d_Mo_printNode_64 ⟨Nat.zero_le _, Nat.zero_le _⟩) (fun H locs hP hD hS => ?_)
    have hP : va_P (gD g) vwCl ((pic_Mo g a_t r29.1 r29.2)) H := hP.sub [0, 1, 2, 3, 4, 5, 6, 7, 8, 9, 10, 11, 12, 13, 14, 15, 16, 17, 18, 19, 20, 21, 22, 23, 24, 25, 26, 27, 28, 29, 30, 31, 32] rfl
    have hD : va_D A ((pic_Mo g a_t r29.1 r29.2)) := hD.sub [0, 1, 2, 3, 4, 5, 6, 7, 8, 9, 10, 11, 12, 13, 14, 15, 16, 17, 18, 19, 20, 21, 22, 23, 24, 25, 26, 27, 28, 29, 30, 31, 32] rfl rfl
    refine lv_aload_n hx hb d_Mo_printNode_67 rfl (lv_at hl 0 rfl) ?_
    refine lv_bipush (v := 116) hx hb d_Mo_printNode_68 (by decide) ?_
    obtain ⟨r30, hr30, h⟩ := Option.bind_eq_some_iff.mp h
    refine cl_V (wr := []) [0, 1, 2, 3, 4, 5, 6, 7, 8, 9, 10, 11, 12, 13, 14, 15, 16, 17, 18, 19, 20, 21, 22, 23, 24, 25, 26, 27, 28, 29, 30, 31, 32] [] rfl rfl rfl (by decide) hP hD hS hA (va_runV (As := [.int (116 : Int32)]) (rest := []) ⟨hx, hb, hml, hown, htb⟩ (c_Mo_put l g F a_t r29.1 r29.2 (116 : Int32) _ hr30 H.size) (cw_V htb mb_Mo_put (htb _ L_Mo_396) rfl rfl ⟨Nat.le_of_ble_eq_true rfl, Nat.le_of_ble_eq_true rfl⟩) (pre_V (va_recv hK hP (ci := 8) (q0 := 0) rfl rfl) (pre_S [0, 1, 2, 3, 4, 5, 6, 7, 8, 9, 10, 11, 12, 13, 14, 15, 16, 17, 18, 19, 20, 21, 22, 23, 24, 25, 26, 27, 28, 29, 30, 31, 32] rfl rfl hP hD hS hA hAA hG)) rfl rfl hl.1 rfl (lv_room (Nat.le_of_ble_eq_true rfl)) d_Mo_printNode_70 ⟨Nat.zero_le _, Nat.zero_le _⟩) (fun H locs hP hD hS => ?_)
    have hP : va_P (gD g) vwCl ((pic_Mo g a_t r30.1 r30.2)) H := hP.sub [0, 1, 2, 3, 4, 5, 6, 7, 8, 9, 10, 11, 12, 13, 14, 15, 16, 17, 18, 19, 20, 21, 22, 23, 24, 25, 26, 27, 28, 29, 30, 31, 32] rfl
    have hD : va_D A ((pic_Mo g a_t r30.1 r30.2)) := hD.sub [0, 1, 2, 3, 4, 5, 6, 7, 8, 9, 10, 11, 12, 13, 14, 15, 16, 17, 18, 19, 20, 21, 22, 23, 24, 25, 26, 27, 28, 29, 30, 31, 32] rfl rfl
    refine lv_aload_n hx hb d_Mo_printNode_73 rfl (lv_at hl 0 rfl) ?_
    refine lv_iconst (v := 0) hx hb d_Mo_printNode_74 (by decide) ?_
    refine lv_aload_n hx hb d_Mo_printNode_75 rfl (lv_at hl 0 rfl) ?_
    refine va_get (D := gD g) (ci := 8) (v := .ref (a_t 34)) (C := R_Mo) (T := T_Mo) (N := 64) hx hb htb in_Mo hown hK hP 0 rfl rfl 33 (by decide) (htb _ L_Mo_86) (fun _ h9 => h9) rfl d_Mo_printNode_76 ?_
    refine lv_iload_n hx hb d_Mo_printNode_79 rfl (lv_at hl 1 rfl) ?_
    by_cases c31 : (x1 < 0 ∨ 700 ≤ x1.toNatClampNeg)
    · replace h := (if_pos c31).symm.trans h
      cases h
    replace h := (if_neg c31).symm.trans h
    refine va_iald hx hb hK hP 15 0 rfl rfl c31 d_Mo_printNode_80 ?_
    refine lv_iconst (v := 4) hx hb d_Mo_printNode_81 (by decide) ?_
    obtain ⟨r32, hr32, h⟩ := Option.bind_eq_some_iff.mp h
    refine cl_V (wr := []) [0, 1, 2, 3, 4, 5, 6, 7, 8, 9, 10, 11, 12, 13, 14, 15, 16, 17, 18, 19, 20, 21, 22, 23, 24, 25, 26, 27, 28, 29, 30, 31, 32] [] rfl rfl rfl (by decide) hP hD hS hA (va_runV (As := [.int (0 : Int32), .int ((r30.1 33) x1.toNatClampNeg), .int (4 : Int32)]) (rest := []) ⟨hx, hb, hml, hown, htb⟩ (c_Mo_plan l g F a_t r30.1 r30.2 (0 : Int32) ((r30.1 33) x1.toNatClampNeg) (4 : Int32) _ hr32 H.size) (cw_V htb mb_Mo_plan (htb _ L_Mo_386) rfl rfl ⟨Nat.le_of_ble_eq_true rfl, Nat.le_of_ble_eq_true rfl⟩) (pre_V (va_recv hK hP (ci := 8) (q0 := 0) rfl rfl) (pre_S [0, 1, 2, 3, 4, 5, 6, 7, 8, 9, 10, 11, 12, 13, 14, 15, 16, 17, 18, 19, 20, 21, 22, 23, 24, 25, 26, 27, 28, 29, 30, 31, 32] rfl rfl hP hD hS hA hAA hG)) rfl rfl hl.1 rfl (lv_room (Nat.le_of_ble_eq_true rfl)) d_Mo_printNode_82 ⟨Nat.zero_le _, Nat.zero_le _⟩) (fun H locs hP hD hS => ?_)
    have hP : va_P (gD g) vwCl ((pic_Mo g a_t r32.1 r32.2)) H := hP.sub [0, 1, 2, 3, 4, 5, 6, 7, 8, 9, 10, 11, 12, 13, 14, 15, 16, 17, 18, 19, 20, 21, 22, 23, 24, 25, 26, 27, 28, 29, 30, 31, 32] rfl
    have hD : va_D A ((pic_Mo g a_t r32.1 r32.2)) := hD.sub [0, 1, 2, 3, 4, 5, 6, 7, 8, 9, 10, 11, 12, 13, 14, 15, 16, 17, 18, 19, 20, 21, 22, 23, 24, 25, 26, 27, 28, 29, 30, 31, 32] rfl rfl
    refine lv_goto (tgt := 121) hx hb d_Mo_printNode_85 (by decide) ?_
    cases h
    exact W.vret hx hb hr (fun t ht hW => ⟨⟨(), rfl, trivial, by rw [ht]; exact hP, hD⟩, hS.F ht⟩) hS.2.2 d_Mo_printNode_121
set_option maxHeartbeats 4000000 in
set_option maxRecDepth 100000 in
theorem k_Mo_printNode {p : Program} {l : Launch} {e : Env} {s : State} {m : MethodId} {args : Array Value} {below : List Frame} {meth : Method} {c : Code} {g : Gz} {A : Nat → Prop} {F : Nat} {a_t : Nat → Nat} (hC : Cx prog_10_method_58_code 4 none R_Mo p s m args meth c g A A) : ∀ (t : StI) (tL : StL) (x1 : Int32) (x2 : Int32) (res : StI × StL), Mo_printNode F t tL x1 x2 = some res → Go p l e rm_Mo_printNode s m args below meth c g A A 4 (MQ below (EV g ((pic_Mo g a_t res.1 res.2)) A) args s 0 0 A) ((pic_Mo g a_t t tL)) [(0, .ref (a_t 0)), (1, .int x1), (2, .int x2)] 0 [] := by
  obtain ⟨hx, hb, hr, hml, hown, htb, hlocks, hA, hAA, hG⟩ := id hC
  have hK := hG.1
  intro t tL x1 x2 res h H locs ls hP hD hS hl
  rw [Mo_printNode] at h
  refine lv_aload_n hx hb d_Mo_printNode_0 rfl (lv_at hl 0 rfl) ?_
  refine va_get (D := gD g) (ci := 8) (v := .ref (a_t 33)) (C := R_Mo) (T := T_Mo) (N := 64) hx hb htb in_Mo hown hK hP 0 rfl rfl 32 (by decide) (htb _ L_Mo_83) (fun _ h9 => h9) rfl d_Mo_printNode_1 ?_
  refine lv_iload_n hx hb d_Mo_printNode_4 rfl (lv_at hl 1 rfl) ?_
  by_cases c33 : (x1 < 0 ∨ 700 ≤ x1.toNatClampNeg)
  · replace h := (if_pos c33).symm.trans h
    cases h
  replace h := (if_neg c33).symm.trans h
  refine va_iald hx hb hK hP 14 0 rfl rfl c33 d_Mo_printNode_5 ?_
  refine lv_istore_n (lv' := [(3, .int ((t 32) x1.toNatClampNeg)), (0, .ref (a_t 0)), (1, .int x1), (2, .int x2)]) hx hb d_Mo_printNode_6 rfl hl (by decide) rfl (fun ls hl => ?_)
  refine lv_iload_n hx hb d_Mo_printNode_7 rfl (lv_at hl 0 rfl) ?_
  refine lv_bipush (v := 7) hx hb d_Mo_printNode_8 (by decide) ?_
  refine lv_icmp_ne (tgt := 24) hx hb d_Mo_printNode_10 (by decide) (fun c34 => ?_) (fun c34 => ?_)
  · replace h := (if_neg c34).symm.trans h
    refine lv_iload_n hx hb d_Mo_printNode_24 rfl (lv_at hl 0 rfl) ?_
    refine lv_iload_n hx hb d_Mo_printNode_25 rfl (lv_at hl 3 rfl) ?_
    refine lv_icmp_ge (tgt := 46) hx hb d_Mo_printNode_26 (by decide) (fun c35 => ?_) (fun c35 => ?_)
    · replace h := (if_pos c35).symm.trans h
      exact k_Mo_printNode_46 hC _ _ _ _ _ h _ _ _ hP hD hS (lv_sub hl [1, 2, 0] rfl)
    · replace h := (if_neg c35).symm.trans h
      refine lv_aload_n hx hb d_Mo_printNode_29 rfl (lv_at hl 1 rfl) ?_
      obtain ⟨r36, hr36, h⟩ := Option.bind_eq_some_iff.mp h
      refine cl_V (wr := []) [0, 1, 2, 3, 4, 5, 6, 7, 8, 9, 10, 11, 12, 13, 14, 15, 16, 17, 18, 19, 20, 21, 22, 23, 24, 25, 26, 27, 28, 29, 30, 31, 32] [] rfl rfl rfl (by decide) hP hD hS hA (va_runV (As := []) (rest := []) ⟨hx, hb, hml, hown, htb⟩ (c_Mo_space l g F a_t t tL _ hr36 H.size) (cw_V htb mb_Mo_space (htb _ L_Mo_399) rfl rfl ⟨Nat.le_of_ble_eq_true rfl, Nat.le_of_ble_eq_true rfl⟩) (pre_V (va_recv hK hP (ci := 8) (q0 := 0) rfl rfl) (pre_S [0, 1, 2, 3, 4, 5, 6, 7, 8, 9, 10, 11, 12, 13, 14, 15, 16, 17, 18, 19, 20, 21, 22, 23, 24, 25, 26, 27, 28, 29, 30, 31, 32] rfl rfl hP hD hS hA hAA hG)) rfl rfl hl.1 rfl (lv_room (Nat.le_of_ble_eq_true rfl)) d_Mo_printNode_30 ⟨Nat.zero_le _, Nat.zero_le _⟩) (fun H locs hP hD hS => ?_)
      have hP : va_P (gD g) vwCl ((pic_Mo g a_t r36.1 r36.2)) H := hP.sub [0, 1, 2, 3, 4, 5, 6, 7, 8, 9, 10, 11, 12, 13, 14, 15, 16, 17, 18, 19, 20, 21, 22, 23, 24, 25, 26, 27, 28, 29, 30, 31, 32] rfl
      have hD : va_D A ((pic_Mo g a_t r36.1 r36.2)) := hD.sub [0, 1, 2, 3, 4, 5, 6, 7, 8, 9, 10, 11, 12, 13, 14, 15, 16, 17, 18, 19, 20, 21, 22, 23, 24, 25, 26, 27, 28, 29, 30, 31, 32] rfl rfl
      refine lv_aload_n hx hb d_Mo_printNode_33 rfl (lv_at hl 1 rfl) ?_
      refine lv_bipush (v := 40) hx hb d_Mo_printNode_34 (by decide) ?_
      obtain ⟨r37, hr37, h⟩ := Option.bind_eq_some_iff.mp h
      refine cl_V (wr := []) [0, 1, 2, 3, 4, 5, 6, 7, 8, 9, 10, 11, 12, 13, 14, 15, 16, 17, 18, 19, 20, 21, 22, 23, 24, 25, 26, 27, 28, 29, 30, 31, 32] [] rfl rfl rfl (by decide) hP hD hS hA (va_runV (As := [.int (40 : Int32)]) (rest := []) ⟨hx, hb, hml, hown, htb⟩ (c_Mo_put l g F a_t r36.1 r36.2 (40 : Int32) _ hr37 H.size) (cw_V htb mb_Mo_put (htb _ L_Mo_396) rfl rfl ⟨Nat.le_of_ble_eq_true rfl, Nat.le_of_ble_eq_true rfl⟩) (pre_V (va_recv hK hP (ci := 8) (q0 := 0) rfl rfl) (pre_S [0, 1, 2, 3, 4, 5, 6, 7, 8, 9, 10, 11, 12, 13, 14, 15, 16, 17, 18, 19, 20, 21, 22, 23, 24, 25, 26, 27, 28, 29, 30, 31, 32] rfl rfl hP hD hS hA hAA hG)) rfl rfl hl.1 rfl (lv_room (Nat.le_of_ble_eq_true rfl)) d_Mo_printNode_36 ⟨Nat.zero_le _, Nat.zero_le _⟩) (fun H locs hP hD hS => ?_)
      have hP : va_P (gD g) vwCl ((pic_Mo g a_t r37.1 r37.2)) H := hP.sub [0, 1, 2, 3, 4, 5, 6, 7, 8, 9, 10, 11, 12, 13, 14, 15, 16, 17, 18, 19, 20, 21, 22, 23, 24, 25, 26, 27, 28, 29, 30, 31, 32] rfl
      have hD : va_D A ((pic_Mo g a_t r37.1 r37.2)) := hD.sub [0, 1, 2, 3, 4, 5, 6, 7, 8, 9, 10, 11, 12, 13, 14, 15, 16, 17, 18, 19, 20, 21, 22, 23, 24, 25, 26, 27, 28, 29, 30, 31, 32] rfl rfl
      refine lv_aload_n hx hb d_Mo_printNode_39 rfl (lv_at hl 1 rfl) ?_
      refine lv_iconst (v := 2) hx hb d_Mo_printNode_40 (by decide) ?_
      refine lv_iconst (v := 0) hx hb d_Mo_printNode_41 (by decide) ?_
      refine lv_iconst (v := 0) hx hb d_Mo_printNode_42 (by decide) ?_
      obtain ⟨r38, hr38, h⟩ := Option.bind_eq_some_iff.mp h
      refine cl_V (wr := []) [0, 1, 2, 3, 4, 5, 6, 7, 8, 9, 10, 11, 12, 13, 14, 15, 16, 17, 18, 19, 20, 21, 22, 23, 24, 25, 26, 27, 28, 29, 30, 31, 32] [] rfl rfl rfl (by decide) hP hD hS hA (va_runV (As := [.int (2 : Int32), .int (0 : Int32), .int (0 : Int32)]) (rest := []) ⟨hx, hb, hml, hown, htb⟩ (c_Mo_plan l g F a_t r37.1 r37.2 (2 : Int32) (0 : Int32) (0 : Int32) _ hr38 H.size) (cw_V htb mb_Mo_plan (htb _ L_Mo_386) rfl rfl ⟨Nat.le_of_ble_eq_true rfl, Nat.le_of_ble_eq_true rfl⟩) (pre_V (va_recv hK hP (ci := 8) (q0 := 0) rfl rfl) (pre_S [0, 1, 2, 3, 4, 5, 6, 7, 8, 9, 10, 11, 12, 13, 14, 15, 16, 17, 18, 19, 20, 21, 22, 23, 24, 25, 26, 27, 28, 29, 30, 31, 32] rfl rfl hP hD hS hA hAA hG)) rfl rfl hl.1 rfl (lv_room (Nat.le_of_ble_eq_true rfl)) d_Mo_printNode_43 ⟨Nat.zero_le _, Nat.zero_le _⟩) (fun H locs hP hD hS => ?_)
      have hP : va_P (gD g) vwCl ((pic_Mo g a_t r38.1 r38.2)) H := hP.sub [0, 1, 2, 3, 4, 5, 6, 7, 8, 9, 10, 11, 12, 13, 14, 15, 16, 17, 18, 19, 20, 21, 22, 23, 24, 25, 26, 27, 28, 29, 30, 31, 32] rfl
      have hD : va_D A ((pic_Mo g a_t r38.1 r38.2)) := hD.sub [0, 1, 2, 3, 4, 5, 6, 7, 8, 9, 10, 11, 12, 13, 14, 15, 16, 17, 18, 19, 20, 21, 22, 23, 24, 25, 26, 27, 28, 29, 30, 31, 32] rfl rfl
      exact k_Mo_printNode_46 hC _ _ _ _ _ h _ _ _ hP hD hS (lv_sub hl [1, 2, 0] rfl)
  · replace h := (if_pos c34).symm.trans h
    refine lv_aload_n hx hb d_Mo_printNode_13 rfl (lv_at hl 1 rfl) ?_
    refine lv_aload_n hx hb d_Mo_printNode_14 rfl (lv_at hl 1 rfl) ?_
    refine va_get (D := gD g) (ci := 8) (v := .ref (a_t 34)) (C := R_Mo) (T := T_Mo) (N := 64) hx hb htb in_Mo hown hK hP 0 rfl rfl 33 (by decide) (htb _ L_Mo_86) (fun _ h9 => h9) rfl d_Mo_printNode_15 ?_
    refine lv_iload_n hx hb d_Mo_printNode_18 rfl (lv_at hl 2 rfl) ?_
    by_cases c39 : (x1 < 0 ∨ 700 ≤ x1.toNatClampNeg)
    · replace h := (if_pos c39).symm.trans h
      cases h
    replace h := (if_neg c39).symm.trans h
    refine va_iald hx hb hK hP 15 0 rfl rfl c39 d_Mo_printNode_19 ?_
    obtain ⟨r40, hr40, h⟩ := Option.bind_eq_some_iff.mp h
    refine cl_V (wr := []) [0, 1, 2, 3, 4, 5, 6, 7, 8, 9, 10, 11, 12, 13, 14, 15, 16, 17, 18, 19, 20, 21, 22, 23, 24, 25, 26, 27, 28, 29, 30, 31, 32] [] rfl rfl rfl (by decide) hP hD hS hA (va_runV (As := [.int ((t 33) x1.toNatClampNeg)]) (rest := []) ⟨hx, hb, hml, hown, htb⟩ (c_Mo_putAtom l g F a_t t tL ((t 33) x1.toNatClampNeg) _ hr40 H.size) (cw_V htb mb_Mo_putAtom (htb _ L_Mo_406) rfl rfl ⟨Nat.le_of_ble_eq_true rfl, Nat.le_of_ble_eq_true rfl⟩) (pre_V (va_recv hK hP (ci := 8) (q0 := 0) rfl rfl) (pre_S [0, 1, 2, 3, 4, 5, 6, 7, 8, 9, 10, 11, 12, 13, 14, 15, 16, 17, 18, 19, 20, 21, 22, 23, 24, 25, 26, 27, 28, 29, 30, 31, 32] rfl rfl hP hD hS hA hAA hG)) rfl rfl hl.1 rfl (lv_room (Nat.le_of_ble_eq_true rfl)) d_Mo_printNode_20 ⟨Nat.zero_le _, Nat.zero_le _⟩) (fun H locs hP hD hS => ?_)
    have hP : va_P (gD g) vwCl ((pic_Mo g a_t r40.1 r40.2)) H := hP.sub [0, 1, 2, 3, 4, 5, 6, 7, 8, 9, 10, 11, 12, 13, 14, 15, 16, 17, 18, 19, 20, 21, 22, 23, 24, 25, 26, 27, 28, 29, 30, 31, 32] rfl
    have hD : va_D A ((pic_Mo g a_t r40.1 r40.2)) := hD.sub [0, 1, 2, 3, 4, 5, 6, 7, 8, 9, 10, 11, 12, 13, 14, 15, 16, 17, 18, 19, 20, 21, 22, 23, 24, 25, 26, 27, 28, 29, 30, 31, 32] rfl rfl
    cases h
    exact W.vret hx hb hr (fun t ht hW => ⟨⟨(), rfl, trivial, by rw [ht]; exact hP, hD⟩, hS.F ht⟩) hS.2.2 d_Mo_printNode_23
theorem c_Mo_printNode (l : Launch) (g : Gz) (F : Nat) (a_t : Nat → Nat) (t : StI) (tL : StL) (x1 : Int32) (x2 : Int32) (res : StI × StL) (h : Mo_printNode F t tL x1 x2 = some res) : ∀ sz : Nat, Met l y_Mo_printNode (.code y_Mo_printNode prog_10_method_58_code 4 none :: TBL) rm_Mo_printNode (va_Pc [.ref (a_t 0), .int x1, .int x2] (Pre0 g ((pic_Mo g a_t t tL)) sz)) (EV g ((pic_Mo g a_t res.1 res.2)) (va_A ((pic_Mo g a_t t tL)) sz)) 0 0 (va_A ((pic_Mo g a_t t tL)) sz) :=
  ct_w (Qc := fun A => EV g ((pic_Mo g a_t res.1 res.2)) A) (by decide) (Nat.le_of_ble_eq_true rfl) (fun p e s m args below meth c A hC => k_Mo_printNode hC t tL x1 x2 res h)
def Mo_printWord_20 (F : Nat) (t : StI) (tL : StL) : Option (StI × StL) := (Mo_put F t tL (111 : Int32)).bind fun r7 => (Mo_put F r7.1 r7.2 (114 : Int32)).bind fun r8 => some (r8.1, r8.2)
def Mo_printWord (F : Nat) (t : StI) (tL : StL) (x1 : Int32) : Option (StI × StL) := if x1 = (3 : Int32) then some (t, tL) else (Mo_space F t tL).bind fun r10 => if x1 = (2 : Int32) then (Mo_put F r10.1 r10.2 (120 : Int32)).bind fun r12 => Mo_printWord_20 F r12.1 r12.2 else Mo_printWord_20 F r10.1 r10.2
set_option maxHeartbeats 4000000 in
set_option maxRecDepth 100000 in
theorem k_Mo_printWord_20 {p : Program} {l : Launch} {e : Env} {s : State} {m : MethodId} {args : Array Value} {below : List Frame} {meth : Method} {c : Code} {g : Gz} {A : Nat → Prop} {F : Nat} {a_t : Nat → Nat} (hC : Cx prog_10_method_59_code 2 none R_Mo p s m args meth c g A A) : ∀ (t : StI) (tL : StL) (res : StI × StL), Mo_printWord_20 F t tL = some res → Go p l e rm_Mo_printWord s m args below meth c g A A 2 (MQ below (EV g ((pic_Mo g a_t res.1 res.2)) A) args s 0 0 A) ((pic_Mo g a_t t tL)) [(0, .ref (a_t 0))] 20 [] := by
  obtain ⟨hx, hb, hr, hml, hown, htb, hlocks, hA, hAA, hG⟩ := id hC
  have hK := hG.1
  intro t tL res h H locs ls hP hD hS hl
  rw [Mo_printWord_20] at h
  refine lv_aload_n hx hb d_Mo_printWord_20 rfl (lv_at hl 0 rfl) ?_
  refine lv_bipush (v := 111) hx hb d_Mo_printWord_21 (by decide) ?_
  obtain ⟨r7, hr7, h⟩ := Option.bind_eq_some_iff.mp h
  refine cl_V (wr := []) [0, 1, 2, 3, 4, 5, 6, 7, 8, 9, 10, 11, 12, 13, 14, 15, 16, 17, 18, 19, 20, 21, 22, 23, 24, 25, 26, 27, 28, 29, 30, 31, 32] [] rfl rfl rfl (by decide) hP hD hS hA (va_runV (As := [.int (111 : Int32)]) (rest := []) ⟨hx, hb, hml, hown, htb⟩ (c_Mo_put l g F a_t t tL (111 : Int32) _ hr7 H.size) (cw_V htb mb_Mo_put (htb _ L_Mo_396) rfl rfl ⟨Nat.le_of_ble_eq_true rfl, Nat.le_of_ble_eq_true rfl⟩) (pre_V (va_recv hK hP (ci := 8) (q0 := 0) rfl rfl) (pre_S [0, 1, 2, 3, 4, 5, 6, 7, 8, 9, 10, 11, 12, 13, 14, 15, 16, 17, 18, 19, 20, 21, 22, 23, 24, 25, 26, 27, 28, 29, 30, 31, 32] rfl rfl hP hD hS hA hAA hG)) rfl rfl hl.1 rfl (lv_room (Nat.le_of_ble_eq_true rfl)) d_Mo_printWord_23 ⟨Nat.zero_le _, Nat.zero_le _⟩) (fun H locs hP hD hS => ?_)
  have hP : va_P (gD g) vwCl ((pic_Mo g a_t r7.1 r7.2)) H := hP.sub [0, 1, 2, 3, 4, 5, 6, 7, 8, 9, 10, 11, 12, 13, 14, 15, 16, 17, 18, 19, 20, 21, 22, 23, 24, 25, 26, 27, 28, 29, 30, 31, 32] rfl
  have hD : va_D A ((pic_Mo g a_t r7.1 r7.2)) := hD.sub [0, 1, 2, 3, 4, 5, 6, 7, 8, 9, 10, 11, 12, 13, 14, 15, 16, 17, 18, 19, 20, 21, 22, 23, 24, 25, 26, 27, 28, 29, 30, 31, 32] rfl rfl
  refine lv_aload_n hx hb d_Mo_printWord_26 rfl (lv_at hl 0 rfl) ?_
  refine lv_bipush (v := 114) hx hb d_Mo_printWord_27 (by decide) ?_
  obtain ⟨r8, hr8, h⟩ := Option.bind_eq_some_iff.mp h
  refine cl_V (wr := []) [0, 1, 2, 3, 4, 5, 6, 7, 8, 9, 10, 11, 12, 13, 14, 15, 16, 17, 18, 19, 20, 21, 22, 23, 24, 25, 26, 27, 28, 29, 30, 31, 32] [] rfl rfl rfl (by decide) hP hD hS hA (va_runV (As := [.int (114 : Int32)]) (rest := []) ⟨hx, hb, hml, hown, htb⟩ (c_Mo_put l g F a_t r7.1 r7.2 (114 : Int32) _ hr8 H.size) (cw_V htb mb_Mo_put (htb _ L_Mo_396) rfl rfl ⟨Nat.le_of_ble_eq_true rfl, Nat.le_of_ble_eq_true rfl⟩) (pre_V (va_recv hK hP (ci := 8) (q0 := 0) rfl rfl) (pre_S [0, 1, 2, 3, 4, 5, 6, 7, 8, 9, 10, 11, 12, 13, 14, 15, 16, 17, 18, 19, 20, 21, 22, 23, 24, 25, 26, 27, 28, 29, 30, 31, 32] rfl rfl hP hD hS hA hAA hG)) rfl rfl hl.1 rfl (lv_room (Nat.le_of_ble_eq_true rfl)) d_Mo_printWord_29 ⟨Nat.zero_le _, Nat.zero_le _⟩) (fun H locs hP hD hS => ?_)
  have hP : va_P (gD g) vwCl ((pic_Mo g a_t r8.1 r8.2)) H := hP.sub [0, 1, 2, 3, 4, 5, 6, 7, 8, 9, 10, 11, 12, 13, 14, 15, 16, 17, 18, 19, 20, 21, 22, 23, 24, 25, 26, 27, 28, 29, 30, 31, 32] rfl
  have hD : va_D A ((pic_Mo g a_t r8.1 r8.2)) := hD.sub [0, 1, 2, 3, 4, 5, 6, 7, 8, 9, 10, 11, 12, 13, 14, 15, 16, 17, 18, 19, 20, 21, 22, 23, 24, 25, 26, 27, 28, 29, 30, 31, 32] rfl rfl
  cases h
  exact W.vret hx hb hr (fun t ht hW => ⟨⟨(), rfl, trivial, by rw [ht]; exact hP, hD⟩, hS.F ht⟩) hS.2.2 d_Mo_printWord_32
set_option maxHeartbeats 4000000 in
set_option maxRecDepth 100000 in
theorem k_Mo_printWord {p : Program} {l : Launch} {e : Env} {s : State} {m : MethodId} {args : Array Value} {below : List Frame} {meth : Method} {c : Code} {g : Gz} {A : Nat → Prop} {F : Nat} {a_t : Nat → Nat} (hC : Cx prog_10_method_59_code 2 none R_Mo p s m args meth c g A A) : ∀ (t : StI) (tL : StL) (x1 : Int32) (res : StI × StL), Mo_printWord F t tL x1 = some res → Go p l e rm_Mo_printWord s m args below meth c g A A 2 (MQ below (EV g ((pic_Mo g a_t res.1 res.2)) A) args s 0 0 A) ((pic_Mo g a_t t tL)) [(0, .ref (a_t 0)), (1, .int x1)] 0 [] := by
  obtain ⟨hx, hb, hr, hml, hown, htb, hlocks, hA, hAA, hG⟩ := id hC
  have hK := hG.1
  intro t tL x1 res h H locs ls hP hD hS hl
  rw [Mo_printWord] at h
  refine lv_iload_n hx hb d_Mo_printWord_0 rfl (lv_at hl 1 rfl) ?_
  refine lv_iconst (v := 3) hx hb d_Mo_printWord_1 (by decide) ?_
  refine lv_icmp_eq (tgt := 32) hx hb d_Mo_printWord_2 (by decide) (fun c9 => ?_) (fun c9 => ?_)
  · replace h := (if_pos c9).symm.trans h
    cases h
    exact W.vret hx hb hr (fun t ht hW => ⟨⟨(), rfl, trivial, by rw [ht]; exact hP, hD⟩, hS.F ht⟩) hS.2.2 d_Mo_printWord_32
  · replace h := (if_neg c9).symm.trans h
    refine lv_aload_n hx hb d_Mo_printWord_5 rfl (lv_at hl 0 rfl) ?_
    obtain ⟨r10, hr10, h⟩ := Option.bind_eq_some_iff.mp h
    refine cl_V (wr := []) [0, 1, 2, 3, 4, 5, 6, 7, 8, 9, 10, 11, 12, 13, 14, 15, 16, 17, 18, 19, 20, 21, 22, 23, 24, 25, 26, 27, 28, 29, 30, 31, 32] [] rfl rfl rfl (by decide) hP hD hS hA (va_runV (As := []) (rest := []) ⟨hx, hb, hml, hown, htb⟩ (c_Mo_space l g F a_t t tL _ hr10 H.size) (cw_V htb mb_Mo_space (htb _ L_Mo_399) rfl rfl ⟨Nat.le_of_ble_eq_true rfl, Nat.le_of_ble_eq_true rfl⟩) (pre_V (va_recv hK hP (ci := 8) (q0 := 0) rfl rfl) (pre_S [0, 1, 2, 3, 4, 5, 6, 7, 8, 9, 10, 11, 12, 13, 14, 15, 16, 17, 18, 19, 20, 21, 22, 23, 24, 25, 26, 27, 28, 29, 30, 31, 32] rfl rfl hP hD hS hA hAA hG)) rfl rfl hl.1 rfl (lv_room (Nat.le_of_ble_eq_true rfl)) d_Mo_printWord_6 ⟨Nat.zero_le _, Nat.zero_le _⟩) (fun H locs hP hD hS => ?_)
    have hP : va_P (gD g) vwCl ((pic_Mo g a_t r10.1 r10.2)) H := hP.sub [0, 1, 2, 3, 4, 5, 6, 7, 8, 9, 10, 11, 12, 13, 14, 15, 16, 17, 18, 19, 20, 21, 22, 23, 24, 25, 26, 27, 28, 29, 30, 31, 32] rfl
    have hD : va_D A ((pic_Mo g a_t r10.1 r10.2)) := hD.sub [0, 1, 2, 3, 4, 5, 6, 7, 8, 9, 10, 11, 12, 13, 14, 15, 16, 17, 18, 19, 20, 21, 22, 23, 24, 25, 26, 27, 28, 29, 30, 31, 32] rfl rfl
    refine lv_iload_n hx hb d_Mo_printWord_9 rfl (lv_at hl 1 rfl) ?_
    refine lv_iconst (v := 2) hx hb d_Mo_printWord_10 (by decide) ?_
    refine lv_icmp_ne (tgt := 20) hx hb d_Mo_printWord_11 (by decide) (fun c11 => ?_) (fun c11 => ?_)
    · replace h := (if_neg c11).symm.trans h
      exact k_Mo_printWord_20 hC _ _ _ h _ _ _ hP hD hS (lv_sub hl [0] rfl)
    · replace h := (if_pos c11).symm.trans h
      refine lv_aload_n hx hb d_Mo_printWord_14 rfl (lv_at hl 0 rfl) ?_
      refine lv_bipush (v := 120) hx hb d_Mo_printWord_15 (by decide) ?_
      obtain ⟨r12, hr12, h⟩ := Option.bind_eq_some_iff.mp h
      refine cl_V (wr := []) [0, 1, 2, 3, 4, 5, 6, 7, 8, 9, 10, 11, 12, 13, 14, 15, 16, 17, 18, 19, 20, 21, 22, 23, 24, 25, 26, 27, 28, 29, 30, 31, 32] [] rfl rfl rfl (by decide) hP hD hS hA (va_runV (As := [.int (120 : Int32)]) (rest := []) ⟨hx, hb, hml, hown, htb⟩ (c_Mo_put l g F a_t r10.1 r10.2 (120 : Int32) _ hr12 H.size) (cw_V htb mb_Mo_put (htb _ L_Mo_396) rfl rfl ⟨Nat.le_of_ble_eq_true rfl, Nat.le_of_ble_eq_true rfl⟩) (pre_V (va_recv hK hP (ci := 8) (q0 := 0) rfl rfl) (pre_S [0, 1, 2, 3, 4, 5, 6, 7, 8, 9, 10, 11, 12, 13, 14, 15, 16, 17, 18, 19, 20, 21, 22, 23, 24, 25, 26, 27, 28, 29, 30, 31, 32] rfl rfl hP hD hS hA hAA hG)) rfl rfl hl.1 rfl (lv_room (Nat.le_of_ble_eq_true rfl)) d_Mo_printWord_17 ⟨Nat.zero_le _, Nat.zero_le _⟩) (fun H locs hP hD hS => ?_)
      have hP : va_P (gD g) vwCl ((pic_Mo g a_t r12.1 r12.2)) H := hP.sub [0, 1, 2, 3, 4, 5, 6, 7, 8, 9, 10, 11, 12, 13, 14, 15, 16, 17, 18, 19, 20, 21, 22, 23, 24, 25, 26, 27, 28, 29, 30, 31, 32] rfl
      have hD : va_D A ((pic_Mo g a_t r12.1 r12.2)) := hD.sub [0, 1, 2, 3, 4, 5, 6, 7, 8, 9, 10, 11, 12, 13, 14, 15, 16, 17, 18, 19, 20, 21, 22, 23, 24, 25, 26, 27, 28, 29, 30, 31, 32] rfl rfl
      exact k_Mo_printWord_20 hC _ _ _ h _ _ _ hP hD hS (lv_sub hl [0] rfl)
theorem c_Mo_printWord (l : Launch) (g : Gz) (F : Nat) (a_t : Nat → Nat) (t : StI) (tL : StL) (x1 : Int32) (res : StI × StL) (h : Mo_printWord F t tL x1 = some res) : ∀ sz : Nat, Met l y_Mo_printWord (.code y_Mo_printWord prog_10_method_59_code 2 none :: TBL) rm_Mo_printWord (va_Pc [.ref (a_t 0), .int x1] (Pre0 g ((pic_Mo g a_t t tL)) sz)) (EV g ((pic_Mo g a_t res.1 res.2)) (va_A ((pic_Mo g a_t t tL)) sz)) 0 0 (va_A ((pic_Mo g a_t t tL)) sz) :=
  ct_w (Qc := fun A => EV g ((pic_Mo g a_t res.1 res.2)) A) (by decide) (Nat.le_of_ble_eq_true rfl) (fun p e s m args below meth c A hC => k_Mo_printWord hC t tL x1 res h)
def Mo_print_33 (F : Nat) : Nat → StI → StL → Option (Int32 × StI × StL)
  | 0, _, _ => none
  | n + 1, t, tL => if (t 40 0) ≤ 0 then some ((t 46 0), t, tL) else letS (va_up t 40 (fun _ => ((t 40 0) - (1 : Int32)))) fun t_19 => if (t_19 40 0) < 0 ∨ 2000 ≤ (t_19 40 0).toNatClampNeg then none else if ((t_19 41) (t_19 40 0).toNatClampNeg) = 0 then if (t_19 40 0) < 0 ∨ 2000 ≤ (t_19 40 0).toNatClampNeg then none else if (t_19 40 0) < 0 ∨ 2000 ≤ (t_19 40 0).toNatClampNeg then none else (Mo_printNode F t_19 tL ((t_19 42) (t_19 40 0).toNatClampNeg) ((t_19 43) (t_19 40 0).toNatClampNeg)).bind fun r29 => Mo_print_33 F n r29.1 r29.2 else if (t_19 40 0) < 0 ∨ 2000 ≤ (t_19 40 0).toNatClampNeg then none else if ((t_19 41) (t_19 40 0).toNatClampNeg) = (1 : Int32) then if (t_19 40 0) < 0 ∨ 2000 ≤ (t_19 40 0).toNatClampNeg then none else (Mo_printWord F t_19 tL ((t_19 42) (t_19 40 0).toNatClampNeg)).bind fun r26 => Mo_print_33 F n r26.1 r26.2 else (Mo_put F t_19 tL (41 : Int32)).bind fun r24 => Mo_print_33 F n r24.1 r24.2
def Mo_print (F : Nat) (t : StI) (tL : StL) : Option (Int32 × StI × StL) := letS (va_up t 0 (fun _ => (0 : Int32))) fun t_30 => letS (va_up t_30 46 (fun _ => (0 : Int32))) fun t_31 => letS (va_up t_31 40 (fun _ => (0 : Int32))) fun t_32 => if (t_32 31 0) = (-1 : Int32) then Mo_print_33 F F t_32 tL else (Mo_plan F t_32 tL (0 : Int32) (t_32 31 0) (1 : Int32)).bind fun r34 => Mo_print_33 F F r34.1 r34.2
set_option maxHeartbeats 4000000 in
set_option maxRecDepth 100000 in
theorem k_Mo_print_33 {p : Program} {l : Launch} {e : Env} {s : State} {m : MethodId} {args : Array Value} {below : List Frame} {meth : Method} {c : Code} {g : Gz} {A : Nat → Prop} {F : Nat} {a_t : Nat → Nat} (hC : Cx prog_10_method_60_code 1 (some .int) R_Mo p s m args meth c g A A) : ∀ (n : Nat) (t : StI) (tL : StL) (res : Int32 × StI × StL), Mo_print_33 F n t tL = some res → Go p l e rm_Mo_print s m args below meth c g A A 1 (MQ below (EI g ((pic_Mo g a_t res.2.1 res.2.2)) res.1 A) args s 0 0 A) ((pic_Mo g a_t t tL)) [(0, .ref (a_t 0))] 33 [] := by
  obtain ⟨hx, hb, hr, hml, hown, htb, hlocks, hA, hAA, hG⟩ := id hC
  have hK := hG.1
  intro n
  induction n with
  | zero => intro t tL res h; rw [Mo_print_33] at h; cases h
  | succ n ih =>
    intro t tL res h H locs ls hP hD hS hl
    rw [Mo_print_33] at h
    refine lv_aload_n hx hb d_Mo_print_33 rfl (lv_at hl 0 rfl) ?_
    refine va_get (D := gD g) (ci := 8) (v := .int (t 40 0)) (C := R_Mo) (T := T_Mo) (N := 64) hx hb htb in_Mo hown hK hP 0 rfl rfl 40 (by decide) (htb _ L_Mo_380) (fun _ h9 => h9) rfl d_Mo_print_34 ?_
    refine lv_if_le (tgt := 125) hx hb d_Mo_print_37 (by decide) (fun c18 => ?_) (fun c18 => ?_)
    · replace h := (if_pos c18).symm.trans h
      refine lv_aload_n hx hb d_Mo_print_125 rfl (lv_at hl 0 rfl) ?_
      refine va_get (D := gD g) (ci := 8) (v := .int (t 46 0)) (C := R_Mo) (T := T_Mo) (N := 64) hx hb htb in_Mo hown hK hP 0 rfl rfl 46 (by decide) (htb _ L_Mo_393) (fun _ h9 => h9) rfl d_Mo_print_126 ?_
      cases h
      exact W.iret hx hb hr (fun t ht hW => ⟨⟨_, (), rfl, rfl, by rw [ht]; exact hP, hD⟩, hS.F ht⟩) hS.2.2 d_Mo_print_129
    · replace h := (if_neg c18).symm.trans h
      refine lv_aload_n hx hb d_Mo_print_40 rfl (lv_at hl 0 rfl) ?_
      refine lv_dup hx hb d_Mo_print_41 rfl ?_
      refine va_get (D := gD g) (ci := 8) (v := .int (t 40 0)) (C := R_Mo) (T := T_Mo) (N := 64) hx hb htb in_Mo hown hK hP 0 rfl rfl 40 (by decide) (htb _ L_Mo_380) (fun _ h9 => h9) rfl d_Mo_print_42 ?_
      refine lv_iconst (v := 1) hx hb d_Mo_print_45 (by decide) ?_
      refine lv_isub hx hb d_Mo_print_46 ?_
      refine va_put (D := gD g) (ci := 8) (v := .int ((t 40 0) - (1 : Int32))) (ty := .int) (C := R_Mo) (T := T_Mo) (N := 64) hx hb htb in_Mo ty_Mo ty_Mo_ok nm_Mo hown hK hP hD hS 0 rfl rfl 40 (by decide) (htb _ L_Mo_380) (fun _ h9 => h9) rfl (by decide +kernel) rfl rfl (Nat.le_of_ble_eq_true rfl) d_Mo_print_47 (fun H locs hP hD hS => ?_)
      obtain ⟨t_19, et_19, h⟩ := letS_el h
      have hP : va_P (gD g) vwCl ((pic_Mo g a_t t_19 tL)) H := by rw [et_19]; exact hP
      have hD : va_D A ((pic_Mo g a_t t_19 tL)) := by rw [et_19]; exact hD
      refine lv_aload_n hx hb d_Mo_print_50 rfl (lv_at hl 0 rfl) ?_
      refine va_get (D := gD g) (ci := 8) (v := .ref (a_t 42)) (C := R_Mo) (T := T_Mo) (N := 64) hx hb htb in_Mo hown hK hP 0 rfl rfl 41 (by decide) (htb _ L_Mo_98) (fun _ h9 => h9) rfl d_Mo_print_51 ?_
      refine lv_aload_n hx hb d_Mo_print_54 rfl (lv_at hl 0 rfl) ?_
      refine va_get (D := gD g) (ci := 8) (v := .int (t_19 40 0)) (C := R_Mo) (T := T_Mo) (N := 64) hx hb htb in_Mo hown hK hP 0 rfl rfl 40 (by decide) (htb _ L_Mo_380) (fun _ h9 => h9) rfl d_Mo_print_55 ?_
      by_cases c20 : ((t_19 40 0) < 0 ∨ 2000 ≤ (t_19 40 0).toNatClampNeg)
      · replace h := (if_pos c20).symm.trans h
        cases h
      replace h := (if_neg c20).symm.trans h
      refine va_iald hx hb hK hP 19 0 rfl rfl c20 d_Mo_print_58 ?_
      refine lv_if_ne (tgt := 87) hx hb d_Mo_print_59 (by decide) (fun c21 => ?_) (fun c21 => ?_)
      · replace h := (if_neg c21).symm.trans h
        refine lv_aload_n hx hb d_Mo_print_87 rfl (lv_at hl 0 rfl) ?_
        refine va_get (D := gD g) (ci := 8) (v := .ref (a_t 42)) (C := R_Mo) (T := T_Mo) (N := 64) hx hb htb in_Mo hown hK hP 0 rfl rfl 41 (by decide) (htb _ L_Mo_98) (fun _ h9 => h9) rfl d_Mo_print_88 ?_
        refine lv_aload_n hx hb d_Mo_print_91 rfl (lv_at hl 0 rfl) ?_
        refine va_get (D := gD g) (ci := 8) (v := .int (t_19 40 0)) (C := R_Mo) (T := T_Mo) (N := 64) hx hb htb in_Mo hown hK hP 0 rfl rfl 40 (by decide) (htb _ L_Mo_380) (fun _ h9 => h9) rfl d_Mo_print_92 ?_
        by_cases c22 : ((t_19 40 0) < 0 ∨ 2000 ≤ (t_19 40 0).toNatClampNeg)
        · replace h := (if_pos c22).symm.trans h
          cases h
        replace h := (if_neg c22).symm.trans h
        refine va_iald hx hb hK hP 19 0 rfl rfl c22 d_Mo_print_95 ?_
        refine lv_iconst (v := 1) hx hb d_Mo_print_96 (by decide) ?_
        refine lv_icmp_ne (tgt := 116) hx hb d_Mo_print_97 (by decide) (fun c23 => ?_) (fun c23 => ?_)
        · replace h := (if_neg c23).symm.trans h
          refine lv_aload_n hx hb d_Mo_print_116 rfl (lv_at hl 0 rfl) ?_
          refine lv_bipush (v := 41) hx hb d_Mo_print_117 (by decide) ?_
          obtain ⟨r24, hr24, h⟩ := Option.bind_eq_some_iff.mp h
          refine cl_V (wr := []) [0, 1, 2, 3, 4, 5, 6, 7, 8, 9, 10, 11, 12, 13, 14, 15, 16, 17, 18, 19, 20, 21, 22, 23, 24, 25, 26, 27, 28, 29, 30, 31, 32] [] rfl rfl rfl (by decide) hP hD hS hA (va_runV (As := [.int (41 : Int32)]) (rest := []) ⟨hx, hb, hml, hown, htb⟩ (c_Mo_put l g F a_t t_19 tL (41 : Int32) _ hr24 H.size) (cw_V htb mb_Mo_put (htb _ L_Mo_396) rfl rfl ⟨Nat.le_of_ble_eq_true rfl, Nat.le_of_ble_eq_true rfl⟩) (pre_V (va_recv hK hP (ci := 8) (q0 := 0) rfl rfl) (pre_S [0, 1, 2, 3, 4, 5, 6, 7, 8, 9, 10, 11, 12, 13, 14, 15, 16, 17, 18, 19, 20, 21, 22, 23, 24, 25, 26, 27, 28, 29, 30, 31, 32] rfl rfl hP hD hS hA hAA hG)) rfl rfl hl.1 rfl (lv_room (Nat.le_of_ble_eq_true rfl)) d_Mo_print_119 ⟨Nat.zero_le _, Nat.zero_le _⟩) (fun H locs hP hD hS => ?_)
          have hP : va_P (gD g) vwCl ((pic_Mo g a_t r24.1 r24.2)) H := hP.sub [0, 1, 2, 3, 4, 5, 6, 7, 8, 9, 10, 11, 12, 13, 14, 15, 16, 17, 18, 19, 20, 21, 22, 23, 24, 25, 26, 27, 28, 29, 30, 31, 32] rfl
          have hD : va_D A ((pic_Mo g a_t r24.1 r24.2)) := hD.sub [0, 1, 2, 3, 4, 5, 6, 7, 8, 9, 10, 11, 12, 13, 14, 15, 16, 17, 18, 19, 20, 21, 22, 23, 24, 25, 26, 27, 28, 29, 30, 31, 32] rfl rfl
          refine lv_goto (tgt := 33) hx hb d_Mo_print_122 (by decide) ?_
          exact ih _ _ _ h _ _ _ hP hD hS (lv_sub hl [0] rfl)
        · replace h := (if_pos c23).symm.trans h
          refine lv_aload_n hx hb d_Mo_print_100 rfl (lv_at hl 0 rfl) ?_
          refine lv_aload_n hx hb d_Mo_print_101 rfl (lv_at hl 0 rfl) ?_
          refine va_get (D := gD g) (ci := 8) (v := .ref (a_t 43)) (C := R_Mo) (T := T_Mo) (N := 64) hx hb htb in_Mo hown hK hP 0 rfl rfl 42 (by decide) (htb _ L_Mo_101) (fun _ h9 => h9) rfl d_Mo_print_102 ?_
          refine lv_aload_n hx hb d_Mo_print_105 rfl (lv_at hl 0 rfl) ?_
          refine va_get (D := gD g) (ci := 8) (v := .int (t_19 40 0)) (C := R_Mo) (T := T_Mo) (N := 64) hx hb htb in_Mo hown hK hP 0 rfl rfl 40 (by decide) (htb _ L_Mo_380) (fun _ h9 => h9) rfl d_Mo_print_106 ?_
          by_cases c25 : ((t_19 40 0) < 0 ∨ 2000 ≤ (t_19 40 0).toNatClampNeg)
          · replace h := (if_pos c25).symm.trans h
            cases h
          replace h := (if_neg c25).symm.trans h
          refine va_iald hx hb hK hP 20 0 rfl rfl c25 d_Mo_print_109 ?_
          obtain ⟨r26, hr26, h⟩ := Option.bind_eq_some_iff.mp h
          refine cl_V (wr := []) [0, 1, 2, 3, 4, 5, 6, 7, 8, 9, 10, 11, 12, 13, 14, 15, 16, 17, 18, 19, 20, 21, 22, 23, 24, 25, 26, 27, 28, 29, 30, 31, 32] [] rfl rfl rfl (by decide) hP hD hS hA (va_runV (As := [.int ((t_19 42) (t_19 40 0).toNatClampNeg)]) (rest := []) ⟨hx, hb, hml, hown, htb⟩ (c_Mo_printWord l g F a_t t_19 tL ((t_19 42) (t_19 40 0).toNatClampNeg) _ hr26 H.size) (cw_V htb mb_Mo_printWord (htb _ L_Mo_412) rfl rfl ⟨Nat.le_of_ble_eq_true rfl, Nat.le_of_ble_eq_true rfl⟩) (pre_V (va_recv hK hP (ci := 8) (q0 := 0) rfl rfl) (pre_S [0, 1, 2, 3, 4, 5, 6, 7, 8, 9, 10, 11, 12, 13, 14, 15, 16, 17, 18, 19, 20, 21, 22, 23, 24, 25, 26, 27, 28, 29, 30, 31, 32] rfl rfl hP hD hS hA hAA hG)) rfl rfl hl.1 rfl (lv_room (Nat.le_of_ble_eq_true rfl)) d_Mo_print_110 ⟨Nat.zero_le _, Nat.zero_le _⟩) (fun H locs hP hD hS => ?_)
          have hP : va_P (gD g) vwCl ((pic_Mo g a_t r26.1 r26.2)) H := hP.sub [0, 1, 2, 3, 4, 5, 6, 7, 8, 9, 10, 11, 12, 13, 14, 15, 16, 17, 18, 19, 20, 21, 22, 23, 24, 25, 26, 27, 28, 29, 30, 31, 32] rfl
          have hD : va_D A ((pic_Mo g a_t r26.1 r26.2)) := hD.sub [0, 1, 2, 3, 4, 5, 6, 7, 8, 9, 10, 11, 12, 13, 14, 15, 16, 17, 18, 19, 20, 21, 22, 23, 24, 25, 26, 27, 28, 29, 30, 31, 32] rfl rfl
          refine lv_goto (tgt := 33) hx hb d_Mo_print_113 (by decide) ?_
          exact ih _ _ _ h _ _ _ hP hD hS (lv_sub hl [0] rfl)
      · replace h := (if_pos c21).symm.trans h
        refine lv_aload_n hx hb d_Mo_print_62 rfl (lv_at hl 0 rfl) ?_
        refine lv_aload_n hx hb d_Mo_print_63 rfl (lv_at hl 0 rfl) ?_
        refine va_get (D := gD g) (ci := 8) (v := .ref (a_t 43)) (C := R_Mo) (T := T_Mo) (N := 64) hx hb htb in_Mo hown hK hP 0 rfl rfl 42 (by decide) (htb _ L_Mo_101) (fun _ h9 => h9) rfl d_Mo_print_64 ?_
        refine lv_aload_n hx hb d_Mo_print_67 rfl (lv_at hl 0 rfl) ?_
        refine va_get (D := gD g) (ci := 8) (v := .int (t_19 40 0)) (C := R_Mo) (T := T_Mo) (N := 64) hx hb htb in_Mo hown hK hP 0 rfl rfl 40 (by decide) (htb _ L_Mo_380) (fun _ h9 => h9) rfl d_Mo_print_68 ?_
        by_cases c27 : ((t_19 40 0) < 0 ∨ 2000 ≤ (t_19 40 0).toNatClampNeg)
        · replace h := (if_pos c27).symm.trans h
          cases h
        replace h := (if_neg c27).symm.trans h
        refine va_iald hx hb hK hP 20 0 rfl rfl c27 d_Mo_print_71 ?_
        refine lv_aload_n hx hb d_Mo_print_72 rfl (lv_at hl 0 rfl) ?_
        refine va_get (D := gD g) (ci := 8) (v := .ref (a_t 44)) (C := R_Mo) (T := T_Mo) (N := 64) hx hb htb in_Mo hown hK hP 0 rfl rfl 43 (by decide) (htb _ L_Mo_104) (fun _ h9 => h9) rfl d_Mo_print_73 ?_
        refine lv_aload_n hx hb d_Mo_print_76 rfl (lv_at hl 0 rfl) ?_
        refine va_get (D := gD g) (ci := 8) (v := .int (t_19 40 0)) (C := R_Mo) (T := T_Mo) (N := 64) hx hb htb in_Mo hown hK hP 0 rfl rfl 40 (by decide) (htb _ L_Mo_380) (fun _ h9 => h9) rfl d_Mo_print_77 ?_
        by_cases c28 : ((t_19 40 0) < 0 ∨ 2000 ≤ (t_19 40 0).toNatClampNeg)
        · replace h := (if_pos c28).symm.trans h
          cases h
        replace h := (if_neg c28).symm.trans h
        refine va_iald hx hb hK hP 21 0 rfl rfl c28 d_Mo_print_80 ?_
        obtain ⟨r29, hr29, h⟩ := Option.bind_eq_some_iff.mp h
        refine cl_V (wr := []) [0, 1, 2, 3, 4, 5, 6, 7, 8, 9, 10, 11, 12, 13, 14, 15, 16, 17, 18, 19, 20, 21, 22, 23, 24, 25, 26, 27, 28, 29, 30, 31, 32] [] rfl rfl rfl (by decide) hP hD hS hA (va_runV (As := [.int ((t_19 42) (t_19 40 0).toNatClampNeg), .int ((t_19 43) (t_19 40 0).toNatClampNeg)]) (rest := []) ⟨hx, hb, hml, hown, htb⟩ (c_Mo_printNode l g F a_t t_19 tL ((t_19 42) (t_19 40 0).toNatClampNeg) ((t_19 43) (t_19 40 0).toNatClampNeg) _ hr29 H.size) (cw_V htb mb_Mo_printNode (htb _ L_Mo_409) rfl rfl ⟨Nat.le_of_ble_eq_true rfl, Nat.le_of_ble_eq_true rfl⟩) (pre_V (va_recv hK hP (ci := 8) (q0 := 0) rfl rfl) (pre_S [0, 1, 2, 3, 4, 5, 6, 7, 8, 9, 10, 11, 12, 13, 14, 15, 16, 17, 18, 19, 20, 21, 22, 23, 24, 25, 26, 27, 28, 29, 30, 31, 32] rfl rfl hP hD hS hA hAA hG)) rfl rfl hl.1 rfl (lv_room (Nat.le_of_ble_eq_true rfl)) d_Mo_print_81 ⟨Nat.zero_le _, Nat.zero_le _⟩) (fun H locs hP hD hS => ?_)
        have hP : va_P (gD g) vwCl ((pic_Mo g a_t r29.1 r29.2)) H := hP.sub [0, 1, 2, 3, 4, 5, 6, 7, 8, 9, 10, 11, 12, 13, 14, 15, 16, 17, 18, 19, 20, 21, 22, 23, 24, 25, 26, 27, 28, 29, 30, 31, 32] rfl
        have hD : va_D A ((pic_Mo g a_t r29.1 r29.2)) := hD.sub [0, 1, 2, 3, 4, 5, 6, 7, 8, 9, 10, 11, 12, 13, 14, 15, 16, 17, 18, 19, 20, 21, 22, 23, 24, 25, 26, 27, 28, 29, 30, 31, 32] rfl rfl
        refine lv_goto (tgt := 33) hx hb d_Mo_print_84 (by decide) ?_
        exact ih _ _ _ h _ _ _ hP hD hS (lv_sub hl [0] rfl)
set_option maxHeartbeats 4000000 in
set_option maxRecDepth 100000 in
theorem k_Mo_print {p : Program} {l : Launch} {e : Env} {s : State} {m : MethodId} {args : Array Value} {below : List Frame} {meth : Method} {c : Code} {g : Gz} {A : Nat → Prop} {F : Nat} {a_t : Nat → Nat} (hC : Cx prog_10_method_60_code 1 (some .int) R_Mo p s m args meth c g A A) : ∀ (t : StI) (tL : StL) (res : Int32 × StI × StL), Mo_print F t tL = some res → Go p l e rm_Mo_print s m args below meth c g A A 1 (MQ below (EI g ((pic_Mo g a_t res.2.1 res.2.2)) res.1 A) args s 0 0 A) ((pic_Mo g a_t t tL)) [(0, .ref (a_t 0))] 0 [] := by
  obtain ⟨hx, hb, hr, hml, hown, htb, hlocks, hA, hAA, hG⟩ := id hC
  have hK := hG.1
  intro t tL res h H locs ls hP hD hS hl
  rw [Mo_print] at h
  refine lv_aload_n hx hb d_Mo_print_0 rfl (lv_at hl 0 rfl) ?_
  refine lv_iconst (v := 0) hx hb d_Mo_print_1 (by decide) ?_
  refine va_put (D := gD g) (ci := 8) (v := .int (0 : Int32)) (ty := .int) (C := R_Mo) (T := T_Mo) (N := 64) hx hb htb in_Mo ty_Mo ty_Mo_ok nm_Mo hown hK hP hD hS 0 rfl rfl 0 (by decide) (htb _ L_Mo_144) (fun _ h9 => h9) rfl (by decide +kernel) rfl rfl (Nat.le_of_ble_eq_true rfl) d_Mo_print_2 (fun H locs hP hD hS => ?_)
  obtain ⟨t_30, et_30, h⟩ := letS_el h
  have hP : va_P (gD g) vwCl ((pic_Mo g a_t t_30 tL)) H := by rw [et_30]; exact hP
  have hD : va_D A ((pic_Mo g a_t t_30 tL)) := by rw [et_30]; exact hD
  refine lv_aload_n hx hb d_Mo_print_5 rfl (lv_at hl 0 rfl) ?_
  refine lv_iconst (v := 0) hx hb d_Mo_print_6 (by decide) ?_
  refine va_put (D := gD g) (ci := 8) (v := .int (0 : Int32)) (ty := .int) (C := R_Mo) (T := T_Mo) (N := 64) hx hb htb in_Mo ty_Mo ty_Mo_ok nm_Mo hown hK hP hD hS 0 rfl rfl 46 (by decide) (htb _ L_Mo_393) (fun _ h9 => h9) rfl (by decide +kernel) rfl rfl (Nat.le_of_ble_eq_true rfl) d_Mo_print_7 (fun H locs hP hD hS => ?_)
  obtain ⟨t_31, et_31, h⟩ := letS_el h
  have hP : va_P (gD g) vwCl ((pic_Mo g a_t t_31 tL)) H := by rw [et_31]; exact hP
  have hD : va_D A ((pic_Mo g a_t t_31 tL)) := by rw [et_31]; exact hD
  refine lv_aload_n hx hb d_Mo_print_10 rfl (lv_at hl 0 rfl) ?_
  refine lv_iconst (v := 0) hx hb d_Mo_print_11 (by decide) ?_
  refine va_put (D := gD g) (ci := 8) (v := .int (0 : Int32)) (ty := .int) (C := R_Mo) (T := T_Mo) (N := 64) hx hb htb in_Mo ty_Mo ty_Mo_ok nm_Mo hown hK hP hD hS 0 rfl rfl 40 (by decide) (htb _ L_Mo_380) (fun _ h9 => h9) rfl (by decide +kernel) rfl rfl (Nat.le_of_ble_eq_true rfl) d_Mo_print_12 (fun H locs hP hD hS => ?_)
  obtain ⟨t_32, et_32, h⟩ := letS_el h
  have hP : va_P (gD g) vwCl ((pic_Mo g a_t t_32 tL)) H := by rw [et_32]; exact hP
  have hD : va_D A ((pic_Mo g a_t t_32 tL)) := by rw [et_32]; exact hD
  refine lv_aload_n hx hb d_Mo_print_15 rfl (lv_at hl 0 rfl) ?_
  refine va_get (D := gD g) (ci := 8) (v := .int (t_32 31 0)) (C := R_Mo) (T := T_Mo) (N := 64) hx hb htb in_Mo hown hK hP 0 rfl rfl 31 (by decide) (htb _ L_Mo_141) (fun _ h9 => h9) rfl d_Mo_print_16 ?_
  refine lv_iconst (v := -1) hx hb d_Mo_print_19 (by decide) ?_
  refine lv_icmp_eq (tgt := 33) hx hb d_Mo_print_20 (by decide) (fun c33 => ?_) (fun c33 => ?_)
  · replace h := (if_pos c33).symm.trans h
    exact k_Mo_print_33 hC F _ _ _ h _ _ _ hP hD hS (lv_sub hl [0] rfl)
  · replace h := (if_neg c33).symm.trans h
    refine lv_aload_n hx hb d_Mo_print_23 rfl (lv_at hl 0 rfl) ?_
    refine lv_iconst (v := 0) hx hb d_Mo_print_24 (by decide) ?_
    refine lv_aload_n hx hb d_Mo_print_25 rfl (lv_at hl 0 rfl) ?_
    refine va_get (D := gD g) (ci := 8) (v := .int (t_32 31 0)) (C := R_Mo) (T := T_Mo) (N := 64) hx hb htb in_Mo hown hK hP 0 rfl rfl 31 (by decide) (htb _ L_Mo_141) (fun _ h9 => h9) rfl d_Mo_print_26 ?_
    refine lv_iconst (v := 1) hx hb d_Mo_print_29 (by decide) ?_
    obtain ⟨r34, hr34, h⟩ := Option.bind_eq_some_iff.mp h
    refine cl_V (wr := []) [0, 1, 2, 3, 4, 5, 6, 7, 8, 9, 10, 11, 12, 13, 14, 15, 16, 17, 18, 19, 20, 21, 22, 23, 24, 25, 26, 27, 28, 29, 30, 31, 32] [] rfl rfl rfl (by decide) hP hD hS hA (va_runV (As := [.int (0 : Int32), .int (t_32 31 0), .int (1 : Int32)]) (rest := []) ⟨hx, hb, hml, hown, htb⟩ (c_Mo_plan l g F a_t t_32 tL (0 : Int32) (t_32 31 0) (1 : Int32) _ hr34 H.size) (cw_V htb mb_Mo_plan (htb _ L_Mo_386) rfl rfl ⟨Nat.le_of_ble_eq_true rfl, Nat.le_of_ble_eq_true rfl⟩) (pre_V (va_recv hK hP (ci := 8) (q0 := 0) rfl rfl) (pre_S [0, 1, 2, 3, 4, 5, 6, 7, 8, 9, 10, 11, 12, 13, 14, 15, 16, 17, 18, 19, 20, 21, 22, 23, 24, 25, 26, 27, 28, 29, 30, 31, 32] rfl rfl hP hD hS hA hAA hG)) rfl rfl hl.1 rfl (lv_room (Nat.le_of_ble_eq_true rfl)) d_Mo_print_30 ⟨Nat.zero_le _, Nat.zero_le _⟩) (fun H locs hP hD hS => ?_)
    have hP : va_P (gD g) vwCl ((pic_Mo g a_t r34.1 r34.2)) H := hP.sub [0, 1, 2, 3, 4, 5, 6, 7, 8, 9, 10, 11, 12, 13, 14, 15, 16, 17, 18, 19, 20, 21, 22, 23, 24, 25, 26, 27, 28, 29, 30, 31, 32] rfl
    have hD : va_D A ((pic_Mo g a_t r34.1 r34.2)) := hD.sub [0, 1, 2, 3, 4, 5, 6, 7, 8, 9, 10, 11, 12, 13, 14, 15, 16, 17, 18, 19, 20, 21, 22, 23, 24, 25, 26, 27, 28, 29, 30, 31, 32] rfl rfl
    exact k_Mo_print_33 hC F _ _ _ h _ _ _ hP hD hS (lv_sub hl [0] rfl)
theorem c_Mo_print (l : Launch) (g : Gz) (F : Nat) (a_t : Nat → Nat) (t : StI) (tL : StL) (res : Int32 × StI × StL) (h : Mo_print F t tL = some res) : ∀ sz : Nat, Met l y_Mo_print (.code y_Mo_print prog_10_method_60_code 1 (some .int) :: TBL) rm_Mo_print (va_Pc [.ref (a_t 0)] (Pre0 g ((pic_Mo g a_t t tL)) sz)) (EI g ((pic_Mo g a_t res.2.1 res.2.2)) res.1 (va_A ((pic_Mo g a_t t tL)) sz)) 0 0 (va_A ((pic_Mo g a_t t tL)) sz) :=
  ct_w (Qc := fun A => EI g ((pic_Mo g a_t res.2.1 res.2.2)) res.1 A) (by decide) (Nat.le_of_ble_eq_true rfl) (fun p e s m args below meth c A hC => k_Mo_print hC t tL res h)
def Mo_printed (F : Nat) (t : StI) (tL : StL) (x1 : Int32) : Option (Int32 × StI × StL) := letS (va_up t 0 (fun _ => (0 : Int32))) fun t_5 => if x1 < 0 then some ((-1 : Int32), t_5, tL) else if (t_5 46 0) ≤ x1 then some ((-1 : Int32), t_5, tL) else if x1 < 0 ∨ 2000 ≤ x1.toNatClampNeg then none else some ((((t_5 47) x1.toNatClampNeg) &&& (255 : Int32)), t_5, tL)
set_option maxHeartbeats 4000000 in
set_option maxRecDepth 100000 in
theorem k_Mo_printed {p : Program} {l : Launch} {e : Env} {s : State} {m : MethodId} {args : Array Value} {below : List Frame} {meth : Method} {c : Code} {g : Gz} {A : Nat → Prop} {F : Nat} {a_t : Nat → Nat} (hC : Cx prog_10_method_61_code 2 (some .int) R_Mo p s m args meth c g A A) : ∀ (t : StI) (tL : StL) (x1 : Int32) (res : Int32 × StI × StL), Mo_printed F t tL x1 = some res → Go p l e rm_Mo_printed s m args below meth c g A A 2 (MQ below (EI g ((pic_Mo g a_t res.2.1 res.2.2)) res.1 A) args s 0 0 A) ((pic_Mo g a_t t tL)) [(0, .ref (a_t 0)), (1, .int x1)] 0 [] := by
  obtain ⟨hx, hb, hr, hml, hown, htb, hlocks, hA, hAA, hG⟩ := id hC
  have hK := hG.1
  intro t tL x1 res h H locs ls hP hD hS hl
  rw [Mo_printed] at h
  refine lv_aload_n hx hb d_Mo_printed_0 rfl (lv_at hl 0 rfl) ?_
  refine lv_iconst (v := 0) hx hb d_Mo_printed_1 (by decide) ?_
  refine va_put (D := gD g) (ci := 8) (v := .int (0 : Int32)) (ty := .int) (C := R_Mo) (T := T_Mo) (N := 64) hx hb htb in_Mo ty_Mo ty_Mo_ok nm_Mo hown hK hP hD hS 0 rfl rfl 0 (by decide) (htb _ L_Mo_144) (fun _ h9 => h9) rfl (by decide +kernel) rfl rfl (Nat.le_of_ble_eq_true rfl) d_Mo_printed_2 (fun H locs hP hD hS => ?_)
  obtain ⟨t_5, et_5, h⟩ := letS_el h
  have hP : va_P (gD g) vwCl ((pic_Mo g a_t t_5 tL)) H := by rw [et_5]; exact hP
  have hD : va_D A ((pic_Mo g a_t t_5 tL)) := by rw [et_5]; exact hD
  refine lv_iload_n hx hb d_Mo_printed_5 rfl (lv_at hl 1 rfl) ?_
  refine lv_if_lt (tgt := 30) hx hb d_Mo_printed_6 (by decide) (fun c6 => ?_) (fun c6 => ?_)
  · replace h := (if_pos c6).symm.trans h
    refine lv_iconst (v := -1) hx hb d_Mo_printed_30 (by decide) ?_
    cases h
    exact W.iret hx hb hr (fun t ht hW => ⟨⟨_, (), rfl, rfl, by rw [ht]; exact hP, hD⟩, hS.F ht⟩) hS.2.2 d_Mo_printed_31
  · replace h := (if_neg c6).symm.trans h
    refine lv_iload_n hx hb d_Mo_printed_9 rfl (lv_at hl 1 rfl) ?_
    refine lv_aload_n hx hb d_Mo_printed_10 rfl (lv_at hl 0 rfl) ?_
    refine va_get (D := gD g) (ci := 8) (v := .int (t_5 46 0)) (C := R_Mo) (T := T_Mo) (N := 64) hx hb htb in_Mo hown hK hP 0 rfl rfl 46 (by decide) (htb _ L_Mo_393) (fun _ h9 => h9) rfl d_Mo_printed_11 ?_
    refine lv_icmp_ge (tgt := 30) hx hb d_Mo_printed_14 (by decide) (fun c7 => ?_) (fun c7 => ?_)
    · replace h := (if_pos c7).symm.trans h
      refine lv_iconst (v := -1) hx hb d_Mo_printed_30 (by decide) ?_
      cases h
      exact W.iret hx hb hr (fun t ht hW => ⟨⟨_, (), rfl, rfl, by rw [ht]; exact hP, hD⟩, hS.F ht⟩) hS.2.2 d_Mo_printed_31
    · replace h := (if_neg c7).symm.trans h
      refine lv_aload_n hx hb d_Mo_printed_17 rfl (lv_at hl 0 rfl) ?_
      refine va_get (D := gD g) (ci := 8) (v := .ref (a_t 48)) (C := R_Mo) (T := T_Mo) (N := 64) hx hb htb in_Mo hown hK hP 0 rfl rfl 47 (by decide) (htb _ L_Mo_110) (fun _ h9 => h9) rfl d_Mo_printed_18 ?_
      refine lv_iload_n hx hb d_Mo_printed_21 rfl (lv_at hl 1 rfl) ?_
      by_cases c8 : (x1 < 0 ∨ 2000 ≤ x1.toNatClampNeg)
      · replace h := (if_pos c8).symm.trans h
        cases h
      replace h := (if_neg c8).symm.trans h
      refine va_bald hx hb hK hP 23 4 rfl rfl c8 d_Mo_printed_22 ?_
      refine lv_sipush (v := 255) hx hb d_Mo_printed_23 (by decide) ?_
      refine lv_iand hx hb d_Mo_printed_26 ?_
      refine lv_goto (tgt := 31) hx hb d_Mo_printed_27 (by decide) ?_
      cases h
      exact W.iret hx hb hr (fun t ht hW => ⟨⟨_, (), rfl, rfl, by rw [ht]; exact hP, hD⟩, hS.F ht⟩) hS.2.2 d_Mo_printed_31
theorem c_Mo_printed (l : Launch) (g : Gz) (F : Nat) (a_t : Nat → Nat) (t : StI) (tL : StL) (x1 : Int32) (res : Int32 × StI × StL) (h : Mo_printed F t tL x1 = some res) : ∀ sz : Nat, Met l y_Mo_printed (.code y_Mo_printed prog_10_method_61_code 2 (some .int) :: TBL) rm_Mo_printed (va_Pc [.ref (a_t 0), .int x1] (Pre0 g ((pic_Mo g a_t t tL)) sz)) (EI g ((pic_Mo g a_t res.2.1 res.2.2)) res.1 (va_A ((pic_Mo g a_t t tL)) sz)) 0 0 (va_A ((pic_Mo g a_t t tL)) sz) :=
  ct_w (Qc := fun A => EI g ((pic_Mo g a_t res.2.1 res.2.2)) res.1 A) (by decide) (Nat.le_of_ble_eq_true rfl) (fun p e s m args below meth c A hC => k_Mo_printed hC t tL x1 res h)
def Mo_addRow (F : Nat) (t : StI) (tL : StL) (x1 : Int32) (x2 : Int64) (x4 : Int64) : Option (StI × StL) := if ((t 48 0) - x1) = (200 : Int32) then letS (va_up t 51 (fun _ => (1 : Int32))) fun t_14 => some (t_14, tL) else if (t 48 0) < 0 ∨ 34000 ≤ (t 48 0).toNatClampNeg then none else letS (va_up tL 49 (vp_updL (tL 49) (t 48 0).toNatClampNeg x2)) fun t_9 => if (t 48 0) < 0 ∨ 34000 ≤ (t 48 0).toNatClampNeg then none else letS (va_up t_9 50 (vp_updL (t_9 50) (t 48 0).toNatClampNeg x4)) fun t_11 => letS (va_up t 48 (fun _ => ((t 48 0) + (1 : Int32)))) fun t_13 => some (t_13, t_11)
set_option maxHeartbeats 4000000 in
set_option maxRecDepth 100000 in
theorem k_Mo_addRow {p : Program} {l : Launch} {e : Env} {s : State} {m : MethodId} {args : Array Value} {below : List Frame} {meth : Method} {c : Code} {g : Gz} {A : Nat → Prop} {F : Nat} {a_t : Nat → Nat} (hC : Cx prog_10_method_62_code 6 none R_Mo p s m args meth c g A A) : ∀ (t : StI) (tL : StL) (x1 : Int32) (x2 : Int64) (x4 : Int64) (res : StI × StL), Mo_addRow F t tL x1 x2 x4 = some res → Go p l e rm_Mo_addRow s m args below meth c g A A 6 (MQ below (EV g ((pic_Mo g a_t res.1 res.2)) A) args s 0 0 A) ((pic_Mo g a_t t tL)) [(0, .ref (a_t 0)), (1, .int x1), (2, .long x2), (4, .long x4)] 0 [] := by
  obtain ⟨hx, hb, hr, hml, hown, htb, hlocks, hA, hAA, hG⟩ := id hC
  have hK := hG.1
  intro t tL x1 x2 x4 res h H locs ls hP hD hS hl
  rw [Mo_addRow] at h
  refine lv_aload_n hx hb d_Mo_addRow_0 rfl (lv_at hl 0 rfl) ?_
  refine va_get (D := gD g) (ci := 8) (v := .int (t 48 0)) (C := R_Mo) (T := T_Mo) (N := 64) hx hb htb in_Mo hown hK hP 0 rfl rfl 48 (by decide) (htb _ L_Mo_415) (fun _ h9 => h9) rfl d_Mo_addRow_1 ?_
  refine lv_iload_n hx hb d_Mo_addRow_4 rfl (lv_at hl 1 rfl) ?_
  refine lv_isub hx hb d_Mo_addRow_5 ?_
  refine lv_sipush (v := 200) hx hb d_Mo_addRow_6 (by decide) ?_
  refine lv_icmp_ne (tgt := 18) hx hb d_Mo_addRow_9 (by decide) (fun c8 => ?_) (fun c8 => ?_)
  · replace h := (if_neg c8).symm.trans h
    refine lv_aload_n hx hb d_Mo_addRow_18 rfl (lv_at hl 0 rfl) ?_
    refine va_get (D := gD g) (ci := 8) (v := .ref (a_t 50)) (C := R_Mo) (T := T_Mo) (N := 64) hx hb htb in_Mo hown hK hP 0 rfl rfl 49 (by decide) (htb _ L_Mo_114) (fun _ h9 => h9) rfl d_Mo_addRow_19 ?_
    refine lv_aload_n hx hb d_Mo_addRow_22 rfl (lv_at hl 0 rfl) ?_
    refine va_get (D := gD g) (ci := 8) (v := .int (t 48 0)) (C := R_Mo) (T := T_Mo) (N := 64) hx hb htb in_Mo hown hK hP 0 rfl rfl 48 (by decide) (htb _ L_Mo_415) (fun _ h9 => h9) rfl d_Mo_addRow_23 ?_
    refine lv_lload_n hx hb d_Mo_addRow_26 rfl (lv_at hl 2 rfl) ?_
    by_cases c10 : ((t 48 0) < 0 ∨ 34000 ≤ (t 48 0).toNatClampNeg)
    · replace h := (if_pos c10).symm.trans h
      cases h
    replace h := (if_neg c10).symm.trans h
    refine va_last hx hb hK hP hD hS 24 3 rfl rfl c10 d_Mo_addRow_27 (fun H locs hP hD hS => ?_)
    obtain ⟨t_9, et_9, h⟩ := letS_el h
    have hP : va_P (gD g) vwCl ((pic_Mo g a_t t t_9)) H := by rw [et_9]; exact hP
    have hD : va_D A ((pic_Mo g a_t t t_9)) := by rw [et_9]; exact hD
    refine lv_aload_n hx hb d_Mo_addRow_28 rfl (lv_at hl 0 rfl) ?_
    refine va_get (D := gD g) (ci := 8) (v := .ref (a_t 51)) (C := R_Mo) (T := T_Mo) (N := 64) hx hb htb in_Mo hown hK hP 0 rfl rfl 50 (by decide) (htb _ L_Mo_117) (fun _ h9 => h9) rfl d_Mo_addRow_29 ?_
    refine lv_aload_n hx hb d_Mo_addRow_32 rfl (lv_at hl 0 rfl) ?_
    refine va_get (D := gD g) (ci := 8) (v := .int (t 48 0)) (C := R_Mo) (T := T_Mo) (N := 64) hx hb htb in_Mo hown hK hP 0 rfl rfl 48 (by decide) (htb _ L_Mo_415) (fun _ h9 => h9) rfl d_Mo_addRow_33 ?_
    refine lv_lload hx hb d_Mo_addRow_36 (lv_at hl 3 rfl) ?_
    by_cases c12 : ((t 48 0) < 0 ∨ 34000 ≤ (t 48 0).toNatClampNeg)
    · replace h := (if_pos c12).symm.trans h
      cases h
    replace h := (if_neg c12).symm.trans h
    refine va_last hx hb hK hP hD hS 25 3 rfl rfl c12 d_Mo_addRow_38 (fun H locs hP hD hS => ?_)
    obtain ⟨t_11, et_11, h⟩ := letS_el h
    have hP : va_P (gD g) vwCl ((pic_Mo g a_t t t_11)) H := by rw [et_11]; exact hP
    have hD : va_D A ((pic_Mo g a_t t t_11)) := by rw [et_11]; exact hD
    refine lv_aload_n hx hb d_Mo_addRow_39 rfl (lv_at hl 0 rfl) ?_
    refine lv_dup hx hb d_Mo_addRow_40 rfl ?_
    refine va_get (D := gD g) (ci := 8) (v := .int (t 48 0)) (C := R_Mo) (T := T_Mo) (N := 64) hx hb htb in_Mo hown hK hP 0 rfl rfl 48 (by decide) (htb _ L_Mo_415) (fun _ h9 => h9) rfl d_Mo_addRow_41 ?_
    refine lv_iconst (v := 1) hx hb d_Mo_addRow_44 (by decide) ?_
    refine lv_iadd hx hb d_Mo_addRow_45 ?_
    refine va_put (D := gD g) (ci := 8) (v := .int ((t 48 0) + (1 : Int32))) (ty := .int) (C := R_Mo) (T := T_Mo) (N := 64) hx hb htb in_Mo ty_Mo ty_Mo_ok nm_Mo hown hK hP hD hS 0 rfl rfl 48 (by decide) (htb _ L_Mo_415) (fun _ h9 => h9) rfl (by decide +kernel) rfl rfl (Nat.le_of_ble_eq_true rfl) d_Mo_addRow_46 (fun H locs hP hD hS => ?_)
    obtain ⟨t_13, et_13, h⟩ := letS_el h
    have hP : va_P (gD g) vwCl ((pic_Mo g a_t t_13 t_11)) H := by rw [et_13]; exact hP
    have hD : va_D A ((pic_Mo g a_t t_13 t_11)) := by rw [et_13]; exact hD
    cases h
    exact W.vret hx hb hr (fun t ht hW => ⟨⟨(), rfl, trivial, by rw [ht]; exact hP, hD⟩, hS.F ht⟩) hS.2.2 d_Mo_addRow_49
  · replace h := (if_pos c8).symm.trans h
    refine lv_aload_n hx hb d_Mo_addRow_12 rfl (lv_at hl 0 rfl) ?_
    refine lv_iconst (v := 1) hx hb d_Mo_addRow_13 (by decide) ?_
    refine va_put (D := gD g) (ci := 8) (v := .int (1 : Int32)) (ty := .boolean) (C := R_Mo) (T := T_Mo) (N := 64) hx hb htb in_Mo ty_Mo ty_Mo_ok nm_Mo hown hK hP hD hS 0 rfl rfl 51 (by decide) (htb _ L_Mo_418) (fun _ h9 => h9) rfl (by decide +kernel) rfl rfl (Nat.le_of_ble_eq_true rfl) d_Mo_addRow_14 (fun H locs hP hD hS => ?_)
    obtain ⟨t_14, et_14, h⟩ := letS_el h
    have hP : va_P (gD g) vwCl ((pic_Mo g a_t t_14 tL)) H := by rw [et_14]; exact hP
    have hD : va_D A ((pic_Mo g a_t t_14 tL)) := by rw [et_14]; exact hD
    cases h
    exact W.vret hx hb hr (fun t ht hW => ⟨⟨(), rfl, trivial, by rw [ht]; exact hP, hD⟩, hS.F ht⟩) hS.2.2 d_Mo_addRow_17
theorem c_Mo_addRow (l : Launch) (g : Gz) (F : Nat) (a_t : Nat → Nat) (t : StI) (tL : StL) (x1 : Int32) (x2 : Int64) (x4 : Int64) (res : StI × StL) (h : Mo_addRow F t tL x1 x2 x4 = some res) : ∀ sz : Nat, Met l y_Mo_addRow (.code y_Mo_addRow prog_10_method_62_code 6 none :: TBL) rm_Mo_addRow (va_Pc [.ref (a_t 0), .int x1, .long x2, .long x4] (Pre0 g ((pic_Mo g a_t t tL)) sz)) (EV g ((pic_Mo g a_t res.1 res.2)) (va_A ((pic_Mo g a_t t tL)) sz)) 0 0 (va_A ((pic_Mo g a_t t tL)) sz) :=
  ct_w (Qc := fun A => EV g ((pic_Mo g a_t res.1 res.2)) A) (by decide) (Nat.le_of_ble_eq_true rfl) (fun p e s m args below meth c A hC => k_Mo_addRow hC t tL x1 x2 x4 res h)
def Mo_isLeftOut_122 (F : Nat) (k2 : StI → StL → Int32 → Int32 → Option (Int32)) (t : StI) (tL : StL) (x1 : Int32) (x3 : Int32) : Option (Int32) := k2 t tL x1 (x3 + (1 : Int32))
def Mo_isLeftOut_103 (F : Nat) (k2 : StI → StL → Int32 → Int32 → Option (Int32)) (t : StI) (tL : StL) (x1 : Int32) (x3 : Int32) (x4 : Int32) (y0 : Int32) : Option (Int32) := if x4 = 0 then Mo_isLeftOut_122 F k2 t tL x1 x3 else if y0 = 0 then some (1 : Int32) else if x1 ≤ x3 then Mo_isLeftOut_122 F k2 t tL x1 x3 else some (1 : Int32)
def Mo_isLeftOut_102 (F : Nat) (k2 : StI → StL → Int32 → Int32 → Option (Int32)) (t : StI) (tL : StL) (x1 : Int32) (x3 : Int32) (x4 : Int32) : Option (Int32) := Mo_isLeftOut_103 F k2 t tL x1 x3 x4 (0 : Int32)
def Mo_isLeftOut_64 (F : Nat) (k2 : StI → StL → Int32 → Int32 → Option (Int32)) (t : StI) (tL : StL) (x1 : Int32) (x3 : Int32) (y0 : Int32) : Option (Int32) := if x3 < 0 ∨ 34000 ≤ x3.toNatClampNeg then none else if x1 < 0 ∨ 34000 ≤ x1.toNatClampNeg then none else if (lg_cmp ((tL 49) x3.toNatClampNeg) ((tL 49) x1.toNatClampNeg)) = 0 then if x3 < 0 ∨ 34000 ≤ x3.toNatClampNeg then none else if x1 < 0 ∨ 34000 ≤ x1.toNatClampNeg then none else if (lg_cmp ((tL 50) x3.toNatClampNeg) ((tL 50) x1.toNatClampNeg)) = 0 then Mo_isLeftOut_103 F k2 t tL x1 x3 y0 (1 : Int32) else Mo_isLeftOut_102 F k2 t tL x1 x3 y0 else Mo_isLeftOut_102 F k2 t tL x1 x3 y0
def Mo_isLeftOut_63 (F : Nat) (k2 : StI → StL → Int32 → Int32 → Option (Int32)) (t : StI) (tL : StL) (x1 : Int32) (x3 : Int32) : Option (Int32) := Mo_isLeftOut_64 F k2 t tL x1 x3 (0 : Int32)
def Mo_isLeftOut_2 (F : Nat) : Nat → StI → StL → Int32 → Int32 → Option (Int32)
  | 0, _, _, _, _ => none
  | n + 1, t, tL, x1, x3 => if (t 48 0) ≤ x3 then some (0 : Int32) else if x3 = x1 then Mo_isLeftOut_63 F (Mo_isLeftOut_2 F n) t tL x1 x3 else if x3 < 0 ∨ 34000 ≤ x3.toNatClampNeg then none else if x1 < 0 ∨ 34000 ≤ x1.toNatClampNeg then none else if (lg_cmp (((tL 49) x3.toNatClampNeg) &&& (((tL 49) x1.toNatClampNeg) ^^^ (-1 : Int64))) (0 : Int64)) = 0 then if x3 < 0 ∨ 34000 ≤ x3.toNatClampNeg then none else if x1 < 0 ∨ 34000 ≤ x1.toNatClampNeg then none else if (lg_cmp (((tL 50) x3.toNatClampNeg) &&& (((tL 50) x1.toNatClampNeg) ^^^ (-1 : Int64))) (0 : Int64)) = 0 then Mo_isLeftOut_64 F (Mo_isLeftOut_2 F n) t tL x1 x3 (1 : Int32) else Mo_isLeftOut_63 F (Mo_isLeftOut_2 F n) t tL x1 x3 else Mo_isLeftOut_63 F (Mo_isLeftOut_2 F n) t tL x1 x3
def Mo_isLeftOut (F : Nat) (t : StI) (tL : StL) (x1 : Int32) (x2 : Int32) : Option (Int32) := Mo_isLeftOut_2 F F t tL x1 x2
set_option maxHeartbeats 4000000 in
set_option maxRecDepth 100000 in
theorem k_Mo_isLeftOut_122 {p : Program} {l : Launch} {e : Env} {s : State} {m : MethodId} {args : Array Value} {below : List Frame} {meth : Method} {c : Code} {g : Gz} {A2 A : Nat → Prop} {F : Nat} {a_t : Nat → Nat} {k2 : StI → StL → Int32 → Int32 → Option (Int32)} (hC : Cx prog_10_method_63_code 6 (some .boolean) R_Mo p s m args meth c g A2 A) : ∀ (t : StI) (tL : StL) (x1 : Int32) (x3 : Int32) (res : Int32), Mo_isLeftOut_122 F k2 t tL x1 x3 = some res → (∀ (t : StI) (tL : StL) (x1 : Int32) (x3 : Int32), k2 t tL x1 x3 = some res → Go p l e rm_Mo_isLeftOut s m args below meth c g A2 A 6 (MQ below (RI res A) args s 0 0 A) ((pic_Mo g a_t t tL)) [(0, .ref (a_t 0)), (1, .int x1), (3, .int x3)] 2 []) → Go p l e rm_Mo_isLeftOut s m args below meth c g A2 A 6 (MQ below (RI res A) args s 0 0 A) ((pic_Mo g a_t t tL)) [(0, .ref (a_t 0)), (1, .int x1), (3, .int x3)] 122 [] := by
  obtain ⟨hx, hb, hr, hml, hown, htb, hlocks, hA, hAA, hG⟩ := id hC
  have hK := hG.1
  intro t tL x1 x3 res h hk2 H locs ls hP hD hS hl
  rw [Mo_isLeftOut_122] at h
  refine lv_iinc (v := (x3 + (1 : Int32))) (lv' := [(3, .int (x3 + (1 : Int32))), (0, .ref (a_t 0)), (1, .int x1)]) hx hb d_Mo_isLeftOut_122 hl (k := 2) rfl rfl (by decide) rfl (fun ls hl => ?_)
  refine lv_goto (tgt := 2) hx hb d_Mo_isLeftOut_125 (by decide) ?_
  exact hk2 _ _ _ _ h _ _ _ hP hD hS (lv_sub hl [1, 2, 0] rfl)
set_option maxHeartbeats 4000000 in
set_option maxRecDepth 100000 in
theorem k_Mo_isLeftOut_103 {p : Program} {l : Launch} {e : Env} {s : State} {m : MethodId} {args : Array Value} {below : List Frame} {meth : Method} {c : Code} {g : Gz} {A2 A : Nat → Prop} {F : Nat} {a_t : Nat → Nat} {k2 : StI → StL → Int32 → Int32 → Option (Int32)} (hC : Cx prog_10_method_63_code 6 (some .boolean) R_Mo p s m args meth c g A2 A) : ∀ (t : StI) (tL : StL) (x1 : Int32) (x3 : Int32) (x4 : Int32) (y0 : Int32) (res : Int32), Mo_isLeftOut_103 F k2 t tL x1 x3 x4 y0 = some res → (∀ (t : StI) (tL : StL) (x1 : Int32) (x3 : Int32), k2 t tL x1 x3 = some res → Go p l e rm_Mo_isLeftOut s m args below meth c g A2 A 6 (MQ below (RI res A) args s 0 0 A) ((pic_Mo g a_t t tL)) [(0, .ref (a_t 0)), (1, .int x1), (3, .int x3)] 2 []) → Go p l e rm_Mo_isLeftOut s m args below meth c g A2 A 6 (MQ below (RI res A) args s 0 0 A) ((pic_Mo g a_t t tL)) [(0, .ref (a_t 0)), (1, .int x1), (3, .int x3), (4, .int x4)] 103 [.int y0] := by
  obtain ⟨hx, hb, hr, hml, hown, htb, hlocks, hA, hAA, hG⟩ := id hC
  have hK := hG.1
  intro t tL x1 x3 x4 y0 res h hk2 H locs ls hP hD hS hl
  rw [Mo_isLeftOut_103] at h
  refine lv_istore (lv' := [(5, .int y0), (0, .ref (a_t 0)), (1, .int x1), (3, .int x3), (4, .int x4)]) hx hb d_Mo_isLeftOut_103 hl (by decide) rfl (fun ls hl => ?_)
  refine lv_iload hx hb d_Mo_isLeftOut_105 (lv_at hl 4 rfl) ?_
  refine lv_if_eq (tgt := 122) hx hb d_Mo_isLeftOut_107 (by decide) (fun c18 => ?_) (fun c18 => ?_)
  · replace h := (if_pos c18).symm.trans h
    exact k_Mo_isLeftOut_122 hC _ _ _ _ _ h hk2 _ _ _ hP hD hS (lv_sub hl [1, 2, 3] rfl)
  · replace h := (if_neg c18).symm.trans h
    refine lv_iload hx hb d_Mo_isLeftOut_110 (lv_at hl 0 rfl) ?_
    refine lv_if_eq (tgt := 120) hx hb d_Mo_isLeftOut_112 (by decide) (fun c19 => ?_) (fun c19 => ?_)
    · replace h := (if_pos c19).symm.trans h
      refine lv_iconst (v := 1) hx hb d_Mo_isLeftOut_120 (by decide) ?_
      cases h
      exact W.zret hx hb hr rfl (fun t ht hW => ⟨⟨_, (), rfl, rfl, trivial⟩, hS.F ht⟩) hS.2.2 d_Mo_isLeftOut_121
    · replace h := (if_neg c19).symm.trans h
      refine lv_iload_n hx hb d_Mo_isLeftOut_115 rfl (lv_at hl 3 rfl) ?_
      refine lv_iload_n hx hb d_Mo_isLeftOut_116 rfl (lv_at hl 2 rfl) ?_
      refine lv_icmp_ge (tgt := 122) hx hb d_Mo_isLeftOut_117 (by decide) (fun c20 => ?_) (fun c20 => ?_)
      · replace h := (if_pos c20).symm.trans h
        exact k_Mo_isLeftOut_122 hC _ _ _ _ _ h hk2 _ _ _ hP hD hS (lv_sub hl [1, 2, 3] rfl)
      · replace h := (if_neg c20).symm.trans h
        refine lv_iconst (v := 1) hx hb d_Mo_isLeftOut_120 (by decide) ?_
        cases h
        exact W.zret hx hb hr rfl (fun t ht hW => ⟨⟨_, (), rfl, rfl, trivial⟩, hS.F ht⟩) hS.2.2 d_Mo_isLeftOut_121
set_option maxHeartbeats 4000000 in
set_option maxRecDepth 100000 in
theorem k_Mo_isLeftOut_102 {p : Program} {l : Launch} {e : Env} {s : State} {m : MethodId} {args : Array Value} {below : List Frame} {meth : Method} {c : Code} {g : Gz} {A2 A : Nat → Prop} {F : Nat} {a_t : Nat → Nat} {k2 : StI → StL → Int32 → Int32 → Option (Int32)} (hC : Cx prog_10_method_63_code 6 (some .boolean) R_Mo p s m args meth c g A2 A) : ∀ (t : StI) (tL : StL) (x1 : Int32) (x3 : Int32) (x4 : Int32) (res : Int32), Mo_isLeftOut_102 F k2 t tL x1 x3 x4 = some res → (∀ (t : StI) (tL : StL) (x1 : Int32) (x3 : Int32), k2 t tL x1 x3 = some res → Go p l e rm_Mo_isLeftOut s m args below meth c g A2 A 6 (MQ below (RI res A) args s 0 0 A) ((pic_Mo g a_t t tL)) [(0, .ref (a_t 0)), (1, .int x1), (3, .int x3)] 2 []) → Go p l e rm_Mo_isLeftOut s m args below meth c g A2 A 6 (MQ below (RI res A) args s 0 0 A) ((pic_Mo g a_t t tL)) [(0, .ref (a_t 0)), (1, .int x1), (3, .int x3), (4, .int x4)] 102 [] := by
  obtain ⟨hx, hb, hr, hml, hown, htb, hlocks, hA, hAA, hG⟩ := id hC
  have hK := hG.1
  intro t tL x1 x3 x4 res h hk2 H locs ls hP hD hS hl
  rw [Mo_isLeftOut_102] at h
  refine lv_iconst (v := 0) hx hb d_Mo_isLeftOut_102 (by decide) ?_
  exact k_Mo_isLeftOut_103 hC _ _ _ _ _ _ _ h hk2 _ _ _ hP hD hS (lv_sub hl [0, 1, 2, 3] rfl)
set_option maxHeartbeats 4000000 in
set_option maxRecDepth 100000 in
theorem k_Mo_isLeftOut_64 {p : Program} {l : Launch} {e : Env} {s : State} {m : MethodId} {args : Array Value} {below : List Frame} {meth : Method} {c : Code} {g : Gz} {A2 A : Nat → Prop} {F : Nat} {a_t : Nat → Nat} {k2 : StI → StL → Int32 → Int32 → Option (Int32)} (hC : Cx prog_10_method_63_code 6 (some .boolean) R_Mo p s m args meth c g A2 A) : ∀ (t : StI) (tL : StL) (x1 : Int32) (x3 : Int32) (y0 : Int32) (res : Int32), Mo_isLeftOut_64 F k2 t tL x1 x3 y0 = some res → (∀ (t : StI) (tL : StL) (x1 : Int32) (x3 : Int32), k2 t tL x1 x3 = some res → Go p l e rm_Mo_isLeftOut s m args below meth c g A2 A 6 (MQ below (RI res A) args s 0 0 A) ((pic_Mo g a_t t tL)) [(0, .ref (a_t 0)), (1, .int x1), (3, .int x3)] 2 []) → Go p l e rm_Mo_isLeftOut s m args below meth c g A2 A 6 (MQ below (RI res A) args s 0 0 A) ((pic_Mo g a_t t tL)) [(0, .ref (a_t 0)), (1, .int x1), (3, .int x3)] 64 [.int y0] := by
  obtain ⟨hx, hb, hr, hml, hown, htb, hlocks, hA, hAA, hG⟩ := id hC
  have hK := hG.1
  intro t tL x1 x3 y0 res h hk2 H locs ls hP hD hS hl
  rw [Mo_isLeftOut_64] at h
  refine lv_istore (lv' := [(4, .int y0), (0, .ref (a_t 0)), (1, .int x1), (3, .int x3)]) hx hb d_Mo_isLeftOut_64 hl (by decide) rfl (fun ls hl => ?_)
  refine lv_aload_n hx hb d_Mo_isLeftOut_66 rfl (lv_at hl 1 rfl) ?_
  refine va_get (D := gD g) (ci := 8) (v := .ref (a_t 50)) (C := R_Mo) (T := T_Mo) (N := 64) hx hb htb in_Mo hown hK hP 0 rfl rfl 49 (by decide) (htb _ L_Mo_114) (fun _ h9 => h9) rfl d_Mo_isLeftOut_67 ?_
  refine lv_iload_n hx hb d_Mo_isLeftOut_70 rfl (lv_at hl 3 rfl) ?_
  by_cases c21 : (x3 < 0 ∨ 34000 ≤ x3.toNatClampNeg)
  · replace h := (if_pos c21).symm.trans h
    cases h
  replace h := (if_neg c21).symm.trans h
  refine va_lald hx hb hK hP 24 3 rfl rfl c21 d_Mo_isLeftOut_71 ?_
  refine lv_aload_n hx hb d_Mo_isLeftOut_72 rfl (lv_at hl 1 rfl) ?_
  refine va_get (D := gD g) (ci := 8) (v := .ref (a_t 50)) (C := R_Mo) (T := T_Mo) (N := 64) hx hb htb in_Mo hown hK hP 0 rfl rfl 49 (by decide) (htb _ L_Mo_114) (fun _ h9 => h9) rfl d_Mo_isLeftOut_73 ?_
  refine lv_iload_n hx hb d_Mo_isLeftOut_76 rfl (lv_at hl 2 rfl) ?_
  by_cases c22 : (x1 < 0 ∨ 34000 ≤ x1.toNatClampNeg)
  · replace h := (if_pos c22).symm.trans h
    cases h
  replace h := (if_neg c22).symm.trans h
  refine va_lald hx hb hK hP 24 3 rfl rfl c22 d_Mo_isLeftOut_77 ?_
  refine W.lcmp hx hb d_Mo_isLeftOut_78 ?_
  refine lv_if_ne (tgt := 102) hx hb d_Mo_isLeftOut_79 (by decide) (fun c23 => ?_) (fun c23 => ?_)
  · replace h := (if_neg c23).symm.trans h
    exact k_Mo_isLeftOut_102 hC _ _ _ _ _ _ h hk2 _ _ _ hP hD hS (lv_sub hl [1, 2, 3, 0] rfl)
  · replace h := (if_pos c23).symm.trans h
    refine lv_aload_n hx hb d_Mo_isLeftOut_82 rfl (lv_at hl 1 rfl) ?_
    refine va_get (D := gD g) (ci := 8) (v := .ref (a_t 51)) (C := R_Mo) (T := T_Mo) (N := 64) hx hb htb in_Mo hown hK hP 0 rfl rfl 50 (by decide) (htb _ L_Mo_117) (fun _ h9 => h9) rfl d_Mo_isLeftOut_83 ?_
    refine lv_iload_n hx hb d_Mo_isLeftOut_86 rfl (lv_at hl 3 rfl) ?_
    by_cases c24 : (x3 < 0 ∨ 34000 ≤ x3.toNatClampNeg)
    · replace h := (if_pos c24).symm.trans h
      cases h
    replace h := (if_neg c24).symm.trans h
    refine va_lald hx hb hK hP 25 3 rfl rfl c24 d_Mo_isLeftOut_87 ?_
    refine lv_aload_n hx hb d_Mo_isLeftOut_88 rfl (lv_at hl 1 rfl) ?_
    refine va_get (D := gD g) (ci := 8) (v := .ref (a_t 51)) (C := R_Mo) (T := T_Mo) (N := 64) hx hb htb in_Mo hown hK hP 0 rfl rfl 50 (by decide) (htb _ L_Mo_117) (fun _ h9 => h9) rfl d_Mo_isLeftOut_89 ?_
    refine lv_iload_n hx hb d_Mo_isLeftOut_92 rfl (lv_at hl 2 rfl) ?_
    by_cases c25 : (x1 < 0 ∨ 34000 ≤ x1.toNatClampNeg)
    · replace h := (if_pos c25).symm.trans h
      cases h
    replace h := (if_neg c25).symm.trans h
    refine va_lald hx hb hK hP 25 3 rfl rfl c25 d_Mo_isLeftOut_93 ?_
    refine W.lcmp hx hb d_Mo_isLeftOut_94 ?_
    refine lv_if_ne (tgt := 102) hx hb d_Mo_isLeftOut_95 (by decide) (fun c26 => ?_) (fun c26 => ?_)
    · replace h := (if_neg c26).symm.trans h
      exact k_Mo_isLeftOut_102 hC _ _ _ _ _ _ h hk2 _ _ _ hP hD hS (lv_sub hl [1, 2, 3, 0] rfl)
    · replace h := (if_pos c26).symm.trans h
      refine lv_iconst (v := 1) hx hb d_Mo_isLeftOut_98 (by decide) ?_
      refine lv_goto (tgt := 103) hx hb d_Mo_isLeftOut_99 (by decide) ?_
      exact k_Mo_isLeftOut_103 hC _ _ _ _ _ _ _ h hk2 _ _ _ hP hD hS (lv_sub hl [1, 2, 3, 0] rfl)
set_option maxHeartbeats 4000000 in
set_option maxRecDepth 100000 in
theorem k_Mo_isLeftOut_63 {p : Program} {l : Launch} {e : Env} {s : State} {m : MethodId} {args : Array Value} {below : List Frame} {meth : Method} {c : Code} {g : Gz} {A2 A : Nat → Prop} {F : Nat} {a_t : Nat → Nat} {k2 : StI → StL → Int32 → Int32 → Option (Int32)} (hC : Cx prog_10_method_63_code 6 (some .boolean) R_Mo p s m args meth c g A2 A) : ∀ (t : StI) (tL : StL) (x1 : Int32) (x3 : Int32) (res : Int32), Mo_isLeftOut_63 F k2 t tL x1 x3 = some res → (∀ (t : StI) (tL : StL) (x1 : Int32) (x3 : Int32), k2 t tL x1 x3 = some res → Go p l e rm_Mo_isLeftOut s m args below meth c g A2 A 6 (MQ below (RI res A) args s 0 0 A) ((pic_Mo g a_t t tL)) [(0, .ref (a_t 0)), (1, .int x1), (3, .int x3)] 2 []) → Go p l e rm_Mo_isLeftOut s m args below meth c g A2 A 6 (MQ below (RI res A) args s 0 0 A) ((pic_Mo g a_t t tL)) [(0, .ref (a_t 0)), (1, .int x1), (3, .int x3)] 63 [] := by
  obtain ⟨hx, hb, hr, hml, hown, htb, hlocks, hA, hAA, hG⟩ := id hC
  have hK := hG.1
  intro t tL x1 x3 res h hk2 H locs ls hP hD hS hl
  rw [Mo_isLeftOut_63] at h
  refine lv_iconst (v := 0) hx hb d_Mo_isLeftOut_63 (by decide) ?_
  exact k_Mo_isLeftOut_64 hC _ _ _ _ _ _ h hk2 _ _ _ hP hD hS (lv_sub hl [0, 1, 2] rfl)
set_option maxHeartbeats 4000000 in
set_option maxRecDepth 100000 in
theorem k_Mo_isLeftOut_2 {p : Program} {l : Launch} {e : Env} {s : State} {m : MethodId} {args : Array Value} {below : List Frame} {meth : Method} {c : Code} {g : Gz} {A2 A : Nat → Prop} {F : Nat} {a_t : Nat → Nat} (hC : Cx prog_10_method_63_code 6 (some .boolean) R_Mo p s m args meth c g A2 A) : ∀ (n : Nat) (t : StI) (tL : StL) (x1 : Int32) (x3 : Int32) (res : Int32), Mo_isLeftOut_2 F n t tL x1 x3 = some res → Go p l e rm_Mo_isLeftOut s m args below meth c g A2 A 6 (MQ below (RI res A) args s 0 0 A) ((pic_Mo g a_t t tL)) [(0, .ref (a_t 0)), (1, .int x1), (3, .int x3)] 2 [] := by
  obtain ⟨hx, hb, hr, hml, hown, htb, hlocks, hA, hAA, hG⟩ := id hC
  have hK := hG.1
  intro n
  induction n with
  | zero => intro t tL x1 x3 res h; rw [Mo_isLeftOut_2] at h; cases h
  | succ n ih =>
    intro t tL x1 x3 res h H locs ls hP hD hS hl
    rw [Mo_isLeftOut_2] at h
    refine lv_iload_n hx hb d_Mo_isLeftOut_2 rfl (lv_at hl 2 rfl) ?_
    refine lv_aload_n hx hb d_Mo_isLeftOut_3 rfl (lv_at hl 0 rfl) ?_
    refine va_get (D := gD g) (ci := 8) (v := .int (t 48 0)) (C := R_Mo) (T := T_Mo) (N := 64) hx hb htb in_Mo hown hK hP 0 rfl rfl 48 (by decide) (htb _ L_Mo_415) (fun _ h9 => h9) rfl d_Mo_isLeftOut_4 ?_
    refine lv_icmp_ge (tgt := 128) hx hb d_Mo_isLeftOut_7 (by decide) (fun c27 => ?_) (fun c27 => ?_)
    · replace h := (if_pos c27).symm.trans h
      refine lv_iconst (v := 0) hx hb d_Mo_isLeftOut_128 (by decide) ?_
      cases h
      exact W.zret hx hb hr rfl (fun t ht hW => ⟨⟨_, (), rfl, rfl, trivial⟩, hS.F ht⟩) hS.2.2 d_Mo_isLeftOut_129
    · replace h := (if_neg c27).symm.trans h
      refine lv_iload_n hx hb d_Mo_isLeftOut_10 rfl (lv_at hl 2 rfl) ?_
      refine lv_iload_n hx hb d_Mo_isLeftOut_11 rfl (lv_at hl 1 rfl) ?_
      refine lv_icmp_eq (tgt := 63) hx hb d_Mo_isLeftOut_12 (by decide) (fun c28 => ?_) (fun c28 => ?_)
      · replace h := (if_pos c28).symm.trans h
        exact k_Mo_isLeftOut_63 hC _ _ _ _ _ h (fun z0 z1 z2 z3 hz => ih z0 z1 z2 z3 _ hz) _ _ _ hP hD hS (lv_sub hl [0, 1, 2] rfl)
      · replace h := (if_neg c28).symm.trans h
        refine lv_aload_n hx hb d_Mo_isLeftOut_15 rfl (lv_at hl 0 rfl) ?_
        refine va_get (D := gD g) (ci := 8) (v := .ref (a_t 50)) (C := R_Mo) (T := T_Mo) (N := 64) hx hb htb in_Mo hown hK hP 0 rfl rfl 49 (by decide) (htb _ L_Mo_114) (fun _ h9 => h9) rfl d_Mo_isLeftOut_16 ?_
        refine lv_iload_n hx hb d_Mo_isLeftOut_19 rfl (lv_at hl 2 rfl) ?_
        by_cases c29 : (x3 < 0 ∨ 34000 ≤ x3.toNatClampNeg)
        · replace h := (if_pos c29).symm.trans h
          cases h
        replace h := (if_neg c29).symm.trans h
        refine va_lald hx hb hK hP 24 3 rfl rfl c29 d_Mo_isLeftOut_20 ?_
        refine lv_aload_n hx hb d_Mo_isLeftOut_21 rfl (lv_at hl 0 rfl) ?_
        refine va_get (D := gD g) (ci := 8) (v := .ref (a_t 50)) (C := R_Mo) (T := T_Mo) (N := 64) hx hb htb in_Mo hown hK hP 0 rfl rfl 49 (by decide) (htb _ L_Mo_114) (fun _ h9 => h9) rfl d_Mo_isLeftOut_22 ?_
        refine lv_iload_n hx hb d_Mo_isLeftOut_25 rfl (lv_at hl 1 rfl) ?_
        by_cases c30 : (x1 < 0 ∨ 34000 ≤ x1.toNatClampNeg)
        · replace h := (if_pos c30).symm.trans h
          cases h
        replace h := (if_neg c30).symm.trans h
        refine va_lald hx hb hK hP 24 3 rfl rfl c30 d_Mo_isLeftOut_26 ?_
        refine lv_ldc2 (v := -1) hx hb hown (htb _ K_Mo_421) d_Mo_isLeftOut_27 ?_
        refine lv_lxor hx hb d_Mo_isLeftOut_30 ?_
        refine lv_land hx hb d_Mo_isLeftOut_31 ?_
        refine lv_lconst (v := 0) hx hb d_Mo_isLeftOut_32 (by decide) ?_
        refine W.lcmp hx hb d_Mo_isLeftOut_33 ?_
        refine lv_if_ne (tgt := 63) hx hb d_Mo_isLeftOut_34 (by decide) (fun c31 => ?_) (fun c31 => ?_)
        · replace h := (if_neg c31).symm.trans h
          exact k_Mo_isLeftOut_63 hC _ _ _ _ _ h (fun z0 z1 z2 z3 hz => ih z0 z1 z2 z3 _ hz) _ _ _ hP hD hS (lv_sub hl [0, 1, 2] rfl)
        · replace h := (if_pos c31).symm.trans h
          refine lv_aload_n hx hb d_Mo_isLeftOut_37 rfl (lv_at hl 0 rfl) ?_
          refine va_get (D := gD g) (ci := 8) (v := .ref (a_t 51)) (C := R_Mo) (T := T_Mo) (N := 64) hx hb htb in_Mo hown hK hP 0 rfl rfl 50 (by decide) (htb _ L_Mo_117) (fun _ h9 => h9) rfl d_Mo_isLeftOut_38 ?_
          refine lv_iload_n hx hb d_Mo_isLeftOut_41 rfl (lv_at hl 2 rfl) ?_
          by_cases c32 : (x3 < 0 ∨ 34000 ≤ x3.toNatClampNeg)
          · replace h := (if_pos c32).symm.trans h
            cases h
          replace h := (if_neg c32).symm.trans h
          refine va_lald hx hb hK hP 25 3 rfl rfl c32 d_Mo_isLeftOut_42 ?_
          refine lv_aload_n hx hb d_Mo_isLeftOut_43 rfl (lv_at hl 0 rfl) ?_
          refine va_get (D := gD g) (ci := 8) (v := .ref (a_t 51)) (C := R_Mo) (T := T_Mo) (N := 64) hx hb htb in_Mo hown hK hP 0 rfl rfl 50 (by decide) (htb _ L_Mo_117) (fun _ h9 => h9) rfl d_Mo_isLeftOut_44 ?_
          refine lv_iload_n hx hb d_Mo_isLeftOut_47 rfl (lv_at hl 1 rfl) ?_
          by_cases c33 : (x1 < 0 ∨ 34000 ≤ x1.toNatClampNeg)
          · replace h := (if_pos c33).symm.trans h
            cases h
          replace h := (if_neg c33).symm.trans h
          refine va_lald hx hb hK hP 25 3 rfl rfl c33 d_Mo_isLeftOut_48 ?_
          refine lv_ldc2 (v := -1) hx hb hown (htb _ K_Mo_421) d_Mo_isLeftOut_49 ?_
          refine lv_lxor hx hb d_Mo_isLeftOut_52 ?_
          refine lv_land hx hb d_Mo_isLeftOut_53 ?_
          refine lv_lconst (v := 0) hx hb d_Mo_isLeftOut_54 (by decide) ?_
          refine W.lcmp hx hb d_Mo_isLeftOut_55 ?_
          refine lv_if_ne (tgt := 63) hx hb d_Mo_isLeftOut_56 (by decide) (fun c34 => ?_) (fun c34 => ?_)
          · replace h := (if_neg c34).symm.trans h
            exact k_Mo_isLeftOut_63 hC _ _ _ _ _ h (fun z0 z1 z2 z3 hz => ih z0 z1 z2 z3 _ hz) _ _ _ hP hD hS (lv_sub hl [0, 1, 2] rfl)
          · replace h := (if_pos c34).symm.trans h
            refine lv_iconst (v := 1) hx hb d_Mo_isLeftOut_59 (by decide) ?_
            refine lv_goto (tgt := 64) hx hb d_Mo_isLeftOut_60 (by decide) ?_
            exact k_Mo_isLeftOut_64 hC _ _ _ _ _ _ h (fun z0 z1 z2 z3 hz => ih z0 z1 z2 z3 _ hz) _ _ _ hP hD hS (lv_sub hl [0, 1, 2] rfl)
set_option maxHeartbeats 4000000 in
set_option maxRecDepth 100000 in
theorem k_Mo_isLeftOut {p : Program} {l : Launch} {e : Env} {s : State} {m : MethodId} {args : Array Value} {below : List Frame} {meth : Method} {c : Code} {g : Gz} {A2 A : Nat → Prop} {F : Nat} {a_t : Nat → Nat} (hC : Cx prog_10_method_63_code 6 (some .boolean) R_Mo p s m args meth c g A2 A) : ∀ (t : StI) (tL : StL) (x1 : Int32) (x2 : Int32) (res : Int32), Mo_isLeftOut F t tL x1 x2 = some res → Go p l e rm_Mo_isLeftOut s m args below meth c g A2 A 6 (MQ below (RI res A) args s 0 0 A) ((pic_Mo g a_t t tL)) [(0, .ref (a_t 0)), (1, .int x1), (2, .int x2)] 0 [] := by
  obtain ⟨hx, hb, hr, hml, hown, htb, hlocks, hA, hAA, hG⟩ := id hC
  have hK := hG.1
  intro t tL x1 x2 res h H locs ls hP hD hS hl
  rw [Mo_isLeftOut] at h
  refine lv_iload_n hx hb d_Mo_isLeftOut_0 rfl (lv_at hl 2 rfl) ?_
  refine lv_istore_n (lv' := [(3, .int x2), (0, .ref (a_t 0)), (1, .int x1), (2, .int x2)]) hx hb d_Mo_isLeftOut_1 rfl hl (by decide) rfl (fun ls hl => ?_)
  exact k_Mo_isLeftOut_2 hC F _ _ _ _ _ h _ _ _ hP hD hS (lv_sub hl [1, 2, 0] rfl)
theorem c_Mo_isLeftOut (l : Launch) (g : Gz) (F : Nat) (a_t : Nat → Nat) (t : StI) (tL : StL) (x1 : Int32) (x2 : Int32) (res : Int32) (h : Mo_isLeftOut F t tL x1 x2 = some res) : ∀ sz : Nat, Met l y_Mo_isLeftOut (.code y_Mo_isLeftOut prog_10_method_63_code 6 (some .boolean) :: TBL) rm_Mo_isLeftOut (va_Pc [.ref (a_t 0), .int x1, .int x2] (Pre0 g ((pic_Mo g a_t t tL)) sz)) (RI res (fun q => sz ≤ q)) 0 0 (fun q => sz ≤ q) :=
  ct_r (Qc := fun A => RI res A) (by decide) (Nat.le_of_ble_eq_true rfl) (fun p e s m args below meth c A2 A hC => k_Mo_isLeftOut hC t tL x1 x2 res h)
def Mo_clean_80 (F : Nat) (k34 : StI → StL → Int32 → Int32 → Int32 → Option (StI × StL)) (t : StI) (tL : StL) (x1 : Int32) (x2 : Int32) (x3 : Int32) : Option (StI × StL) := k34 t tL x1 x2 (x3 + (1 : Int32))
def Mo_clean_34 (F : Nat) : Nat → StI → StL → Int32 → Int32 → Int32 → Option (StI × StL)
  | 0, _, _, _, _, _ => none
  | n + 1, t, tL, x1, x2, x3 => if (t 48 0) ≤ x3 then letS (va_up t 48 (fun _ => x2)) fun t_16 => some (t_16, tL) else if (x3 - x1) < 0 ∨ 420 ≤ (x3 - x1).toNatClampNeg then none else if ((t 63) (x3 - x1).toNatClampNeg) = 0 then if x3 < 0 ∨ 34000 ≤ x3.toNatClampNeg then none else if x2 < 0 ∨ 34000 ≤ x2.toNatClampNeg then none else letS (va_up tL 49 (vp_updL (tL 49) x2.toNatClampNeg ((tL 49) x3.toNatClampNeg))) fun t_20 => if x3 < 0 ∨ 34000 ≤ x3.toNatClampNeg then none else if x2 < 0 ∨ 34000 ≤ x2.toNatClampNeg then none else letS (va_up t_20 50 (vp_updL (t_20 50) x2.toNatClampNeg ((t_20 50) x3.toNatClampNeg))) fun t_23 => Mo_clean_80 F (Mo_clean_34 F n) t t_23 x1 (x2 + (1 : Int32)) x3 else Mo_clean_80 F (Mo_clean_34 F n) t tL x1 x2 x3
def Mo_clean_2 (F : Nat) : Nat → StI → StL → Int32 → Int32 → Option (StI × StL)
  | 0, _, _, _, _ => none
  | n + 1, t, tL, x1, x2 => if (t 48 0) ≤ x2 then Mo_clean_34 F F t tL x1 x1 x1 else (Mo_isLeftOut F t tL x2 x1).bind fun r26 => if (x2 - x1) < 0 ∨ 420 ≤ (x2 - x1).toNatClampNeg then none else letS (va_up t 63 (upd (t 63) (x2 - x1).toNatClampNeg (vp_nar .boolean r26))) fun t_27 => Mo_clean_2 F n t_27 tL x1 (x2 + (1 : Int32))
def Mo_clean (F : Nat) (t : StI) (tL : StL) (x1 : Int32) : Option (StI × StL) := Mo_clean_2 F F t tL x1 x1
set_option maxHeartbeats 4000000 in
set_option maxRecDepth 100000 in
theorem k_Mo_clean_80 {p : Program} {l : Launch} {e : Env} {s : State} {m : MethodId} {args : Array Value} {below : List Frame} {meth : Method} {c : Code} {g : Gz} {A : Nat → Prop} {F : Nat} {a_t : Nat → Nat} {k34 : StI → StL → Int32 → Int32 → Int32 → Option (StI × StL)} (hC : Cx prog_10_method_64_code 4 none R_Mo p s m args meth c g A A) : ∀ (t : StI) (tL : StL) (x1 : Int32) (x2 : Int32) (x3 : Int32) (res : StI × StL), Mo_clean_80 F k34 t tL x1 x2 x3 = some res → (∀ (t : StI) (tL : StL) (x1 : Int32) (x2 : Int32) (x3 : Int32), k34 t tL x1 x2 x3 = some res → Go p l e rm_Mo_clean s m args below meth c g A A 4 (MQ below (EV g ((pic_Mo g a_t res.1 res.2)) A) args s 0 0 A) ((pic_Mo g a_t t tL)) [(0, .ref (a_t 0)), (1, .int x1), (2, .int x2), (3, .int x3)] 34 []) → Go p l e rm_Mo_clean s m args below meth c g A A 4 (MQ below (EV g ((pic_Mo g a_t res.1 res.2)) A) args s 0 0 A) ((pic_Mo g a_t t tL)) [(0, .ref (a_t 0)), (1, .int x1), (2, .int x2), (3, .int x3)] 80 [] := by
  obtain ⟨hx, hb, hr, hml, hown, htb, hlocks, hA, hAA, hG⟩ := id hC
  have hK := hG.1
  intro t tL x1 x2 x3 res h hk34 H locs ls hP hD hS hl
  rw [Mo_clean_80] at h
  refine lv_iinc (v := (x3 + (1 : Int32))) (lv' := [(3, .int (x3 + (1 : Int32))), (0, .ref (a_t 0)), (1, .int x1), (2, .int x2)]) hx hb d_Mo_clean_80 hl (k := 3) rfl rfl (by decide) rfl (fun ls hl => ?_)
  refine lv_goto (tgt := 34) hx hb d_Mo_clean_83 (by decide) ?_
  exact hk34 _ _ _ _ _ h _ _ _ hP hD hS (lv_sub hl [1, 2, 3, 0] rfl)
set_option maxHeartbeats 4000000 in
set_option maxRecDepth 100000 in
theorem k_Mo_clean_34 {p : Program} {l : Launch} {e : Env} {s : State} {m : MethodId} {args : Array Value} {below : List Frame} {meth : Method} {c : Code} {g : Gz} {A : Nat → Prop} {F : Nat} {a_t : Nat → Nat} (hC : Cx prog_10_method_64_code 4 none R_Mo p s m args meth c g A A) : ∀ (n : Nat) (t : StI) (tL : StL) (x1 : Int32) (x2 : Int32) (x3 : Int32) (res : StI × StL), Mo_clean_34 F n t tL x1 x2 x3 = some res → Go p l e rm_Mo_clean s m args below meth c g A A 4 (MQ below (EV g ((pic_Mo g a_t res.1 res.2)) A) args s 0 0 A) ((pic_Mo g a_t t tL)) [(0, .ref (a_t 0)), (1, .int x1), (2, .int x2), (3, .int x3)] 34 [] := by
  obtain ⟨hx, hb, hr, hml, hown, htb, hlocks, hA, hAA, hG⟩ := id hC
  have hK := hG.1
  intro n
  induction n with
  | zero => intro t tL x1 x2 x3 res h; rw [Mo_clean_34] at h; cases h
  | succ n ih =>
    intro t tL x1 x2 x3 res h H locs ls hP hD hS hl
    rw [Mo_clean_34] at h
    refine lv_iload_n hx hb d_Mo_clean_34 rfl (lv_at hl 3 rfl) ?_
    refine lv_aload_n hx hb d_Mo_clean_35 rfl (lv_at hl 0 rfl) ?_
    refine va_get (D := gD g) (ci := 8) (v := .int (t 48 0)) (C := R_Mo) (T := T_Mo) (N := 64) hx hb htb in_Mo hown hK hP 0 rfl rfl 48 (by decide) (htb _ L_Mo_415) (fun _ h9 => h9) rfl d_Mo_clean_36 ?_
    refine lv_icmp_ge (tgt := 86) hx hb d_Mo_clean_39 (by decide) (fun c15 => ?_) (fun c15 => ?_)
    · replace h := (if_pos c15).symm.trans h
      refine lv_aload_n hx hb d_Mo_clean_86 rfl (lv_at hl 0 rfl) ?_
      refine lv_iload_n hx hb d_Mo_clean_87 rfl (lv_at hl 2 rfl) ?_
      refine va_put (D := gD g) (ci := 8) (v := .int x2) (ty := .int) (C := R_Mo) (T := T_Mo) (N := 64) hx hb htb in_Mo ty_Mo ty_Mo_ok nm_Mo hown hK hP hD hS 0 rfl rfl 48 (by decide) (htb _ L_Mo_415) (fun _ h9 => h9) rfl (by decide +kernel) rfl rfl (Nat.le_of_ble_eq_true rfl) d_Mo_clean_88 (fun H locs hP hD hS => ?_)
      obtain ⟨t_16, et_16, h⟩ := letS_el h
      have hP : va_P (gD g) vwCl ((pic_Mo g a_t t_16 tL)) H := by rw [et_16]; exact hP
      have hD : va_D A ((pic_Mo g a_t t_16 tL)) := by rw [et_16]; exact hD
      cases h
      exact W.vret hx hb hr (fun t ht hW => ⟨⟨(), rfl, trivial, by rw [ht]; exact hP, hD⟩, hS.F ht⟩) hS.2.2 d_Mo_clean_91
    · replace h := (if_neg c15).symm.trans h
      refine lv_aload_n hx hb d_Mo_clean_42 rfl (lv_at hl 0 rfl) ?_
      refine va_get (D := gD g) (ci := 8) (v := .ref (a_t 64)) (C := R_Mo) (T := T_Mo) (N := 64) hx hb htb in_Mo hown hK hP 0 rfl rfl 63 (by decide) (htb _ L_Mo_138) (fun _ h9 => h9) rfl d_Mo_clean_43 ?_
      refine lv_iload_n hx hb d_Mo_clean_46 rfl (lv_at hl 3 rfl) ?_
      refine lv_iload_n hx hb d_Mo_clean_47 rfl (lv_at hl 1 rfl) ?_
      refine lv_isub hx hb d_Mo_clean_48 ?_
      by_cases c17 : ((x3 - x1) < 0 ∨ 420 ≤ (x3 - x1).toNatClampNeg)
      · replace h := (if_pos c17).symm.trans h
        cases h
      replace h := (if_neg c17).symm.trans h
      refine va_zald hx hb hK hP 32 2 rfl rfl c17 d_Mo_clean_49 ?_
      refine lv_if_ne (tgt := 80) hx hb d_Mo_clean_50 (by decide) (fun c18 => ?_) (fun c18 => ?_)
      · replace h := (if_neg c18).symm.trans h
        exact k_Mo_clean_80 hC _ _ _ _ _ _ h (fun z0 z1 z2 z3 z4 hz => ih z0 z1 z2 z3 z4 _ hz) _ _ _ hP hD hS (lv_sub hl [0, 1, 2, 3] rfl)
      · replace h := (if_pos c18).symm.trans h
        refine lv_aload_n hx hb d_Mo_clean_53 rfl (lv_at hl 0 rfl) ?_
        refine va_get (D := gD g) (ci := 8) (v := .ref (a_t 50)) (C := R_Mo) (T := T_Mo) (N := 64) hx hb htb in_Mo hown hK hP 0 rfl rfl 49 (by decide) (htb _ L_Mo_114) (fun _ h9 => h9) rfl d_Mo_clean_54 ?_
        refine lv_iload_n hx hb d_Mo_clean_57 rfl (lv_at hl 2 rfl) ?_
        refine lv_aload_n hx hb d_Mo_clean_58 rfl (lv_at hl 0 rfl) ?_
        refine va_get (D := gD g) (ci := 8) (v := .ref (a_t 50)) (C := R_Mo) (T := T_Mo) (N := 64) hx hb htb in_Mo hown hK hP 0 rfl rfl 49 (by decide) (htb _ L_Mo_114) (fun _ h9 => h9) rfl d_Mo_clean_59 ?_
        refine lv_iload_n hx hb d_Mo_clean_62 rfl (lv_at hl 3 rfl) ?_
        by_cases c19 : (x3 < 0 ∨ 34000 ≤ x3.toNatClampNeg)
        · replace h := (if_pos c19).symm.trans h
          cases h
        replace h := (if_neg c19).symm.trans h
        refine va_lald hx hb hK hP 24 3 rfl rfl c19 d_Mo_clean_63 ?_
        by_cases c21 : (x2 < 0 ∨ 34000 ≤ x2.toNatClampNeg)
        · replace h := (if_pos c21).symm.trans h
          cases h
        replace h := (if_neg c21).symm.trans h
        refine va_last hx hb hK hP hD hS 24 3 rfl rfl c21 d_Mo_clean_64 (fun H locs hP hD hS => ?_)
        obtain ⟨t_20, et_20, h⟩ := letS_el h
        have hP : va_P (gD g) vwCl ((pic_Mo g a_t t t_20)) H := by rw [et_20]; exact hP
        have hD : va_D A ((pic_Mo g a_t t t_20)) := by rw [et_20]; exact hD
        refine lv_aload_n hx hb d_Mo_clean_65 rfl (lv_at hl 0 rfl) ?_
        refine va_get (D := gD g) (ci := 8) (v := .ref (a_t 51)) (C := R_Mo) (T := T_Mo) (N := 64) hx hb htb in_Mo hown hK hP 0 rfl rfl 50 (by decide) (htb _ L_Mo_117) (fun _ h9 => h9) rfl d_Mo_clean_66 ?_
        refine lv_iload_n hx hb d_Mo_clean_69 rfl (lv_at hl 2 rfl) ?_
        refine lv_aload_n hx hb d_Mo_clean_70 rfl (lv_at hl 0 rfl) ?_
        refine va_get (D := gD g) (ci := 8) (v := .ref (a_t 51)) (C := R_Mo) (T := T_Mo) (N := 64) hx hb htb in_Mo hown hK hP 0 rfl rfl 50 (by decide) (htb _ L_Mo_117) (fun _ h9 => h9) rfl d_Mo_clean_71 ?_
        refine lv_iload_n hx hb d_Mo_clean_74 rfl (lv_at hl 3 rfl) ?_
        by_cases c22 : (x3 < 0 ∨ 34000 ≤ x3.toNatClampNeg)
        · replace h := (if_pos c22).symm.trans h
          cases h
        replace h := (if_neg c22).symm.trans h
        refine va_lald hx hb hK hP 25 3 rfl rfl c22 d_Mo_clean_75 ?_
        by_cases c24 : (x2 < 0 ∨ 34000 ≤ x2.toNatClampNeg)
        · replace h := (if_pos c24).symm.trans h
          cases h
        replace h := (if_neg c24).symm.trans h
        refine va_last hx hb hK hP hD hS 25 3 rfl rfl c24 d_Mo_clean_76 (fun H locs hP hD hS => ?_)
        obtain ⟨t_23, et_23, h⟩ := letS_el h
        have hP : va_P (gD g) vwCl ((pic_Mo g a_t t t_23)) H := by rw [et_23]; exact hP
        have hD : va_D A ((pic_Mo g a_t t t_23)) := by rw [et_23]; exact hD
        refine lv_iinc (v := (x2 + (1 : Int32))) (lv' := [(2, .int (x2 + (1 : Int32))), (0, .ref (a_t 0)), (1, .int x1), (3, .int x3)]) hx hb d_Mo_clean_77 hl (k := 2) rfl rfl (by decide) rfl (fun ls hl => ?_)
        exact k_Mo_clean_80 hC _ _ _ _ _ _ h (fun z0 z1 z2 z3 z4 hz => ih z0 z1 z2 z3 z4 _ hz) _ _ _ hP hD hS (lv_sub hl [1, 2, 0, 3] rfl)
set_option maxHeartbeats 4000000 in
set_option maxRecDepth 100000 in
theorem k_Mo_clean_2 {p : Program} {l : Launch} {e : Env} {s : State} {m : MethodId} {args : Array Value} {below : List Frame} {meth : Method} {c : Code} {g : Gz} {A : Nat → Prop} {F : Nat} {a_t : Nat → Nat} (hC : Cx prog_10_method_64_code 4 none R_Mo p s m args meth c g A A) : ∀ (n : Nat) (t : StI) (tL : StL) (x1 : Int32) (x2 : Int32) (res : StI × StL), Mo_clean_2 F n t tL x1 x2 = some res → Go p l e rm_Mo_clean s m args below meth c g A A 4 (MQ below (EV g ((pic_Mo g a_t res.1 res.2)) A) args s 0 0 A) ((pic_Mo g a_t t tL)) [(0, .ref (a_t 0)), (1, .int x1), (2, .int x2)] 2 [] := by
  obtain ⟨hx, hb, hr, hml, hown, htb, hlocks, hA, hAA, hG⟩ := id hC
  have hK := hG.1
  intro n
  induction n with
  | zero => intro t tL x1 x2 res h; rw [Mo_clean_2] at h; cases h
  | succ n ih =>
    intro t tL x1 x2 res h H locs ls hP hD hS hl
    rw [Mo_clean_2] at h
    refine lv_iload_n hx hb d_Mo_clean_2 rfl (lv_at hl 2 rfl) ?_
    refine lv_aload_n hx hb d_Mo_clean_3 rfl (lv_at hl 0 rfl) ?_
    refine va_get (D := gD g) (ci := 8) (v := .int (t 48 0)) (C := R_Mo) (T := T_Mo) (N := 64) hx hb htb in_Mo hown hK hP 0 rfl rfl 48 (by decide) (htb _ L_Mo_415) (fun _ h9 => h9) rfl d_Mo_clean_4 ?_
    refine lv_icmp_ge (tgt := 30) hx hb d_Mo_clean_7 (by decide) (fun c25 => ?_) (fun c25 => ?_)
    · replace h := (if_pos c25).symm.trans h
      refine lv_iload_n hx hb d_Mo_clean_30 rfl (lv_at hl 1 rfl) ?_
      refine lv_istore_n (lv' := [(2, .int x1), (0, .ref (a_t 0)), (1, .int x1)]) hx hb d_Mo_clean_31 rfl hl (by decide) rfl (fun ls hl => ?_)
      refine lv_iload_n hx hb d_Mo_clean_32 rfl (lv_at hl 2 rfl) ?_
      refine lv_istore_n (lv' := [(3, .int x1), (2, .int x1), (0, .ref (a_t 0)), (1, .int x1)]) hx hb d_Mo_clean_33 rfl hl (by decide) rfl (fun ls hl => ?_)
      exact k_Mo_clean_34 hC F _ _ _ _ _ _ h _ _ _ hP hD hS (lv_sub hl [2, 3, 1, 0] rfl)
    · replace h := (if_neg c25).symm.trans h
      refine lv_aload_n hx hb d_Mo_clean_10 rfl (lv_at hl 0 rfl) ?_
      refine va_get (D := gD g) (ci := 8) (v := .ref (a_t 64)) (C := R_Mo) (T := T_Mo) (N := 64) hx hb htb in_Mo hown hK hP 0 rfl rfl 63 (by decide) (htb _ L_Mo_138) (fun _ h9 => h9) rfl d_Mo_clean_11 ?_
      refine lv_iload_n hx hb d_Mo_clean_14 rfl (lv_at hl 2 rfl) ?_
      refine lv_iload_n hx hb d_Mo_clean_15 rfl (lv_at hl 1 rfl) ?_
      refine lv_isub hx hb d_Mo_clean_16 ?_
      refine lv_aload_n hx hb d_Mo_clean_17 rfl (lv_at hl 0 rfl) ?_
      refine lv_iload_n hx hb d_Mo_clean_18 rfl (lv_at hl 2 rfl) ?_
      refine lv_iload_n hx hb d_Mo_clean_19 rfl (lv_at hl 1 rfl) ?_
      obtain ⟨r26, hr26, h⟩ := Option.bind_eq_some_iff.mp h
      refine cl_Ir hP hS hA (va_runV (As := [.int x2, .int x1]) (rest := [.int (x2 - x1), .ref (a_t 64)]) ⟨hx, hb, hml, hown, htb⟩ (c_Mo_isLeftOut l g F a_t t tL x2 x1 _ hr26 H.size) (cw_V htb mb_Mo_isLeftOut (htb _ L_Mo_423) rfl rfl ⟨Nat.le_of_ble_eq_true rfl, Nat.le_of_ble_eq_true rfl⟩) (pre_V (va_recv hK hP (ci := 8) (q0 := 0) rfl rfl) (pre_S [0, 1, 2, 3, 4, 5, 6, 7, 8, 9, 10, 11, 12, 13, 14, 15, 16, 17, 18, 19, 20, 21, 22, 23, 24, 25, 26, 27, 28, 29, 30, 31, 32] rfl rfl hP hD hS hA hAA hG)) rfl rfl hl.1 rfl (lv_room (Nat.le_of_ble_eq_true rfl)) d_Mo_clean_20 ⟨Nat.zero_le _, Nat.zero_le _⟩) (fun H locs hP hS => ?_)
      by_cases c28 : ((x2 - x1) < 0 ∨ 420 ≤ (x2 - x1).toNatClampNeg)
      · replace h := (if_pos c28).symm.trans h
        cases h
      replace h := (if_neg c28).symm.trans h
      refine va_zast hx hb hK hP hD hS 32 2 rfl rfl c28 d_Mo_clean_23 (fun H locs hP hD hS => ?_)
      obtain ⟨t_27, et_27, h⟩ := letS_el h
      have hP : va_P (gD g) vwCl ((pic_Mo g a_t t_27 tL)) H := by rw [et_27]; exact hP
      have hD : va_D A ((pic_Mo g a_t t_27 tL)) := by rw [et_27]; exact hD
      refine lv_iinc (v := (x2 + (1 : Int32))) (lv' := [(2, .int (x2 + (1 : Int32))), (0, .ref (a_t 0)), (1, .int x1)]) hx hb d_Mo_clean_24 hl (k := 2) rfl rfl (by decide) rfl (fun ls hl => ?_)
      refine lv_goto (tgt := 2) hx hb d_Mo_clean_27 (by decide) ?_
      exact ih _ _ _ _ _ h _ _ _ hP hD hS (lv_sub hl [1, 2, 0] rfl)
set_option maxHeartbeats 4000000 in
set_option maxRecDepth 100000 in
theorem k_Mo_clean {p : Program} {l : Launch} {e : Env} {s : State} {m : MethodId} {args : Array Value} {below : List Frame} {meth : Method} {c : Code} {g : Gz} {A : Nat → Prop} {F : Nat} {a_t : Nat → Nat} (hC : Cx prog_10_method_64_code 4 none R_Mo p s m args meth c g A A) : ∀ (t : StI) (tL : StL) (x1 : Int32) (res : StI × StL), Mo_clean F t tL x1 = some res → Go p l e rm_Mo_clean s m args below meth c g A A 4 (MQ below (EV g ((pic_Mo g a_t res.1 res.2)) A) args s 0 0 A) ((pic_Mo g a_t t tL)) [(0, .ref (a_t 0)), (1, .int x1)] 0 [] := by
  obtain ⟨hx, hb, hr, hml, hown, htb, hlocks, hA, hAA, hG⟩ := id hC
  have hK := hG.1
  intro t tL x1 res h H locs ls hP hD hS hl
  rw [Mo_clean] at h
  refine lv_iload_n hx hb d_Mo_clean_0 rfl (lv_at hl 1 rfl) ?_
  refine lv_istore_n (lv' := [(2, .int x1), (0, .ref (a_t 0)), (1, .int x1)]) hx hb d_Mo_clean_1 rfl hl (by decide) rfl (fun ls hl => ?_)
  exact k_Mo_clean_2 hC F _ _ _ _ _ h _ _ _ hP hD hS (lv_sub hl [1, 2, 0] rfl)
theorem c_Mo_clean (l : Launch) (g : Gz) (F : Nat) (a_t : Nat → Nat) (t : StI) (tL : StL) (x1 : Int32) (res : StI × StL) (h : Mo_clean F t tL x1 = some res) : ∀ sz : Nat, Met l y_Mo_clean (.code y_Mo_clean prog_10_method_64_code 4 none :: TBL) rm_Mo_clean (va_Pc [.ref (a_t 0), .int x1] (Pre0 g ((pic_Mo g a_t t tL)) sz)) (EV g ((pic_Mo g a_t res.1 res.2)) (va_A ((pic_Mo g a_t t tL)) sz)) 0 0 (va_A ((pic_Mo g a_t t tL)) sz) :=
  ct_w (Qc := fun A => EV g ((pic_Mo g a_t res.1 res.2)) A) (by decide) (Nat.le_of_ble_eq_true rfl) (fun p e s m args below meth c A hC => k_Mo_clean hC t tL x1 res h)
def Mo_both_109 (F : Nat) (k13 : StI → StL → Int32 → Int32 → Int32 → Int32 → Option (StI × StL)) (t : StI) (tL : StL) (x1 : Int32) (x2 : Int32) (x3 : Int32) (x4 : Int32) : Option (StI × StL) := k13 t tL x1 x2 x3 (x4 + (1 : Int32))
def Mo_both_103 (F : Nat) (k13 : StI → StL → Int32 → Int32 → Int32 → Int32 → Option (StI × StL)) (k32 : StI → StL → Int32 → Int32 → Int32 → Int32 → Int32 → Option (StI × StL)) (t : StI) (tL : StL) (x1 : Int32) (x2 : Int32) (x3 : Int32) (x4 : Int32) (x5 : Int32) : Option (StI × StL) := k32 t tL x1 x2 x3 x4 (x5 + (1 : Int32))
def Mo_both_32 (F : Nat) (k13 : StI → StL → Int32 → Int32 → Int32 → Int32 → Option (StI × StL)) : Nat → StI → StL → Int32 → Int32 → Int32 → Int32 → Int32 → Option (StI × StL)
  | 0, _, _, _, _, _, _, _ => none
  | n + 1, t, tL, x1, x2, x3, x4, x5 => if x2 < 0 ∨ 1400 ≤ x2.toNatClampNeg then none else if ((t 61) x2.toNatClampNeg) ≤ x5 then Mo_both_109 F k13 t tL x1 x2 x3 x4 else if (t 51 0) = 0 then if x4 < 0 ∨ 34000 ≤ x4.toNatClampNeg then none else if x5 < 0 ∨ 34000 ≤ x5.toNatClampNeg then none else if x4 < 0 ∨ 34000 ≤ x4.toNatClampNeg then none else if x5 < 0 ∨ 34000 ≤ x5.toNatClampNeg then none else if (lg_cmp ((((tL 49) x4.toNatClampNeg) ||| ((tL 49) x5.toNatClampNeg)) &&& (((tL 50) x4.toNatClampNeg) ||| ((tL 50) x5.toNatClampNeg))) (0 : Int64)) = 0 then (Mo_addRow F t tL x3 (((tL 49) x4.toNatClampNeg) ||| ((tL 49) x5.toNatClampNeg)) (((tL 50) x4.toNatClampNeg) ||| ((tL 50) x5.toNatClampNeg))).bind fun r23 => Mo_both_103 F k13 (Mo_both_32 F k13 n) r23.1 r23.2 x1 x2 x3 x4 x5 else Mo_both_103 F k13 (Mo_both_32 F k13 n) t tL x1 x2 x3 x4 x5 else Mo_both_109 F k13 t tL x1 x2 x3 x4
def Mo_both_13 (F : Nat) : Nat → StI → StL → Int32 → Int32 → Int32 → Int32 → Option (StI × StL)
  | 0, _, _, _, _, _, _ => none
  | n + 1, t, tL, x1, x2, x3, x4 => if x1 < 0 ∨ 1400 ≤ x1.toNatClampNeg then none else if ((t 61) x1.toNatClampNeg) ≤ x4 then (Mo_clean F t tL x3).bind fun r26 => some (r26.1, r26.2) else if x2 < 0 ∨ 1400 ≤ x2.toNatClampNeg then none else Mo_both_32 F (Mo_both_13 F n) F t tL x1 x2 x3 x4 ((t 60) x2.toNatClampNeg)
def Mo_both (F : Nat) (t : StI) (tL : StL) (x1 : Int32) (x2 : Int32) : Option (StI × StL) := if x1 < 0 ∨ 1400 ≤ x1.toNatClampNeg then none else Mo_both_13 F F t tL x1 x2 (t 48 0) ((t 60) x1.toNatClampNeg)
set_option maxHeartbeats 4000000 in
set_option maxRecDepth 100000 in
theorem k_Mo_both_109 {p : Program} {l : Launch} {e : Env} {s : State} {m : MethodId} {args : Array Value} {below : List Frame} {meth : Method} {c : Code} {g : Gz} {A : Nat → Prop} {F : Nat} {a_t : Nat → Nat} {k13 : StI → StL → Int32 → Int32 → Int32 → Int32 → Option (StI × StL)} (hC : Cx prog_10_method_65_code 10 none R_Mo p s m args meth c g A A) : ∀ (t : StI) (tL : StL) (x1 : Int32) (x2 : Int32) (x3 : Int32) (x4 : Int32) (res : StI × StL), Mo_both_109 F k13 t tL x1 x2 x3 x4 = some res → (∀ (t : StI) (tL : StL) (x1 : Int32) (x2 : Int32) (x3 : Int32) (x4 : Int32), k13 t tL x1 x2 x3 x4 = some res → Go p l e rm_Mo_both s m args below meth c g A A 10 (MQ below (EV g ((pic_Mo g a_t res.1 res.2)) A) args s 0 0 A) ((pic_Mo g a_t t tL)) [(0, .ref (a_t 0)), (1, .int x1), (2, .int x2), (3, .int x3), (4, .int x4)] 13 []) → Go p l e rm_Mo_both s m args below meth c g A A 10 (MQ below (EV g ((pic_Mo g a_t res.1 res.2)) A) args s 0 0 A) ((pic_Mo g a_t t tL)) [(0, .ref (a_t 0)), (1, .int x1), (2, .int x2), (3, .int x3), (4, .int x4)] 109 [] := by
  obtain ⟨hx, hb, hr, hml, hown, htb, hlocks, hA, hAA, hG⟩ := id hC
  have hK := hG.1
  intro t tL x1 x2 x3 x4 res h hk13 H locs ls hP hD hS hl
  rw [Mo_both_109] at h
  refine lv_iinc (v := (x4 + (1 : Int32))) (lv' := [(4, .int (x4 + (1 : Int32))), (0, .ref (a_t 0)), (1, .int x1), (2, .int x2), (3, .int x3)]) hx hb d_Mo_both_109 hl (k := 4) rfl rfl (by decide) rfl (fun ls hl => ?_)
  refine lv_goto (tgt := 13) hx hb d_Mo_both_112 (by decide) ?_
  exact hk13 _ _ _ _ _ _ h _ _ _ hP hD hS (lv_sub hl [1, 2, 3, 4, 0] rfl)
set_option maxHeartbeats 4000000 in
set_option maxRecDepth 100000 in
theorem k_Mo_both_103 {p : Program} {l : Launch} {e : Env} {s : State} {m : MethodId} {args : Array Value} {below : List Frame} {meth : Method} {c : Code} {g : Gz} {A : Nat → Prop} {F : Nat} {a_t : Nat → Nat} {k13 : StI → StL → Int32 → Int32 → Int32 → Int32 → Option (StI × StL)} {k32 : StI → StL → Int32 → Int32 → Int32 → Int32 → Int32 → Option (StI × StL)} (hC : Cx prog_10_method_65_code 10 none R_Mo p s m args meth c g A A) : ∀ (t : StI) (tL : StL) (x1 : Int32) (x2 : Int32) (x3 : Int32) (x4 : Int32) (x5 : Int32) (res : StI × StL), Mo_both_103 F k13 k32 t tL x1 x2 x3 x4 x5 = some res → (∀ (t : StI) (tL : StL) (x1 : Int32) (x2 : Int32) (x3 : Int32) (x4 : Int32), k13 t tL x1 x2 x3 x4 = some res → Go p l e rm_Mo_both s m args below meth c g A A 10 (MQ below (EV g ((pic_Mo g a_t res.1 res.2)) A) args s 0 0 A) ((pic_Mo g a_t t tL)) [(0, .ref (a_t 0)), (1, .int x1), (2, .int x2), (3, .int x3), (4, .int x4)] 13 []) → (∀ (t : StI) (tL : StL) (x1 : Int32) (x2 : Int32) (x3 : Int32) (x4 : Int32) (x5 : Int32), k32 t tL x1 x2 x3 x4 x5 = some res → Go p l e rm_Mo_both s m args below meth c g A A 10 (MQ below (EV g ((pic_Mo g a_t res.1 res.2)) A) args s 0 0 A) ((pic_Mo g a_t t tL)) [(0, .ref (a_t 0)), (1, .int x1), (2, .int x2), (3, .int x3), (4, .int x4), (5, .int x5)] 32 []) → Go p l e rm_Mo_both s m args below meth c g A A 10 (MQ below (EV g ((pic_Mo g a_t res.1 res.2)) A) args s 0 0 A) ((pic_Mo g a_t t tL)) [(0, .ref (a_t 0)), (1, .int x1), (2, .int x2), (3, .int x3), (4, .int x4), (5, .int x5)] 103 [] := by
  obtain ⟨hx, hb, hr, hml, hown, htb, hlocks, hA, hAA, hG⟩ := id hC
  have hK := hG.1
  intro t tL x1 x2 x3 x4 x5 res h hk13 hk32 H locs ls hP hD hS hl
  rw [Mo_both_103] at h
  refine lv_iinc (v := (x5 + (1 : Int32))) (lv' := [(5, .int (x5 + (1 : Int32))), (0, .ref (a_t 0)), (1, .int x1), (2, .int x2), (3, .int x3), (4, .int x4)]) hx hb d_Mo_both_103 hl (k := 5) rfl rfl (by decide) rfl (fun ls hl => ?_)
  refine lv_goto (tgt := 32) hx hb d_Mo_both_106 (by decide) ?_
  exact hk32 _ _ _ _ _ _ _ h _ _ _ hP hD hS (lv_sub hl [1, 2, 3, 4, 5, 0] rfl)
set_option maxHeartbeats 4000000 in
set_option maxRecDepth 100000 in
theorem k_Mo_both_32 {p : Program} {l : Launch} {e : Env} {s : State} {m : MethodId} {args : Array Value} {below : List Frame} {meth : Method} {c : Code} {g : Gz} {A : Nat → Prop} {F : Nat} {a_t : Nat → Nat} {k13 : StI → StL → Int32 → Int32 → Int32 → Int32 → Option (StI × StL)} (hC : Cx prog_10_method_65_code 10 none R_Mo p s m args meth c g A A) : ∀ (n : Nat) (t : StI) (tL : StL) (x1 : Int32) (x2 : Int32) (x3 : Int32) (x4 : Int32) (x5 : Int32) (res : StI × StL), Mo_both_32 F k13 n t tL x1 x2 x3 x4 x5 = some res → (∀ (t : StI) (tL : StL) (x1 : Int32) (x2 : Int32) (x3 : Int32) (x4 : Int32), k13 t tL x1 x2 x3 x4 = some res → Go p l e rm_Mo_both s m args below meth c g A A 10 (MQ below (EV g ((pic_Mo g a_t res.1 res.2)) A) args s 0 0 A) ((pic_Mo g a_t t tL)) [(0, .ref (a_t 0)), (1, .int x1), (2, .int x2), (3, .int x3), (4, .int x4)] 13 []) → Go p l e rm_Mo_both s m args below meth c g A A 10 (MQ below (EV g ((pic_Mo g a_t res.1 res.2)) A) args s 0 0 A) ((pic_Mo g a_t t tL)) [(0, .ref (a_t 0)), (1, .int x1), (2, .int x2), (3, .int x3), (4, .int x4), (5, .int x5)] 32 [] := by
  obtain ⟨hx, hb, hr, hml, hown, htb, hlocks, hA, hAA, hG⟩ := id hC
  have hK := hG.1
  intro n
  induction n with
  | zero => intro t tL x1 x2 x3 x4 x5 res h hk13; rw [Mo_both_32] at h; cases h
  | succ n ih =>
    intro t tL x1 x2 x3 x4 x5 res h hk13 H locs ls hP hD hS hl
    rw [Mo_both_32] at h
    refine lv_iload hx hb d_Mo_both_32 (lv_at hl 5 rfl) ?_
    refine lv_aload_n hx hb d_Mo_both_34 rfl (lv_at hl 0 rfl) ?_
    refine va_get (D := gD g) (ci := 8) (v := .ref (a_t 62)) (C := R_Mo) (T := T_Mo) (N := 64) hx hb htb in_Mo hown hK hP 0 rfl rfl 61 (by decide) (htb _ L_Mo_132) (fun _ h9 => h9) rfl d_Mo_both_35 ?_
    refine lv_iload_n hx hb d_Mo_both_38 rfl (lv_at hl 2 rfl) ?_
    by_cases c15 : (x2 < 0 ∨ 1400 ≤ x2.toNatClampNeg)
    · replace h := (if_pos c15).symm.trans h
      cases h
    replace h := (if_neg c15).symm.trans h
    refine va_iald hx hb hK hP 30 0 rfl rfl c15 d_Mo_both_39 ?_
    refine lv_icmp_ge (tgt := 109) hx hb d_Mo_both_40 (by decide) (fun c16 => ?_) (fun c16 => ?_)
    · replace h := (if_pos c16).symm.trans h
      exact k_Mo_both_109 hC _ _ _ _ _ _ _ h hk13 _ _ _ hP hD hS (lv_sub hl [0, 1, 2, 3, 4] rfl)
    · replace h := (if_neg c16).symm.trans h
      refine lv_aload_n hx hb d_Mo_both_43 rfl (lv_at hl 0 rfl) ?_
      refine va_get (D := gD g) (ci := 8) (v := .int (t 51 0)) (C := R_Mo) (T := T_Mo) (N := 64) hx hb htb in_Mo hown hK hP 0 rfl rfl 51 (by decide) (htb _ L_Mo_418) (fun _ h9 => h9) rfl d_Mo_both_44 ?_
      refine lv_if_ne (tgt := 109) hx hb d_Mo_both_47 (by decide) (fun c17 => ?_) (fun c17 => ?_)
      · replace h := (if_neg c17).symm.trans h
        exact k_Mo_both_109 hC _ _ _ _ _ _ _ h hk13 _ _ _ hP hD hS (lv_sub hl [0, 1, 2, 3, 4] rfl)
      · replace h := (if_pos c17).symm.trans h
        refine lv_aload_n hx hb d_Mo_both_50 rfl (lv_at hl 0 rfl) ?_
        refine va_get (D := gD g) (ci := 8) (v := .ref (a_t 50)) (C := R_Mo) (T := T_Mo) (N := 64) hx hb htb in_Mo hown hK hP 0 rfl rfl 49 (by decide) (htb _ L_Mo_114) (fun _ h9 => h9) rfl d_Mo_both_51 ?_
        refine lv_iload hx hb d_Mo_both_54 (lv_at hl 4 rfl) ?_
        by_cases c18 : (x4 < 0 ∨ 34000 ≤ x4.toNatClampNeg)
        · replace h := (if_pos c18).symm.trans h
          cases h
        replace h := (if_neg c18).symm.trans h
        refine va_lald hx hb hK hP 24 3 rfl rfl c18 d_Mo_both_56 ?_
        refine lv_aload_n hx hb d_Mo_both_57 rfl (lv_at hl 0 rfl) ?_
        refine va_get (D := gD g) (ci := 8) (v := .ref (a_t 50)) (C := R_Mo) (T := T_Mo) (N := 64) hx hb htb in_Mo hown hK hP 0 rfl rfl 49 (by decide) (htb _ L_Mo_114) (fun _ h9 => h9) rfl d_Mo_both_58 ?_
        refine lv_iload hx hb d_Mo_both_61 (lv_at hl 5 rfl) ?_
        by_cases c19 : (x5 < 0 ∨ 34000 ≤ x5.toNatClampNeg)
        · replace h := (if_pos c19).symm.trans h
          cases h
        replace h := (if_neg c19).symm.trans h
        refine va_lald hx hb hK hP 24 3 rfl rfl c19 d_Mo_both_63 ?_
        refine lv_lor hx hb d_Mo_both_64 ?_
        refine lv_lstore (lv' := [(6, .long (((tL 49) x4.toNatClampNeg) ||| ((tL 49) x5.toNatClampNeg))), (0, .ref (a_t 0)), (1, .int x1), (2, .int x2), (3, .int x3), (4, .int x4), (5, .int x5)]) hx hb d_Mo_both_65 hl (by decide) rfl (fun ls hl => ?_)
        refine lv_aload_n hx hb d_Mo_both_67 rfl (lv_at hl 1 rfl) ?_
        refine va_get (D := gD g) (ci := 8) (v := .ref (a_t 51)) (C := R_Mo) (T := T_Mo) (N := 64) hx hb htb in_Mo hown hK hP 0 rfl rfl 50 (by decide) (htb _ L_Mo_117) (fun _ h9 => h9) rfl d_Mo_both_68 ?_
        refine lv_iload hx hb d_Mo_both_71 (lv_at hl 5 rfl) ?_
        by_cases c20 : (x4 < 0 ∨ 34000 ≤ x4.toNatClampNeg)
        · replace h := (if_pos c20).symm.trans h
          cases h
        replace h := (if_neg c20).symm.trans h
        refine va_lald hx hb hK hP 25 3 rfl rfl c20 d_Mo_both_73 ?_
        refine lv_aload_n hx hb d_Mo_both_74 rfl (lv_at hl 1 rfl) ?_
        refine va_get (D := gD g) (ci := 8) (v := .ref (a_t 51)) (C := R_Mo) (T := T_Mo) (N := 64) hx hb htb in_Mo hown hK hP 0 rfl rfl 50 (by decide) (htb _ L_Mo_117) (fun _ h9 => h9) rfl d_Mo_both_75 ?_
        refine lv_iload hx hb d_Mo_both_78 (lv_at hl 6 rfl) ?_
        by_cases c21 : (x5 < 0 ∨ 34000 ≤ x5.toNatClampNeg)
        · replace h := (if_pos c21).symm.trans h
          cases h
        replace h := (if_neg c21).symm.trans h
        refine va_lald hx hb hK hP 25 3 rfl rfl c21 d_Mo_both_80 ?_
        refine lv_lor hx hb d_Mo_both_81 ?_
        refine lv_lstore (lv' := [(8, .long (((tL 50) x4.toNatClampNeg) ||| ((tL 50) x5.toNatClampNeg))), (6, .long (((tL 49) x4.toNatClampNeg) ||| ((tL 49) x5.toNatClampNeg))), (0, .ref (a_t 0)), (1, .int x1), (2, .int x2), (3, .int x3), (4, .int x4), (5, .int x5)]) hx hb d_Mo_both_82 hl (by decide) rfl (fun ls hl => ?_)
        refine lv_lload hx hb d_Mo_both_84 (lv_at hl 1 rfl) ?_
        refine lv_lload hx hb d_Mo_both_86 (lv_at hl 0 rfl) ?_
        refine lv_land hx hb d_Mo_both_88 ?_
        refine lv_lconst (v := 0) hx hb d_Mo_both_89 (by decide) ?_
        refine W.lcmp hx hb d_Mo_both_90 ?_
        refine lv_if_ne (tgt := 103) hx hb d_Mo_both_91 (by decide) (fun c22 => ?_) (fun c22 => ?_)
        · replace h := (if_neg c22).symm.trans h
          exact k_Mo_both_103 hC _ _ _ _ _ _ _ _ h hk13 (fun z0 z1 z2 z3 z4 z5 z6 hz => ih z0 z1 z2 z3 z4 z5 z6 _ hz hk13) _ _ _ hP hD hS (lv_sub hl [2, 3, 4, 5, 6, 7] rfl)
        · replace h := (if_pos c22).symm.trans h
          refine lv_aload_n hx hb d_Mo_both_94 rfl (lv_at hl 2 rfl) ?_
          refine lv_iload_n hx hb d_Mo_both_95 rfl (lv_at hl 5 rfl) ?_
          refine lv_lload hx hb d_Mo_both_96 (lv_at hl 1 rfl) ?_
          refine lv_lload hx hb d_Mo_both_98 (lv_at hl 0 rfl) ?_
          obtain ⟨r23, hr23, h⟩ := Option.bind_eq_some_iff.mp h
          refine cl_V (wr := []) [0, 1, 2, 3, 4, 5, 6, 7, 8, 9, 10, 11, 12, 13, 14, 15, 16, 17, 18, 19, 20, 21, 22, 23, 24, 25, 26, 27, 28, 29, 30, 31, 32] [] rfl rfl rfl (by decide) hP hD hS hA (va_runV (As := [.int x3, .long (((tL 49) x4.toNatClampNeg) ||| ((tL 49) x5.toNatClampNeg)), .long (((tL 50) x4.toNatClampNeg) ||| ((tL 50) x5.toNatClampNeg))]) (rest := []) ⟨hx, hb, hml, hown, htb⟩ (c_Mo_addRow l g F a_t t tL x3 (((tL 49) x4.toNatClampNeg) ||| ((tL 49) x5.toNatClampNeg)) (((tL 50) x4.toNatClampNeg) ||| ((tL 50) x5.toNatClampNeg)) _ hr23 H.size) (cw_V htb mb_Mo_addRow (htb _ L_Mo_426) rfl rfl ⟨Nat.le_of_ble_eq_true rfl, Nat.le_of_ble_eq_true rfl⟩) (pre_V (va_recv hK hP (ci := 8) (q0 := 0) rfl rfl) (pre_S [0, 1, 2, 3, 4, 5, 6, 7, 8, 9, 10, 11, 12, 13, 14, 15, 16, 17, 18, 19, 20, 21, 22, 23, 24, 25, 26, 27, 28, 29, 30, 31, 32] rfl rfl hP hD hS hA hAA hG)) rfl rfl hl.1 rfl (lv_room (Nat.le_of_ble_eq_true rfl)) d_Mo_both_100 ⟨Nat.zero_le _, Nat.zero_le _⟩) (fun H locs hP hD hS => ?_)
          have hP : va_P (gD g) vwCl ((pic_Mo g a_t r23.1 r23.2)) H := hP.sub [0, 1, 2, 3, 4, 5, 6, 7, 8, 9, 10, 11, 12, 13, 14, 15, 16, 17, 18, 19, 20, 21, 22, 23, 24, 25, 26, 27, 28, 29, 30, 31, 32] rfl
          have hD : va_D A ((pic_Mo g a_t r23.1 r23.2)) := hD.sub [0, 1, 2, 3, 4, 5, 6, 7, 8, 9, 10, 11, 12, 13, 14, 15, 16, 17, 18, 19, 20, 21, 22, 23, 24, 25, 26, 27, 28, 29, 30, 31, 32] rfl rfl
          exact k_Mo_both_103 hC _ _ _ _ _ _ _ _ h hk13 (fun z0 z1 z2 z3 z4 z5 z6 hz => ih z0 z1 z2 z3 z4 z5 z6 _ hz hk13) _ _ _ hP hD hS (lv_sub hl [2, 3, 4, 5, 6, 7] rfl)
set_option maxHeartbeats 4000000 in
set_option maxRecDepth 100000 in
theorem k_Mo_both_13 {p : Program} {l : Launch} {e : Env} {s : State} {m : MethodId} {args : Array Value} {below : List Frame} {meth : Method} {c : Code} {g : Gz} {A : Nat → Prop} {F : Nat} {a_t : Nat → Nat} (hC : Cx prog_10_method_65_code 10 none R_Mo p s m args meth c g A A) : ∀ (n : Nat) (t : StI) (tL : StL) (x1 : Int32) (x2 : Int32) (x3 : Int32) (x4 : Int32) (res : StI × StL), Mo_both_13 F n t tL x1 x2 x3 x4 = some res → Go p l e rm_Mo_both s m args below meth c g A A 10 (MQ below (EV g ((pic_Mo g a_t res.1 res.2)) A) args s 0 0 A) ((pic_Mo g a_t t tL)) [(0, .ref (a_t 0)), (1, .int x1), (2, .int x2), (3, .int x3), (4, .int x4)] 13 [] := by
  obtain ⟨hx, hb, hr, hml, hown, htb, hlocks, hA, hAA, hG⟩ := id hC
  have hK := hG.1
  intro n
  induction n with
  | zero => intro t tL x1 x2 x3 x4 res h; rw [Mo_both_13] at h; cases h
  | succ n ih =>
    intro t tL x1 x2 x3 x4 res h H locs ls hP hD hS hl
    rw [Mo_both_13] at h
    refine lv_iload hx hb d_Mo_both_13 (lv_at hl 4 rfl) ?_
    refine lv_aload_n hx hb d_Mo_both_15 rfl (lv_at hl 0 rfl) ?_
    refine va_get (D := gD g) (ci := 8) (v := .ref (a_t 62)) (C := R_Mo) (T := T_Mo) (N := 64) hx hb htb in_Mo hown hK hP 0 rfl rfl 61 (by decide) (htb _ L_Mo_132) (fun _ h9 => h9) rfl d_Mo_both_16 ?_
    refine lv_iload_n hx hb d_Mo_both_19 rfl (lv_at hl 1 rfl) ?_
    by_cases c24 : (x1 < 0 ∨ 1400 ≤ x1.toNatClampNeg)
    · replace h := (if_pos c24).symm.trans h
      cases h
    replace h := (if_neg c24).symm.trans h
    refine va_iald hx hb hK hP 30 0 rfl rfl c24 d_Mo_both_20 ?_
    refine lv_icmp_ge (tgt := 115) hx hb d_Mo_both_21 (by decide) (fun c25 => ?_) (fun c25 => ?_)
    · replace h := (if_pos c25).symm.trans h
      refine lv_aload_n hx hb d_Mo_both_115 rfl (lv_at hl 0 rfl) ?_
      refine lv_iload_n hx hb d_Mo_both_116 rfl (lv_at hl 3 rfl) ?_
      obtain ⟨r26, hr26, h⟩ := Option.bind_eq_some_iff.mp h
      refine cl_V (wr := []) [0, 1, 2, 3, 4, 5, 6, 7, 8, 9, 10, 11, 12, 13, 14, 15, 16, 17, 18, 19, 20, 21, 22, 23, 24, 25, 26, 27, 28, 29, 30, 31, 32] [] rfl rfl rfl (by decide) hP hD hS hA (va_runV (As := [.int x3]) (rest := []) ⟨hx, hb, hml, hown, htb⟩ (c_Mo_clean l g F a_t t tL x3 _ hr26 H.size) (cw_V htb mb_Mo_clean (htb _ L_Mo_430) rfl rfl ⟨Nat.le_of_ble_eq_true rfl, Nat.le_of_ble_eq_true rfl⟩) (pre_V (va_recv hK hP (ci := 8) (q0 := 0) rfl rfl) (pre_S [0, 1, 2, 3, 4, 5, 6, 7, 8, 9, 10, 11, 12, 13, 14, 15, 16, 17, 18, 19, 20, 21, 22, 23, 24, 25, 26, 27, 28, 29, 30, 31, 32] rfl rfl hP hD hS hA hAA hG)) rfl rfl hl.1 rfl (lv_room (Nat.le_of_ble_eq_true rfl)) d_Mo_both_117 ⟨Nat.zero_le _, Nat.zero_le _⟩) (fun H locs hP hD hS => ?_)
      have hP : va_P (gD g) vwCl ((pic_Mo g a_t r26.1 r26.2)) H := hP.sub [0, 1, 2, 3, 4, 5, 6, 7, 8, 9, 10, 11, 12, 13, 14, 15, 16, 17, 18, 19, 20, 21, 22, 23, 24, 25, 26, 27, 28, 29, 30, 31, 32] rfl
      have hD : va_D A ((pic_Mo g a_t r26.1 r26.2)) := hD.sub [0, 1, 2, 3, 4, 5, 6, 7, 8, 9, 10, 11, 12, 13, 14, 15, 16, 17, 18, 19, 20, 21, 22, 23, 24, 25, 26, 27, 28, 29, 30, 31, 32] rfl rfl
      cases h
      exact W.vret hx hb hr (fun t ht hW => ⟨⟨(), rfl, trivial, by rw [ht]; exact hP, hD⟩, hS.F ht⟩) hS.2.2 d_Mo_both_120
    · replace h := (if_neg c25).symm.trans h
      refine lv_aload_n hx hb d_Mo_both_24 rfl (lv_at hl 0 rfl) ?_
      refine va_get (D := gD g) (ci := 8) (v := .ref (a_t 61)) (C := R_Mo) (T := T_Mo) (N := 64) hx hb htb in_Mo hown hK hP 0 rfl rfl 60 (by decide) (htb _ L_Mo_129) (fun _ h9 => h9) rfl d_Mo_both_25 ?_
      refine lv_iload_n hx hb d_Mo_both_28 rfl (lv_at hl 2 rfl) ?_
      by_cases c27 : (x2 < 0 ∨ 1400 ≤ x2.toNatClampNeg)
      · replace h := (if_pos c27).symm.trans h
        cases h
      replace h := (if_neg c27).symm.trans h
      refine va_iald hx hb hK hP 29 0 rfl rfl c27 d_Mo_both_29 ?_
      refine lv_istore (lv' := [(5, .int ((t 60) x2.toNatClampNeg)), (0, .ref (a_t 0)), (1, .int x1), (2, .int x2), (3, .int x3), (4, .int x4)]) hx hb d_Mo_both_30 hl (by decide) rfl (fun ls hl => ?_)
      exact k_Mo_both_32 hC F _ _ _ _ _ _ _ _ h (fun z0 z1 z2 z3 z4 z5 hz => ih z0 z1 z2 z3 z4 z5 _ hz) _ _ _ hP hD hS (lv_sub hl [1, 2, 3, 4, 5, 0] rfl)
set_option maxHeartbeats 4000000 in
set_option maxRecDepth 100000 in
theorem k_Mo_both {p : Program} {l : Launch} {e : Env} {s : State} {m : MethodId} {args : Array Value} {below : List Frame} {meth : Method} {c : Code} {g : Gz} {A : Nat → Prop} {F : Nat} {a_t : Nat → Nat} (hC : Cx prog_10_method_65_code 10 none R_Mo p s m args meth c g A A) : ∀ (t : StI) (tL : StL) (x1 : Int32) (x2 : Int32) (res : StI × StL), Mo_both F t tL x1 x2 = some res → Go p l e rm_Mo_both s m args below meth c g A A 10 (MQ below (EV g ((pic_Mo g a_t res.1 res.2)) A) args s 0 0 A) ((pic_Mo g a_t t tL)) [(0, .ref (a_t 0)), (1, .int x1), (2, .int x2)] 0 [] := by
  obtain ⟨hx, hb, hr, hml, hown, htb, hlocks, hA, hAA, hG⟩ := id hC
  have hK := hG.1
  intro t tL x1 x2 res h H locs ls hP hD hS hl
  rw [Mo_both] at h
  refine lv_aload_n hx hb d_Mo_both_0 rfl (lv_at hl 0 rfl) ?_
  refine va_get (D := gD g) (ci := 8) (v := .int (t 48 0)) (C := R_Mo) (T := T_Mo) (N := 64) hx hb htb in_Mo hown hK hP 0 rfl rfl 48 (by decide) (htb _ L_Mo_415) (fun _ h9 => h9) rfl d_Mo_both_1 ?_
  refine lv_istore_n (lv' := [(3, .int (t 48 0)), (0, .ref (a_t 0)), (1, .int x1), (2, .int x2)]) hx hb d_Mo_both_4 rfl hl (by decide) rfl (fun ls hl => ?_)
  refine lv_aload_n hx hb d_Mo_both_5 rfl (lv_at hl 1 rfl) ?_
  refine va_get (D := gD g) (ci := 8) (v := .ref (a_t 61)) (C := R_Mo) (T := T_Mo) (N := 64) hx hb htb in_Mo hown hK hP 0 rfl rfl 60 (by decide) (htb _ L_Mo_129) (fun _ h9 => h9) rfl d_Mo_both_6 ?_
  refine lv_iload_n hx hb d_Mo_both_9 rfl (lv_at hl 2 rfl) ?_
  by_cases c28 : (x1 < 0 ∨ 1400 ≤ x1.toNatClampNeg)
  · replace h := (if_pos c28).symm.trans h
    cases h
  replace h := (if_neg c28).symm.trans h
  refine va_iald hx hb hK hP 29 0 rfl rfl c28 d_Mo_both_10 ?_
  refine lv_istore (lv' := [(4, .int ((t 60) x1.toNatClampNeg)), (3, .int (t 48 0)), (0, .ref (a_t 0)), (1, .int x1), (2, .int x2)]) hx hb d_Mo_both_11 hl (by decide) rfl (fun ls hl => ?_)
  exact k_Mo_both_13 hC F _ _ _ _ _ _ _ h _ _ _ hP hD hS (lv_sub hl [2, 3, 4, 1, 0] rfl)
theorem c_Mo_both (l : Launch) (g : Gz) (F : Nat) (a_t : Nat → Nat) (t : StI) (tL : StL) (x1 : Int32) (x2 : Int32) (res : StI × StL) (h : Mo_both F t tL x1 x2 = some res) : ∀ sz : Nat, Met l y_Mo_both (.code y_Mo_both prog_10_method_65_code 10 none :: TBL) rm_Mo_both (va_Pc [.ref (a_t 0), .int x1, .int x2] (Pre0 g ((pic_Mo g a_t t tL)) sz)) (EV g ((pic_Mo g a_t res.1 res.2)) (va_A ((pic_Mo g a_t t tL)) sz)) 0 0 (va_A ((pic_Mo g a_t t tL)) sz) :=
  ct_w (Qc := fun A => EV g ((pic_Mo g a_t res.1 res.2)) A) (by decide) (Nat.le_of_ble_eq_true rfl) (fun p e s m args below meth c A hC => k_Mo_both hC t tL x1 x2 res h)
