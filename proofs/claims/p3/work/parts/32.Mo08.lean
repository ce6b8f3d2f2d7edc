set_option maxRecDepth 100000 in
theorem W_Mo_either_code : (Jvm.Cond.code ({ cls := "MailQueriesModel", name := "either", desc := "(II)V" } : Jvm.MethodName) prog_10_method_66_code (5 : Nat) (Option.none : Option Jvm.ClassFile.FieldType)) ∈ TBL := TBL_in (List.mem_of_getElem? (i := 1442) rfl) rfl
theorem W_Mo_either_in : (Jvm.Cond.instanceMethod ({ cls := "MailQueriesModel", name := "either", desc := "(II)V" } : Jvm.MethodName)) ∈ TBL := TBL_in (List.mem_of_getElem? (i := 1441) (by decide +kernel)) (by decide +kernel)
theorem sel_98 : Cond.selects "MailQueriesModel" ⟨"MailQueriesModel", "either", "(II)V"⟩ ⟨"MailQueriesModel", "either", "(II)V"⟩ ∈ TBL := TBL_in (List.mem_of_getElem? (i := 98) (by decide +kernel)) (by decide +kernel)
theorem L_Mo_135 : (Jvm.Cond.fieldLink "MailQueriesModel" (135 : Nat) "MailQueriesModel" "wanted" "[Z") ∈ TBL := TBL_in (List.mem_of_getElem? (i := 1029) (by decide +kernel)) (by decide +kernel)
set_option maxRecDepth 100000 in
theorem W_Mo_want_code : (Jvm.Cond.code ({ cls := "MailQueriesModel", name := "want", desc := "(II)V" } : Jvm.MethodName) prog_10_method_67_code (5 : Nat) (Option.none : Option Jvm.ClassFile.FieldType)) ∈ TBL := TBL_in (List.mem_of_getElem? (i := 1413) rfl) rfl
theorem W_Mo_want_in : (Jvm.Cond.instanceMethod ({ cls := "MailQueriesModel", name := "want", desc := "(II)V" } : Jvm.MethodName)) ∈ TBL := TBL_in (List.mem_of_getElem? (i := 1412) (by decide +kernel)) (by decide +kernel)
theorem sel_91 : Cond.selects "MailQueriesModel" ⟨"MailQueriesModel", "want", "(II)V"⟩ ⟨"MailQueriesModel", "want", "(II)V"⟩ ∈ TBL := TBL_in (List.mem_of_getElem? (i := 91) (by decide +kernel)) (by decide +kernel)
theorem L_Mo_433 : (Jvm.Cond.methodLink "MailQueriesModel" (433 : Nat) ({ cls := "MailQueriesModel", name := "both", desc := "(II)V" } : Jvm.MethodName)) ∈ TBL := TBL_in (List.mem_of_getElem? (i := 1426) (by decide +kernel)) (by decide +kernel)
theorem L_Mo_436 : (Jvm.Cond.methodLink "MailQueriesModel" (436 : Nat) ({ cls := "MailQueriesModel", name := "either", desc := "(II)V" } : Jvm.MethodName)) ∈ TBL := TBL_in (List.mem_of_getElem? (i := 1439) (by decide +kernel)) (by decide +kernel)
set_option maxRecDepth 100000 in
theorem W_Mo_makeList_code : (Jvm.Cond.code ({ cls := "MailQueriesModel", name := "makeList", desc := "(II)V" } : Jvm.MethodName) prog_10_method_68_code (6 : Nat) (Option.none : Option Jvm.ClassFile.FieldType)) ∈ TBL := TBL_in (List.mem_of_getElem? (i := 1421) rfl) rfl
theorem W_Mo_makeList_in : (Jvm.Cond.instanceMethod ({ cls := "MailQueriesModel", name := "makeList", desc := "(II)V" } : Jvm.MethodName)) ∈ TBL := TBL_in (List.mem_of_getElem? (i := 1420) (by decide +kernel)) (by decide +kernel)
theorem sel_93 : Cond.selects "MailQueriesModel" ⟨"MailQueriesModel", "makeList", "(II)V"⟩ ⟨"MailQueriesModel", "makeList", "(II)V"⟩ ∈ TBL := TBL_in (List.mem_of_getElem? (i := 93) (by decide +kernel)) (by decide +kernel)
theorem L_Mo_439 : (Jvm.Cond.methodLink "MailQueriesModel" (439 : Nat) ({ cls := "MailQueriesModel", name := "makeList", desc := "(II)V" } : Jvm.MethodName)) ∈ TBL := TBL_in (List.mem_of_getElem? (i := 1418) (by decide +kernel)) (by decide +kernel)
set_option maxRecDepth 100000 in
theorem W_Mo_make_code : (Jvm.Cond.code ({ cls := "MailQueriesModel", name := "make", desc := "(II)V" } : Jvm.MethodName) prog_10_method_69_code (3 : Nat) (Option.none : Option Jvm.ClassFile.FieldType)) ∈ TBL := TBL_in (List.mem_of_getElem? (i := 1417) rfl) rfl
theorem W_Mo_make_in : (Jvm.Cond.instanceMethod ({ cls := "MailQueriesModel", name := "make", desc := "(II)V" } : Jvm.MethodName)) ∈ TBL := TBL_in (List.mem_of_getElem? (i := 1416) (by decide +kernel)) (by decide +kernel)
theorem sel_92 : Cond.selects "MailQueriesModel" ⟨"MailQueriesModel", "make", "(II)V"⟩ ⟨"MailQueriesModel", "make", "(II)V"⟩ ∈ TBL := TBL_in (List.mem_of_getElem? (i := 92) (by decide +kernel)) (by decide +kernel)
theorem L_Mo_442 : (Jvm.Cond.fieldLink "MailQueriesModel" (442 : Nat) "MailQueriesModel" "normals" "I") ∈ TBL := TBL_in (List.mem_of_getElem? (i := 1019) (by decide +kernel)) (by decide +kernel)
theorem L_Mo_120 : (Jvm.Cond.fieldLink "MailQueriesModel" (120 : Nat) "MailQueriesModel" "normalAs" "[J") ∈ TBL := TBL_in (List.mem_of_getElem? (i := 1020) (by decide +kernel)) (by decide +kernel)
theorem L_Mo_123 : (Jvm.Cond.fieldLink "MailQueriesModel" (123 : Nat) "MailQueriesModel" "normalNot" "[J") ∈ TBL := TBL_in (List.mem_of_getElem? (i := 1021) (by decide +kernel)) (by decide +kernel)
theorem L_Mo_448 : (Jvm.Cond.methodLink "MailQueriesModel" (448 : Nat) ({ cls := "MailQueriesModel", name := "make", desc := "(II)V" } : Jvm.MethodName)) ∈ TBL := TBL_in (List.mem_of_getElem? (i := 1414) (by decide +kernel)) (by decide +kernel)
theorem L_Mo_445 : (Jvm.Cond.methodLink "MailQueriesModel" (445 : Nat) ({ cls := "MailQueriesModel", name := "want", desc := "(II)V" } : Jvm.MethodName)) ∈ TBL := TBL_in (List.mem_of_getElem? (i := 1410) (by decide +kernel)) (by decide +kernel)
set_option maxRecDepth 100000 in
theorem W_Mo_normal_code : (Jvm.Cond.code ({ cls := "MailQueriesModel", name := "normal", desc := "()I" } : Jvm.MethodName) prog_10_method_70_code (2 : Nat) (Option.some Jvm.ClassFile.FieldType.int)) ∈ TBL := TBL_in (List.mem_of_getElem? (i := 1409) rfl) rfl
theorem W_Mo_normal_in : (Jvm.Cond.instanceMethod ({ cls := "MailQueriesModel", name := "normal", desc := "()I" } : Jvm.MethodName)) ∈ TBL := TBL_in (List.mem_of_getElem? (i := 1407) (by decide +kernel)) (by decide +kernel)
theorem W_Mo_normal_se : (Jvm.Cond.selects "MailQueriesModel" ({ cls := "MailQueriesModel", name := "normal", desc := "()I" } : Jvm.MethodName) ({ cls := "MailQueriesModel", name := "normal", desc := "()I" } : Jvm.MethodName)) ∈ TBL := TBL_in (List.mem_of_getElem? (i := 1408) (by decide +kernel)) (by decide +kernel)
set_option maxRecDepth 100000 in
theorem W_Mo_row_code : (Jvm.Cond.code ({ cls := "MailQueriesModel", name := "row", desc := "(IZ)J" } : Jvm.MethodName) prog_10_method_71_code (3 : Nat) (Option.some Jvm.ClassFile.FieldType.long)) ∈ TBL := TBL_in (List.mem_of_getElem? (i := 1446) rfl) rfl
theorem W_Mo_row_in : (Jvm.Cond.instanceMethod ({ cls := "MailQueriesModel", name := "row", desc := "(IZ)J" } : Jvm.MethodName)) ∈ TBL := TBL_in (List.mem_of_getElem? (i := 1444) (by decide +kernel)) (by decide +kernel)
theorem W_Mo_row_se : (Jvm.Cond.selects "MailQueriesModel" ({ cls := "MailQueriesModel", name := "row", desc := "(IZ)J" } : Jvm.MethodName) ({ cls := "MailQueriesModel", name := "row", desc := "(IZ)J" } : Jvm.MethodName)) ∈ TBL := TBL_in (List.mem_of_getElem? (i := 1445) (by decide +kernel)) (by decide +kernel)
theorem L_Mo_126 : (Jvm.Cond.fieldLink "MailQueriesModel" (126 : Nat) "MailQueriesModel" "truth" "[Z") ∈ TBL := TBL_in (List.mem_of_getElem? (i := 1022) (by decide +kernel)) (by decide +kernel)
set_option maxRecDepth 100000 in
theorem W_Mo_answers_code : (Jvm.Cond.code ({ cls := "MailQueriesModel", name := "answers", desc := "(J)Z" } : Jvm.MethodName) prog_10_method_72_code (4 : Nat) (Option.some Jvm.ClassFile.FieldType.boolean)) ∈ TBL := TBL_in (List.mem_of_getElem? (i := 1454) rfl) rfl
theorem W_Mo_answers_in : (Jvm.Cond.instanceMethod ({ cls := "MailQueriesModel", name := "answers", desc := "(J)Z" } : Jvm.MethodName)) ∈ TBL := TBL_in (List.mem_of_getElem? (i := 1453) (by decide +kernel)) (by decide +kernel)
theorem sel_99 : Cond.selects "MailQueriesModel" ⟨"MailQueriesModel", "answers", "(J)Z"⟩ ⟨"MailQueriesModel", "answers", "(J)Z"⟩ ∈ TBL := TBL_in (List.mem_of_getElem? (i := 99) (by decide +kernel)) (by decide +kernel)
theorem L_Mo_451 : (Jvm.Cond.methodLink "MailQueriesModel" (451 : Nat) ({ cls := "MailQueriesModel", name := "answers", desc := "(J)Z" } : Jvm.MethodName)) ∈ TBL := TBL_in (List.mem_of_getElem? (i := 1451) (by decide +kernel)) (by decide +kernel)
set_option maxRecDepth 100000 in
theorem W_Mo_ask_code : (Jvm.Cond.code ({ cls := "MailQueriesModel", name := "ask", desc := "(J)Z" } : Jvm.MethodName) prog_10_method_73_code (3 : Nat) (Option.some Jvm.ClassFile.FieldType.boolean)) ∈ TBL := TBL_in (List.mem_of_getElem? (i := 1450) rfl) rfl
theorem W_Mo_ask_in : (Jvm.Cond.instanceMethod ({ cls := "MailQueriesModel", name := "ask", desc := "(J)Z" } : Jvm.MethodName)) ∈ TBL := TBL_in (List.mem_of_getElem? (i := 1448) (by decide +kernel)) (by decide +kernel)
theorem W_Mo_ask_se : (Jvm.Cond.selects "MailQueriesModel" ({ cls := "MailQueriesModel", name := "ask", desc := "(J)Z" } : Jvm.MethodName) ({ cls := "MailQueriesModel", name := "ask", desc := "(J)Z" } : Jvm.MethodName)) ∈ TBL := TBL_in (List.mem_of_getElem? (i := 1449) (by decide +kernel)) (by decide +kernel)
def y_Mo_either : MethodName := ⟨"MailQueriesModel", "either", "(II)V"⟩
def rm_Mo_either : Room := { frames := 2, cells := 0, slots := 0, locals := 48 }
theorem d_Mo_either_0 : decode prog_10_method_66_code 0 = .ok (.aload_n 0, 1) := by decide +kernel
theorem d_Mo_either_1 : decode prog_10_method_66_code 1 = .ok (.getfield 415, 3) := by decide +kernel
theorem d_Mo_either_4 : decode prog_10_method_66_code 4 = .ok (.istore_n 3, 1) := by decide +kernel
theorem d_Mo_either_5 : decode prog_10_method_66_code 5 = .ok (.aload_n 0, 1) := by decide +kernel
theorem d_Mo_either_6 : decode prog_10_method_66_code 6 = .ok (.getfield 129, 3) := by decide +kernel
theorem d_Mo_either_9 : decode prog_10_method_66_code 9 = .ok (.iload_n 1, 1) := by decide +kernel
theorem d_Mo_either_10 : decode prog_10_method_66_code 10 = .ok (.iaload, 1) := by decide +kernel
theorem d_Mo_either_11 : decode prog_10_method_66_code 11 = .ok (.istore 4, 2) := by decide +kernel
theorem d_Mo_either_13 : decode prog_10_method_66_code 13 = .ok (.iload 4, 2) := by decide +kernel
theorem d_Mo_either_15 : decode prog_10_method_66_code 15 = .ok (.aload_n 0, 1) := by decide +kernel
theorem d_Mo_either_16 : decode prog_10_method_66_code 16 = .ok (.getfield 132, 3) := by decide +kernel
theorem d_Mo_either_19 : decode prog_10_method_66_code 19 = .ok (.iload_n 1, 1) := by decide +kernel
theorem d_Mo_either_20 : decode prog_10_method_66_code 20 = .ok (.iaload, 1) := by decide +kernel
theorem d_Mo_either_21 : decode prog_10_method_66_code 21 = .ok (.if_icmp .ge 28, 3) := by decide +kernel
theorem d_Mo_either_24 : decode prog_10_method_66_code 24 = .ok (.aload_n 0, 1) := by decide +kernel
theorem d_Mo_either_25 : decode prog_10_method_66_code 25 = .ok (.iload_n 3, 1) := by decide +kernel
theorem d_Mo_either_26 : decode prog_10_method_66_code 26 = .ok (.aload_n 0, 1) := by decide +kernel
theorem d_Mo_either_27 : decode prog_10_method_66_code 27 = .ok (.getfield 114, 3) := by decide +kernel
theorem d_Mo_either_30 : decode prog_10_method_66_code 30 = .ok (.iload 4, 2) := by decide +kernel
theorem d_Mo_either_32 : decode prog_10_method_66_code 32 = .ok (.laload, 1) := by decide +kernel
theorem d_Mo_either_33 : decode prog_10_method_66_code 33 = .ok (.aload_n 0, 1) := by decide +kernel
theorem d_Mo_either_34 : decode prog_10_method_66_code 34 = .ok (.getfield 117, 3) := by decide +kernel
theorem d_Mo_either_37 : decode prog_10_method_66_code 37 = .ok (.iload 4, 2) := by decide +kernel
theorem d_Mo_either_39 : decode prog_10_method_66_code 39 = .ok (.laload, 1) := by decide +kernel
theorem d_Mo_either_40 : decode prog_10_method_66_code 40 = .ok (.invokevirtual 426, 3) := by decide +kernel
theorem d_Mo_either_43 : decode prog_10_method_66_code 43 = .ok (.iinc 4 1, 3) := by decide +kernel
theorem d_Mo_either_46 : decode prog_10_method_66_code 46 = .ok (.goto (-33), 3) := by decide +kernel
theorem d_Mo_either_49 : decode prog_10_method_66_code 49 = .ok (.aload_n 0, 1) := by decide +kernel
theorem d_Mo_either_50 : decode prog_10_method_66_code 50 = .ok (.getfield 129, 3) := by decide +kernel
theorem d_Mo_either_53 : decode prog_10_method_66_code 53 = .ok (.iload_n 2, 1) := by decide +kernel
theorem d_Mo_either_54 : decode prog_10_method_66_code 54 = .ok (.iaload, 1) := by decide +kernel
theorem d_Mo_either_55 : decode prog_10_method_66_code 55 = .ok (.istore 4, 2) := by decide +kernel
theorem d_Mo_either_57 : decode prog_10_method_66_code 57 = .ok (.iload 4, 2) := by decide +kernel
theorem d_Mo_either_59 : decode prog_10_method_66_code 59 = .ok (.aload_n 0, 1) := by decide +kernel
theorem d_Mo_either_60 : decode prog_10_method_66_code 60 = .ok (.getfield 132, 3) := by decide +kernel
theorem d_Mo_either_63 : decode prog_10_method_66_code 63 = .ok (.iload_n 2, 1) := by decide +kernel
theorem d_Mo_either_64 : decode prog_10_method_66_code 64 = .ok (.iaload, 1) := by decide +kernel
theorem d_Mo_either_65 : decode prog_10_method_66_code 65 = .ok (.if_icmp .ge 28, 3) := by decide +kernel
theorem d_Mo_either_68 : decode prog_10_method_66_code 68 = .ok (.aload_n 0, 1) := by decide +kernel
theorem d_Mo_either_69 : decode prog_10_method_66_code 69 = .ok (.iload_n 3, 1) := by decide +kernel
theorem d_Mo_either_70 : decode prog_10_method_66_code 70 = .ok (.aload_n 0, 1) := by decide +kernel
theorem d_Mo_either_71 : decode prog_10_method_66_code 71 = .ok (.getfield 114, 3) := by decide +kernel
theorem d_Mo_either_74 : decode prog_10_method_66_code 74 = .ok (.iload 4, 2) := by decide +kernel
theorem d_Mo_either_76 : decode prog_10_method_66_code 76 = .ok (.laload, 1) := by decide +kernel
theorem d_Mo_either_77 : decode prog_10_method_66_code 77 = .ok (.aload_n 0, 1) := by decide +kernel
theorem d_Mo_either_78 : decode prog_10_method_66_code 78 = .ok (.getfield 117, 3) := by decide +kernel
theorem d_Mo_either_81 : decode prog_10_method_66_code 81 = .ok (.iload 4, 2) := by decide +kernel
theorem d_Mo_either_83 : decode prog_10_method_66_code 83 = .ok (.laload, 1) := by decide +kernel
theorem d_Mo_either_84 : decode prog_10_method_66_code 84 = .ok (.invokevirtual 426, 3) := by decide +kernel
theorem d_Mo_either_87 : decode prog_10_method_66_code 87 = .ok (.iinc 4 1, 3) := by decide +kernel
theorem d_Mo_either_90 : decode prog_10_method_66_code 90 = .ok (.goto (-33), 3) := by decide +kernel
theorem d_Mo_either_93 : decode prog_10_method_66_code 93 = .ok (.aload_n 0, 1) := by decide +kernel
theorem d_Mo_either_94 : decode prog_10_method_66_code 94 = .ok (.iload_n 3, 1) := by decide +kernel
theorem d_Mo_either_95 : decode prog_10_method_66_code 95 = .ok (.invokevirtual 430, 3) := by decide +kernel
theorem d_Mo_either_98 : decode prog_10_method_66_code 98 = .ok (.return_, 1) := by decide +kernel
def y_Mo_want : MethodName := ⟨"MailQueriesModel", "want", "(II)V"⟩
def rm_Mo_want : Room := { frames := 0, cells := 0, slots := 0, locals := 0 }
theorem d_Mo_want_0 : decode prog_10_method_67_code 0 = .ok (.iconst 2, 1) := by decide +kernel
theorem d_Mo_want_1 : decode prog_10_method_67_code 1 = .ok (.aload_n 0, 1) := by decide +kernel
theorem d_Mo_want_2 : decode prog_10_method_67_code 2 = .ok (.getfield 86, 3) := by decide +kernel
theorem d_Mo_want_5 : decode prog_10_method_67_code 5 = .ok (.iload_n 1, 1) := by decide +kernel
theorem d_Mo_want_6 : decode prog_10_method_67_code 6 = .ok (.iaload, 1) := by decide +kernel
theorem d_Mo_want_7 : decode prog_10_method_67_code 7 = .ok (.imul, 1) := by decide +kernel
theorem d_Mo_want_8 : decode prog_10_method_67_code 8 = .ok (.istore_n 3, 1) := by decide +kernel
theorem d_Mo_want_9 : decode prog_10_method_67_code 9 = .ok (.iconst 2, 1) := by decide +kernel
theorem d_Mo_want_10 : decode prog_10_method_67_code 10 = .ok (.aload_n 0, 1) := by decide +kernel
theorem d_Mo_want_11 : decode prog_10_method_67_code 11 = .ok (.getfield 89, 3) := by decide +kernel
theorem d_Mo_want_14 : decode prog_10_method_67_code 14 = .ok (.iload_n 1, 1) := by decide +kernel
theorem d_Mo_want_15 : decode prog_10_method_67_code 15 = .ok (.iaload, 1) := by decide +kernel
theorem d_Mo_want_16 : decode prog_10_method_67_code 16 = .ok (.imul, 1) := by decide +kernel
theorem d_Mo_want_17 : decode prog_10_method_67_code 17 = .ok (.istore 4, 2) := by decide +kernel
theorem d_Mo_want_19 : decode prog_10_method_67_code 19 = .ok (.aload_n 0, 1) := by decide +kernel
theorem d_Mo_want_20 : decode prog_10_method_67_code 20 = .ok (.getfield 83, 3) := by decide +kernel
theorem d_Mo_want_23 : decode prog_10_method_67_code 23 = .ok (.iload_n 1, 1) := by decide +kernel
theorem d_Mo_want_24 : decode prog_10_method_67_code 24 = .ok (.iaload, 1) := by decide +kernel
theorem d_Mo_want_25 : decode prog_10_method_67_code 25 = .ok (.lookupswitch 89 #[(2, 52), (4, 38), (7, 35)], 35) := by decide +kernel
theorem d_Mo_want_60 : decode prog_10_method_67_code 60 = .ok (.goto 73, 3) := by decide +kernel
theorem d_Mo_want_63 : decode prog_10_method_67_code 63 = .ok (.aload_n 0, 1) := by decide +kernel
theorem d_Mo_want_64 : decode prog_10_method_67_code 64 = .ok (.getfield 135, 3) := by decide +kernel
theorem d_Mo_want_67 : decode prog_10_method_67_code 67 = .ok (.iload_n 3, 1) := by decide +kernel
theorem d_Mo_want_68 : decode prog_10_method_67_code 68 = .ok (.iconst 1, 1) := by decide +kernel
theorem d_Mo_want_69 : decode prog_10_method_67_code 69 = .ok (.iadd, 1) := by decide +kernel
theorem d_Mo_want_70 : decode prog_10_method_67_code 70 = .ok (.iload_n 2, 1) := by decide +kernel
theorem d_Mo_want_71 : decode prog_10_method_67_code 71 = .ok (.isub, 1) := by decide +kernel
theorem d_Mo_want_72 : decode prog_10_method_67_code 72 = .ok (.iconst 1, 1) := by decide +kernel
theorem d_Mo_want_73 : decode prog_10_method_67_code 73 = .ok (.bastore, 1) := by decide +kernel
theorem d_Mo_want_74 : decode prog_10_method_67_code 74 = .ok (.goto 59, 3) := by decide +kernel
theorem d_Mo_want_77 : decode prog_10_method_67_code 77 = .ok (.aload_n 0, 1) := by decide +kernel
theorem d_Mo_want_78 : decode prog_10_method_67_code 78 = .ok (.getfield 135, 3) := by decide +kernel
theorem d_Mo_want_81 : decode prog_10_method_67_code 81 = .ok (.iload_n 3, 1) := by decide +kernel
theorem d_Mo_want_82 : decode prog_10_method_67_code 82 = .ok (.iconst 1, 1) := by decide +kernel
theorem d_Mo_want_83 : decode prog_10_method_67_code 83 = .ok (.bastore, 1) := by decide +kernel
theorem d_Mo_want_84 : decode prog_10_method_67_code 84 = .ok (.aload_n 0, 1) := by decide +kernel
theorem d_Mo_want_85 : decode prog_10_method_67_code 85 = .ok (.getfield 135, 3) := by decide +kernel
theorem d_Mo_want_88 : decode prog_10_method_67_code 88 = .ok (.iload_n 3, 1) := by decide +kernel
theorem d_Mo_want_89 : decode prog_10_method_67_code 89 = .ok (.iconst 1, 1) := by decide +kernel
theorem d_Mo_want_90 : decode prog_10_method_67_code 90 = .ok (.iadd, 1) := by decide +kernel
theorem d_Mo_want_91 : decode prog_10_method_67_code 91 = .ok (.iconst 1, 1) := by decide +kernel
theorem d_Mo_want_92 : decode prog_10_method_67_code 92 = .ok (.bastore, 1) := by decide +kernel
theorem d_Mo_want_93 : decode prog_10_method_67_code 93 = .ok (.aload_n 0, 1) := by decide +kernel
theorem d_Mo_want_94 : decode prog_10_method_67_code 94 = .ok (.getfield 135, 3) := by decide +kernel
theorem d_Mo_want_97 : decode prog_10_method_67_code 97 = .ok (.iload 4, 2) := by decide +kernel
theorem d_Mo_want_99 : decode prog_10_method_67_code 99 = .ok (.iconst 1, 1) := by decide +kernel
theorem d_Mo_want_100 : decode prog_10_method_67_code 100 = .ok (.bastore, 1) := by decide +kernel
theorem d_Mo_want_101 : decode prog_10_method_67_code 101 = .ok (.aload_n 0, 1) := by decide +kernel
theorem d_Mo_want_102 : decode prog_10_method_67_code 102 = .ok (.getfield 135, 3) := by decide +kernel
theorem d_Mo_want_105 : decode prog_10_method_67_code 105 = .ok (.iload 4, 2) := by decide +kernel
theorem d_Mo_want_107 : decode prog_10_method_67_code 107 = .ok (.iconst 1, 1) := by decide +kernel
theorem d_Mo_want_108 : decode prog_10_method_67_code 108 = .ok (.iadd, 1) := by decide +kernel
theorem d_Mo_want_109 : decode prog_10_method_67_code 109 = .ok (.iconst 1, 1) := by decide +kernel
theorem d_Mo_want_110 : decode prog_10_method_67_code 110 = .ok (.bastore, 1) := by decide +kernel
theorem d_Mo_want_111 : decode prog_10_method_67_code 111 = .ok (.goto 22, 3) := by decide +kernel
theorem d_Mo_want_114 : decode prog_10_method_67_code 114 = .ok (.aload_n 0, 1) := by decide +kernel
theorem d_Mo_want_115 : decode prog_10_method_67_code 115 = .ok (.getfield 135, 3) := by decide +kernel
theorem d_Mo_want_118 : decode prog_10_method_67_code 118 = .ok (.iload_n 3, 1) := by decide +kernel
theorem d_Mo_want_119 : decode prog_10_method_67_code 119 = .ok (.iload_n 2, 1) := by decide +kernel
theorem d_Mo_want_120 : decode prog_10_method_67_code 120 = .ok (.iadd, 1) := by decide +kernel
theorem d_Mo_want_121 : decode prog_10_method_67_code 121 = .ok (.iconst 1, 1) := by decide +kernel
theorem d_Mo_want_122 : decode prog_10_method_67_code 122 = .ok (.bastore, 1) := by decide +kernel
theorem d_Mo_want_123 : decode prog_10_method_67_code 123 = .ok (.aload_n 0, 1) := by decide +kernel
theorem d_Mo_want_124 : decode prog_10_method_67_code 124 = .ok (.getfield 135, 3) := by decide +kernel
theorem d_Mo_want_127 : decode prog_10_method_67_code 127 = .ok (.iload 4, 2) := by decide +kernel
theorem d_Mo_want_129 : decode prog_10_method_67_code 129 = .ok (.iload_n 2, 1) := by decide +kernel
theorem d_Mo_want_130 : decode prog_10_method_67_code 130 = .ok (.iadd, 1) := by decide +kernel
theorem d_Mo_want_131 : decode prog_10_method_67_code 131 = .ok (.iconst 1, 1) := by decide +kernel
theorem d_Mo_want_132 : decode prog_10_method_67_code 132 = .ok (.bastore, 1) := by decide +kernel
theorem d_Mo_want_133 : decode prog_10_method_67_code 133 = .ok (.return_, 1) := by decide +kernel
def y_Mo_makeList : MethodName := ⟨"MailQueriesModel", "makeList", "(II)V"⟩
def rm_Mo_makeList : Room := { frames := 3, cells := 0, slots := 0, locals := 77 }
theorem d_Mo_makeList_0 : decode prog_10_method_68_code 0 = .ok (.aload_n 0, 1) := by decide +kernel
theorem d_Mo_makeList_1 : decode prog_10_method_68_code 1 = .ok (.getfield 415, 3) := by decide +kernel
theorem d_Mo_makeList_4 : decode prog_10_method_68_code 4 = .ok (.istore_n 3, 1) := by decide +kernel
theorem d_Mo_makeList_5 : decode prog_10_method_68_code 5 = .ok (.iconst 2, 1) := by decide +kernel
theorem d_Mo_makeList_6 : decode prog_10_method_68_code 6 = .ok (.aload_n 0, 1) := by decide +kernel
theorem d_Mo_makeList_7 : decode prog_10_method_68_code 7 = .ok (.getfield 86, 3) := by decide +kernel
theorem d_Mo_makeList_10 : decode prog_10_method_68_code 10 = .ok (.iload_n 1, 1) := by decide +kernel
theorem d_Mo_makeList_11 : decode prog_10_method_68_code 11 = .ok (.iaload, 1) := by decide +kernel
theorem d_Mo_makeList_12 : decode prog_10_method_68_code 12 = .ok (.imul, 1) := by decide +kernel
theorem d_Mo_makeList_13 : decode prog_10_method_68_code 13 = .ok (.istore 4, 2) := by decide +kernel
theorem d_Mo_makeList_15 : decode prog_10_method_68_code 15 = .ok (.iconst 2, 1) := by decide +kernel
theorem d_Mo_makeList_16 : decode prog_10_method_68_code 16 = .ok (.aload_n 0, 1) := by decide +kernel
theorem d_Mo_makeList_17 : decode prog_10_method_68_code 17 = .ok (.getfield 89, 3) := by decide +kernel
theorem d_Mo_makeList_20 : decode prog_10_method_68_code 20 = .ok (.iload_n 1, 1) := by decide +kernel
theorem d_Mo_makeList_21 : decode prog_10_method_68_code 21 = .ok (.iaload, 1) := by decide +kernel
theorem d_Mo_makeList_22 : decode prog_10_method_68_code 22 = .ok (.imul, 1) := by decide +kernel
theorem d_Mo_makeList_23 : decode prog_10_method_68_code 23 = .ok (.istore 5, 2) := by decide +kernel
theorem d_Mo_makeList_25 : decode prog_10_method_68_code 25 = .ok (.aload_n 0, 1) := by decide +kernel
theorem d_Mo_makeList_26 : decode prog_10_method_68_code 26 = .ok (.getfield 83, 3) := by decide +kernel
theorem d_Mo_makeList_29 : decode prog_10_method_68_code 29 = .ok (.iload_n 1, 1) := by decide +kernel
theorem d_Mo_makeList_30 : decode prog_10_method_68_code 30 = .ok (.iaload, 1) := by decide +kernel
theorem d_Mo_makeList_31 : decode prog_10_method_68_code 31 = .ok (.lookupswitch 165 #[(2, 75), (3, 135), (7, 33)], 33) := by decide +kernel
theorem d_Mo_makeList_64 : decode prog_10_method_68_code 64 = .ok (.aload_n 0, 1) := by decide +kernel
theorem d_Mo_makeList_65 : decode prog_10_method_68_code 65 = .ok (.iload_n 3, 1) := by decide +kernel
theorem d_Mo_makeList_66 : decode prog_10_method_68_code 66 = .ok (.iload_n 2, 1) := by decide +kernel
theorem d_Mo_makeList_67 : decode prog_10_method_68_code 67 = .ok (.iconst 1, 1) := by decide +kernel
theorem d_Mo_makeList_68 : decode prog_10_method_68_code 68 = .ok (.if_icmp .ne 7, 3) := by decide +kernel
theorem d_Mo_makeList_71 : decode prog_10_method_68_code 71 = .ok (.lconst 0, 1) := by decide +kernel
theorem d_Mo_makeList_72 : decode prog_10_method_68_code 72 = .ok (.goto 11, 3) := by decide +kernel
theorem d_Mo_makeList_75 : decode prog_10_method_68_code 75 = .ok (.lconst 1, 1) := by decide +kernel
theorem d_Mo_makeList_76 : decode prog_10_method_68_code 76 = .ok (.aload_n 0, 1) := by decide +kernel
theorem d_Mo_makeList_77 : decode prog_10_method_68_code 77 = .ok (.getfield 86, 3) := by decide +kernel
theorem d_Mo_makeList_80 : decode prog_10_method_68_code 80 = .ok (.iload_n 1, 1) := by decide +kernel
theorem d_Mo_makeList_81 : decode prog_10_method_68_code 81 = .ok (.iaload, 1) := by decide +kernel
theorem d_Mo_makeList_82 : decode prog_10_method_68_code 82 = .ok (.lshl, 1) := by decide +kernel
theorem d_Mo_makeList_83 : decode prog_10_method_68_code 83 = .ok (.iload_n 2, 1) := by decide +kernel
theorem d_Mo_makeList_84 : decode prog_10_method_68_code 84 = .ok (.iconst 1, 1) := by decide +kernel
theorem d_Mo_makeList_85 : decode prog_10_method_68_code 85 = .ok (.if_icmp .ne 14, 3) := by decide +kernel
theorem d_Mo_makeList_88 : decode prog_10_method_68_code 88 = .ok (.lconst 1, 1) := by decide +kernel
theorem d_Mo_makeList_89 : decode prog_10_method_68_code 89 = .ok (.aload_n 0, 1) := by decide +kernel
theorem d_Mo_makeList_90 : decode prog_10_method_68_code 90 = .ok (.getfield 86, 3) := by decide +kernel
theorem d_Mo_makeList_93 : decode prog_10_method_68_code 93 = .ok (.iload_n 1, 1) := by decide +kernel
theorem d_Mo_makeList_94 : decode prog_10_method_68_code 94 = .ok (.iaload, 1) := by decide +kernel
theorem d_Mo_makeList_95 : decode prog_10_method_68_code 95 = .ok (.lshl, 1) := by decide +kernel
theorem d_Mo_makeList_96 : decode prog_10_method_68_code 96 = .ok (.goto 4, 3) := by decide +kernel
theorem d_Mo_makeList_99 : decode prog_10_method_68_code 99 = .ok (.lconst 0, 1) := by decide +kernel
theorem d_Mo_makeList_100 : decode prog_10_method_68_code 100 = .ok (.invokevirtual 426, 3) := by decide +kernel
theorem d_Mo_makeList_103 : decode prog_10_method_68_code 103 = .ok (.goto 120, 3) := by decide +kernel
theorem d_Mo_makeList_106 : decode prog_10_method_68_code 106 = .ok (.aload_n 0, 1) := by decide +kernel
theorem d_Mo_makeList_107 : decode prog_10_method_68_code 107 = .ok (.iload 4, 2) := by decide +kernel
theorem d_Mo_makeList_109 : decode prog_10_method_68_code 109 = .ok (.iload 5, 2) := by decide +kernel
theorem d_Mo_makeList_111 : decode prog_10_method_68_code 111 = .ok (.iconst 1, 1) := by decide +kernel
theorem d_Mo_makeList_112 : decode prog_10_method_68_code 112 = .ok (.iadd, 1) := by decide +kernel
theorem d_Mo_makeList_113 : decode prog_10_method_68_code 113 = .ok (.iload_n 2, 1) := by decide +kernel
theorem d_Mo_makeList_114 : decode prog_10_method_68_code 114 = .ok (.isub, 1) := by decide +kernel
theorem d_Mo_makeList_115 : decode prog_10_method_68_code 115 = .ok (.invokevirtual 433, 3) := by decide +kernel
theorem d_Mo_makeList_118 : decode prog_10_method_68_code 118 = .ok (.aload_n 0, 1) := by decide +kernel
theorem d_Mo_makeList_119 : decode prog_10_method_68_code 119 = .ok (.iload 4, 2) := by decide +kernel
theorem d_Mo_makeList_121 : decode prog_10_method_68_code 121 = .ok (.iconst 1, 1) := by decide +kernel
theorem d_Mo_makeList_122 : decode prog_10_method_68_code 122 = .ok (.iadd, 1) := by decide +kernel
theorem d_Mo_makeList_123 : decode prog_10_method_68_code 123 = .ok (.iload 5, 2) := by decide +kernel
theorem d_Mo_makeList_125 : decode prog_10_method_68_code 125 = .ok (.iload_n 2, 1) := by decide +kernel
theorem d_Mo_makeList_126 : decode prog_10_method_68_code 126 = .ok (.iadd, 1) := by decide +kernel
theorem d_Mo_makeList_127 : decode prog_10_method_68_code 127 = .ok (.invokevirtual 433, 3) := by decide +kernel
theorem d_Mo_makeList_130 : decode prog_10_method_68_code 130 = .ok (.aload_n 0, 1) := by decide +kernel
theorem d_Mo_makeList_131 : decode prog_10_method_68_code 131 = .ok (.aload_n 0, 1) := by decide +kernel
theorem d_Mo_makeList_132 : decode prog_10_method_68_code 132 = .ok (.getfield 418, 3) := by decide +kernel
theorem d_Mo_makeList_135 : decode prog_10_method_68_code 135 = .ok (.ifCond .ne 15, 3) := by decide +kernel
theorem d_Mo_makeList_138 : decode prog_10_method_68_code 138 = .ok (.aload_n 0, 1) := by decide +kernel
theorem d_Mo_makeList_139 : decode prog_10_method_68_code 139 = .ok (.getfield 415, 3) := by decide +kernel
theorem d_Mo_makeList_142 : decode prog_10_method_68_code 142 = .ok (.iload_n 3, 1) := by decide +kernel
theorem d_Mo_makeList_143 : decode prog_10_method_68_code 143 = .ok (.isub, 1) := by decide +kernel
theorem d_Mo_makeList_144 : decode prog_10_method_68_code 144 = .ok (.sipush 200, 3) := by decide +kernel
theorem d_Mo_makeList_147 : decode prog_10_method_68_code 147 = .ok (.if_icmp .le 7, 3) := by decide +kernel
theorem d_Mo_makeList_150 : decode prog_10_method_68_code 150 = .ok (.iconst 1, 1) := by decide +kernel
theorem d_Mo_makeList_151 : decode prog_10_method_68_code 151 = .ok (.goto 4, 3) := by decide +kernel
theorem d_Mo_makeList_154 : decode prog_10_method_68_code 154 = .ok (.iconst 0, 1) := by decide +kernel
theorem d_Mo_makeList_155 : decode prog_10_method_68_code 155 = .ok (.putfield 418, 3) := by decide +kernel
theorem d_Mo_makeList_158 : decode prog_10_method_68_code 158 = .ok (.aload_n 0, 1) := by decide +kernel
theorem d_Mo_makeList_159 : decode prog_10_method_68_code 159 = .ok (.iload_n 3, 1) := by decide +kernel
theorem d_Mo_makeList_160 : decode prog_10_method_68_code 160 = .ok (.invokevirtual 430, 3) := by decide +kernel
theorem d_Mo_makeList_163 : decode prog_10_method_68_code 163 = .ok (.goto 60, 3) := by decide +kernel
theorem d_Mo_makeList_166 : decode prog_10_method_68_code 166 = .ok (.iload_n 2, 1) := by decide +kernel
theorem d_Mo_makeList_167 : decode prog_10_method_68_code 167 = .ok (.ifCond .ne 14, 3) := by decide +kernel
theorem d_Mo_makeList_170 : decode prog_10_method_68_code 170 = .ok (.aload_n 0, 1) := by decide +kernel
theorem d_Mo_makeList_171 : decode prog_10_method_68_code 171 = .ok (.iload 4, 2) := by decide +kernel
theorem d_Mo_makeList_173 : decode prog_10_method_68_code 173 = .ok (.iload 5, 2) := by decide +kernel
theorem d_Mo_makeList_175 : decode prog_10_method_68_code 175 = .ok (.invokevirtual 433, 3) := by decide +kernel
theorem d_Mo_makeList_178 : decode prog_10_method_68_code 178 = .ok (.goto 45, 3) := by decide +kernel
theorem d_Mo_makeList_181 : decode prog_10_method_68_code 181 = .ok (.aload_n 0, 1) := by decide +kernel
theorem d_Mo_makeList_182 : decode prog_10_method_68_code 182 = .ok (.iload 4, 2) := by decide +kernel
theorem d_Mo_makeList_184 : decode prog_10_method_68_code 184 = .ok (.iconst 1, 1) := by decide +kernel
theorem d_Mo_makeList_185 : decode prog_10_method_68_code 185 = .ok (.iadd, 1) := by decide +kernel
theorem d_Mo_makeList_186 : decode prog_10_method_68_code 186 = .ok (.iload 5, 2) := by decide +kernel
theorem d_Mo_makeList_188 : decode prog_10_method_68_code 188 = .ok (.iconst 1, 1) := by decide +kernel
theorem d_Mo_makeList_189 : decode prog_10_method_68_code 189 = .ok (.iadd, 1) := by decide +kernel
theorem d_Mo_makeList_190 : decode prog_10_method_68_code 190 = .ok (.invokevirtual 436, 3) := by decide +kernel
theorem d_Mo_makeList_193 : decode prog_10_method_68_code 193 = .ok (.goto 30, 3) := by decide +kernel
theorem d_Mo_makeList_196 : decode prog_10_method_68_code 196 = .ok (.iload_n 2, 1) := by decide +kernel
theorem d_Mo_makeList_197 : decode prog_10_method_68_code 197 = .ok (.ifCond .ne 14, 3) := by decide +kernel
theorem d_Mo_makeList_200 : decode prog_10_method_68_code 200 = .ok (.aload_n 0, 1) := by decide +kernel
theorem d_Mo_makeList_201 : decode prog_10_method_68_code 201 = .ok (.iload 4, 2) := by decide +kernel
theorem d_Mo_makeList_203 : decode prog_10_method_68_code 203 = .ok (.iload 5, 2) := by decide +kernel
theorem d_Mo_makeList_205 : decode prog_10_method_68_code 205 = .ok (.invokevirtual 436, 3) := by decide +kernel
theorem d_Mo_makeList_208 : decode prog_10_method_68_code 208 = .ok (.goto 15, 3) := by decide +kernel
theorem d_Mo_makeList_211 : decode prog_10_method_68_code 211 = .ok (.aload_n 0, 1) := by decide +kernel
theorem d_Mo_makeList_212 : decode prog_10_method_68_code 212 = .ok (.iload 4, 2) := by decide +kernel
theorem d_Mo_makeList_214 : decode prog_10_method_68_code 214 = .ok (.iconst 1, 1) := by decide +kernel
theorem d_Mo_makeList_215 : decode prog_10_method_68_code 215 = .ok (.iadd, 1) := by decide +kernel
theorem d_Mo_makeList_216 : decode prog_10_method_68_code 216 = .ok (.iload 5, 2) := by decide +kernel
theorem d_Mo_makeList_218 : decode prog_10_method_68_code 218 = .ok (.iconst 1, 1) := by decide +kernel
theorem d_Mo_makeList_219 : decode prog_10_method_68_code 219 = .ok (.iadd, 1) := by decide +kernel
theorem d_Mo_makeList_220 : decode prog_10_method_68_code 220 = .ok (.invokevirtual 433, 3) := by decide +kernel
theorem d_Mo_makeList_223 : decode prog_10_method_68_code 223 = .ok (.aload_n 0, 1) := by decide +kernel
theorem d_Mo_makeList_224 : decode prog_10_method_68_code 224 = .ok (.getfield 129, 3) := by decide +kernel
theorem d_Mo_makeList_227 : decode prog_10_method_68_code 227 = .ok (.iconst 2, 1) := by decide +kernel
theorem d_Mo_makeList_228 : decode prog_10_method_68_code 228 = .ok (.iload_n 1, 1) := by decide +kernel
theorem d_Mo_makeList_229 : decode prog_10_method_68_code 229 = .ok (.imul, 1) := by decide +kernel
theorem d_Mo_makeList_230 : decode prog_10_method_68_code 230 = .ok (.iload_n 2, 1) := by decide +kernel
theorem d_Mo_makeList_231 : decode prog_10_method_68_code 231 = .ok (.iadd, 1) := by decide +kernel
theorem d_Mo_makeList_232 : decode prog_10_method_68_code 232 = .ok (.iload_n 3, 1) := by decide +kernel
theorem d_Mo_makeList_233 : decode prog_10_method_68_code 233 = .ok (.iastore, 1) := by decide +kernel
theorem d_Mo_makeList_234 : decode prog_10_method_68_code 234 = .ok (.aload_n 0, 1) := by decide +kernel
theorem d_Mo_makeList_235 : decode prog_10_method_68_code 235 = .ok (.getfield 132, 3) := by decide +kernel
theorem d_Mo_makeList_238 : decode prog_10_method_68_code 238 = .ok (.iconst 2, 1) := by decide +kernel
theorem d_Mo_makeList_239 : decode prog_10_method_68_code 239 = .ok (.iload_n 1, 1) := by decide +kernel
theorem d_Mo_makeList_240 : decode prog_10_method_68_code 240 = .ok (.imul, 1) := by decide +kernel
theorem d_Mo_makeList_241 : decode prog_10_method_68_code 241 = .ok (.iload_n 2, 1) := by decide +kernel
theorem d_Mo_makeList_242 : decode prog_10_method_68_code 242 = .ok (.iadd, 1) := by decide +kernel
theorem d_Mo_makeList_243 : decode prog_10_method_68_code 243 = .ok (.aload_n 0, 1) := by decide +kernel
theorem d_Mo_makeList_244 : decode prog_10_method_68_code 244 = .ok (.getfield 415, 3) := by decide +kernel
theorem d_Mo_makeList_247 : decode prog_10_method_68_code 247 = .ok (.iastore, 1) := by decide +kernel
theorem d_Mo_makeList_248 : decode prog_10_method_68_code 248 = .ok (.return_, 1) := by decide +kernel
def y_Mo_make : MethodName := ⟨"MailQueriesModel", "make", "(II)V"⟩
def rm_Mo_make : Room := { frames := 4, cells := 0, slots := 0, locals := 102 }
theorem d_Mo_make_0 : decode prog_10_method_69_code 0 = .ok (.aload_n 0, 1) := by decide +kernel
theorem d_Mo_make_1 : decode prog_10_method_69_code 1 = .ok (.getfield 83, 3) := by decide +kernel
theorem d_Mo_make_4 : decode prog_10_method_69_code 4 = .ok (.iload_n 1, 1) := by decide +kernel
theorem d_Mo_make_5 : decode prog_10_method_69_code 5 = .ok (.iaload, 1) := by decide +kernel
theorem d_Mo_make_6 : decode prog_10_method_69_code 6 = .ok (.iconst 4, 1) := by decide +kernel
theorem d_Mo_make_7 : decode prog_10_method_69_code 7 = .ok (.if_icmp .ne 60, 3) := by decide +kernel
theorem d_Mo_make_10 : decode prog_10_method_69_code 10 = .ok (.aload_n 0, 1) := by decide +kernel
theorem d_Mo_make_11 : decode prog_10_method_69_code 11 = .ok (.getfield 129, 3) := by decide +kernel
theorem d_Mo_make_14 : decode prog_10_method_69_code 14 = .ok (.iconst 2, 1) := by decide +kernel
theorem d_Mo_make_15 : decode prog_10_method_69_code 15 = .ok (.iload_n 1, 1) := by decide +kernel
theorem d_Mo_make_16 : decode prog_10_method_69_code 16 = .ok (.imul, 1) := by decide +kernel
theorem d_Mo_make_17 : decode prog_10_method_69_code 17 = .ok (.iload_n 2, 1) := by decide +kernel
theorem d_Mo_make_18 : decode prog_10_method_69_code 18 = .ok (.iadd, 1) := by decide +kernel
theorem d_Mo_make_19 : decode prog_10_method_69_code 19 = .ok (.aload_n 0, 1) := by decide +kernel
theorem d_Mo_make_20 : decode prog_10_method_69_code 20 = .ok (.getfield 129, 3) := by decide +kernel
theorem d_Mo_make_23 : decode prog_10_method_69_code 23 = .ok (.iconst 2, 1) := by decide +kernel
theorem d_Mo_make_24 : decode prog_10_method_69_code 24 = .ok (.aload_n 0, 1) := by decide +kernel
theorem d_Mo_make_25 : decode prog_10_method_69_code 25 = .ok (.getfield 86, 3) := by decide +kernel
theorem d_Mo_make_28 : decode prog_10_method_69_code 28 = .ok (.iload_n 1, 1) := by decide +kernel
theorem d_Mo_make_29 : decode prog_10_method_69_code 29 = .ok (.iaload, 1) := by decide +kernel
theorem d_Mo_make_30 : decode prog_10_method_69_code 30 = .ok (.imul, 1) := by decide +kernel
theorem d_Mo_make_31 : decode prog_10_method_69_code 31 = .ok (.iconst 1, 1) := by decide +kernel
theorem d_Mo_make_32 : decode prog_10_method_69_code 32 = .ok (.iadd, 1) := by decide +kernel
theorem d_Mo_make_33 : decode prog_10_method_69_code 33 = .ok (.iload_n 2, 1) := by decide +kernel
theorem d_Mo_make_34 : decode prog_10_method_69_code 34 = .ok (.isub, 1) := by decide +kernel
theorem d_Mo_make_35 : decode prog_10_method_69_code 35 = .ok (.iaload, 1) := by decide +kernel
theorem d_Mo_make_36 : decode prog_10_method_69_code 36 = .ok (.iastore, 1) := by decide +kernel
theorem d_Mo_make_37 : decode prog_10_method_69_code 37 = .ok (.aload_n 0, 1) := by decide +kernel
theorem d_Mo_make_38 : decode prog_10_method_69_code 38 = .ok (.getfield 132, 3) := by decide +kernel
theorem d_Mo_make_41 : decode prog_10_method_69_code 41 = .ok (.iconst 2, 1) := by decide +kernel
theorem d_Mo_make_42 : decode prog_10_method_69_code 42 = .ok (.iload_n 1, 1) := by decide +kernel
theorem d_Mo_make_43 : decode prog_10_method_69_code 43 = .ok (.imul, 1) := by decide +kernel
theorem d_Mo_make_44 : decode prog_10_method_69_code 44 = .ok (.iload_n 2, 1) := by decide +kernel
theorem d_Mo_make_45 : decode prog_10_method_69_code 45 = .ok (.iadd, 1) := by decide +kernel
theorem d_Mo_make_46 : decode prog_10_method_69_code 46 = .ok (.aload_n 0, 1) := by decide +kernel
theorem d_Mo_make_47 : decode prog_10_method_69_code 47 = .ok (.getfield 132, 3) := by decide +kernel
theorem d_Mo_make_50 : decode prog_10_method_69_code 50 = .ok (.iconst 2, 1) := by decide +kernel
theorem d_Mo_make_51 : decode prog_10_method_69_code 51 = .ok (.aload_n 0, 1) := by decide +kernel
theorem d_Mo_make_52 : decode prog_10_method_69_code 52 = .ok (.getfield 86, 3) := by decide +kernel
theorem d_Mo_make_55 : decode prog_10_method_69_code 55 = .ok (.iload_n 1, 1) := by decide +kernel
theorem d_Mo_make_56 : decode prog_10_method_69_code 56 = .ok (.iaload, 1) := by decide +kernel
theorem d_Mo_make_57 : decode prog_10_method_69_code 57 = .ok (.imul, 1) := by decide +kernel
theorem d_Mo_make_58 : decode prog_10_method_69_code 58 = .ok (.iconst 1, 1) := by decide +kernel
theorem d_Mo_make_59 : decode prog_10_method_69_code 59 = .ok (.iadd, 1) := by decide +kernel
theorem d_Mo_make_60 : decode prog_10_method_69_code 60 = .ok (.iload_n 2, 1) := by decide +kernel
theorem d_Mo_make_61 : decode prog_10_method_69_code 61 = .ok (.isub, 1) := by decide +kernel
theorem d_Mo_make_62 : decode prog_10_method_69_code 62 = .ok (.iaload, 1) := by decide +kernel
theorem d_Mo_make_63 : decode prog_10_method_69_code 63 = .ok (.iastore, 1) := by decide +kernel
theorem d_Mo_make_64 : decode prog_10_method_69_code 64 = .ok (.goto 9, 3) := by decide +kernel
theorem d_Mo_make_67 : decode prog_10_method_69_code 67 = .ok (.aload_n 0, 1) := by decide +kernel
theorem d_Mo_make_68 : decode prog_10_method_69_code 68 = .ok (.iload_n 1, 1) := by decide +kernel
theorem d_Mo_make_69 : decode prog_10_method_69_code 69 = .ok (.iload_n 2, 1) := by decide +kernel
theorem d_Mo_make_70 : decode prog_10_method_69_code 70 = .ok (.invokevirtual 439, 3) := by decide +kernel
theorem d_Mo_make_73 : decode prog_10_method_69_code 73 = .ok (.return_, 1) := by decide +kernel
def y_Mo_normal : MethodName := ⟨"MailQueriesModel", "normal", "()I"⟩
def rm_Mo_normal : Room := { frames := 5, cells := 0, slots := 0, locals := 124 }
theorem d_Mo_normal_0 : decode prog_10_method_70_code 0 = .ok (.aload_n 0, 1) := by decide +kernel
theorem d_Mo_normal_1 : decode prog_10_method_70_code 1 = .ok (.iconst 0, 1) := by decide +kernel
theorem d_Mo_normal_2 : decode prog_10_method_70_code 2 = .ok (.putfield 144, 3) := by decide +kernel
theorem d_Mo_normal_5 : decode prog_10_method_70_code 5 = .ok (.aload_n 0, 1) := by decide +kernel
theorem d_Mo_normal_6 : decode prog_10_method_70_code 6 = .ok (.iconst 0, 1) := by decide +kernel
theorem d_Mo_normal_7 : decode prog_10_method_70_code 7 = .ok (.putfield 442, 3) := by decide +kernel
theorem d_Mo_normal_10 : decode prog_10_method_70_code 10 = .ok (.aload_n 0, 1) := by decide +kernel
theorem d_Mo_normal_11 : decode prog_10_method_70_code 11 = .ok (.iconst 0, 1) := by decide +kernel
theorem d_Mo_normal_12 : decode prog_10_method_70_code 12 = .ok (.putfield 415, 3) := by decide +kernel
theorem d_Mo_normal_15 : decode prog_10_method_70_code 15 = .ok (.aload_n 0, 1) := by decide +kernel
theorem d_Mo_normal_16 : decode prog_10_method_70_code 16 = .ok (.iconst 0, 1) := by decide +kernel
theorem d_Mo_normal_17 : decode prog_10_method_70_code 17 = .ok (.putfield 418, 3) := by decide +kernel
theorem d_Mo_normal_20 : decode prog_10_method_70_code 20 = .ok (.aload_n 0, 1) := by decide +kernel
theorem d_Mo_normal_21 : decode prog_10_method_70_code 21 = .ok (.getfield 141, 3) := by decide +kernel
theorem d_Mo_normal_24 : decode prog_10_method_70_code 24 = .ok (.iconst (-1), 1) := by decide +kernel
theorem d_Mo_normal_25 : decode prog_10_method_70_code 25 = .ok (.if_icmp .ne 24, 3) := by decide +kernel
theorem d_Mo_normal_28 : decode prog_10_method_70_code 28 = .ok (.aload_n 0, 1) := by decide +kernel
theorem d_Mo_normal_29 : decode prog_10_method_70_code 29 = .ok (.getfield 120, 3) := by decide +kernel
theorem d_Mo_normal_32 : decode prog_10_method_70_code 32 = .ok (.iconst 0, 1) := by decide +kernel
theorem d_Mo_normal_33 : decode prog_10_method_70_code 33 = .ok (.lconst 0, 1) := by decide +kernel
theorem d_Mo_normal_34 : decode prog_10_method_70_code 34 = .ok (.lastore, 1) := by decide +kernel
theorem d_Mo_normal_35 : decode prog_10_method_70_code 35 = .ok (.aload_n 0, 1) := by decide +kernel
theorem d_Mo_normal_36 : decode prog_10_method_70_code 36 = .ok (.getfield 123, 3) := by decide +kernel
theorem d_Mo_normal_39 : decode prog_10_method_70_code 39 = .ok (.iconst 0, 1) := by decide +kernel
theorem d_Mo_normal_40 : decode prog_10_method_70_code 40 = .ok (.lconst 0, 1) := by decide +kernel
theorem d_Mo_normal_41 : decode prog_10_method_70_code 41 = .ok (.lastore, 1) := by decide +kernel
theorem d_Mo_normal_42 : decode prog_10_method_70_code 42 = .ok (.aload_n 0, 1) := by decide +kernel
theorem d_Mo_normal_43 : decode prog_10_method_70_code 43 = .ok (.iconst 1, 1) := by decide +kernel
theorem d_Mo_normal_44 : decode prog_10_method_70_code 44 = .ok (.putfield 442, 3) := by decide +kernel
theorem d_Mo_normal_47 : decode prog_10_method_70_code 47 = .ok (.iconst 1, 1) := by decide +kernel
theorem d_Mo_normal_48 : decode prog_10_method_70_code 48 = .ok (.ireturn, 1) := by decide +kernel
theorem d_Mo_normal_49 : decode prog_10_method_70_code 49 = .ok (.iconst 0, 1) := by decide +kernel
theorem d_Mo_normal_50 : decode prog_10_method_70_code 50 = .ok (.istore_n 1, 1) := by decide +kernel
theorem d_Mo_normal_51 : decode prog_10_method_70_code 51 = .ok (.iload_n 1, 1) := by decide +kernel
theorem d_Mo_normal_52 : decode prog_10_method_70_code 52 = .ok (.iconst 2, 1) := by decide +kernel
theorem d_Mo_normal_53 : decode prog_10_method_70_code 53 = .ok (.aload_n 0, 1) := by decide +kernel
theorem d_Mo_normal_54 : decode prog_10_method_70_code 54 = .ok (.getfield 331, 3) := by decide +kernel
theorem d_Mo_normal_57 : decode prog_10_method_70_code 57 = .ok (.imul, 1) := by decide +kernel
theorem d_Mo_normal_58 : decode prog_10_method_70_code 58 = .ok (.if_icmp .ge 30, 3) := by decide +kernel
theorem d_Mo_normal_61 : decode prog_10_method_70_code 61 = .ok (.aload_n 0, 1) := by decide +kernel
theorem d_Mo_normal_62 : decode prog_10_method_70_code 62 = .ok (.getfield 135, 3) := by decide +kernel
theorem d_Mo_normal_65 : decode prog_10_method_70_code 65 = .ok (.iload_n 1, 1) := by decide +kernel
theorem d_Mo_normal_66 : decode prog_10_method_70_code 66 = .ok (.iload_n 1, 1) := by decide +kernel
theorem d_Mo_normal_67 : decode prog_10_method_70_code 67 = .ok (.iconst 2, 1) := by decide +kernel
theorem d_Mo_normal_68 : decode prog_10_method_70_code 68 = .ok (.aload_n 0, 1) := by decide +kernel
theorem d_Mo_normal_69 : decode prog_10_method_70_code 69 = .ok (.getfield 141, 3) := by decide +kernel
theorem d_Mo_normal_72 : decode prog_10_method_70_code 72 = .ok (.imul, 1) := by decide +kernel
theorem d_Mo_normal_73 : decode prog_10_method_70_code 73 = .ok (.if_icmp .ne 7, 3) := by decide +kernel
theorem d_Mo_normal_76 : decode prog_10_method_70_code 76 = .ok (.iconst 1, 1) := by decide +kernel
theorem d_Mo_normal_77 : decode prog_10_method_70_code 77 = .ok (.goto 4, 3) := by decide +kernel
theorem d_Mo_normal_80 : decode prog_10_method_70_code 80 = .ok (.iconst 0, 1) := by decide +kernel
theorem d_Mo_normal_81 : decode prog_10_method_70_code 81 = .ok (.bastore, 1) := by decide +kernel
theorem d_Mo_normal_82 : decode prog_10_method_70_code 82 = .ok (.iinc 1 1, 3) := by decide +kernel
theorem d_Mo_normal_85 : decode prog_10_method_70_code 85 = .ok (.goto (-34), 3) := by decide +kernel
theorem d_Mo_normal_88 : decode prog_10_method_70_code 88 = .ok (.iconst 2, 1) := by decide +kernel
theorem d_Mo_normal_89 : decode prog_10_method_70_code 89 = .ok (.aload_n 0, 1) := by decide +kernel
theorem d_Mo_normal_90 : decode prog_10_method_70_code 90 = .ok (.getfield 331, 3) := by decide +kernel
theorem d_Mo_normal_93 : decode prog_10_method_70_code 93 = .ok (.imul, 1) := by decide +kernel
theorem d_Mo_normal_94 : decode prog_10_method_70_code 94 = .ok (.iconst 1, 1) := by decide +kernel
theorem d_Mo_normal_95 : decode prog_10_method_70_code 95 = .ok (.isub, 1) := by decide +kernel
theorem d_Mo_normal_96 : decode prog_10_method_70_code 96 = .ok (.istore_n 1, 1) := by decide +kernel
theorem d_Mo_normal_97 : decode prog_10_method_70_code 97 = .ok (.iload_n 1, 1) := by decide +kernel
theorem d_Mo_normal_98 : decode prog_10_method_70_code 98 = .ok (.ifCond .lt 28, 3) := by decide +kernel
theorem d_Mo_normal_101 : decode prog_10_method_70_code 101 = .ok (.aload_n 0, 1) := by decide +kernel
theorem d_Mo_normal_102 : decode prog_10_method_70_code 102 = .ok (.getfield 135, 3) := by decide +kernel
theorem d_Mo_normal_105 : decode prog_10_method_70_code 105 = .ok (.iload_n 1, 1) := by decide +kernel
theorem d_Mo_normal_106 : decode prog_10_method_70_code 106 = .ok (.baload, 1) := by decide +kernel
theorem d_Mo_normal_107 : decode prog_10_method_70_code 107 = .ok (.ifCond .eq 13, 3) := by decide +kernel
theorem d_Mo_normal_110 : decode prog_10_method_70_code 110 = .ok (.aload_n 0, 1) := by decide +kernel
theorem d_Mo_normal_111 : decode prog_10_method_70_code 111 = .ok (.iload_n 1, 1) := by decide +kernel
theorem d_Mo_normal_112 : decode prog_10_method_70_code 112 = .ok (.iconst 2, 1) := by decide +kernel
theorem d_Mo_normal_113 : decode prog_10_method_70_code 113 = .ok (.idiv, 1) := by decide +kernel
theorem d_Mo_normal_114 : decode prog_10_method_70_code 114 = .ok (.iload_n 1, 1) := by decide +kernel
theorem d_Mo_normal_115 : decode prog_10_method_70_code 115 = .ok (.iconst 2, 1) := by decide +kernel
theorem d_Mo_normal_116 : decode prog_10_method_70_code 116 = .ok (.irem, 1) := by decide +kernel
theorem d_Mo_normal_117 : decode prog_10_method_70_code 117 = .ok (.invokevirtual 445, 3) := by decide +kernel
theorem d_Mo_normal_120 : decode prog_10_method_70_code 120 = .ok (.iinc 1 (-1), 3) := by decide +kernel
theorem d_Mo_normal_123 : decode prog_10_method_70_code 123 = .ok (.goto (-26), 3) := by decide +kernel
theorem d_Mo_normal_126 : decode prog_10_method_70_code 126 = .ok (.iconst 0, 1) := by decide +kernel
theorem d_Mo_normal_127 : decode prog_10_method_70_code 127 = .ok (.istore_n 1, 1) := by decide +kernel
theorem d_Mo_normal_128 : decode prog_10_method_70_code 128 = .ok (.iload_n 1, 1) := by decide +kernel
theorem d_Mo_normal_129 : decode prog_10_method_70_code 129 = .ok (.iconst 2, 1) := by decide +kernel
theorem d_Mo_normal_130 : decode prog_10_method_70_code 130 = .ok (.aload_n 0, 1) := by decide +kernel
theorem d_Mo_normal_131 : decode prog_10_method_70_code 131 = .ok (.getfield 331, 3) := by decide +kernel
theorem d_Mo_normal_134 : decode prog_10_method_70_code 134 = .ok (.imul, 1) := by decide +kernel
theorem d_Mo_normal_135 : decode prog_10_method_70_code 135 = .ok (.if_icmp .ge 35, 3) := by decide +kernel
theorem d_Mo_normal_138 : decode prog_10_method_70_code 138 = .ok (.aload_n 0, 1) := by decide +kernel
theorem d_Mo_normal_139 : decode prog_10_method_70_code 139 = .ok (.getfield 418, 3) := by decide +kernel
theorem d_Mo_normal_142 : decode prog_10_method_70_code 142 = .ok (.ifCond .ne 28, 3) := by decide +kernel
theorem d_Mo_normal_145 : decode prog_10_method_70_code 145 = .ok (.aload_n 0, 1) := by decide +kernel
theorem d_Mo_normal_146 : decode prog_10_method_70_code 146 = .ok (.getfield 135, 3) := by decide +kernel
theorem d_Mo_normal_149 : decode prog_10_method_70_code 149 = .ok (.iload_n 1, 1) := by decide +kernel
theorem d_Mo_normal_150 : decode prog_10_method_70_code 150 = .ok (.baload, 1) := by decide +kernel
theorem d_Mo_normal_151 : decode prog_10_method_70_code 151 = .ok (.ifCond .eq 13, 3) := by decide +kernel
theorem d_Mo_normal_154 : decode prog_10_method_70_code 154 = .ok (.aload_n 0, 1) := by decide +kernel
theorem d_Mo_normal_155 : decode prog_10_method_70_code 155 = .ok (.iload_n 1, 1) := by decide +kernel
theorem d_Mo_normal_156 : decode prog_10_method_70_code 156 = .ok (.iconst 2, 1) := by decide +kernel
theorem d_Mo_normal_157 : decode prog_10_method_70_code 157 = .ok (.idiv, 1) := by decide +kernel
theorem d_Mo_normal_158 : decode prog_10_method_70_code 158 = .ok (.iload_n 1, 1) := by decide +kernel
theorem d_Mo_normal_159 : decode prog_10_method_70_code 159 = .ok (.iconst 2, 1) := by decide +kernel
theorem d_Mo_normal_160 : decode prog_10_method_70_code 160 = .ok (.irem, 1) := by decide +kernel
theorem d_Mo_normal_161 : decode prog_10_method_70_code 161 = .ok (.invokevirtual 448, 3) := by decide +kernel
theorem d_Mo_normal_164 : decode prog_10_method_70_code 164 = .ok (.iinc 1 1, 3) := by decide +kernel
theorem d_Mo_normal_167 : decode prog_10_method_70_code 167 = .ok (.goto (-39), 3) := by decide +kernel
theorem d_Mo_normal_170 : decode prog_10_method_70_code 170 = .ok (.aload_n 0, 1) := by decide +kernel
theorem d_Mo_normal_171 : decode prog_10_method_70_code 171 = .ok (.getfield 418, 3) := by decide +kernel
theorem d_Mo_normal_174 : decode prog_10_method_70_code 174 = .ok (.ifCond .eq 5, 3) := by decide +kernel
theorem d_Mo_normal_177 : decode prog_10_method_70_code 177 = .ok (.iconst (-1), 1) := by decide +kernel
theorem d_Mo_normal_178 : decode prog_10_method_70_code 178 = .ok (.ireturn, 1) := by decide +kernel
theorem d_Mo_normal_179 : decode prog_10_method_70_code 179 = .ok (.aload_n 0, 1) := by decide +kernel
theorem d_Mo_normal_180 : decode prog_10_method_70_code 180 = .ok (.getfield 129, 3) := by decide +kernel
theorem d_Mo_normal_183 : decode prog_10_method_70_code 183 = .ok (.iconst 2, 1) := by decide +kernel
theorem d_Mo_normal_184 : decode prog_10_method_70_code 184 = .ok (.aload_n 0, 1) := by decide +kernel
theorem d_Mo_normal_185 : decode prog_10_method_70_code 185 = .ok (.getfield 141, 3) := by decide +kernel
theorem d_Mo_normal_188 : decode prog_10_method_70_code 188 = .ok (.imul, 1) := by decide +kernel
theorem d_Mo_normal_189 : decode prog_10_method_70_code 189 = .ok (.iaload, 1) := by decide +kernel
theorem d_Mo_normal_190 : decode prog_10_method_70_code 190 = .ok (.istore_n 1, 1) := by decide +kernel
theorem d_Mo_normal_191 : decode prog_10_method_70_code 191 = .ok (.iload_n 1, 1) := by decide +kernel
theorem d_Mo_normal_192 : decode prog_10_method_70_code 192 = .ok (.aload_n 0, 1) := by decide +kernel
theorem d_Mo_normal_193 : decode prog_10_method_70_code 193 = .ok (.getfield 132, 3) := by decide +kernel
theorem d_Mo_normal_196 : decode prog_10_method_70_code 196 = .ok (.iconst 2, 1) := by decide +kernel
theorem d_Mo_normal_197 : decode prog_10_method_70_code 197 = .ok (.aload_n 0, 1) := by decide +kernel
theorem d_Mo_normal_198 : decode prog_10_method_70_code 198 = .ok (.getfield 141, 3) := by decide +kernel
theorem d_Mo_normal_201 : decode prog_10_method_70_code 201 = .ok (.imul, 1) := by decide +kernel
theorem d_Mo_normal_202 : decode prog_10_method_70_code 202 = .ok (.iaload, 1) := by decide +kernel
theorem d_Mo_normal_203 : decode prog_10_method_70_code 203 = .ok (.if_icmp .ge 49, 3) := by decide +kernel
theorem d_Mo_normal_206 : decode prog_10_method_70_code 206 = .ok (.aload_n 0, 1) := by decide +kernel
theorem d_Mo_normal_207 : decode prog_10_method_70_code 207 = .ok (.getfield 120, 3) := by decide +kernel
theorem d_Mo_normal_210 : decode prog_10_method_70_code 210 = .ok (.aload_n 0, 1) := by decide +kernel
theorem d_Mo_normal_211 : decode prog_10_method_70_code 211 = .ok (.getfield 442, 3) := by decide +kernel
theorem d_Mo_normal_214 : decode prog_10_method_70_code 214 = .ok (.aload_n 0, 1) := by decide +kernel
theorem d_Mo_normal_215 : decode prog_10_method_70_code 215 = .ok (.getfield 114, 3) := by decide +kernel
theorem d_Mo_normal_218 : decode prog_10_method_70_code 218 = .ok (.iload_n 1, 1) := by decide +kernel
theorem d_Mo_normal_219 : decode prog_10_method_70_code 219 = .ok (.laload, 1) := by decide +kernel
theorem d_Mo_normal_220 : decode prog_10_method_70_code 220 = .ok (.lastore, 1) := by decide +kernel
theorem d_Mo_normal_221 : decode prog_10_method_70_code 221 = .ok (.aload_n 0, 1) := by decide +kernel
theorem d_Mo_normal_222 : decode prog_10_method_70_code 222 = .ok (.getfield 123, 3) := by decide +kernel
theorem d_Mo_normal_225 : decode prog_10_method_70_code 225 = .ok (.aload_n 0, 1) := by decide +kernel
theorem d_Mo_normal_226 : decode prog_10_method_70_code 226 = .ok (.getfield 442, 3) := by decide +kernel
theorem d_Mo_normal_229 : decode prog_10_method_70_code 229 = .ok (.aload_n 0, 1) := by decide +kernel
theorem d_Mo_normal_230 : decode prog_10_method_70_code 230 = .ok (.getfield 117, 3) := by decide +kernel
theorem d_Mo_normal_233 : decode prog_10_method_70_code 233 = .ok (.iload_n 1, 1) := by decide +kernel
theorem d_Mo_normal_234 : decode prog_10_method_70_code 234 = .ok (.laload, 1) := by decide +kernel
theorem d_Mo_normal_235 : decode prog_10_method_70_code 235 = .ok (.lastore, 1) := by decide +kernel
theorem d_Mo_normal_236 : decode prog_10_method_70_code 236 = .ok (.aload_n 0, 1) := by decide +kernel
theorem d_Mo_normal_237 : decode prog_10_method_70_code 237 = .ok (.dup, 1) := by decide +kernel
theorem d_Mo_normal_238 : decode prog_10_method_70_code 238 = .ok (.getfield 442, 3) := by decide +kernel
theorem d_Mo_normal_241 : decode prog_10_method_70_code 241 = .ok (.iconst 1, 1) := by decide +kernel
theorem d_Mo_normal_242 : decode prog_10_method_70_code 242 = .ok (.iadd, 1) := by decide +kernel
theorem d_Mo_normal_243 : decode prog_10_method_70_code 243 = .ok (.putfield 442, 3) := by decide +kernel
theorem d_Mo_normal_246 : decode prog_10_method_70_code 246 = .ok (.iinc 1 1, 3) := by decide +kernel
theorem d_Mo_normal_249 : decode prog_10_method_70_code 249 = .ok (.goto (-58), 3) := by decide +kernel
theorem d_Mo_normal_252 : decode prog_10_method_70_code 252 = .ok (.aload_n 0, 1) := by decide +kernel
theorem d_Mo_normal_253 : decode prog_10_method_70_code 253 = .ok (.getfield 442, 3) := by decide +kernel
theorem d_Mo_normal_256 : decode prog_10_method_70_code 256 = .ok (.ireturn, 1) := by decide +kernel
def y_Mo_row : MethodName := ⟨"MailQueriesModel", "row", "(IZ)J"⟩
def rm_Mo_row : Room := { frames := 0, cells := 0, slots := 0, locals := 0 }
theorem d_Mo_row_0 : decode prog_10_method_71_code 0 = .ok (.aload_n 0, 1) := by decide +kernel
theorem d_Mo_row_1 : decode prog_10_method_71_code 1 = .ok (.iconst 0, 1) := by decide +kernel
theorem d_Mo_row_2 : decode prog_10_method_71_code 2 = .ok (.putfield 144, 3) := by decide +kernel
theorem d_Mo_row_5 : decode prog_10_method_71_code 5 = .ok (.iload_n 1, 1) := by decide +kernel
theorem d_Mo_row_6 : decode prog_10_method_71_code 6 = .ok (.ifCond .lt 11, 3) := by decide +kernel
theorem d_Mo_row_9 : decode prog_10_method_71_code 9 = .ok (.iload_n 1, 1) := by decide +kernel
theorem d_Mo_row_10 : decode prog_10_method_71_code 10 = .ok (.aload_n 0, 1) := by decide +kernel
theorem d_Mo_row_11 : decode prog_10_method_71_code 11 = .ok (.getfield 442, 3) := by decide +kernel
theorem d_Mo_row_14 : decode prog_10_method_71_code 14 = .ok (.if_icmp .lt 7, 3) := by decide +kernel
theorem d_Mo_row_17 : decode prog_10_method_71_code 17 = .ok (.lconst 0, 1) := by decide +kernel
theorem d_Mo_row_18 : decode prog_10_method_71_code 18 = .ok (.goto 22, 3) := by decide +kernel
theorem d_Mo_row_21 : decode prog_10_method_71_code 21 = .ok (.iload_n 2, 1) := by decide +kernel
theorem d_Mo_row_22 : decode prog_10_method_71_code 22 = .ok (.ifCond .eq 12, 3) := by decide +kernel
theorem d_Mo_row_25 : decode prog_10_method_71_code 25 = .ok (.aload_n 0, 1) := by decide +kernel
theorem d_Mo_row_26 : decode prog_10_method_71_code 26 = .ok (.getfield 123, 3) := by decide +kernel
theorem d_Mo_row_29 : decode prog_10_method_71_code 29 = .ok (.iload_n 1, 1) := by decide +kernel
theorem d_Mo_row_30 : decode prog_10_method_71_code 30 = .ok (.laload, 1) := by decide +kernel
theorem d_Mo_row_31 : decode prog_10_method_71_code 31 = .ok (.goto 9, 3) := by decide +kernel
theorem d_Mo_row_34 : decode prog_10_method_71_code 34 = .ok (.aload_n 0, 1) := by decide +kernel
theorem d_Mo_row_35 : decode prog_10_method_71_code 35 = .ok (.getfield 120, 3) := by decide +kernel
theorem d_Mo_row_38 : decode prog_10_method_71_code 38 = .ok (.iload_n 1, 1) := by decide +kernel
theorem d_Mo_row_39 : decode prog_10_method_71_code 39 = .ok (.laload, 1) := by decide +kernel
theorem d_Mo_row_40 : decode prog_10_method_71_code 40 = .ok (.lreturn, 1) := by decide +kernel
def y_Mo_answers : MethodName := ⟨"MailQueriesModel", "answers", "(J)Z"⟩
def rm_Mo_answers : Room := { frames := 0, cells := 0, slots := 0, locals := 0 }
theorem d_Mo_answers_0 : decode prog_10_method_72_code 0 = .ok (.iconst 0, 1) := by decide +kernel
theorem d_Mo_answers_1 : decode prog_10_method_72_code 1 = .ok (.istore_n 3, 1) := by decide +kernel
theorem d_Mo_answers_2 : decode prog_10_method_72_code 2 = .ok (.iload_n 3, 1) := by decide +kernel
theorem d_Mo_answers_3 : decode prog_10_method_72_code 3 = .ok (.aload_n 0, 1) := by decide +kernel
theorem d_Mo_answers_4 : decode prog_10_method_72_code 4 = .ok (.getfield 331, 3) := by decide +kernel
theorem d_Mo_answers_7 : decode prog_10_method_72_code 7 = .ok (.if_icmp .ge 236, 3) := by decide +kernel
theorem d_Mo_answers_10 : decode prog_10_method_72_code 10 = .ok (.aload_n 0, 1) := by decide +kernel
theorem d_Mo_answers_11 : decode prog_10_method_72_code 11 = .ok (.getfield 83, 3) := by decide +kernel
theorem d_Mo_answers_14 : decode prog_10_method_72_code 14 = .ok (.iload_n 3, 1) := by decide +kernel
theorem d_Mo_answers_15 : decode prog_10_method_72_code 15 = .ok (.iaload, 1) := by decide +kernel
theorem d_Mo_answers_16 : decode prog_10_method_72_code 16 = .ok (.tableswitch 185 1 7 #[143, 185, 101, 73, 185, 185, 44], 44) := by decide +kernel
theorem d_Mo_answers_60 : decode prog_10_method_72_code 60 = .ok (.aload_n 0, 1) := by decide +kernel
theorem d_Mo_answers_61 : decode prog_10_method_72_code 61 = .ok (.getfield 126, 3) := by decide +kernel
theorem d_Mo_answers_64 : decode prog_10_method_72_code 64 = .ok (.iload_n 3, 1) := by decide +kernel
theorem d_Mo_answers_65 : decode prog_10_method_72_code 65 = .ok (.lload_n 1, 1) := by decide +kernel
theorem d_Mo_answers_66 : decode prog_10_method_72_code 66 = .ok (.aload_n 0, 1) := by decide +kernel
theorem d_Mo_answers_67 : decode prog_10_method_72_code 67 = .ok (.getfield 86, 3) := by decide +kernel
theorem d_Mo_answers_70 : decode prog_10_method_72_code 70 = .ok (.iload_n 3, 1) := by decide +kernel
theorem d_Mo_answers_71 : decode prog_10_method_72_code 71 = .ok (.iaload, 1) := by decide +kernel
theorem d_Mo_answers_72 : decode prog_10_method_72_code 72 = .ok (.lshr, 1) := by decide +kernel
theorem d_Mo_answers_73 : decode prog_10_method_72_code 73 = .ok (.lconst 1, 1) := by decide +kernel
theorem d_Mo_answers_74 : decode prog_10_method_72_code 74 = .ok (.land, 1) := by decide +kernel
theorem d_Mo_answers_75 : decode prog_10_method_72_code 75 = .ok (.lconst 1, 1) := by decide +kernel
theorem d_Mo_answers_76 : decode prog_10_method_72_code 76 = .ok (.lcmp, 1) := by decide +kernel
theorem d_Mo_answers_77 : decode prog_10_method_72_code 77 = .ok (.ifCond .ne 7, 3) := by decide +kernel
theorem d_Mo_answers_80 : decode prog_10_method_72_code 80 = .ok (.iconst 1, 1) := by decide +kernel
theorem d_Mo_answers_81 : decode prog_10_method_72_code 81 = .ok (.goto 4, 3) := by decide +kernel
theorem d_Mo_answers_84 : decode prog_10_method_72_code 84 = .ok (.iconst 0, 1) := by decide +kernel
theorem d_Mo_answers_85 : decode prog_10_method_72_code 85 = .ok (.bastore, 1) := by decide +kernel
theorem d_Mo_answers_86 : decode prog_10_method_72_code 86 = .ok (.goto 151, 3) := by decide +kernel
theorem d_Mo_answers_89 : decode prog_10_method_72_code 89 = .ok (.aload_n 0, 1) := by decide +kernel
theorem d_Mo_answers_90 : decode prog_10_method_72_code 90 = .ok (.getfield 126, 3) := by decide +kernel
theorem d_Mo_answers_93 : decode prog_10_method_72_code 93 = .ok (.iload_n 3, 1) := by decide +kernel
theorem d_Mo_answers_94 : decode prog_10_method_72_code 94 = .ok (.aload_n 0, 1) := by decide +kernel
theorem d_Mo_answers_95 : decode prog_10_method_72_code 95 = .ok (.getfield 126, 3) := by decide +kernel
theorem d_Mo_answers_98 : decode prog_10_method_72_code 98 = .ok (.aload_n 0, 1) := by decide +kernel
theorem d_Mo_answers_99 : decode prog_10_method_72_code 99 = .ok (.getfield 86, 3) := by decide +kernel
theorem d_Mo_answers_102 : decode prog_10_method_72_code 102 = .ok (.iload_n 3, 1) := by decide +kernel
theorem d_Mo_answers_103 : decode prog_10_method_72_code 103 = .ok (.iaload, 1) := by decide +kernel
theorem d_Mo_answers_104 : decode prog_10_method_72_code 104 = .ok (.baload, 1) := by decide +kernel
theorem d_Mo_answers_105 : decode prog_10_method_72_code 105 = .ok (.ifCond .ne 7, 3) := by decide +kernel
theorem d_Mo_answers_108 : decode prog_10_method_72_code 108 = .ok (.iconst 1, 1) := by decide +kernel
theorem d_Mo_answers_109 : decode prog_10_method_72_code 109 = .ok (.goto 4, 3) := by decide +kernel
theorem d_Mo_answers_112 : decode prog_10_method_72_code 112 = .ok (.iconst 0, 1) := by decide +kernel
theorem d_Mo_answers_113 : decode prog_10_method_72_code 113 = .ok (.bastore, 1) := by decide +kernel
theorem d_Mo_answers_114 : decode prog_10_method_72_code 114 = .ok (.goto 123, 3) := by decide +kernel
theorem d_Mo_answers_117 : decode prog_10_method_72_code 117 = .ok (.aload_n 0, 1) := by decide +kernel
theorem d_Mo_answers_118 : decode prog_10_method_72_code 118 = .ok (.getfield 126, 3) := by decide +kernel
theorem d_Mo_answers_121 : decode prog_10_method_72_code 121 = .ok (.iload_n 3, 1) := by decide +kernel
theorem d_Mo_answers_122 : decode prog_10_method_72_code 122 = .ok (.aload_n 0, 1) := by decide +kernel
theorem d_Mo_answers_123 : decode prog_10_method_72_code 123 = .ok (.getfield 126, 3) := by decide +kernel
theorem d_Mo_answers_126 : decode prog_10_method_72_code 126 = .ok (.aload_n 0, 1) := by decide +kernel
theorem d_Mo_answers_127 : decode prog_10_method_72_code 127 = .ok (.getfield 86, 3) := by decide +kernel
theorem d_Mo_answers_130 : decode prog_10_method_72_code 130 = .ok (.iload_n 3, 1) := by decide +kernel
theorem d_Mo_answers_131 : decode prog_10_method_72_code 131 = .ok (.iaload, 1) := by decide +kernel
theorem d_Mo_answers_132 : decode prog_10_method_72_code 132 = .ok (.baload, 1) := by decide +kernel
theorem d_Mo_answers_133 : decode prog_10_method_72_code 133 = .ok (.ifCond .eq 21, 3) := by decide +kernel
theorem d_Mo_answers_136 : decode prog_10_method_72_code 136 = .ok (.aload_n 0, 1) := by decide +kernel
theorem d_Mo_answers_137 : decode prog_10_method_72_code 137 = .ok (.getfield 126, 3) := by decide +kernel
theorem d_Mo_answers_140 : decode prog_10_method_72_code 140 = .ok (.aload_n 0, 1) := by decide +kernel
theorem d_Mo_answers_141 : decode prog_10_method_72_code 141 = .ok (.getfield 89, 3) := by decide +kernel
theorem d_Mo_answers_144 : decode prog_10_method_72_code 144 = .ok (.iload_n 3, 1) := by decide +kernel
theorem d_Mo_answers_145 : decode prog_10_method_72_code 145 = .ok (.iaload, 1) := by decide +kernel
theorem d_Mo_answers_146 : decode prog_10_method_72_code 146 = .ok (.baload, 1) := by decide +kernel
theorem d_Mo_answers_147 : decode prog_10_method_72_code 147 = .ok (.ifCond .eq 7, 3) := by decide +kernel
theorem d_Mo_answers_150 : decode prog_10_method_72_code 150 = .ok (.iconst 1, 1) := by decide +kernel
theorem d_Mo_answers_151 : decode prog_10_method_72_code 151 = .ok (.goto 4, 3) := by decide +kernel
theorem d_Mo_answers_154 : decode prog_10_method_72_code 154 = .ok (.iconst 0, 1) := by decide +kernel
theorem d_Mo_answers_155 : decode prog_10_method_72_code 155 = .ok (.bastore, 1) := by decide +kernel
theorem d_Mo_answers_156 : decode prog_10_method_72_code 156 = .ok (.goto 81, 3) := by decide +kernel
theorem d_Mo_answers_159 : decode prog_10_method_72_code 159 = .ok (.aload_n 0, 1) := by decide +kernel
theorem d_Mo_answers_160 : decode prog_10_method_72_code 160 = .ok (.getfield 126, 3) := by decide +kernel
theorem d_Mo_answers_163 : decode prog_10_method_72_code 163 = .ok (.iload_n 3, 1) := by decide +kernel
theorem d_Mo_answers_164 : decode prog_10_method_72_code 164 = .ok (.aload_n 0, 1) := by decide +kernel
theorem d_Mo_answers_165 : decode prog_10_method_72_code 165 = .ok (.getfield 126, 3) := by decide +kernel
theorem d_Mo_answers_168 : decode prog_10_method_72_code 168 = .ok (.aload_n 0, 1) := by decide +kernel
theorem d_Mo_answers_169 : decode prog_10_method_72_code 169 = .ok (.getfield 86, 3) := by decide +kernel
theorem d_Mo_answers_172 : decode prog_10_method_72_code 172 = .ok (.iload_n 3, 1) := by decide +kernel
theorem d_Mo_answers_173 : decode prog_10_method_72_code 173 = .ok (.iaload, 1) := by decide +kernel
theorem d_Mo_answers_174 : decode prog_10_method_72_code 174 = .ok (.baload, 1) := by decide +kernel
theorem d_Mo_answers_175 : decode prog_10_method_72_code 175 = .ok (.ifCond .ne 17, 3) := by decide +kernel
theorem d_Mo_answers_178 : decode prog_10_method_72_code 178 = .ok (.aload_n 0, 1) := by decide +kernel
theorem d_Mo_answers_179 : decode prog_10_method_72_code 179 = .ok (.getfield 126, 3) := by decide +kernel
theorem d_Mo_answers_182 : decode prog_10_method_72_code 182 = .ok (.aload_n 0, 1) := by decide +kernel
theorem d_Mo_answers_183 : decode prog_10_method_72_code 183 = .ok (.getfield 89, 3) := by decide +kernel
theorem d_Mo_answers_186 : decode prog_10_method_72_code 186 = .ok (.iload_n 3, 1) := by decide +kernel
theorem d_Mo_answers_187 : decode prog_10_method_72_code 187 = .ok (.iaload, 1) := by decide +kernel
theorem d_Mo_answers_188 : decode prog_10_method_72_code 188 = .ok (.baload, 1) := by decide +kernel
theorem d_Mo_answers_189 : decode prog_10_method_72_code 189 = .ok (.ifCond .eq 7, 3) := by decide +kernel
theorem d_Mo_answers_192 : decode prog_10_method_72_code 192 = .ok (.iconst 1, 1) := by decide +kernel
theorem d_Mo_answers_193 : decode prog_10_method_72_code 193 = .ok (.goto 4, 3) := by decide +kernel
theorem d_Mo_answers_196 : decode prog_10_method_72_code 196 = .ok (.iconst 0, 1) := by decide +kernel
theorem d_Mo_answers_197 : decode prog_10_method_72_code 197 = .ok (.bastore, 1) := by decide +kernel
theorem d_Mo_answers_198 : decode prog_10_method_72_code 198 = .ok (.goto 39, 3) := by decide +kernel
theorem d_Mo_answers_201 : decode prog_10_method_72_code 201 = .ok (.aload_n 0, 1) := by decide +kernel
theorem d_Mo_answers_202 : decode prog_10_method_72_code 202 = .ok (.getfield 126, 3) := by decide +kernel
theorem d_Mo_answers_205 : decode prog_10_method_72_code 205 = .ok (.iload_n 3, 1) := by decide +kernel
theorem d_Mo_answers_206 : decode prog_10_method_72_code 206 = .ok (.aload_n 0, 1) := by decide +kernel
theorem d_Mo_answers_207 : decode prog_10_method_72_code 207 = .ok (.getfield 126, 3) := by decide +kernel
theorem d_Mo_answers_210 : decode prog_10_method_72_code 210 = .ok (.aload_n 0, 1) := by decide +kernel
theorem d_Mo_answers_211 : decode prog_10_method_72_code 211 = .ok (.getfield 86, 3) := by decide +kernel
theorem d_Mo_answers_214 : decode prog_10_method_72_code 214 = .ok (.iload_n 3, 1) := by decide +kernel
theorem d_Mo_answers_215 : decode prog_10_method_72_code 215 = .ok (.iaload, 1) := by decide +kernel
theorem d_Mo_answers_216 : decode prog_10_method_72_code 216 = .ok (.baload, 1) := by decide +kernel
theorem d_Mo_answers_217 : decode prog_10_method_72_code 217 = .ok (.aload_n 0, 1) := by decide +kernel
theorem d_Mo_answers_218 : decode prog_10_method_72_code 218 = .ok (.getfield 126, 3) := by decide +kernel
theorem d_Mo_answers_221 : decode prog_10_method_72_code 221 = .ok (.aload_n 0, 1) := by decide +kernel
theorem d_Mo_answers_222 : decode prog_10_method_72_code 222 = .ok (.getfield 89, 3) := by decide +kernel
theorem d_Mo_answers_225 : decode prog_10_method_72_code 225 = .ok (.iload_n 3, 1) := by decide +kernel
theorem d_Mo_answers_226 : decode prog_10_method_72_code 226 = .ok (.iaload, 1) := by decide +kernel
theorem d_Mo_answers_227 : decode prog_10_method_72_code 227 = .ok (.baload, 1) := by decide +kernel
theorem d_Mo_answers_228 : decode prog_10_method_72_code 228 = .ok (.if_icmp .eq 7, 3) := by decide +kernel
theorem d_Mo_answers_231 : decode prog_10_method_72_code 231 = .ok (.iconst 1, 1) := by decide +kernel
theorem d_Mo_answers_232 : decode prog_10_method_72_code 232 = .ok (.goto 4, 3) := by decide +kernel
theorem d_Mo_answers_235 : decode prog_10_method_72_code 235 = .ok (.iconst 0, 1) := by decide +kernel
theorem d_Mo_answers_236 : decode prog_10_method_72_code 236 = .ok (.bastore, 1) := by decide +kernel
theorem d_Mo_answers_237 : decode prog_10_method_72_code 237 = .ok (.iinc 3 1, 3) := by decide +kernel
theorem d_Mo_answers_240 : decode prog_10_method_72_code 240 = .ok (.goto (-238), 3) := by decide +kernel
theorem d_Mo_answers_243 : decode prog_10_method_72_code 243 = .ok (.aload_n 0, 1) := by decide +kernel
theorem d_Mo_answers_244 : decode prog_10_method_72_code 244 = .ok (.getfield 141, 3) := by decide +kernel
theorem d_Mo_answers_247 : decode prog_10_method_72_code 247 = .ok (.iconst (-1), 1) := by decide +kernel
theorem d_Mo_answers_248 : decode prog_10_method_72_code 248 = .ok (.if_icmp .eq 15, 3) := by decide +kernel
theorem d_Mo_answers_251 : decode prog_10_method_72_code 251 = .ok (.aload_n 0, 1) := by decide +kernel
theorem d_Mo_answers_252 : decode prog_10_method_72_code 252 = .ok (.getfield 126, 3) := by decide +kernel
theorem d_Mo_answers_255 : decode prog_10_method_72_code 255 = .ok (.aload_n 0, 1) := by decide +kernel
theorem d_Mo_answers_256 : decode prog_10_method_72_code 256 = .ok (.getfield 141, 3) := by decide +kernel
theorem d_Mo_answers_259 : decode prog_10_method_72_code 259 = .ok (.baload, 1) := by decide +kernel
theorem d_Mo_answers_260 : decode prog_10_method_72_code 260 = .ok (.ifCond .eq 7, 3) := by decide +kernel
theorem d_Mo_answers_263 : decode prog_10_method_72_code 263 = .ok (.iconst 1, 1) := by decide +kernel
theorem d_Mo_answers_264 : decode prog_10_method_72_code 264 = .ok (.goto 4, 3) := by decide +kernel
theorem d_Mo_answers_267 : decode prog_10_method_72_code 267 = .ok (.iconst 0, 1) := by decide +kernel
theorem d_Mo_answers_268 : decode prog_10_method_72_code 268 = .ok (.ireturn, 1) := by decide +kernel
def y_Mo_ask : MethodName := ⟨"MailQueriesModel", "ask", "(J)Z"⟩
def rm_Mo_ask : Room := { frames := 1, cells := 0, slots := 0, locals := 23 }
theorem d_Mo_ask_0 : decode prog_10_method_73_code 0 = .ok (.aload_n 0, 1) := by decide +kernel
theorem d_Mo_ask_1 : decode prog_10_method_73_code 1 = .ok (.iconst 0, 1) := by decide +kernel
theorem d_Mo_ask_2 : decode prog_10_method_73_code 2 = .ok (.putfield 144, 3) := by decide +kernel
theorem d_Mo_ask_5 : decode prog_10_method_73_code 5 = .ok (.aload_n 0, 1) := by decide +kernel
theorem d_Mo_ask_6 : decode prog_10_method_73_code 6 = .ok (.lload_n 1, 1) := by decide +kernel
theorem d_Mo_ask_7 : decode prog_10_method_73_code 7 = .ok (.invokevirtual 451, 3) := by decide +kernel
theorem d_Mo_ask_10 : decode prog_10_method_73_code 10 = .ok (.ireturn, 1) := by decide +kernel
theorem mb_Mo_either : Mb y_Mo_either prog_10_method_66_code 5 none 2 := ⟨W_Mo_either_code, W_Mo_either_in, sel_98, I_Mo, by decide +kernel, by decide +kernel, by decide +kernel⟩
theorem mb_Mo_want : Mb y_Mo_want prog_10_method_67_code 5 none 2 := ⟨W_Mo_want_code, W_Mo_want_in, sel_91, I_Mo, by decide +kernel, by decide +kernel, by decide +kernel⟩
theorem mb_Mo_makeList : Mb y_Mo_makeList prog_10_method_68_code 6 none 2 := ⟨W_Mo_makeList_code, W_Mo_makeList_in, sel_93, I_Mo, by decide +kernel, by decide +kernel, by decide +kernel⟩
theorem mb_Mo_make : Mb y_Mo_make prog_10_method_69_code 3 none 2 := ⟨W_Mo_make_code, W_Mo_make_in, sel_92, I_Mo, by decide +kernel, by decide +kernel, by decide +kernel⟩
theorem mb_Mo_normal : Mb y_Mo_normal prog_10_method_70_code 2 (some .int) 0 := ⟨W_Mo_normal_code, W_Mo_normal_in, W_Mo_normal_se, I_Mo, by decide +kernel, by decide +kernel, by decide +kernel⟩
theorem mb_Mo_row : Mb y_Mo_row prog_10_method_71_code 3 (some .long) 2 := ⟨W_Mo_row_code, W_Mo_row_in, W_Mo_row_se, I_Mo, by decide +kernel, by decide +kernel, by decide +kernel⟩
theorem mb_Mo_answers : Mb y_Mo_answers prog_10_method_72_code 4 (some .boolean) 1 := ⟨W_Mo_answers_code, W_Mo_answers_in, sel_99, I_Mo, by decide +kernel, by decide +kernel, by decide +kernel⟩
theorem mb_Mo_ask : Mb y_Mo_ask prog_10_method_73_code 3 (some .boolean) 1 := ⟨W_Mo_ask_code, W_Mo_ask_in, W_Mo_ask_se, I_Mo, by decide +kernel, by decide +kernel, by decide +kernel⟩
def Mo_either_57 (F : Nat) : Nat → StI → StL → Int32 → Int32 → Int32 → Option (StI × StL)
  | 0, _, _, _, _, _ => none
  | n + 1, t, tL, x2, x3, x4 => if x2 < 0 ∨ 1400 ≤ x2.toNatClampNeg then none else if ((t 61) x2.toNatClampNeg) ≤ x4 then (Mo_clean F t tL x3).bind fun r16 => some (r16.1, r16.2) else if x4 < 0 ∨ 34000 ≤ x4.toNatClampNeg then none else if x4 < 0 ∨ 34000 ≤ x4.toNatClampNeg then none else (Mo_addRow F t tL x3 ((tL 49) x4.toNatClampNeg) ((tL 50) x4.toNatClampNeg)).bind fun r19 => Mo_either_57 F n r19.1 r19.2 x2 x3 (x4 + (1 : Int32))
def Mo_either_13 (F : Nat) : Nat → StI → StL → Int32 → Int32 → Int32 → Int32 → Option (StI × StL)
  | 0, _, _, _, _, _, _ => none
  | n + 1, t, tL, x1, x2, x3, x4 => if x1 < 0 ∨ 1400 ≤ x1.toNatClampNeg then none else if ((t 61) x1.toNatClampNeg) ≤ x4 then if x2 < 0 ∨ 1400 ≤ x2.toNatClampNeg then none else Mo_either_57 F F t tL x2 x3 ((t 60) x2.toNatClampNeg) else if x4 < 0 ∨ 34000 ≤ x4.toNatClampNeg then none else if x4 < 0 ∨ 34000 ≤ x4.toNatClampNeg then none else (Mo_addRow F t tL x3 ((tL 49) x4.toNatClampNeg) ((tL 50) x4.toNatClampNeg)).bind fun r25 => Mo_either_13 F n r25.1 r25.2 x1 x2 x3 (x4 + (1 : Int32))
def Mo_either (F : Nat) (t : StI) (tL : StL) (x1 : Int32) (x2 : Int32) : Option (StI × StL) := if x1 < 0 ∨ 1400 ≤ x1.toNatClampNeg then none else Mo_either_13 F F t tL x1 x2 (t 48 0) ((t 60) x1.toNatClampNeg)
set_option maxHeartbeats 4000000 in
set_option maxRecDepth 100000 in
theorem k_Mo_either_57 {p : Program} {l : Launch} {e : Env} {s : State} {m : MethodId} {args : Array Value} {below : List Frame} {meth : Method} {c : Code} {g : Gz} {A : Nat → Prop} {F : Nat} {a_t : Nat → Nat} (hC : Cx prog_10_method_66_code 5 none R_Mo p s m args meth c g A A) : ∀ (n : Nat) (t : StI) (tL : StL) (x2 : Int32) (x3 : Int32) (x4 : Int32) (res : StI × StL), Mo_either_57 F n t tL x2 x3 x4 = some res → Go p l e rm_Mo_either s m args below meth c g A A 5 (MQ below (EV g ((pic_Mo g a_t res.1 res.2)) A) args s 0 0 A) ((pic_Mo g a_t t tL)) [(0, .ref (a_t 0)), (2, .int x2), (3, .int x3), (4, .int x4)] 57 [] := by
  obtain ⟨hx, hb, hr, hml, hown, htb, hlocks, hA, hAA, hG⟩ := id hC
  have hK := hG.1
  intro n
  induction n with
  | zero => intro t tL x2 x3 x4 res h; rw [Mo_either_57] at h; cases h
  | succ n ih =>
    intro t tL x2 x3 x4 res h H locs ls hP hD hS hl
    rw [Mo_either_57] at h
    refine lv_iload hx hb d_Mo_either_57 (lv_at hl 3 rfl) ?_
    refine lv_aload_n hx hb d_Mo_either_59 rfl (lv_at hl 0 rfl) ?_
    refine va_get (D := gD g) (ci := 8) (v := .ref (a_t 62)) (C := R_Mo) (T := T_Mo) (N := 64) hx hb htb in_Mo hown hK hP 0 rfl rfl 61 (by decide) (htb _ L_Mo_132) (fun _ h9 => h9) rfl d_Mo_either_60 ?_
    refine lv_iload_n hx hb d_Mo_either_63 rfl (lv_at hl 1 rfl) ?_
    by_cases c14 : (x2 < 0 ∨ 1400 ≤ x2.toNatClampNeg)
    · replace h := (if_pos c14).symm.trans h
      cases h
    replace h := (if_neg c14).symm.trans h
    refine va_iald hx hb hK hP 30 0 rfl rfl c14 d_Mo_either_64 ?_
    refine lv_icmp_ge (tgt := 93) hx hb d_Mo_either_65 (by decide) (fun c15 => ?_) (fun c15 => ?_)
    · replace h := (if_pos c15).symm.trans h
      refine lv_aload_n hx hb d_Mo_either_93 rfl (lv_at hl 0 rfl) ?_
      refine lv_iload_n hx hb d_Mo_either_94 rfl (lv_at hl 2 rfl) ?_
      obtain ⟨r16, hr16, h⟩ := Option.bind_eq_some_iff.mp h
      refine cl_V (wr := []) [0, 1, 2, 3, 4, 5, 6, 7, 8, 9, 10, 11, 12, 13, 14, 15, 16, 17, 18, 19, 20, 21, 22, 23, 24, 25, 26, 27, 28, 29, 30, 31, 32] [] rfl rfl rfl (by decide) hP hD hS hA (va_runV (As := [.int x3]) (rest := []) ⟨hx, hb, hml, hown, htb⟩ (c_Mo_clean l g F a_t t tL x3 _ hr16 H.size) (cw_V htb mb_Mo_clean (htb _ L_Mo_430) rfl rfl ⟨Nat.le_of_ble_eq_true rfl, Nat.le_of_ble_eq_true rfl⟩) (pre_V (va_recv hK hP (ci := 8) (q0 := 0) rfl rfl) (pre_S [0, 1, 2, 3, 4, 5, 6, 7, 8, 9, 10, 11, 12, 13, 14, 15, 16, 17, 18, 19, 20, 21, 22, 23, 24, 25, 26, 27, 28, 29, 30, 31, 32] rfl rfl hP hD hS hA hAA hG)) rfl rfl hl.1 rfl (lv_room (Nat.le_of_ble_eq_true rfl)) d_Mo_either_95 ⟨Nat.zero_le _, Nat.zero_le _⟩) (fun H locs hP hD hS => ?_)
      have hP : va_P (gD g) vwCl ((pic_Mo g a_t r16.1 r16.2)) H := hP.sub [0, 1, 2, 3, 4, 5, 6, 7, 8, 9, 10, 11, 12, 13, 14, 15, 16, 17, 18, 19, 20, 21, 22, 23, 24, 25, 26, 27, 28, 29, 30, 31, 32] rfl
      have hD : va_D A ((pic_Mo g a_t r16.1 r16.2)) := hD.sub [0, 1, 2, 3, 4, 5, 6, 7, 8, 9, 10, 11, 12, 13, 14, 15, 16, 17, 18, 19, 20, 21, 22, 23, 24, 25, 26, 27, 28, 29, 30, 31, 32] rfl rfl
      cases h
      exact W.vret hx hb hr (fun t ht hW => ⟨⟨(), rfl, trivial, by rw [ht]; exact hP, hD⟩, hS.F ht⟩) hS.2.2 d_Mo_either_98
    · replace h := (if_neg c15).symm.trans h
      refine lv_aload_n hx hb d_Mo_either_68 rfl (lv_at hl 0 rfl) ?_
      refine lv_iload_n hx hb d_Mo_either_69 rfl (lv_at hl 2 rfl) ?_
      refine lv_aload_n hx hb d_Mo_either_70 rfl (lv_at hl 0 rfl) ?_
      refine va_get (D := gD g) (ci := 8) (v := .ref (a_t 50)) (C := R_Mo) (T := T_Mo) (N := 64) hx hb htb in_Mo hown hK hP 0 rfl rfl 49 (by decide) (htb _ L_Mo_114) (fun _ h9 => h9) rfl d_Mo_either_71 ?_
      refine lv_iload hx hb d_Mo_either_74 (lv_at hl 3 rfl) ?_
      by_cases c17 : (x4 < 0 ∨ 34000 ≤ x4.toNatClampNeg)
      · replace h := (if_pos c17).symm.trans h
        cases h
      replace h := (if_neg c17).symm.trans h
      refine va_lald hx hb hK hP 24 3 rfl rfl c17 d_Mo_either_76 ?_
      refine lv_aload_n hx hb d_Mo_either_77 rfl (lv_at hl 0 rfl) ?_
      refine va_get (D := gD g) (ci := 8) (v := .ref (a_t 51)) (C := R_Mo) (T := T_Mo) (N := 64) hx hb htb in_Mo hown hK hP 0 rfl rfl 50 (by decide) (htb _ L_Mo_117) (fun _ h9 => h9) rfl d_Mo_either_78 ?_
      refine lv_iload hx hb d_Mo_either_81 (lv_at hl 3 rfl) ?_
      by_cases c18 : (x4 < 0 ∨ 34000 ≤ x4.toNatClampNeg)
      · replace h := (if_pos c18).symm.trans h
        cases h
      replace h := (if_neg c18).symm.trans h
      refine va_lald hx hb hK hP 25 3 rfl rfl c18 d_Mo_either_83 ?_
      obtain ⟨r19, hr19, h⟩ := Option.bind_eq_some_iff.mp h
      refine cl_V (wr := []) [0, 1, 2, 3, 4, 5, 6, 7, 8, 9, 10, 11, 12, 13, 14, 15, 16, 17, 18, 19, 20, 21, 22, 23, 24, 25, 26, 27, 28, 29, 30, 31, 32] [] rfl rfl rfl (by decide) hP hD hS hA (va_runV (As := [.int x3, .long ((tL 49) x4.toNatClampNeg), .long ((tL 50) x4.toNatClampNeg)]) (rest := []) ⟨hx, hb, hml, hown, htb⟩ (c_Mo_addRow l g F a_t t tL x3 ((tL 49) x4.toNatClampNeg) ((tL 50) x4.toNatClampNeg) _ hr19 H.size) (cw_V htb mb_Mo_addRow (htb _ L_Mo_426) rfl rfl ⟨Nat.le_of_ble_eq_true rfl, Nat.le_of_ble_eq_true rfl⟩) (pre_V (va_recv hK hP (ci := 8) (q0 := 0) rfl rfl) (pre_S [0, 1, 2, 3, 4, 5, 6, 7, 8, 9, 10, 11, 12, 13, 14, 15, 16, 17, 18, 19, 20, 21, 22, 23, 24, 25, 26, 27, 28, 29, 30, 31, 32] rfl rfl hP hD hS hA hAA hG)) rfl rfl hl.1 rfl (lv_room (Nat.le_of_ble_eq_true rfl)) d_Mo_either_84 ⟨Nat.zero_le _, Nat.zero_le _⟩) (fun H locs hP hD hS => ?_)
      have hP : va_P (gD g) vwCl ((pic_Mo g a_t r19.1 r19.2)) H := hP.sub [0, 1, 2, 3, 4, 5, 6, 7, 8, 9, 10, 11, 12, 13, 14, 15, 16, 17, 18, 19, 20, 21, 22, 23, 24, 25, 26, 27, 28, 29, 30, 31, 32] rfl
      have hD : va_D A ((pic_Mo g a_t r19.1 r19.2)) := hD.sub [0, 1, 2, 3, 4, 5, 6, 7, 8, 9, 10, 11, 12, 13, 14, 15, 16, 17, 18, 19, 20, 21, 22, 23, 24, 25, 26, 27, 28, 29, 30, 31, 32] rfl rfl
      refine lv_iinc (v := (x4 + (1 : Int32))) (lv' := [(4, .int (x4 + (1 : Int32))), (0, .ref (a_t 0)), (2, .int x2), (3, .int x3)]) hx hb d_Mo_either_87 hl (k := 3) rfl rfl (by decide) rfl (fun ls hl => ?_)
      refine lv_goto (tgt := 57) hx hb d_Mo_either_90 (by decide) ?_
      exact ih _ _ _ _ _ _ h _ _ _ hP hD hS (lv_sub hl [1, 2, 3, 0] rfl)
set_option maxHeartbeats 4000000 in
set_option maxRecDepth 100000 in
theorem k_Mo_either_13 {p : Program} {l : Launch} {e : Env} {s : State} {m : MethodId} {args : Array Value} {below : List Frame} {meth : Method} {c : Code} {g : Gz} {A : Nat → Prop} {F : Nat} {a_t : Nat → Nat} (hC : Cx prog_10_method_66_code 5 none R_Mo p s m args meth c g A A) : ∀ (n : Nat) (t : StI) (tL : StL) (x1 : Int32) (x2 : Int32) (x3 : Int32) (x4 : Int32) (res : StI × StL), Mo_either_13 F n t tL x1 x2 x3 x4 = some res → Go p l e rm_Mo_either s m args below meth c g A A 5 (MQ below (EV g ((pic_Mo g a_t res.1 res.2)) A) args s 0 0 A) ((pic_Mo g a_t t tL)) [(0, .ref (a_t 0)), (1, .int x1), (2, .int x2), (3, .int x3), (4, .int x4)] 13 [] := by
  obtain ⟨hx, hb, hr, hml, hown, htb, hlocks, hA, hAA, hG⟩ := id hC
  have hK := hG.1
  intro n
  induction n with
  | zero => intro t tL x1 x2 x3 x4 res h; rw [Mo_either_13] at h; cases h
  | succ n ih =>
    intro t tL x1 x2 x3 x4 res h H locs ls hP hD hS hl
    rw [Mo_either_13] at h
    refine lv_iload hx hb d_Mo_either_13 (lv_at hl 4 rfl) ?_
    refine lv_aload_n hx hb d_Mo_either_15 rfl (lv_at hl 0 rfl) ?_
    refine va_get (D := gD g) (ci := 8) (v := .ref (a_t 62)) (C := R_Mo) (T := T_Mo) (N := 64) hx hb htb in_Mo hown hK hP 0 rfl rfl 61 (by decide) (htb _ L_Mo_132) (fun _ h9 => h9) rfl d_Mo_either_16 ?_
    refine lv_iload_n hx hb d_Mo_either_19 rfl (lv_at hl 1 rfl) ?_
    by_cases c20 : (x1 < 0 ∨ 1400 ≤ x1.toNatClampNeg)
    · replace h := (if_pos c20).symm.trans h
      cases h
    replace h := (if_neg c20).symm.trans h
    refine va_iald hx hb hK hP 30 0 rfl rfl c20 d_Mo_either_20 ?_
    refine lv_icmp_ge (tgt := 49) hx hb d_Mo_either_21 (by decide) (fun c21 => ?_) (fun c21 => ?_)
    · replace h := (if_pos c21).symm.trans h
      refine lv_aload_n hx hb d_Mo_either_49 rfl (lv_at hl 0 rfl) ?_
      refine va_get (D := gD g) (ci := 8) (v := .ref (a_t 61)) (C := R_Mo) (T := T_Mo) (N := 64) hx hb htb in_Mo hown hK hP 0 rfl rfl 60 (by decide) (htb _ L_Mo_129) (fun _ h9 => h9) rfl d_Mo_either_50 ?_
      refine lv_iload_n hx hb d_Mo_either_53 rfl (lv_at hl 2 rfl) ?_
      by_cases c22 : (x2 < 0 ∨ 1400 ≤ x2.toNatClampNeg)
      · replace h := (if_pos c22).symm.trans h
        cases h
      replace h := (if_neg c22).symm.trans h
      refine va_iald hx hb hK hP 29 0 rfl rfl c22 d_Mo_either_54 ?_
      refine lv_istore (lv' := [(4, .int ((t 60) x2.toNatClampNeg)), (0, .ref (a_t 0)), (1, .int x1), (2, .int x2), (3, .int x3)]) hx hb d_Mo_either_55 hl (by decide) rfl (fun ls hl => ?_)
      exact k_Mo_either_57 hC F _ _ _ _ _ _ h _ _ _ hP hD hS (lv_sub hl [1, 3, 4, 0] rfl)
    · replace h := (if_neg c21).symm.trans h
      refine lv_aload_n hx hb d_Mo_either_24 rfl (lv_at hl 0 rfl) ?_
      refine lv_iload_n hx hb d_Mo_either_25 rfl (lv_at hl 3 rfl) ?_
      refine lv_aload_n hx hb d_Mo_either_26 rfl (lv_at hl 0 rfl) ?_
      refine va_get (D := gD g) (ci := 8) (v := .ref (a_t 50)) (C := R_Mo) (T := T_Mo) (N := 64) hx hb htb in_Mo hown hK hP 0 rfl rfl 49 (by decide) (htb _ L_Mo_114) (fun _ h9 => h9) rfl d_Mo_either_27 ?_
      refine lv_iload hx hb d_Mo_either_30 (lv_at hl 4 rfl) ?_
      by_cases c23 : (x4 < 0 ∨ 34000 ≤ x4.toNatClampNeg)
      · replace h := (if_pos c23).symm.trans h
        cases h
      replace h := (if_neg c23).symm.trans h
      refine va_lald hx hb hK hP 24 3 rfl rfl c23 d_Mo_either_32 ?_
      refine lv_aload_n hx hb d_Mo_either_33 rfl (lv_at hl 0 rfl) ?_
      refine va_get (D := gD g) (ci := 8) (v := .ref (a_t 51)) (C := R_Mo) (T := T_Mo) (N := 64) hx hb htb in_Mo hown hK hP 0 rfl rfl 50 (by decide) (htb _ L_Mo_117) (fun _ h9 => h9) rfl d_Mo_either_34 ?_
      refine lv_iload hx hb d_Mo_either_37 (lv_at hl 4 rfl) ?_
      by_cases c24 : (x4 < 0 ∨ 34000 ≤ x4.toNatClampNeg)
      · replace h := (if_pos c24).symm.trans h
        cases h
      replace h := (if_neg c24).symm.trans h
      refine va_lald hx hb hK hP 25 3 rfl rfl c24 d_Mo_either_39 ?_
      obtain ⟨r25, hr25, h⟩ := Option.bind_eq_some_iff.mp h
      refine cl_V (wr := []) [0, 1, 2, 3, 4, 5, 6, 7, 8, 9, 10, 11, 12, 13, 14, 15, 16, 17, 18, 19, 20, 21, 22, 23, 24, 25, 26, 27, 28, 29, 30, 31, 32] [] rfl rfl rfl (by decide) hP hD hS hA (va_runV (As := [.int x3, .long ((tL 49) x4.toNatClampNeg), .long ((tL 50) x4.toNatClampNeg)]) (rest := []) ⟨hx, hb, hml, hown, htb⟩ (c_Mo_addRow l g F a_t t tL x3 ((tL 49) x4.toNatClampNeg) ((tL 50) x4.toNatClampNeg) _ hr25 H.size) (cw_V htb mb_Mo_addRow (htb _ L_Mo_426) rfl rfl ⟨Nat.le_of_ble_eq_true rfl, Nat.le_of_ble_eq_true rfl⟩) (pre_V (va_recv hK hP (ci := 8) (q0 := 0) rfl rfl) (pre_S [0, 1, 2, 3, 4, 5, 6, 7, 8, 9, 10, 11, 12, 13, 14, 15, 16, 17, 18, 19, 20, 21, 22, 23, 24, 25, 26, 27, 28, 29, 30, 31, 32] rfl rfl hP hD hS hA hAA hG)) rfl rfl hl.1 rfl (lv_room (Nat.le_of_ble_eq_true rfl)) d_Mo_either_40 ⟨Nat.zero_le _, Nat.zero_le _⟩) (fun H locs hP hD hS => ?_)
      have hP : va_P (gD g) vwCl ((pic_Mo g a_t r25.1 r25.2)) H := hP.sub [0, 1, 2, 3, 4, 5, 6, 7, 8, 9, 10, 11, 12, 13, 14, 15, 16, 17, 18, 19, 20, 21, 22, 23, 24, 25, 26, 27, 28, 29, 30, 31, 32] rfl
      have hD : va_D A ((pic_Mo g a_t r25.1 r25.2)) := hD.sub [0, 1, 2, 3, 4, 5, 6, 7, 8, 9, 10, 11, 12, 13, 14, 15, 16, 17, 18, 19, 20, 21, 22, 23, 24, 25, 26, 27, 28, 29, 30, 31, 32] rfl rfl
      refine lv_iinc (v := (x4 + (1 : Int32))) (lv' := [(4, .int (x4 + (1 : Int32))), (0, .ref (a_t 0)), (1, .int x1), (2, .int x2), (3, .int x3)]) hx hb d_Mo_either_43 hl (k := 4) rfl rfl (by decide) rfl (fun ls hl => ?_)
      refine lv_goto (tgt := 13) hx hb d_Mo_either_46 (by decide) ?_
      exact ih _ _ _ _ _ _ _ h _ _ _ hP hD hS (lv_sub hl [1, 2, 3, 4, 0] rfl)
set_option maxHeartbeats 4000000 in
set_option maxRecDepth 100000 in
theorem k_Mo_either {p : Program} {l : Launch} {e : Env} {s : State} {m : MethodId} {args : Array Value} {below : List Frame} {meth : Method} {c : Code} {g : Gz} {A : Nat → Prop} {F : Nat} {a_t : Nat → Nat} (hC : Cx prog_10_method_66_code 5 none R_Mo p s m args meth c g A A) : ∀ (t : StI) (tL : StL) (x1 : Int32) (x2 : Int32) (res : StI × StL), Mo_either F t tL x1 x2 = some res → Go p l e rm_Mo_either s m args below meth c g A A 5 (MQ below (EV g ((pic_Mo g a_t res.1 res.2)) A) args s 0 0 A) ((pic_Mo g a_t t tL)) [(0, .ref (a_t 0)), (1, .int x1), (2, .int x2)] 0 [] := by
  obtain ⟨hx, hb, hr, hml, hown, htb, hlocks, hA, hAA, hG⟩ := id hC
  have hK := hG.1
  intro t tL x1 x2 res h H locs ls hP hD hS hl
  rw [Mo_either] at h
  refine lv_aload_n hx hb d_Mo_either_0 rfl (lv_at hl 0 rfl) ?_
  refine va_get (D := gD g) (ci := 8) (v := .int (t 48 0)) (C := R_Mo) (T := T_Mo) (N := 64) hx hb htb in_Mo hown hK hP 0 rfl rfl 48 (by decide) (htb _ L_Mo_415) (fun _ h9 => h9) rfl d_Mo_either_1 ?_
  refine lv_istore_n (lv' := [(3, .int (t 48 0)), (0, .ref (a_t 0)), (1, .int x1), (2, .int x2)]) hx hb d_Mo_either_4 rfl hl (by decide) rfl (fun ls hl => ?_)
  refine lv_aload_n hx hb d_Mo_either_5 rfl (lv_at hl 1 rfl) ?_
  refine va_get (D := gD g) (ci := 8) (v := .ref (a_t 61)) (C := R_Mo) (T := T_Mo) (N := 64) hx hb htb in_Mo hown hK hP 0 rfl rfl 60 (by decide) (htb _ L_Mo_129) (fun _ h9 => h9) rfl d_Mo_either_6 ?_
  refine lv_iload_n hx hb d_Mo_either_9 rfl (lv_at hl 2 rfl) ?_
  by_cases c26 : (x1 < 0 ∨ 1400 ≤ x1.toNatClampNeg)
  · replace h := (if_pos c26).symm.trans h
    cases h
  replace h := (if_neg c26).symm.trans h
  refine va_iald hx hb hK hP 29 0 rfl rfl c26 d_Mo_either_10 ?_
  refine lv_istore (lv' := [(4, .int ((t 60) x1.toNatClampNeg)), (3, .int (t 48 0)), (0, .ref (a_t 0)), (1, .int x1), (2, .int x2)]) hx hb d_Mo_either_11 hl (by decide) rfl (fun ls hl => ?_)
  exact k_Mo_either_13 hC F _ _ _ _ _ _ _ h _ _ _ hP hD hS (lv_sub hl [2, 3, 4, 1, 0] rfl)
theorem c_Mo_either (l : Launch) (g : Gz) (F : Nat) (a_t : Nat → Nat) (t : StI) (tL : StL) (x1 : Int32) (x2 : Int32) (res : StI × StL) (h : Mo_either F t tL x1 x2 = some res) : ∀ sz : Nat, Met l y_Mo_either (.code y_Mo_either prog_10_method_66_code 5 none :: TBL) rm_Mo_either (va_Pc [.ref (a_t 0), .int x1, .int x2] (Pre0 g ((pic_Mo g a_t t tL)) sz)) (EV g ((pic_Mo g a_t res.1 res.2)) (va_A ((pic_Mo g a_t t tL)) sz)) 0 0 (va_A ((pic_Mo g a_t t tL)) sz) :=
  ct_w (Qc := fun A => EV g ((pic_Mo g a_t res.1 res.2)) A) (by decide) (Nat.le_of_ble_eq_true rfl) (fun p e s m args below meth c A hC => k_Mo_either hC t tL x1 x2 res h)
def Mo_want (F : Nat) (t : StI) (tL : StL) (x1 : Int32) (x2 : Int32) : Option (StI × StL) := if x1 < 0 ∨ 700 ≤ x1.toNatClampNeg then none else if x1 < 0 ∨ 700 ≤ x1.toNatClampNeg then none else if x1 < 0 ∨ 700 ≤ x1.toNatClampNeg then none else if ((t 32) x1.toNatClampNeg) = (2 : Int32) then if ((2 : Int32) * ((t 33) x1.toNatClampNeg)) < 0 ∨ 1400 ≤ ((2 : Int32) * ((t 33) x1.toNatClampNeg)).toNatClampNeg then none else letS (va_up t 62 (upd (t 62) ((2 : Int32) * ((t 33) x1.toNatClampNeg)).toNatClampNeg (vp_nar .boolean (1 : Int32)))) fun t_33 => if (((2 : Int32) * ((t 33) x1.toNatClampNeg)) + (1 : Int32)) < 0 ∨ 1400 ≤ (((2 : Int32) * ((t 33) x1.toNatClampNeg)) + (1 : Int32)).toNatClampNeg then none else letS (va_up t_33 62 (upd (t_33 62) (((2 : Int32) * ((t 33) x1.toNatClampNeg)) + (1 : Int32)).toNatClampNeg (vp_nar .boolean (1 : Int32)))) fun t_35 => if ((2 : Int32) * ((t 34) x1.toNatClampNeg)) < 0 ∨ 1400 ≤ ((2 : Int32) * ((t 34) x1.toNatClampNeg)).toNatClampNeg then none else letS (va_up t_35 62 (upd (t_35 62) ((2 : Int32) * ((t 34) x1.toNatClampNeg)).toNatClampNeg (vp_nar .boolean (1 : Int32)))) fun t_37 => if (((2 : Int32) * ((t 34) x1.toNatClampNeg)) + (1 : Int32)) < 0 ∨ 1400 ≤ (((2 : Int32) * ((t 34) x1.toNatClampNeg)) + (1 : Int32)).toNatClampNeg then none else letS (va_up t_37 62 (upd (t_37 62) (((2 : Int32) * ((t 34) x1.toNatClampNeg)) + (1 : Int32)).toNatClampNeg (vp_nar .boolean (1 : Int32)))) fun t_39 => some (t_39, tL) else if ((t 32) x1.toNatClampNeg) = (4 : Int32) then if ((((2 : Int32) * ((t 33) x1.toNatClampNeg)) + (1 : Int32)) - x2) < 0 ∨ 1400 ≤ ((((2 : Int32) * ((t 33) x1.toNatClampNeg)) + (1 : Int32)) - x2).toNatClampNeg then none else letS (va_up t 62 (upd (t 62) ((((2 : Int32) * ((t 33) x1.toNatClampNeg)) + (1 : Int32)) - x2).toNatClampNeg (vp_nar .boolean (1 : Int32)))) fun t_31 => some (t_31, tL) else if ((t 32) x1.toNatClampNeg) = (7 : Int32) then some (t, tL) else if (((2 : Int32) * ((t 33) x1.toNatClampNeg)) + x2) < 0 ∨ 1400 ≤ (((2 : Int32) * ((t 33) x1.toNatClampNeg)) + x2).toNatClampNeg then none else letS (va_up t 62 (upd (t 62) (((2 : Int32) * ((t 33) x1.toNatClampNeg)) + x2).toNatClampNeg (vp_nar .boolean (1 : Int32)))) fun t_27 => if (((2 : Int32) * ((t 34) x1.toNatClampNeg)) + x2) < 0 ∨ 1400 ≤ (((2 : Int32) * ((t 34) x1.toNatClampNeg)) + x2).toNatClampNeg then none else letS (va_up t_27 62 (upd (t_27 62) (((2 : Int32) * ((t 34) x1.toNatClampNeg)) + x2).toNatClampNeg (vp_nar .boolean (1 : Int32)))) fun t_29 => some (t_29, tL)
set_option maxHeartbeats 4000000 in
set_option maxRecDepth 100000 in
theorem k_Mo_want {p : Program} {l : Launch} {e : Env} {s : State} {m : MethodId} {args : Array Value} {below : List Frame} {meth : Method} {c : Code} {g : Gz} {A : Nat → Prop} {F : Nat} {a_t : Nat → Nat} (hC : Cx prog_10_method_67_code 5 none R_Mo p s m args meth c g A A) : ∀ (t : StI) (tL : StL) (x1 : Int32) (x2 : Int32) (res : StI × StL), Mo_want F t tL x1 x2 = some res → Go p l e rm_Mo_want s m args below meth c g A A 5 (MQ below (EV g ((pic_Mo g a_t res.1 res.2)) A) args s 0 0 A) ((pic_Mo g a_t t tL)) [(0, .ref (a_t 0)), (1, .int x1), (2, .int x2)] 0 [] := by
  obtain ⟨hx, hb, hr, hml, hown, htb, hlocks, hA, hAA, hG⟩ := id hC
  have hK := hG.1
  intro t tL x1 x2 res h H locs ls hP hD hS hl
  rw [Mo_want] at h
  refine lv_iconst (v := 2) hx hb d_Mo_want_0 (by decide) ?_
  refine lv_aload_n hx hb d_Mo_want_1 rfl (lv_at hl 0 rfl) ?_
  refine va_get (D := gD g) (ci := 8) (v := .ref (a_t 34)) (C := R_Mo) (T := T_Mo) (N := 64) hx hb htb in_Mo hown hK hP 0 rfl rfl 33 (by decide) (htb _ L_Mo_86) (fun _ h9 => h9) rfl d_Mo_want_2 ?_
  refine lv_iload_n hx hb d_Mo_want_5 rfl (lv_at hl 1 rfl) ?_
  by_cases c21 : (x1 < 0 ∨ 700 ≤ x1.toNatClampNeg)
  · replace h := (if_pos c21).symm.trans h
    cases h
  replace h := (if_neg c21).symm.trans h
  refine va_iald hx hb hK hP 15 0 rfl rfl c21 d_Mo_want_6 ?_
  refine lv_imul hx hb d_Mo_want_7 ?_
  refine lv_istore_n (lv' := [(3, .int ((2 : Int32) * ((t 33) x1.toNatClampNeg))), (0, .ref (a_t 0)), (1, .int x1), (2, .int x2)]) hx hb d_Mo_want_8 rfl hl (by decide) rfl (fun ls hl => ?_)
  refine lv_iconst (v := 2) hx hb d_Mo_want_9 (by decide) ?_
  refine lv_aload_n hx hb d_Mo_want_10 rfl (lv_at hl 1 rfl) ?_
  refine va_get (D := gD g) (ci := 8) (v := .ref (a_t 35)) (C := R_Mo) (T := T_Mo) (N := 64) hx hb htb in_Mo hown hK hP 0 rfl rfl 34 (by decide) (htb _ L_Mo_89) (fun _ h9 => h9) rfl d_Mo_want_11 ?_
  refine lv_iload_n hx hb d_Mo_want_14 rfl (lv_at hl 2 rfl) ?_
  by_cases c22 : (x1 < 0 ∨ 700 ≤ x1.toNatClampNeg)
  · replace h := (if_pos c22).symm.trans h
    cases h
  replace h := (if_neg c22).symm.trans h
  refine va_iald hx hb hK hP 16 0 rfl rfl c22 d_Mo_want_15 ?_
  refine lv_imul hx hb d_Mo_want_16 ?_
  refine lv_istore (lv' := [(4, .int ((2 : Int32) * ((t 34) x1.toNatClampNeg))), (3, .int ((2 : Int32) * ((t 33) x1.toNatClampNeg))), (0, .ref (a_t 0)), (1, .int x1), (2, .int x2)]) hx hb d_Mo_want_17 hl (by decide) rfl (fun ls hl => ?_)
  refine lv_aload_n hx hb d_Mo_want_19 rfl (lv_at hl 2 rfl) ?_
  refine va_get (D := gD g) (ci := 8) (v := .ref (a_t 33)) (C := R_Mo) (T := T_Mo) (N := 64) hx hb htb in_Mo hown hK hP 0 rfl rfl 32 (by decide) (htb _ L_Mo_83) (fun _ h9 => h9) rfl d_Mo_want_20 ?_
  refine lv_iload_n hx hb d_Mo_want_23 rfl (lv_at hl 3 rfl) ?_
  by_cases c23 : (x1 < 0 ∨ 700 ≤ x1.toNatClampNeg)
  · replace h := (if_pos c23).symm.trans h
    cases h
  replace h := (if_neg c23).symm.trans h
  refine va_iald hx hb hK hP 14 0 rfl rfl c23 d_Mo_want_24 ?_
  by_cases c24 : ((t 32) x1.toNatClampNeg) = (2 : Int32)
  · replace h := (if_pos c24).symm.trans h
    refine lv_lookup (off := 52) (tgt := 77) hx hb d_Mo_want_25 (by decide) (by rw [c24]; rfl) (by decide) ?_
    refine lv_aload_n hx hb d_Mo_want_77 rfl (lv_at hl 2 rfl) ?_
    refine va_get (D := gD g) (ci := 8) (v := .ref (a_t 63)) (C := R_Mo) (T := T_Mo) (N := 64) hx hb htb in_Mo hown hK hP 0 rfl rfl 62 (by decide) (htb _ L_Mo_135) (fun _ h9 => h9) rfl d_Mo_want_78 ?_
    refine lv_iload_n hx hb d_Mo_want_81 rfl (lv_at hl 1 rfl) ?_
    refine lv_iconst (v := 1) hx hb d_Mo_want_82 (by decide) ?_
    by_cases c34 : (((2 : Int32) * ((t 33) x1.toNatClampNeg)) < 0 ∨ 1400 ≤ ((2 : Int32) * ((t 33) x1.toNatClampNeg)).toNatClampNeg)
    · replace h := (if_pos c34).symm.trans h
      cases h
    replace h := (if_neg c34).symm.trans h
    refine va_zast hx hb hK hP hD hS 31 2 rfl rfl c34 d_Mo_want_83 (fun H locs hP hD hS => ?_)
    obtain ⟨t_33, et_33, h⟩ := letS_el h
    have hP : va_P (gD g) vwCl ((pic_Mo g a_t t_33 tL)) H := by rw [et_33]; exact hP
    have hD : va_D A ((pic_Mo g a_t t_33 tL)) := by rw [et_33]; exact hD
    refine lv_aload_n hx hb d_Mo_want_84 rfl (lv_at hl 2 rfl) ?_
    refine va_get (D := gD g) (ci := 8) (v := .ref (a_t 63)) (C := R_Mo) (T := T_Mo) (N := 64) hx hb htb in_Mo hown hK hP 0 rfl rfl 62 (by decide) (htb _ L_Mo_135) (fun _ h9 => h9) rfl d_Mo_want_85 ?_
    refine lv_iload_n hx hb d_Mo_want_88 rfl (lv_at hl 1 rfl) ?_
    refine lv_iconst (v := 1) hx hb d_Mo_want_89 (by decide) ?_
    refine lv_iadd hx hb d_Mo_want_90 ?_
    refine lv_iconst (v := 1) hx hb d_Mo_want_91 (by decide) ?_
    by_cases c36 : ((((2 : Int32) * ((t 33) x1.toNatClampNeg)) + (1 : Int32)) < 0 ∨ 1400 ≤ (((2 : Int32) * ((t 33) x1.toNatClampNeg)) + (1 : Int32)).toNatClampNeg)
    · replace h := (if_pos c36).symm.trans h
      cases h
    replace h := (if_neg c36).symm.trans h
    refine va_zast hx hb hK hP hD hS 31 2 rfl rfl c36 d_Mo_want_92 (fun H locs hP hD hS => ?_)
    obtain ⟨t_35, et_35, h⟩ := letS_el h
    have hP : va_P (gD g) vwCl ((pic_Mo g a_t t_35 tL)) H := by rw [et_35]; exact hP
    have hD : va_D A ((pic_Mo g a_t t_35 tL)) := by rw [et_35]; exact hD
    refine lv_aload_n hx hb d_Mo_want_93 rfl (lv_at hl 2 rfl) ?_
    refine va_get (D := gD g) (ci := 8) (v := .ref (a_t 63)) (C := R_Mo) (T := T_Mo) (N := 64) hx hb htb in_Mo hown hK hP 0 rfl rfl 62 (by decide) (htb _ L_Mo_135) (fun _ h9 => h9) rfl d_Mo_want_94 ?_
    refine lv_iload hx hb d_Mo_want_97 (lv_at hl 0 rfl) ?_
    refine lv_iconst (v := 1) hx hb d_Mo_want_99 (by decide) ?_
    by_cases c38 : (((2 : Int32) * ((t 34) x1.toNatClampNeg)) < 0 ∨ 1400 ≤ ((2 : Int32) * ((t 34) x1.toNatClampNeg)).toNatClampNeg)
    · replace h := (if_pos c38).symm.trans h
      cases h
    replace h := (if_neg c38).symm.trans h
    refine va_zast hx hb hK hP hD hS 31 2 rfl rfl c38 d_Mo_want_100 (fun H locs hP hD hS => ?_)
    obtain ⟨t_37, et_37, h⟩ := letS_el h
    have hP : va_P (gD g) vwCl ((pic_Mo g a_t t_37 tL)) H := by rw [et_37]; exact hP
    have hD : va_D A ((pic_Mo g a_t t_37 tL)) := by rw [et_37]; exact hD
    refine lv_aload_n hx hb d_Mo_want_101 rfl (lv_at hl 2 rfl) ?_
    refine va_get (D := gD g) (ci := 8) (v := .ref (a_t 63)) (C := R_Mo) (T := T_Mo) (N := 64) hx hb htb in_Mo hown hK hP 0 rfl rfl 62 (by decide) (htb _ L_Mo_135) (fun _ h9 => h9) rfl d_Mo_want_102 ?_
    refine lv_iload hx hb d_Mo_want_105 (lv_at hl 0 rfl) ?_
    refine lv_iconst (v := 1) hx hb d_Mo_want_107 (by decide) ?_
    refine lv_iadd hx hb d_Mo_want_108 ?_
    refine lv_iconst (v := 1) hx hb d_Mo_want_109 (by decide) ?_
    by_cases c40 : ((((2 : Int32) * ((t 34) x1.toNatClampNeg)) + (1 : Int32)) < 0 ∨ 1400 ≤ (((2 : Int32) * ((t 34) x1.toNatClampNeg)) + (1 : Int32)).toNatClampNeg)
    · replace h := (if_pos c40).symm.trans h
      cases h
    replace h := (if_neg c40).symm.trans h
    refine va_zast hx hb hK hP hD hS 31 2 rfl rfl c40 d_Mo_want_110 (fun H locs hP hD hS => ?_)
    obtain ⟨t_39, et_39, h⟩ := letS_el h
    have hP : va_P (gD g) vwCl ((pic_Mo g a_t t_39 tL)) H := by rw [et_39]; exact hP
    have hD : va_D A ((pic_Mo g a_t t_39 tL)) := by rw [et_39]; exact hD
    refine lv_goto (tgt := 133) hx hb d_Mo_want_111 (by decide) ?_
    cases h
    exact W.vret hx hb hr (fun t ht hW => ⟨⟨(), rfl, trivial, by rw [ht]; exact hP, hD⟩, hS.F ht⟩) hS.2.2 d_Mo_want_133
  replace h := (if_neg c24).symm.trans h
  by_cases c25 : ((t 32) x1.toNatClampNeg) = (4 : Int32)
  · replace h := (if_pos c25).symm.trans h
    refine lv_lookup (off := 38) (tgt := 63) hx hb d_Mo_want_25 (by decide) (by rw [c25]; rfl) (by decide) ?_
    refine lv_aload_n hx hb d_Mo_want_63 rfl (lv_at hl 2 rfl) ?_
    refine va_get (D := gD g) (ci := 8) (v := .ref (a_t 63)) (C := R_Mo) (T := T_Mo) (N := 64) hx hb htb in_Mo hown hK hP 0 rfl rfl 62 (by decide) (htb _ L_Mo_135) (fun _ h9 => h9) rfl d_Mo_want_64 ?_
    refine lv_iload_n hx hb d_Mo_want_67 rfl (lv_at hl 1 rfl) ?_
    refine lv_iconst (v := 1) hx hb d_Mo_want_68 (by decide) ?_
    refine lv_iadd hx hb d_Mo_want_69 ?_
    refine lv_iload_n hx hb d_Mo_want_70 rfl (lv_at hl 4 rfl) ?_
    refine lv_isub hx hb d_Mo_want_71 ?_
    refine lv_iconst (v := 1) hx hb d_Mo_want_72 (by decide) ?_
    by_cases c32 : (((((2 : Int32) * ((t 33) x1.toNatClampNeg)) + (1 : Int32)) - x2) < 0 ∨ 1400 ≤ ((((2 : Int32) * ((t 33) x1.toNatClampNeg)) + (1 : Int32)) - x2).toNatClampNeg)
    · replace h := (if_pos c32).symm.trans h
      cases h
    replace h := (if_neg c32).symm.trans h
    refine va_zast hx hb hK hP hD hS 31 2 rfl rfl c32 d_Mo_want_73 (fun H locs hP hD hS => ?_)
    obtain ⟨t_31, et_31, h⟩ := letS_el h
    have hP : va_P (gD g) vwCl ((pic_Mo g a_t t_31 tL)) H := by rw [et_31]; exact hP
    have hD : va_D A ((pic_Mo g a_t t_31 tL)) := by rw [et_31]; exact hD
    refine lv_goto (tgt := 133) hx hb d_Mo_want_74 (by decide) ?_
    cases h
    exact W.vret hx hb hr (fun t ht hW => ⟨⟨(), rfl, trivial, by rw [ht]; exact hP, hD⟩, hS.F ht⟩) hS.2.2 d_Mo_want_133
  replace h := (if_neg c25).symm.trans h
  by_cases c26 : ((t 32) x1.toNatClampNeg) = (7 : Int32)
  · replace h := (if_pos c26).symm.trans h
    refine lv_lookup (off := 35) (tgt := 60) hx hb d_Mo_want_25 (by decide) (by rw [c26]; rfl) (by decide) ?_
    refine lv_goto (tgt := 133) hx hb d_Mo_want_60 (by decide) ?_
    cases h
    exact W.vret hx hb hr (fun t ht hW => ⟨⟨(), rfl, trivial, by rw [ht]; exact hP, hD⟩, hS.F ht⟩) hS.2.2 d_Mo_want_133
  replace h := (if_neg c26).symm.trans h
  refine lv_lookup (off := 89) (tgt := 114) hx hb d_Mo_want_25 (by decide) (by show Op.lookupswitch.offset [(2, 52), (4, 38), (7, 35)] (89) _ = _; rw [lv_osw c24 (by decide), lv_osw c25 (by decide), lv_osw c26 (by decide)]; rfl) (by decide) ?_
  refine lv_aload_n hx hb d_Mo_want_114 rfl (lv_at hl 2 rfl) ?_
  refine va_get (D := gD g) (ci := 8) (v := .ref (a_t 63)) (C := R_Mo) (T := T_Mo) (N := 64) hx hb htb in_Mo hown hK hP 0 rfl rfl 62 (by decide) (htb _ L_Mo_135) (fun _ h9 => h9) rfl d_Mo_want_115 ?_
  refine lv_iload_n hx hb d_Mo_want_118 rfl (lv_at hl 1 rfl) ?_
  refine lv_iload_n hx hb d_Mo_want_119 rfl (lv_at hl 4 rfl) ?_
  refine lv_iadd hx hb d_Mo_want_120 ?_
  refine lv_iconst (v := 1) hx hb d_Mo_want_121 (by decide) ?_
  by_cases c28 : ((((2 : Int32) * ((t 33) x1.toNatClampNeg)) + x2) < 0 ∨ 1400 ≤ (((2 : Int32) * ((t 33) x1.toNatClampNeg)) + x2).toNatClampNeg)
  · replace h := (if_pos c28).symm.trans h
    cases h
  replace h := (if_neg c28).symm.trans h
  refine va_zast hx hb hK hP hD hS 31 2 rfl rfl c28 d_Mo_want_122 (fun H locs hP hD hS => ?_)
  obtain ⟨t_27, et_27, h⟩ := letS_el h
  have hP : va_P (gD g) vwCl ((pic_Mo g a_t t_27 tL)) H := by rw [et_27]; exact hP
  have hD : va_D A ((pic_Mo g a_t t_27 tL)) := by rw [et_27]; exact hD
  refine lv_aload_n hx hb d_Mo_want_123 rfl (lv_at hl 2 rfl) ?_
  refine va_get (D := gD g) (ci := 8) (v := .ref (a_t 63)) (C := R_Mo) (T := T_Mo) (N := 64) hx hb htb in_Mo hown hK hP 0 rfl rfl 62 (by decide) (htb _ L_Mo_135) (fun _ h9 => h9) rfl d_Mo_want_124 ?_
  refine lv_iload hx hb d_Mo_want_127 (lv_at hl 0 rfl) ?_
  refine lv_iload_n hx hb d_Mo_want_129 rfl (lv_at hl 4 rfl) ?_
  refine lv_iadd hx hb d_Mo_want_130 ?_
  refine lv_iconst (v := 1) hx hb d_Mo_want_131 (by decide) ?_
  by_cases c30 : ((((2 : Int32) * ((t 34) x1.toNatClampNeg)) + x2) < 0 ∨ 1400 ≤ (((2 : Int32) * ((t 34) x1.toNatClampNeg)) + x2).toNatClampNeg)
  · replace h := (if_pos c30).symm.trans h
    cases h
  replace h := (if_neg c30).symm.trans h
  refine va_zast hx hb hK hP hD hS 31 2 rfl rfl c30 d_Mo_want_132 (fun H locs hP hD hS => ?_)
  obtain ⟨t_29, et_29, h⟩ := letS_el h
  have hP : va_P (gD g) vwCl ((pic_Mo g a_t t_29 tL)) H := by rw [et_29]; exact hP
  have hD : va_D A ((pic_Mo g a_t t_29 tL)) := by rw [et_29]; exact hD
  cases h
  exact W.vret hx hb hr (fun t ht hW => ⟨⟨(), rfl, trivial, by rw [ht]; exact hP, hD⟩, hS.F ht⟩) hS.2.2 d_Mo_want_133
theorem c_Mo_want (l : Launch) (g : Gz) (F : Nat) (a_t : Nat → Nat) (t : StI) (tL : StL) (x1 : Int32) (x2 : Int32) (res : StI × StL) (h : Mo_want F t tL x1 x2 = some res) : ∀ sz : Nat, Met l y_Mo_want (.code y_Mo_want prog_10_method_67_code 5 none :: TBL) rm_Mo_want (va_Pc [.ref (a_t 0), .int x1, .int x2] (Pre0 g ((pic_Mo g a_t t tL)) sz)) (EV g ((pic_Mo g a_t res.1 res.2)) (va_A ((pic_Mo g a_t t tL)) sz)) 0 0 (va_A ((pic_Mo g a_t t tL)) sz) :=
  ct_w (Qc := fun A => EV g ((pic_Mo g a_t res.1 res.2)) A) (by decide) (Nat.le_of_ble_eq_true rfl) (fun p e s m args below meth c A hC => k_Mo_want hC t tL x1 x2 res h)
def Mo_makeList_223 (F : Nat) (t : StI) (tL : StL) (x1 : Int32) (x2 : Int32) (x3 : Int32) : Option (StI × StL) := if (((2 : Int32) * x1) + x2) < 0 ∨ 1400 ≤ (((2 : Int32) * x1) + x2).toNatClampNeg then none else letS (va_up t 60 (upd (t 60) (((2 : Int32) * x1) + x2).toNatClampNeg x3)) fun t_29 => if (((2 : Int32) * x1) + x2) < 0 ∨ 1400 ≤ (((2 : Int32) * x1) + x2).toNatClampNeg then none else letS (va_up t_29 61 (upd (t_29 61) (((2 : Int32) * x1) + x2).toNatClampNeg (t_29 48 0))) fun t_31 => some (t_31, tL)
def Mo_makeList_155 (F : Nat) (t : StI) (tL : StL) (x1 : Int32) (x2 : Int32) (x3 : Int32) (y0 : Int32) : Option (StI × StL) := if y0 = 0 ∨ y0 = 1 then letS (va_up t 51 (fun _ => y0)) fun t_34 => (Mo_clean F t_34 tL x3).bind fun r35 => Mo_makeList_223 F r35.1 r35.2 x1 x2 x3 else none
def Mo_makeList_150 (F : Nat) (t : StI) (tL : StL) (x1 : Int32) (x2 : Int32) (x3 : Int32) : Option (StI × StL) := Mo_makeList_155 F t tL x1 x2 x3 (1 : Int32)
def Mo_makeList_100 (F : Nat) (t : StI) (tL : StL) (x1 : Int32) (x2 : Int32) (x3 : Int32) (y0 : Int64) (y1 : Int64) (y2 : Int32) : Option (StI × StL) := (Mo_addRow F t tL y2 y1 y0).bind fun r36 => Mo_makeList_223 F r36.1 r36.2 x1 x2 x3
def Mo_makeList_83 (F : Nat) (t : StI) (tL : StL) (x1 : Int32) (x2 : Int32) (x3 : Int32) (y0 : Int64) (y1 : Int32) : Option (StI × StL) := if x2 = (1 : Int32) then if x1 < 0 ∨ 700 ≤ x1.toNatClampNeg then none else Mo_makeList_100 F t tL x1 x2 x3 ((1 : Int64) <<< (((t 33) x1.toNatClampNeg).toInt64 &&& 63)) y0 y1 else Mo_makeList_100 F t tL x1 x2 x3 (0 : Int64) y0 y1
def Mo_makeList (F : Nat) (t : StI) (tL : StL) (x1 : Int32) (x2 : Int32) : Option (StI × StL) := if x1 < 0 ∨ 700 ≤ x1.toNatClampNeg then none else if x1 < 0 ∨ 700 ≤ x1.toNatClampNeg then none else if x1 < 0 ∨ 700 ≤ x1.toNatClampNeg then none else if ((t 32) x1.toNatClampNeg) = (2 : Int32) then (Mo_both F t tL ((2 : Int32) * ((t 33) x1.toNatClampNeg)) ((((2 : Int32) * ((t 34) x1.toNatClampNeg)) + (1 : Int32)) - x2)).bind fun r53 => (Mo_both F r53.1 r53.2 (((2 : Int32) * ((t 33) x1.toNatClampNeg)) + (1 : Int32)) (((2 : Int32) * ((t 34) x1.toNatClampNeg)) + x2)).bind fun r54 => if (r54.1 51 0) = 0 then if ((r54.1 48 0) - (t 48 0)) ≤ (200 : Int32) then Mo_makeList_155 F r54.1 r54.2 x1 x2 (t 48 0) (0 : Int32) else Mo_makeList_150 F r54.1 r54.2 x1 x2 (t 48 0) else Mo_makeList_150 F r54.1 r54.2 x1 x2 (t 48 0) else if ((t 32) x1.toNatClampNeg) = (3 : Int32) then if x2 = 0 then (Mo_both F t tL ((2 : Int32) * ((t 33) x1.toNatClampNeg)) ((2 : Int32) * ((t 34) x1.toNatClampNeg))).bind fun r52 => Mo_makeList_223 F r52.1 r52.2 x1 x2 (t 48 0) else (Mo_either F t tL (((2 : Int32) * ((t 33) x1.toNatClampNeg)) + (1 : Int32)) (((2 : Int32) * ((t 34) x1.toNatClampNeg)) + (1 : Int32))).bind fun r51 => Mo_makeList_223 F r51.1 r51.2 x1 x2 (t 48 0) else if ((t 32) x1.toNatClampNeg) = (7 : Int32) then if x2 = (1 : Int32) then Mo_makeList_83 F t tL x1 x2 (t 48 0) (0 : Int64) (t 48 0) else if x1 < 0 ∨ 700 ≤ x1.toNatClampNeg then none else Mo_makeList_83 F t tL x1 x2 (t 48 0) ((1 : Int64) <<< (((t 33) x1.toNatClampNeg).toInt64 &&& 63)) (t 48 0) else if x2 = 0 then (Mo_either F t tL ((2 : Int32) * ((t 33) x1.toNatClampNeg)) ((2 : Int32) * ((t 34) x1.toNatClampNeg))).bind fun r47 => Mo_makeList_223 F r47.1 r47.2 x1 x2 (t 48 0) else (Mo_both F t tL (((2 : Int32) * ((t 33) x1.toNatClampNeg)) + (1 : Int32)) (((2 : Int32) * ((t 34) x1.toNatClampNeg)) + (1 : Int32))).bind fun r46 => Mo_makeList_223 F r46.1 r46.2 x1 x2 (t 48 0)
set_option maxHeartbeats 4000000 in
set_option maxRecDepth 100000 in
theorem k_Mo_makeList_223 {p : Program} {l : Launch} {e : Env} {s : State} {m : MethodId} {args : Array Value} {below : List Frame} {meth : Method} {c : Code} {g : Gz} {A : Nat → Prop} {F : Nat} {a_t : Nat → Nat} (hC : Cx prog_10_method_68_code 6 none R_Mo p s m args meth c g A A) : ∀ (t : StI) (tL : StL) (x1 : Int32) (x2 : Int32) (x3 : Int32) (res : StI × StL), Mo_makeList_223 F t tL x1 x2 x3 = some res → Go p l e rm_Mo_makeList s m args below meth c g A A 6 (MQ below (EV g ((pic_Mo g a_t res.1 res.2)) A) args s 0 0 A) ((pic_Mo g a_t t tL)) [(0, .ref (a_t 0)), (1, .int x1), (2, .int x2), (3, .int x3)] 223 [] := by
  obtain ⟨hx, hb, hr, hml, hown, htb, hlocks, hA, hAA, hG⟩ := id hC
  have hK := hG.1
  intro t tL x1 x2 x3 res h H locs ls hP hD hS hl
  rw [Mo_makeList_223] at h
  refine lv_aload_n hx hb d_Mo_makeList_223 rfl (lv_at hl 0 rfl) ?_
  refine va_get (D := gD g) (ci := 8) (v := .ref (a_t 61)) (C := R_Mo) (T := T_Mo) (N := 64) hx hb htb in_Mo hown hK hP 0 rfl rfl 60 (by decide) (htb _ L_Mo_129) (fun _ h9 => h9) rfl d_Mo_makeList_224 ?_
  refine lv_iconst (v := 2) hx hb d_Mo_makeList_227 (by decide) ?_
  refine lv_iload_n hx hb d_Mo_makeList_228 rfl (lv_at hl 1 rfl) ?_
  refine lv_imul hx hb d_Mo_makeList_229 ?_
  refine lv_iload_n hx hb d_Mo_makeList_230 rfl (lv_at hl 2 rfl) ?_
  refine lv_iadd hx hb d_Mo_makeList_231 ?_
  refine lv_iload_n hx hb d_Mo_makeList_232 rfl (lv_at hl 3 rfl) ?_
  by_cases c30 : ((((2 : Int32) * x1) + x2) < 0 ∨ 1400 ≤ (((2 : Int32) * x1) + x2).toNatClampNeg)
  · replace h := (if_pos c30).symm.trans h
    cases h
  replace h := (if_neg c30).symm.trans h
  refine va_iast hx hb hK hP hD hS 29 0 rfl rfl c30 d_Mo_makeList_233 (fun H locs hP hD hS => ?_)
  obtain ⟨t_29, et_29, h⟩ := letS_el h
  have hP : va_P (gD g) vwCl ((pic_Mo g a_t t_29 tL)) H := by rw [et_29]; exact hP
  have hD : va_D A ((pic_Mo g a_t t_29 tL)) := by rw [et_29]; exact hD
  refine lv_aload_n hx hb d_Mo_makeList_234 rfl (lv_at hl 0 rfl) ?_
  refine va_get (D := gD g) (ci := 8) (v := .ref (a_t 62)) (C := R_Mo) (T := T_Mo) (N := 64) hx hb htb in_Mo hown hK hP 0 rfl rfl 61 (by decide) (htb _ L_Mo_132) (fun _ h9 => h9) rfl d_Mo_makeList_235 ?_
  refine lv_iconst (v := 2) hx hb d_Mo_makeList_238 (by decide) ?_
  refine lv_iload_n hx hb d_Mo_makeList_239 rfl (lv_at hl 1 rfl) ?_
  refine lv_imul hx hb d_Mo_makeList_240 ?_
  refine lv_iload_n hx hb d_Mo_makeList_241 rfl (lv_at hl 2 rfl) ?_
  refine lv_iadd hx hb d_Mo_makeList_242 ?_
  refine lv_aload_n hx hb d_Mo_makeList_243 rfl (lv_at hl 0 rfl) ?_
  refine va_get (D := gD g) (ci := 8) (v := .int (t_29 48 0)) (C := R_Mo) (T := T_Mo) (N := 64) hx hb htb in_Mo hown hK hP 0 rfl rfl 48 (by decide) (htb _ L_Mo_415) (fun _ h9 => h9) rfl d_Mo_makeList_244 ?_
  by_cases c32 : ((((2 : Int32) * x1) + x2) < 0 ∨ 1400 ≤ (((2 : Int32) * x1) + x2).toNatClampNeg)
  · replace h := (if_pos c32).symm.trans h
    cases h
  replace h := (if_neg c32).symm.trans h
  refine va_iast hx hb hK hP hD hS 30 0 rfl rfl c32 d_Mo_makeList_247 (fun H locs hP hD hS => ?_)
  obtain ⟨t_31, et_31, h⟩ := letS_el h
  have hP : va_P (gD g) vwCl ((pic_Mo g a_t t_31 tL)) H := by rw [et_31]; exact hP
  have hD : va_D A ((pic_Mo g a_t t_31 tL)) := by rw [et_31]; exact hD
  cases h
  exact W.vret hx hb hr (fun t ht hW => ⟨⟨(), rfl, trivial, by rw [ht]; exact hP, hD⟩, hS.F ht⟩) hS.2.2 d_Mo_makeList_248
set_option maxHeartbeats 4000000 in
set_option maxRecDepth 100000 in
theorem k_Mo_makeList_155 {p : Program} {l : Launch} {e : Env} {s : State} {m : MethodId} {args : Array Value} {below : List Frame} {meth : Method} {c : Code} {g : Gz} {A : Nat → Prop} {F : Nat} {a_t : Nat → Nat} (hC : Cx prog_10_method_68_code 6 none R_Mo p s m args meth c g A A) : ∀ (t : StI) (tL : StL) (x1 : Int32) (x2 : Int32) (x3 : Int32) (y0 : Int32) (res : StI × StL), Mo_makeList_155 F t tL x1 x2 x3 y0 = some res → Go p l e rm_Mo_makeList s m args below meth c g A A 6 (MQ below (EV g ((pic_Mo g a_t res.1 res.2)) A) args s 0 0 A) ((pic_Mo g a_t t tL)) [(0, .ref (a_t 0)), (1, .int x1), (2, .int x2), (3, .int x3)] 155 [.int y0, .ref (a_t 0)] := by
  obtain ⟨hx, hb, hr, hml, hown, htb, hlocks, hA, hAA, hG⟩ := id hC
  have hK := hG.1
  intro t tL x1 x2 x3 y0 res h H locs ls hP hD hS hl
  rw [Mo_makeList_155] at h
  by_cases c33 : (y0 = 0 ∨ y0 = 1)
  rotate_left
  · replace h := (if_neg c33).symm.trans h
    cases h
  replace h := (if_pos c33).symm.trans h
  refine va_put (D := gD g) (ci := 8) (v := .int y0) (ty := .boolean) (C := R_Mo) (T := T_Mo) (N := 64) hx hb htb in_Mo ty_Mo ty_Mo_ok nm_Mo hown hK hP hD hS 0 rfl rfl 51 (by decide) (htb _ L_Mo_418) (fun _ h9 => h9) rfl (by decide +kernel) (by rcases c33 with c33 | c33 <;> rw [c33] <;> rfl) (by rcases c33 with c33 | c33 <;> rw [c33] <;> rfl) (Nat.le_of_ble_eq_true rfl) d_Mo_makeList_155 (fun H locs hP hD hS => ?_)
  obtain ⟨t_34, et_34, h⟩ := letS_el h
  have hP : va_P (gD g) vwCl ((pic_Mo g a_t t_34 tL)) H := by rw [et_34]; exact hP
  have hD : va_D A ((pic_Mo g a_t t_34 tL)) := by rw [et_34]; exact hD
  refine lv_aload_n hx hb d_Mo_makeList_158 rfl (lv_at hl 0 rfl) ?_
  refine lv_iload_n hx hb d_Mo_makeList_159 rfl (lv_at hl 3 rfl) ?_
  obtain ⟨r35, hr35, h⟩ := Option.bind_eq_some_iff.mp h
  refine cl_V (wr := []) [0, 1, 2, 3, 4, 5, 6, 7, 8, 9, 10, 11, 12, 13, 14, 15, 16, 17, 18, 19, 20, 21, 22, 23, 24, 25, 26, 27, 28, 29, 30, 31, 32] [] rfl rfl rfl (by decide) hP hD hS hA (va_runV (As := [.int x3]) (rest := []) ⟨hx, hb, hml, hown, htb⟩ (c_Mo_clean l g F a_t t_34 tL x3 _ hr35 H.size) (cw_V htb mb_Mo_clean (htb _ L_Mo_430) rfl rfl ⟨Nat.le_of_ble_eq_true rfl, Nat.le_of_ble_eq_true rfl⟩) (pre_V (va_recv hK hP (ci := 8) (q0 := 0) rfl rfl) (pre_S [0, 1, 2, 3, 4, 5, 6, 7, 8, 9, 10, 11, 12, 13, 14, 15, 16, 17, 18, 19, 20, 21, 22, 23, 24, 25, 26, 27, 28, 29, 30, 31, 32] rfl rfl hP hD hS hA hAA hG)) rfl rfl hl.1 rfl (lv_room (Nat.le_of_ble_eq_true rfl)) d_Mo_makeList_160 ⟨Nat.zero_le _, Nat.zero_le _⟩) (fun H locs hP hD hS => ?_)
  have hP : va_P (gD g) vwCl ((pic_Mo g a_t r35.1 r35.2)) H := hP.sub [0, 1, 2, 3, 4, 5, 6, 7, 8, 9, 10, 11, 12, 13, 14, 15, 16, 17, 18, 19, 20, 21, 22, 23, 24, 25, 26, 27, 28, 29, 30, 31, 32] rfl
  have hD : va_D A ((pic_Mo g a_t r35.1 r35.2)) := hD.sub [0, 1, 2, 3, 4, 5, 6, 7, 8, 9, 10, 11, 12, 13, 14, 15, 16, 17, 18, 19, 20, 21, 22, 23, 24, 25, 26, 27, 28, 29, 30, 31, 32] rfl rfl
  refine lv_goto (tgt := 223) hx hb d_Mo_makeList_163 (by decide) ?_
  exact k_Mo_makeList_223 hC _ _ _ _ _ _ h _ _ _ hP hD hS (lv_sub hl [0, 1, 2, 3] rfl)
set_option maxHeartbeats 4000000 in
set_option maxRecDepth 100000 in
theorem k_Mo_makeList_150 {p : Program} {l : Launch} {e : Env} {s : State} {m : MethodId} {args : Array Value} {below : List Frame} {meth : Method} {c : Code} {g : Gz} {A : Nat → Prop} {F : Nat} {a_t : Nat → Nat} (hC : Cx prog_10_method_68_code 6 none R_Mo p s m args meth c g A A) : ∀ (t : StI) (tL : StL) (x1 : Int32) (x2 : Int32) (x3 : Int32) (res : StI × StL), Mo_makeList_150 F t tL x1 x2 x3 = some res → Go p l e rm_Mo_makeList s m args below meth c g A A 6 (MQ below (EV g ((pic_Mo g a_t res.1 res.2)) A) args s 0 0 A) ((pic_Mo g a_t t tL)) [(0, .ref (a_t 0)), (1, .int x1), (2, .int x2), (3, .int x3)] 150 [.ref (a_t 0)] := by
  obtain ⟨hx, hb, hr, hml, hown, htb, hlocks, hA, hAA, hG⟩ := id hC
  have hK := hG.1
  intro t tL x1 x2 x3 res h H locs ls hP hD hS hl
  rw [Mo_makeList_150] at h
  refine lv_iconst (v := 1) hx hb d_Mo_makeList_150 (by decide) ?_
  refine lv_goto (tgt := 155) hx hb d_Mo_makeList_151 (by decide) ?_
  exact k_Mo_makeList_155 hC _ _ _ _ _ _ _ h _ _ _ hP hD hS (lv_sub hl [0, 1, 2, 3] rfl)
set_option maxHeartbeats 4000000 in
set_option maxRecDepth 100000 in
theorem k_Mo_makeList_100 {p : Program} {l : Launch} {e : Env} {s : State} {m : MethodId} {args : Array Value} {below : List Frame} {meth : Method} {c : Code} {g : Gz} {A : Nat → Prop} {F : Nat} {a_t : Nat → Nat} (hC : Cx prog_10_method_68_code 6 none R_Mo p s m args meth c g A A) : ∀ (t : StI) (tL : StL) (x1 : Int32) (x2 : Int32) (x3 : Int32) (y0 : Int64) (y1 : Int64) (y2 : Int32) (res : StI × StL), Mo_makeList_100 F t tL x1 x2 x3 y0 y1 y2 = some res → Go p l e rm_Mo_makeList s m args below meth c g A A 6 (MQ below (EV g ((pic_Mo g a_t res.1 res.2)) A) args s 0 0 A) ((pic_Mo g a_t t tL)) [(0, .ref (a_t 0)), (1, .int x1), (2, .int x2), (3, .int x3)] 100 [.long y0, .long y1, .int y2, .ref (a_t 0)] := by
  obtain ⟨hx, hb, hr, hml, hown, htb, hlocks, hA, hAA, hG⟩ := id hC
  have hK := hG.1
  intro t tL x1 x2 x3 y0 y1 y2 res h H locs ls hP hD hS hl
  rw [Mo_makeList_100] at h
  obtain ⟨r36, hr36, h⟩ := Option.bind_eq_some_iff.mp h
  refine cl_V (wr := []) [0, 1, 2, 3, 4, 5, 6, 7, 8, 9, 10, 11, 12, 13, 14, 15, 16, 17, 18, 19, 20, 21, 22, 23, 24, 25, 26, 27, 28, 29, 30, 31, 32] [] rfl rfl rfl (by decide) hP hD hS hA (va_runV (As := [.int y2, .long y1, .long y0]) (rest := []) ⟨hx, hb, hml, hown, htb⟩ (c_Mo_addRow l g F a_t t tL y2 y1 y0 _ hr36 H.size) (cw_V htb mb_Mo_addRow (htb _ L_Mo_426) rfl rfl ⟨Nat.le_of_ble_eq_true rfl, Nat.le_of_ble_eq_true rfl⟩) (pre_V (va_recv hK hP (ci := 8) (q0 := 0) rfl rfl) (pre_S [0, 1, 2, 3, 4, 5, 6, 7, 8, 9, 10, 11, 12, 13, 14, 15, 16, 17, 18, 19, 20, 21, 22, 23, 24, 25, 26, 27, 28, 29, 30, 31, 32] rfl rfl hP hD hS hA hAA hG)) rfl rfl hl.1 rfl (lv_room (Nat.le_of_ble_eq_true rfl)) d_Mo_makeList_100 ⟨Nat.zero_le _, Nat.zero_le _⟩) (fun H locs hP hD hS => ?_)
  have hP : va_P (gD g) vwCl ((pic_Mo g a_t r36.1 r36.2)) H := hP.sub [0, 1, 2, 3, 4, 5, 6, 7, 8, 9, 10, 11, 12, 13, 14, 15, 16, 17, 18, 19, 20, 21, 22, 23, 24, 25, 26, 27, 28, 29, 30, 31, 32] rfl
  have hD : va_D A ((pic_Mo g a_t r36.1 r36.2)) := hD.sub [0, 1, 2, 3, 4, 5, 6, 7, 8, 9, 10, 11, 12, 13, 14, 15, 16, 17, 18, 19, 20, 21, 22, 23, 24, 25, 26, 27, 28, 29, 30, 31, 32] rfl rfl
  refine lv_goto (tgt := 223) hx hb d_Mo_makeList_103 (by decide) ?_
  exact k_Mo_makeList_223 hC _ _ _ _ _ _ h _ _ _ hP hD hS (lv_sub hl [0, 1, 2, 3] rfl)
set_option maxHeartbeats 4000000 in
set_option maxRecDepth 100000 in
theorem k_Mo_makeList_83 {p : Program} {l : Launch} {e : Env} {s : State} {m : MethodId} {args : Array Value} {below : List Frame} {meth : Method} {c : Code} {g : Gz} {A : Nat → Prop} {F : Nat} {a_t : Nat → Nat} (hC : Cx prog_10_method_68_code 6 none R_Mo p s m args meth c g A A) : ∀ (t : StI) (tL : StL) (x1 : Int32) (x2 : Int32) (x3 : Int32) (y0 : Int64) (y1 : Int32) (res : StI × StL), Mo_makeList_83 F t tL x1 x2 x3 y0 y1 = some res → Go p l e rm_Mo_makeList s m args below meth c g A A 6 (MQ below (EV g ((pic_Mo g a_t res.1 res.2)) A) args s 0 0 A) ((pic_Mo g a_t t tL)) [(0, .ref (a_t 0)), (1, .int x1), (2, .int x2), (3, .int x3)] 83 [.long y0, .int y1, .ref (a_t 0)] := by
  obtain ⟨hx, hb, hr, hml, hown, htb, hlocks, hA, hAA, hG⟩ := id hC
  have hK := hG.1
  intro t tL x1 x2 x3 y0 y1 res h H locs ls hP hD hS hl
  rw [Mo_makeList_83] at h
  refine lv_iload_n hx hb d_Mo_makeList_83 rfl (lv_at hl 2 rfl) ?_
  refine lv_iconst (v := 1) hx hb d_Mo_makeList_84 (by decide) ?_
  refine lv_icmp_ne (tgt := 99) hx hb d_Mo_makeList_85 (by decide) (fun c37 => ?_) (fun c37 => ?_)
  · replace h := (if_neg c37).symm.trans h
    refine lv_lconst (v := 0) hx hb d_Mo_makeList_99 (by decide) ?_
    exact k_Mo_makeList_100 hC _ _ _ _ _ _ _ _ _ h _ _ _ hP hD hS (lv_sub hl [0, 1, 2, 3] rfl)
  · replace h := (if_pos c37).symm.trans h
    refine lv_lconst (v := 1) hx hb d_Mo_makeList_88 (by decide) ?_
    refine lv_aload_n hx hb d_Mo_makeList_89 rfl (lv_at hl 0 rfl) ?_
    refine va_get (D := gD g) (ci := 8) (v := .ref (a_t 34)) (C := R_Mo) (T := T_Mo) (N := 64) hx hb htb in_Mo hown hK hP 0 rfl rfl 33 (by decide) (htb _ L_Mo_86) (fun _ h9 => h9) rfl d_Mo_makeList_90 ?_
    refine lv_iload_n hx hb d_Mo_makeList_93 rfl (lv_at hl 1 rfl) ?_
    by_cases c38 : (x1 < 0 ∨ 700 ≤ x1.toNatClampNeg)
    · replace h := (if_pos c38).symm.trans h
      cases h
    replace h := (if_neg c38).symm.trans h
    refine va_iald hx hb hK hP 15 0 rfl rfl c38 d_Mo_makeList_94 ?_
    refine lv_lshl hx hb d_Mo_makeList_95 rfl ?_
    refine lv_goto (tgt := 100) hx hb d_Mo_makeList_96 (by decide) ?_
    exact k_Mo_makeList_100 hC _ _ _ _ _ _ _ _ _ h _ _ _ hP hD hS (lv_sub hl [0, 1, 2, 3] rfl)
set_option maxHeartbeats 4000000 in
set_option maxRecDepth 100000 in
theorem k_Mo_makeList {p : Program} {l : Launch} {e : Env} {s : State} {m : MethodId} {args : Array Value} {below : List Frame} {meth : Method} {c : Code} {g : Gz} {A : Nat → Prop} {F : Nat} {a_t : Nat → Nat} (hC : Cx prog_10_method_68_code 6 none R_Mo p s m args meth c g A A) : ∀ (t : StI) (tL : StL) (x1 : Int32) (x2 : Int32) (res : StI × StL), Mo_makeList F t tL x1 x2 = some res → Go p l e rm_Mo_makeList s m args below meth c g A A 6 (MQ below (EV g ((pic_Mo g a_t res.1 res.2)) A) args s 0 0 A) ((pic_Mo g a_t t tL)) [(0, .ref (a_t 0)), (1, .int x1), (2, .int x2)] 0 [] := by
  obtain ⟨hx, hb, hr, hml, hown, htb, hlocks, hA, hAA, hG⟩ := id hC
  have hK := hG.1
  intro t tL x1 x2 res h H locs ls hP hD hS hl
  rw [Mo_makeList] at h
  refine lv_aload_n hx hb d_Mo_makeList_0 rfl (lv_at hl 0 rfl) ?_
  refine va_get (D := gD g) (ci := 8) (v := .int (t 48 0)) (C := R_Mo) (T := T_Mo) (N := 64) hx hb htb in_Mo hown hK hP 0 rfl rfl 48 (by decide) (htb _ L_Mo_415) (fun _ h9 => h9) rfl d_Mo_makeList_1 ?_
  refine lv_istore_n (lv' := [(3, .int (t 48 0)), (0, .ref (a_t 0)), (1, .int x1), (2, .int x2)]) hx hb d_Mo_makeList_4 rfl hl (by decide) rfl (fun ls hl => ?_)
  refine lv_iconst (v := 2) hx hb d_Mo_makeList_5 (by decide) ?_
  refine lv_aload_n hx hb d_Mo_makeList_6 rfl (lv_at hl 1 rfl) ?_
  refine va_get (D := gD g) (ci := 8) (v := .ref (a_t 34)) (C := R_Mo) (T := T_Mo) (N := 64) hx hb htb in_Mo hown hK hP 0 rfl rfl 33 (by decide) (htb _ L_Mo_86) (fun _ h9 => h9) rfl d_Mo_makeList_7 ?_
  refine lv_iload_n hx hb d_Mo_makeList_10 rfl (lv_at hl 2 rfl) ?_
  by_cases c39 : (x1 < 0 ∨ 700 ≤ x1.toNatClampNeg)
  · replace h := (if_pos c39).symm.trans h
    cases h
  replace h := (if_neg c39).symm.trans h
  refine va_iald hx hb hK hP 15 0 rfl rfl c39 d_Mo_makeList_11 ?_
  refine lv_imul hx hb d_Mo_makeList_12 ?_
  refine lv_istore (lv' := [(4, .int ((2 : Int32) * ((t 33) x1.toNatClampNeg))), (3, .int (t 48 0)), (0, .ref (a_t 0)), (1, .int x1), (2, .int x2)]) hx hb d_Mo_makeList_13 hl (by decide) rfl (fun ls hl => ?_)
  refine lv_iconst (v := 2) hx hb d_Mo_makeList_15 (by decide) ?_
  refine lv_aload_n hx hb d_Mo_makeList_16 rfl (lv_at hl 2 rfl) ?_
  refine va_get (D := gD g) (ci := 8) (v := .ref (a_t 35)) (C := R_Mo) (T := T_Mo) (N := 64) hx hb htb in_Mo hown hK hP 0 rfl rfl 34 (by decide) (htb _ L_Mo_89) (fun _ h9 => h9) rfl d_Mo_makeList_17 ?_
  refine lv_iload_n hx hb d_Mo_makeList_20 rfl (lv_at hl 3 rfl) ?_
  by_cases c40 : (x1 < 0 ∨ 700 ≤ x1.toNatClampNeg)
  · replace h := (if_pos c40).symm.trans h
    cases h
  replace h := (if_neg c40).symm.trans h
  refine va_iald hx hb hK hP 16 0 rfl rfl c40 d_Mo_makeList_21 ?_
  refine lv_imul hx hb d_Mo_makeList_22 ?_
  refine lv_istore (lv' := [(5, .int ((2 : Int32) * ((t 34) x1.toNatClampNeg))), (4, .int ((2 : Int32) * ((t 33) x1.toNatClampNeg))), (3, .int (t 48 0)), (0, .ref (a_t 0)), (1, .int x1), (2, .int x2)]) hx hb d_Mo_makeList_23 hl (by decide) rfl (fun ls hl => ?_)
  refine lv_aload_n hx hb d_Mo_makeList_25 rfl (lv_at hl 3 rfl) ?_
  refine va_get (D := gD g) (ci := 8) (v := .ref (a_t 33)) (C := R_Mo) (T := T_Mo) (N := 64) hx hb htb in_Mo hown hK hP 0 rfl rfl 32 (by decide) (htb _ L_Mo_83) (fun _ h9 => h9) rfl d_Mo_makeList_26 ?_
  refine lv_iload_n hx hb d_Mo_makeList_29 rfl (lv_at hl 4 rfl) ?_
  by_cases c41 : (x1 < 0 ∨ 700 ≤ x1.toNatClampNeg)
  · replace h := (if_pos c41).symm.trans h
    cases h
  replace h := (if_neg c41).symm.trans h
  refine va_iald hx hb hK hP 14 0 rfl rfl c41 d_Mo_makeList_30 ?_
  by_cases c42 : ((t 32) x1.toNatClampNeg) = (2 : Int32)
  · replace h := (if_pos c42).symm.trans h
    refine lv_lookup (off := 75) (tgt := 106) hx hb d_Mo_makeList_31 (by decide) (by rw [c42]; rfl) (by decide) ?_
    refine lv_aload_n hx hb d_Mo_makeList_106 rfl (lv_at hl 3 rfl) ?_
    refine lv_iload hx hb d_Mo_makeList_107 (lv_at hl 1 rfl) ?_
    refine lv_iload hx hb d_Mo_makeList_109 (lv_at hl 0 rfl) ?_
    refine lv_iconst (v := 1) hx hb d_Mo_makeList_111 (by decide) ?_
    refine lv_iadd hx hb d_Mo_makeList_112 ?_
    refine lv_iload_n hx hb d_Mo_makeList_113 rfl (lv_at hl 5 rfl) ?_
    refine lv_isub hx hb d_Mo_makeList_114 ?_
    obtain ⟨r53, hr53, h⟩ := Option.bind_eq_some_iff.mp h
    refine cl_V (wr := []) [0, 1, 2, 3, 4, 5, 6, 7, 8, 9, 10, 11, 12, 13, 14, 15, 16, 17, 18, 19, 20, 21, 22, 23, 24, 25, 26, 27, 28, 29, 30, 31, 32] [] rfl rfl rfl (by decide) hP hD hS hA (va_runV (As := [.int ((2 : Int32) * ((t 33) x1.toNatClampNeg)), .int ((((2 : Int32) * ((t 34) x1.toNatClampNeg)) + (1 : Int32)) - x2)]) (rest := []) ⟨hx, hb, hml, hown, htb⟩ (c_Mo_both l g F a_t t tL ((2 : Int32) * ((t 33) x1.toNatClampNeg)) ((((2 : Int32) * ((t 34) x1.toNatClampNeg)) + (1 : Int32)) - x2) _ hr53 H.size) (cw_V htb mb_Mo_both (htb _ L_Mo_433) rfl rfl ⟨Nat.le_of_ble_eq_true rfl, Nat.le_of_ble_eq_true rfl⟩) (pre_V (va_recv hK hP (ci := 8) (q0 := 0) rfl rfl) (pre_S [0, 1, 2, 3, 4, 5, 6, 7, 8, 9, 10, 11, 12, 13, 14, 15, 16, 17, 18, 19, 20, 21, 22, 23, 24, 25, 26, 27, 28, 29, 30, 31, 32] rfl rfl hP hD hS hA hAA hG)) rfl rfl hl.1 rfl (lv_room (Nat.le_of_ble_eq_true rfl)) d_Mo_makeList_115 ⟨Nat.zero_le _, Nat.zero_le _⟩) (fun H locs hP hD hS => ?_)
    have hP : va_P (gD g) vwCl ((pic_Mo g a_t r53.1 r53.2)) H := hP.sub [0, 1, 2, 3, 4, 5, 6, 7, 8, 9, 10, 11, 12, 13, 14, 15, 16, 17, 18, 19, 20, 21, 22, 23, 24, 25, 26, 27, 28, 29, 30, 31, 32] rfl
    have hD : va_D A ((pic_Mo g a_t r53.1 r53.2)) := hD.sub [0, 1, 2, 3, 4, 5, 6, 7, 8, 9, 10, 11, 12, 13, 14, 15, 16, 17, 18, 19, 20, 21, 22, 23, 24, 25, 26, 27, 28, 29, 30, 31, 32] rfl rfl
    refine lv_aload_n hx hb d_Mo_makeList_118 rfl (lv_at hl 3 rfl) ?_
    refine lv_iload hx hb d_Mo_makeList_119 (lv_at hl 1 rfl) ?_
    refine lv_iconst (v := 1) hx hb d_Mo_makeList_121 (by decide) ?_
    refine lv_iadd hx hb d_Mo_makeList_122 ?_
    refine lv_iload hx hb d_Mo_makeList_123 (lv_at hl 0 rfl) ?_
    refine lv_iload_n hx hb d_Mo_makeList_125 rfl (lv_at hl 5 rfl) ?_
    refine lv_iadd hx hb d_Mo_makeList_126 ?_
    obtain ⟨r54, hr54, h⟩ := Option.bind_eq_some_iff.mp h
    refine cl_V (wr := []) [0, 1, 2, 3, 4, 5, 6, 7, 8, 9, 10, 11, 12, 13, 14, 15, 16, 17, 18, 19, 20, 21, 22, 23, 24, 25, 26, 27, 28, 29, 30, 31, 32] [] rfl rfl rfl (by decide) hP hD hS hA (va_runV (As := [.int (((2 : Int32) * ((t 33) x1.toNatClampNeg)) + (1 : Int32)), .int (((2 : Int32) * ((t 34) x1.toNatClampNeg)) + x2)]) (rest := []) ⟨hx, hb, hml, hown, htb⟩ (c_Mo_both l g F a_t r53.1 r53.2 (((2 : Int32) * ((t 33) x1.toNatClampNeg)) + (1 : Int32)) (((2 : Int32) * ((t 34) x1.toNatClampNeg)) + x2) _ hr54 H.size) (cw_V htb mb_Mo_both (htb _ L_Mo_433) rfl rfl ⟨Nat.le_of_ble_eq_true rfl, Nat.le_of_ble_eq_true rfl⟩) (pre_V (va_recv hK hP (ci := 8) (q0 := 0) rfl rfl) (pre_S [0, 1, 2, 3, 4, 5, 6, 7, 8, 9, 10, 11, 12, 13, 14, 15, 16, 17, 18, 19, 20, 21, 22, 23, 24, 25, 26, 27, 28, 29, 30, 31, 32] rfl rfl hP hD hS hA hAA hG)) rfl rfl hl.1 rfl (lv_room (Nat.le_of_ble_eq_true rfl)) d_Mo_makeList_127 ⟨Nat.zero_le _, Nat.zero_le _⟩) (fun H locs hP hD hS => ?_)
    have hP : va_P (gD g) vwCl ((pic_Mo g a_t r54.1 r54.2)) H := hP.sub [0, 1, 2, 3, 4, 5, 6, 7, 8, 9, 10, 11, 12, 13, 14, 15, 16, 17, 18, 19, 20, 21, 22, 23, 24, 25, 26, 27, 28, 29, 30, 31, 32] rfl
    have hD : va_D A ((pic_Mo g a_t r54.1 r54.2)) := hD.sub [0, 1, 2, 3, 4, 5, 6, 7, 8, 9, 10, 11, 12, 13, 14, 15, 16, 17, 18, 19, 20, 21, 22, 23, 24, 25, 26, 27, 28, 29, 30, 31, 32] rfl rfl
    refine lv_aload_n hx hb d_Mo_makeList_130 rfl (lv_at hl 3 rfl) ?_
    refine lv_aload_n hx hb d_Mo_makeList_131 rfl (lv_at hl 3 rfl) ?_
    refine va_get (D := gD g) (ci := 8) (v := .int (r54.1 51 0)) (C := R_Mo) (T := T_Mo) (N := 64) hx hb htb in_Mo hown hK hP 0 rfl rfl 51 (by decide) (htb _ L_Mo_418) (fun _ h9 => h9) rfl d_Mo_makeList_132 ?_
    refine lv_if_ne (tgt := 150) hx hb d_Mo_makeList_135 (by decide) (fun c55 => ?_) (fun c55 => ?_)
    · replace h := (if_neg c55).symm.trans h
      exact k_Mo_makeList_150 hC _ _ _ _ _ _ h _ _ _ hP hD hS (lv_sub hl [3, 4, 5, 2] rfl)
    · replace h := (if_pos c55).symm.trans h
      refine lv_aload_n hx hb d_Mo_makeList_138 rfl (lv_at hl 3 rfl) ?_
      refine va_get (D := gD g) (ci := 8) (v := .int (r54.1 48 0)) (C := R_Mo) (T := T_Mo) (N := 64) hx hb htb in_Mo hown hK hP 0 rfl rfl 48 (by decide) (htb _ L_Mo_415) (fun _ h9 => h9) rfl d_Mo_makeList_139 ?_
      refine lv_iload_n hx hb d_Mo_makeList_142 rfl (lv_at hl 2 rfl) ?_
      refine lv_isub hx hb d_Mo_makeList_143 ?_
      refine lv_sipush (v := 200) hx hb d_Mo_makeList_144 (by decide) ?_
      refine lv_icmp_le (tgt := 154) hx hb d_Mo_makeList_147 (by decide) (fun c56 => ?_) (fun c56 => ?_)
      · replace h := (if_pos c56).symm.trans h
        refine lv_iconst (v := 0) hx hb d_Mo_makeList_154 (by decide) ?_
        exact k_Mo_makeList_155 hC _ _ _ _ _ _ _ h _ _ _ hP hD hS (lv_sub hl [3, 4, 5, 2] rfl)
      · replace h := (if_neg c56).symm.trans h
        exact k_Mo_makeList_150 hC _ _ _ _ _ _ h _ _ _ hP hD hS (lv_sub hl [3, 4, 5, 2] rfl)
  replace h := (if_neg c42).symm.trans h
  by_cases c43 : ((t 32) x1.toNatClampNeg) = (3 : Int32)
  · replace h := (if_pos c43).symm.trans h
    refine lv_lookup (off := 135) (tgt := 166) hx hb d_Mo_makeList_31 (by decide) (by rw [c43]; rfl) (by decide) ?_
    refine lv_iload_n hx hb d_Mo_makeList_166 rfl (lv_at hl 5 rfl) ?_
    refine lv_if_ne (tgt := 181) hx hb d_Mo_makeList_167 (by decide) (fun c50 => ?_) (fun c50 => ?_)
    · replace h := (if_neg c50).symm.trans h
      refine lv_aload_n hx hb d_Mo_makeList_181 rfl (lv_at hl 3 rfl) ?_
      refine lv_iload hx hb d_Mo_makeList_182 (lv_at hl 1 rfl) ?_
      refine lv_iconst (v := 1) hx hb d_Mo_makeList_184 (by decide) ?_
      refine lv_iadd hx hb d_Mo_makeList_185 ?_
      refine lv_iload hx hb d_Mo_makeList_186 (lv_at hl 0 rfl) ?_
      refine lv_iconst (v := 1) hx hb d_Mo_makeList_188 (by decide) ?_
      refine lv_iadd hx hb d_Mo_makeList_189 ?_
      obtain ⟨r51, hr51, h⟩ := Option.bind_eq_some_iff.mp h
      refine cl_V (wr := []) [0, 1, 2, 3, 4, 5, 6, 7, 8, 9, 10, 11, 12, 13, 14, 15, 16, 17, 18, 19, 20, 21, 22, 23, 24, 25, 26, 27, 28, 29, 30, 31, 32] [] rfl rfl rfl (by decide) hP hD hS hA (va_runV (As := [.int (((2 : Int32) * ((t 33) x1.toNatClampNeg)) + (1 : Int32)), .int (((2 : Int32) * ((t 34) x1.toNatClampNeg)) + (1 : Int32))]) (rest := []) ⟨hx, hb, hml, hown, htb⟩ (c_Mo_either l g F a_t t tL (((2 : Int32) * ((t 33) x1.toNatClampNeg)) + (1 : Int32)) (((2 : Int32) * ((t 34) x1.toNatClampNeg)) + (1 : Int32)) _ hr51 H.size) (cw_V htb mb_Mo_either (htb _ L_Mo_436) rfl rfl ⟨Nat.le_of_ble_eq_true rfl, Nat.le_of_ble_eq_true rfl⟩) (pre_V (va_recv hK hP (ci := 8) (q0 := 0) rfl rfl) (pre_S [0, 1, 2, 3, 4, 5, 6, 7, 8, 9, 10, 11, 12, 13, 14, 15, 16, 17, 18, 19, 20, 21, 22, 23, 24, 25, 26, 27, 28, 29, 30, 31, 32] rfl rfl hP hD hS hA hAA hG)) rfl rfl hl.1 rfl (lv_room (Nat.le_of_ble_eq_true rfl)) d_Mo_makeList_190 ⟨Nat.zero_le _, Nat.zero_le _⟩) (fun H locs hP hD hS => ?_)
      have hP : va_P (gD g) vwCl ((pic_Mo g a_t r51.1 r51.2)) H := hP.sub [0, 1, 2, 3, 4, 5, 6, 7, 8, 9, 10, 11, 12, 13, 14, 15, 16, 17, 18, 19, 20, 21, 22, 23, 24, 25, 26, 27, 28, 29, 30, 31, 32] rfl
      have hD : va_D A ((pic_Mo g a_t r51.1 r51.2)) := hD.sub [0, 1, 2, 3, 4, 5, 6, 7, 8, 9, 10, 11, 12, 13, 14, 15, 16, 17, 18, 19, 20, 21, 22, 23, 24, 25, 26, 27, 28, 29, 30, 31, 32] rfl rfl
      refine lv_goto (tgt := 223) hx hb d_Mo_makeList_193 (by decide) ?_
      exact k_Mo_makeList_223 hC _ _ _ _ _ _ h _ _ _ hP hD hS (lv_sub hl [3, 4, 5, 2] rfl)
    · replace h := (if_pos c50).symm.trans h
      refine lv_aload_n hx hb d_Mo_makeList_170 rfl (lv_at hl 3 rfl) ?_
      refine lv_iload hx hb d_Mo_makeList_171 (lv_at hl 1 rfl) ?_
      refine lv_iload hx hb d_Mo_makeList_173 (lv_at hl 0 rfl) ?_
      obtain ⟨r52, hr52, h⟩ := Option.bind_eq_some_iff.mp h
      refine cl_V (wr := []) [0, 1, 2, 3, 4, 5, 6, 7, 8, 9, 10, 11, 12, 13, 14, 15, 16, 17, 18, 19, 20, 21, 22, 23, 24, 25, 26, 27, 28, 29, 30, 31, 32] [] rfl rfl rfl (by decide) hP hD hS hA (va_runV (As := [.int ((2 : Int32) * ((t 33) x1.toNatClampNeg)), .int ((2 : Int32) * ((t 34) x1.toNatClampNeg))]) (rest := []) ⟨hx, hb, hml, hown, htb⟩ (c_Mo_both l g F a_t t tL ((2 : Int32) * ((t 33) x1.toNatClampNeg)) ((2 : Int32) * ((t 34) x1.toNatClampNeg)) _ hr52 H.size) (cw_V htb mb_Mo_both (htb _ L_Mo_433) rfl rfl ⟨Nat.le_of_ble_eq_true rfl, Nat.le_of_ble_eq_true rfl⟩) (pre_V (va_recv hK hP (ci := 8) (q0 := 0) rfl rfl) (pre_S [0, 1, 2, 3, 4, 5, 6, 7, 8, 9, 10, 11, 12, 13, 14, 15, 16, 17, 18, 19, 20, 21, 22, 23, 24, 25, 26, 27, 28, 29, 30, 31, 32] rfl rfl hP hD hS hA hAA hG)) rfl rfl hl.1 rfl (lv_room (Nat.le_of_ble_eq_true rfl)) d_Mo_makeList_175 ⟨Nat.zero_le _, Nat.zero_le _⟩) (fun H locs hP hD hS => ?_)
      have hP : va_P (gD g) vwCl ((pic_Mo g a_t r52.1 r52.2)) H := hP.sub [0, 1, 2, 3, 4, 5, 6, 7, 8, 9, 10, 11, 12, 13, 14, 15, 16, 17, 18, 19, 20, 21, 22, 23, 24, 25, 26, 27, 28, 29, 30, 31, 32] rfl
      have hD : va_D A ((pic_Mo g a_t r52.1 r52.2)) := hD.sub [0, 1, 2, 3, 4, 5, 6, 7, 8, 9, 10, 11, 12, 13, 14, 15, 16, 17, 18, 19, 20, 21, 22, 23, 24, 25, 26, 27, 28, 29, 30, 31, 32] rfl rfl
      refine lv_goto (tgt := 223) hx hb d_Mo_makeList_178 (by decide) ?_
      exact k_Mo_makeList_223 hC _ _ _ _ _ _ h _ _ _ hP hD hS (lv_sub hl [3, 4, 5, 2] rfl)
  replace h := (if_neg c43).symm.trans h
  by_cases c44 : ((t 32) x1.toNatClampNeg) = (7 : Int32)
  · replace h := (if_pos c44).symm.trans h
    refine lv_lookup (off := 33) (tgt := 64) hx hb d_Mo_makeList_31 (by decide) (by rw [c44]; rfl) (by decide) ?_
    refine lv_aload_n hx hb d_Mo_makeList_64 rfl (lv_at hl 3 rfl) ?_
    refine lv_iload_n hx hb d_Mo_makeList_65 rfl (lv_at hl 2 rfl) ?_
    refine lv_iload_n hx hb d_Mo_makeList_66 rfl (lv_at hl 5 rfl) ?_
    refine lv_iconst (v := 1) hx hb d_Mo_makeList_67 (by decide) ?_
    refine lv_icmp_ne (tgt := 75) hx hb d_Mo_makeList_68 (by decide) (fun c48 => ?_) (fun c48 => ?_)
    · replace h := (if_neg c48).symm.trans h
      refine lv_lconst (v := 1) hx hb d_Mo_makeList_75 (by decide) ?_
      refine lv_aload_n hx hb d_Mo_makeList_76 rfl (lv_at hl 3 rfl) ?_
      refine va_get (D := gD g) (ci := 8) (v := .ref (a_t 34)) (C := R_Mo) (T := T_Mo) (N := 64) hx hb htb in_Mo hown hK hP 0 rfl rfl 33 (by decide) (htb _ L_Mo_86) (fun _ h9 => h9) rfl d_Mo_makeList_77 ?_
      refine lv_iload_n hx hb d_Mo_makeList_80 rfl (lv_at hl 4 rfl) ?_
      by_cases c49 : (x1 < 0 ∨ 700 ≤ x1.toNatClampNeg)
      · replace h := (if_pos c49).symm.trans h
        cases h
      replace h := (if_neg c49).symm.trans h
      refine va_iald hx hb hK hP 15 0 rfl rfl c49 d_Mo_makeList_81 ?_
      refine lv_lshl hx hb d_Mo_makeList_82 rfl ?_
      exact k_Mo_makeList_83 hC _ _ _ _ _ _ _ _ h _ _ _ hP hD hS (lv_sub hl [3, 4, 5, 2] rfl)
    · replace h := (if_pos c48).symm.trans h
      refine lv_lconst (v := 0) hx hb d_Mo_makeList_71 (by decide) ?_
      refine lv_goto (tgt := 83) hx hb d_Mo_makeList_72 (by decide) ?_
      exact k_Mo_makeList_83 hC _ _ _ _ _ _ _ _ h _ _ _ hP hD hS (lv_sub hl [3, 4, 5, 2] rfl)
  replace h := (if_neg c44).symm.trans h
  refine lv_lookup (off := 165) (tgt := 196) hx hb d_Mo_makeList_31 (by decide) (by show Op.lookupswitch.offset [(2, 75), (3, 135), (7, 33)] (165) _ = _; rw [lv_osw c42 (by decide), lv_osw c43 (by decide), lv_osw c44 (by decide)]; rfl) (by decide) ?_
  refine lv_iload_n hx hb d_Mo_makeList_196 rfl (lv_at hl 5 rfl) ?_
  refine lv_if_ne (tgt := 211) hx hb d_Mo_makeList_197 (by decide) (fun c45 => ?_) (fun c45 => ?_)
  · replace h := (if_neg c45).symm.trans h
    refine lv_aload_n hx hb d_Mo_makeList_211 rfl (lv_at hl 3 rfl) ?_
    refine lv_iload hx hb d_Mo_makeList_212 (lv_at hl 1 rfl) ?_
    refine lv_iconst (v := 1) hx hb d_Mo_makeList_214 (by decide) ?_
    refine lv_iadd hx hb d_Mo_makeList_215 ?_
    refine lv_iload hx hb d_Mo_makeList_216 (lv_at hl 0 rfl) ?_
    refine lv_iconst (v := 1) hx hb d_Mo_makeList_218 (by decide) ?_
    refine lv_iadd hx hb d_Mo_makeList_219 ?_
    obtain ⟨r46, hr46, h⟩ := Option.bind_eq_some_iff.mp h
    refine cl_V (wr := []) [0, 1, 2, 3, 4, 5, 6, 7, 8, 9, 10, 11, 12, 13, 14, 15, 16, 17, 18, 19, 20, 21, 22, 23, 24, 25, 26, 27, 28, 29, 30, 31, 32] [] rfl rfl rfl (by decide) hP hD hS hA (va_runV (As := [.int (((2 : Int32) * ((t 33) x1.toNatClampNeg)) + (1 : Int32)), .int (((2 : Int32) * ((t 34) x1.toNatClampNeg)) + (1 : Int32))]) (rest := []) ⟨hx, hb, hml, hown, htb⟩ (c_Mo_both l g F a_t t tL (((2 : Int32) * ((t 33) x1.toNatClampNeg)) + (1 : Int32)) (((2 : Int32) * ((t 34) x1.toNatClampNeg)) + (1 : Int32)) _ hr46 H.size) (cw_V htb mb_Mo_both (htb _ L_Mo_433) rfl rfl ⟨Nat.le_of_ble_eq_true rfl, Nat.le_of_ble_eq_true rfl⟩) (pre_V (va_recv hK hP (ci := 8) (q0 := 0) rfl rfl) (pre_S [0, 1, 2, 3, 4, 5, 6, 7, 8, 9, 10, 11, 12, 13, 14, 15, 16, 17, 18, 19, 20, 21, 22, 23, 24, 25, 26, 27, 28, 29, 30, 31, 32] rfl rfl hP hD hS hA hAA hG)) rfl rfl hl.1 rfl (lv_room (Nat.le_of_ble_eq_true rfl)) d_Mo_makeList_220 ⟨Nat.zero_le _, Nat.zero_le _⟩) (fun H locs hP hD hS => ?_)
    have hP : va_P (gD g) vwCl ((pic_Mo g a_t r46.1 r46.2)) H := hP.sub [0, 1, 2, 3, 4, 5, 6, 7, 8, 9, 10, 11, 12, 13, 14, 15, 16, 17, 18, 19, 20, 21, 22, 23, 24, 25, 26, 27, 28, 29, 30, 31, 32] rfl
    have hD : va_D A ((pic_Mo g a_t r46.1 r46.2)) := hD.sub [0, 1, 2, 3, 4, 5, 6, 7, 8, 9, 10, 11, 12, 13, 14, 15, 16, 17, 18, 19, 20, 21, 22, 23, 24, 25, 26, 27, 28, 29, 30, 31, 32] rfl rfl
    exact k_Mo_makeList_223 hC _ _ _ _ _ _ h _ _ _ hP hD hS (lv_sub hl [3, 4, 5, 2] rfl)
  · replace h := (if_pos c45).symm.trans h
    refine lv_aload_n hx hb d_Mo_makeList_200 rfl (lv_at hl 3 rfl) ?_
    refine lv_iload hx hb d_Mo_makeList_201 (lv_at hl 1 rfl) ?_
    refine lv_iload hx hb d_Mo_makeList_203 (lv_at hl 0 rfl) ?_
    obtain ⟨r47, hr47, h⟩ := Option.bind_eq_some_iff.mp h
    refine cl_V (wr := []) [0, 1, 2, 3, 4, 5, 6, 7, 8, 9, 10, 11, 12, 13, 14, 15, 16, 17, 18, 19, 20, 21, 22, 23, 24, 25, 26, 27, 28, 29, 30, 31, 32] [] rfl rfl rfl (by decide) hP hD hS hA (va_runV (As := [.int ((2 : Int32) * ((t 33) x1.toNatClampNeg)), .int ((2 : Int32) * ((t 34) x1.toNatClampNeg))]) (rest := []) ⟨hx, hb, hml, hown, htb⟩ (c_Mo_either l g F a_t t tL ((2 : Int32) * ((t 33) x1.toNatClampNeg)) ((2 : Int32) * ((t 34) x1.toNatClampNeg)) _ hr47 H.size) (cw_V htb mb_Mo_either (htb _ L_Mo_436) rfl rfl ⟨Nat.le_of_ble_eq_true rfl, Nat.le_of_ble_eq_true rfl⟩) (pre_V (va_recv hK hP (ci := 8) (q0 := 0) rfl rfl) (pre_S [0, 1, 2, 3, 4, 5, 6, 7, 8, 9, 10, 11, 12, 13, 14, 15, 16, 17, 18, 19, 20, 21, 22, 23, 24, 25, 26, 27, 28, 29, 30, 31, 32] rfl rfl hP hD hS hA hAA hG)) rfl rfl hl.1 rfl (lv_room (Nat.le_of_ble_eq_true rfl)) d_Mo_makeList_205 ⟨Nat.zero_le _, Nat.zero_le _⟩) (fun H locs hP hD hS => ?_)
    have hP : va_P (gD g) vwCl ((pic_Mo g a_t r47.1 r47.2)) H := hP.sub [0, 1, 2, 3, 4, 5, 6, 7, 8, 9, 10, 11, 12, 13, 14, 15, 16, 17, 18, 19, 20, 21, 22, 23, 24, 25, 26, 27, 28, 29, 30, 31, 32] rfl
    have hD : va_D A ((pic_Mo g a_t r47.1 r47.2)) := hD.sub [0, 1, 2, 3, 4, 5, 6, 7, 8, 9, 10, 11, 12, 13, 14, 15, 16, 17, 18, 19, 20, 21, 22, 23, 24, 25, 26, 27, 28, 29, 30, 31, 32] rfl rfl
    refine lv_goto (tgt := 223) hx hb d_Mo_makeList_208 (by decide) ?_
    exact k_Mo_makeList_223 hC _ _ _ _ _ _ h _ _ _ hP hD hS (lv_sub hl [3, 4, 5, 2] rfl)
theorem c_Mo_makeList (l : Launch) (g : Gz) (F : Nat) (a_t : Nat → Nat) (t : StI) (tL : StL) (x1 : Int32) (x2 : Int32) (res : StI × StL) (h : Mo_makeList F t tL x1 x2 = some res) : ∀ sz : Nat, Met l y_Mo_makeList (.code y_Mo_makeList prog_10_method_68_code 6 none :: TBL) rm_Mo_makeList (va_Pc [.ref (a_t 0), .int x1, .int x2] (Pre0 g ((pic_Mo g a_t t tL)) sz)) (EV g ((pic_Mo g a_t res.1 res.2)) (va_A ((pic_Mo g a_t t tL)) sz)) 0 0 (va_A ((pic_Mo g a_t t tL)) sz) :=
  ct_w (Qc := fun A => EV g ((pic_Mo g a_t res.1 res.2)) A) (by decide) (Nat.le_of_ble_eq_true rfl) (fun p e s m args below meth c A hC => k_Mo_makeList hC t tL x1 x2 res h)
def Mo_make (F : Nat) (t : StI) (tL : StL) (x1 : Int32) (x2 : Int32) : Option (StI × StL) := if x1 < 0 ∨ 700 ≤ x1.toNatClampNeg then none else if ((t 32) x1.toNatClampNeg) = (4 : Int32) then if x1 < 0 ∨ 700 ≤ x1.toNatClampNeg then none else if ((((2 : Int32) * ((t 33) x1.toNatClampNeg)) + (1 : Int32)) - x2) < 0 ∨ 1400 ≤ ((((2 : Int32) * ((t 33) x1.toNatClampNeg)) + (1 : Int32)) - x2).toNatClampNeg then none else if (((2 : Int32) * x1) + x2) < 0 ∨ 1400 ≤ (((2 : Int32) * x1) + x2).toNatClampNeg then none else letS (va_up t 60 (upd (t 60) (((2 : Int32) * x1) + x2).toNatClampNeg ((t 60) ((((2 : Int32) * ((t 33) x1.toNatClampNeg)) + (1 : Int32)) - x2).toNatClampNeg))) fun t_17 => if x1 < 0 ∨ 700 ≤ x1.toNatClampNeg then none else if ((((2 : Int32) * ((t_17 33) x1.toNatClampNeg)) + (1 : Int32)) - x2) < 0 ∨ 1400 ≤ ((((2 : Int32) * ((t_17 33) x1.toNatClampNeg)) + (1 : Int32)) - x2).toNatClampNeg then none else if (((2 : Int32) * x1) + x2) < 0 ∨ 1400 ≤ (((2 : Int32) * x1) + x2).toNatClampNeg then none else letS (va_up t_17 61 (upd (t_17 61) (((2 : Int32) * x1) + x2).toNatClampNeg ((t_17 61) ((((2 : Int32) * ((t_17 33) x1.toNatClampNeg)) + (1 : Int32)) - x2).toNatClampNeg))) fun t_21 => some (t_21, tL) else (Mo_makeList F t tL x1 x2).bind fun r14 => some (r14.1, r14.2)
set_option maxHeartbeats 4000000 in
set_option maxRecDepth 100000 in
theorem k_Mo_make {p : Program} {l : Launch} {e : Env} {s : State} {m : MethodId} {args : Array Value} {below : List Frame} {meth : Method} {c : Code} {g : Gz} {A : Nat → Prop} {F : Nat} {a_t : Nat → Nat} (hC : Cx prog_10_method_69_code 3 none R_Mo p s m args meth c g A A) : ∀ (t : StI) (tL : StL) (x1 : Int32) (x2 : Int32) (res : StI × StL), Mo_make F t tL x1 x2 = some res → Go p l e rm_Mo_make s m args below meth c g A A 3 (MQ below (EV g ((pic_Mo g a_t res.1 res.2)) A) args s 0 0 A) ((pic_Mo g a_t t tL)) [(0, .ref (a_t 0)), (1, .int x1), (2, .int x2)] 0 [] := by
  obtain ⟨hx, hb, hr, hml, hown, htb, hlocks, hA, hAA, hG⟩ := id hC
  have hK := hG.1
  intro t tL x1 x2 res h H locs ls hP hD hS hl
  rw [Mo_make] at h
  refine lv_aload_n hx hb d_Mo_make_0 rfl (lv_at hl 0 rfl) ?_
  refine va_get (D := gD g) (ci := 8) (v := .ref (a_t 33)) (C := R_Mo) (T := T_Mo) (N := 64) hx hb htb in_Mo hown hK hP 0 rfl rfl 32 (by decide) (htb _ L_Mo_83) (fun _ h9 => h9) rfl d_Mo_make_1 ?_
  refine lv_iload_n hx hb d_Mo_make_4 rfl (lv_at hl 1 rfl) ?_
  by_cases c12 : (x1 < 0 ∨ 700 ≤ x1.toNatClampNeg)
  · replace h := (if_pos c12).symm.trans h
    cases h
  replace h := (if_neg c12).symm.trans h
  refine va_iald hx hb hK hP 14 0 rfl rfl c12 d_Mo_make_5 ?_
  refine lv_iconst (v := 4) hx hb d_Mo_make_6 (by decide) ?_
  refine lv_icmp_ne (tgt := 67) hx hb d_Mo_make_7 (by decide) (fun c13 => ?_) (fun c13 => ?_)
  · replace h := (if_neg c13).symm.trans h
    refine lv_aload_n hx hb d_Mo_make_67 rfl (lv_at hl 0 rfl) ?_
    refine lv_iload_n hx hb d_Mo_make_68 rfl (lv_at hl 1 rfl) ?_
    refine lv_iload_n hx hb d_Mo_make_69 rfl (lv_at hl 2 rfl) ?_
    obtain ⟨r14, hr14, h⟩ := Option.bind_eq_some_iff.mp h
    refine cl_V (wr := []) [0, 1, 2, 3, 4, 5, 6, 7, 8, 9, 10, 11, 12, 13, 14, 15, 16, 17, 18, 19, 20, 21, 22, 23, 24, 25, 26, 27, 28, 29, 30, 31, 32] [] rfl rfl rfl (by decide) hP hD hS hA (va_runV (As := [.int x1, .int x2]) (rest := []) ⟨hx, hb, hml, hown, htb⟩ (c_Mo_makeList l g F a_t t tL x1 x2 _ hr14 H.size) (cw_V htb mb_Mo_makeList (htb _ L_Mo_439) rfl rfl ⟨Nat.le_of_ble_eq_true rfl, Nat.le_of_ble_eq_true rfl⟩) (pre_V (va_recv hK hP (ci := 8) (q0 := 0) rfl rfl) (pre_S [0, 1, 2, 3, 4, 5, 6, 7, 8, 9, 10, 11, 12, 13, 14, 15, 16, 17, 18, 19, 20, 21, 22, 23, 24, 25, 26, 27, 28, 29, 30, 31, 32] rfl rfl hP hD hS hA hAA hG)) rfl rfl hl.1 rfl (lv_room (Nat.le_of_ble_eq_true rfl)) d_Mo_make_70 ⟨Nat.zero_le _, Nat.zero_le _⟩) (fun H locs hP hD hS => ?_)
    have hP : va_P (gD g) vwCl ((pic_Mo g a_t r14.1 r14.2)) H := hP.sub [0, 1, 2, 3, 4, 5, 6, 7, 8, 9, 10, 11, 12, 13, 14, 15, 16, 17, 18, 19, 20, 21, 22, 23, 24, 25, 26, 27, 28, 29, 30, 31, 32] rfl
    have hD : va_D A ((pic_Mo g a_t r14.1 r14.2)) := hD.sub [0, 1, 2, 3, 4, 5, 6, 7, 8, 9, 10, 11, 12, 13, 14, 15, 16, 17, 18, 19, 20, 21, 22, 23, 24, 25, 26, 27, 28, 29, 30, 31, 32] rfl rfl
    cases h
    exact W.vret hx hb hr (fun t ht hW => ⟨⟨(), rfl, trivial, by rw [ht]; exact hP, hD⟩, hS.F ht⟩) hS.2.2 d_Mo_make_73
  · replace h := (if_pos c13).symm.trans h
    refine lv_aload_n hx hb d_Mo_make_10 rfl (lv_at hl 0 rfl) ?_
    refine va_get (D := gD g) (ci := 8) (v := .ref (a_t 61)) (C := R_Mo) (T := T_Mo) (N := 64) hx hb htb in_Mo hown hK hP 0 rfl rfl 60 (by decide) (htb _ L_Mo_129) (fun _ h9 => h9) rfl d_Mo_make_11 ?_
    refine lv_iconst (v := 2) hx hb d_Mo_make_14 (by decide) ?_
    refine lv_iload_n hx hb d_Mo_make_15 rfl (lv_at hl 1 rfl) ?_
    refine lv_imul hx hb d_Mo_make_16 ?_
    refine lv_iload_n hx hb d_Mo_make_17 rfl (lv_at hl 2 rfl) ?_
    refine lv_iadd hx hb d_Mo_make_18 ?_
    refine lv_aload_n hx hb d_Mo_make_19 rfl (lv_at hl 0 rfl) ?_
    refine va_get (D := gD g) (ci := 8) (v := .ref (a_t 61)) (C := R_Mo) (T := T_Mo) (N := 64) hx hb htb in_Mo hown hK hP 0 rfl rfl 60 (by decide) (htb _ L_Mo_129) (fun _ h9 => h9) rfl d_Mo_make_20 ?_
    refine lv_iconst (v := 2) hx hb d_Mo_make_23 (by decide) ?_
    refine lv_aload_n hx hb d_Mo_make_24 rfl (lv_at hl 0 rfl) ?_
    refine va_get (D := gD g) (ci := 8) (v := .ref (a_t 34)) (C := R_Mo) (T := T_Mo) (N := 64) hx hb htb in_Mo hown hK hP 0 rfl rfl 33 (by decide) (htb _ L_Mo_86) (fun _ h9 => h9) rfl d_Mo_make_25 ?_
    refine lv_iload_n hx hb d_Mo_make_28 rfl (lv_at hl 1 rfl) ?_
    by_cases c15 : (x1 < 0 ∨ 700 ≤ x1.toNatClampNeg)
    · replace h := (if_pos c15).symm.trans h
      cases h
    replace h := (if_neg c15).symm.trans h
    refine va_iald hx hb hK hP 15 0 rfl rfl c15 d_Mo_make_29 ?_
    refine lv_imul hx hb d_Mo_make_30 ?_
    refine lv_iconst (v := 1) hx hb d_Mo_make_31 (by decide) ?_
    refine lv_iadd hx hb d_Mo_make_32 ?_
    refine lv_iload_n hx hb d_Mo_make_33 rfl (lv_at hl 2 rfl) ?_
    refine lv_isub hx hb d_Mo_make_34 ?_
    by_cases c16 : (((((2 : Int32) * ((t 33) x1.toNatClampNeg)) + (1 : Int32)) - x2) < 0 ∨ 1400 ≤ ((((2 : Int32) * ((t 33) x1.toNatClampNeg)) + (1 : Int32)) - x2).toNatClampNeg)
    · replace h := (if_pos c16).symm.trans h
      cases h
    replace h := (if_neg c16).symm.trans h
    refine va_iald hx hb hK hP 29 0 rfl rfl c16 d_Mo_make_35 ?_
    by_cases c18 : ((((2 : Int32) * x1) + x2) < 0 ∨ 1400 ≤ (((2 : Int32) * x1) + x2).toNatClampNeg)
    · replace h := (if_pos c18).symm.trans h
      cases h
    replace h := (if_neg c18).symm.trans h
    refine va_iast hx hb hK hP hD hS 29 0 rfl rfl c18 d_Mo_make_36 (fun H locs hP hD hS => ?_)
    obtain ⟨t_17, et_17, h⟩ := letS_el h
    have hP : va_P (gD g) vwCl ((pic_Mo g a_t t_17 tL)) H := by rw [et_17]; exact hP
    have hD : va_D A ((pic_Mo g a_t t_17 tL)) := by rw [et_17]; exact hD
    refine lv_aload_n hx hb d_Mo_make_37 rfl (lv_at hl 0 rfl) ?_
    refine va_get (D := gD g) (ci := 8) (v := .ref (a_t 62)) (C := R_Mo) (T := T_Mo) (N := 64) hx hb htb in_Mo hown hK hP 0 rfl rfl 61 (by decide) (htb _ L_Mo_132) (fun _ h9 => h9) rfl d_Mo_make_38 ?_
    refine lv_iconst (v := 2) hx hb d_Mo_make_41 (by decide) ?_
    refine lv_iload_n hx hb d_Mo_make_42 rfl (lv_at hl 1 rfl) ?_
    refine lv_imul hx hb d_Mo_make_43 ?_
    refine lv_iload_n hx hb d_Mo_make_44 rfl (lv_at hl 2 rfl) ?_
    refine lv_iadd hx hb d_Mo_make_45 ?_
    refine lv_aload_n hx hb d_Mo_make_46 rfl (lv_at hl 0 rfl) ?_
    refine va_get (D := gD g) (ci := 8) (v := .ref (a_t 62)) (C := R_Mo) (T := T_Mo) (N := 64) hx hb htb in_Mo hown hK hP 0 rfl rfl 61 (by decide) (htb _ L_Mo_132) (fun _ h9 => h9) rfl d_Mo_make_47 ?_
    refine lv_iconst (v := 2) hx hb d_Mo_make_50 (by decide) ?_
    refine lv_aload_n hx hb d_Mo_make_51 rfl (lv_at hl 0 rfl) ?_
    refine va_get (D := gD g) (ci := 8) (v := .ref (a_t 34)) (C := R_Mo) (T := T_Mo) (N := 64) hx hb htb in_Mo hown hK hP 0 rfl rfl 33 (by decide) (htb _ L_Mo_86) (fun _ h9 => h9) rfl d_Mo_make_52 ?_
    refine lv_iload_n hx hb d_Mo_make_55 rfl (lv_at hl 1 rfl) ?_
    by_cases c19 : (x1 < 0 ∨ 700 ≤ x1.toNatClampNeg)
    · replace h := (if_pos c19).symm.trans h
      cases h
    replace h := (if_neg c19).symm.trans h
    refine va_iald hx hb hK hP 15 0 rfl rfl c19 d_Mo_make_56 ?_
    refine lv_imul hx hb d_Mo_make_57 ?_
    refine lv_iconst (v := 1) hx hb d_Mo_make_58 (by decide) ?_
    refine lv_iadd hx hb d_Mo_make_59 ?_
    refine lv_iload_n hx hb d_Mo_make_60 rfl (lv_at hl 2 rfl) ?_
    refine lv_isub hx hb d_Mo_make_61 ?_
    by_cases c20 : (((((2 : Int32) * ((t_17 33) x1.toNatClampNeg)) + (1 : Int32)) - x2) < 0 ∨ 1400 ≤ ((((2 : Int32) * ((t_17 33) x1.toNatClampNeg)) + (1 : Int32)) - x2).toNatClampNeg)
    · replace h := (if_pos c20).symm.trans h
      cases h
    replace h := (if_neg c20).symm.trans h
    refine va_iald hx hb hK hP 30 0 rfl rfl c20 d_Mo_make_62 ?_
    by_cases c22 : ((((2 : Int32) * x1) + x2) < 0 ∨ 1400 ≤ (((2 : Int32) * x1) + x2).toNatClampNeg)
    · replace h := (if_pos c22).symm.trans h
      cases h
    replace h := (if_neg c22).symm.trans h
    refine va_iast hx hb hK hP hD hS 30 0 rfl rfl c22 d_Mo_make_63 (fun H locs hP hD hS => ?_)
    obtain ⟨t_21, et_21, h⟩ := letS_el h
    have hP : va_P (gD g) vwCl ((pic_Mo g a_t t_21 tL)) H := by rw [et_21]; exact hP
    have hD : va_D A ((pic_Mo g a_t t_21 tL)) := by rw [et_21]; exact hD
    refine lv_goto (tgt := 73) hx hb d_Mo_make_64 (by decide) ?_
    cases h
    exact W.vret hx hb hr (fun t ht hW => ⟨⟨(), rfl, trivial, by rw [ht]; exact hP, hD⟩, hS.F ht⟩) hS.2.2 d_Mo_make_73
theorem c_Mo_make (l : Launch) (g : Gz) (F : Nat) (a_t : Nat → Nat) (t : StI) (tL : StL) (x1 : Int32) (x2 : Int32) (res : StI × StL) (h : Mo_make F t tL x1 x2 = some res) : ∀ sz : Nat, Met l y_Mo_make (.code y_Mo_make prog_10_method_69_code 3 none :: TBL) rm_Mo_make (va_Pc [.ref (a_t 0), .int x1, .int x2] (Pre0 g ((pic_Mo g a_t t tL)) sz)) (EV g ((pic_Mo g a_t res.1 res.2)) (va_A ((pic_Mo g a_t t tL)) sz)) 0 0 (va_A ((pic_Mo g a_t t tL)) sz) :=
  ct_w (Qc := fun A => EV g ((pic_Mo g a_t res.1 res.2)) A) (by decide) (Nat.le_of_ble_eq_true rfl) (fun p e s m args below meth c A hC => k_Mo_make hC t tL x1 x2 res h)
def Mo_normal_191 (F : Nat) : Nat → StI → StL → Int32 → Option (Int32 × StI × StL)
  | 0, _, _, _ => none
  | n + 1, t, tL, x1 => if ((2 : Int32) * (t 31 0)) < 0 ∨ 1400 ≤ ((2 : Int32) * (t 31 0)).toNatClampNeg then none else if ((t 61) ((2 : Int32) * (t 31 0)).toNatClampNeg) ≤ x1 then some ((t 52 0), t, tL) else if x1 < 0 ∨ 34000 ≤ x1.toNatClampNeg then none else if (t 52 0) < 0 ∨ 200 ≤ (t 52 0).toNatClampNeg then none else letS (va_up tL 53 (vp_updL (tL 53) (t 52 0).toNatClampNeg ((tL 49) x1.toNatClampNeg))) fun t_38 => if x1 < 0 ∨ 34000 ≤ x1.toNatClampNeg then none else if (t 52 0) < 0 ∨ 200 ≤ (t 52 0).toNatClampNeg then none else letS (va_up t_38 54 (vp_updL (t_38 54) (t 52 0).toNatClampNeg ((t_38 50) x1.toNatClampNeg))) fun t_41 => letS (va_up t 52 (fun _ => ((t 52 0) + (1 : Int32)))) fun t_43 => Mo_normal_191 F n t_43 t_41 (x1 + (1 : Int32))
def Mo_normal_170 (F : Nat) (t : StI) (tL : StL) : Option (Int32 × StI × StL) := if (t 51 0) = 0 then if ((2 : Int32) * (t 31 0)) < 0 ∨ 1400 ≤ ((2 : Int32) * (t 31 0)).toNatClampNeg then none else Mo_normal_191 F F t tL ((t 60) ((2 : Int32) * (t 31 0)).toNatClampNeg) else some ((-1 : Int32), t, tL)
def Mo_normal_164 (F : Nat) (k128 : StI → StL → Int32 → Option (Int32 × StI × StL)) (t : StI) (tL : StL) (x1 : Int32) : Option (Int32 × StI × StL) := k128 t tL (x1 + (1 : Int32))
def Mo_normal_128 (F : Nat) : Nat → StI → StL → Int32 → Option (Int32 × StI × StL)
  | 0, _, _, _ => none
  | n + 1, t, tL, x1 => if ((2 : Int32) * (t 30 0)) ≤ x1 then Mo_normal_170 F t tL else if (t 51 0) = 0 then if x1 < 0 ∨ 1400 ≤ x1.toNatClampNeg then none else if ((t 62) x1.toNatClampNeg) = 0 then Mo_normal_164 F (Mo_normal_128 F n) t tL x1 else (Mo_make F t tL (x1 / (2 : Int32)) (x1 - x1 / (2 : Int32) * (2 : Int32))).bind fun r50 => Mo_normal_164 F (Mo_normal_128 F n) r50.1 r50.2 x1 else Mo_normal_170 F t tL
def Mo_normal_120 (F : Nat) (k97 : StI → StL → Int32 → Option (Int32 × StI × StL)) (t : StI) (tL : StL) (x1 : Int32) : Option (Int32 × StI × StL) := k97 t tL (x1 + (-1 : Int32))
def Mo_normal_97 (F : Nat) : Nat → StI → StL → Int32 → Option (Int32 × StI × StL)
  | 0, _, _, _ => none
  | n + 1, t, tL, x1 => if x1 < 0 then Mo_normal_128 F F t tL (0 : Int32) else if x1 < 0 ∨ 1400 ≤ x1.toNatClampNeg then none else if ((t 62) x1.toNatClampNeg) = 0 then Mo_normal_120 F (Mo_normal_97 F n) t tL x1 else (Mo_want F t tL (x1 / (2 : Int32)) (x1 - x1 / (2 : Int32) * (2 : Int32))).bind fun r54 => Mo_normal_120 F (Mo_normal_97 F n) r54.1 r54.2 x1
def Mo_normal_81 (F : Nat) (k51 : StI → StL → Int32 → Option (Int32 × StI × StL)) (t : StI) (tL : StL) (x1 : Int32) (y0 : Int32) (y1 : Int32) : Option (Int32 × StI × StL) := if y1 < 0 ∨ 1400 ≤ y1.toNatClampNeg then none else letS (va_up t 62 (upd (t 62) y1.toNatClampNeg (vp_nar .boolean y0))) fun t_55 => k51 t_55 tL (x1 + (1 : Int32))
def Mo_normal_51 (F : Nat) : Nat → StI → StL → Int32 → Option (Int32 × StI × StL)
  | 0, _, _, _ => none
  | n + 1, t, tL, x1 => if ((2 : Int32) * (t 30 0)) ≤ x1 then Mo_normal_97 F F t tL (((2 : Int32) * (t 30 0)) - (1 : Int32)) else if x1 = ((2 : Int32) * (t 31 0)) then Mo_normal_81 F (Mo_normal_51 F n) t tL x1 (1 : Int32) x1 else Mo_normal_81 F (Mo_normal_51 F n) t tL x1 (0 : Int32) x1
def Mo_normal (F : Nat) (t : StI) (tL : StL) : Option (Int32 × StI × StL) := letS (va_up t 0 (fun _ => (0 : Int32))) fun t_59 => letS (va_up t_59 52 (fun _ => (0 : Int32))) fun t_60 => letS (va_up t_60 48 (fun _ => (0 : Int32))) fun t_61 => letS (va_up t_61 51 (fun _ => (0 : Int32))) fun t_62 => if (t_62 31 0) = (-1 : Int32) then if (0 : Int32) < 0 ∨ 200 ≤ (0 : Int32).toNatClampNeg then none else letS (va_up tL 53 (vp_updL (tL 53) (0 : Int32).toNatClampNeg (0 : Int64))) fun t_64 => if (0 : Int32) < 0 ∨ 200 ≤ (0 : Int32).toNatClampNeg then none else letS (va_up t_64 54 (vp_updL (t_64 54) (0 : Int32).toNatClampNeg (0 : Int64))) fun t_66 => letS (va_up t_62 52 (fun _ => (1 : Int32))) fun t_68 => some ((1 : Int32), t_68, t_66) else Mo_normal_51 F F t_62 tL (0 : Int32)
set_option maxHeartbeats 4000000 in
set_option maxRecDepth 100000 in
theorem k_Mo_normal_191 {p : Program} {l : Launch} {e : Env} {s : State} {m : MethodId} {args : Array Value} {below : List Frame} {meth : Method} {c : Code} {g : Gz} {A : Nat → Prop} {F : Nat} {a_t : Nat → Nat} (hC : Cx prog_10_method_70_code 2 (some .int) R_Mo p s m args meth c g A A) : ∀ (n : Nat) (t : StI) (tL : StL) (x1 : Int32) (res : Int32 × StI × StL), Mo_normal_191 F n t tL x1 = some res → Go p l e rm_Mo_normal s m args below meth c g A A 2 (MQ below (EI g ((pic_Mo g a_t res.2.1 res.2.2)) res.1 A) args s 0 0 A) ((pic_Mo g a_t t tL)) [(0, .ref (a_t 0)), (1, .int x1)] 191 [] := by
  obtain ⟨hx, hb, hr, hml, hown, htb, hlocks, hA, hAA, hG⟩ := id hC
  have hK := hG.1
  intro n
  induction n with
  | zero => intro t tL x1 res h; rw [Mo_normal_191] at h; cases h
  | succ n ih =>
    intro t tL x1 res h H locs ls hP hD hS hl
    rw [Mo_normal_191] at h
    refine lv_iload_n hx hb d_Mo_normal_191 rfl (lv_at hl 1 rfl) ?_
    refine lv_aload_n hx hb d_Mo_normal_192 rfl (lv_at hl 0 rfl) ?_
    refine va_get (D := gD g) (ci := 8) (v := .ref (a_t 62)) (C := R_Mo) (T := T_Mo) (N := 64) hx hb htb in_Mo hown hK hP 0 rfl rfl 61 (by decide) (htb _ L_Mo_132) (fun _ h9 => h9) rfl d_Mo_normal_193 ?_
    refine lv_iconst (v := 2) hx hb d_Mo_normal_196 (by decide) ?_
    refine lv_aload_n hx hb d_Mo_normal_197 rfl (lv_at hl 0 rfl) ?_
    refine va_get (D := gD g) (ci := 8) (v := .int (t 31 0)) (C := R_Mo) (T := T_Mo) (N := 64) hx hb htb in_Mo hown hK hP 0 rfl rfl 31 (by decide) (htb _ L_Mo_141) (fun _ h9 => h9) rfl d_Mo_normal_198 ?_
    refine lv_imul hx hb d_Mo_normal_201 ?_
    by_cases c35 : (((2 : Int32) * (t 31 0)) < 0 ∨ 1400 ≤ ((2 : Int32) * (t 31 0)).toNatClampNeg)
    · replace h := (if_pos c35).symm.trans h
      cases h
    replace h := (if_neg c35).symm.trans h
    refine va_iald hx hb hK hP 30 0 rfl rfl c35 d_Mo_normal_202 ?_
    refine lv_icmp_ge (tgt := 252) hx hb d_Mo_normal_203 (by decide) (fun c36 => ?_) (fun c36 => ?_)
    · replace h := (if_pos c36).symm.trans h
      refine lv_aload_n hx hb d_Mo_normal_252 rfl (lv_at hl 0 rfl) ?_
      refine va_get (D := gD g) (ci := 8) (v := .int (t 52 0)) (C := R_Mo) (T := T_Mo) (N := 64) hx hb htb in_Mo hown hK hP 0 rfl rfl 52 (by decide) (htb _ L_Mo_442) (fun _ h9 => h9) rfl d_Mo_normal_253 ?_
      cases h
      exact W.iret hx hb hr (fun t ht hW => ⟨⟨_, (), rfl, rfl, by rw [ht]; exact hP, hD⟩, hS.F ht⟩) hS.2.2 d_Mo_normal_256
    · replace h := (if_neg c36).symm.trans h
      refine lv_aload_n hx hb d_Mo_normal_206 rfl (lv_at hl 0 rfl) ?_
      refine va_get (D := gD g) (ci := 8) (v := .ref (a_t 54)) (C := R_Mo) (T := T_Mo) (N := 64) hx hb htb in_Mo hown hK hP 0 rfl rfl 53 (by decide) (htb _ L_Mo_120) (fun _ h9 => h9) rfl d_Mo_normal_207 ?_
      refine lv_aload_n hx hb d_Mo_normal_210 rfl (lv_at hl 0 rfl) ?_
      refine va_get (D := gD g) (ci := 8) (v := .int (t 52 0)) (C := R_Mo) (T := T_Mo) (N := 64) hx hb htb in_Mo hown hK hP 0 rfl rfl 52 (by decide) (htb _ L_Mo_442) (fun _ h9 => h9) rfl d_Mo_normal_211 ?_
      refine lv_aload_n hx hb d_Mo_normal_214 rfl (lv_at hl 0 rfl) ?_
      refine va_get (D := gD g) (ci := 8) (v := .ref (a_t 50)) (C := R_Mo) (T := T_Mo) (N := 64) hx hb htb in_Mo hown hK hP 0 rfl rfl 49 (by decide) (htb _ L_Mo_114) (fun _ h9 => h9) rfl d_Mo_normal_215 ?_
      refine lv_iload_n hx hb d_Mo_normal_218 rfl (lv_at hl 1 rfl) ?_
      by_cases c37 : (x1 < 0 ∨ 34000 ≤ x1.toNatClampNeg)
      · replace h := (if_pos c37).symm.trans h
        cases h
      replace h := (if_neg c37).symm.trans h
      refine va_lald hx hb hK hP 24 3 rfl rfl c37 d_Mo_normal_219 ?_
      by_cases c39 : ((t 52 0) < 0 ∨ 200 ≤ (t 52 0).toNatClampNeg)
      · replace h := (if_pos c39).symm.trans h
        cases h
      replace h := (if_neg c39).symm.trans h
      refine va_last hx hb hK hP hD hS 26 3 rfl rfl c39 d_Mo_normal_220 (fun H locs hP hD hS => ?_)
      obtain ⟨t_38, et_38, h⟩ := letS_el h
      have hP : va_P (gD g) vwCl ((pic_Mo g a_t t t_38)) H := by rw [et_38]; exact hP
      have hD : va_D A ((pic_Mo g a_t t t_38)) := by rw [et_38]; exact hD
      refine lv_aload_n hx hb d_Mo_normal_221 rfl (lv_at hl 0 rfl) ?_
      refine va_get (D := gD g) (ci := 8) (v := .ref (a_t 55)) (C := R_Mo) (T := T_Mo) (N := 64) hx hb htb in_Mo hown hK hP 0 rfl rfl 54 (by decide) (htb _ L_Mo_123) (fun _ h9 => h9) rfl d_Mo_normal_222 ?_
      refine lv_aload_n hx hb d_Mo_normal_225 rfl (lv_at hl 0 rfl) ?_
      refine va_get (D := gD g) (ci := 8) (v := .int (t 52 0)) (C := R_Mo) (T := T_Mo) (N := 64) hx hb htb in_Mo hown hK hP 0 rfl rfl 52 (by decide) (htb _ L_Mo_442) (fun _ h9 => h9) rfl d_Mo_normal_226 ?_
      refine lv_aload_n hx hb d_Mo_normal_229 rfl (lv_at hl 0 rfl) ?_
      refine va_get (D := gD g) (ci := 8) (v := .ref (a_t 51)) (C := R_Mo) (T := T_Mo) (N := 64) hx hb htb in_Mo hown hK hP 0 rfl rfl 50 (by decide) (htb _ L_Mo_117) (fun _ h9 => h9) rfl d_Mo_normal_230 ?_
      refine lv_iload_n hx hb d_Mo_normal_233 rfl (lv_at hl 1 rfl) ?_
      by_cases c40 : (x1 < 0 ∨ 34000 ≤ x1.toNatClampNeg)
      · replace h := (if_pos c40).symm.trans h
        cases h
      replace h := (if_neg c40).symm.trans h
      refine va_lald hx hb hK hP 25 3 rfl rfl c40 d_Mo_normal_234 ?_
      by_cases c42 : ((t 52 0) < 0 ∨ 200 ≤ (t 52 0).toNatClampNeg)
      · replace h := (if_pos c42).symm.trans h
        cases h
      replace h := (if_neg c42).symm.trans h
      refine va_last hx hb hK hP hD hS 27 3 rfl rfl c42 d_Mo_normal_235 (fun H locs hP hD hS => ?_)
      obtain ⟨t_41, et_41, h⟩ := letS_el h
      have hP : va_P (gD g) vwCl ((pic_Mo g a_t t t_41)) H := by rw [et_41]; exact hP
      have hD : va_D A ((pic_Mo g a_t t t_41)) := by rw [et_41]; exact hD
      refine lv_aload_n hx hb d_Mo_normal_236 rfl (lv_at hl 0 rfl) ?_
      refine lv_dup hx hb d_Mo_normal_237 rfl ?_
      refine va_get (D := gD g) (ci := 8) (v := .int (t 52 0)) (C := R_Mo) (T := T_Mo) (N := 64) hx hb htb in_Mo hown hK hP 0 rfl rfl 52 (by decide) (htb _ L_Mo_442) (fun _ h9 => h9) rfl d_Mo_normal_238 ?_
      refine lv_iconst (v := 1) hx hb d_Mo_normal_241 (by decide) ?_
      refine lv_iadd hx hb d_Mo_normal_242 ?_
      refine va_put (D := gD g) (ci := 8) (v := .int ((t 52 0) + (1 : Int32))) (ty := .int) (C := R_Mo) (T := T_Mo) (N := 64) hx hb htb in_Mo ty_Mo ty_Mo_ok nm_Mo hown hK hP hD hS 0 rfl rfl 52 (by decide) (htb _ L_Mo_442) (fun _ h9 => h9) rfl (by decide +kernel) rfl rfl (Nat.le_of_ble_eq_true rfl) d_Mo_normal_243 (fun H locs hP hD hS => ?_)
      obtain ⟨t_43, et_43, h⟩ := letS_el h
      have hP : va_P (gD g) vwCl ((pic_Mo g a_t t_43 t_41)) H := by rw [et_43]; exact hP
      have hD : va_D A ((pic_Mo g a_t t_43 t_41)) := by rw [et_43]; exact hD
      refine lv_iinc (v := (x1 + (1 : Int32))) (lv' := [(1, .int (x1 + (1 : Int32))), (0, .ref (a_t 0))]) hx hb d_Mo_normal_246 hl (k := 1) rfl rfl (by decide) rfl (fun ls hl => ?_)
      refine lv_goto (tgt := 191) hx hb d_Mo_normal_249 (by decide) ?_
      exact ih _ _ _ _ h _ _ _ hP hD hS (lv_sub hl [1, 0] rfl)
set_option maxHeartbeats 4000000 in
set_option maxRecDepth 100000 in
theorem k_Mo_normal_170 {p : Program} {l : Launch} {e : Env} {s : State} {m : MethodId} {args : Array Value} {below : List Frame} {meth : Method} {c : Code} {g : Gz} {A : Nat → Prop} {F : Nat} {a_t : Nat → Nat} (hC : Cx prog_10_method_70_code 2 (some .int) R_Mo p s m args meth c g A A) : ∀ (t : StI) (tL : StL) (res : Int32 × StI × StL), Mo_normal_170 F t tL = some res → Go p l e rm_Mo_normal s m args below meth c g A A 2 (MQ below (EI g ((pic_Mo g a_t res.2.1 res.2.2)) res.1 A) args s 0 0 A) ((pic_Mo g a_t t tL)) [(0, .ref (a_t 0))] 170 [] := by
  obtain ⟨hx, hb, hr, hml, hown, htb, hlocks, hA, hAA, hG⟩ := id hC
  have hK := hG.1
  intro t tL res h H locs ls hP hD hS hl
  rw [Mo_normal_170] at h
  refine lv_aload_n hx hb d_Mo_normal_170 rfl (lv_at hl 0 rfl) ?_
  refine va_get (D := gD g) (ci := 8) (v := .int (t 51 0)) (C := R_Mo) (T := T_Mo) (N := 64) hx hb htb in_Mo hown hK hP 0 rfl rfl 51 (by decide) (htb _ L_Mo_418) (fun _ h9 => h9) rfl d_Mo_normal_171 ?_
  refine lv_if_eq (tgt := 179) hx hb d_Mo_normal_174 (by decide) (fun c44 => ?_) (fun c44 => ?_)
  · replace h := (if_pos c44).symm.trans h
    refine lv_aload_n hx hb d_Mo_normal_179 rfl (lv_at hl 0 rfl) ?_
    refine va_get (D := gD g) (ci := 8) (v := .ref (a_t 61)) (C := R_Mo) (T := T_Mo) (N := 64) hx hb htb in_Mo hown hK hP 0 rfl rfl 60 (by decide) (htb _ L_Mo_129) (fun _ h9 => h9) rfl d_Mo_normal_180 ?_
    refine lv_iconst (v := 2) hx hb d_Mo_normal_183 (by decide) ?_
    refine lv_aload_n hx hb d_Mo_normal_184 rfl (lv_at hl 0 rfl) ?_
    refine va_get (D := gD g) (ci := 8) (v := .int (t 31 0)) (C := R_Mo) (T := T_Mo) (N := 64) hx hb htb in_Mo hown hK hP 0 rfl rfl 31 (by decide) (htb _ L_Mo_141) (fun _ h9 => h9) rfl d_Mo_normal_185 ?_
    refine lv_imul hx hb d_Mo_normal_188 ?_
    by_cases c45 : (((2 : Int32) * (t 31 0)) < 0 ∨ 1400 ≤ ((2 : Int32) * (t 31 0)).toNatClampNeg)
    · replace h := (if_pos c45).symm.trans h
      cases h
    replace h := (if_neg c45).symm.trans h
    refine va_iald hx hb hK hP 29 0 rfl rfl c45 d_Mo_normal_189 ?_
    refine lv_istore_n (lv' := [(1, .int ((t 60) ((2 : Int32) * (t 31 0)).toNatClampNeg)), (0, .ref (a_t 0))]) hx hb d_Mo_normal_190 rfl hl (by decide) rfl (fun ls hl => ?_)
    exact k_Mo_normal_191 hC F _ _ _ _ h _ _ _ hP hD hS (lv_sub hl [1, 0] rfl)
  · replace h := (if_neg c44).symm.trans h
    refine lv_iconst (v := -1) hx hb d_Mo_normal_177 (by decide) ?_
    cases h
    exact W.iret hx hb hr (fun t ht hW => ⟨⟨_, (), rfl, rfl, by rw [ht]; exact hP, hD⟩, hS.F ht⟩) hS.2.2 d_Mo_normal_178
set_option maxHeartbeats 4000000 in
set_option maxRecDepth 100000 in
theorem k_Mo_normal_164 {p : Program} {l : Launch} {e : Env} {s : State} {m : MethodId} {args : Array Value} {below : List Frame} {meth : Method} {c : Code} {g : Gz} {A : Nat → Prop} {F : Nat} {a_t : Nat → Nat} {k128 : StI → StL → Int32 → Option (Int32 × StI × StL)} (hC : Cx prog_10_method_70_code 2 (some .int) R_Mo p s m args meth c g A A) : ∀ (t : StI) (tL : StL) (x1 : Int32) (res : Int32 × StI × StL), Mo_normal_164 F k128 t tL x1 = some res → (∀ (t : StI) (tL : StL) (x1 : Int32), k128 t tL x1 = some res → Go p l e rm_Mo_normal s m args below meth c g A A 2 (MQ below (EI g ((pic_Mo g a_t res.2.1 res.2.2)) res.1 A) args s 0 0 A) ((pic_Mo g a_t t tL)) [(0, .ref (a_t 0)), (1, .int x1)] 128 []) → Go p l e rm_Mo_normal s m args below meth c g A A 2 (MQ below (EI g ((pic_Mo g a_t res.2.1 res.2.2)) res.1 A) args s 0 0 A) ((pic_Mo g a_t t tL)) [(0, .ref (a_t 0)), (1, .int x1)] 164 [] := by
  obtain ⟨hx, hb, hr, hml, hown, htb, hlocks, hA, hAA, hG⟩ := id hC
  have hK := hG.1
  intro t tL x1 res h hk128 H locs ls hP hD hS hl
  rw [Mo_normal_164] at h
  refine lv_iinc (v := (x1 + (1 : Int32))) (lv' := [(1, .int (x1 + (1 : Int32))), (0, .ref (a_t 0))]) hx hb d_Mo_normal_164 hl (k := 1) rfl rfl (by decide) rfl (fun ls hl => ?_)
  refine lv_goto (tgt := 128) hx hb d_Mo_normal_167 (by decide) ?_
  exact hk128 _ _ _ h _ _ _ hP hD hS (lv_sub hl [1, 0] rfl)
set_option maxHeartbeats 4000000 in
set_option maxRecDepth 100000 in
theorem k_Mo_normal_128 {p : Program} {l : Launch} {e : Env} {s : State} {m : MethodId} {args : Array Value} {below : List Frame} {meth : Method} {c : Code} {g : Gz} {A : Nat → Prop} {F : Nat} {a_t : Nat → Nat} (hC : Cx prog_10_method_70_code 2 (some .int) R_Mo p s m args meth c g A A) : ∀ (n : Nat) (t : StI) (tL : StL) (x1 : Int32) (res : Int32 × StI × StL), Mo_normal_128 F n t tL x1 = some res → Go p l e rm_Mo_normal s m args below meth c g A A 2 (MQ below (EI g ((pic_Mo g a_t res.2.1 res.2.2)) res.1 A) args s 0 0 A) ((pic_Mo g a_t t tL)) [(0, .ref (a_t 0)), (1, .int x1)] 128 [] := by
  obtain ⟨hx, hb, hr, hml, hown, htb, hlocks, hA, hAA, hG⟩ := id hC
  have hK := hG.1
  intro n
  induction n with
  | zero => intro t tL x1 res h; rw [Mo_normal_128] at h; cases h
  | succ n ih =>
    intro t tL x1 res h H locs ls hP hD hS hl
    rw [Mo_normal_128] at h
    refine lv_iload_n hx hb d_Mo_normal_128 rfl (lv_at hl 1 rfl) ?_
    refine lv_iconst (v := 2) hx hb d_Mo_normal_129 (by decide) ?_
    refine lv_aload_n hx hb d_Mo_normal_130 rfl (lv_at hl 0 rfl) ?_
    refine va_get (D := gD g) (ci := 8) (v := .int (t 30 0)) (C := R_Mo) (T := T_Mo) (N := 64) hx hb htb in_Mo hown hK hP 0 rfl rfl 30 (by decide) (htb _ L_Mo_331) (fun _ h9 => h9) rfl d_Mo_normal_131 ?_
    refine lv_imul hx hb d_Mo_normal_134 ?_
    refine lv_icmp_ge (tgt := 170) hx hb d_Mo_normal_135 (by decide) (fun c46 => ?_) (fun c46 => ?_)
    · replace h := (if_pos c46).symm.trans h
      exact k_Mo_normal_170 hC _ _ _ h _ _ _ hP hD hS (lv_sub hl [0] rfl)
    · replace h := (if_neg c46).symm.trans h
      refine lv_aload_n hx hb d_Mo_normal_138 rfl (lv_at hl 0 rfl) ?_
      refine va_get (D := gD g) (ci := 8) (v := .int (t 51 0)) (C := R_Mo) (T := T_Mo) (N := 64) hx hb htb in_Mo hown hK hP 0 rfl rfl 51 (by decide) (htb _ L_Mo_418) (fun _ h9 => h9) rfl d_Mo_normal_139 ?_
      refine lv_if_ne (tgt := 170) hx hb d_Mo_normal_142 (by decide) (fun c47 => ?_) (fun c47 => ?_)
      · replace h := (if_neg c47).symm.trans h
        exact k_Mo_normal_170 hC _ _ _ h _ _ _ hP hD hS (lv_sub hl [0] rfl)
      · replace h := (if_pos c47).symm.trans h
        refine lv_aload_n hx hb d_Mo_normal_145 rfl (lv_at hl 0 rfl) ?_
        refine va_get (D := gD g) (ci := 8) (v := .ref (a_t 63)) (C := R_Mo) (T := T_Mo) (N := 64) hx hb htb in_Mo hown hK hP 0 rfl rfl 62 (by decide) (htb _ L_Mo_135) (fun _ h9 => h9) rfl d_Mo_normal_146 ?_
        refine lv_iload_n hx hb d_Mo_normal_149 rfl (lv_at hl 1 rfl) ?_
        by_cases c48 : (x1 < 0 ∨ 1400 ≤ x1.toNatClampNeg)
        · replace h := (if_pos c48).symm.trans h
          cases h
        replace h := (if_neg c48).symm.trans h
        refine va_zald hx hb hK hP 31 2 rfl rfl c48 d_Mo_normal_150 ?_
        refine lv_if_eq (tgt := 164) hx hb d_Mo_normal_151 (by decide) (fun c49 => ?_) (fun c49 => ?_)
        · replace h := (if_pos c49).symm.trans h
          exact k_Mo_normal_164 hC _ _ _ _ h (fun z0 z1 z2 hz => ih z0 z1 z2 _ hz) _ _ _ hP hD hS (lv_sub hl [0, 1] rfl)
        · replace h := (if_neg c49).symm.trans h
          refine lv_aload_n hx hb d_Mo_normal_154 rfl (lv_at hl 0 rfl) ?_
          refine lv_iload_n hx hb d_Mo_normal_155 rfl (lv_at hl 1 rfl) ?_
          refine lv_iconst (v := 2) hx hb d_Mo_normal_156 (by decide) ?_
          refine lv_idiv hx hb d_Mo_normal_157 (by decide) ?_
          refine lv_iload_n hx hb d_Mo_normal_158 rfl (lv_at hl 1 rfl) ?_
          refine lv_iconst (v := 2) hx hb d_Mo_normal_159 (by decide) ?_
          refine lv_irem hx hb d_Mo_normal_160 (by decide) ?_
          obtain ⟨r50, hr50, h⟩ := Option.bind_eq_some_iff.mp h
          refine cl_V (wr := []) [0, 1, 2, 3, 4, 5, 6, 7, 8, 9, 10, 11, 12, 13, 14, 15, 16, 17, 18, 19, 20, 21, 22, 23, 24, 25, 26, 27, 28, 29, 30, 31, 32] [] rfl rfl rfl (by decide) hP hD hS hA (va_runV (As := [.int (x1 / (2 : Int32)), .int (x1 - x1 / (2 : Int32) * (2 : Int32))]) (rest := []) ⟨hx, hb, hml, hown, htb⟩ (c_Mo_make l g F a_t t tL (x1 / (2 : Int32)) (x1 - x1 / (2 : Int32) * (2 : Int32)) _ hr50 H.size) (cw_V htb mb_Mo_make (htb _ L_Mo_448) rfl rfl ⟨Nat.le_of_ble_eq_true rfl, Nat.le_of_ble_eq_true rfl⟩) (pre_V (va_recv hK hP (ci := 8) (q0 := 0) rfl rfl) (pre_S [0, 1, 2, 3, 4, 5, 6, 7, 8, 9, 10, 11, 12, 13, 14, 15, 16, 17, 18, 19, 20, 21, 22, 23, 24, 25, 26, 27, 28, 29, 30, 31, 32] rfl rfl hP hD hS hA hAA hG)) rfl rfl hl.1 rfl (lv_room (Nat.le_of_ble_eq_true rfl)) d_Mo_normal_161 ⟨Nat.zero_le _, Nat.zero_le _⟩) (fun H locs hP hD hS => ?_)
          have hP : va_P (gD g) vwCl ((pic_Mo g a_t r50.1 r50.2)) H := hP.sub [0, 1, 2, 3, 4, 5, 6, 7, 8, 9, 10, 11, 12, 13, 14, 15, 16, 17, 18, 19, 20, 21, 22, 23, 24, 25, 26, 27, 28, 29, 30, 31, 32] rfl
          have hD : va_D A ((pic_Mo g a_t r50.1 r50.2)) := hD.sub [0, 1, 2, 3, 4, 5, 6, 7, 8, 9, 10, 11, 12, 13, 14, 15, 16, 17, 18, 19, 20, 21, 22, 23, 24, 25, 26, 27, 28, 29, 30, 31, 32] rfl rfl
          exact k_Mo_normal_164 hC _ _ _ _ h (fun z0 z1 z2 hz => ih z0 z1 z2 _ hz) _ _ _ hP hD hS (lv_sub hl [0, 1] rfl)
set_option maxHeartbeats 4000000 in
set_option maxRecDepth 100000 in
theorem k_Mo_normal_120 {p : Program} {l : Launch} {e : Env} {s : State} {m : MethodId} {args : Array Value} {below : List Frame} {meth : Method} {c : Code} {g : Gz} {A : Nat → Prop} {F : Nat} {a_t : Nat → Nat} {k97 : StI → StL → Int32 → Option (Int32 × StI × StL)} (hC : Cx prog_10_method_70_code 2 (some .int) R_Mo p s m args meth c g A A) : ∀ (t : StI) (tL : StL) (x1 : Int32) (res : Int32 × StI × StL), Mo_normal_120 F k97 t tL x1 = some res → (∀ (t : StI) (tL : StL) (x1 : Int32), k97 t tL x1 = some res → Go p l e rm_Mo_normal s m args below meth c g A A 2 (MQ below (EI g ((pic_Mo g a_t res.2.1 res.2.2)) res.1 A) args s 0 0 A) ((pic_Mo g a_t t tL)) [(0, .ref (a_t 0)), (1, .int x1)] 97 []) → Go p l e rm_Mo_normal s m args below meth c g A A 2 (MQ below (EI g ((pic_Mo g a_t res.2.1 res.2.2)) res.1 A) args s 0 0 A) ((pic_Mo g a_t t tL)) [(0, .ref (a_t 0)), (1, .int x1)] 120 [] := by
  obtain ⟨hx, hb, hr, hml, hown, htb, hlocks, hA, hAA, hG⟩ := id hC
  have hK := hG.1
  intro t tL x1 res h hk97 H locs ls hP hD hS hl
  rw [Mo_normal_120] at h
  refine lv_iinc (v := (x1 + (-1 : Int32))) (lv' := [(1, .int (x1 + (-1 : Int32))), (0, .ref (a_t 0))]) hx hb d_Mo_normal_120 hl (k := 1) rfl rfl (by decide) rfl (fun ls hl => ?_)
  refine lv_goto (tgt := 97) hx hb d_Mo_normal_123 (by decide) ?_
  exact hk97 _ _ _ h _ _ _ hP hD hS (lv_sub hl [1, 0] rfl)
set_option maxHeartbeats 4000000 in
set_option maxRecDepth 100000 in
theorem k_Mo_normal_97 {p : Program} {l : Launch} {e : Env} {s : State} {m : MethodId} {args : Array Value} {below : List Frame} {meth : Method} {c : Code} {g : Gz} {A : Nat → Prop} {F : Nat} {a_t : Nat → Nat} (hC : Cx prog_10_method_70_code 2 (some .int) R_Mo p s m args meth c g A A) : ∀ (n : Nat) (t : StI) (tL : StL) (x1 : Int32) (res : Int32 × StI × StL), Mo_normal_97 F n t tL x1 = some res → Go p l e rm_Mo_normal s m args below meth c g A A 2 (MQ below (EI g ((pic_Mo g a_t res.2.1 res.2.2)) res.1 A) args s 0 0 A) ((pic_Mo g a_t t tL)) [(0, .ref (a_t 0)), (1, .int x1)] 97 [] := by
  obtain ⟨hx, hb, hr, hml, hown, htb, hlocks, hA, hAA, hG⟩ := id hC
  have hK := hG.1
  intro n
  induction n with
  | zero => intro t tL x1 res h; rw [Mo_normal_97] at h; cases h
  | succ n ih =>
    intro t tL x1 res h H locs ls hP hD hS hl
    rw [Mo_normal_97] at h
    refine lv_iload_n hx hb d_Mo_normal_97 rfl (lv_at hl 1 rfl) ?_
    refine lv_if_lt (tgt := 126) hx hb d_Mo_normal_98 (by decide) (fun c51 => ?_) (fun c51 => ?_)
    · replace h := (if_pos c51).symm.trans h
      refine lv_iconst (v := 0) hx hb d_Mo_normal_126 (by decide) ?_
      refine lv_istore_n (lv' := [(1, .int (0 : Int32)), (0, .ref (a_t 0))]) hx hb d_Mo_normal_127 rfl hl (by decide) rfl (fun ls hl => ?_)
      exact k_Mo_normal_128 hC F _ _ _ _ h _ _ _ hP hD hS (lv_sub hl [1, 0] rfl)
    · replace h := (if_neg c51).symm.trans h
      refine lv_aload_n hx hb d_Mo_normal_101 rfl (lv_at hl 0 rfl) ?_
      refine va_get (D := gD g) (ci := 8) (v := .ref (a_t 63)) (C := R_Mo) (T := T_Mo) (N := 64) hx hb htb in_Mo hown hK hP 0 rfl rfl 62 (by decide) (htb _ L_Mo_135) (fun _ h9 => h9) rfl d_Mo_normal_102 ?_
      refine lv_iload_n hx hb d_Mo_normal_105 rfl (lv_at hl 1 rfl) ?_
      by_cases c52 : (x1 < 0 ∨ 1400 ≤ x1.toNatClampNeg)
      · replace h := (if_pos c52).symm.trans h
        cases h
      replace h := (if_neg c52).symm.trans h
      refine va_zald hx hb hK hP 31 2 rfl rfl c52 d_Mo_normal_106 ?_
      refine lv_if_eq (tgt := 120) hx hb d_Mo_normal_107 (by decide) (fun c53 => ?_) (fun c53 => ?_)
      · replace h := (if_pos c53).symm.trans h
        exact k_Mo_normal_120 hC _ _ _ _ h (fun z0 z1 z2 hz => ih z0 z1 z2 _ hz) _ _ _ hP hD hS (lv_sub hl [0, 1] rfl)
      · replace h := (if_neg c53).symm.trans h
        refine lv_aload_n hx hb d_Mo_normal_110 rfl (lv_at hl 0 rfl) ?_
        refine lv_iload_n hx hb d_Mo_normal_111 rfl (lv_at hl 1 rfl) ?_
        refine lv_iconst (v := 2) hx hb d_Mo_normal_112 (by decide) ?_
        refine lv_idiv hx hb d_Mo_normal_113 (by decide) ?_
        refine lv_iload_n hx hb d_Mo_normal_114 rfl (lv_at hl 1 rfl) ?_
        refine lv_iconst (v := 2) hx hb d_Mo_normal_115 (by decide) ?_
        refine lv_irem hx hb d_Mo_normal_116 (by decide) ?_
        obtain ⟨r54, hr54, h⟩ := Option.bind_eq_some_iff.mp h
        refine cl_V (wr := []) [0, 1, 2, 3, 4, 5, 6, 7, 8, 9, 10, 11, 12, 13, 14, 15, 16, 17, 18, 19, 20, 21, 22, 23, 24, 25, 26, 27, 28, 29, 30, 31, 32] [] rfl rfl rfl (by decide) hP hD hS hA (va_runV (As := [.int (x1 / (2 : Int32)), .int (x1 - x1 / (2 : Int32) * (2 : Int32))]) (rest := []) ⟨hx, hb, hml, hown, htb⟩ (c_Mo_want l g F a_t t tL (x1 / (2 : Int32)) (x1 - x1 / (2 : Int32) * (2 : Int32)) _ hr54 H.size) (cw_V htb mb_Mo_want (htb _ L_Mo_445) rfl rfl ⟨Nat.le_of_ble_eq_true rfl, Nat.le_of_ble_eq_true rfl⟩) (pre_V (va_recv hK hP (ci := 8) (q0 := 0) rfl rfl) (pre_S [0, 1, 2, 3, 4, 5, 6, 7, 8, 9, 10, 11, 12, 13, 14, 15, 16, 17, 18, 19, 20, 21, 22, 23, 24, 25, 26, 27, 28, 29, 30, 31, 32] rfl rfl hP hD hS hA hAA hG)) rfl rfl hl.1 rfl (lv_room (Nat.le_of_ble_eq_true rfl)) d_Mo_normal_117 ⟨Nat.zero_le _, Nat.zero_le _⟩) (fun H locs hP hD hS => ?_)
        have hP : va_P (gD g) vwCl ((pic_Mo g a_t r54.1 r54.2)) H := hP.sub [0, 1, 2, 3, 4, 5, 6, 7, 8, 9, 10, 11, 12, 13, 14, 15, 16, 17, 18, 19, 20, 21, 22, 23, 24, 25, 26, 27, 28, 29, 30, 31, 32] rfl
        have hD : va_D A ((pic_Mo g a_t r54.1 r54.2)) := hD.sub [0, 1, 2, 3, 4, 5, 6, 7, 8, 9, 10, 11, 12, 13, 14, 15, 16, 17, 18, 19, 20, 21, 22, 23, 24, 25, 26, 27, 28, 29, 30, 31, 32] rfl rfl
        exact k_Mo_normal_120 hC _ _ _ _ h (fun z0 z1 z2 hz => ih z0 z1 z2 _ hz) _ _ _ hP hD hS (lv_sub hl [0, 1] rfl)
set_option maxHeartbeats 4000000 in
set_option maxRecDepth 100000 in
theorem k_Mo_normal_81 {p : Program} {l : Launch} {e : Env} {s : State} {m : MethodId} {args : Array Value} {below : List Frame} {meth : Method} {c : Code} {g : Gz} {A : Nat → Prop} {F : Nat} {a_t : Nat → Nat} {k51 : StI → StL → Int32 → Option (Int32 × StI × StL)} (hC : Cx prog_10_method_70_code 2 (some .int) R_Mo p s m args meth c g A A) : ∀ (t : StI) (tL : StL) (x1 : Int32) (y0 : Int32) (y1 : Int32) (res : Int32 × StI × StL), Mo_normal_81 F k51 t tL x1 y0 y1 = some res → (∀ (t : StI) (tL : StL) (x1 : Int32), k51 t tL x1 = some res → Go p l e rm_Mo_normal s m args below meth c g A A 2 (MQ below (EI g ((pic_Mo g a_t res.2.1 res.2.2)) res.1 A) args s 0 0 A) ((pic_Mo g a_t t tL)) [(0, .ref (a_t 0)), (1, .int x1)] 51 []) → Go p l e rm_Mo_normal s m args below meth c g A A 2 (MQ below (EI g ((pic_Mo g a_t res.2.1 res.2.2)) res.1 A) args s 0 0 A) ((pic_Mo g a_t t tL)) [(0, .ref (a_t 0)), (1, .int x1)] 81 [.int y0, .int y1, .ref (a_t 63)] := by
  obtain ⟨hx, hb, hr, hml, hown, htb, hlocks, hA, hAA, hG⟩ := id hC
  have hK := hG.1
  intro t tL x1 y0 y1 res h hk51 H locs ls hP hD hS hl
  rw [Mo_normal_81] at h
  by_cases c56 : (y1 < 0 ∨ 1400 ≤ y1.toNatClampNeg)
  · replace h := (if_pos c56).symm.trans h
    cases h
  replace h := (if_neg c56).symm.trans h
  refine va_zast hx hb hK hP hD hS 31 2 rfl rfl c56 d_Mo_normal_81 (fun H locs hP hD hS => ?_)
  obtain ⟨t_55, et_55, h⟩ := letS_el h
  have hP : va_P (gD g) vwCl ((pic_Mo g a_t t_55 tL)) H := by rw [et_55]; exact hP
  have hD : va_D A ((pic_Mo g a_t t_55 tL)) := by rw [et_55]; exact hD
  refine lv_iinc (v := (x1 + (1 : Int32))) (lv' := [(1, .int (x1 + (1 : Int32))), (0, .ref (a_t 0))]) hx hb d_Mo_normal_82 hl (k := 1) rfl rfl (by decide) rfl (fun ls hl => ?_)
  refine lv_goto (tgt := 51) hx hb d_Mo_normal_85 (by decide) ?_
  exact hk51 _ _ _ h _ _ _ hP hD hS (lv_sub hl [1, 0] rfl)
set_option maxHeartbeats 4000000 in
set_option maxRecDepth 100000 in
theorem k_Mo_normal_51 {p : Program} {l : Launch} {e : Env} {s : State} {m : MethodId} {args : Array Value} {below : List Frame} {meth : Method} {c : Code} {g : Gz} {A : Nat → Prop} {F : Nat} {a_t : Nat → Nat} (hC : Cx prog_10_method_70_code 2 (some .int) R_Mo p s m args meth c g A A) : ∀ (n : Nat) (t : StI) (tL : StL) (x1 : Int32) (res : Int32 × StI × StL), Mo_normal_51 F n t tL x1 = some res → Go p l e rm_Mo_normal s m args below meth c g A A 2 (MQ below (EI g ((pic_Mo g a_t res.2.1 res.2.2)) res.1 A) args s 0 0 A) ((pic_Mo g a_t t tL)) [(0, .ref (a_t 0)), (1, .int x1)] 51 [] := by
  obtain ⟨hx, hb, hr, hml, hown, htb, hlocks, hA, hAA, hG⟩ := id hC
  have hK := hG.1
  intro n
  induction n with
  | zero => intro t tL x1 res h; rw [Mo_normal_51] at h; cases h
  | succ n ih =>
    intro t tL x1 res h H locs ls hP hD hS hl
    rw [Mo_normal_51] at h
    refine lv_iload_n hx hb d_Mo_normal_51 rfl (lv_at hl 1 rfl) ?_
    refine lv_iconst (v := 2) hx hb d_Mo_normal_52 (by decide) ?_
    refine lv_aload_n hx hb d_Mo_normal_53 rfl (lv_at hl 0 rfl) ?_
    refine va_get (D := gD g) (ci := 8) (v := .int (t 30 0)) (C := R_Mo) (T := T_Mo) (N := 64) hx hb htb in_Mo hown hK hP 0 rfl rfl 30 (by decide) (htb _ L_Mo_331) (fun _ h9 => h9) rfl d_Mo_normal_54 ?_
    refine lv_imul hx hb d_Mo_normal_57 ?_
    refine lv_icmp_ge (tgt := 88) hx hb d_Mo_normal_58 (by decide) (fun c57 => ?_) (fun c57 => ?_)
    · replace h := (if_pos c57).symm.trans h
      refine lv_iconst (v := 2) hx hb d_Mo_normal_88 (by decide) ?_
      refine lv_aload_n hx hb d_Mo_normal_89 rfl (lv_at hl 0 rfl) ?_
      refine va_get (D := gD g) (ci := 8) (v := .int (t 30 0)) (C := R_Mo) (T := T_Mo) (N := 64) hx hb htb in_Mo hown hK hP 0 rfl rfl 30 (by decide) (htb _ L_Mo_331) (fun _ h9 => h9) rfl d_Mo_normal_90 ?_
      refine lv_imul hx hb d_Mo_normal_93 ?_
      refine lv_iconst (v := 1) hx hb d_Mo_normal_94 (by decide) ?_
      refine lv_isub hx hb d_Mo_normal_95 ?_
      refine lv_istore_n (lv' := [(1, .int (((2 : Int32) * (t 30 0)) - (1 : Int32))), (0, .ref (a_t 0))]) hx hb d_Mo_normal_96 rfl hl (by decide) rfl (fun ls hl => ?_)
      exact k_Mo_normal_97 hC F _ _ _ _ h _ _ _ hP hD hS (lv_sub hl [1, 0] rfl)
    · replace h := (if_neg c57).symm.trans h
      refine lv_aload_n hx hb d_Mo_normal_61 rfl (lv_at hl 0 rfl) ?_
      refine va_get (D := gD g) (ci := 8) (v := .ref (a_t 63)) (C := R_Mo) (T := T_Mo) (N := 64) hx hb htb in_Mo hown hK hP 0 rfl rfl 62 (by decide) (htb _ L_Mo_135) (fun _ h9 => h9) rfl d_Mo_normal_62 ?_
      refine lv_iload_n hx hb d_Mo_normal_65 rfl (lv_at hl 1 rfl) ?_
      refine lv_iload_n hx hb d_Mo_normal_66 rfl (lv_at hl 1 rfl) ?_
      refine lv_iconst (v := 2) hx hb d_Mo_normal_67 (by decide) ?_
      refine lv_aload_n hx hb d_Mo_normal_68 rfl (lv_at hl 0 rfl) ?_
      refine va_get (D := gD g) (ci := 8) (v := .int (t 31 0)) (C := R_Mo) (T := T_Mo) (N := 64) hx hb htb in_Mo hown hK hP 0 rfl rfl 31 (by decide) (htb _ L_Mo_141) (fun _ h9 => h9) rfl d_Mo_normal_69 ?_
      refine lv_imul hx hb d_Mo_normal_72 ?_
      refine lv_icmp_ne (tgt := 80) hx hb d_Mo_normal_73 (by decide) (fun c58 => ?_) (fun c58 => ?_)
      · replace h := (if_neg c58).symm.trans h
        refine lv_iconst (v := 0) hx hb d_Mo_normal_80 (by decide) ?_
        exact k_Mo_normal_81 hC _ _ _ _ _ _ h (fun z0 z1 z2 hz => ih z0 z1 z2 _ hz) _ _ _ hP hD hS (lv_sub hl [0, 1] rfl)
      · replace h := (if_pos c58).symm.trans h
        refine lv_iconst (v := 1) hx hb d_Mo_normal_76 (by decide) ?_
        refine lv_goto (tgt := 81) hx hb d_Mo_normal_77 (by decide) ?_
        exact k_Mo_normal_81 hC _ _ _ _ _ _ h (fun z0 z1 z2 hz => ih z0 z1 z2 _ hz) _ _ _ hP hD hS (lv_sub hl [0, 1] rfl)
set_option maxHeartbeats 4000000 in
set_option maxRecDepth 100000 in
theorem k_Mo_normal {p : Program} {l : Launch} {e : Env} {s : State} {m : MethodId} {args : Array Value} {below : List Frame} {meth : Method} {c : Code} {g : Gz} {A : Nat → Prop} {F : Nat} {a_t : Nat → Nat} (hC : Cx prog_10_method_70_code 2 (some .int) R_Mo p s m args meth c g A A) : ∀ (t : StI) (tL : StL) (res : Int32 × StI × StL), Mo_normal F t tL = some res → Go p l e rm_Mo_normal s m args below meth c g A A 2 (MQ below (EI g ((pic_Mo g a_t res.2.1 res.2.2)) res.1 A) args s 0 0 A) ((pic_Mo g a_t t tL)) [(0, .ref (a_t 0))] 0 [] := by
  obtain ⟨hx, hb, hr, hml, hown, htb, hlocks, hA, hAA, hG⟩ := id hC
  have hK := hG.1
  intro t tL res h H locs ls hP hD hS hl
  rw [Mo_normal] at h
  refine lv_aload_n hx hb d_Mo_normal_0 rfl (lv_at hl 0 rfl) ?_
  refine lv_iconst (v := 0) hx hb d_Mo_normal_1 (by decide) ?_
  refine va_put (D := gD g) (ci := 8) (v := .int (0 : Int32)) (ty := .int) (C := R_Mo) (T := T_Mo) (N := 64) hx hb htb in_Mo ty_Mo ty_Mo_ok nm_Mo hown hK hP hD hS 0 rfl rfl 0 (by decide) (htb _ L_Mo_144) (fun _ h9 => h9) rfl (by decide +kernel) rfl rfl (Nat.le_of_ble_eq_true rfl) d_Mo_normal_2 (fun H locs hP hD hS => ?_)
  obtain ⟨t_59, et_59, h⟩ := letS_el h
  have hP : va_P (gD g) vwCl ((pic_Mo g a_t t_59 tL)) H := by rw [et_59]; exact hP
  have hD : va_D A ((pic_Mo g a_t t_59 tL)) := by rw [et_59]; exact hD
  refine lv_aload_n hx hb d_Mo_normal_5 rfl (lv_at hl 0 rfl) ?_
  refine lv_iconst (v := 0) hx hb d_Mo_normal_6 (by decide) ?_
  refine va_put (D := gD g) (ci := 8) (v := .int (0 : Int32)) (ty := .int) (C := R_Mo) (T := T_Mo) (N := 64) hx hb htb in_Mo ty_Mo ty_Mo_ok nm_Mo hown hK hP hD hS 0 rfl rfl 52 (by decide) (htb _ L_Mo_442) (fun _ h9 => h9) rfl (by decide +kernel) rfl rfl (Nat.le_of_ble_eq_true rfl) d_Mo_normal_7 (fun H locs hP hD hS => ?_)
  obtain ⟨t_60, et_60, h⟩ := letS_el h
  have hP : va_P (gD g) vwCl ((pic_Mo g a_t t_60 tL)) H := by rw [et_60]; exact hP
  have hD : va_D A ((pic_Mo g a_t t_60 tL)) := by rw [et_60]; exact hD
  refine lv_aload_n hx hb d_Mo_normal_10 rfl (lv_at hl 0 rfl) ?_
  refine lv_iconst (v := 0) hx hb d_Mo_normal_11 (by decide) ?_
  refine va_put (D := gD g) (ci := 8) (v := .int (0 : Int32)) (ty := .int) (C := R_Mo) (T := T_Mo) (N := 64) hx hb htb in_Mo ty_Mo ty_Mo_ok nm_Mo hown hK hP hD hS 0 rfl rfl 48 (by decide) (htb _ L_Mo_415) (fun _ h9 => h9) rfl (by decide +kernel) rfl rfl (Nat.le_of_ble_eq_true rfl) d_Mo_normal_12 (fun H locs hP hD hS => ?_)
  obtain ⟨t_61, et_61, h⟩ := letS_el h
  have hP : va_P (gD g) vwCl ((pic_Mo g a_t t_61 tL)) H := by rw [et_61]; exact hP
  have hD : va_D A ((pic_Mo g a_t t_61 tL)) := by rw [et_61]; exact hD
  refine lv_aload_n hx hb d_Mo_normal_15 rfl (lv_at hl 0 rfl) ?_
  refine lv_iconst (v := 0) hx hb d_Mo_normal_16 (by decide) ?_
  refine va_put (D := gD g) (ci := 8) (v := .int (0 : Int32)) (ty := .boolean) (C := R_Mo) (T := T_Mo) (N := 64) hx hb htb in_Mo ty_Mo ty_Mo_ok nm_Mo hown hK hP hD hS 0 rfl rfl 51 (by decide) (htb _ L_Mo_418) (fun _ h9 => h9) rfl (by decide +kernel) rfl rfl (Nat.le_of_ble_eq_true rfl) d_Mo_normal_17 (fun H locs hP hD hS => ?_)
  obtain ⟨t_62, et_62, h⟩ := letS_el h
  have hP : va_P (gD g) vwCl ((pic_Mo g a_t t_62 tL)) H := by rw [et_62]; exact hP
  have hD : va_D A ((pic_Mo g a_t t_62 tL)) := by rw [et_62]; exact hD
  refine lv_aload_n hx hb d_Mo_normal_20 rfl (lv_at hl 0 rfl) ?_
  refine va_get (D := gD g) (ci := 8) (v := .int (t_62 31 0)) (C := R_Mo) (T := T_Mo) (N := 64) hx hb htb in_Mo hown hK hP 0 rfl rfl 31 (by decide) (htb _ L_Mo_141) (fun _ h9 => h9) rfl d_Mo_normal_21 ?_
  refine lv_iconst (v := -1) hx hb d_Mo_normal_24 (by decide) ?_
  refine lv_icmp_ne (tgt := 49) hx hb d_Mo_normal_25 (by decide) (fun c63 => ?_) (fun c63 => ?_)
  · replace h := (if_neg c63).symm.trans h
    refine lv_iconst (v := 0) hx hb d_Mo_normal_49 (by decide) ?_
    refine lv_istore_n (lv' := [(1, .int (0 : Int32)), (0, .ref (a_t 0))]) hx hb d_Mo_normal_50 rfl hl (by decide) rfl (fun ls hl => ?_)
    exact k_Mo_normal_51 hC F _ _ _ _ h _ _ _ hP hD hS (lv_sub hl [1, 0] rfl)
  · replace h := (if_pos c63).symm.trans h
    refine lv_aload_n hx hb d_Mo_normal_28 rfl (lv_at hl 0 rfl) ?_
    refine va_get (D := gD g) (ci := 8) (v := .ref (a_t 54)) (C := R_Mo) (T := T_Mo) (N := 64) hx hb htb in_Mo hown hK hP 0 rfl rfl 53 (by decide) (htb _ L_Mo_120) (fun _ h9 => h9) rfl d_Mo_normal_29 ?_
    refine lv_iconst (v := 0) hx hb d_Mo_normal_32 (by decide) ?_
    refine lv_lconst (v := 0) hx hb d_Mo_normal_33 (by decide) ?_
    by_cases c65 : ((0 : Int32) < 0 ∨ 200 ≤ (0 : Int32).toNatClampNeg)
    · replace h := (if_pos c65).symm.trans h
      cases h
    replace h := (if_neg c65).symm.trans h
    refine va_last hx hb hK hP hD hS 26 3 rfl rfl c65 d_Mo_normal_34 (fun H locs hP hD hS => ?_)
    obtain ⟨t_64, et_64, h⟩ := letS_el h
    have hP : va_P (gD g) vwCl ((pic_Mo g a_t t_62 t_64)) H := by rw [et_64]; exact hP
    have hD : va_D A ((pic_Mo g a_t t_62 t_64)) := by rw [et_64]; exact hD
    refine lv_aload_n hx hb d_Mo_normal_35 rfl (lv_at hl 0 rfl) ?_
    refine va_get (D := gD g) (ci := 8) (v := .ref (a_t 55)) (C := R_Mo) (T := T_Mo) (N := 64) hx hb htb in_Mo hown hK hP 0 rfl rfl 54 (by decide) (htb _ L_Mo_123) (fun _ h9 => h9) rfl d_Mo_normal_36 ?_
    refine lv_iconst (v := 0) hx hb d_Mo_normal_39 (by decide) ?_
    refine lv_lconst (v := 0) hx hb d_Mo_normal_40 (by decide) ?_
    by_cases c67 : ((0 : Int32) < 0 ∨ 200 ≤ (0 : Int32).toNatClampNeg)
    · replace h := (if_pos c67).symm.trans h
      cases h
    replace h := (if_neg c67).symm.trans h
    refine va_last hx hb hK hP hD hS 27 3 rfl rfl c67 d_Mo_normal_41 (fun H locs hP hD hS => ?_)
    obtain ⟨t_66, et_66, h⟩ := letS_el h
    have hP : va_P (gD g) vwCl ((pic_Mo g a_t t_62 t_66)) H := by rw [et_66]; exact hP
    have hD : va_D A ((pic_Mo g a_t t_62 t_66)) := by rw [et_66]; exact hD
    refine lv_aload_n hx hb d_Mo_normal_42 rfl (lv_at hl 0 rfl) ?_
    refine lv_iconst (v := 1) hx hb d_Mo_normal_43 (by decide) ?_
    refine va_put (D := gD g) (ci := 8) (v := .int (1 : Int32)) (ty := .int) (C := R_Mo) (T := T_Mo) (N := 64) hx hb htb in_Mo ty_Mo ty_Mo_ok nm_Mo hown hK hP hD hS 0 rfl rfl 52 (by decide) (htb _ L_Mo_442) (fun _ h9 => h9) rfl (by decide +kernel) rfl rfl (Nat.le_of_ble_eq_true rfl) d_Mo_normal_44 (fun H locs hP hD hS => ?_)
    obtain ⟨t_68, et_68, h⟩ := letS_el h
    have hP : va_P (gD g) vwCl ((pic_Mo g a_t t_68 t_66)) H := by rw [et_68]; exact hP
    have hD : va_D A ((pic_Mo g a_t t_68 t_66)) := by rw [et_68]; exact hD
    refine lv_iconst (v := 1) hx hb d_Mo_normal_47 (by decide) ?_
    cases h
    exact W.iret hx hb hr (fun t ht hW => ⟨⟨_, (), rfl, rfl, by rw [ht]; exact hP, hD⟩, hS.F ht⟩) hS.2.2 d_Mo_normal_48
theorem c_Mo_normal (l : Launch) (g : Gz) (F : Nat) (a_t : Nat → Nat) (t : StI) (tL : StL) (res : Int32 × StI × StL) (h : Mo_normal F t tL = some res) : ∀ sz : Nat, Met l y_Mo_normal (.code y_Mo_normal prog_10_method_70_code 2 (some .int) :: TBL) rm_Mo_normal (va_Pc [.ref (a_t 0)] (Pre0 g ((pic_Mo g a_t t tL)) sz)) (EI g ((pic_Mo g a_t res.2.1 res.2.2)) res.1 (va_A ((pic_Mo g a_t t tL)) sz)) 0 0 (va_A ((pic_Mo g a_t t tL)) sz) :=
  ct_w (Qc := fun A => EI g ((pic_Mo g a_t res.2.1 res.2.2)) res.1 A) (by decide) (Nat.le_of_ble_eq_true rfl) (fun p e s m args below meth c A hC => k_Mo_normal hC t tL res h)
def Mo_row (F : Nat) (t : StI) (tL : StL) (x1 : Int32) (x2 : Int32) : Option (Int64 × StI × StL) := letS (va_up t 0 (fun _ => (0 : Int32))) fun t_7 => if x1 < 0 then some ((0 : Int64), t_7, tL) else if x1 < (t_7 52 0) then if x2 = 0 then if x1 < 0 ∨ 200 ≤ x1.toNatClampNeg then none else some (((tL 53) x1.toNatClampNeg), t_7, tL) else if x1 < 0 ∨ 200 ≤ x1.toNatClampNeg then none else some (((tL 54) x1.toNatClampNeg), t_7, tL) else some ((0 : Int64), t_7, tL)
set_option maxHeartbeats 4000000 in
set_option maxRecDepth 100000 in
theorem k_Mo_row {p : Program} {l : Launch} {e : Env} {s : State} {m : MethodId} {args : Array Value} {below : List Frame} {meth : Method} {c : Code} {g : Gz} {A : Nat → Prop} {F : Nat} {a_t : Nat → Nat} (hC : Cx prog_10_method_71_code 3 (some .long) R_Mo p s m args meth c g A A) : ∀ (t : StI) (tL : StL) (x1 : Int32) (x2 : Int32) (res : Int64 × StI × StL), Mo_row F t tL x1 x2 = some res → Go p l e rm_Mo_row s m args below meth c g A A 3 (MQ below (EL g ((pic_Mo g a_t res.2.1 res.2.2)) res.1 A) args s 0 0 A) ((pic_Mo g a_t t tL)) [(0, .ref (a_t 0)), (1, .int x1), (2, .int x2)] 0 [] := by
  obtain ⟨hx, hb, hr, hml, hown, htb, hlocks, hA, hAA, hG⟩ := id hC
  have hK := hG.1
  intro t tL x1 x2 res h H locs ls hP hD hS hl
  rw [Mo_row] at h
  refine lv_aload_n hx hb d_Mo_row_0 rfl (lv_at hl 0 rfl) ?_
  refine lv_iconst (v := 0) hx hb d_Mo_row_1 (by decide) ?_
  refine va_put (D := gD g) (ci := 8) (v := .int (0 : Int32)) (ty := .int) (C := R_Mo) (T := T_Mo) (N := 64) hx hb htb in_Mo ty_Mo ty_Mo_ok nm_Mo hown hK hP hD hS 0 rfl rfl 0 (by decide) (htb _ L_Mo_144) (fun _ h9 => h9) rfl (by decide +kernel) rfl rfl (Nat.le_of_ble_eq_true rfl) d_Mo_row_2 (fun H locs hP hD hS => ?_)
  obtain ⟨t_7, et_7, h⟩ := letS_el h
  have hP : va_P (gD g) vwCl ((pic_Mo g a_t t_7 tL)) H := by rw [et_7]; exact hP
  have hD : va_D A ((pic_Mo g a_t t_7 tL)) := by rw [et_7]; exact hD
  refine lv_iload_n hx hb d_Mo_row_5 rfl (lv_at hl 1 rfl) ?_
  refine lv_if_lt (tgt := 17) hx hb d_Mo_row_6 (by decide) (fun c8 => ?_) (fun c8 => ?_)
  · replace h := (if_pos c8).symm.trans h
    refine lv_lconst (v := 0) hx hb d_Mo_row_17 (by decide) ?_
    refine lv_goto (tgt := 40) hx hb d_Mo_row_18 (by decide) ?_
    cases h
    exact W.lret hx hb hr (fun t ht hW => ⟨⟨_, (), rfl, rfl, by rw [ht]; exact hP, hD⟩, hS.F ht⟩) hS.2.2 d_Mo_row_40
  · replace h := (if_neg c8).symm.trans h
    refine lv_iload_n hx hb d_Mo_row_9 rfl (lv_at hl 1 rfl) ?_
    refine lv_aload_n hx hb d_Mo_row_10 rfl (lv_at hl 0 rfl) ?_
    refine va_get (D := gD g) (ci := 8) (v := .int (t_7 52 0)) (C := R_Mo) (T := T_Mo) (N := 64) hx hb htb in_Mo hown hK hP 0 rfl rfl 52 (by decide) (htb _ L_Mo_442) (fun _ h9 => h9) rfl d_Mo_row_11 ?_
    refine lv_icmp_lt (tgt := 21) hx hb d_Mo_row_14 (by decide) (fun c9 => ?_) (fun c9 => ?_)
    · replace h := (if_pos c9).symm.trans h
      refine lv_iload_n hx hb d_Mo_row_21 rfl (lv_at hl 2 rfl) ?_
      refine lv_if_eq (tgt := 34) hx hb d_Mo_row_22 (by decide) (fun c10 => ?_) (fun c10 => ?_)
      · replace h := (if_pos c10).symm.trans h
        refine lv_aload_n hx hb d_Mo_row_34 rfl (lv_at hl 0 rfl) ?_
        refine va_get (D := gD g) (ci := 8) (v := .ref (a_t 54)) (C := R_Mo) (T := T_Mo) (N := 64) hx hb htb in_Mo hown hK hP 0 rfl rfl 53 (by decide) (htb _ L_Mo_120) (fun _ h9 => h9) rfl d_Mo_row_35 ?_
        refine lv_iload_n hx hb d_Mo_row_38 rfl (lv_at hl 1 rfl) ?_
        by_cases c11 : (x1 < 0 ∨ 200 ≤ x1.toNatClampNeg)
        · replace h := (if_pos c11).symm.trans h
          cases h
        replace h := (if_neg c11).symm.trans h
        refine va_lald hx hb hK hP 26 3 rfl rfl c11 d_Mo_row_39 ?_
        cases h
        exact W.lret hx hb hr (fun t ht hW => ⟨⟨_, (), rfl, rfl, by rw [ht]; exact hP, hD⟩, hS.F ht⟩) hS.2.2 d_Mo_row_40
      · replace h := (if_neg c10).symm.trans h
        refine lv_aload_n hx hb d_Mo_row_25 rfl (lv_at hl 0 rfl) ?_
        refine va_get (D := gD g) (ci := 8) (v := .ref (a_t 55)) (C := R_Mo) (T := T_Mo) (N := 64) hx hb htb in_Mo hown hK hP 0 rfl rfl 54 (by decide) (htb _ L_Mo_123) (fun _ h9 => h9) rfl d_Mo_row_26 ?_
        refine lv_iload_n hx hb d_Mo_row_29 rfl (lv_at hl 1 rfl) ?_
        by_cases c12 : (x1 < 0 ∨ 200 ≤ x1.toNatClampNeg)
        · replace h := (if_pos c12).symm.trans h
          cases h
        replace h := (if_neg c12).symm.trans h
        refine va_lald hx hb hK hP 27 3 rfl rfl c12 d_Mo_row_30 ?_
        refine lv_goto (tgt := 40) hx hb d_Mo_row_31 (by decide) ?_
        cases h
        exact W.lret hx hb hr (fun t ht hW => ⟨⟨_, (), rfl, rfl, by rw [ht]; exact hP, hD⟩, hS.F ht⟩) hS.2.2 d_Mo_row_40
    · replace h := (if_neg c9).symm.trans h
      refine lv_lconst (v := 0) hx hb d_Mo_row_17 (by decide) ?_
      refine lv_goto (tgt := 40) hx hb d_Mo_row_18 (by decide) ?_
      cases h
      exact W.lret hx hb hr (fun t ht hW => ⟨⟨_, (), rfl, rfl, by rw [ht]; exact hP, hD⟩, hS.F ht⟩) hS.2.2 d_Mo_row_40
theorem c_Mo_row (l : Launch) (g : Gz) (F : Nat) (a_t : Nat → Nat) (t : StI) (tL : StL) (x1 : Int32) (x2 : Int32) (res : Int64 × StI × StL) (h : Mo_row F t tL x1 x2 = some res) : ∀ sz : Nat, Met l y_Mo_row (.code y_Mo_row prog_10_method_71_code 3 (some .long) :: TBL) rm_Mo_row (va_Pc [.ref (a_t 0), .int x1, .int x2] (Pre0 g ((pic_Mo g a_t t tL)) sz)) (EL g ((pic_Mo g a_t res.2.1 res.2.2)) res.1 (va_A ((pic_Mo g a_t t tL)) sz)) 0 0 (va_A ((pic_Mo g a_t t tL)) sz) :=
  ct_w (Qc := fun A => EL g ((pic_Mo g a_t res.2.1 res.2.2)) res.1 A) (by decide) (Nat.le_of_ble_eq_true rfl) (fun p e s m args below meth c A hC => k_Mo_row hC t tL x1 x2 res h)
def Mo_answers_237 (F : Nat) (k2 : StI → StL → Int64 → Int32 → Option (Int32 × StI × StL)) (t : StI) (tL : StL) (x1 : Int64) (x3 : Int32) : Option (Int32 × StI × StL) := k2 t tL x1 (x3 + (1 : Int32))
def Mo_answers_236 (F : Nat) (k2 : StI → StL → Int64 → Int32 → Option (Int32 × StI × StL)) (t : StI) (tL : StL) (x1 : Int64) (x3 : Int32) (y0 : Int32) (y1 : Int32) : Option (Int32 × StI × StL) := if y1 < 0 ∨ 700 ≤ y1.toNatClampNeg then none else letS (va_up t 55 (upd (t 55) y1.toNatClampNeg (vp_nar .boolean y0))) fun t_60 => Mo_answers_237 F k2 t_60 tL x1 x3
def Mo_answers_197 (F : Nat) (k2 : StI → StL → Int64 → Int32 → Option (Int32 × StI × StL)) (t : StI) (tL : StL) (x1 : Int64) (x3 : Int32) (y0 : Int32) (y1 : Int32) : Option (Int32 × StI × StL) := if y1 < 0 ∨ 700 ≤ y1.toNatClampNeg then none else letS (va_up t 55 (upd (t 55) y1.toNatClampNeg (vp_nar .boolean y0))) fun t_62 => Mo_answers_237 F k2 t_62 tL x1 x3
def Mo_answers_192 (F : Nat) (k2 : StI → StL → Int64 → Int32 → Option (Int32 × StI × StL)) (t : StI) (tL : StL) (x1 : Int64) (x3 : Int32) (y0 : Int32) : Option (Int32 × StI × StL) := Mo_answers_197 F k2 t tL x1 x3 (1 : Int32) y0
def Mo_answers_155 (F : Nat) (k2 : StI → StL → Int64 → Int32 → Option (Int32 × StI × StL)) (t : StI) (tL : StL) (x1 : Int64) (x3 : Int32) (y0 : Int32) (y1 : Int32) : Option (Int32 × StI × StL) := if y1 < 0 ∨ 700 ≤ y1.toNatClampNeg then none else letS (va_up t 55 (upd (t 55) y1.toNatClampNeg (vp_nar .boolean y0))) fun t_64 => Mo_answers_237 F k2 t_64 tL x1 x3
def Mo_answers_154 (F : Nat) (k2 : StI → StL → Int64 → Int32 → Option (Int32 × StI × StL)) (t : StI) (tL : StL) (x1 : Int64) (x3 : Int32) (y0 : Int32) : Option (Int32 × StI × StL) := Mo_answers_155 F k2 t tL x1 x3 (0 : Int32) y0
def Mo_answers_113 (F : Nat) (k2 : StI → StL → Int64 → Int32 → Option (Int32 × StI × StL)) (t : StI) (tL : StL) (x1 : Int64) (x3 : Int32) (y0 : Int32) (y1 : Int32) : Option (Int32 × StI × StL) := if y1 < 0 ∨ 700 ≤ y1.toNatClampNeg then none else letS (va_up t 55 (upd (t 55) y1.toNatClampNeg (vp_nar .boolean y0))) fun t_66 => Mo_answers_237 F k2 t_66 tL x1 x3
def Mo_answers_85 (F : Nat) (k2 : StI → StL → Int64 → Int32 → Option (Int32 × StI × StL)) (t : StI) (tL : StL) (x1 : Int64) (x3 : Int32) (y0 : Int32) (y1 : Int32) : Option (Int32 × StI × StL) := if y1 < 0 ∨ 700 ≤ y1.toNatClampNeg then none else letS (va_up t 55 (upd (t 55) y1.toNatClampNeg (vp_nar .boolean y0))) fun t_68 => Mo_answers_237 F k2 t_68 tL x1 x3
def Mo_answers_2 (F : Nat) : Nat → StI → StL → Int64 → Int32 → Option (Int32 × StI × StL)
  | 0, _, _, _, _ => none
  | n + 1, t, tL, x1, x3 => if (t 30 0) ≤ x3 then if (t 31 0) = (-1 : Int32) then some ((1 : Int32), t, tL) else if (t 31 0) < 0 ∨ 700 ≤ (t 31 0).toNatClampNeg then none else if ((t 55) (t 31 0).toNatClampNeg) = 0 then some ((0 : Int32), t, tL) else some ((1 : Int32), t, tL) else if x3 < 0 ∨ 700 ≤ x3.toNatClampNeg then none else if ((t 32) x3.toNatClampNeg) = (1 : Int32) then if x3 < 0 ∨ 700 ≤ x3.toNatClampNeg then none else if ((t 33) x3.toNatClampNeg) < 0 ∨ 700 ≤ ((t 33) x3.toNatClampNeg).toNatClampNeg then none else if ((t 55) ((t 33) x3.toNatClampNeg).toNatClampNeg) = 0 then if x3 < 0 ∨ 700 ≤ x3.toNatClampNeg then none else if ((t 34) x3.toNatClampNeg) < 0 ∨ 700 ≤ ((t 34) x3.toNatClampNeg).toNatClampNeg then none else if ((t 55) ((t 34) x3.toNatClampNeg).toNatClampNeg) = 0 then Mo_answers_197 F (Mo_answers_2 F n) t tL x1 x3 (0 : Int32) x3 else Mo_answers_192 F (Mo_answers_2 F n) t tL x1 x3 x3 else Mo_answers_192 F (Mo_answers_2 F n) t tL x1 x3 x3 else if ((t 32) x3.toNatClampNeg) = (2 : Int32) then if x3 < 0 ∨ 700 ≤ x3.toNatClampNeg then none else if ((t 33) x3.toNatClampNeg) < 0 ∨ 700 ≤ ((t 33) x3.toNatClampNeg).toNatClampNeg then none else if x3 < 0 ∨ 700 ≤ x3.toNatClampNeg then none else if ((t 34) x3.toNatClampNeg) < 0 ∨ 700 ≤ ((t 34) x3.toNatClampNeg).toNatClampNeg then none else if ((t 55) ((t 33) x3.toNatClampNeg).toNatClampNeg) = ((t 55) ((t 34) x3.toNatClampNeg).toNatClampNeg) then Mo_answers_236 F (Mo_answers_2 F n) t tL x1 x3 (0 : Int32) x3 else Mo_answers_236 F (Mo_answers_2 F n) t tL x1 x3 (1 : Int32) x3 else if ((t 32) x3.toNatClampNeg) = (3 : Int32) then if x3 < 0 ∨ 700 ≤ x3.toNatClampNeg then none else if ((t 33) x3.toNatClampNeg) < 0 ∨ 700 ≤ ((t 33) x3.toNatClampNeg).toNatClampNeg then none else if ((t 55) ((t 33) x3.toNatClampNeg).toNatClampNeg) = 0 then Mo_answers_154 F (Mo_answers_2 F n) t tL x1 x3 x3 else if x3 < 0 ∨ 700 ≤ x3.toNatClampNeg then none else if ((t 34) x3.toNatClampNeg) < 0 ∨ 700 ≤ ((t 34) x3.toNatClampNeg).toNatClampNeg then none else if ((t 55) ((t 34) x3.toNatClampNeg).toNatClampNeg) = 0 then Mo_answers_154 F (Mo_answers_2 F n) t tL x1 x3 x3 else Mo_answers_155 F (Mo_answers_2 F n) t tL x1 x3 (1 : Int32) x3 else if ((t 32) x3.toNatClampNeg) = (4 : Int32) then if x3 < 0 ∨ 700 ≤ x3.toNatClampNeg then none else if ((t 33) x3.toNatClampNeg) < 0 ∨ 700 ≤ ((t 33) x3.toNatClampNeg).toNatClampNeg then none else if ((t 55) ((t 33) x3.toNatClampNeg).toNatClampNeg) = 0 then Mo_answers_113 F (Mo_answers_2 F n) t tL x1 x3 (1 : Int32) x3 else Mo_answers_113 F (Mo_answers_2 F n) t tL x1 x3 (0 : Int32) x3 else if ((t 32) x3.toNatClampNeg) = (5 : Int32) then if x3 < 0 ∨ 700 ≤ x3.toNatClampNeg then none else if ((t 33) x3.toNatClampNeg) < 0 ∨ 700 ≤ ((t 33) x3.toNatClampNeg).toNatClampNeg then none else if x3 < 0 ∨ 700 ≤ x3.toNatClampNeg then none else if ((t 34) x3.toNatClampNeg) < 0 ∨ 700 ≤ ((t 34) x3.toNatClampNeg).toNatClampNeg then none else if ((t 55) ((t 33) x3.toNatClampNeg).toNatClampNeg) = ((t 55) ((t 34) x3.toNatClampNeg).toNatClampNeg) then Mo_answers_236 F (Mo_answers_2 F n) t tL x1 x3 (0 : Int32) x3 else Mo_answers_236 F (Mo_answers_2 F n) t tL x1 x3 (1 : Int32) x3 else if ((t 32) x3.toNatClampNeg) = (6 : Int32) then if x3 < 0 ∨ 700 ≤ x3.toNatClampNeg then none else if ((t 33) x3.toNatClampNeg) < 0 ∨ 700 ≤ ((t 33) x3.toNatClampNeg).toNatClampNeg then none else if x3 < 0 ∨ 700 ≤ x3.toNatClampNeg then none else if ((t 34) x3.toNatClampNeg) < 0 ∨ 700 ≤ ((t 34) x3.toNatClampNeg).toNatClampNeg then none else if ((t 55) ((t 33) x3.toNatClampNeg).toNatClampNeg) = ((t 55) ((t 34) x3.toNatClampNeg).toNatClampNeg) then Mo_answers_236 F (Mo_answers_2 F n) t tL x1 x3 (0 : Int32) x3 else Mo_answers_236 F (Mo_answers_2 F n) t tL x1 x3 (1 : Int32) x3 else if ((t 32) x3.toNatClampNeg) = (7 : Int32) then if x3 < 0 ∨ 700 ≤ x3.toNatClampNeg then none else if (lg_cmp ((x1 >>> (((t 33) x3.toNatClampNeg).toInt64 &&& 63)) &&& (1 : Int64)) (1 : Int64)) = 0 then Mo_answers_85 F (Mo_answers_2 F n) t tL x1 x3 (1 : Int32) x3 else Mo_answers_85 F (Mo_answers_2 F n) t tL x1 x3 (0 : Int32) x3 else if x3 < 0 ∨ 700 ≤ x3.toNatClampNeg then none else if ((t 33) x3.toNatClampNeg) < 0 ∨ 700 ≤ ((t 33) x3.toNatClampNeg).toNatClampNeg then none else if x3 < 0 ∨ 700 ≤ x3.toNatClampNeg then none else if ((t 34) x3.toNatClampNeg) < 0 ∨ 700 ≤ ((t 34) x3.toNatClampNeg).toNatClampNeg then none else if ((t 55) ((t 33) x3.toNatClampNeg).toNatClampNeg) = ((t 55) ((t 34) x3.toNatClampNeg).toNatClampNeg) then Mo_answers_236 F (Mo_answers_2 F n) t tL x1 x3 (0 : Int32) x3 else Mo_answers_236 F (Mo_answers_2 F n) t tL x1 x3 (1 : Int32) x3
def Mo_answers (F : Nat) (t : StI) (tL : StL) (x1 : Int64) : Option (Int32 × StI × StL) := Mo_answers_2 F F t tL x1 (0 : Int32)
set_option maxHeartbeats 4000000 in
set_option maxRecDepth 100000 in
theorem k_Mo_answers_237 {p : Program} {l : Launch} {e : Env} {s : State} {m : MethodId} {args : Array Value} {below : List Frame} {meth : Method} {c : Code} {g : Gz} {A : Nat → Prop} {F : Nat} {a_t : Nat → Nat} {k2 : StI → StL → Int64 → Int32 → Option (Int32 × StI × StL)} (hC : Cx prog_10_method_72_code 4 (some .boolean) R_Mo p s m args meth c g A A) : ∀ (t : StI) (tL : StL) (x1 : Int64) (x3 : Int32) (res : Int32 × StI × StL), Mo_answers_237 F k2 t tL x1 x3 = some res → (∀ (t : StI) (tL : StL) (x1 : Int64) (x3 : Int32), k2 t tL x1 x3 = some res → Go p l e rm_Mo_answers s m args below meth c g A A 4 (MQ below (EI g ((pic_Mo g a_t res.2.1 res.2.2)) res.1 A) args s 0 0 A) ((pic_Mo g a_t t tL)) [(0, .ref (a_t 0)), (1, .long x1), (3, .int x3)] 2 []) → Go p l e rm_Mo_answers s m args below meth c g A A 4 (MQ below (EI g ((pic_Mo g a_t res.2.1 res.2.2)) res.1 A) args s 0 0 A) ((pic_Mo g a_t t tL)) [(0, .ref (a_t 0)), (1, .long x1), (3, .int x3)] 237 [] := by
  obtain ⟨hx, hb, hr, hml, hown, htb, hlocks, hA, hAA, hG⟩ := id hC
  have hK := hG.1
  intro t tL x1 x3 res h hk2 H locs ls hP hD hS hl
  rw [Mo_answers_237] at h
  refine lv_iinc (v := (x3 + (1 : Int32))) (lv' := [(3, .int (x3 + (1 : Int32))), (0, .ref (a_t 0)), (1, .long x1)]) hx hb d_Mo_answers_237 hl (k := 2) rfl rfl (by decide) rfl (fun ls hl => ?_)
  refine lv_goto (tgt := 2) hx hb d_Mo_answers_240 (by decide) ?_
  exact hk2 _ _ _ _ h _ _ _ hP hD hS (lv_sub hl [1, 2, 0] rfl)
set_option maxHeartbeats 4000000 in
set_option maxRecDepth 100000 in
theorem k_Mo_answers_236 {p : Program} {l : Launch} {e : Env} {s : State} {m : MethodId} {args : Array Value} {below : List Frame} {meth : Method} {c : Code} {g : Gz} {A : Nat → Prop} {F : Nat} {a_t : Nat → Nat} {k2 : StI → StL → Int64 → Int32 → Option (Int32 × StI × StL)} (hC : Cx prog_10_method_72_code 4 (some .boolean) R_Mo p s m args meth c g A A) : ∀ (t : StI) (tL : StL) (x1 : Int64) (x3 : Int32) (y0 : Int32) (y1 : Int32) (res : Int32 × StI × StL), Mo_answers_236 F k2 t tL x1 x3 y0 y1 = some res → (∀ (t : StI) (tL : StL) (x1 : Int64) (x3 : Int32), k2 t tL x1 x3 = some res → Go p l e rm_Mo_answers s m args below meth c g A A 4 (MQ below (EI g ((pic_Mo g a_t res.2.1 res.2.2)) res.1 A) args s 0 0 A) ((pic_Mo g a_t t tL)) [(0, .ref (a_t 0)), (1, .long x1), (3, .int x3)] 2 []) → Go p l e rm_Mo_answers s m args below meth c g A A 4 (MQ below (EI g ((pic_Mo g a_t res.2.1 res.2.2)) res.1 A) args s 0 0 A) ((pic_Mo g a_t t tL)) [(0, .ref (a_t 0)), (1, .long x1), (3, .int x3)] 236 [.int y0, .int y1, .ref (a_t 56)] := by
  obtain ⟨hx, hb, hr, hml, hown, htb, hlocks, hA, hAA, hG⟩ := id hC
  have hK := hG.1
  intro t tL x1 x3 y0 y1 res h hk2 H locs ls hP hD hS hl
  rw [Mo_answers_236] at h
  by_cases c61 : (y1 < 0 ∨ 700 ≤ y1.toNatClampNeg)
  · replace h := (if_pos c61).symm.trans h
    cases h
  replace h := (if_neg c61).symm.trans h
  refine va_zast hx hb hK hP hD hS 28 2 rfl rfl c61 d_Mo_answers_236 (fun H locs hP hD hS => ?_)
  obtain ⟨t_60, et_60, h⟩ := letS_el h
  have hP : va_P (gD g) vwCl ((pic_Mo g a_t t_60 tL)) H := by rw [et_60]; exact hP
  have hD : va_D A ((pic_Mo g a_t t_60 tL)) := by rw [et_60]; exact hD
  exact k_Mo_answers_237 hC _ _ _ _ _ h hk2 _ _ _ hP hD hS (lv_sub hl [0, 1, 2] rfl)
set_option maxHeartbeats 4000000 in
set_option maxRecDepth 100000 in
theorem k_Mo_answers_197 {p : Program} {l : Launch} {e : Env} {s : State} {m : MethodId} {args : Array Value} {below : List Frame} {meth : Method} {c : Code} {g : Gz} {A : Nat → Prop} {F : Nat} {a_t : Nat → Nat} {k2 : StI → StL → Int64 → Int32 → Option (Int32 × StI × StL)} (hC : Cx prog_10_method_72_code 4 (some .boolean) R_Mo p s m args meth c g A A) : ∀ (t : StI) (tL : StL) (x1 : Int64) (x3 : Int32) (y0 : Int32) (y1 : Int32) (res : Int32 × StI × StL), Mo_answers_197 F k2 t tL x1 x3 y0 y1 = some res → (∀ (t : StI) (tL : StL) (x1 : Int64) (x3 : Int32), k2 t tL x1 x3 = some res → Go p l e rm_Mo_answers s m args below meth c g A A 4 (MQ below (EI g ((pic_Mo g a_t res.2.1 res.2.2)) res.1 A) args s 0 0 A) ((pic_Mo g a_t t tL)) [(0, .ref (a_t 0)), (1, .long x1), (3, .int x3)] 2 []) → Go p l e rm_Mo_answers s m args below meth c g A A 4 (MQ below (EI g ((pic_Mo g a_t res.2.1 res.2.2)) res.1 A) args s 0 0 A) ((pic_Mo g a_t t tL)) [(0, .ref (a_t 0)), (1, .long x1), (3, .int x3)] 197 [.int y0, .int y1, .ref (a_t 56)] := by
  obtain ⟨hx, hb, hr, hml, hown, htb, hlocks, hA, hAA, hG⟩ := id hC
  have hK := hG.1
  intro t tL x1 x3 y0 y1 res h hk2 H locs ls hP hD hS hl
  rw [Mo_answers_197] at h
  by_cases c63 : (y1 < 0 ∨ 700 ≤ y1.toNatClampNeg)
  · replace h := (if_pos c63).symm.trans h
    cases h
  replace h := (if_neg c63).symm.trans h
  refine va_zast hx hb hK hP hD hS 28 2 rfl rfl c63 d_Mo_answers_197 (fun H locs hP hD hS => ?_)
  obtain ⟨t_62, et_62, h⟩ := letS_el h
  have hP : va_P (gD g) vwCl ((pic_Mo g a_t t_62 tL)) H := by rw [et_62]; exact hP
  have hD : va_D A ((pic_Mo g a_t t_62 tL)) := by rw [et_62]; exact hD
  refine lv_goto (tgt := 237) hx hb d_Mo_answers_198 (by decide) ?_
  exact k_Mo_answers_237 hC _ _ _ _ _ h hk2 _ _ _ hP hD hS (lv_sub hl [0, 1, 2] rfl)
set_option maxHeartbeats 4000000 in
set_option maxRecDepth 100000 in
theorem k_Mo_answers_192 {p : Program} {l : Launch} {e : Env} {s : State} {m : MethodId} {args : Array Value} {below : List Frame} {meth : Method} {c : Code} {g : Gz} {A : Nat → Prop} {F : Nat} {a_t : Nat → Nat} {k2 : StI → StL → Int64 → Int32 → Option (Int32 × StI × StL)} (hC : Cx prog_10_method_72_code 4 (some .boolean) R_Mo p s m args meth c g A A) : ∀ (t : StI) (tL : StL) (x1 : Int64) (x3 : Int32) (y0 : Int32) (res : Int32 × StI × StL), Mo_answers_192 F k2 t tL x1 x3 y0 = some res → (∀ (t : StI) (tL : StL) (x1 : Int64) (x3 : Int32), k2 t tL x1 x3 = some res → Go p l e rm_Mo_answers s m args below meth c g A A 4 (MQ below (EI g ((pic_Mo g a_t res.2.1 res.2.2)) res.1 A) args s 0 0 A) ((pic_Mo g a_t t tL)) [(0, .ref (a_t 0)), (1, .long x1), (3, .int x3)] 2 []) → Go p l e rm_Mo_answers s m args below meth c g A A 4 (MQ below (EI g ((pic_Mo g a_t res.2.1 res.2.2)) res.1 A) args s 0 0 A) ((pic_Mo g a_t t tL)) [(0, .ref (a_t 0)), (1, .long x1), (3, .int x3)] 192 [.int y0, .ref (a_t 56)] := by
  obtain ⟨hx, hb, hr, hml, hown, htb, hlocks, hA, hAA, hG⟩ := id hC
  have hK := hG.1
  intro t tL x1 x3 y0 res h hk2 H locs ls hP hD hS hl
  rw [Mo_answers_192] at h
  refine lv_iconst (v := 1) hx hb d_Mo_answers_192 (by decide) ?_
  refine lv_goto (tgt := 197) hx hb d_Mo_answers_193 (by decide) ?_
  exact k_Mo_answers_197 hC _ _ _ _ _ _ _ h hk2 _ _ _ hP hD hS (lv_sub hl [0, 1, 2] rfl)
set_option maxHeartbeats 4000000 in
set_option maxRecDepth 100000 in
theorem k_Mo_answers_155 {p : Program} {l : Launch} {e : Env} {s : State} {m : MethodId} {args : Array Value} {below : List Frame} {meth : Method} {c : Code} {g : Gz} {A : Nat → Prop} {F : Nat} {a_t : Nat → Nat} {k2 : StI → StL → Int64 → Int32 → Option (Int32 × StI × StL)} (hC : Cx prog_10_method_72_code 4 (some .boolean) R_Mo p s m args meth c g A A) : ∀ (t : StI) (tL : StL) (x1 : Int64) (x3 : Int32) (y0 : Int32) (y1 : Int32) (res : Int32 × StI × StL), Mo_answers_155 F k2 t tL x1 x3 y0 y1 = some res → (∀ (t : StI) (tL : StL) (x1 : Int64) (x3 : Int32), k2 t tL x1 x3 = some res → Go p l e rm_Mo_answers s m args below meth c g A A 4 (MQ below (EI g ((pic_Mo g a_t res.2.1 res.2.2)) res.1 A) args s 0 0 A) ((pic_Mo g a_t t tL)) [(0, .ref (a_t 0)), (1, .long x1), (3, .int x3)] 2 []) → Go p l e rm_Mo_answers s m args below meth c g A A 4 (MQ below (EI g ((pic_Mo g a_t res.2.1 res.2.2)) res.1 A) args s 0 0 A) ((pic_Mo g a_t t tL)) [(0, .ref (a_t 0)), (1, .long x1), (3, .int x3)] 155 [.int y0, .int y1, .ref (a_t 56)] := by
  obtain ⟨hx, hb, hr, hml, hown, htb, hlocks, hA, hAA, hG⟩ := id hC
  have hK := hG.1
  intro t tL x1 x3 y0 y1 res h hk2 H locs ls hP hD hS hl
  rw [Mo_answers_155] at h
  by_cases c65 : (y1 < 0 ∨ 700 ≤ y1.toNatClampNeg)
  · replace h := (if_pos c65).symm.trans h
    cases h
  replace h := (if_neg c65).symm.trans h
  refine va_zast hx hb hK hP hD hS 28 2 rfl rfl c65 d_Mo_answers_155 (fun H locs hP hD hS => ?_)
  obtain ⟨t_64, et_64, h⟩ := letS_el h
  have hP : va_P (gD g) vwCl ((pic_Mo g a_t t_64 tL)) H := by rw [et_64]; exact hP
  have hD : va_D A ((pic_Mo g a_t t_64 tL)) := by rw [et_64]; exact hD
  refine lv_goto (tgt := 237) hx hb d_Mo_answers_156 (by decide) ?_
  exact k_Mo_answers_237 hC _ _ _ _ _ h hk2 _ _ _ hP hD hS (lv_sub hl [0, 1, 2] rfl)
set_option maxHeartbeats 4000000 in
set_option maxRecDepth 100000 in
theorem k_Mo_answers_154 {p : Program} {l : Launch} {e : Env} {s : State} {m : MethodId} {args : Array Value} {below : List Frame} {meth : Method} {c : Code} {g : Gz} {A : Nat → Prop} {F : Nat} {a_t : Nat → Nat} {k2 : StI → StL → Int64 → Int32 → Option (Int32 × StI × StL)} (hC : Cx prog_10_method_72_code 4 (some .boolean) R_Mo p s m args meth c g A A) : ∀ (t : StI) (tL : StL) (x1 : Int64) (x3 : Int32) (y0 : Int32) (res : Int32 × StI × StL), Mo_answers_154 F k2 t tL x1 x3 y0 = some res → (∀ (t : StI) (tL : StL) (x1 : Int64) (x3 : Int32), k2 t tL x1 x3 = some res → Go p l e rm_Mo_answers s m args below meth c g A A 4 (MQ below (EI g ((pic_Mo g a_t res.2.1 res.2.2)) res.1 A) args s 0 0 A) ((pic_Mo g a_t t tL)) [(0, .ref (a_t 0)), (1, .long x1), (3, .int x3)] 2 []) → Go p l e rm_Mo_answers s m args below meth c g A A 4 (MQ below (EI g ((pic_Mo g a_t res.2.1 res.2.2)) res.1 A) args s 0 0 A) ((pic_Mo g a_t t tL)) [(0, .ref (a_t 0)), (1, .long x1), (3, .int x3)] 154 [.int y0, .ref (a_t 56)] := by
  obtain ⟨hx, hb, hr, hml, hown, htb, hlocks, hA, hAA, hG⟩ := id hC
  have hK := hG.1
  intro t tL x1 x3 y0 res h hk2 H locs ls hP hD hS hl
  rw [Mo_answers_154] at h
  refine lv_iconst (v := 0) hx hb d_Mo_answers_154 (by decide) ?_
  exact k_Mo_answers_155 hC _ _ _ _ _ _ _ h hk2 _ _ _ hP hD hS (lv_sub hl [0, 1, 2] rfl)
set_option maxHeartbeats 4000000 in
set_option maxRecDepth 100000 in
theorem k_Mo_answers_113 {p : Program} {l : Launch} {e : Env} {s : State} {m : MethodId} {args : Array Value} {below : List Frame} {meth : Method} {c : Code} {g : Gz} {A : Nat → Prop} {F : Nat} {a_t : Nat → Nat} {k2 : StI → StL → Int64 → Int32 → Option (Int32 × StI × StL)} (hC : Cx prog_10_method_72_code 4 (some .boolean) R_Mo p s m args meth c g A A) : ∀ (t : StI) (tL : StL) (x1 : Int64) (x3 : Int32) (y0 : Int32) (y1 : Int32) (res : Int32 × StI × StL), Mo_answers_113 F k2 t tL x1 x3 y0 y1 = some res → (∀ (t : StI) (tL : StL) (x1 : Int64) (x3 : Int32), k2 t tL x1 x3 = some res → Go p l e rm_Mo_answers s m args below meth c g A A 4 (MQ below (EI g ((pic_Mo g a_t res.2.1 res.2.2)) res.1 A) args s 0 0 A) ((pic_Mo g a_t t tL)) [(0, .ref (a_t 0)), (1, .long x1), (3, .int x3)] 2 []) → Go p l e rm_Mo_answers s m args below meth c g A A 4 (MQ below (EI g ((pic_Mo g a_t res.2.1 res.2.2)) res.1 A) args s 0 0 A) ((pic_Mo g a_t t tL)) [(0, .ref (a_t 0)), (1, .long x1), (3, .int x3)] 113 [.int y0, .int y1, .ref (a_t 56)] := by
  obtain ⟨hx, hb, hr, hml, hown, htb, hlocks, hA, hAA, hG⟩ := id hC
  have hK := hG.1
  intro t tL x1 x3 y0 y1 res h hk2 H locs ls hP hD hS hl
  rw [Mo_answers_113] at h
  by_cases c67 : (y1 < 0 ∨ 700 ≤ y1.toNatClampNeg)
  · replace h := (if_pos c67).symm.trans h
    cases h
  replace h := (if_neg c67).symm.trans h
  refine va_zast hx hb hK hP hD hS 28 2 rfl rfl c67 d_Mo_answers_113 (fun H locs hP hD hS => ?_)
  obtain ⟨t_66, et_66, h⟩ := letS_el h
  have hP : va_P (gD g) vwCl ((pic_Mo g a_t t_66 tL)) H := by rw [et_66]; exact hP
  have hD : va_D A ((pic_Mo g a_t t_66 tL)) := by rw [et_66]; exact hD
  refine lv_goto (tgt := 237) hx hb d_Mo_answers_114 (by decide) ?_
  exact k_Mo_answers_237 hC _ _ _ _ _ h hk2 _ _ _ hP hD hS (lv_sub hl [0, 1, 2] rfl)
set_option maxHeartbeats 4000000 in
set_option maxRecDepth 100000 in
theorem k_Mo_answers_85 {p : Program} {l : Launch} {e : Env} {s : State} {m : MethodId} {args : Array Value} {below : List Frame} {meth : Method} {c : Code} {g : Gz} {A : Nat → Prop} {F : Nat} {a_t : Nat → Nat} {k2 : StI → StL → Int64 → Int32 → Option (Int32 × StI × StL)} (hC : Cx prog_10_method_72_code 4 (some .boolean) R_Mo p s m args meth c g A A) : ∀ (t : StI) (tL : StL) (x1 : Int64) (x3 : Int32) (y0 : Int32) (y1 : Int32) (res : Int32 × StI × StL), Mo_answers_85 F k2 t tL x1 x3 y0 y1 = some res → (∀ (t : StI) (tL : StL) (x1 : Int64) (x3 : Int32), k2 t tL x1 x3 = some res → Go p l e rm_Mo_answers s m args below meth c g A A 4 (MQ below (EI g ((pic_Mo g a_t res.2.1 res.2.2)) res.1 A) args s 0 0 A) ((pic_Mo g a_t t tL)) [(0, .ref (a_t 0)), (1, .long x1), (3, .int x3)] 2 []) → Go p l e rm_Mo_answers s m args below meth c g A A 4 (MQ below (EI g ((pic_Mo g a_t res.2.1 res.2.2)) res.1 A) args s 0 0 A) ((pic_Mo g a_t t tL)) [(0, .ref (a_t 0)), (1, .long x1), (3, .int x3)] 85 [.int y0, .int y1, .ref (a_t 56)] := by
  obtain ⟨hx, hb, hr, hml, hown, htb, hlocks, hA, hAA, hG⟩ := id hC
  have hK := hG.1
  intro t tL x1 x3 y0 y1 res h hk2 H locs ls hP hD hS hl
  rw [Mo_answers_85] at h
  by_cases c69 : (y1 < 0 ∨ 700 ≤ y1.toNatClampNeg)
  · replace h := (if_pos c69).symm.trans h
    cases h
  replace h := (if_neg c69).symm.trans h
  refine va_zast hx hb hK hP hD hS 28 2 rfl rfl c69 d_Mo_answers_85 (fun H locs hP hD hS => ?_)
  obtain ⟨t_68, et_68, h⟩ := letS_el h
  have hP : va_P (gD g) vwCl ((pic_Mo g a_t t_68 tL)) H := by rw [et_68]; exact hP
  have hD : va_D A ((pic_Mo g a_t t_68 tL)) := by rw [et_68]; exact hD
  refine lv_goto (tgt := 237) hx hb d_Mo_answers_86 (by decide) ?_
  exact k_Mo_answers_237 hC _ _ _ _ _ h hk2 _ _ _ hP hD hS (lv_sub hl [0, 1, 2] rfl)
set_option maxHeartbeats 4000000 in
set_option maxRecDepth 100000 in
theorem k_Mo_answers_2 {p : Program} {l : Launch} {e : Env} {s : State} {m : MethodId} {args : Array Value} {below : List Frame} {meth : Method} {c : Code} {g : Gz} {A : Nat → Prop} {F : Nat} {a_t : Nat → Nat} (hC : Cx prog_10_method_72_code 4 (some .boolean) R_Mo p s m args meth c g A A) : ∀ (n : Nat) (t : StI) (tL : StL) (x1 : Int64) (x3 : Int32) (res : Int32 × StI × StL), Mo_answers_2 F n t tL x1 x3 = some res → Go p l e rm_Mo_answers s m args below meth c g A A 4 (MQ below (EI g ((pic_Mo g a_t res.2.1 res.2.2)) res.1 A) args s 0 0 A) ((pic_Mo g a_t t tL)) [(0, .ref (a_t 0)), (1, .long x1), (3, .int x3)] 2 [] := by
  obtain ⟨hx, hb, hr, hml, hown, htb, hlocks, hA, hAA, hG⟩ := id hC
  have hK := hG.1
  intro n
  induction n with
  | zero => intro t tL x1 x3 res h; rw [Mo_answers_2] at h; cases h
  | succ n ih =>
    intro t tL x1 x3 res h H locs ls hP hD hS hl
    rw [Mo_answers_2] at h
    refine lv_iload_n hx hb d_Mo_answers_2 rfl (lv_at hl 2 rfl) ?_
    refine lv_aload_n hx hb d_Mo_answers_3 rfl (lv_at hl 0 rfl) ?_
    refine va_get (D := gD g) (ci := 8) (v := .int (t 30 0)) (C := R_Mo) (T := T_Mo) (N := 64) hx hb htb in_Mo hown hK hP 0 rfl rfl 30 (by decide) (htb _ L_Mo_331) (fun _ h9 => h9) rfl d_Mo_answers_4 ?_
    refine lv_icmp_ge (tgt := 243) hx hb d_Mo_answers_7 (by decide) (fun c70 => ?_) (fun c70 => ?_)
    · replace h := (if_pos c70).symm.trans h
      refine lv_aload_n hx hb d_Mo_answers_243 rfl (lv_at hl 0 rfl) ?_
      refine va_get (D := gD g) (ci := 8) (v := .int (t 31 0)) (C := R_Mo) (T := T_Mo) (N := 64) hx hb htb in_Mo hown hK hP 0 rfl rfl 31 (by decide) (htb _ L_Mo_141) (fun _ h9 => h9) rfl d_Mo_answers_244 ?_
      refine lv_iconst (v := -1) hx hb d_Mo_answers_247 (by decide) ?_
      refine lv_icmp_eq (tgt := 263) hx hb d_Mo_answers_248 (by decide) (fun c71 => ?_) (fun c71 => ?_)
      · replace h := (if_pos c71).symm.trans h
        refine lv_iconst (v := 1) hx hb d_Mo_answers_263 (by decide) ?_
        refine lv_goto (tgt := 268) hx hb d_Mo_answers_264 (by decide) ?_
        cases h
        exact W.zret hx hb hr rfl (fun t ht hW => ⟨⟨_, (), rfl, rfl, by rw [ht]; exact hP, hD⟩, hS.F ht⟩) hS.2.2 d_Mo_answers_268
      · replace h := (if_neg c71).symm.trans h
        refine lv_aload_n hx hb d_Mo_answers_251 rfl (lv_at hl 0 rfl) ?_
        refine va_get (D := gD g) (ci := 8) (v := .ref (a_t 56)) (C := R_Mo) (T := T_Mo) (N := 64) hx hb htb in_Mo hown hK hP 0 rfl rfl 55 (by decide) (htb _ L_Mo_126) (fun _ h9 => h9) rfl d_Mo_answers_252 ?_
        refine lv_aload_n hx hb d_Mo_answers_255 rfl (lv_at hl 0 rfl) ?_
        refine va_get (D := gD g) (ci := 8) (v := .int (t 31 0)) (C := R_Mo) (T := T_Mo) (N := 64) hx hb htb in_Mo hown hK hP 0 rfl rfl 31 (by decide) (htb _ L_Mo_141) (fun _ h9 => h9) rfl d_Mo_answers_256 ?_
        by_cases c72 : ((t 31 0) < 0 ∨ 700 ≤ (t 31 0).toNatClampNeg)
        · replace h := (if_pos c72).symm.trans h
          cases h
        replace h := (if_neg c72).symm.trans h
        refine va_zald hx hb hK hP 28 2 rfl rfl c72 d_Mo_answers_259 ?_
        refine lv_if_eq (tgt := 267) hx hb d_Mo_answers_260 (by decide) (fun c73 => ?_) (fun c73 => ?_)
        · replace h := (if_pos c73).symm.trans h
          refine lv_iconst (v := 0) hx hb d_Mo_answers_267 (by decide) ?_
          cases h
          exact W.zret hx hb hr rfl (fun t ht hW => ⟨⟨_, (), rfl, rfl, by rw [ht]; exact hP, hD⟩, hS.F ht⟩) hS.2.2 d_Mo_answers_268
        · replace h := (if_neg c73).symm.trans h
          refine lv_iconst (v := 1) hx hb d_Mo_answers_263 (by decide) ?_
          refine lv_goto (tgt := 268) hx hb d_Mo_answers_264 (by decide) ?_
          cases h
          exact W.zret hx hb hr rfl (fun t ht hW => ⟨⟨_, (), rfl, rfl, by rw [ht]; exact hP, hD⟩, hS.F ht⟩) hS.2.2 d_Mo_answers_268
    · replace h := (if_neg c70).symm.trans h
      refine lv_aload_n hx hb d_Mo_answers_10 rfl (lv_at hl 0 rfl) ?_
      refine va_get (D := gD g) (ci := 8) (v := .ref (a_t 33)) (C := R_Mo) (T := T_Mo) (N := 64) hx hb htb in_Mo hown hK hP 0 rfl rfl 32 (by decide) (htb _ L_Mo_83) (fun _ h9 => h9) rfl d_Mo_answers_11 ?_
      refine lv_iload_n hx hb d_Mo_answers_14 rfl (lv_at hl 2 rfl) ?_
      by_cases c74 : (x3 < 0 ∨ 700 ≤ x3.toNatClampNeg)
      · replace h := (if_pos c74).symm.trans h
        cases h
      replace h := (if_neg c74).symm.trans h
      refine va_iald hx hb hK hP 14 0 rfl rfl c74 d_Mo_answers_15 ?_
      by_cases c75 : ((t 32) x3.toNatClampNeg) = (1 : Int32)
      · replace h := (if_pos c75).symm.trans h
        refine lv_tableIn (off := 143) (tgt := 159) hx hb d_Mo_answers_16 (by rw [c75]; decide) (by rw [c75]; decide) (by rw [c75]; rfl) (by decide) ?_
        refine lv_aload_n hx hb d_Mo_answers_159 rfl (lv_at hl 0 rfl) ?_
        refine va_get (D := gD g) (ci := 8) (v := .ref (a_t 56)) (C := R_Mo) (T := T_Mo) (N := 64) hx hb htb in_Mo hown hK hP 0 rfl rfl 55 (by decide) (htb _ L_Mo_126) (fun _ h9 => h9) rfl d_Mo_answers_160 ?_
        refine lv_iload_n hx hb d_Mo_answers_163 rfl (lv_at hl 2 rfl) ?_
        refine lv_aload_n hx hb d_Mo_answers_164 rfl (lv_at hl 0 rfl) ?_
        refine va_get (D := gD g) (ci := 8) (v := .ref (a_t 56)) (C := R_Mo) (T := T_Mo) (N := 64) hx hb htb in_Mo hown hK hP 0 rfl rfl 55 (by decide) (htb _ L_Mo_126) (fun _ h9 => h9) rfl d_Mo_answers_165 ?_
        refine lv_aload_n hx hb d_Mo_answers_168 rfl (lv_at hl 0 rfl) ?_
        refine va_get (D := gD g) (ci := 8) (v := .ref (a_t 34)) (C := R_Mo) (T := T_Mo) (N := 64) hx hb htb in_Mo hown hK hP 0 rfl rfl 33 (by decide) (htb _ L_Mo_86) (fun _ h9 => h9) rfl d_Mo_answers_169 ?_
        refine lv_iload_n hx hb d_Mo_answers_172 rfl (lv_at hl 2 rfl) ?_
        by_cases c113 : (x3 < 0 ∨ 700 ≤ x3.toNatClampNeg)
        · replace h := (if_pos c113).symm.trans h
          cases h
        replace h := (if_neg c113).symm.trans h
        refine va_iald hx hb hK hP 15 0 rfl rfl c113 d_Mo_answers_173 ?_
        by_cases c114 : (((t 33) x3.toNatClampNeg) < 0 ∨ 700 ≤ ((t 33) x3.toNatClampNeg).toNatClampNeg)
        · replace h := (if_pos c114).symm.trans h
          cases h
        replace h := (if_neg c114).symm.trans h
        refine va_zald hx hb hK hP 28 2 rfl rfl c114 d_Mo_answers_174 ?_
        refine lv_if_ne (tgt := 192) hx hb d_Mo_answers_175 (by decide) (fun c115 => ?_) (fun c115 => ?_)
        · replace h := (if_neg c115).symm.trans h
          exact k_Mo_answers_192 hC _ _ _ _ _ _ h (fun z0 z1 z2 z3 hz => ih z0 z1 z2 z3 _ hz) _ _ _ hP hD hS (lv_sub hl [0, 1, 2] rfl)
        · replace h := (if_pos c115).symm.trans h
          refine lv_aload_n hx hb d_Mo_answers_178 rfl (lv_at hl 0 rfl) ?_
          refine va_get (D := gD g) (ci := 8) (v := .ref (a_t 56)) (C := R_Mo) (T := T_Mo) (N := 64) hx hb htb in_Mo hown hK hP 0 rfl rfl 55 (by decide) (htb _ L_Mo_126) (fun _ h9 => h9) rfl d_Mo_answers_179 ?_
          refine lv_aload_n hx hb d_Mo_answers_182 rfl (lv_at hl 0 rfl) ?_
          refine va_get (D := gD g) (ci := 8) (v := .ref (a_t 35)) (C := R_Mo) (T := T_Mo) (N := 64) hx hb htb in_Mo hown hK hP 0 rfl rfl 34 (by decide) (htb _ L_Mo_89) (fun _ h9 => h9) rfl d_Mo_answers_183 ?_
          refine lv_iload_n hx hb d_Mo_answers_186 rfl (lv_at hl 2 rfl) ?_
          by_cases c116 : (x3 < 0 ∨ 700 ≤ x3.toNatClampNeg)
          · replace h := (if_pos c116).symm.trans h
            cases h
          replace h := (if_neg c116).symm.trans h
          refine va_iald hx hb hK hP 16 0 rfl rfl c116 d_Mo_answers_187 ?_
          by_cases c117 : (((t 34) x3.toNatClampNeg) < 0 ∨ 700 ≤ ((t 34) x3.toNatClampNeg).toNatClampNeg)
          · replace h := (if_pos c117).symm.trans h
            cases h
          replace h := (if_neg c117).symm.trans h
          refine va_zald hx hb hK hP 28 2 rfl rfl c117 d_Mo_answers_188 ?_
          refine lv_if_eq (tgt := 196) hx hb d_Mo_answers_189 (by decide) (fun c118 => ?_) (fun c118 => ?_)
          · replace h := (if_pos c118).symm.trans h
            refine lv_iconst (v := 0) hx hb d_Mo_answers_196 (by decide) ?_
            exact k_Mo_answers_197 hC _ _ _ _ _ _ _ h (fun z0 z1 z2 z3 hz => ih z0 z1 z2 z3 _ hz) _ _ _ hP hD hS (lv_sub hl [0, 1, 2] rfl)
          · replace h := (if_neg c118).symm.trans h
            exact k_Mo_answers_192 hC _ _ _ _ _ _ h (fun z0 z1 z2 z3 hz => ih z0 z1 z2 z3 _ hz) _ _ _ hP hD hS (lv_sub hl [0, 1, 2] rfl)
      replace h := (if_neg c75).symm.trans h
      by_cases c76 : ((t 32) x3.toNatClampNeg) = (2 : Int32)
      · replace h := (if_pos c76).symm.trans h
        refine lv_tableIn (off := 185) (tgt := 201) hx hb d_Mo_answers_16 (by rw [c76]; decide) (by rw [c76]; decide) (by rw [c76]; rfl) (by decide) ?_
        refine lv_aload_n hx hb d_Mo_answers_201 rfl (lv_at hl 0 rfl) ?_
        refine va_get (D := gD g) (ci := 8) (v := .ref (a_t 56)) (C := R_Mo) (T := T_Mo) (N := 64) hx hb htb in_Mo hown hK hP 0 rfl rfl 55 (by decide) (htb _ L_Mo_126) (fun _ h9 => h9) rfl d_Mo_answers_202 ?_
        refine lv_iload_n hx hb d_Mo_answers_205 rfl (lv_at hl 2 rfl) ?_
        refine lv_aload_n hx hb d_Mo_answers_206 rfl (lv_at hl 0 rfl) ?_
        refine va_get (D := gD g) (ci := 8) (v := .ref (a_t 56)) (C := R_Mo) (T := T_Mo) (N := 64) hx hb htb in_Mo hown hK hP 0 rfl rfl 55 (by decide) (htb _ L_Mo_126) (fun _ h9 => h9) rfl d_Mo_answers_207 ?_
        refine lv_aload_n hx hb d_Mo_answers_210 rfl (lv_at hl 0 rfl) ?_
        refine va_get (D := gD g) (ci := 8) (v := .ref (a_t 34)) (C := R_Mo) (T := T_Mo) (N := 64) hx hb htb in_Mo hown hK hP 0 rfl rfl 33 (by decide) (htb _ L_Mo_86) (fun _ h9 => h9) rfl d_Mo_answers_211 ?_
        refine lv_iload_n hx hb d_Mo_answers_214 rfl (lv_at hl 2 rfl) ?_
        by_cases c108 : (x3 < 0 ∨ 700 ≤ x3.toNatClampNeg)
        · replace h := (if_pos c108).symm.trans h
          cases h
        replace h := (if_neg c108).symm.trans h
        refine va_iald hx hb hK hP 15 0 rfl rfl c108 d_Mo_answers_215 ?_
        by_cases c109 : (((t 33) x3.toNatClampNeg) < 0 ∨ 700 ≤ ((t 33) x3.toNatClampNeg).toNatClampNeg)
        · replace h := (if_pos c109).symm.trans h
          cases h
        replace h := (if_neg c109).symm.trans h
        refine va_zald hx hb hK hP 28 2 rfl rfl c109 d_Mo_answers_216 ?_
        refine lv_aload_n hx hb d_Mo_answers_217 rfl (lv_at hl 0 rfl) ?_
        refine va_get (D := gD g) (ci := 8) (v := .ref (a_t 56)) (C := R_Mo) (T := T_Mo) (N := 64) hx hb htb in_Mo hown hK hP 0 rfl rfl 55 (by decide) (htb _ L_Mo_126) (fun _ h9 => h9) rfl d_Mo_answers_218 ?_
        refine lv_aload_n hx hb d_Mo_answers_221 rfl (lv_at hl 0 rfl) ?_
        refine va_get (D := gD g) (ci := 8) (v := .ref (a_t 35)) (C := R_Mo) (T := T_Mo) (N := 64) hx hb htb in_Mo hown hK hP 0 rfl rfl 34 (by decide) (htb _ L_Mo_89) (fun _ h9 => h9) rfl d_Mo_answers_222 ?_
        refine lv_iload_n hx hb d_Mo_answers_225 rfl (lv_at hl 2 rfl) ?_
        by_cases c110 : (x3 < 0 ∨ 700 ≤ x3.toNatClampNeg)
        · replace h := (if_pos c110).symm.trans h
          cases h
        replace h := (if_neg c110).symm.trans h
        refine va_iald hx hb hK hP 16 0 rfl rfl c110 d_Mo_answers_226 ?_
        by_cases c111 : (((t 34) x3.toNatClampNeg) < 0 ∨ 700 ≤ ((t 34) x3.toNatClampNeg).toNatClampNeg)
        · replace h := (if_pos c111).symm.trans h
          cases h
        replace h := (if_neg c111).symm.trans h
        refine va_zald hx hb hK hP 28 2 rfl rfl c111 d_Mo_answers_227 ?_
        refine lv_icmp_eq (tgt := 235) hx hb d_Mo_answers_228 (by decide) (fun c112 => ?_) (fun c112 => ?_)
        · replace h := (if_pos c112).symm.trans h
          refine lv_iconst (v := 0) hx hb d_Mo_answers_235 (by decide) ?_
          exact k_Mo_answers_236 hC _ _ _ _ _ _ _ h (fun z0 z1 z2 z3 hz => ih z0 z1 z2 z3 _ hz) _ _ _ hP hD hS (lv_sub hl [0, 1, 2] rfl)
        · replace h := (if_neg c112).symm.trans h
          refine lv_iconst (v := 1) hx hb d_Mo_answers_231 (by decide) ?_
          refine lv_goto (tgt := 236) hx hb d_Mo_answers_232 (by decide) ?_
          exact k_Mo_answers_236 hC _ _ _ _ _ _ _ h (fun z0 z1 z2 z3 hz => ih z0 z1 z2 z3 _ hz) _ _ _ hP hD hS (lv_sub hl [0, 1, 2] rfl)
      replace h := (if_neg c76).symm.trans h
      by_cases c77 : ((t 32) x3.toNatClampNeg) = (3 : Int32)
      · replace h := (if_pos c77).symm.trans h
        refine lv_tableIn (off := 101) (tgt := 117) hx hb d_Mo_answers_16 (by rw [c77]; decide) (by rw [c77]; decide) (by rw [c77]; rfl) (by decide) ?_
        refine lv_aload_n hx hb d_Mo_answers_117 rfl (lv_at hl 0 rfl) ?_
        refine va_get (D := gD g) (ci := 8) (v := .ref (a_t 56)) (C := R_Mo) (T := T_Mo) (N := 64) hx hb htb in_Mo hown hK hP 0 rfl rfl 55 (by decide) (htb _ L_Mo_126) (fun _ h9 => h9) rfl d_Mo_answers_118 ?_
        refine lv_iload_n hx hb d_Mo_answers_121 rfl (lv_at hl 2 rfl) ?_
        refine lv_aload_n hx hb d_Mo_answers_122 rfl (lv_at hl 0 rfl) ?_
        refine va_get (D := gD g) (ci := 8) (v := .ref (a_t 56)) (C := R_Mo) (T := T_Mo) (N := 64) hx hb htb in_Mo hown hK hP 0 rfl rfl 55 (by decide) (htb _ L_Mo_126) (fun _ h9 => h9) rfl d_Mo_answers_123 ?_
        refine lv_aload_n hx hb d_Mo_answers_126 rfl (lv_at hl 0 rfl) ?_
        refine va_get (D := gD g) (ci := 8) (v := .ref (a_t 34)) (C := R_Mo) (T := T_Mo) (N := 64) hx hb htb in_Mo hown hK hP 0 rfl rfl 33 (by decide) (htb _ L_Mo_86) (fun _ h9 => h9) rfl d_Mo_answers_127 ?_
        refine lv_iload_n hx hb d_Mo_answers_130 rfl (lv_at hl 2 rfl) ?_
        by_cases c102 : (x3 < 0 ∨ 700 ≤ x3.toNatClampNeg)
        · replace h := (if_pos c102).symm.trans h
          cases h
        replace h := (if_neg c102).symm.trans h
        refine va_iald hx hb hK hP 15 0 rfl rfl c102 d_Mo_answers_131 ?_
        by_cases c103 : (((t 33) x3.toNatClampNeg) < 0 ∨ 700 ≤ ((t 33) x3.toNatClampNeg).toNatClampNeg)
        · replace h := (if_pos c103).symm.trans h
          cases h
        replace h := (if_neg c103).symm.trans h
        refine va_zald hx hb hK hP 28 2 rfl rfl c103 d_Mo_answers_132 ?_
        refine lv_if_eq (tgt := 154) hx hb d_Mo_answers_133 (by decide) (fun c104 => ?_) (fun c104 => ?_)
        · replace h := (if_pos c104).symm.trans h
          exact k_Mo_answers_154 hC _ _ _ _ _ _ h (fun z0 z1 z2 z3 hz => ih z0 z1 z2 z3 _ hz) _ _ _ hP hD hS (lv_sub hl [0, 1, 2] rfl)
        · replace h := (if_neg c104).symm.trans h
          refine lv_aload_n hx hb d_Mo_answers_136 rfl (lv_at hl 0 rfl) ?_
          refine va_get (D := gD g) (ci := 8) (v := .ref (a_t 56)) (C := R_Mo) (T := T_Mo) (N := 64) hx hb htb in_Mo hown hK hP 0 rfl rfl 55 (by decide) (htb _ L_Mo_126) (fun _ h9 => h9) rfl d_Mo_answers_137 ?_
          refine lv_aload_n hx hb d_Mo_answers_140 rfl (lv_at hl 0 rfl) ?_
          refine va_get (D := gD g) (ci := 8) (v := .ref (a_t 35)) (C := R_Mo) (T := T_Mo) (N := 64) hx hb htb in_Mo hown hK hP 0 rfl rfl 34 (by decide) (htb _ L_Mo_89) (fun _ h9 => h9) rfl d_Mo_answers_141 ?_
          refine lv_iload_n hx hb d_Mo_answers_144 rfl (lv_at hl 2 rfl) ?_
          by_cases c105 : (x3 < 0 ∨ 700 ≤ x3.toNatClampNeg)
          · replace h := (if_pos c105).symm.trans h
            cases h
          replace h := (if_neg c105).symm.trans h
          refine va_iald hx hb hK hP 16 0 rfl rfl c105 d_Mo_answers_145 ?_
          by_cases c106 : (((t 34) x3.toNatClampNeg) < 0 ∨ 700 ≤ ((t 34) x3.toNatClampNeg).toNatClampNeg)
          · replace h := (if_pos c106).symm.trans h
            cases h
          replace h := (if_neg c106).symm.trans h
          refine va_zald hx hb hK hP 28 2 rfl rfl c106 d_Mo_answers_146 ?_
          refine lv_if_eq (tgt := 154) hx hb d_Mo_answers_147 (by decide) (fun c107 => ?_) (fun c107 => ?_)
          · replace h := (if_pos c107).symm.trans h
            exact k_Mo_answers_154 hC _ _ _ _ _ _ h (fun z0 z1 z2 z3 hz => ih z0 z1 z2 z3 _ hz) _ _ _ hP hD hS (lv_sub hl [0, 1, 2] rfl)
          · replace h := (if_neg c107).symm.trans h
            refine lv_iconst (v := 1) hx hb d_Mo_answers_150 (by decide) ?_
            refine lv_goto (tgt := 155) hx hb d_Mo_answers_151 (by decide) ?_
            exact k_Mo_answers_155 hC _ _ _ _ _ _ _ h (fun z0 z1 z2 z3 hz => ih z0 z1 z2 z3 _ hz) _ _ _ hP hD hS (lv_sub hl [0, 1, 2] rfl)
      replace h := (if_neg c77).symm.trans h
      by_cases c78 : ((t 32) x3.toNatClampNeg) = (4 : Int32)
      · replace h := (if_pos c78).symm.trans h
        refine lv_tableIn (off := 73) (tgt := 89) hx hb d_Mo_answers_16 (by rw [c78]; decide) (by rw [c78]; decide) (by rw [c78]; rfl) (by decide) ?_
        refine lv_aload_n hx hb d_Mo_answers_89 rfl (lv_at hl 0 rfl) ?_
        refine va_get (D := gD g) (ci := 8) (v := .ref (a_t 56)) (C := R_Mo) (T := T_Mo) (N := 64) hx hb htb in_Mo hown hK hP 0 rfl rfl 55 (by decide) (htb _ L_Mo_126) (fun _ h9 => h9) rfl d_Mo_answers_90 ?_
        refine lv_iload_n hx hb d_Mo_answers_93 rfl (lv_at hl 2 rfl) ?_
        refine lv_aload_n hx hb d_Mo_answers_94 rfl (lv_at hl 0 rfl) ?_
        refine va_get (D := gD g) (ci := 8) (v := .ref (a_t 56)) (C := R_Mo) (T := T_Mo) (N := 64) hx hb htb in_Mo hown hK hP 0 rfl rfl 55 (by decide) (htb _ L_Mo_126) (fun _ h9 => h9) rfl d_Mo_answers_95 ?_
        refine lv_aload_n hx hb d_Mo_answers_98 rfl (lv_at hl 0 rfl) ?_
        refine va_get (D := gD g) (ci := 8) (v := .ref (a_t 34)) (C := R_Mo) (T := T_Mo) (N := 64) hx hb htb in_Mo hown hK hP 0 rfl rfl 33 (by decide) (htb _ L_Mo_86) (fun _ h9 => h9) rfl d_Mo_answers_99 ?_
        refine lv_iload_n hx hb d_Mo_answers_102 rfl (lv_at hl 2 rfl) ?_
        by_cases c99 : (x3 < 0 ∨ 700 ≤ x3.toNatClampNeg)
        · replace h := (if_pos c99).symm.trans h
          cases h
        replace h := (if_neg c99).symm.trans h
        refine va_iald hx hb hK hP 15 0 rfl rfl c99 d_Mo_answers_103 ?_
        by_cases c100 : (((t 33) x3.toNatClampNeg) < 0 ∨ 700 ≤ ((t 33) x3.toNatClampNeg).toNatClampNeg)
        · replace h := (if_pos c100).symm.trans h
          cases h
        replace h := (if_neg c100).symm.trans h
        refine va_zald hx hb hK hP 28 2 rfl rfl c100 d_Mo_answers_104 ?_
        refine lv_if_ne (tgt := 112) hx hb d_Mo_answers_105 (by decide) (fun c101 => ?_) (fun c101 => ?_)
        · replace h := (if_neg c101).symm.trans h
          refine lv_iconst (v := 0) hx hb d_Mo_answers_112 (by decide) ?_
          exact k_Mo_answers_113 hC _ _ _ _ _ _ _ h (fun z0 z1 z2 z3 hz => ih z0 z1 z2 z3 _ hz) _ _ _ hP hD hS (lv_sub hl [0, 1, 2] rfl)
        · replace h := (if_pos c101).symm.trans h
          refine lv_iconst (v := 1) hx hb d_Mo_answers_108 (by decide) ?_
          refine lv_goto (tgt := 113) hx hb d_Mo_answers_109 (by decide) ?_
          exact k_Mo_answers_113 hC _ _ _ _ _ _ _ h (fun z0 z1 z2 z3 hz => ih z0 z1 z2 z3 _ hz) _ _ _ hP hD hS (lv_sub hl [0, 1, 2] rfl)
      replace h := (if_neg c78).symm.trans h
      by_cases c79 : ((t 32) x3.toNatClampNeg) = (5 : Int32)
      · replace h := (if_pos c79).symm.trans h
        refine lv_tableIn (off := 185) (tgt := 201) hx hb d_Mo_answers_16 (by rw [c79]; decide) (by rw [c79]; decide) (by rw [c79]; rfl) (by decide) ?_
        refine lv_aload_n hx hb d_Mo_answers_201 rfl (lv_at hl 0 rfl) ?_
        refine va_get (D := gD g) (ci := 8) (v := .ref (a_t 56)) (C := R_Mo) (T := T_Mo) (N := 64) hx hb htb in_Mo hown hK hP 0 rfl rfl 55 (by decide) (htb _ L_Mo_126) (fun _ h9 => h9) rfl d_Mo_answers_202 ?_
        refine lv_iload_n hx hb d_Mo_answers_205 rfl (lv_at hl 2 rfl) ?_
        refine lv_aload_n hx hb d_Mo_answers_206 rfl (lv_at hl 0 rfl) ?_
        refine va_get (D := gD g) (ci := 8) (v := .ref (a_t 56)) (C := R_Mo) (T := T_Mo) (N := 64) hx hb htb in_Mo hown hK hP 0 rfl rfl 55 (by decide) (htb _ L_Mo_126) (fun _ h9 => h9) rfl d_Mo_answers_207 ?_
        refine lv_aload_n hx hb d_Mo_answers_210 rfl (lv_at hl 0 rfl) ?_
        refine va_get (D := gD g) (ci := 8) (v := .ref (a_t 34)) (C := R_Mo) (T := T_Mo) (N := 64) hx hb htb in_Mo hown hK hP 0 rfl rfl 33 (by decide) (htb _ L_Mo_86) (fun _ h9 => h9) rfl d_Mo_answers_211 ?_
        refine lv_iload_n hx hb d_Mo_answers_214 rfl (lv_at hl 2 rfl) ?_
        by_cases c94 : (x3 < 0 ∨ 700 ≤ x3.toNatClampNeg)
        · replace h := (if_pos c94).symm.trans h
          cases h
        replace h := (if_neg c94).symm.trans h
        refine va_iald hx hb hK hP 15 0 rfl rfl c94 d_Mo_answers_215 ?_
        by_cases c95 : (((t 33) x3.toNatClampNeg) < 0 ∨ 700 ≤ ((t 33) x3.toNatClampNeg).toNatClampNeg)
        · replace h := (if_pos c95).symm.trans h
          cases h
        replace h := (if_neg c95).symm.trans h
        refine va_zald hx hb hK hP 28 2 rfl rfl c95 d_Mo_answers_216 ?_
        refine lv_aload_n hx hb d_Mo_answers_217 rfl (lv_at hl 0 rfl) ?_
        refine va_get (D := gD g) (ci := 8) (v := .ref (a_t 56)) (C := R_Mo) (T := T_Mo) (N := 64) hx hb htb in_Mo hown hK hP 0 rfl rfl 55 (by decide) (htb _ L_Mo_126) (fun _ h9 => h9) rfl d_Mo_answers_218 ?_
        refine lv_aload_n hx hb d_Mo_answers_221 rfl (lv_at hl 0 rfl) ?_
        refine va_get (D := gD g) (ci := 8) (v := .ref (a_t 35)) (C := R_Mo) (T := T_Mo) (N := 64) hx hb htb in_Mo hown hK hP 0 rfl rfl 34 (by decide) (htb _ L_Mo_89) (fun _ h9 => h9) rfl d_Mo_answers_222 ?_
        refine lv_iload_n hx hb d_Mo_answers_225 rfl (lv_at hl 2 rfl) ?_
        by_cases c96 : (x3 < 0 ∨ 700 ≤ x3.toNatClampNeg)
        · replace h := (if_pos c96).symm.trans h
          cases h
        replace h := (if_neg c96).symm.trans h
        refine va_iald hx hb hK hP 16 0 rfl rfl c96 d_Mo_answers_226 ?_
        by_cases c97 : (((t 34) x3.toNatClampNeg) < 0 ∨ 700 ≤ ((t 34) x3.toNatClampNeg).toNatClampNeg)
        · replace h := (if_pos c97).symm.trans h
          cases h
        replace h := (if_neg c97).symm.trans h
        refine va_zald hx hb hK hP 28 2 rfl rfl c97 d_Mo_answers_227 ?_
        refine lv_icmp_eq (tgt := 235) hx hb d_Mo_answers_228 (by decide) (fun c98 => ?_) (fun c98 => ?_)
        · replace h := (if_pos c98).symm.trans h
          refine lv_iconst (v := 0) hx hb d_Mo_answers_235 (by decide) ?_
          exact k_Mo_answers_236 hC _ _ _ _ _ _ _ h (fun z0 z1 z2 z3 hz => ih z0 z1 z2 z3 _ hz) _ _ _ hP hD hS (lv_sub hl [0, 1, 2] rfl)
        · replace h := (if_neg c98).symm.trans h
          refine lv_iconst (v := 1) hx hb d_Mo_answers_231 (by decide) ?_
          refine lv_goto (tgt := 236) hx hb d_Mo_answers_232 (by decide) ?_
          exact k_Mo_answers_236 hC _ _ _ _ _ _ _ h (fun z0 z1 z2 z3 hz => ih z0 z1 z2 z3 _ hz) _ _ _ hP hD hS (lv_sub hl [0, 1, 2] rfl)
      replace h := (if_neg c79).symm.trans h
      by_cases c80 : ((t 32) x3.toNatClampNeg) = (6 : Int32)
      · replace h := (if_pos c80).symm.trans h
        refine lv_tableIn (off := 185) (tgt := 201) hx hb d_Mo_answers_16 (by rw [c80]; decide) (by rw [c80]; decide) (by rw [c80]; rfl) (by decide) ?_
        refine lv_aload_n hx hb d_Mo_answers_201 rfl (lv_at hl 0 rfl) ?_
        refine va_get (D := gD g) (ci := 8) (v := .ref (a_t 56)) (C := R_Mo) (T := T_Mo) (N := 64) hx hb htb in_Mo hown hK hP 0 rfl rfl 55 (by decide) (htb _ L_Mo_126) (fun _ h9 => h9) rfl d_Mo_answers_202 ?_
        refine lv_iload_n hx hb d_Mo_answers_205 rfl (lv_at hl 2 rfl) ?_
        refine lv_aload_n hx hb d_Mo_answers_206 rfl (lv_at hl 0 rfl) ?_
        refine va_get (D := gD g) (ci := 8) (v := .ref (a_t 56)) (C := R_Mo) (T := T_Mo) (N := 64) hx hb htb in_Mo hown hK hP 0 rfl rfl 55 (by decide) (htb _ L_Mo_126) (fun _ h9 => h9) rfl d_Mo_answers_207 ?_
        refine lv_aload_n hx hb d_Mo_answers_210 rfl (lv_at hl 0 rfl) ?_
        refine va_get (D := gD g) (ci := 8) (v := .ref (a_t 34)) (C := R_Mo) (T := T_Mo) (N := 64) hx hb htb in_Mo hown hK hP 0 rfl rfl 33 (by decide) (htb _ L_Mo_86) (fun _ h9 => h9) rfl d_Mo_answers_211 ?_
        refine lv_iload_n hx hb d_Mo_answers_214 rfl (lv_at hl 2 rfl) ?_
        by_cases c89 : (x3 < 0 ∨ 700 ≤ x3.toNatClampNeg)
        · replace h := (if_pos c89).symm.trans h
          cases h
        replace h := (if_neg c89).symm.trans h
        refine va_iald hx hb hK hP 15 0 rfl rfl c89 d_Mo_answers_215 ?_
        by_cases c90 : (((t 33) x3.toNatClampNeg) < 0 ∨ 700 ≤ ((t 33) x3.toNatClampNeg).toNatClampNeg)
        · replace h := (if_pos c90).symm.trans h
          cases h
        replace h := (if_neg c90).symm.trans h
        refine va_zald hx hb hK hP 28 2 rfl rfl c90 d_Mo_answers_216 ?_
        refine lv_aload_n hx hb d_Mo_answers_217 rfl (lv_at hl 0 rfl) ?_
        refine va_get (D := gD g) (ci := 8) (v := .ref (a_t 56)) (C := R_Mo) (T := T_Mo) (N := 64) hx hb htb in_Mo hown hK hP 0 rfl rfl 55 (by decide) (htb _ L_Mo_126) (fun _ h9 => h9) rfl d_Mo_answers_218 ?_
        refine lv_aload_n hx hb d_Mo_answers_221 rfl (lv_at hl 0 rfl) ?_
        refine va_get (D := gD g) (ci := 8) (v := .ref (a_t 35)) (C := R_Mo) (T := T_Mo) (N := 64) hx hb htb in_Mo hown hK hP 0 rfl rfl 34 (by decide) (htb _ L_Mo_89) (fun _ h9 => h9) rfl d_Mo_answers_222 ?_
        refine lv_iload_n hx hb d_Mo_answers_225 rfl (lv_at hl 2 rfl) ?_
        by_cases c91 : (x3 < 0 ∨ 700 ≤ x3.toNatClampNeg)
        · replace h := (if_pos c91).symm.trans h
          cases h
        replace h := (if_neg c91).symm.trans h
        refine va_iald hx hb hK hP 16 0 rfl rfl c91 d_Mo_answers_226 ?_
        by_cases c92 : (((t 34) x3.toNatClampNeg) < 0 ∨ 700 ≤ ((t 34) x3.toNatClampNeg).toNatClampNeg)
        · replace h := (if_pos c92).symm.trans h
          cases h
        replace h := (if_neg c92).symm.trans h
        refine va_zald hx hb hK hP 28 2 rfl rfl c92 d_Mo_answers_227 ?_
        refine lv_icmp_eq (tgt := 235) hx hb d_Mo_answers_228 (by decide) (fun c93 => ?_) (fun c93 => ?_)
        · replace h := (if_pos c93).symm.trans h
          refine lv_iconst (v := 0) hx hb d_Mo_answers_235 (by decide) ?_
          exact k_Mo_answers_236 hC _ _ _ _ _ _ _ h (fun z0 z1 z2 z3 hz => ih z0 z1 z2 z3 _ hz) _ _ _ hP hD hS (lv_sub hl [0, 1, 2] rfl)
        · replace h := (if_neg c93).symm.trans h
          refine lv_iconst (v := 1) hx hb d_Mo_answers_231 (by decide) ?_
          refine lv_goto (tgt := 236) hx hb d_Mo_answers_232 (by decide) ?_
          exact k_Mo_answers_236 hC _ _ _ _ _ _ _ h (fun z0 z1 z2 z3 hz => ih z0 z1 z2 z3 _ hz) _ _ _ hP hD hS (lv_sub hl [0, 1, 2] rfl)
      replace h := (if_neg c80).symm.trans h
      by_cases c81 : ((t 32) x3.toNatClampNeg) = (7 : Int32)
      · replace h := (if_pos c81).symm.trans h
        refine lv_tableIn (off := 44) (tgt := 60) hx hb d_Mo_answers_16 (by rw [c81]; decide) (by rw [c81]; decide) (by rw [c81]; rfl) (by decide) ?_
        refine lv_aload_n hx hb d_Mo_answers_60 rfl (lv_at hl 0 rfl) ?_
        refine va_get (D := gD g) (ci := 8) (v := .ref (a_t 56)) (C := R_Mo) (T := T_Mo) (N := 64) hx hb htb in_Mo hown hK hP 0 rfl rfl 55 (by decide) (htb _ L_Mo_126) (fun _ h9 => h9) rfl d_Mo_answers_61 ?_
        refine lv_iload_n hx hb d_Mo_answers_64 rfl (lv_at hl 2 rfl) ?_
        refine lv_lload_n hx hb d_Mo_answers_65 rfl (lv_at hl 1 rfl) ?_
        refine lv_aload_n hx hb d_Mo_answers_66 rfl (lv_at hl 0 rfl) ?_
        refine va_get (D := gD g) (ci := 8) (v := .ref (a_t 34)) (C := R_Mo) (T := T_Mo) (N := 64) hx hb htb in_Mo hown hK hP 0 rfl rfl 33 (by decide) (htb _ L_Mo_86) (fun _ h9 => h9) rfl d_Mo_answers_67 ?_
        refine lv_iload_n hx hb d_Mo_answers_70 rfl (lv_at hl 2 rfl) ?_
        by_cases c87 : (x3 < 0 ∨ 700 ≤ x3.toNatClampNeg)
        · replace h := (if_pos c87).symm.trans h
          cases h
        replace h := (if_neg c87).symm.trans h
        refine va_iald hx hb hK hP 15 0 rfl rfl c87 d_Mo_answers_71 ?_
        refine lv_lshr hx hb d_Mo_answers_72 rfl ?_
        refine lv_lconst (v := 1) hx hb d_Mo_answers_73 (by decide) ?_
        refine lv_land hx hb d_Mo_answers_74 ?_
        refine lv_lconst (v := 1) hx hb d_Mo_answers_75 (by decide) ?_
        refine W.lcmp hx hb d_Mo_answers_76 ?_
        refine lv_if_ne (tgt := 84) hx hb d_Mo_answers_77 (by decide) (fun c88 => ?_) (fun c88 => ?_)
        · replace h := (if_neg c88).symm.trans h
          refine lv_iconst (v := 0) hx hb d_Mo_answers_84 (by decide) ?_
          exact k_Mo_answers_85 hC _ _ _ _ _ _ _ h (fun z0 z1 z2 z3 hz => ih z0 z1 z2 z3 _ hz) _ _ _ hP hD hS (lv_sub hl [0, 1, 2] rfl)
        · replace h := (if_pos c88).symm.trans h
          refine lv_iconst (v := 1) hx hb d_Mo_answers_80 (by decide) ?_
          refine lv_goto (tgt := 85) hx hb d_Mo_answers_81 (by decide) ?_
          exact k_Mo_answers_85 hC _ _ _ _ _ _ _ h (fun z0 z1 z2 z3 hz => ih z0 z1 z2 z3 _ hz) _ _ _ hP hD hS (lv_sub hl [0, 1, 2] rfl)
      replace h := (if_neg c81).symm.trans h
      refine lv_tableOut (tgt := 201) hx hb d_Mo_answers_16 (by have z0 := lv_neT (a := 1) c75 (by decide); have z1 := lv_neT (a := 2) c76 (by decide); have z2 := lv_neT (a := 3) c77 (by decide); have z3 := lv_neT (a := 4) c78 (by decide); have z4 := lv_neT (a := 5) c79 (by decide); have z5 := lv_neT (a := 6) c80 (by decide); have z6 := lv_neT (a := 7) c81 (by decide); omega) (by decide) ?_
      refine lv_aload_n hx hb d_Mo_answers_201 rfl (lv_at hl 0 rfl) ?_
      refine va_get (D := gD g) (ci := 8) (v := .ref (a_t 56)) (C := R_Mo) (T := T_Mo) (N := 64) hx hb htb in_Mo hown hK hP 0 rfl rfl 55 (by decide) (htb _ L_Mo_126) (fun _ h9 => h9) rfl d_Mo_answers_202 ?_
      refine lv_iload_n hx hb d_Mo_answers_205 rfl (lv_at hl 2 rfl) ?_
      refine lv_aload_n hx hb d_Mo_answers_206 rfl (lv_at hl 0 rfl) ?_
      refine va_get (D := gD g) (ci := 8) (v := .ref (a_t 56)) (C := R_Mo) (T := T_Mo) (N := 64) hx hb htb in_Mo hown hK hP 0 rfl rfl 55 (by decide) (htb _ L_Mo_126) (fun _ h9 => h9) rfl d_Mo_answers_207 ?_
      refine lv_aload_n hx hb d_Mo_answers_210 rfl (lv_at hl 0 rfl) ?_
      refine va_get (D := gD g) (ci := 8) (v := .ref (a_t 34)) (C := R_Mo) (T := T_Mo) (N := 64) hx hb htb in_Mo hown hK hP 0 rfl rfl 33 (by decide) (htb _ L_Mo_86) (fun _ h9 => h9) rfl d_Mo_answers_211 ?_
      refine lv_iload_n hx hb d_Mo_answers_214 rfl (lv_at hl 2 rfl) ?_
      by_cases c82 : (x3 < 0 ∨ 700 ≤ x3.toNatClampNeg)
      · replace h := (if_pos c82).symm.trans h
        cases h
      replace h := (if_neg c82).symm.trans h
      refine va_iald hx hb hK hP 15 0 rfl rfl c82 d_Mo_answers_215 ?_
      by_cases c83 : (((t 33) x3.toNatClampNeg) < 0 ∨ 700 ≤ ((t 33) x3.toNatClampNeg).toNatClampNeg)
      · replace h := (if_pos c83).symm.trans h
        cases h
      replace h := (if_neg c83).symm.trans h
      refine va_zald hx hb hK hP 28 2 rfl rfl c83 d_Mo_answers_216 ?_
      refine lv_aload_n hx hb d_Mo_answers_217 rfl (lv_at hl 0 rfl) ?_
      refine va_get (D := gD g) (ci := 8) (v := .ref (a_t 56)) (C := R_Mo) (T := T_Mo) (N := 64) hx hb htb in_Mo hown hK hP 0 rfl rfl 55 (by decide) (htb _ L_Mo_126) (fun _ h9 => h9) rfl d_Mo_answers_218 ?_
      refine lv_aload_n hx hb d_Mo_answers_221 rfl (lv_at hl 0 rfl) ?_
      refine va_get (D := gD g) (ci := 8) (v := .ref (a_t 35)) (C := R_Mo) (T := T_Mo) (N := 64) hx hb htb in_Mo hown hK hP 0 rfl rfl 34 (by decide) (htb _ L_Mo_89) (fun _ h9 => h9) rfl d_Mo_answers_222 ?_
      refine lv_iload_n hx hb d_Mo_answers_225 rfl (lv_at hl 2 rfl) ?_
      by_cases c84 : (x3 < 0 ∨ 700 ≤ x3.toNatClampNeg)
      · replace h := (if_pos c84).symm.trans h
        cases h
      replace h := (if_neg c84).symm.trans h
      refine va_iald hx hb hK hP 16 0 rfl rfl c84 d_Mo_answers_226 ?_
      by_cases c85 : (((t 34) x3.toNatClampNeg) < 0 ∨ 700 ≤ ((t 34) x3.toNatClampNeg).toNatClampNeg)
      · replace h := (if_pos c85).symm.trans h
        cases h
      replace h := (if_neg c85).symm.trans h
      refine va_zald hx hb hK hP 28 2 rfl rfl c85 d_Mo_answers_227 ?_
      refine lv_icmp_eq (tgt := 235) hx hb d_Mo_answers_228 (by decide) (fun c86 => ?_) (fun c86 => ?_)
      · replace h := (if_pos c86).symm.trans h
        refine lv_iconst (v := 0) hx hb d_Mo_answers_235 (by decide) ?_
        exact k_Mo_answers_236 hC _ _ _ _ _ _ _ h (fun z0 z1 z2 z3 hz => ih z0 z1 z2 z3 _ hz) _ _ _ hP hD hS (lv_sub hl [0, 1, 2] rfl)
      · replace h := (if_neg c86).symm.trans h
        refine lv_iconst (v := 1) hx hb d_Mo_answers_231 (by decide) ?_
        refine lv_goto (tgt := 236) hx hb d_Mo_answers_232 (by decide) ?_
        exact k_Mo_answers_236 hC _ _ _ _ _ _ _ h (fun z0 z1 z2 z3 hz => ih z0 z1 z2 z3 _ hz) _ _ _ hP hD hS (lv_sub hl [0, 1, 2] rfl)
set_option maxHeartbeats 4000000 in
set_option maxRecDepth 100000 in
theorem k_Mo_answers {p : Program} {l : Launch} {e : Env} {s : State} {m : MethodId} {args : Array Value} {below : List Frame} {meth : Method} {c : Code} {g : Gz} {A : Nat → Prop} {F : Nat} {a_t : Nat → Nat} (hC : Cx prog_10_method_72_code 4 (some .boolean) R_Mo p s m args meth c g A A) : ∀ (t : StI) (tL : StL) (x1 : Int64) (res : Int32 × StI × StL), Mo_answers F t tL x1 = some res → Go p l e rm_Mo_answers s m args below meth c g A A 4 (MQ below (EI g ((pic_Mo g a_t res.2.1 res.2.2)) res.1 A) args s 0 0 A) ((pic_Mo g a_t t tL)) [(0, .ref (a_t 0)), (1, .long x1)] 0 [] := by
  obtain ⟨hx, hb, hr, hml, hown, htb, hlocks, hA, hAA, hG⟩ := id hC
  have hK := hG.1
  intro t tL x1 res h H locs ls hP hD hS hl
  rw [Mo_answers] at h
  refine lv_iconst (v := 0) hx hb d_Mo_answers_0 (by decide) ?_
  refine lv_istore_n (lv' := [(3, .int (0 : Int32)), (0, .ref (a_t 0)), (1, .long x1)]) hx hb d_Mo_answers_1 rfl hl (by decide) rfl (fun ls hl => ?_)
  exact k_Mo_answers_2 hC F _ _ _ _ _ h _ _ _ hP hD hS (lv_sub hl [1, 2, 0] rfl)
theorem c_Mo_answers (l : Launch) (g : Gz) (F : Nat) (a_t : Nat → Nat) (t : StI) (tL : StL) (x1 : Int64) (res : Int32 × StI × StL) (h : Mo_answers F t tL x1 = some res) : ∀ sz : Nat, Met l y_Mo_answers (.code y_Mo_answers prog_10_method_72_code 4 (some .boolean) :: TBL) rm_Mo_answers (va_Pc [.ref (a_t 0), .long x1] (Pre0 g ((pic_Mo g a_t t tL)) sz)) (EI g ((pic_Mo g a_t res.2.1 res.2.2)) res.1 (va_A ((pic_Mo g a_t t tL)) sz)) 0 0 (va_A ((pic_Mo g a_t t tL)) sz) :=
  ct_w (Qc := fun A => EI g ((pic_Mo g a_t res.2.1 res.2.2)) res.1 A) (by decide) (Nat.le_of_ble_eq_true rfl) (fun p e s m args below meth c A hC => k_Mo_answers hC t tL x1 res h)
def Mo_ask (F : Nat) (t : StI) (tL : StL) (x1 : Int64) : Option (Int32 × StI × StL) := letS (va_up t 0 (fun _ => (0 : Int32))) fun t_4 => (Mo_answers F t_4 tL x1).bind fun r5 => if r5.1 = 0 ∨ r5.1 = 1 then some (r5.1, r5.2.1, r5.2.2) else none
set_option maxHeartbeats 4000000 in
set_option maxRecDepth 100000 in
theorem k_Mo_ask {p : Program} {l : Launch} {e : Env} {s : State} {m : MethodId} {args : Array Value} {below : List Frame} {meth : Method} {c : Code} {g : Gz} {A : Nat → Prop} {F : Nat} {a_t : Nat → Nat} (hC : Cx prog_10_method_73_code 3 (some .boolean) R_Mo p s m args meth c g A A) : ∀ (t : StI) (tL : StL) (x1 : Int64) (res : Int32 × StI × StL), Mo_ask F t tL x1 = some res → Go p l e rm_Mo_ask s m args below meth c g A A 3 (MQ below (EI g ((pic_Mo g a_t res.2.1 res.2.2)) res.1 A) args s 0 0 A) ((pic_Mo g a_t t tL)) [(0, .ref (a_t 0)), (1, .long x1)] 0 [] := by
  obtain ⟨hx, hb, hr, hml, hown, htb, hlocks, hA, hAA, hG⟩ := id hC
  have hK := hG.1
  intro t tL x1 res h H locs ls hP hD hS hl
  rw [Mo_ask] at h
  refine lv_aload_n hx hb d_Mo_ask_0 rfl (lv_at hl 0 rfl) ?_
  refine lv_iconst (v := 0) hx hb d_Mo_ask_1 (by decide) ?_
  refine va_put (D := gD g) (ci := 8) (v := .int (0 : Int32)) (ty := .int) (C := R_Mo) (T := T_Mo) (N := 64) hx hb htb in_Mo ty_Mo ty_Mo_ok nm_Mo hown hK hP hD hS 0 rfl rfl 0 (by decide) (htb _ L_Mo_144) (fun _ h9 => h9) rfl (by decide +kernel) rfl rfl (Nat.le_of_ble_eq_true rfl) d_Mo_ask_2 (fun H locs hP hD hS => ?_)
  obtain ⟨t_4, et_4, h⟩ := letS_el h
  have hP : va_P (gD g) vwCl ((pic_Mo g a_t t_4 tL)) H := by rw [et_4]; exact hP
  have hD : va_D A ((pic_Mo g a_t t_4 tL)) := by rw [et_4]; exact hD
  refine lv_aload_n hx hb d_Mo_ask_5 rfl (lv_at hl 0 rfl) ?_
  refine lv_lload_n hx hb d_Mo_ask_6 rfl (lv_at hl 1 rfl) ?_
  obtain ⟨r5, hr5, h⟩ := Option.bind_eq_some_iff.mp h
  refine cl_I (wr := []) [0, 1, 2, 3, 4, 5, 6, 7, 8, 9, 10, 11, 12, 13, 14, 15, 16, 17, 18, 19, 20, 21, 22, 23, 24, 25, 26, 27, 28, 29, 30, 31, 32] [] rfl rfl rfl (by decide) hP hD hS hA (va_runV (As := [.long x1]) (rest := []) ⟨hx, hb, hml, hown, htb⟩ (c_Mo_answers l g F a_t t_4 tL x1 _ hr5 H.size) (cw_V htb mb_Mo_answers (htb _ L_Mo_451) rfl rfl ⟨Nat.le_of_ble_eq_true rfl, Nat.le_of_ble_eq_true rfl⟩) (pre_V (va_recv hK hP (ci := 8) (q0 := 0) rfl rfl) (pre_S [0, 1, 2, 3, 4, 5, 6, 7, 8, 9, 10, 11, 12, 13, 14, 15, 16, 17, 18, 19, 20, 21, 22, 23, 24, 25, 26, 27, 28, 29, 30, 31, 32] rfl rfl hP hD hS hA hAA hG)) rfl rfl hl.1 rfl (lv_room (Nat.le_of_ble_eq_true rfl)) d_Mo_ask_7 ⟨Nat.zero_le _, Nat.zero_le _⟩) (fun H locs hP hD hS => ?_)
  have hP : va_P (gD g) vwCl ((pic_Mo g a_t r5.2.1 r5.2.2)) H := hP.sub [0, 1, 2, 3, 4, 5, 6, 7, 8, 9, 10, 11, 12, 13, 14, 15, 16, 17, 18, 19, 20, 21, 22, 23, 24, 25, 26, 27, 28, 29, 30, 31, 32] rfl
  have hD : va_D A ((pic_Mo g a_t r5.2.1 r5.2.2)) := hD.sub [0, 1, 2, 3, 4, 5, 6, 7, 8, 9, 10, 11, 12, 13, 14, 15, 16, 17, 18, 19, 20, 21, 22, 23, 24, 25, 26, 27, 28, 29, 30, 31, 32] rfl rfl
  by_cases c6 : (r5.1 = 0 ∨ r5.1 = 1)
  rotate_left
  · replace h := (if_neg c6).symm.trans h
    cases h
  replace h := (if_pos c6).symm.trans h
  cases h
  exact W.zret hx hb hr (by rcases c6 with c6 | c6 <;> rw [c6] <;> rfl) (fun t ht hW => ⟨⟨_, (), rfl, rfl, by rw [ht]; exact hP, hD⟩, hS.F ht⟩) hS.2.2 d_Mo_ask_10
theorem c_Mo_ask (l : Launch) (g : Gz) (F : Nat) (a_t : Nat → Nat) (t : StI) (tL : StL) (x1 : Int64) (res : Int32 × StI × StL) (h : Mo_ask F t tL x1 = some res) : ∀ sz : Nat, Met l y_Mo_ask (.code y_Mo_ask prog_10_method_73_code 3 (some .boolean) :: TBL) rm_Mo_ask (va_Pc [.ref (a_t 0), .long x1] (Pre0 g ((pic_Mo g a_t t tL)) sz)) (EI g ((pic_Mo g a_t res.2.1 res.2.2)) res.1 (va_A ((pic_Mo g a_t t tL)) sz)) 0 0 (va_A ((pic_Mo g a_t t tL)) sz) :=
  ct_w (Qc := fun A => EI g ((pic_Mo g a_t res.2.1 res.2.2)) res.1 A) (by decide) (Nat.le_of_ble_eq_true rfl) (fun p e s m args below meth c A hC => k_Mo_ask hC t tL x1 res h)
