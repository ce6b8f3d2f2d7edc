set_option maxRecDepth 100000 in
theorem W_Mo_range_code : (Jvm.Cond.code ({ cls := "MailQueriesModel", name := "range", desc := "(II)I" } : Jvm.MethodName) prog_10_method_50_code (3 : Nat) (Option.some Jvm.ClassFile.FieldType.int)) ∈ TBL := TBL_in (List.mem_of_getElem? (i := 1361) rfl) rfl
theorem W_Mo_range_in : (Jvm.Cond.instanceMethod ({ cls := "MailQueriesModel", name := "range", desc := "(II)I" } : Jvm.MethodName)) ∈ TBL := TBL_in (List.mem_of_getElem? (i := 1359) (by decide +kernel)) (by decide +kernel)
theorem W_Mo_range_se : (Jvm.Cond.selects "MailQueriesModel" ({ cls := "MailQueriesModel", name := "range", desc := "(II)I" } : Jvm.MethodName) ({ cls := "MailQueriesModel", name := "range", desc := "(II)I" } : Jvm.MethodName)) ∈ TBL := TBL_in (List.mem_of_getElem? (i := 1360) (by decide +kernel)) (by decide +kernel)
theorem L_Mo_98 : (Jvm.Cond.fieldLink "MailQueriesModel" (98 : Nat) "MailQueriesModel" "task" "[I") ∈ TBL := TBL_in (List.mem_of_getElem? (i := 1008) (by decide +kernel)) (by decide +kernel)
theorem L_Mo_380 : (Jvm.Cond.fieldLink "MailQueriesModel" (380 : Nat) "MailQueriesModel" "todo" "I") ∈ TBL := TBL_in (List.mem_of_getElem? (i := 1007) (by decide +kernel)) (by decide +kernel)
theorem L_Mo_101 : (Jvm.Cond.fieldLink "MailQueriesModel" (101 : Nat) "MailQueriesModel" "with" "[I") ∈ TBL := TBL_in (List.mem_of_getElem? (i := 1009) (by decide +kernel)) (by decide +kernel)
theorem L_Mo_104 : (Jvm.Cond.fieldLink "MailQueriesModel" (104 : Nat) "MailQueriesModel" "more" "[I") ∈ TBL := TBL_in (List.mem_of_getElem? (i := 1010) (by decide +kernel)) (by decide +kernel)
set_option maxRecDepth 100000 in
theorem W_Mo_plan_code : (Jvm.Cond.code ({ cls := "MailQueriesModel", name := "plan", desc := "(III)V" } : Jvm.MethodName) prog_10_method_51_code (4 : Nat) (Option.none : Option Jvm.ClassFile.FieldType)) ∈ TBL := TBL_in (List.mem_of_getElem? (i := 1373) rfl) rfl
theorem W_Mo_plan_in : (Jvm.Cond.instanceMethod ({ cls := "MailQueriesModel", name := "plan", desc := "(III)V" } : Jvm.MethodName)) ∈ TBL := TBL_in (List.mem_of_getElem? (i := 1372) (by decide +kernel)) (by decide +kernel)
theorem sel_84 : Cond.selects "MailQueriesModel" ⟨"MailQueriesModel", "plan", "(III)V"⟩ ⟨"MailQueriesModel", "plan", "(III)V"⟩ ∈ TBL := TBL_in (List.mem_of_getElem? (i := 84) (by decide +kernel)) (by decide +kernel)
theorem L_Mo_383 : (Jvm.Cond.fieldLink "MailQueriesModel" (383 : Nat) "MailQueriesModel" "told" "I") ∈ TBL := TBL_in (List.mem_of_getElem? (i := 1011) (by decide +kernel)) (by decide +kernel)
theorem L_Mo_386 : (Jvm.Cond.methodLink "MailQueriesModel" (386 : Nat) ({ cls := "MailQueriesModel", name := "plan", desc := "(III)V" } : Jvm.MethodName)) ∈ TBL := TBL_in (List.mem_of_getElem? (i := 1370) (by decide +kernel)) (by decide +kernel)
theorem L_Mo_107 : (Jvm.Cond.fieldLink "MailQueriesModel" (107 : Nat) "MailQueriesModel" "tree" "[I") ∈ TBL := TBL_in (List.mem_of_getElem? (i := 1012) (by decide +kernel)) (by decide +kernel)
set_option maxRecDepth 100000 in
theorem W_Mo_flatten_code : (Jvm.Cond.code ({ cls := "MailQueriesModel", name := "flatten", desc := "()V" } : Jvm.MethodName) prog_10_method_52_code (2 : Nat) (Option.none : Option Jvm.ClassFile.FieldType)) ∈ TBL := TBL_in (List.mem_of_getElem? (i := 1369) rfl) rfl
theorem W_Mo_flatten_in : (Jvm.Cond.instanceMethod ({ cls := "MailQueriesModel", name := "flatten", desc := "()V" } : Jvm.MethodName)) ∈ TBL := TBL_in (List.mem_of_getElem? (i := 1368) (by decide +kernel)) (by decide +kernel)
theorem sel_83 : Cond.selects "MailQueriesModel" ⟨"MailQueriesModel", "flatten", "()V"⟩ ⟨"MailQueriesModel", "flatten", "()V"⟩ ∈ TBL := TBL_in (List.mem_of_getElem? (i := 83) (by decide +kernel)) (by decide +kernel)
theorem L_Mo_390 : (Jvm.Cond.methodLink "MailQueriesModel" (390 : Nat) ({ cls := "MailQueriesModel", name := "flatten", desc := "()V" } : Jvm.MethodName)) ∈ TBL := TBL_in (List.mem_of_getElem? (i := 1366) (by decide +kernel)) (by decide +kernel)
set_option maxRecDepth 100000 in
theorem W_Mo_tree_code : (Jvm.Cond.code ({ cls := "MailQueriesModel", name := "tree", desc := "(I)I" } : Jvm.MethodName) prog_10_method_53_code (2 : Nat) (Option.some Jvm.ClassFile.FieldType.int)) ∈ TBL := TBL_in (List.mem_of_getElem? (i := 1365) rfl) rfl
theorem W_Mo_tree_in : (Jvm.Cond.instanceMethod ({ cls := "MailQueriesModel", name := "tree", desc := "(I)I" } : Jvm.MethodName)) ∈ TBL := TBL_in (List.mem_of_getElem? (i := 1363) (by decide +kernel)) (by decide +kernel)
theorem W_Mo_tree_se : (Jvm.Cond.selects "MailQueriesModel" ({ cls := "MailQueriesModel", name := "tree", desc := "(I)I" } : Jvm.MethodName) ({ cls := "MailQueriesModel", name := "tree", desc := "(I)I" } : Jvm.MethodName)) ∈ TBL := TBL_in (List.mem_of_getElem? (i := 1364) (by decide +kernel)) (by decide +kernel)
theorem L_Mo_110 : (Jvm.Cond.fieldLink "MailQueriesModel" (110 : Nat) "MailQueriesModel" "print" "[B") ∈ TBL := TBL_in (List.mem_of_getElem? (i := 1014) (by decide +kernel)) (by decide +kernel)
theorem L_Mo_393 : (Jvm.Cond.fieldLink "MailQueriesModel" (393 : Nat) "MailQueriesModel" "printed" "I") ∈ TBL := TBL_in (List.mem_of_getElem? (i := 1013) (by decide +kernel)) (by decide +kernel)
set_option maxRecDepth 100000 in
theorem W_Mo_put_code : (Jvm.Cond.code ({ cls := "MailQueriesModel", name := "put", desc := "(I)V" } : Jvm.MethodName) prog_10_method_54_code (2 : Nat) (Option.none : Option Jvm.ClassFile.FieldType)) ∈ TBL := TBL_in (List.mem_of_getElem? (i := 1393) rfl) rfl
theorem W_Mo_put_in : (Jvm.Cond.instanceMethod ({ cls := "MailQueriesModel", name := "put", desc := "(I)V" } : Jvm.MethodName)) ∈ TBL := TBL_in (List.mem_of_getElem? (i := 1392) (by decide +kernel)) (by decide +kernel)
theorem sel_88 : Cond.selects "MailQueriesModel" ⟨"MailQueriesModel", "put", "(I)V"⟩ ⟨"MailQueriesModel", "put", "(I)V"⟩ ∈ TBL := TBL_in (List.mem_of_getElem? (i := 88) (by decide +kernel)) (by decide +kernel)
theorem L_Mo_396 : (Jvm.Cond.methodLink "MailQueriesModel" (396 : Nat) ({ cls := "MailQueriesModel", name := "put", desc := "(I)V" } : Jvm.MethodName)) ∈ TBL := TBL_in (List.mem_of_getElem? (i := 1390) (by decide +kernel)) (by decide +kernel)
set_option maxRecDepth 100000 in
theorem W_Mo_space_code : (Jvm.Cond.code ({ cls := "MailQueriesModel", name := "space", desc := "()V" } : Jvm.MethodName) prog_10_method_55_code (1 : Nat) (Option.none : Option Jvm.ClassFile.FieldType)) ∈ TBL := TBL_in (List.mem_of_getElem? (i := 1389) rfl) rfl
theorem W_Mo_space_in : (Jvm.Cond.instanceMethod ({ cls := "MailQueriesModel", name := "space", desc := "()V" } : Jvm.MethodName)) ∈ TBL := TBL_in (List.mem_of_getElem? (i := 1388) (by decide +kernel)) (by decide +kernel)
theorem sel_87 : Cond.selects "MailQueriesModel" ⟨"MailQueriesModel", "space", "()V"⟩ ⟨"MailQueriesModel", "space", "()V"⟩ ∈ TBL := TBL_in (List.mem_of_getElem? (i := 87) (by decide +kernel)) (by decide +kernel)
set_option maxRecDepth 100000 in
theorem W_Mo_putLetters_code : (Jvm.Cond.code ({ cls := "MailQueriesModel", name := "putLetters", desc := "(J)V" } : Jvm.MethodName) prog_10_method_56_code (5 : Nat) (Option.none : Option Jvm.ClassFile.FieldType)) ∈ TBL := TBL_in (List.mem_of_getElem? (i := 1397) rfl) rfl
theorem W_Mo_putLetters_in : (Jvm.Cond.instanceMethod ({ cls := "MailQueriesModel", name := "putLetters", desc := "(J)V" } : Jvm.MethodName)) ∈ TBL := TBL_in (List.mem_of_getElem? (i := 1396) (by decide +kernel)) (by decide +kernel)
theorem sel_89 : Cond.selects "MailQueriesModel" ⟨"MailQueriesModel", "putLetters", "(J)V"⟩ ⟨"MailQueriesModel", "putLetters", "(J)V"⟩ ∈ TBL := TBL_in (List.mem_of_getElem? (i := 89) (by decide +kernel)) (by decide +kernel)
theorem L_Mo_399 : (Jvm.Cond.methodLink "MailQueriesModel" (399 : Nat) ({ cls := "MailQueriesModel", name := "space", desc := "()V" } : Jvm.MethodName)) ∈ TBL := TBL_in (List.mem_of_getElem? (i := 1386) (by decide +kernel)) (by decide +kernel)
theorem L_Mo_402 : (Jvm.Cond.methodLink "MailQueriesModel" (402 : Nat) ({ cls := "MailQueriesModel", name := "putLetters", desc := "(J)V" } : Jvm.MethodName)) ∈ TBL := TBL_in (List.mem_of_getElem? (i := 1394) (by decide +kernel)) (by decide +kernel)
set_option maxRecDepth 100000 in
theorem W_Mo_putAtom_code : (Jvm.Cond.code ({ cls := "MailQueriesModel", name := "putAtom", desc := "(I)V" } : Jvm.MethodName) prog_10_method_57_code (3 : Nat) (Option.none : Option Jvm.ClassFile.FieldType)) ∈ TBL := TBL_in (List.mem_of_getElem? (i := 1385) rfl) rfl
theorem W_Mo_putAtom_in : (Jvm.Cond.instanceMethod ({ cls := "MailQueriesModel", name := "putAtom", desc := "(I)V" } : Jvm.MethodName)) ∈ TBL := TBL_in (List.mem_of_getElem? (i := 1384) (by decide +kernel)) (by decide +kernel)
theorem sel_86 : Cond.selects "MailQueriesModel" ⟨"MailQueriesModel", "putAtom", "(I)V"⟩ ⟨"MailQueriesModel", "putAtom", "(I)V"⟩ ∈ TBL := TBL_in (List.mem_of_getElem? (i := 86) (by decide +kernel)) (by decide +kernel)
def y_Mo_range : MethodName := ⟨"MailQueriesModel", "range", "(II)I"⟩
def rm_Mo_range : Room := { frames := 0, cells := 0, slots := 0, locals := 0 }
theorem d_Mo_range_0 : decode prog_10_method_50_code 0 = .ok (.aload_n 0, 1) := by decide +kernel
theorem d_Mo_range_1 : decode prog_10_method_50_code 1 = .ok (.iconst 0, 1) := by decide +kernel
theorem d_Mo_range_2 : decode prog_10_method_50_code 2 = .ok (.putfield 144, 3) := by decide +kernel
theorem d_Mo_range_5 : decode prog_10_method_50_code 5 = .ok (.iload_n 1, 1) := by decide +kernel
theorem d_Mo_range_6 : decode prog_10_method_50_code 6 = .ok (.ifCond .lt 22, 3) := by decide +kernel
theorem d_Mo_range_9 : decode prog_10_method_50_code 9 = .ok (.iload_n 1, 1) := by decide +kernel
theorem d_Mo_range_10 : decode prog_10_method_50_code 10 = .ok (.aload_n 0, 1) := by decide +kernel
theorem d_Mo_range_11 : decode prog_10_method_50_code 11 = .ok (.getfield 302, 3) := by decide +kernel
theorem d_Mo_range_14 : decode prog_10_method_50_code 14 = .ok (.if_icmp .ge 14, 3) := by decide +kernel
theorem d_Mo_range_17 : decode prog_10_method_50_code 17 = .ok (.aload_n 0, 1) := by decide +kernel
theorem d_Mo_range_18 : decode prog_10_method_50_code 18 = .ok (.getfield 57, 3) := by decide +kernel
theorem d_Mo_range_21 : decode prog_10_method_50_code 21 = .ok (.iload_n 1, 1) := by decide +kernel
theorem d_Mo_range_22 : decode prog_10_method_50_code 22 = .ok (.iaload, 1) := by decide +kernel
theorem d_Mo_range_23 : decode prog_10_method_50_code 23 = .ok (.bipush 11, 2) := by decide +kernel
theorem d_Mo_range_25 : decode prog_10_method_50_code 25 = .ok (.if_icmp .ge 5, 3) := by decide +kernel
theorem d_Mo_range_28 : decode prog_10_method_50_code 28 = .ok (.iconst 0, 1) := by decide +kernel
theorem d_Mo_range_29 : decode prog_10_method_50_code 29 = .ok (.ireturn, 1) := by decide +kernel
theorem d_Mo_range_30 : decode prog_10_method_50_code 30 = .ok (.iload_n 2, 1) := by decide +kernel
theorem d_Mo_range_31 : decode prog_10_method_50_code 31 = .ok (.ifCond .ne 12, 3) := by decide +kernel
theorem d_Mo_range_34 : decode prog_10_method_50_code 34 = .ok (.aload_n 0, 1) := by decide +kernel
theorem d_Mo_range_35 : decode prog_10_method_50_code 35 = .ok (.getfield 73, 3) := by decide +kernel
theorem d_Mo_range_38 : decode prog_10_method_50_code 38 = .ok (.iload_n 1, 1) := by decide +kernel
theorem d_Mo_range_39 : decode prog_10_method_50_code 39 = .ok (.iaload, 1) := by decide +kernel
theorem d_Mo_range_40 : decode prog_10_method_50_code 40 = .ok (.goto 18, 3) := by decide +kernel
theorem d_Mo_range_43 : decode prog_10_method_50_code 43 = .ok (.iload_n 2, 1) := by decide +kernel
theorem d_Mo_range_44 : decode prog_10_method_50_code 44 = .ok (.iconst 1, 1) := by decide +kernel
theorem d_Mo_range_45 : decode prog_10_method_50_code 45 = .ok (.if_icmp .ne 12, 3) := by decide +kernel
theorem d_Mo_range_48 : decode prog_10_method_50_code 48 = .ok (.aload_n 0, 1) := by decide +kernel
theorem d_Mo_range_49 : decode prog_10_method_50_code 49 = .ok (.getfield 76, 3) := by decide +kernel
theorem d_Mo_range_52 : decode prog_10_method_50_code 52 = .ok (.iload_n 1, 1) := by decide +kernel
theorem d_Mo_range_53 : decode prog_10_method_50_code 53 = .ok (.iaload, 1) := by decide +kernel
theorem d_Mo_range_54 : decode prog_10_method_50_code 54 = .ok (.goto 4, 3) := by decide +kernel
theorem d_Mo_range_57 : decode prog_10_method_50_code 57 = .ok (.iconst 0, 1) := by decide +kernel
theorem d_Mo_range_58 : decode prog_10_method_50_code 58 = .ok (.ireturn, 1) := by decide +kernel
def y_Mo_plan : MethodName := ⟨"MailQueriesModel", "plan", "(III)V"⟩
def rm_Mo_plan : Room := { frames := 0, cells := 0, slots := 0, locals := 0 }
theorem d_Mo_plan_0 : decode prog_10_method_51_code 0 = .ok (.aload_n 0, 1) := by decide +kernel
theorem d_Mo_plan_1 : decode prog_10_method_51_code 1 = .ok (.getfield 98, 3) := by decide +kernel
theorem d_Mo_plan_4 : decode prog_10_method_51_code 4 = .ok (.aload_n 0, 1) := by decide +kernel
theorem d_Mo_plan_5 : decode prog_10_method_51_code 5 = .ok (.getfield 380, 3) := by decide +kernel
theorem d_Mo_plan_8 : decode prog_10_method_51_code 8 = .ok (.iload_n 1, 1) := by decide +kernel
theorem d_Mo_plan_9 : decode prog_10_method_51_code 9 = .ok (.iastore, 1) := by decide +kernel
theorem d_Mo_plan_10 : decode prog_10_method_51_code 10 = .ok (.aload_n 0, 1) := by decide +kernel
theorem d_Mo_plan_11 : decode prog_10_method_51_code 11 = .ok (.getfield 101, 3) := by decide +kernel
theorem d_Mo_plan_14 : decode prog_10_method_51_code 14 = .ok (.aload_n 0, 1) := by decide +kernel
theorem d_Mo_plan_15 : decode prog_10_method_51_code 15 = .ok (.getfield 380, 3) := by decide +kernel
theorem d_Mo_plan_18 : decode prog_10_method_51_code 18 = .ok (.iload_n 2, 1) := by decide +kernel
theorem d_Mo_plan_19 : decode prog_10_method_51_code 19 = .ok (.iastore, 1) := by decide +kernel
theorem d_Mo_plan_20 : decode prog_10_method_51_code 20 = .ok (.aload_n 0, 1) := by decide +kernel
theorem d_Mo_plan_21 : decode prog_10_method_51_code 21 = .ok (.getfield 104, 3) := by decide +kernel
theorem d_Mo_plan_24 : decode prog_10_method_51_code 24 = .ok (.aload_n 0, 1) := by decide +kernel
theorem d_Mo_plan_25 : decode prog_10_method_51_code 25 = .ok (.getfield 380, 3) := by decide +kernel
theorem d_Mo_plan_28 : decode prog_10_method_51_code 28 = .ok (.iload_n 3, 1) := by decide +kernel
theorem d_Mo_plan_29 : decode prog_10_method_51_code 29 = .ok (.iastore, 1) := by decide +kernel
theorem d_Mo_plan_30 : decode prog_10_method_51_code 30 = .ok (.aload_n 0, 1) := by decide +kernel
theorem d_Mo_plan_31 : decode prog_10_method_51_code 31 = .ok (.dup, 1) := by decide +kernel
theorem d_Mo_plan_32 : decode prog_10_method_51_code 32 = .ok (.getfield 380, 3) := by decide +kernel
theorem d_Mo_plan_35 : decode prog_10_method_51_code 35 = .ok (.iconst 1, 1) := by decide +kernel
theorem d_Mo_plan_36 : decode prog_10_method_51_code 36 = .ok (.iadd, 1) := by decide +kernel
theorem d_Mo_plan_37 : decode prog_10_method_51_code 37 = .ok (.putfield 380, 3) := by decide +kernel
theorem d_Mo_plan_40 : decode prog_10_method_51_code 40 = .ok (.return_, 1) := by decide +kernel
def y_Mo_flatten : MethodName := ⟨"MailQueriesModel", "flatten", "()V"⟩
def rm_Mo_flatten : Room := { frames := 1, cells := 0, slots := 0, locals := 23 }
theorem d_Mo_flatten_0 : decode prog_10_method_52_code 0 = .ok (.aload_n 0, 1) := by decide +kernel
theorem d_Mo_flatten_1 : decode prog_10_method_52_code 1 = .ok (.iconst 0, 1) := by decide +kernel
theorem d_Mo_flatten_2 : decode prog_10_method_52_code 2 = .ok (.putfield 383, 3) := by decide +kernel
theorem d_Mo_flatten_5 : decode prog_10_method_52_code 5 = .ok (.aload_n 0, 1) := by decide +kernel
theorem d_Mo_flatten_6 : decode prog_10_method_52_code 6 = .ok (.iconst 0, 1) := by decide +kernel
theorem d_Mo_flatten_7 : decode prog_10_method_52_code 7 = .ok (.putfield 380, 3) := by decide +kernel
theorem d_Mo_flatten_10 : decode prog_10_method_52_code 10 = .ok (.aload_n 0, 1) := by decide +kernel
theorem d_Mo_flatten_11 : decode prog_10_method_52_code 11 = .ok (.getfield 141, 3) := by decide +kernel
theorem d_Mo_flatten_14 : decode prog_10_method_52_code 14 = .ok (.iconst (-1), 1) := by decide +kernel
theorem d_Mo_flatten_15 : decode prog_10_method_52_code 15 = .ok (.if_icmp .eq 13, 3) := by decide +kernel
theorem d_Mo_flatten_18 : decode prog_10_method_52_code 18 = .ok (.aload_n 0, 1) := by decide +kernel
theorem d_Mo_flatten_19 : decode prog_10_method_52_code 19 = .ok (.iconst 0, 1) := by decide +kernel
theorem d_Mo_flatten_20 : decode prog_10_method_52_code 20 = .ok (.aload_n 0, 1) := by decide +kernel
theorem d_Mo_flatten_21 : decode prog_10_method_52_code 21 = .ok (.getfield 141, 3) := by decide +kernel
theorem d_Mo_flatten_24 : decode prog_10_method_52_code 24 = .ok (.iconst 0, 1) := by decide +kernel
theorem d_Mo_flatten_25 : decode prog_10_method_52_code 25 = .ok (.invokevirtual 386, 3) := by decide +kernel
theorem d_Mo_flatten_28 : decode prog_10_method_52_code 28 = .ok (.aload_n 0, 1) := by decide +kernel
theorem d_Mo_flatten_29 : decode prog_10_method_52_code 29 = .ok (.getfield 380, 3) := by decide +kernel
theorem d_Mo_flatten_32 : decode prog_10_method_52_code 32 = .ok (.ifCond .le 155, 3) := by decide +kernel
theorem d_Mo_flatten_35 : decode prog_10_method_52_code 35 = .ok (.aload_n 0, 1) := by decide +kernel
theorem d_Mo_flatten_36 : decode prog_10_method_52_code 36 = .ok (.dup, 1) := by decide +kernel
theorem d_Mo_flatten_37 : decode prog_10_method_52_code 37 = .ok (.getfield 380, 3) := by decide +kernel
theorem d_Mo_flatten_40 : decode prog_10_method_52_code 40 = .ok (.iconst 1, 1) := by decide +kernel
theorem d_Mo_flatten_41 : decode prog_10_method_52_code 41 = .ok (.isub, 1) := by decide +kernel
theorem d_Mo_flatten_42 : decode prog_10_method_52_code 42 = .ok (.putfield 380, 3) := by decide +kernel
theorem d_Mo_flatten_45 : decode prog_10_method_52_code 45 = .ok (.aload_n 0, 1) := by decide +kernel
theorem d_Mo_flatten_46 : decode prog_10_method_52_code 46 = .ok (.getfield 101, 3) := by decide +kernel
theorem d_Mo_flatten_49 : decode prog_10_method_52_code 49 = .ok (.aload_n 0, 1) := by decide +kernel
theorem d_Mo_flatten_50 : decode prog_10_method_52_code 50 = .ok (.getfield 380, 3) := by decide +kernel
theorem d_Mo_flatten_53 : decode prog_10_method_52_code 53 = .ok (.iaload, 1) := by decide +kernel
theorem d_Mo_flatten_54 : decode prog_10_method_52_code 54 = .ok (.istore_n 1, 1) := by decide +kernel
theorem d_Mo_flatten_55 : decode prog_10_method_52_code 55 = .ok (.aload_n 0, 1) := by decide +kernel
theorem d_Mo_flatten_56 : decode prog_10_method_52_code 56 = .ok (.getfield 83, 3) := by decide +kernel
theorem d_Mo_flatten_59 : decode prog_10_method_52_code 59 = .ok (.iload_n 1, 1) := by decide +kernel
theorem d_Mo_flatten_60 : decode prog_10_method_52_code 60 = .ok (.iaload, 1) := by decide +kernel
theorem d_Mo_flatten_61 : decode prog_10_method_52_code 61 = .ok (.bipush 7, 2) := by decide +kernel
theorem d_Mo_flatten_63 : decode prog_10_method_52_code 63 = .ok (.if_icmp .ne 21, 3) := by decide +kernel
theorem d_Mo_flatten_66 : decode prog_10_method_52_code 66 = .ok (.aload_n 0, 1) := by decide +kernel
theorem d_Mo_flatten_67 : decode prog_10_method_52_code 67 = .ok (.getfield 107, 3) := by decide +kernel
theorem d_Mo_flatten_70 : decode prog_10_method_52_code 70 = .ok (.aload_n 0, 1) := by decide +kernel
theorem d_Mo_flatten_71 : decode prog_10_method_52_code 71 = .ok (.getfield 383, 3) := by decide +kernel
theorem d_Mo_flatten_74 : decode prog_10_method_52_code 74 = .ok (.aload_n 0, 1) := by decide +kernel
theorem d_Mo_flatten_75 : decode prog_10_method_52_code 75 = .ok (.getfield 86, 3) := by decide +kernel
theorem d_Mo_flatten_78 : decode prog_10_method_52_code 78 = .ok (.iload_n 1, 1) := by decide +kernel
theorem d_Mo_flatten_79 : decode prog_10_method_52_code 79 = .ok (.iaload, 1) := by decide +kernel
theorem d_Mo_flatten_80 : decode prog_10_method_52_code 80 = .ok (.iastore, 1) := by decide +kernel
theorem d_Mo_flatten_81 : decode prog_10_method_52_code 81 = .ok (.goto 93, 3) := by decide +kernel
theorem d_Mo_flatten_84 : decode prog_10_method_52_code 84 = .ok (.aload_n 0, 1) := by decide +kernel
theorem d_Mo_flatten_85 : decode prog_10_method_52_code 85 = .ok (.getfield 107, 3) := by decide +kernel
theorem d_Mo_flatten_88 : decode prog_10_method_52_code 88 = .ok (.aload_n 0, 1) := by decide +kernel
theorem d_Mo_flatten_89 : decode prog_10_method_52_code 89 = .ok (.getfield 383, 3) := by decide +kernel
theorem d_Mo_flatten_92 : decode prog_10_method_52_code 92 = .ok (.aload_n 0, 1) := by decide +kernel
theorem d_Mo_flatten_93 : decode prog_10_method_52_code 93 = .ok (.getfield 83, 3) := by decide +kernel
theorem d_Mo_flatten_96 : decode prog_10_method_52_code 96 = .ok (.iload_n 1, 1) := by decide +kernel
theorem d_Mo_flatten_97 : decode prog_10_method_52_code 97 = .ok (.iaload, 1) := by decide +kernel
theorem d_Mo_flatten_98 : decode prog_10_method_52_code 98 = .ok (.iconst 4, 1) := by decide +kernel
theorem d_Mo_flatten_99 : decode prog_10_method_52_code 99 = .ok (.if_icmp .ne 8, 3) := by decide +kernel
theorem d_Mo_flatten_102 : decode prog_10_method_52_code 102 = .ok (.bipush (-2), 2) := by decide +kernel
theorem d_Mo_flatten_104 : decode prog_10_method_52_code 104 = .ok (.goto 35, 3) := by decide +kernel
theorem d_Mo_flatten_107 : decode prog_10_method_52_code 107 = .ok (.aload_n 0, 1) := by decide +kernel
theorem d_Mo_flatten_108 : decode prog_10_method_52_code 108 = .ok (.getfield 83, 3) := by decide +kernel
theorem d_Mo_flatten_111 : decode prog_10_method_52_code 111 = .ok (.iload_n 1, 1) := by decide +kernel
theorem d_Mo_flatten_112 : decode prog_10_method_52_code 112 = .ok (.iaload, 1) := by decide +kernel
theorem d_Mo_flatten_113 : decode prog_10_method_52_code 113 = .ok (.iconst 3, 1) := by decide +kernel
theorem d_Mo_flatten_114 : decode prog_10_method_52_code 114 = .ok (.if_icmp .ne 8, 3) := by decide +kernel
theorem d_Mo_flatten_117 : decode prog_10_method_52_code 117 = .ok (.bipush (-3), 2) := by decide +kernel
theorem d_Mo_flatten_119 : decode prog_10_method_52_code 119 = .ok (.goto 20, 3) := by decide +kernel
theorem d_Mo_flatten_122 : decode prog_10_method_52_code 122 = .ok (.aload_n 0, 1) := by decide +kernel
theorem d_Mo_flatten_123 : decode prog_10_method_52_code 123 = .ok (.getfield 83, 3) := by decide +kernel
theorem d_Mo_flatten_126 : decode prog_10_method_52_code 126 = .ok (.iload_n 1, 1) := by decide +kernel
theorem d_Mo_flatten_127 : decode prog_10_method_52_code 127 = .ok (.iaload, 1) := by decide +kernel
theorem d_Mo_flatten_128 : decode prog_10_method_52_code 128 = .ok (.iconst 1, 1) := by decide +kernel
theorem d_Mo_flatten_129 : decode prog_10_method_52_code 129 = .ok (.if_icmp .ne 8, 3) := by decide +kernel
theorem d_Mo_flatten_132 : decode prog_10_method_52_code 132 = .ok (.bipush (-4), 2) := by decide +kernel
theorem d_Mo_flatten_134 : decode prog_10_method_52_code 134 = .ok (.goto 5, 3) := by decide +kernel
theorem d_Mo_flatten_137 : decode prog_10_method_52_code 137 = .ok (.bipush (-5), 2) := by decide +kernel
theorem d_Mo_flatten_139 : decode prog_10_method_52_code 139 = .ok (.iastore, 1) := by decide +kernel
theorem d_Mo_flatten_140 : decode prog_10_method_52_code 140 = .ok (.aload_n 0, 1) := by decide +kernel
theorem d_Mo_flatten_141 : decode prog_10_method_52_code 141 = .ok (.getfield 83, 3) := by decide +kernel
theorem d_Mo_flatten_144 : decode prog_10_method_52_code 144 = .ok (.iload_n 1, 1) := by decide +kernel
theorem d_Mo_flatten_145 : decode prog_10_method_52_code 145 = .ok (.iaload, 1) := by decide +kernel
theorem d_Mo_flatten_146 : decode prog_10_method_52_code 146 = .ok (.iconst 4, 1) := by decide +kernel
theorem d_Mo_flatten_147 : decode prog_10_method_52_code 147 = .ok (.if_icmp .eq 15, 3) := by decide +kernel
theorem d_Mo_flatten_150 : decode prog_10_method_52_code 150 = .ok (.aload_n 0, 1) := by decide +kernel
theorem d_Mo_flatten_151 : decode prog_10_method_52_code 151 = .ok (.iconst 0, 1) := by decide +kernel
theorem d_Mo_flatten_152 : decode prog_10_method_52_code 152 = .ok (.aload_n 0, 1) := by decide +kernel
theorem d_Mo_flatten_153 : decode prog_10_method_52_code 153 = .ok (.getfield 89, 3) := by decide +kernel
theorem d_Mo_flatten_156 : decode prog_10_method_52_code 156 = .ok (.iload_n 1, 1) := by decide +kernel
theorem d_Mo_flatten_157 : decode prog_10_method_52_code 157 = .ok (.iaload, 1) := by decide +kernel
theorem d_Mo_flatten_158 : decode prog_10_method_52_code 158 = .ok (.iconst 0, 1) := by decide +kernel
theorem d_Mo_flatten_159 : decode prog_10_method_52_code 159 = .ok (.invokevirtual 386, 3) := by decide +kernel
theorem d_Mo_flatten_162 : decode prog_10_method_52_code 162 = .ok (.aload_n 0, 1) := by decide +kernel
theorem d_Mo_flatten_163 : decode prog_10_method_52_code 163 = .ok (.iconst 0, 1) := by decide +kernel
theorem d_Mo_flatten_164 : decode prog_10_method_52_code 164 = .ok (.aload_n 0, 1) := by decide +kernel
theorem d_Mo_flatten_165 : decode prog_10_method_52_code 165 = .ok (.getfield 86, 3) := by decide +kernel
theorem d_Mo_flatten_168 : decode prog_10_method_52_code 168 = .ok (.iload_n 1, 1) := by decide +kernel
theorem d_Mo_flatten_169 : decode prog_10_method_52_code 169 = .ok (.iaload, 1) := by decide +kernel
theorem d_Mo_flatten_170 : decode prog_10_method_52_code 170 = .ok (.iconst 0, 1) := by decide +kernel
theorem d_Mo_flatten_171 : decode prog_10_method_52_code 171 = .ok (.invokevirtual 386, 3) := by decide +kernel
theorem d_Mo_flatten_174 : decode prog_10_method_52_code 174 = .ok (.aload_n 0, 1) := by decide +kernel
theorem d_Mo_flatten_175 : decode prog_10_method_52_code 175 = .ok (.dup, 1) := by decide +kernel
theorem d_Mo_flatten_176 : decode prog_10_method_52_code 176 = .ok (.getfield 383, 3) := by decide +kernel
theorem d_Mo_flatten_179 : decode prog_10_method_52_code 179 = .ok (.iconst 1, 1) := by decide +kernel
theorem d_Mo_flatten_180 : decode prog_10_method_52_code 180 = .ok (.iadd, 1) := by decide +kernel
theorem d_Mo_flatten_181 : decode prog_10_method_52_code 181 = .ok (.putfield 383, 3) := by decide +kernel
theorem d_Mo_flatten_184 : decode prog_10_method_52_code 184 = .ok (.goto (-156), 3) := by decide +kernel
theorem d_Mo_flatten_187 : decode prog_10_method_52_code 187 = .ok (.return_, 1) := by decide +kernel
def y_Mo_tree : MethodName := ⟨"MailQueriesModel", "tree", "(I)I"⟩
def rm_Mo_tree : Room := { frames := 2, cells := 0, slots := 0, locals := 44 }
theorem d_Mo_tree_0 : decode prog_10_method_53_code 0 = .ok (.aload_n 0, 1) := by decide +kernel
theorem d_Mo_tree_1 : decode prog_10_method_53_code 1 = .ok (.iconst 0, 1) := by decide +kernel
theorem d_Mo_tree_2 : decode prog_10_method_53_code 2 = .ok (.putfield 144, 3) := by decide +kernel
theorem d_Mo_tree_5 : decode prog_10_method_53_code 5 = .ok (.aload_n 0, 1) := by decide +kernel
theorem d_Mo_tree_6 : decode prog_10_method_53_code 6 = .ok (.invokevirtual 390, 3) := by decide +kernel
theorem d_Mo_tree_9 : decode prog_10_method_53_code 9 = .ok (.iload_n 1, 1) := by decide +kernel
theorem d_Mo_tree_10 : decode prog_10_method_53_code 10 = .ok (.ifCond .lt 20, 3) := by decide +kernel
theorem d_Mo_tree_13 : decode prog_10_method_53_code 13 = .ok (.iload_n 1, 1) := by decide +kernel
theorem d_Mo_tree_14 : decode prog_10_method_53_code 14 = .ok (.aload_n 0, 1) := by decide +kernel
theorem d_Mo_tree_15 : decode prog_10_method_53_code 15 = .ok (.getfield 383, 3) := by decide +kernel
theorem d_Mo_tree_18 : decode prog_10_method_53_code 18 = .ok (.if_icmp .ge 12, 3) := by decide +kernel
theorem d_Mo_tree_21 : decode prog_10_method_53_code 21 = .ok (.aload_n 0, 1) := by decide +kernel
theorem d_Mo_tree_22 : decode prog_10_method_53_code 22 = .ok (.getfield 107, 3) := by decide +kernel
theorem d_Mo_tree_25 : decode prog_10_method_53_code 25 = .ok (.iload_n 1, 1) := by decide +kernel
theorem d_Mo_tree_26 : decode prog_10_method_53_code 26 = .ok (.iaload, 1) := by decide +kernel
theorem d_Mo_tree_27 : decode prog_10_method_53_code 27 = .ok (.goto 4, 3) := by decide +kernel
theorem d_Mo_tree_30 : decode prog_10_method_53_code 30 = .ok (.iconst (-1), 1) := by decide +kernel
theorem d_Mo_tree_31 : decode prog_10_method_53_code 31 = .ok (.ireturn, 1) := by decide +kernel
def y_Mo_put : MethodName := ⟨"MailQueriesModel", "put", "(I)V"⟩
def rm_Mo_put : Room := { frames := 0, cells := 0, slots := 0, locals := 0 }
theorem d_Mo_put_0 : decode prog_10_method_54_code 0 = .ok (.aload_n 0, 1) := by decide +kernel
theorem d_Mo_put_1 : decode prog_10_method_54_code 1 = .ok (.getfield 110, 3) := by decide +kernel
theorem d_Mo_put_4 : decode prog_10_method_54_code 4 = .ok (.aload_n 0, 1) := by decide +kernel
theorem d_Mo_put_5 : decode prog_10_method_54_code 5 = .ok (.getfield 393, 3) := by decide +kernel
theorem d_Mo_put_8 : decode prog_10_method_54_code 8 = .ok (.iload_n 1, 1) := by decide +kernel
theorem d_Mo_put_9 : decode prog_10_method_54_code 9 = .ok (.i2b, 1) := by decide +kernel
theorem d_Mo_put_10 : decode prog_10_method_54_code 10 = .ok (.bastore, 1) := by decide +kernel
theorem d_Mo_put_11 : decode prog_10_method_54_code 11 = .ok (.aload_n 0, 1) := by decide +kernel
theorem d_Mo_put_12 : decode prog_10_method_54_code 12 = .ok (.dup, 1) := by decide +kernel
theorem d_Mo_put_13 : decode prog_10_method_54_code 13 = .ok (.getfield 393, 3) := by decide +kernel
theorem d_Mo_put_16 : decode prog_10_method_54_code 16 = .ok (.iconst 1, 1) := by decide +kernel
theorem d_Mo_put_17 : decode prog_10_method_54_code 17 = .ok (.iadd, 1) := by decide +kernel
theorem d_Mo_put_18 : decode prog_10_method_54_code 18 = .ok (.putfield 393, 3) := by decide +kernel
theorem d_Mo_put_21 : decode prog_10_method_54_code 21 = .ok (.return_, 1) := by decide +kernel
def y_Mo_space : MethodName := ⟨"MailQueriesModel", "space", "()V"⟩
def rm_Mo_space : Room := { frames := 1, cells := 0, slots := 0, locals := 21 }
theorem d_Mo_space_0 : decode prog_10_method_55_code 0 = .ok (.aload_n 0, 1) := by decide +kernel
theorem d_Mo_space_1 : decode prog_10_method_55_code 1 = .ok (.getfield 393, 3) := by decide +kernel
theorem d_Mo_space_4 : decode prog_10_method_55_code 4 = .ok (.ifCond .le 25, 3) := by decide +kernel
theorem d_Mo_space_7 : decode prog_10_method_55_code 7 = .ok (.aload_n 0, 1) := by decide +kernel
theorem d_Mo_space_8 : decode prog_10_method_55_code 8 = .ok (.getfield 110, 3) := by decide +kernel
theorem d_Mo_space_11 : decode prog_10_method_55_code 11 = .ok (.aload_n 0, 1) := by decide +kernel
theorem d_Mo_space_12 : decode prog_10_method_55_code 12 = .ok (.getfield 393, 3) := by decide +kernel
theorem d_Mo_space_15 : decode prog_10_method_55_code 15 = .ok (.iconst 1, 1) := by decide +kernel
theorem d_Mo_space_16 : decode prog_10_method_55_code 16 = .ok (.isub, 1) := by decide +kernel
theorem d_Mo_space_17 : decode prog_10_method_55_code 17 = .ok (.baload, 1) := by decide +kernel
theorem d_Mo_space_18 : decode prog_10_method_55_code 18 = .ok (.bipush 40, 2) := by decide +kernel
theorem d_Mo_space_20 : decode prog_10_method_55_code 20 = .ok (.if_icmp .eq 9, 3) := by decide +kernel
theorem d_Mo_space_23 : decode prog_10_method_55_code 23 = .ok (.aload_n 0, 1) := by decide +kernel
theorem d_Mo_space_24 : decode prog_10_method_55_code 24 = .ok (.bipush 32, 2) := by decide +kernel
theorem d_Mo_space_26 : decode prog_10_method_55_code 26 = .ok (.invokevirtual 396, 3) := by decide +kernel
theorem d_Mo_space_29 : decode prog_10_method_55_code 29 = .ok (.return_, 1) := by decide +kernel
def y_Mo_putLetters : MethodName := ⟨"MailQueriesModel", "putLetters", "(J)V"⟩
def rm_Mo_putLetters : Room := { frames := 1, cells := 0, slots := 0, locals := 21 }
theorem d_Mo_putLetters_0 : decode prog_10_method_56_code 0 = .ok (.lconst 1, 1) := by decide +kernel
theorem d_Mo_putLetters_1 : decode prog_10_method_56_code 1 = .ok (.lstore_n 3, 1) := by decide +kernel
theorem d_Mo_putLetters_2 : decode prog_10_method_56_code 2 = .ok (.lload_n 3, 1) := by decide +kernel
theorem d_Mo_putLetters_3 : decode prog_10_method_56_code 3 = .ok (.lload_n 1, 1) := by decide +kernel
theorem d_Mo_putLetters_4 : decode prog_10_method_56_code 4 = .ok (.ldc2_w 185, 3) := by decide +kernel
theorem d_Mo_putLetters_7 : decode prog_10_method_56_code 7 = .ok (.ldiv, 1) := by decide +kernel
theorem d_Mo_putLetters_8 : decode prog_10_method_56_code 8 = .ok (.lcmp, 1) := by decide +kernel
theorem d_Mo_putLetters_9 : decode prog_10_method_56_code 9 = .ok (.ifCond .gt 12, 3) := by decide +kernel
theorem d_Mo_putLetters_12 : decode prog_10_method_56_code 12 = .ok (.lload_n 3, 1) := by decide +kernel
theorem d_Mo_putLetters_13 : decode prog_10_method_56_code 13 = .ok (.ldc2_w 185, 3) := by decide +kernel
theorem d_Mo_putLetters_16 : decode prog_10_method_56_code 16 = .ok (.lmul, 1) := by decide +kernel
theorem d_Mo_putLetters_17 : decode prog_10_method_56_code 17 = .ok (.lstore_n 3, 1) := by decide +kernel
theorem d_Mo_putLetters_18 : decode prog_10_method_56_code 18 = .ok (.goto (-16), 3) := by decide +kernel
theorem d_Mo_putLetters_21 : decode prog_10_method_56_code 21 = .ok (.lload_n 3, 1) := by decide +kernel
theorem d_Mo_putLetters_22 : decode prog_10_method_56_code 22 = .ok (.lconst 0, 1) := by decide +kernel
theorem d_Mo_putLetters_23 : decode prog_10_method_56_code 23 = .ok (.lcmp, 1) := by decide +kernel
theorem d_Mo_putLetters_24 : decode prog_10_method_56_code 24 = .ok (.ifCond .le 27, 3) := by decide +kernel
theorem d_Mo_putLetters_27 : decode prog_10_method_56_code 27 = .ok (.aload_n 0, 1) := by decide +kernel
theorem d_Mo_putLetters_28 : decode prog_10_method_56_code 28 = .ok (.lload_n 1, 1) := by decide +kernel
theorem d_Mo_putLetters_29 : decode prog_10_method_56_code 29 = .ok (.lload_n 3, 1) := by decide +kernel
theorem d_Mo_putLetters_30 : decode prog_10_method_56_code 30 = .ok (.ldiv, 1) := by decide +kernel
theorem d_Mo_putLetters_31 : decode prog_10_method_56_code 31 = .ok (.ldc2_w 185, 3) := by decide +kernel
theorem d_Mo_putLetters_34 : decode prog_10_method_56_code 34 = .ok (.lrem, 1) := by decide +kernel
theorem d_Mo_putLetters_35 : decode prog_10_method_56_code 35 = .ok (.l2i, 1) := by decide +kernel
theorem d_Mo_putLetters_36 : decode prog_10_method_56_code 36 = .ok (.bipush 96, 2) := by decide +kernel
theorem d_Mo_putLetters_38 : decode prog_10_method_56_code 38 = .ok (.iadd, 1) := by decide +kernel
theorem d_Mo_putLetters_39 : decode prog_10_method_56_code 39 = .ok (.invokevirtual 396, 3) := by decide +kernel
theorem d_Mo_putLetters_42 : decode prog_10_method_56_code 42 = .ok (.lload_n 3, 1) := by decide +kernel
theorem d_Mo_putLetters_43 : decode prog_10_method_56_code 43 = .ok (.ldc2_w 185, 3) := by decide +kernel
theorem d_Mo_putLetters_46 : decode prog_10_method_56_code 46 = .ok (.ldiv, 1) := by decide +kernel
theorem d_Mo_putLetters_47 : decode prog_10_method_56_code 47 = .ok (.lstore_n 3, 1) := by decide +kernel
theorem d_Mo_putLetters_48 : decode prog_10_method_56_code 48 = .ok (.goto (-27), 3) := by decide +kernel
theorem d_Mo_putLetters_51 : decode prog_10_method_56_code 51 = .ok (.return_, 1) := by decide +kernel
def y_Mo_putAtom : MethodName := ⟨"MailQueriesModel", "putAtom", "(I)V"⟩
def rm_Mo_putAtom : Room := { frames := 2, cells := 0, slots := 0, locals := 45 }
theorem d_Mo_putAtom_0 : decode prog_10_method_57_code 0 = .ok (.aload_n 0, 1) := by decide +kernel
theorem d_Mo_putAtom_1 : decode prog_10_method_57_code 1 = .ok (.invokevirtual 399, 3) := by decide +kernel
theorem d_Mo_putAtom_4 : decode prog_10_method_57_code 4 = .ok (.aload_n 0, 1) := by decide +kernel
theorem d_Mo_putAtom_5 : decode prog_10_method_57_code 5 = .ok (.getfield 57, 3) := by decide +kernel
theorem d_Mo_putAtom_8 : decode prog_10_method_57_code 8 = .ok (.iload_n 1, 1) := by decide +kernel
theorem d_Mo_putAtom_9 : decode prog_10_method_57_code 9 = .ok (.iaload, 1) := by decide +kernel
theorem d_Mo_putAtom_10 : decode prog_10_method_57_code 10 = .ok (.ifCond .le 26, 3) := by decide +kernel
theorem d_Mo_putAtom_13 : decode prog_10_method_57_code 13 = .ok (.aload_n 0, 1) := by decide +kernel
theorem d_Mo_putAtom_14 : decode prog_10_method_57_code 14 = .ok (.aload_n 0, 1) := by decide +kernel
theorem d_Mo_putAtom_15 : decode prog_10_method_57_code 15 = .ok (.getfield 53, 3) := by decide +kernel
theorem d_Mo_putAtom_18 : decode prog_10_method_57_code 18 = .ok (.aload_n 0, 1) := by decide +kernel
theorem d_Mo_putAtom_19 : decode prog_10_method_57_code 19 = .ok (.getfield 57, 3) := by decide +kernel
theorem d_Mo_putAtom_22 : decode prog_10_method_57_code 22 = .ok (.iload_n 1, 1) := by decide +kernel
theorem d_Mo_putAtom_23 : decode prog_10_method_57_code 23 = .ok (.iaload, 1) := by decide +kernel
theorem d_Mo_putAtom_24 : decode prog_10_method_57_code 24 = .ok (.iconst 1, 1) := by decide +kernel
theorem d_Mo_putAtom_25 : decode prog_10_method_57_code 25 = .ok (.isub, 1) := by decide +kernel
theorem d_Mo_putAtom_26 : decode prog_10_method_57_code 26 = .ok (.laload, 1) := by decide +kernel
theorem d_Mo_putAtom_27 : decode prog_10_method_57_code 27 = .ok (.invokevirtual 402, 3) := by decide +kernel
theorem d_Mo_putAtom_30 : decode prog_10_method_57_code 30 = .ok (.aload_n 0, 1) := by decide +kernel
theorem d_Mo_putAtom_31 : decode prog_10_method_57_code 31 = .ok (.bipush 58, 2) := by decide +kernel
theorem d_Mo_putAtom_33 : decode prog_10_method_57_code 33 = .ok (.invokevirtual 396, 3) := by decide +kernel
theorem d_Mo_putAtom_36 : decode prog_10_method_57_code 36 = .ok (.aload_n 0, 1) := by decide +kernel
theorem d_Mo_putAtom_37 : decode prog_10_method_57_code 37 = .ok (.getfield 79, 3) := by decide +kernel
theorem d_Mo_putAtom_40 : decode prog_10_method_57_code 40 = .ok (.iload_n 1, 1) := by decide +kernel
theorem d_Mo_putAtom_41 : decode prog_10_method_57_code 41 = .ok (.baload, 1) := by decide +kernel
theorem d_Mo_putAtom_42 : decode prog_10_method_57_code 42 = .ok (.ifCond .eq 9, 3) := by decide +kernel
theorem d_Mo_putAtom_45 : decode prog_10_method_57_code 45 = .ok (.aload_n 0, 1) := by decide +kernel
theorem d_Mo_putAtom_46 : decode prog_10_method_57_code 46 = .ok (.bipush 34, 2) := by decide +kernel
theorem d_Mo_putAtom_48 : decode prog_10_method_57_code 48 = .ok (.invokevirtual 396, 3) := by decide +kernel
theorem d_Mo_putAtom_51 : decode prog_10_method_57_code 51 = .ok (.iconst 0, 1) := by decide +kernel
theorem d_Mo_putAtom_52 : decode prog_10_method_57_code 52 = .ok (.istore_n 2, 1) := by decide +kernel
theorem d_Mo_putAtom_53 : decode prog_10_method_57_code 53 = .ok (.iload_n 2, 1) := by decide +kernel
theorem d_Mo_putAtom_54 : decode prog_10_method_57_code 54 = .ok (.aload_n 0, 1) := by decide +kernel
theorem d_Mo_putAtom_55 : decode prog_10_method_57_code 55 = .ok (.getfield 64, 3) := by decide +kernel
theorem d_Mo_putAtom_58 : decode prog_10_method_57_code 58 = .ok (.iload_n 1, 1) := by decide +kernel
theorem d_Mo_putAtom_59 : decode prog_10_method_57_code 59 = .ok (.iaload, 1) := by decide +kernel
theorem d_Mo_putAtom_60 : decode prog_10_method_57_code 60 = .ok (.if_icmp .ge 25, 3) := by decide +kernel
theorem d_Mo_putAtom_63 : decode prog_10_method_57_code 63 = .ok (.aload_n 0, 1) := by decide +kernel
theorem d_Mo_putAtom_64 : decode prog_10_method_57_code 64 = .ok (.aload_n 0, 1) := by decide +kernel
theorem d_Mo_putAtom_65 : decode prog_10_method_57_code 65 = .ok (.aload_n 0, 1) := by decide +kernel
theorem d_Mo_putAtom_66 : decode prog_10_method_57_code 66 = .ok (.getfield 61, 3) := by decide +kernel
theorem d_Mo_putAtom_69 : decode prog_10_method_57_code 69 = .ok (.iload_n 1, 1) := by decide +kernel
theorem d_Mo_putAtom_70 : decode prog_10_method_57_code 70 = .ok (.iaload, 1) := by decide +kernel
theorem d_Mo_putAtom_71 : decode prog_10_method_57_code 71 = .ok (.iload_n 2, 1) := by decide +kernel
theorem d_Mo_putAtom_72 : decode prog_10_method_57_code 72 = .ok (.iadd, 1) := by decide +kernel
theorem d_Mo_putAtom_73 : decode prog_10_method_57_code 73 = .ok (.invokevirtual 160, 3) := by decide +kernel
theorem d_Mo_putAtom_76 : decode prog_10_method_57_code 76 = .ok (.invokevirtual 396, 3) := by decide +kernel
theorem d_Mo_putAtom_79 : decode prog_10_method_57_code 79 = .ok (.iinc 2 1, 3) := by decide +kernel
theorem d_Mo_putAtom_82 : decode prog_10_method_57_code 82 = .ok (.goto (-29), 3) := by decide +kernel
theorem d_Mo_putAtom_85 : decode prog_10_method_57_code 85 = .ok (.aload_n 0, 1) := by decide +kernel
theorem d_Mo_putAtom_86 : decode prog_10_method_57_code 86 = .ok (.getfield 79, 3) := by decide +kernel
theorem d_Mo_putAtom_89 : decode prog_10_method_57_code 89 = .ok (.iload_n 1, 1) := by decide +kernel
theorem d_Mo_putAtom_90 : decode prog_10_method_57_code 90 = .ok (.baload, 1) := by decide +kernel
theorem d_Mo_putAtom_91 : decode prog_10_method_57_code 91 = .ok (.ifCond .eq 9, 3) := by decide +kernel
theorem d_Mo_putAtom_94 : decode prog_10_method_57_code 94 = .ok (.aload_n 0, 1) := by decide +kernel
theorem d_Mo_putAtom_95 : decode prog_10_method_57_code 95 = .ok (.bipush 34, 2) := by decide +kernel
theorem d_Mo_putAtom_97 : decode prog_10_method_57_code 97 = .ok (.invokevirtual 396, 3) := by decide +kernel
theorem d_Mo_putAtom_100 : decode prog_10_method_57_code 100 = .ok (.return_, 1) := by decide +kernel
theorem mb_Mo_range : Mb y_Mo_range prog_10_method_50_code 3 (some .int) 2 := ⟨W_Mo_range_code, W_Mo_range_in, W_Mo_range_se, I_Mo, by decide +kernel, by decide +kernel, by decide +kernel⟩
theorem mb_Mo_plan : Mb y_Mo_plan prog_10_method_51_code 4 none 3 := ⟨W_Mo_plan_code, W_Mo_plan_in, sel_84, I_Mo, by decide +kernel, by decide +kernel, by decide +kernel⟩
theorem mb_Mo_flatten : Mb y_Mo_flatten prog_10_method_52_code 2 none 0 := ⟨W_Mo_flatten_code, W_Mo_flatten_in, sel_83, I_Mo, by decide +kernel, by decide +kernel, by decide +kernel⟩
theorem mb_Mo_tree : Mb y_Mo_tree prog_10_method_53_code 2 (some .int) 1 := ⟨W_Mo_tree_code, W_Mo_tree_in, W_Mo_tree_se, I_Mo, by decide +kernel, by decide +kernel, by decide +kernel⟩
theorem mb_Mo_put : Mb y_Mo_put prog_10_method_54_code 2 none 1 := ⟨W_Mo_put_code, W_Mo_put_in, sel_88, I_Mo, by decide +kernel, by decide +kernel, by decide +kernel⟩
theorem mb_Mo_space : Mb y_Mo_space prog_10_method_55_code 1 none 0 := ⟨W_Mo_space_code, W_Mo_space_in, sel_87, I_Mo, by decide +kernel, by decide +kernel, by decide +kernel⟩
theorem mb_Mo_putLetters : Mb y_Mo_putLetters prog_10_method_56_code 5 none 1 := ⟨W_Mo_putLetters_code, W_Mo_putLetters_in, sel_89, I_Mo, by decide +kernel, by decide +kernel, by decide +kernel⟩
theorem mb_Mo_putAtom : Mb y_Mo_putAtom prog_10_method_57_code 3 none 1 := ⟨W_Mo_putAtom_code, W_Mo_putAtom_in, sel_86, I_Mo, by decide +kernel, by decide +kernel, by decide +kernel⟩
def Mo_range (F : Nat) (t : StI) (tL : StL) (x1 : Int32) (x2 : Int32) : Option (Int32 × StI × StL) := letS (va_up t 0 (fun _ => (0 : Int32))) fun t_10 => if x1 < 0 then some ((0 : Int32), t_10, tL) else if (t_10 20 0) ≤ x1 then some ((0 : Int32), t_10, tL) else if x1 < 0 ∨ 40 ≤ x1.toNatClampNeg then none else if (11 : Int32) ≤ ((t_10 22) x1.toNatClampNeg) then if x2 = 0 then if x1 < 0 ∨ 40 ≤ x1.toNatClampNeg then none else some (((t_10 27) x1.toNatClampNeg), t_10, tL) else if x2 = (1 : Int32) then if x1 < 0 ∨ 40 ≤ x1.toNatClampNeg then none else some (((t_10 28) x1.toNatClampNeg), t_10, tL) else some ((0 : Int32), t_10, tL) else some ((0 : Int32), t_10, tL)
set_option maxHeartbeats 4000000 in
set_option maxRecDepth 100000 in
theorem k_Mo_range {p : Program} {l : Launch} {e : Env} {s : State} {m : MethodId} {args : Array Value} {below : List Frame} {meth : Method} {c : Code} {g : Gz} {A : Nat → Prop} {F : Nat} {a_t : Nat → Nat} (hC : Cx prog_10_method_50_code 3 (some .int) R_Mo p s m args meth c g A A) : ∀ (t : StI) (tL : StL) (x1 : Int32) (x2 : Int32) (res : Int32 × StI × StL), Mo_range F t tL x1 x2 = some res → Go p l e rm_Mo_range s m args below meth c g A A 3 (MQ below (EI g ((pic_Mo g a_t res.2.1 res.2.2)) res.1 A) args s 0 0 A) ((pic_Mo g a_t t tL)) [(0, .ref (a_t 0)), (1, .int x1), (2, .int x2)] 0 [] := by
  obtain ⟨hx, hb, hr, hml, hown, htb, hlocks, hA, hAA, hG⟩ := id hC
  have hK := hG.1
  intro t tL x1 x2 res h H locs ls hP hD hS hl
  rw [Mo_range] at h
  refine lv_aload_n hx hb d_Mo_range_0 rfl (lv_at hl 0 rfl) ?_
  refine lv_iconst (v := 0) hx hb d_Mo_range_1 (by decide) ?_
  refine va_put (D := gD g) (ci := 8) (v := .int (0 : Int32)) (ty := .int) (C := R_Mo) (T := T_Mo) (N := 64) hx hb htb in_Mo ty_Mo ty_Mo_ok nm_Mo hown hK hP hD hS 0 rfl rfl 0 (by decide) (htb _ L_Mo_144) (fun _ h9 => h9) rfl (by decide +kernel) rfl rfl (Nat.le_of_ble_eq_true rfl) d_Mo_range_2 (fun H locs hP hD hS => ?_)
  obtain ⟨t_10, et_10, h⟩ := letS_el h
  have hP : va_P (gD g) vwCl ((pic_Mo g a_t t_10 tL)) H := by rw [et_10]; exact hP
  have hD : va_D A ((pic_Mo g a_t t_10 tL)) := by rw [et_10]; exact hD
  refine lv_iload_n hx hb d_Mo_range_5 rfl (lv_at hl 1 rfl) ?_
  refine lv_if_lt (tgt := 28) hx hb d_Mo_range_6 (by decide) (fun c11 => ?_) (fun c11 => ?_)
  · replace h := (if_pos c11).symm.trans h
    refine lv_iconst (v := 0) hx hb d_Mo_range_28 (by decide) ?_
    cases h
    exact W.iret hx hb hr (fun t ht hW => ⟨⟨_, (), rfl, rfl, by rw [ht]; exact hP, hD⟩, hS.F ht⟩) hS.2.2 d_Mo_range_29
  · replace h := (if_neg c11).symm.trans h
    refine lv_iload_n hx hb d_Mo_range_9 rfl (lv_at hl 1 rfl) ?_
    refine lv_aload_n hx hb d_Mo_range_10 rfl (lv_at hl 0 rfl) ?_
    refine va_get (D := gD g) (ci := 8) (v := .int (t_10 20 0)) (C := R_Mo) (T := T_Mo) (N := 64) hx hb htb in_Mo hown hK hP 0 rfl rfl 20 (by decide) (htb _ L_Mo_302) (fun _ h9 => h9) rfl d_Mo_range_11 ?_
    refine lv_icmp_ge (tgt := 28) hx hb d_Mo_range_14 (by decide) (fun c12 => ?_) (fun c12 => ?_)
    · replace h := (if_pos c12).symm.trans h
      refine lv_iconst (v := 0) hx hb d_Mo_range_28 (by decide) ?_
      cases h
      exact W.iret hx hb hr (fun t ht hW => ⟨⟨_, (), rfl, rfl, by rw [ht]; exact hP, hD⟩, hS.F ht⟩) hS.2.2 d_Mo_range_29
    · replace h := (if_neg c12).symm.trans h
      refine lv_aload_n hx hb d_Mo_range_17 rfl (lv_at hl 0 rfl) ?_
      refine va_get (D := gD g) (ci := 8) (v := .ref (a_t 23)) (C := R_Mo) (T := T_Mo) (N := 64) hx hb htb in_Mo hown hK hP 0 rfl rfl 22 (by decide) (htb _ L_Mo_57) (fun _ h9 => h9) rfl d_Mo_range_18 ?_
      refine lv_iload_n hx hb d_Mo_range_21 rfl (lv_at hl 1 rfl) ?_
      by_cases c13 : (x1 < 0 ∨ 40 ≤ x1.toNatClampNeg)
      · replace h := (if_pos c13).symm.trans h
        cases h
      replace h := (if_neg c13).symm.trans h
      refine va_iald hx hb hK hP 6 0 rfl rfl c13 d_Mo_range_22 ?_
      refine lv_bipush (v := 11) hx hb d_Mo_range_23 (by decide) ?_
      refine lv_icmp_ge (tgt := 30) hx hb d_Mo_range_25 (by decide) (fun c14 => ?_) (fun c14 => ?_)
      · replace h := (if_pos c14).symm.trans h
        refine lv_iload_n hx hb d_Mo_range_30 rfl (lv_at hl 2 rfl) ?_
        refine lv_if_ne (tgt := 43) hx hb d_Mo_range_31 (by decide) (fun c15 => ?_) (fun c15 => ?_)
        · replace h := (if_neg c15).symm.trans h
          refine lv_iload_n hx hb d_Mo_range_43 rfl (lv_at hl 2 rfl) ?_
          refine lv_iconst (v := 1) hx hb d_Mo_range_44 (by decide) ?_
          refine lv_icmp_ne (tgt := 57) hx hb d_Mo_range_45 (by decide) (fun c16 => ?_) (fun c16 => ?_)
          · replace h := (if_neg c16).symm.trans h
            refine lv_iconst (v := 0) hx hb d_Mo_range_57 (by decide) ?_
            cases h
            exact W.iret hx hb hr (fun t ht hW => ⟨⟨_, (), rfl, rfl, by rw [ht]; exact hP, hD⟩, hS.F ht⟩) hS.2.2 d_Mo_range_58
          · replace h := (if_pos c16).symm.trans h
            refine lv_aload_n hx hb d_Mo_range_48 rfl (lv_at hl 0 rfl) ?_
            refine va_get (D := gD g) (ci := 8) (v := .ref (a_t 29)) (C := R_Mo) (T := T_Mo) (N := 64) hx hb htb in_Mo hown hK hP 0 rfl rfl 28 (by decide) (htb _ L_Mo_76) (fun _ h9 => h9) rfl d_Mo_range_49 ?_
            refine lv_iload_n hx hb d_Mo_range_52 rfl (lv_at hl 1 rfl) ?_
            by_cases c17 : (x1 < 0 ∨ 40 ≤ x1.toNatClampNeg)
            · replace h := (if_pos c17).symm.trans h
              cases h
            replace h := (if_neg c17).symm.trans h
            refine va_iald hx hb hK hP 12 0 rfl rfl c17 d_Mo_range_53 ?_
            refine lv_goto (tgt := 58) hx hb d_Mo_range_54 (by decide) ?_
            cases h
            exact W.iret hx hb hr (fun t ht hW => ⟨⟨_, (), rfl, rfl, by rw [ht]; exact hP, hD⟩, hS.F ht⟩) hS.2.2 d_Mo_range_58
        · replace h := (if_pos c15).symm.trans h
          refine lv_aload_n hx hb d_Mo_range_34 rfl (lv_at hl 0 rfl) ?_
          refine va_get (D := gD g) (ci := 8) (v := .ref (a_t 28)) (C := R_Mo) (T := T_Mo) (N := 64) hx hb htb in_Mo hown hK hP 0 rfl rfl 27 (by decide) (htb _ L_Mo_73) (fun _ h9 => h9) rfl d_Mo_range_35 ?_
          refine lv_iload_n hx hb d_Mo_range_38 rfl (lv_at hl 1 rfl) ?_
          by_cases c18 : (x1 < 0 ∨ 40 ≤ x1.toNatClampNeg)
          · replace h := (if_pos c18).symm.trans h
            cases h
          replace h := (if_neg c18).symm.trans h
          refine va_iald hx hb hK hP 11 0 rfl rfl c18 d_Mo_range_39 ?_
          refine lv_goto (tgt := 58) hx hb d_Mo_range_40 (by decide) ?_
          cases h
          exact W.iret hx hb hr (fun t ht hW => ⟨⟨_, (), rfl, rfl, by rw [ht]; exact hP, hD⟩, hS.F ht⟩) hS.2.2 d_Mo_range_58
      · replace h := (if_neg c14).symm.trans h
        refine lv_iconst (v := 0) hx hb d_Mo_range_28 (by decide) ?_
        cases h
        exact W.iret hx hb hr (fun t ht hW => ⟨⟨_, (), rfl, rfl, by rw [ht]; exact hP, hD⟩, hS.F ht⟩) hS.2.2 d_Mo_range_29
theorem c_Mo_range (l : Launch) (g : Gz) (F : Nat) (a_t : Nat → Nat) (t : StI) (tL : StL) (x1 : Int32) (x2 : Int32) (res : Int32 × StI × StL) (h : Mo_range F t tL x1 x2 = some res) : ∀ sz : Nat, Met l y_Mo_range (.code y_Mo_range prog_10_method_50_code 3 (some .int) :: TBL) rm_Mo_range (va_Pc [.ref (a_t 0), .int x1, .int x2] (Pre0 g ((pic_Mo g a_t t tL)) sz)) (EI g ((pic_Mo g a_t res.2.1 res.2.2)) res.1 (va_A ((pic_Mo g a_t t tL)) sz)) 0 0 (va_A ((pic_Mo g a_t t tL)) sz) :=
  ct_w (Qc := fun A => EI g ((pic_Mo g a_t res.2.1 res.2.2)) res.1 A) (by decide) (Nat.le_of_ble_eq_true rfl) (fun p e s m args below meth c A hC => k_Mo_range hC t tL x1 x2 res h)
def Mo_plan (F : Nat) (t : StI) (tL : StL) (x1 : Int32) (x2 : Int32) (x3 : Int32) : Option (StI × StL) := if (t 40 0) < 0 ∨ 2000 ≤ (t 40 0).toNatClampNeg then none else letS (va_up t 41 (upd (t 41) (t 40 0).toNatClampNeg x1)) fun t_8 => if (t_8 40 0) < 0 ∨ 2000 ≤ (t_8 40 0).toNatClampNeg then none else letS (va_up t_8 42 (upd (t_8 42) (t_8 40 0).toNatClampNeg x2)) fun t_10 => if (t_10 40 0) < 0 ∨ 2000 ≤ (t_10 40 0).toNatClampNeg then none else letS (va_up t_10 43 (upd (t_10 43) (t_10 40 0).toNatClampNeg x3)) fun t_12 => letS (va_up t_12 40 (fun _ => ((t_12 40 0) + (1 : Int32)))) fun t_14 => some (t_14, tL)
set_option maxHeartbeats 4000000 in
set_option maxRecDepth 100000 in
theorem k_Mo_plan {p : Program} {l : Launch} {e : Env} {s : State} {m : MethodId} {args : Array Value} {below : List Frame} {meth : Method} {c : Code} {g : Gz} {A : Nat → Prop} {F : Nat} {a_t : Nat → Nat} (hC : Cx prog_10_method_51_code 4 none R_Mo p s m args meth c g A A) : ∀ (t : StI) (tL : StL) (x1 : Int32) (x2 : Int32) (x3 : Int32) (res : StI × StL), Mo_plan F t tL x1 x2 x3 = some res → Go p l e rm_Mo_plan s m args below meth c g A A 4 (MQ below (EV g ((pic_Mo g a_t res.1 res.2)) A) args s 0 0 A) ((pic_Mo g a_t t tL)) [(0, .ref (a_t 0)), (1, .int x1), (2, .int x2), (3, .int x3)] 0 [] := by
  obtain ⟨hx, hb, hr, hml, hown, htb, hlocks, hA, hAA, hG⟩ := id hC
  have hK := hG.1
  intro t tL x1 x2 x3 res h H locs ls hP hD hS hl
  rw [Mo_plan] at h
  refine lv_aload_n hx hb d_Mo_plan_0 rfl (lv_at hl 0 rfl) ?_
  refine va_get (D := gD g) (ci := 8) (v := .ref (a_t 42)) (C := R_Mo) (T := T_Mo) (N := 64) hx hb htb in_Mo hown hK hP 0 rfl rfl 41 (by decide) (htb _ L_Mo_98) (fun _ h9 => h9) rfl d_Mo_plan_1 ?_
  refine lv_aload_n hx hb d_Mo_plan_4 rfl (lv_at hl 0 rfl) ?_
  refine va_get (D := gD g) (ci := 8) (v := .int (t 40 0)) (C := R_Mo) (T := T_Mo) (N := 64) hx hb htb in_Mo hown hK hP 0 rfl rfl 40 (by decide) (htb _ L_Mo_380) (fun _ h9 => h9) rfl d_Mo_plan_5 ?_
  refine lv_iload_n hx hb d_Mo_plan_8 rfl (lv_at hl 1 rfl) ?_
  by_cases c9 : ((t 40 0) < 0 ∨ 2000 ≤ (t 40 0).toNatClampNeg)
  · replace h := (if_pos c9).symm.trans h
    cases h
  replace h := (if_neg c9).symm.trans h
  refine va_iast hx hb hK hP hD hS 19 0 rfl rfl c9 d_Mo_plan_9 (fun H locs hP hD hS => ?_)
  obtain ⟨t_8, et_8, h⟩ := letS_el h
  have hP : va_P (gD g) vwCl ((pic_Mo g a_t t_8 tL)) H := by rw [et_8]; exact hP
  have hD : va_D A ((pic_Mo g a_t t_8 tL)) := by rw [et_8]; exact hD
  refine lv_aload_n hx hb d_Mo_plan_10 rfl (lv_at hl 0 rfl) ?_
  refine va_get (D := gD g) (ci := 8) (v := .ref (a_t 43)) (C := R_Mo) (T := T_Mo) (N := 64) hx hb htb in_Mo hown hK hP 0 rfl rfl 42 (by decide) (htb _ L_Mo_101) (fun _ h9 => h9) rfl d_Mo_plan_11 ?_
  refine lv_aload_n hx hb d_Mo_plan_14 rfl (lv_at hl 0 rfl) ?_
  refine va_get (D := gD g) (ci := 8) (v := .int (t_8 40 0)) (C := R_Mo) (T := T_Mo) (N := 64) hx hb htb in_Mo hown hK hP 0 rfl rfl 40 (by decide) (htb _ L_Mo_380) (fun _ h9 => h9) rfl d_Mo_plan_15 ?_
  refine lv_iload_n hx hb d_Mo_plan_18 rfl (lv_at hl 2 rfl) ?_
  by_cases c11 : ((t_8 40 0) < 0 ∨ 2000 ≤ (t_8 40 0).toNatClampNeg)
  · replace h := (if_pos c11).symm.trans h
    cases h
  replace h := (if_neg c11).symm.trans h
  refine va_iast hx hb hK hP hD hS 20 0 rfl rfl c11 d_Mo_plan_19 (fun H locs hP hD hS => ?_)
  obtain ⟨t_10, et_10, h⟩ := letS_el h
  have hP : va_P (gD g) vwCl ((pic_Mo g a_t t_10 tL)) H := by rw [et_10]; exact hP
  have hD : va_D A ((pic_Mo g a_t t_10 tL)) := by rw [et_10]; exact hD
  refine lv_aload_n hx hb d_Mo_plan_20 rfl (lv_at hl 0 rfl) ?_
  refine va_get (D := gD g) (ci := 8) (v := .ref (a_t 44)) (C := R_Mo) (T := T_Mo) (N := 64) hx hb htb in_Mo hown hK hP 0 rfl rfl 43 (by decide) (htb _ L_Mo_104) (fun _ h9 => h9) rfl d_Mo_plan_21 ?_
  refine lv_aload_n hx hb d_Mo_plan_24 rfl (lv_at hl 0 rfl) ?_
  refine va_get (D := gD g) (ci := 8) (v := .int (t_10 40 0)) (C := R_Mo) (T := T_Mo) (N := 64) hx hb htb in_Mo hown hK hP 0 rfl rfl 40 (by decide) (htb _ L_Mo_380) (fun _ h9 => h9) rfl d_Mo_plan_25 ?_
  refine lv_iload_n hx hb d_Mo_plan_28 rfl (lv_at hl 3 rfl) ?_
  by_cases c13 : ((t_10 40 0) < 0 ∨ 2000 ≤ (t_10 40 0).toNatClampNeg)
  · replace h := (if_pos c13).symm.trans h
    cases h
  replace h := (if_neg c13).symm.trans h
  refine va_iast hx hb hK hP hD hS 21 0 rfl rfl c13 d_Mo_plan_29 (fun H locs hP hD hS => ?_)
  obtain ⟨t_12, et_12, h⟩ := letS_el h
  have hP : va_P (gD g) vwCl ((pic_Mo g a_t t_12 tL)) H := by rw [et_12]; exact hP
  have hD : va_D A ((pic_Mo g a_t t_12 tL)) := by rw [et_12]; exact hD
  refine lv_aload_n hx hb d_Mo_plan_30 rfl (lv_at hl 0 rfl) ?_
  refine lv_dup hx hb d_Mo_plan_31 rfl ?_
  refine va_get (D := gD g) (ci := 8) (v := .int (t_12 40 0)) (C := R_Mo) (T := T_Mo) (N := 64) hx hb htb in_Mo hown hK hP 0 rfl rfl 40 (by decide) (htb _ L_Mo_380) (fun _ h9 => h9) rfl d_Mo_plan_32 ?_
  refine lv_iconst (v := 1) hx hb d_Mo_plan_35 (by decide) ?_
  refine lv_iadd hx hb d_Mo_plan_36 ?_
  refine va_put (D := gD g) (ci := 8) (v := .int ((t_12 40 0) + (1 : Int32))) (ty := .int) (C := R_Mo) (T := T_Mo) (N := 64) hx hb htb in_Mo ty_Mo ty_Mo_ok nm_Mo hown hK hP hD hS 0 rfl rfl 40 (by decide) (htb _ L_Mo_380) (fun _ h9 => h9) rfl (by decide +kernel) rfl rfl (Nat.le_of_ble_eq_true rfl) d_Mo_plan_37 (fun H locs hP hD hS => ?_)
  obtain ⟨t_14, et_14, h⟩ := letS_el h
  have hP : va_P (gD g) vwCl ((pic_Mo g a_t t_14 tL)) H := by rw [et_14]; exact hP
  have hD : va_D A ((pic_Mo g a_t t_14 tL)) := by rw [et_14]; exact hD
  cases h
  exact W.vret hx hb hr (fun t ht hW => ⟨⟨(), rfl, trivial, by rw [ht]; exact hP, hD⟩, hS.F ht⟩) hS.2.2 d_Mo_plan_40
theorem c_Mo_plan (l : Launch) (g : Gz) (F : Nat) (a_t : Nat → Nat) (t : StI) (tL : StL) (x1 : Int32) (x2 : Int32) (x3 : Int32) (res : StI × StL) (h : Mo_plan F t tL x1 x2 x3 = some res) : ∀ sz : Nat, Met l y_Mo_plan (.code y_Mo_plan prog_10_method_51_code 4 none :: TBL) rm_Mo_plan (va_Pc [.ref (a_t 0), .int x1, .int x2, .int x3] (Pre0 g ((pic_Mo g a_t t tL)) sz)) (EV g ((pic_Mo g a_t res.1 res.2)) (va_A ((pic_Mo g a_t t tL)) sz)) 0 0 (va_A ((pic_Mo g a_t t tL)) sz) :=
  ct_w (Qc := fun A => EV g ((pic_Mo g a_t res.1 res.2)) A) (by decide) (Nat.le_of_ble_eq_true rfl) (fun p e s m args below meth c A hC => k_Mo_plan hC t tL x1 x2 x3 res h)
def Mo_flatten_174 (F : Nat) (k28 : StI → StL → Option (StI × StL)) (t : StI) (tL : StL) : Option (StI × StL) := letS (va_up t 44 (fun _ => ((t 44 0) + (1 : Int32)))) fun t_28 => k28 t_28 tL
def Mo_flatten_162 (F : Nat) (k28 : StI → StL → Option (StI × StL)) (t : StI) (tL : StL) (x1 : Int32) : Option (StI × StL) := if x1 < 0 ∨ 700 ≤ x1.toNatClampNeg then none else (Mo_plan F t tL (0 : Int32) ((t 33) x1.toNatClampNeg) (0 : Int32)).bind fun r30 => Mo_flatten_174 F k28 r30.1 r30.2
def Mo_flatten_139 (F : Nat) (k28 : StI → StL → Option (StI × StL)) (t : StI) (tL : StL) (x1 : Int32) (y0 : Int32) (y1 : Int32) : Option (StI × StL) := if y1 < 0 ∨ 700 ≤ y1.toNatClampNeg then none else letS (va_up t 45 (upd (t 45) y1.toNatClampNeg y0)) fun t_31 => if x1 < 0 ∨ 700 ≤ x1.toNatClampNeg then none else if ((t_31 32) x1.toNatClampNeg) = (4 : Int32) then Mo_flatten_162 F k28 t_31 tL x1 else if x1 < 0 ∨ 700 ≤ x1.toNatClampNeg then none else (Mo_plan F t_31 tL (0 : Int32) ((t_31 34) x1.toNatClampNeg) (0 : Int32)).bind fun r36 => Mo_flatten_162 F k28 r36.1 r36.2 x1
def Mo_flatten_28 (F : Nat) : Nat → StI → StL → Option (StI × StL)
  | 0, _, _ => none
  | n + 1, t, tL => if (t 40 0) ≤ 0 then some (t, tL) else letS (va_up t 40 (fun _ => ((t 40 0) - (1 : Int32)))) fun t_38 => if (t_38 40 0) < 0 ∨ 2000 ≤ (t_38 40 0).toNatClampNeg then none else if ((t_38 42) (t_38 40 0).toNatClampNeg) < 0 ∨ 700 ≤ ((t_38 42) (t_38 40 0).toNatClampNeg).toNatClampNeg then none else if ((t_38 32) ((t_38 42) (t_38 40 0).toNatClampNeg).toNatClampNeg) = (7 : Int32) then if ((t_38 42) (t_38 40 0).toNatClampNeg) < 0 ∨ 700 ≤ ((t_38 42) (t_38 40 0).toNatClampNeg).toNatClampNeg then none else if (t_38 44 0) < 0 ∨ 700 ≤ (t_38 44 0).toNatClampNeg then none else letS (va_up t_38 45 (upd (t_38 45) (t_38 44 0).toNatClampNeg ((t_38 33) ((t_38 42) (t_38 40 0).toNatClampNeg).toNatClampNeg))) fun t_49 => Mo_flatten_174 F (Mo_flatten_28 F n) t_49 tL else if ((t_38 42) (t_38 40 0).toNatClampNeg) < 0 ∨ 700 ≤ ((t_38 42) (t_38 40 0).toNatClampNeg).toNatClampNeg then none else if ((t_38 32) ((t_38 42) (t_38 40 0).toNatClampNeg).toNatClampNeg) = (4 : Int32) then Mo_flatten_139 F (Mo_flatten_28 F n) t_38 tL ((t_38 42) (t_38 40 0).toNatClampNeg) (-2 : Int32) (t_38 44 0) else if ((t_38 42) (t_38 40 0).toNatClampNeg) < 0 ∨ 700 ≤ ((t_38 42) (t_38 40 0).toNatClampNeg).toNatClampNeg then none else if ((t_38 32) ((t_38 42) (t_38 40 0).toNatClampNeg).toNatClampNeg) = (3 : Int32) then Mo_flatten_139 F (Mo_flatten_28 F n) t_38 tL ((t_38 42) (t_38 40 0).toNatClampNeg) (-3 : Int32) (t_38 44 0) else if ((t_38 42) (t_38 40 0).toNatClampNeg) < 0 ∨ 700 ≤ ((t_38 42) (t_38 40 0).toNatClampNeg).toNatClampNeg then none else if ((t_38 32) ((t_38 42) (t_38 40 0).toNatClampNeg).toNatClampNeg) = (1 : Int32) then Mo_flatten_139 F (Mo_flatten_28 F n) t_38 tL ((t_38 42) (t_38 40 0).toNatClampNeg) (-4 : Int32) (t_38 44 0) else Mo_flatten_139 F (Mo_flatten_28 F n) t_38 tL ((t_38 42) (t_38 40 0).toNatClampNeg) (-5 : Int32) (t_38 44 0)
def Mo_flatten (F : Nat) (t : StI) (tL : StL) : Option (StI × StL) := letS (va_up t 44 (fun _ => (0 : Int32))) fun t_51 => letS (va_up t_51 40 (fun _ => (0 : Int32))) fun t_52 => if (t_52 31 0) = (-1 : Int32) then Mo_flatten_28 F F t_52 tL else (Mo_plan F t_52 tL (0 : Int32) (t_52 31 0) (0 : Int32)).bind fun r54 => Mo_flatten_28 F F r54.1 r54.2
set_option maxHeartbeats 4000000 in
set_option maxRecDepth 100000 in
theorem k_Mo_flatten_174 {p : Program} {l : Launch} {e : Env} {s : State} {m : MethodId} {args : Array Value} {below : List Frame} {meth : Method} {c : Code} {g : Gz} {A : Nat → Prop} {F : Nat} {a_t : Nat → Nat} {k28 : StI → StL → Option (StI × StL)} (hC : Cx prog_10_method_52_code 2 none R_Mo p s m args meth c g A A) : ∀ (t : StI) (tL : StL) (res : StI × StL), Mo_flatten_174 F k28 t tL = some res → (∀ (t : StI) (tL : StL), k28 t tL = some res → Go p l e rm_Mo_flatten s m args below meth c g A A 2 (MQ below (EV g ((pic_Mo g a_t res.1 res.2)) A) args s 0 0 A) ((pic_Mo g a_t t tL)) [(0, .ref (a_t 0))] 28 []) → Go p l e rm_Mo_flatten s m args below meth c g A A 2 (MQ below (EV g ((pic_Mo g a_t res.1 res.2)) A) args s 0 0 A) ((pic_Mo g a_t t tL)) [(0, .ref (a_t 0))] 174 [] := by
  obtain ⟨hx, hb, hr, hml, hown, htb, hlocks, hA, hAA, hG⟩ := id hC
  have hK := hG.1
  intro t tL res h hk28 H locs ls hP hD hS hl
  rw [Mo_flatten_174] at h
  refine lv_aload_n hx hb d_Mo_flatten_174 rfl (lv_at hl 0 rfl) ?_
  refine lv_dup hx hb d_Mo_flatten_175 rfl ?_
  refine va_get (D := gD g) (ci := 8) (v := .int (t 44 0)) (C := R_Mo) (T := T_Mo) (N := 64) hx hb htb in_Mo hown hK hP 0 rfl rfl 44 (by decide) (htb _ L_Mo_383) (fun _ h9 => h9) rfl d_Mo_flatten_176 ?_
  refine lv_iconst (v := 1) hx hb d_Mo_flatten_179 (by decide) ?_
  refine lv_iadd hx hb d_Mo_flatten_180 ?_
  refine va_put (D := gD g) (ci := 8) (v := .int ((t 44 0) + (1 : Int32))) (ty := .int) (C := R_Mo) (T := T_Mo) (N := 64) hx hb htb in_Mo ty_Mo ty_Mo_ok nm_Mo hown hK hP hD hS 0 rfl rfl 44 (by decide) (htb _ L_Mo_383) (fun _ h9 => h9) rfl (by decide +kernel) rfl rfl (Nat.le_of_ble_eq_true rfl) d_Mo_flatten_181 (fun H locs hP hD hS => ?_)
  obtain ⟨t_28, et_28, h⟩ := letS_el h
  have hP : va_P (gD g) vwCl ((pic_Mo g a_t t_28 tL)) H := by rw [et_28]; exact hP
  have hD : va_D A ((pic_Mo g a_t t_28 tL)) := by rw [et_28]; exact hD
  refine lv_goto (tgt := 28) hx hb d_Mo_flatten_184 (by decide) ?_
  exact hk28 _ _ h _ _ _ hP hD hS (lv_sub hl [0] rfl)
set_option maxHeartbeats 4000000 in
set_option maxRecDepth 100000 in
theorem k_Mo_flatten_162 {p : Program} {l : Launch} {e : Env} {s : State} {m : MethodId} {args : Array Value} {below : List Frame} {meth : Method} {c : Code} {g : Gz} {A : Nat → Prop} {F : Nat} {a_t : Nat → Nat} {k28 : StI → StL → Option (StI × StL)} (hC : Cx prog_10_method_52_code 2 none R_Mo p s m args meth c g A A) : ∀ (t : StI) (tL : StL) (x1 : Int32) (res : StI × StL), Mo_flatten_162 F k28 t tL x1 = some res → (∀ (t : StI) (tL : StL), k28 t tL = some res → Go p l e rm_Mo_flatten s m args below meth c g A A 2 (MQ below (EV g ((pic_Mo g a_t res.1 res.2)) A) args s 0 0 A) ((pic_Mo g a_t t tL)) [(0, .ref (a_t 0))] 28 []) → Go p l e rm_Mo_flatten s m args below meth c g A A 2 (MQ below (EV g ((pic_Mo g a_t res.1 res.2)) A) args s 0 0 A) ((pic_Mo g a_t t tL)) [(0, .ref (a_t 0)), (1, .int x1)] 162 [] := by
  obtain ⟨hx, hb, hr, hml, hown, htb, hlocks, hA, hAA, hG⟩ := id hC
  have hK := hG.1
  intro t tL x1 res h hk28 H locs ls hP hD hS hl
  rw [Mo_flatten_162] at h
  refine lv_aload_n hx hb d_Mo_flatten_162 rfl (lv_at hl 0 rfl) ?_
  refine lv_iconst (v := 0) hx hb d_Mo_flatten_163 (by decide) ?_
  refine lv_aload_n hx hb d_Mo_flatten_164 rfl (lv_at hl 0 rfl) ?_
  refine va_get (D := gD g) (ci := 8) (v := .ref (a_t 34)) (C := R_Mo) (T := T_Mo) (N := 64) hx hb htb in_Mo hown hK hP 0 rfl rfl 33 (by decide) (htb _ L_Mo_86) (fun _ h9 => h9) rfl d_Mo_flatten_165 ?_
  refine lv_iload_n hx hb d_Mo_flatten_168 rfl (lv_at hl 1 rfl) ?_
  by_cases c29 : (x1 < 0 ∨ 700 ≤ x1.toNatClampNeg)
  · replace h := (if_pos c29).symm.trans h
    cases h
  replace h := (if_neg c29).symm.trans h
  refine va_iald hx hb hK hP 15 0 rfl rfl c29 d_Mo_flatten_169 ?_
  refine lv_iconst (v := 0) hx hb d_Mo_flatten_170 (by decide) ?_
  obtain ⟨r30, hr30, h⟩ := Option.bind_eq_some_iff.mp h
  refine cl_V (wr := []) [0, 1, 2, 3, 4, 5, 6, 7, 8, 9, 10, 11, 12, 13, 14, 15, 16, 17, 18, 19, 20, 21, 22, 23, 24, 25, 26, 27, 28, 29, 30, 31, 32] [] rfl rfl rfl (by decide) hP hD hS hA (va_runV (As := [.int (0 : Int32), .int ((t 33) x1.toNatClampNeg), .int (0 : Int32)]) (rest := []) ⟨hx, hb, hml, hown, htb⟩ (c_Mo_plan l g F a_t t tL (0 : Int32) ((t 33) x1.toNatClampNeg) (0 : Int32) _ hr30 H.size) (cw_V htb mb_Mo_plan (htb _ L_Mo_386) rfl rfl ⟨Nat.le_of_ble_eq_true rfl, Nat.le_of_ble_eq_true rfl⟩) (pre_V (va_recv hK hP (ci := 8) (q0 := 0) rfl rfl) (pre_S [0, 1, 2, 3, 4, 5, 6, 7, 8, 9, 10, 11, 12, 13, 14, 15, 16, 17, 18, 19, 20, 21, 22, 23, 24, 25, 26, 27, 28, 29, 30, 31, 32] rfl rfl hP hD hS hA hAA hG)) rfl rfl hl.1 rfl (lv_room (Nat.le_of_ble_eq_true rfl)) d_Mo_flatten_171 ⟨Nat.zero_le _, Nat.zero_le _⟩) (fun H locs hP hD hS => ?_)
  have hP : va_P (gD g) vwCl ((pic_Mo g a_t r30.1 r30.2)) H := hP.sub [0, 1, 2, 3, 4, 5, 6, 7, 8, 9, 10, 11, 12, 13, 14, 15, 16, 17, 18, 19, 20, 21, 22, 23, 24, 25, 26, 27, 28, 29, 30, 31, 32] rfl
  have hD : va_D A ((pic_Mo g a_t r30.1 r30.2)) := hD.sub [0, 1, 2, 3, 4, 5, 6, 7, 8, 9, 10, 11, 12, 13, 14, 15, 16, 17, 18, 19, 20, 21, 22, 23, 24, 25, 26, 27, 28, 29, 30, 31, 32] rfl rfl
  exact k_Mo_flatten_174 hC _ _ _ h hk28 _ _ _ hP hD hS (lv_sub hl [0] rfl)
set_option maxHeartbeats 4000000 in
set_option maxRecDepth 100000 in
theorem k_Mo_flatten_139 {p : Program} {l : Launch} {e : Env} {s : State} {m : MethodId} {args : Array Value} {below : List Frame} {meth : Method} {c : Code} {g : Gz} {A : Nat → Prop} {F : Nat} {a_t : Nat → Nat} {k28 : StI → StL → Option (StI × StL)} (hC : Cx prog_10_method_52_code 2 none R_Mo p s m args meth c g A A) : ∀ (t : StI) (tL : StL) (x1 : Int32) (y0 : Int32) (y1 : Int32) (res : StI × StL), Mo_flatten_139 F k28 t tL x1 y0 y1 = some res → (∀ (t : StI) (tL : StL), k28 t tL = some res → Go p l e rm_Mo_flatten s m args below meth c g A A 2 (MQ below (EV g ((pic_Mo g a_t res.1 res.2)) A) args s 0 0 A) ((pic_Mo g a_t t tL)) [(0, .ref (a_t 0))] 28 []) → Go p l e rm_Mo_flatten s m args below meth c g A A 2 (MQ below (EV g ((pic_Mo g a_t res.1 res.2)) A) args s 0 0 A) ((pic_Mo g a_t t tL)) [(0, .ref (a_t 0)), (1, .int x1)] 139 [.int y0, .int y1, .ref (a_t 46)] := by
  obtain ⟨hx, hb, hr, hml, hown, htb, hlocks, hA, hAA, hG⟩ := id hC
  have hK := hG.1
  intro t tL x1 y0 y1 res h hk28 H locs ls hP hD hS hl
  rw [Mo_flatten_139] at h
  by_cases c32 : (y1 < 0 ∨ 700 ≤ y1.toNatClampNeg)
  · replace h := (if_pos c32).symm.trans h
    cases h
  replace h := (if_neg c32).symm.trans h
  refine va_iast hx hb hK hP hD hS 22 0 rfl rfl c32 d_Mo_flatten_139 (fun H locs hP hD hS => ?_)
  obtain ⟨t_31, et_31, h⟩ := letS_el h
  have hP : va_P (gD g) vwCl ((pic_Mo g a_t t_31 tL)) H := by rw [et_31]; exact hP
  have hD : va_D A ((pic_Mo g a_t t_31 tL)) := by rw [et_31]; exact hD
  refine lv_aload_n hx hb d_Mo_flatten_140 rfl (lv_at hl 0 rfl) ?_
  refine va_get (D := gD g) (ci := 8) (v := .ref (a_t 33)) (C := R_Mo) (T := T_Mo) (N := 64) hx hb htb in_Mo hown hK hP 0 rfl rfl 32 (by decide) (htb _ L_Mo_83) (fun _ h9 => h9) rfl d_Mo_flatten_141 ?_
  refine lv_iload_n hx hb d_Mo_flatten_144 rfl (lv_at hl 1 rfl) ?_
  by_cases c33 : (x1 < 0 ∨ 700 ≤ x1.toNatClampNeg)
  · replace h := (if_pos c33).symm.trans h
    cases h
  replace h := (if_neg c33).symm.trans h
  refine va_iald hx hb hK hP 14 0 rfl rfl c33 d_Mo_flatten_145 ?_
  refine lv_iconst (v := 4) hx hb d_Mo_flatten_146 (by decide) ?_
  refine lv_icmp_eq (tgt := 162) hx hb d_Mo_flatten_147 (by decide) (fun c34 => ?_) (fun c34 => ?_)
  · replace h := (if_pos c34).symm.trans h
    exact k_Mo_flatten_162 hC _ _ _ _ h hk28 _ _ _ hP hD hS (lv_sub hl [0, 1] rfl)
  · replace h := (if_neg c34).symm.trans h
    refine lv_aload_n hx hb d_Mo_flatten_150 rfl (lv_at hl 0 rfl) ?_
    refine lv_iconst (v := 0) hx hb d_Mo_flatten_151 (by decide) ?_
    refine lv_aload_n hx hb d_Mo_flatten_152 rfl (lv_at hl 0 rfl) ?_
    refine va_get (D := gD g) (ci := 8) (v := .ref (a_t 35)) (C := R_Mo) (T := T_Mo) (N := 64) hx hb htb in_Mo hown hK hP 0 rfl rfl 34 (by decide) (htb _ L_Mo_89) (fun _ h9 => h9) rfl d_Mo_flatten_153 ?_
    refine lv_iload_n hx hb d_Mo_flatten_156 rfl (lv_at hl 1 rfl) ?_
    by_cases c35 : (x1 < 0 ∨ 700 ≤ x1.toNatClampNeg)
    · replace h := (if_pos c35).symm.trans h
      cases h
    replace h := (if_neg c35).symm.trans h
    refine va_iald hx hb hK hP 16 0 rfl rfl c35 d_Mo_flatten_157 ?_
    refine lv_iconst (v := 0) hx hb d_Mo_flatten_158 (by decide) ?_
    obtain ⟨r36, hr36, h⟩ := Option.bind_eq_some_iff.mp h
    refine cl_V (wr := []) [0, 1, 2, 3, 4, 5, 6, 7, 8, 9, 10, 11, 12, 13, 14, 15, 16, 17, 18, 19, 20, 21, 22, 23, 24, 25, 26, 27, 28, 29, 30, 31, 32] [] rfl rfl rfl (by decide) hP hD hS hA (va_runV (As := [.int (0 : Int32), .int ((t_31 34) x1.toNatClampNeg), .int (0 : Int32)]) (rest := []) ⟨hx, hb, hml, hown, htb⟩ (c_Mo_plan l g F a_t t_31 tL (0 : Int32) ((t_31 34) x1.toNatClampNeg) (0 : Int32) _ hr36 H.size) (cw_V htb mb_Mo_plan (htb _ L_Mo_386) rfl rfl ⟨Nat.le_of_ble_eq_true rfl, Nat.le_of_ble_eq_true rfl⟩) (pre_V (va_recv hK hP (ci := 8) (q0 := 0) rfl rfl) (pre_S [0, 1, 2, 3, 4, 5, 6, 7, 8, 9, 10, 11, 12, 13, 14, 15, 16, 17, 18, 19, 20, 21, 22, 23, 24, 25, 26, 27, 28, 29, 30, 31, 32] rfl rfl hP hD hS hA hAA hG)) rfl rfl hl.1 rfl (lv_room (Nat.le_of_ble_eq_true rfl)) d_Mo_flatten_159 ⟨Nat.zero_le _, Nat.zero_le _⟩) (fun H locs hP hD hS => ?_)
    have hP : va_P (gD g) vwCl ((pic_Mo g a_t r36.1 r36.2)) H := hP.sub [0, 1, 2, 3, 4, 5, 6, 7, 8, 9, 10, 11, 12, 13, 14, 15, 16, 17, 18, 19, 20, 21, 22, 23, 24, 25, 26, 27, 28, 29, 30, 31, 32] rfl
    have hD : va_D A ((pic_Mo g a_t r36.1 r36.2)) := hD.sub [0, 1, 2, 3, 4, 5, 6, 7, 8, 9, 10, 11, 12, 13, 14, 15, 16, 17, 18, 19, 20, 21, 22, 23, 24, 25, 26, 27, 28, 29, 30, 31, 32] rfl rfl
    exact k_Mo_flatten_162 hC _ _ _ _ h hk28 _ _ _ hP hD hS (lv_sub hl [0, 1] rfl)
set_option maxHeartbeats 4000000 in
set_option maxRecDepth 100000 in
theorem k_Mo_flatten_28 {p : Program} {l : Launch} {e : Env} {s : State} {m : MethodId} {args : Array Value} {below : List Frame} {meth : Method} {c : Code} {g : Gz} {A : Nat → Prop} {F : Nat} {a_t : Nat → Nat} (hC : Cx prog_10_method_52_code 2 none R_Mo p s m args meth c g A A) : ∀ (n : Nat) (t : StI) (tL : StL) (res : StI × StL), Mo_flatten_28 F n t tL = some res → Go p l e rm_Mo_flatten s m args below meth c g A A 2 (MQ below (EV g ((pic_Mo g a_t res.1 res.2)) A) args s 0 0 A) ((pic_Mo g a_t t tL)) [(0, .ref (a_t 0))] 28 [] := by
  obtain ⟨hx, hb, hr, hml, hown, htb, hlocks, hA, hAA, hG⟩ := id hC
  have hK := hG.1
  intro n
  induction n with
  | zero => intro t tL res h; rw [Mo_flatten_28] at h; cases h
  | succ n ih =>
    intro t tL res h H locs ls hP hD hS hl
    rw [Mo_flatten_28] at h
    refine lv_aload_n hx hb d_Mo_flatten_28 rfl (lv_at hl 0 rfl) ?_
    refine va_get (D := gD g) (ci := 8) (v := .int (t 40 0)) (C := R_Mo) (T := T_Mo) (N := 64) hx hb htb in_Mo hown hK hP 0 rfl rfl 40 (by decide) (htb _ L_Mo_380) (fun _ h9 => h9) rfl d_Mo_flatten_29 ?_
    refine lv_if_le (tgt := 187) hx hb d_Mo_flatten_32 (by decide) (fun c37 => ?_) (fun c37 => ?_)
    · replace h := (if_pos c37).symm.trans h
      cases h
      exact W.vret hx hb hr (fun t ht hW => ⟨⟨(), rfl, trivial, by rw [ht]; exact hP, hD⟩, hS.F ht⟩) hS.2.2 d_Mo_flatten_187
    · replace h := (if_neg c37).symm.trans h
      refine lv_aload_n hx hb d_Mo_flatten_35 rfl (lv_at hl 0 rfl) ?_
      refine lv_dup hx hb d_Mo_flatten_36 rfl ?_
      refine va_get (D := gD g) (ci := 8) (v := .int (t 40 0)) (C := R_Mo) (T := T_Mo) (N := 64) hx hb htb in_Mo hown hK hP 0 rfl rfl 40 (by decide) (htb _ L_Mo_380) (fun _ h9 => h9) rfl d_Mo_flatten_37 ?_
      refine lv_iconst (v := 1) hx hb d_Mo_flatten_40 (by decide) ?_
      refine lv_isub hx hb d_Mo_flatten_41 ?_
      refine va_put (D := gD g) (ci := 8) (v := .int ((t 40 0) - (1 : Int32))) (ty := .int) (C := R_Mo) (T := T_Mo) (N := 64) hx hb htb in_Mo ty_Mo ty_Mo_ok nm_Mo hown hK hP hD hS 0 rfl rfl 40 (by decide) (htb _ L_Mo_380) (fun _ h9 => h9) rfl (by decide +kernel) rfl rfl (Nat.le_of_ble_eq_true rfl) d_Mo_flatten_42 (fun H locs hP hD hS => ?_)
      obtain ⟨t_38, et_38, h⟩ := letS_el h
      have hP : va_P (gD g) vwCl ((pic_Mo g a_t t_38 tL)) H := by rw [et_38]; exact hP
      have hD : va_D A ((pic_Mo g a_t t_38 tL)) := by rw [et_38]; exact hD
      refine lv_aload_n hx hb d_Mo_flatten_45 rfl (lv_at hl 0 rfl) ?_
      refine va_get (D := gD g) (ci := 8) (v := .ref (a_t 43)) (C := R_Mo) (T := T_Mo) (N := 64) hx hb htb in_Mo hown hK hP 0 rfl rfl 42 (by decide) (htb _ L_Mo_101) (fun _ h9 => h9) rfl d_Mo_flatten_46 ?_
      refine lv_aload_n hx hb d_Mo_flatten_49 rfl (lv_at hl 0 rfl) ?_
      refine va_get (D := gD g) (ci := 8) (v := .int (t_38 40 0)) (C := R_Mo) (T := T_Mo) (N := 64) hx hb htb in_Mo hown hK hP 0 rfl rfl 40 (by decide) (htb _ L_Mo_380) (fun _ h9 => h9) rfl d_Mo_flatten_50 ?_
      by_cases c39 : ((t_38 40 0) < 0 ∨ 2000 ≤ (t_38 40 0).toNatClampNeg)
      · replace h := (if_pos c39).symm.trans h
        cases h
      replace h := (if_neg c39).symm.trans h
      refine va_iald hx hb hK hP 20 0 rfl rfl c39 d_Mo_flatten_53 ?_
      refine lv_istore_n (lv' := [(1, .int ((t_38 42) (t_38 40 0).toNatClampNeg)), (0, .ref (a_t 0))]) hx hb d_Mo_flatten_54 rfl hl (by decide) rfl (fun ls hl => ?_)
      refine lv_aload_n hx hb d_Mo_flatten_55 rfl (lv_at hl 1 rfl) ?_
      refine va_get (D := gD g) (ci := 8) (v := .ref (a_t 33)) (C := R_Mo) (T := T_Mo) (N := 64) hx hb htb in_Mo hown hK hP 0 rfl rfl 32 (by decide) (htb _ L_Mo_83) (fun _ h9 => h9) rfl d_Mo_flatten_56 ?_
      refine lv_iload_n hx hb d_Mo_flatten_59 rfl (lv_at hl 0 rfl) ?_
      by_cases c40 : (((t_38 42) (t_38 40 0).toNatClampNeg) < 0 ∨ 700 ≤ ((t_38 42) (t_38 40 0).toNatClampNeg).toNatClampNeg)
      · replace h := (if_pos c40).symm.trans h
        cases h
      replace h := (if_neg c40).symm.trans h
      refine va_iald hx hb hK hP 14 0 rfl rfl c40 d_Mo_flatten_60 ?_
      refine lv_bipush (v := 7) hx hb d_Mo_flatten_61 (by decide) ?_
      refine lv_icmp_ne (tgt := 84) hx hb d_Mo_flatten_63 (by decide) (fun c41 => ?_) (fun c41 => ?_)
      · replace h := (if_neg c41).symm.trans h
        refine lv_aload_n hx hb d_Mo_flatten_84 rfl (lv_at hl 1 rfl) ?_
        refine va_get (D := gD g) (ci := 8) (v := .ref (a_t 46)) (C := R_Mo) (T := T_Mo) (N := 64) hx hb htb in_Mo hown hK hP 0 rfl rfl 45 (by decide) (htb _ L_Mo_107) (fun _ h9 => h9) rfl d_Mo_flatten_85 ?_
        refine lv_aload_n hx hb d_Mo_flatten_88 rfl (lv_at hl 1 rfl) ?_
        refine va_get (D := gD g) (ci := 8) (v := .int (t_38 44 0)) (C := R_Mo) (T := T_Mo) (N := 64) hx hb htb in_Mo hown hK hP 0 rfl rfl 44 (by decide) (htb _ L_Mo_383) (fun _ h9 => h9) rfl d_Mo_flatten_89 ?_
        refine lv_aload_n hx hb d_Mo_flatten_92 rfl (lv_at hl 1 rfl) ?_
        refine va_get (D := gD g) (ci := 8) (v := .ref (a_t 33)) (C := R_Mo) (T := T_Mo) (N := 64) hx hb htb in_Mo hown hK hP 0 rfl rfl 32 (by decide) (htb _ L_Mo_83) (fun _ h9 => h9) rfl d_Mo_flatten_93 ?_
        refine lv_iload_n hx hb d_Mo_flatten_96 rfl (lv_at hl 0 rfl) ?_
        by_cases c42 : (((t_38 42) (t_38 40 0).toNatClampNeg) < 0 ∨ 700 ≤ ((t_38 42) (t_38 40 0).toNatClampNeg).toNatClampNeg)
        · replace h := (if_pos c42).symm.trans h
          cases h
        replace h := (if_neg c42).symm.trans h
        refine va_iald hx hb hK hP 14 0 rfl rfl c42 d_Mo_flatten_97 ?_
        refine lv_iconst (v := 4) hx hb d_Mo_flatten_98 (by decide) ?_
        refine lv_icmp_ne (tgt := 107) hx hb d_Mo_flatten_99 (by decide) (fun c43 => ?_) (fun c43 => ?_)
        · replace h := (if_neg c43).symm.trans h
          refine lv_aload_n hx hb d_Mo_flatten_107 rfl (lv_at hl 1 rfl) ?_
          refine va_get (D := gD g) (ci := 8) (v := .ref (a_t 33)) (C := R_Mo) (T := T_Mo) (N := 64) hx hb htb in_Mo hown hK hP 0 rfl rfl 32 (by decide) (htb _ L_Mo_83) (fun _ h9 => h9) rfl d_Mo_flatten_108 ?_
          refine lv_iload_n hx hb d_Mo_flatten_111 rfl (lv_at hl 0 rfl) ?_
          by_cases c44 : (((t_38 42) (t_38 40 0).toNatClampNeg) < 0 ∨ 700 ≤ ((t_38 42) (t_38 40 0).toNatClampNeg).toNatClampNeg)
          · replace h := (if_pos c44).symm.trans h
            cases h
          replace h := (if_neg c44).symm.trans h
          refine va_iald hx hb hK hP 14 0 rfl rfl c44 d_Mo_flatten_112 ?_
          refine lv_iconst (v := 3) hx hb d_Mo_flatten_113 (by decide) ?_
          refine lv_icmp_ne (tgt := 122) hx hb d_Mo_flatten_114 (by decide) (fun c45 => ?_) (fun c45 => ?_)
          · replace h := (if_neg c45).symm.trans h
            refine lv_aload_n hx hb d_Mo_flatten_122 rfl (lv_at hl 1 rfl) ?_
            refine va_get (D := gD g) (ci := 8) (v := .ref (a_t 33)) (C := R_Mo) (T := T_Mo) (N := 64) hx hb htb in_Mo hown hK hP 0 rfl rfl 32 (by decide) (htb _ L_Mo_83) (fun _ h9 => h9) rfl d_Mo_flatten_123 ?_
            refine lv_iload_n hx hb d_Mo_flatten_126 rfl (lv_at hl 0 rfl) ?_
            by_cases c46 : (((t_38 42) (t_38 40 0).toNatClampNeg) < 0 ∨ 700 ≤ ((t_38 42) (t_38 40 0).toNatClampNeg).toNatClampNeg)
            · replace h := (if_pos c46).symm.trans h
              cases h
            replace h := (if_neg c46).symm.trans h
            refine va_iald hx hb hK hP 14 0 rfl rfl c46 d_Mo_flatten_127 ?_
            refine lv_iconst (v := 1) hx hb d_Mo_flatten_128 (by decide) ?_
            refine lv_icmp_ne (tgt := 137) hx hb d_Mo_flatten_129 (by decide) (fun c47 => ?_) (fun c47 => ?_)
            · replace h := (if_neg c47).symm.trans h
              refine lv_bipush (v := -5) hx hb d_Mo_flatten_137 (by decide) ?_
              exact k_Mo_flatten_139 hC _ _ _ _ _ _ h (fun z0 z1 hz => ih z0 z1 _ hz) _ _ _ hP hD hS (lv_sub hl [1, 0] rfl)
            · replace h := (if_pos c47).symm.trans h
              refine lv_bipush (v := -4) hx hb d_Mo_flatten_132 (by decide) ?_
              refine lv_goto (tgt := 139) hx hb d_Mo_flatten_134 (by decide) ?_
              exact k_Mo_flatten_139 hC _ _ _ _ _ _ h (fun z0 z1 hz => ih z0 z1 _ hz) _ _ _ hP hD hS (lv_sub hl [1, 0] rfl)
          · replace h := (if_pos c45).symm.trans h
            refine lv_bipush (v := -3) hx hb d_Mo_flatten_117 (by decide) ?_
            refine lv_goto (tgt := 139) hx hb d_Mo_flatten_119 (by decide) ?_
            exact k_Mo_flatten_139 hC _ _ _ _ _ _ h (fun z0 z1 hz => ih z0 z1 _ hz) _ _ _ hP hD hS (lv_sub hl [1, 0] rfl)
        · replace h := (if_pos c43).symm.trans h
          refine lv_bipush (v := -2) hx hb d_Mo_flatten_102 (by decide) ?_
          refine lv_goto (tgt := 139) hx hb d_Mo_flatten_104 (by decide) ?_
          exact k_Mo_flatten_139 hC _ _ _ _ _ _ h (fun z0 z1 hz => ih z0 z1 _ hz) _ _ _ hP hD hS (lv_sub hl [1, 0] rfl)
      · replace h := (if_pos c41).symm.trans h
        refine lv_aload_n hx hb d_Mo_flatten_66 rfl (lv_at hl 1 rfl) ?_
        refine va_get (D := gD g) (ci := 8) (v := .ref (a_t 46)) (C := R_Mo) (T := T_Mo) (N := 64) hx hb htb in_Mo hown hK hP 0 rfl rfl 45 (by decide) (htb _ L_Mo_107) (fun _ h9 => h9) rfl d_Mo_flatten_67 ?_
        refine lv_aload_n hx hb d_Mo_flatten_70 rfl (lv_at hl 1 rfl) ?_
        refine va_get (D := gD g) (ci := 8) (v := .int (t_38 44 0)) (C := R_Mo) (T := T_Mo) (N := 64) hx hb htb in_Mo hown hK hP 0 rfl rfl 44 (by decide) (htb _ L_Mo_383) (fun _ h9 => h9) rfl d_Mo_flatten_71 ?_
        refine lv_aload_n hx hb d_Mo_flatten_74 rfl (lv_at hl 1 rfl) ?_
        refine va_get (D := gD g) (ci := 8) (v := .ref (a_t 34)) (C := R_Mo) (T := T_Mo) (N := 64) hx hb htb in_Mo hown hK hP 0 rfl rfl 33 (by decide) (htb _ L_Mo_86) (fun _ h9 => h9) rfl d_Mo_flatten_75 ?_
        refine lv_iload_n hx hb d_Mo_flatten_78 rfl (lv_at hl 0 rfl) ?_
        by_cases c48 : (((t_38 42) (t_38 40 0).toNatClampNeg) < 0 ∨ 700 ≤ ((t_38 42) (t_38 40 0).toNatClampNeg).toNatClampNeg)
        · replace h := (if_pos c48).symm.trans h
          cases h
        replace h := (if_neg c48).symm.trans h
        refine va_iald hx hb hK hP 15 0 rfl rfl c48 d_Mo_flatten_79 ?_
        by_cases c50 : ((t_38 44 0) < 0 ∨ 700 ≤ (t_38 44 0).toNatClampNeg)
        · replace h := (if_pos c50).symm.trans h
          cases h
        replace h := (if_neg c50).symm.trans h
        refine va_iast hx hb hK hP hD hS 22 0 rfl rfl c50 d_Mo_flatten_80 (fun H locs hP hD hS => ?_)
        obtain ⟨t_49, et_49, h⟩ := letS_el h
        have hP : va_P (gD g) vwCl ((pic_Mo g a_t t_49 tL)) H := by rw [et_49]; exact hP
        have hD : va_D A ((pic_Mo g a_t t_49 tL)) := by rw [et_49]; exact hD
        refine lv_goto (tgt := 174) hx hb d_Mo_flatten_81 (by decide) ?_
        exact k_Mo_flatten_174 hC _ _ _ h (fun z0 z1 hz => ih z0 z1 _ hz) _ _ _ hP hD hS (lv_sub hl [1] rfl)
set_option maxHeartbeats 4000000 in
set_option maxRecDepth 100000 in
theorem k_Mo_flatten {p : Program} {l : Launch} {e : Env} {s : State} {m : MethodId} {args : Array Value} {below : List Frame} {meth : Method} {c : Code} {g : Gz} {A : Nat → Prop} {F : Nat} {a_t : Nat → Nat} (hC : Cx prog_10_method_52_code 2 none R_Mo p s m args meth c g A A) : ∀ (t : StI) (tL : StL) (res : StI × StL), Mo_flatten F t tL = some res → Go p l e rm_Mo_flatten s m args below meth c g A A 2 (MQ below (EV g ((pic_Mo g a_t res.1 res.2)) A) args s 0 0 A) ((pic_Mo g a_t t tL)) [(0, .ref (a_t 0))] 0 [] := by
  obtain ⟨hx, hb, hr, hml, hown, htb, hlocks, hA, hAA, hG⟩ := id hC
  have hK := hG.1
  intro t tL res h H locs ls hP hD hS hl
  rw [Mo_flatten] at h
  refine lv_aload_n hx hb d_Mo_flatten_0 rfl (lv_at hl 0 rfl) ?_
  refine lv_iconst (v := 0) hx hb d_Mo_flatten_1 (by decide) ?_
  refine va_put (D := gD g) (ci := 8) (v := .int (0 : Int32)) (ty := .int) (C := R_Mo) (T := T_Mo) (N := 64) hx hb htb in_Mo ty_Mo ty_Mo_ok nm_Mo hown hK hP hD hS 0 rfl rfl 44 (by decide) (htb _ L_Mo_383) (fun _ h9 => h9) rfl (by decide +kernel) rfl rfl (Nat.le_of_ble_eq_true rfl) d_Mo_flatten_2 (fun H locs hP hD hS => ?_)
  obtain ⟨t_51, et_51, h⟩ := letS_el h
  have hP : va_P (gD g) vwCl ((pic_Mo g a_t t_51 tL)) H := by rw [et_51]; exact hP
  have hD : va_D A ((pic_Mo g a_t t_51 tL)) := by rw [et_51]; exact hD
  refine lv_aload_n hx hb d_Mo_flatten_5 rfl (lv_at hl 0 rfl) ?_
  refine lv_iconst (v := 0) hx hb d_Mo_flatten_6 (by decide) ?_
  refine va_put (D := gD g) (ci := 8) (v := .int (0 : Int32)) (ty := .int) (C := R_Mo) (T := T_Mo) (N := 64) hx hb htb in_Mo ty_Mo ty_Mo_ok nm_Mo hown hK hP hD hS 0 rfl rfl 40 (by decide) (htb _ L_Mo_380) (fun _ h9 => h9) rfl (by decide +kernel) rfl rfl (Nat.le_of_ble_eq_true rfl) d_Mo_flatten_7 (fun H locs hP hD hS => ?_)
  obtain ⟨t_52, et_52, h⟩ := letS_el h
  have hP : va_P (gD g) vwCl ((pic_Mo g a_t t_52 tL)) H := by rw [et_52]; exact hP
  have hD : va_D A ((pic_Mo g a_t t_52 tL)) := by rw [et_52]; exact hD
  refine lv_aload_n hx hb d_Mo_flatten_10 rfl (lv_at hl 0 rfl) ?_
  refine va_get (D := gD g) (ci := 8) (v := .int (t_52 31 0)) (C := R_Mo) (T := T_Mo) (N := 64) hx hb htb in_Mo hown hK hP 0 rfl rfl 31 (by decide) (htb _ L_Mo_141) (fun _ h9 => h9) rfl d_Mo_flatten_11 ?_
  refine lv_iconst (v := -1) hx hb d_Mo_flatten_14 (by decide) ?_
  refine lv_icmp_eq (tgt := 28) hx hb d_Mo_flatten_15 (by decide) (fun c53 => ?_) (fun c53 => ?_)
  · replace h := (if_pos c53).symm.trans h
    exact k_Mo_flatten_28 hC F _ _ _ h _ _ _ hP hD hS (lv_sub hl [0] rfl)
  · replace h := (if_neg c53).symm.trans h
    refine lv_aload_n hx hb d_Mo_flatten_18 rfl (lv_at hl 0 rfl) ?_
    refine lv_iconst (v := 0) hx hb d_Mo_flatten_19 (by decide) ?_
    refine lv_aload_n hx hb d_Mo_flatten_20 rfl (lv_at hl 0 rfl) ?_
    refine va_get (D := gD g) (ci := 8) (v := .int (t_52 31 0)) (C := R_Mo) (T := T_Mo) (N := 64) hx hb htb in_Mo hown hK hP 0 rfl rfl 31 (by decide) (htb _ L_Mo_141) (fun _ h9 => h9) rfl d_Mo_flatten_21 ?_
    refine lv_iconst (v := 0) hx hb d_Mo_flatten_24 (by decide) ?_
    obtain ⟨r54, hr54, h⟩ := Option.bind_eq_some_iff.mp h
    refine cl_V (wr := []) [0, 1, 2, 3, 4, 5, 6, 7, 8, 9, 10, 11, 12, 13, 14, 15, 16, 17, 18, 19, 20, 21, 22, 23, 24, 25, 26, 27, 28, 29, 30, 31, 32] [] rfl rfl rfl (by decide) hP hD hS hA (va_runV (As := [.int (0 : Int32), .int (t_52 31 0), .int (0 : Int32)]) (rest := []) ⟨hx, hb, hml, hown, htb⟩ (c_Mo_plan l g F a_t t_52 tL (0 : Int32) (t_52 31 0) (0 : Int32) _ hr54 H.size) (cw_V htb mb_Mo_plan (htb _ L_Mo_386) rfl rfl ⟨Nat.le_of_ble_eq_true rfl, Nat.le_of_ble_eq_true rfl⟩) (pre_V (va_recv hK hP (ci := 8) (q0 := 0) rfl rfl) (pre_S [0, 1, 2, 3, 4, 5, 6, 7, 8, 9, 10, 11, 12, 13, 14, 15, 16, 17, 18, 19, 20, 21, 22, 23, 24, 25, 26, 27, 28, 29, 30, 31, 32] rfl rfl hP hD hS hA hAA hG)) rfl rfl hl.1 rfl (lv_room (Nat.le_of_ble_eq_true rfl)) d_Mo_flatten_25 ⟨Nat.zero_le _, Nat.zero_le _⟩) (fun H locs hP hD hS => ?_)
    have hP : va_P (gD g) vwCl ((pic_Mo g a_t r54.1 r54.2)) H := hP.sub [0, 1, 2, 3, 4, 5, 6, 7, 8, 9, 10, 11, 12, 13, 14, 15, 16, 17, 18, 19, 20, 21, 22, 23, 24, 25, 26, 27, 28, 29, 30, 31, 32] rfl
    have hD : va_D A ((pic_Mo g a_t r54.1 r54.2)) := hD.sub [0, 1, 2, 3, 4, 5, 6, 7, 8, 9, 10, 11, 12, 13, 14, 15, 16, 17, 18, 19, 20, 21, 22, 23, 24, 25, 26, 27, 28, 29, 30, 31, 32] rfl rfl
    exact k_Mo_flatten_28 hC F _ _ _ h _ _ _ hP hD hS (lv_sub hl [0] rfl)
theorem c_Mo_flatten (l : Launch) (g : Gz) (F : Nat) (a_t : Nat → Nat) (t : StI) (tL : StL) (res : StI × StL) (h : Mo_flatten F t tL = some res) : ∀ sz : Nat, Met l y_Mo_flatten (.code y_Mo_flatten prog_10_method_52_code 2 none :: TBL) rm_Mo_flatten (va_Pc [.ref (a_t 0)] (Pre0 g ((pic_Mo g a_t t tL)) sz)) (EV g ((pic_Mo g a_t res.1 res.2)) (va_A ((pic_Mo g a_t t tL)) sz)) 0 0 (va_A ((pic_Mo g a_t t tL)) sz) :=
  ct_w (Qc := fun A => EV g ((pic_Mo g a_t res.1 res.2)) A) (by decide) (Nat.le_of_ble_eq_true rfl) (fun p e s m args below meth c A hC => k_Mo_flatten hC t tL res h)
def Mo_tree (F : Nat) (t : StI) (tL : StL) (x1 : Int32) : Option (Int32 × StI × StL) := letS (va_up t 0 (fun _ => (0 : Int32))) fun t_6 => (Mo_flatten F t_6 tL).bind fun r7 => if x1 < 0 then some ((-1 : Int32), r7.1, r7.2) else if (r7.1 44 0) ≤ x1 then some ((-1 : Int32), r7.1, r7.2) else if x1 < 0 ∨ 700 ≤ x1.toNatClampNeg then none else some (((r7.1 45) x1.toNatClampNeg), r7.1, r7.2)
set_option maxHeartbeats 4000000 in
set_option maxRecDepth 100000 in
theorem k_Mo_tree {p : Program} {l : Launch} {e : Env} {s : State} {m : MethodId} {args : Array Value} {below : List Frame} {meth : Method} {c : Code} {g : Gz} {A : Nat → Prop} {F : Nat} {a_t : Nat → Nat} (hC : Cx prog_10_method_53_code 2 (some .int) R_Mo p s m args meth c g A A) : ∀ (t : StI) (tL : StL) (x1 : Int32) (res : Int32 × StI × StL), Mo_tree F t tL x1 = some res → Go p l e rm_Mo_tree s m args below meth c g A A 2 (MQ below (EI g ((pic_Mo g a_t res.2.1 res.2.2)) res.1 A) args s 0 0 A) ((pic_Mo g a_t t tL)) [(0, .ref (a_t 0)), (1, .int x1)] 0 [] := by
  obtain ⟨hx, hb, hr, hml, hown, htb, hlocks, hA, hAA, hG⟩ := id hC
  have hK := hG.1
  intro t tL x1 res h H locs ls hP hD hS hl
  rw [Mo_tree] at h
  refine lv_aload_n hx hb d_Mo_tree_0 rfl (lv_at hl 0 rfl) ?_
  refine lv_iconst (v := 0) hx hb d_Mo_tree_1 (by decide) ?_
  refine va_put (D := gD g) (ci := 8) (v := .int (0 : Int32)) (ty := .int) (C := R_Mo) (T := T_Mo) (N := 64) hx hb htb in_Mo ty_Mo ty_Mo_ok nm_Mo hown hK hP hD hS 0 rfl rfl 0 (by decide) (htb _ L_Mo_144) (fun _ h9 => h9) rfl (by decide +kernel) rfl rfl (Nat.le_of_ble_eq_true rfl) d_Mo_tree_2 (fun H locs hP hD hS => ?_)
  obtain ⟨t_6, et_6, h⟩ := letS_el h
  have hP : va_P (gD g) vwCl ((pic_Mo g a_t t_6 tL)) H := by rw [et_6]; exact hP
  have hD : va_D A ((pic_Mo g a_t t_6 tL)) := by rw [et_6]; exact hD
  refine lv_aload_n hx hb d_Mo_tree_5 rfl (lv_at hl 0 rfl) ?_
  obtain ⟨r7, hr7, h⟩ := Option.bind_eq_some_iff.mp h
  refine cl_V (wr := []) [0, 1, 2, 3, 4, 5, 6, 7, 8, 9, 10, 11, 12, 13, 14, 15, 16, 17, 18, 19, 20, 21, 22, 23, 24, 25, 26, 27, 28, 29, 30, 31, 32] [] rfl rfl rfl (by decide) hP hD hS hA (va_runV (As := []) (rest := []) ⟨hx, hb, hml, hown, htb⟩ (c_Mo_flatten l g F a_t t_6 tL _ hr7 H.size) (cw_V htb mb_Mo_flatten (htb _ L_Mo_390) rfl rfl ⟨Nat.le_of_ble_eq_true rfl, Nat.le_of_ble_eq_true rfl⟩) (pre_V (va_recv hK hP (ci := 8) (q0 := 0) rfl rfl) (pre_S [0, 1, 2, 3, 4, 5, 6, 7, 8, 9, 10, 11, 12, 13, 14, 15, 16, 17, 18, 19, 20, 21, 22, 23, 24, 25, 26, 27, 28, 29, 30, 31, 32] rfl rfl hP hD hS hA hAA hG)) rfl rfl hl.1 rfl (lv_room (Nat.le_of_ble_eq_true rfl)) d_Mo_tree_6 ⟨Nat.zero_le _, Nat.zero_le _⟩) (fun H locs hP hD hS => ?_)
  have hP : va_P (gD g) vwCl ((pic_Mo g a_t r7.1 r7.2)) H := hP.sub [0, 1, 2, 3, 4, 5, 6, 7, 8, 9, 10, 11, 12, 13, 14, 15, 16, 17, 18, 19, 20, 21, 22, 23, 24, 25, 26, 27, 28, 29, 30, 31, 32] rfl
  have hD : va_D A ((pic_Mo g a_t r7.1 r7.2)) := hD.sub [0, 1, 2, 3, 4, 5, 6, 7, 8, 9, 10, 11, 12, 13, 14, 15, 16, 17, 18, 19, 20, 21, 22, 23, 24, 25, 26, 27, 28, 29, 30, 31, 32] rfl rfl
  refine lv_iload_n hx hb d_Mo_tree_9 rfl (lv_at hl 1 rfl) ?_
  refine lv_if_lt (tgt := 30) hx hb d_Mo_tree_10 (by decide) (fun c8 => ?_) (fun c8 => ?_)
  · replace h := (if_pos c8).symm.trans h
    refine lv_iconst (v := -1) hx hb d_Mo_tree_30 (by decide) ?_
    cases h
    exact W.iret hx hb hr (fun t ht hW => ⟨⟨_, (), rfl, rfl, by rw [ht]; exact hP, hD⟩, hS.F ht⟩) hS.2.2 d_Mo_tree_31
  · replace h := (if_neg c8).symm.trans h
    refine lv_iload_n hx hb d_Mo_tree_13 rfl (lv_at hl 1 rfl) ?_
    refine lv_aload_n hx hb d_Mo_tree_14 rfl (lv_at hl 0 rfl) ?_
    refine va_get (D := gD g) (ci := 8) (v := .int (r7.1 44 0)) (C := R_Mo) (T := T_Mo) (N := 64) hx hb htb in_Mo hown hK hP 0 rfl rfl 44 (by decide) (htb _ L_Mo_383) (fun _ h9 => h9) rfl d_Mo_tree_15 ?_
    refine lv_icmp_ge (tgt := 30) hx hb d_Mo_tree_18 (by decide) (fun c9 => ?_) (fun c9 => ?_)
    · replace h := (if_pos c9).symm.trans h
      refine lv_iconst (v := -1) hx hb d_Mo_tree_30 (by decide) ?_
      cases h
      exact W.iret hx hb hr (fun t ht hW => ⟨⟨_, (), rfl, rfl, by rw [ht]; exact hP, hD⟩, hS.F ht⟩) hS.2.2 d_Mo_tree_31
    · replace h := (if_neg c9).symm.trans h
      refine lv_aload_n hx hb d_Mo_tree_21 rfl (lv_at hl 0 rfl) ?_
      refine va_get (D := gD g) (ci := 8) (v := .ref (a_t 46)) (C := R_Mo) (T := T_Mo) (N := 64) hx hb htb in_Mo hown hK hP 0 rfl rfl 45 (by decide) (htb _ L_Mo_107) (fun _ h9 => h9) rfl d_Mo_tree_22 ?_
      refine lv_iload_n hx hb d_Mo_tree_25 rfl (lv_at hl 1 rfl) ?_
      by_cases c10 : (x1 < 0 ∨ 700 ≤ x1.toNatClampNeg)
      · replace h := (if_pos c10).symm.trans h
        cases h
      replace h := (if_neg c10).symm.trans h
      refine va_iald hx hb hK hP 22 0 rfl rfl c10 d_Mo_tree_26 ?_
      refine lv_goto (tgt := 31) hx hb d_Mo_tree_27 (by decide) ?_
      cases h
      exact W.iret hx hb hr (fun t ht hW => ⟨⟨_, (), rfl, rfl, by rw [ht]; exact hP, hD⟩, hS.F ht⟩) hS.2.2 d_Mo_tree_31
theorem c_Mo_tree (l : Launch) (g : Gz) (F : Nat) (a_t : Nat → Nat) (t : StI) (tL : StL) (x1 : Int32) (res : Int32 × StI × StL) (h : Mo_tree F t tL x1 = some res) : ∀ sz : Nat, Met l y_Mo_tree (.code y_Mo_tree prog_10_method_53_code 2 (some .int) :: TBL) rm_Mo_tree (va_Pc [.ref (a_t 0), .int x1] (Pre0 g ((pic_Mo g a_t t tL)) sz)) (EI g ((pic_Mo g a_t res.2.1 res.2.2)) res.1 (va_A ((pic_Mo g a_t t tL)) sz)) 0 0 (va_A ((pic_Mo g a_t t tL)) sz) :=
  ct_w (Qc := fun A => EI g ((pic_Mo g a_t res.2.1 res.2.2)) res.1 A) (by decide) (Nat.le_of_ble_eq_true rfl) (fun p e s m args below meth c A hC => k_Mo_tree hC t tL x1 res h)
def Mo_put (F : Nat) (t : StI) (tL : StL) (x1 : Int32) : Option (StI × StL) := if (t 46 0) < 0 ∨ 2000 ≤ (t 46 0).toNatClampNeg then none else letS (va_up t 47 (upd (t 47) (t 46 0).toNatClampNeg (vp_nar .byte x1.toInt8.toInt32))) fun t_4 => letS (va_up t_4 46 (fun _ => ((t_4 46 0) + (1 : Int32)))) fun t_6 => some (t_6, tL)
set_option maxHeartbeats 4000000 in
set_option maxRecDepth 100000 in
theorem k_Mo_put {p : Program} {l : Launch} {e : Env} {s : State} {m : MethodId} {args : Array Value} {below : List Frame} {meth : Method} {c : Code} {g : Gz} {A : Nat → Prop} {F : Nat} {a_t : Nat → Nat} (hC : Cx prog_10_method_54_code 2 none R_Mo p s m args meth c g A A) : ∀ (t : StI) (tL : StL) (x1 : Int32) (res : StI × StL), Mo_put F t tL x1 = some res → Go p l e rm_Mo_put s m args below meth c g A A 2 (MQ below (EV g ((pic_Mo g a_t res.1 res.2)) A) args s 0 0 A) ((pic_Mo g a_t t tL)) [(0, .ref (a_t 0)), (1, .int x1)] 0 [] := by
  obtain ⟨hx, hb, hr, hml, hown, htb, hlocks, hA, hAA, hG⟩ := id hC
  have hK := hG.1
  intro t tL x1 res h H locs ls hP hD hS hl
  rw [Mo_put] at h
  refine lv_aload_n hx hb d_Mo_put_0 rfl (lv_at hl 0 rfl) ?_
  refine va_get (D := gD g) (ci := 8) (v := .ref (a_t 48)) (C := R_Mo) (T := T_Mo) (N := 64) hx hb htb in_Mo hown hK hP 0 rfl rfl 47 (by decide) (htb _ L_Mo_110) (fun _ h9 => h9) rfl d_Mo_put_1 ?_
  refine lv_aload_n hx hb d_Mo_put_4 rfl (lv_at hl 0 rfl) ?_
  refine va_get (D := gD g) (ci := 8) (v := .int (t 46 0)) (C := R_Mo) (T := T_Mo) (N := 64) hx hb htb in_Mo hown hK hP 0 rfl rfl 46 (by decide) (htb _ L_Mo_393) (fun _ h9 => h9) rfl d_Mo_put_5 ?_
  refine lv_iload_n hx hb d_Mo_put_8 rfl (lv_at hl 1 rfl) ?_
  refine lv_i2b hx hb d_Mo_put_9 rfl ?_
  by_cases c5 : ((t 46 0) < 0 ∨ 2000 ≤ (t 46 0).toNatClampNeg)
  · replace h := (if_pos c5).symm.trans h
    cases h
  replace h := (if_neg c5).symm.trans h
  refine va_bast hx hb hK hP hD hS 23 4 rfl rfl c5 d_Mo_put_10 (fun H locs hP hD hS => ?_)
  obtain ⟨t_4, et_4, h⟩ := letS_el h
  have hP : va_P (gD g) vwCl ((pic_Mo g a_t t_4 tL)) H := by rw [et_4]; exact hP
  have hD : va_D A ((pic_Mo g a_t t_4 tL)) := by rw [et_4]; exact hD
  refine lv_aload_n hx hb d_Mo_put_11 rfl (lv_at hl 0 rfl) ?_
  refine lv_dup hx hb d_Mo_put_12 rfl ?_
  refine va_get (D := gD g) (ci := 8) (v := .int (t_4 46 0)) (C := R_Mo) (T := T_Mo) (N := 64) hx hb htb in_Mo hown hK hP 0 rfl rfl 46 (by decide) (htb _ L_Mo_393) (fun _ h9 => h9) rfl d_Mo_put_13 ?_
  refine lv_iconst (v := 1) hx hb d_Mo_put_16 (by decide) ?_
  refine lv_iadd hx hb d_Mo_put_17 ?_
  refine va_put (D := gD g) (ci := 8) (v := .int ((t_4 46 0) + (1 : Int32))) (ty := .int) (C := R_Mo) (T := T_Mo) (N := 64) hx hb htb in_Mo ty_Mo ty_Mo_ok nm_Mo hown hK hP hD hS 0 rfl rfl 46 (by decide) (htb _ L_Mo_393) (fun _ h9 => h9) rfl (by decide +kernel) rfl rfl (Nat.le_of_ble_eq_true rfl) d_Mo_put_18 (fun H locs hP hD hS => ?_)
  obtain ⟨t_6, et_6, h⟩ := letS_el h
  have hP : va_P (gD g) vwCl ((pic_Mo g a_t t_6 tL)) H := by rw [et_6]; exact hP
  have hD : va_D A ((pic_Mo g a_t t_6 tL)) := by rw [et_6]; exact hD
  cases h
  exact W.vret hx hb hr (fun t ht hW => ⟨⟨(), rfl, trivial, by rw [ht]; exact hP, hD⟩, hS.F ht⟩) hS.2.2 d_Mo_put_21
theorem c_Mo_put (l : Launch) (g : Gz) (F : Nat) (a_t : Nat → Nat) (t : StI) (tL : StL) (x1 : Int32) (res : StI × StL) (h : Mo_put F t tL x1 = some res) : ∀ sz : Nat, Met l y_Mo_put (.code y_Mo_put prog_10_method_54_code 2 none :: TBL) rm_Mo_put (va_Pc [.ref (a_t 0), .int x1] (Pre0 g ((pic_Mo g a_t t tL)) sz)) (EV g ((pic_Mo g a_t res.1 res.2)) (va_A ((pic_Mo g a_t t tL)) sz)) 0 0 (va_A ((pic_Mo g a_t t tL)) sz) :=
  ct_w (Qc := fun A => EV g ((pic_Mo g a_t res.1 res.2)) A) (by decide) (Nat.le_of_ble_eq_true rfl) (fun p e s m args below meth c A hC => k_Mo_put hC t tL x1 res h)
def Mo_space (F : Nat) (t : StI) (tL : StL) : Option (StI × StL) := if (t 46 0) ≤ 0 then some (t, tL) else if ((t 46 0) - (1 : Int32)) < 0 ∨ 2000 ≤ ((t 46 0) - (1 : Int32)).toNatClampNeg then none else if ((t 47) ((t 46 0) - (1 : Int32)).toNatClampNeg) = (40 : Int32) then some (t, tL) else (Mo_put F t tL (32 : Int32)).bind fun r8 => some (r8.1, r8.2)
set_option maxHeartbeats 4000000 in
set_option maxRecDepth 100000 in
theorem k_Mo_space {p : Program} {l : Launch} {e : Env} {s : State} {m : MethodId} {args : Array Value} {below : List Frame} {meth : Method} {c : Code} {g : Gz} {A : Nat → Prop} {F : Nat} {a_t : Nat → Nat} (hC : Cx prog_10_method_55_code 1 none R_Mo p s m args meth c g A A) : ∀ (t : StI) (tL : StL) (res : StI × StL), Mo_space F t tL = some res → Go p l e rm_Mo_space s m args below meth c g A A 1 (MQ below (EV g ((pic_Mo g a_t res.1 res.2)) A) args s 0 0 A) ((pic_Mo g a_t t tL)) [(0, .ref (a_t 0))] 0 [] := by
  obtain ⟨hx, hb, hr, hml, hown, htb, hlocks, hA, hAA, hG⟩ := id hC
  have hK := hG.1
  intro t tL res h H locs ls hP hD hS hl
  rw [Mo_space] at h
  refine lv_aload_n hx hb d_Mo_space_0 rfl (lv_at hl 0 rfl) ?_
  refine va_get (D := gD g) (ci := 8) (v := .int (t 46 0)) (C := R_Mo) (T := T_Mo) (N := 64) hx hb htb in_Mo hown hK hP 0 rfl rfl 46 (by decide) (htb _ L_Mo_393) (fun _ h9 => h9) rfl d_Mo_space_1 ?_
  refine lv_if_le (tgt := 29) hx hb d_Mo_space_4 (by decide) (fun c5 => ?_) (fun c5 => ?_)
  · replace h := (if_pos c5).symm.trans h
    cases h
    exact W.vret hx hb hr (fun t ht hW => ⟨⟨(), rfl, trivial, by rw [ht]; exact hP, hD⟩, hS.F ht⟩) hS.2.2 d_Mo_space_29
  · replace h := (if_neg c5).symm.trans h
    refine lv_aload_n hx hb d_Mo_space_7 rfl (lv_at hl 0 rfl) ?_
    refine va_get (D := gD g) (ci := 8) (v := .ref (a_t 48)) (C := R_Mo) (T := T_Mo) (N := 64) hx hb htb in_Mo hown hK hP 0 rfl rfl 47 (by decide) (htb _ L_Mo_110) (fun _ h9 => h9) rfl d_Mo_space_8 ?_
    refine lv_aload_n hx hb d_Mo_space_11 rfl (lv_at hl 0 rfl) ?_
    refine va_get (D := gD g) (ci := 8) (v := .int (t 46 0)) (C := R_Mo) (T := T_Mo) (N := 64) hx hb htb in_Mo hown hK hP 0 rfl rfl 46 (by decide) (htb _ L_Mo_393) (fun _ h9 => h9) rfl d_Mo_space_12 ?_
    refine lv_iconst (v := 1) hx hb d_Mo_space_15 (by decide) ?_
    refine lv_isub hx hb d_Mo_space_16 ?_
    by_cases c6 : (((t 46 0) - (1 : Int32)) < 0 ∨ 2000 ≤ ((t 46 0) - (1 : Int32)).toNatClampNeg)
    · replace h := (if_pos c6).symm.trans h
      cases h
    replace h := (if_neg c6).symm.trans h
    refine va_bald hx hb hK hP 23 4 rfl rfl c6 d_Mo_space_17 ?_
    refine lv_bipush (v := 40) hx hb d_Mo_space_18 (by decide) ?_
    refine lv_icmp_eq (tgt := 29) hx hb d_Mo_space_20 (by decide) (fun c7 => ?_) (fun c7 => ?_)
    · replace h := (if_pos c7).symm.trans h
      cases h
      exact W.vret hx hb hr (fun t ht hW => ⟨⟨(), rfl, trivial, by rw [ht]; exact hP, hD⟩, hS.F ht⟩) hS.2.2 d_Mo_space_29
    · replace h := (if_neg c7).symm.trans h
      refine lv_aload_n hx hb d_Mo_space_23 rfl (lv_at hl 0 rfl) ?_
      refine lv_bipush (v := 32) hx hb d_Mo_space_24 (by decide) ?_
      obtain ⟨r8, hr8, h⟩ := Option.bind_eq_some_iff.mp h
      refine cl_V (wr := []) [0, 1, 2, 3, 4, 5, 6, 7, 8, 9, 10, 11, 12, 13, 14, 15, 16, 17, 18, 19, 20, 21, 22, 23, 24, 25, 26, 27, 28, 29, 30, 31, 32] [] rfl rfl rfl (by decide) hP hD hS hA (va_runV (As := [.int (32 : Int32)]) (rest := []) ⟨hx, hb, hml, hown, htb⟩ (c_Mo_put l g F a_t t tL (32 : Int32) _ hr8 H.size) (cw_V htb mb_Mo_put (htb _ L_Mo_396) rfl rfl ⟨Nat.le_of_ble_eq_true rfl, Nat.le_of_ble_eq_true rfl⟩) (pre_V (va_recv hK hP (ci := 8) (q0 := 0) rfl rfl) (pre_S [0, 1, 2, 3, 4, 5, 6, 7, 8, 9, 10, 11, 12, 13, 14, 15, 16, 17, 18, 19, 20, 21, 22, 23, 24, 25, 26, 27, 28, 29, 30, 31, 32] rfl rfl hP hD hS hA hAA hG)) rfl rfl hl.1 rfl (lv_room (Nat.le_of_ble_eq_true rfl)) d_Mo_space_26 ⟨Nat.zero_le _, Nat.zero_le _⟩) (fun H locs hP hD hS => ?_)
      have hP : va_P (gD g) vwCl ((pic_Mo g a_t r8.1 r8.2)) H := hP.sub [0, 1, 2, 3, 4, 5, 6, 7, 8, 9, 10, 11, 12, 13, 14, 15, 16, 17, 18, 19, 20, 21, 22, 23, 24, 25, 26, 27, 28, 29, 30, 31, 32] rfl
      have hD : va_D A ((pic_Mo g a_t r8.1 r8.2)) := hD.sub [0, 1, 2, 3, 4, 5, 6, 7, 8, 9, 10, 11, 12, 13, 14, 15, 16, 17, 18, 19, 20, 21, 22, 23, 24, 25, 26, 27, 28, 29, 30, 31, 32] rfl rfl
      cases h
      exact W.vret hx hb hr (fun t ht hW => ⟨⟨(), rfl, trivial, by rw [ht]; exact hP, hD⟩, hS.F ht⟩) hS.2.2 d_Mo_space_29
theorem c_Mo_space (l : Launch) (g : Gz) (F : Nat) (a_t : Nat → Nat) (t : StI) (tL : StL) (res : StI × StL) (h : Mo_space F t tL = some res) : ∀ sz : Nat, Met l y_Mo_space (.code y_Mo_space prog_10_method_55_code 1 none :: TBL) rm_Mo_space (va_Pc [.ref (a_t 0)] (Pre0 g ((pic_Mo g a_t t tL)) sz)) (EV g ((pic_Mo g a_t res.1 res.2)) (va_A ((pic_Mo g a_t t tL)) sz)) 0 0 (va_A ((pic_Mo g a_t t tL)) sz) :=
  ct_w (Qc := fun A => EV g ((pic_Mo g a_t res.1 res.2)) A) (by decide) (Nat.le_of_ble_eq_true rfl) (fun p e s m args below meth c A hC => k_Mo_space hC t tL res h)
def Mo_putLetters_21 (F : Nat) : Nat → StI → StL → Int64 → Int64 → Option (StI × StL)
  | 0, _, _, _, _ => none
  | n + 1, t, tL, x1, x3 => if (lg_cmp x3 (0 : Int64)) ≤ 0 then some (t, tL) else if x3 = 0 then none else (Mo_put F t tL (((x1 / x3) - (x1 / x3) / (27 : Int64) * (27 : Int64)).toInt32 + (96 : Int32))).bind fun r7 => Mo_putLetters_21 F n r7.1 r7.2 x1 (x3 / (27 : Int64))
def Mo_putLetters_2 (F : Nat) : Nat → StI → StL → Int64 → Int64 → Option (StI × StL)
  | 0, _, _, _, _ => none
  | n + 1, t, tL, x1, x3 => if 0 < (lg_cmp x3 (x1 / (27 : Int64))) then Mo_putLetters_21 F F t tL x1 x3 else Mo_putLetters_2 F n t tL x1 (x3 * (27 : Int64))
def Mo_putLetters (F : Nat) (t : StI) (tL : StL) (x1 : Int64) : Option (StI × StL) := Mo_putLetters_2 F F t tL x1 (1 : Int64)
set_option maxHeartbeats 4000000 in
set_option maxRecDepth 100000 in
theorem k_Mo_putLetters_21 {p : Program} {l : Launch} {e : Env} {s : State} {m : MethodId} {args : Array Value} {below : List Frame} {meth : Method} {c : Code} {g : Gz} {A : Nat → Prop} {F : Nat} {a_t : Nat → Nat} (hC : Cx prog_10_method_56_code 5 none R_Mo p s m args meth c g A A) : ∀ (n : Nat) (t : StI) (tL : StL) (x1 : Int64) (x3 : Int64) (res : StI × StL), Mo_putLetters_21 F n t tL x1 x3 = some res → Go p l e rm_Mo_putLetters s m args below meth c g A A 5 (MQ below (EV g ((pic_Mo g a_t res.1 res.2)) A) args s 0 0 A) ((pic_Mo g a_t t tL)) [(0, .ref (a_t 0)), (1, .long x1), (3, .long x3)] 21 [] := by
  obtain ⟨hx, hb, hr, hml, hown, htb, hlocks, hA, hAA, hG⟩ := id hC
  have hK := hG.1
  intro n
  induction n with
  | zero => intro t tL x1 x3 res h; rw [Mo_putLetters_21] at h; cases h
  | succ n ih =>
    intro t tL x1 x3 res h H locs ls hP hD hS hl
    rw [Mo_putLetters_21] at h
    refine lv_lload_n hx hb d_Mo_putLetters_21 rfl (lv_at hl 2 rfl) ?_
    refine lv_lconst (v := 0) hx hb d_Mo_putLetters_22 (by decide) ?_
    refine W.lcmp hx hb d_Mo_putLetters_23 ?_
    refine lv_if_le (tgt := 51) hx hb d_Mo_putLetters_24 (by decide) (fun c5 => ?_) (fun c5 => ?_)
    · replace h := (if_pos c5).symm.trans h
      cases h
      exact W.vret hx hb hr (fun t ht hW => ⟨⟨(), rfl, trivial, by rw [ht]; exact hP, hD⟩, hS.F ht⟩) hS.2.2 d_Mo_putLetters_51
    · replace h := (if_neg c5).symm.trans h
      refine lv_aload_n hx hb d_Mo_putLetters_27 rfl (lv_at hl 0 rfl) ?_
      refine lv_lload_n hx hb d_Mo_putLetters_28 rfl (lv_at hl 1 rfl) ?_
      refine lv_lload_n hx hb d_Mo_putLetters_29 rfl (lv_at hl 2 rfl) ?_
      by_cases c6 : x3 = 0
      · replace h := (if_pos c6).symm.trans h
        cases h
      replace h := (if_neg c6).symm.trans h
      refine lv_ldiv hx hb d_Mo_putLetters_30 c6 ?_
      refine lv_ldc2 (v := 27) hx hb hown (htb _ K_Mo_185) d_Mo_putLetters_31 ?_
      refine lv_lrem hx hb d_Mo_putLetters_34 (by decide) ?_
      refine lv_l2i hx hb d_Mo_putLetters_35 rfl ?_
      refine lv_bipush (v := 96) hx hb d_Mo_putLetters_36 (by decide) ?_
      refine lv_iadd hx hb d_Mo_putLetters_38 ?_
      obtain ⟨r7, hr7, h⟩ := Option.bind_eq_some_iff.mp h
      refine cl_V (wr := []) [0, 1, 2, 3, 4, 5, 6, 7, 8, 9, 10, 11, 12, 13, 14, 15, 16, 17, 18, 19, 20, 21, 22, 23, 24, 25, 26, 27, 28, 29, 30, 31, 32] [] rfl rfl rfl (by decide) hP hD hS hA (va_runV (As := [.int (((x1 / x3) - (x1 / x3) / (27 : Int64) * (27 : Int64)).toInt32 + (96 : Int32))]) (rest := []) ⟨hx, hb, hml, hown, htb⟩ (c_Mo_put l g F a_t t tL (((x1 / x3) - (x1 / x3) / (27 : Int64) * (27 : Int64)).toInt32 + (96 : Int32)) _ hr7 H.size) (cw_V htb mb_Mo_put (htb _ L_Mo_396) rfl rfl ⟨Nat.le_of_ble_eq_true rfl, Nat.le_of_ble_eq_true rfl⟩) (pre_V (va_recv hK hP (ci := 8) (q0 := 0) rfl rfl) (pre_S [0, 1, 2, 3, 4, 5, 6, 7, 8, 9, 10, 11, 12, 13, 14, 15, 16, 17, 18, 19, 20, 21, 22, 23, 24, 25, 26, 27, 28, 29, 30, 31, 32] rfl rfl hP hD hS hA hAA hG)) rfl rfl hl.1 rfl (lv_room (Nat.le_of_ble_eq_true rfl)) d_Mo_putLetters_39 ⟨Nat.zero_le _, Nat.zero_le _⟩) (fun H locs hP hD hS => ?_)
      have hP : va_P (gD g) vwCl ((pic_Mo g a_t r7.1 r7.2)) H := hP.sub [0, 1, 2, 3, 4, 5, 6, 7, 8, 9, 10, 11, 12, 13, 14, 15, 16, 17, 18, 19, 20, 21, 22, 23, 24, 25, 26, 27, 28, 29, 30, 31, 32] rfl
      have hD : va_D A ((pic_Mo g a_t r7.1 r7.2)) := hD.sub [0, 1, 2, 3, 4, 5, 6, 7, 8, 9, 10, 11, 12, 13, 14, 15, 16, 17, 18, 19, 20, 21, 22, 23, 24, 25, 26, 27, 28, 29, 30, 31, 32] rfl rfl
      refine lv_lload_n hx hb d_Mo_putLetters_42 rfl (lv_at hl 2 rfl) ?_
      refine lv_ldc2 (v := 27) hx hb hown (htb _ K_Mo_185) d_Mo_putLetters_43 ?_
      refine lv_ldiv hx hb d_Mo_putLetters_46 (by decide) ?_
      refine lv_lstore_n (lv' := [(3, .long (x3 / (27 : Int64))), (0, .ref (a_t 0)), (1, .long x1)]) hx hb d_Mo_putLetters_47 rfl hl (by decide) rfl (fun ls hl => ?_)
      refine lv_goto (tgt := 21) hx hb d_Mo_putLetters_48 (by decide) ?_
      exact ih _ _ _ _ _ h _ _ _ hP hD hS (lv_sub hl [1, 2, 0] rfl)
set_option maxHeartbeats 4000000 in
set_option maxRecDepth 100000 in
theorem k_Mo_putLetters_2 {p : Program} {l : Launch} {e : Env} {s : State} {m : MethodId} {args : Array Value} {below : List Frame} {meth : Method} {c : Code} {g : Gz} {A : Nat → Prop} {F : Nat} {a_t : Nat → Nat} (hC : Cx prog_10_method_56_code 5 none R_Mo p s m args meth c g A A) : ∀ (n : Nat) (t : StI) (tL : StL) (x1 : Int64) (x3 : Int64) (res : StI × StL), Mo_putLetters_2 F n t tL x1 x3 = some res → Go p l e rm_Mo_putLetters s m args below meth c g A A 5 (MQ below (EV g ((pic_Mo g a_t res.1 res.2)) A) args s 0 0 A) ((pic_Mo g a_t t tL)) [(0, .ref (a_t 0)), (1, .long x1), (3, .long x3)] 2 [] := by
  obtain ⟨hx, hb, hr, hml, hown, htb, hlocks, hA, hAA, hG⟩ := id hC
  have hK := hG.1
  intro n
  induction n with
  | zero => intro t tL x1 x3 res h; rw [Mo_putLetters_2] at h; cases h
  | succ n ih =>
    intro t tL x1 x3 res h H locs ls hP hD hS hl
    rw [Mo_putLetters_2] at h
    refine lv_lload_n hx hb d_Mo_putLetters_2 rfl (lv_at hl 2 rfl) ?_
    refine lv_lload_n hx hb d_Mo_putLetters_3 rfl (lv_at hl 1 rfl) ?_
    refine lv_ldc2 (v := 27) hx hb hown (htb _ K_Mo_185) d_Mo_putLetters_4 ?_
    refine lv_ldiv hx hb d_Mo_putLetters_7 (by decide) ?_
    refine W.lcmp hx hb d_Mo_putLetters_8 ?_
    refine lv_if_gt (tgt := 21) hx hb d_Mo_putLetters_9 (by decide) (fun c8 => ?_) (fun c8 => ?_)
    · replace h := (if_pos c8).symm.trans h
      exact k_Mo_putLetters_21 hC F _ _ _ _ _ h _ _ _ hP hD hS (lv_sub hl [0, 1, 2] rfl)
    · replace h := (if_neg c8).symm.trans h
      refine lv_lload_n hx hb d_Mo_putLetters_12 rfl (lv_at hl 2 rfl) ?_
      refine lv_ldc2 (v := 27) hx hb hown (htb _ K_Mo_185) d_Mo_putLetters_13 ?_
      refine lv_lmul hx hb d_Mo_putLetters_16 ?_
      refine lv_lstore_n (lv' := [(3, .long (x3 * (27 : Int64))), (0, .ref (a_t 0)), (1, .long x1)]) hx hb d_Mo_putLetters_17 rfl hl (by decide) rfl (fun ls hl => ?_)
      refine lv_goto (tgt := 2) hx hb d_Mo_putLetters_18 (by decide) ?_
      exact ih _ _ _ _ _ h _ _ _ hP hD hS (lv_sub hl [1, 2, 0] rfl)
set_option maxHeartbeats 4000000 in
set_option maxRecDepth 100000 in
theorem k_Mo_putLetters {p : Program} {l : Launch} {e : Env} {s : State} {m : MethodId} {args : Array Value} {below : List Frame} {meth : Method} {c : Code} {g : Gz} {A : Nat → Prop} {F : Nat} {a_t : Nat → Nat} (hC : Cx prog_10_method_56_code 5 none R_Mo p s m args meth c g A A) : ∀ (t : StI) (tL : StL) (x1 : Int64) (res : StI × StL), Mo_putLetters F t tL x1 = some res → Go p l e rm_Mo_putLetters s m args below meth c g A A 5 (MQ below (EV g ((pic_Mo g a_t res.1 res.2)) A) args s 0 0 A) ((pic_Mo g a_t t tL)) [(0, .ref (a_t 0)), (1, .long x1)] 0 [] := by
  obtain ⟨hx, hb, hr, hml, hown, htb, hlocks, hA, hAA, hG⟩ := id hC
  have hK := hG.1
  intro t tL x1 res h H locs ls hP hD hS hl
  rw [Mo_putLetters] at h
  refine lv_lconst (v := 1) hx hb d_Mo_putLetters_0 (by decide) ?_
  refine lv_lstore_n (lv' := [(3, .long (1 : Int64)), (0, .ref (a_t 0)), (1, .long x1)]) hx hb d_Mo_putLetters_1 rfl hl (by decide) rfl (fun ls hl => ?_)
  exact k_Mo_putLetters_2 hC F _ _ _ _ _ h _ _ _ hP hD hS (lv_sub hl [1, 2, 0] rfl)
theorem c_Mo_putLetters (l : Launch) (g : Gz) (F : Nat) (a_t : Nat → Nat) (t : StI) (tL : StL) (x1 : Int64) (res : StI × StL) (h : Mo_putLetters F t tL x1 = some res) : ∀ sz : Nat, Met l y_Mo_putLetters (.code y_Mo_putLetters prog_10_method_56_code 5 none :: TBL) rm_Mo_putLetters (va_Pc [.ref (a_t 0), .long x1] (Pre0 g ((pic_Mo g a_t t tL)) sz)) (EV g ((pic_Mo g a_t res.1 res.2)) (va_A ((pic_Mo g a_t t tL)) sz)) 0 0 (va_A ((pic_Mo g a_t t tL)) sz) :=
  ct_w (Qc := fun A => EV g ((pic_Mo g a_t res.1 res.2)) A) (by decide) (Nat.le_of_ble_eq_true rfl) (fun p e s m args below meth c A hC => k_Mo_putLetters hC t tL x1 res h)
def Mo_putAtom_53 (F : Nat) : Nat → StI → StL → Int32 → Int32 → Option (StI × StL)
  | 0, _, _, _, _ => none
  | n + 1, t, tL, x1, x2 => if x1 < 0 ∨ 40 ≤ x1.toNatClampNeg then none else if ((t 24) x1.toNatClampNeg) ≤ x2 then if x1 < 0 ∨ 40 ≤ x1.toNatClampNeg then none else if ((t 29) x1.toNatClampNeg) = 0 then some (t, tL) else (Mo_put F t tL (34 : Int32)).bind fun r23 => some (r23.1, r23.2) else if x1 < 0 ∨ 40 ≤ x1.toNatClampNeg then none else (Mo_see F t tL (((t 23) x1.toNatClampNeg) + x2)).bind fun r25 => (Mo_put F t tL r25).bind fun r26 => Mo_putAtom_53 F n r26.1 r26.2 x1 (x2 + (1 : Int32))
def Mo_putAtom_51 (F : Nat) (t : StI) (tL : StL) (x1 : Int32) : Option (StI × StL) := Mo_putAtom_53 F F t tL x1 (0 : Int32)
def Mo_putAtom_36 (F : Nat) (t : StI) (tL : StL) (x1 : Int32) : Option (StI × StL) := if x1 < 0 ∨ 40 ≤ x1.toNatClampNeg then none else if ((t 29) x1.toNatClampNeg) = 0 then Mo_putAtom_51 F t tL x1 else (Mo_put F t tL (34 : Int32)).bind fun r29 => Mo_putAtom_51 F r29.1 r29.2 x1
def Mo_putAtom (F : Nat) (t : StI) (tL : StL) (x1 : Int32) : Option (StI × StL) := (Mo_space F t tL).bind fun r30 => if x1 < 0 ∨ 40 ≤ x1.toNatClampNeg then none else if ((r30.1 22) x1.toNatClampNeg) ≤ 0 then Mo_putAtom_36 F r30.1 r30.2 x1 else if x1 < 0 ∨ 40 ≤ x1.toNatClampNeg then none else if (((r30.1 22) x1.toNatClampNeg) - (1 : Int32)) < 0 ∨ 12 ≤ (((r30.1 22) x1.toNatClampNeg) - (1 : Int32)).toNatClampNeg then none else (Mo_putLetters F r30.1 r30.2 ((r30.2 13) (((r30.1 22) x1.toNatClampNeg) - (1 : Int32)).toNatClampNeg)).bind fun r35 => (Mo_put F r35.1 r35.2 (58 : Int32)).bind fun r36 => Mo_putAtom_36 F r36.1 r36.2 x1
set_option maxHeartbeats 4000000 in
set_option maxRecDepth 100000 in
theorem k_Mo_putAtom_53 {p : Program} {l : Launch} {e : Env} {s : State} {m : MethodId} {args : Array Value} {below : List Frame} {meth : Method} {c : Code} {g : Gz} {A : Nat → Prop} {F : Nat} {a_t : Nat → Nat} (hC : Cx prog_10_method_57_code 3 none R_Mo p s m args meth c g A A) : ∀ (n : Nat) (t : StI) (tL : StL) (x1 : Int32) (x2 : Int32) (res : StI × StL), Mo_putAtom_53 F n t tL x1 x2 = some res → Go p l e rm_Mo_putAtom s m args below meth c g A A 3 (MQ below (EV g ((pic_Mo g a_t res.1 res.2)) A) args s 0 0 A) ((pic_Mo g a_t t tL)) [(0, .ref (a_t 0)), (1, .int x1), (2, .int x2)] 53 [] := by
  obtain ⟨hx, hb, hr, hml, hown, htb, hlocks, hA, hAA, hG⟩ := id hC
  have hK := hG.1
  intro n
  induction n with
  | zero => intro t tL x1 x2 res h; rw [Mo_putAtom_53] at h; cases h
  | succ n ih =>
    intro t tL x1 x2 res h H locs ls hP hD hS hl
    rw [Mo_putAtom_53] at h
    refine lv_iload_n hx hb d_Mo_putAtom_53 rfl (lv_at hl 2 rfl) ?_
    refine lv_aload_n hx hb d_Mo_putAtom_54 rfl (lv_at hl 0 rfl) ?_
    refine va_get (D := gD g) (ci := 8) (v := .ref (a_t 25)) (C := R_Mo) (T := T_Mo) (N := 64) hx hb htb in_Mo hown hK hP 0 rfl rfl 24 (by decide) (htb _ L_Mo_64) (fun _ h9 => h9) rfl d_Mo_putAtom_55 ?_
    refine lv_iload_n hx hb d_Mo_putAtom_58 rfl (lv_at hl 1 rfl) ?_
    by_cases c19 : (x1 < 0 ∨ 40 ≤ x1.toNatClampNeg)
    · replace h := (if_pos c19).symm.trans h
      cases h
    replace h := (if_neg c19).symm.trans h
    refine va_iald hx hb hK hP 8 0 rfl rfl c19 d_Mo_putAtom_59 ?_
    refine lv_icmp_ge (tgt := 85) hx hb d_Mo_putAtom_60 (by decide) (fun c20 => ?_) (fun c20 => ?_)
    · replace h := (if_pos c20).symm.trans h
      refine lv_aload_n hx hb d_Mo_putAtom_85 rfl (lv_at hl 0 rfl) ?_
      refine va_get (D := gD g) (ci := 8) (v := .ref (a_t 30)) (C := R_Mo) (T := T_Mo) (N := 64) hx hb htb in_Mo hown hK hP 0 rfl rfl 29 (by decide) (htb _ L_Mo_79) (fun _ h9 => h9) rfl d_Mo_putAtom_86 ?_
      refine lv_iload_n hx hb d_Mo_putAtom_89 rfl (lv_at hl 1 rfl) ?_
      by_cases c21 : (x1 < 0 ∨ 40 ≤ x1.toNatClampNeg)
      · replace h := (if_pos c21).symm.trans h
        cases h
      replace h := (if_neg c21).symm.trans h
      refine va_zald hx hb hK hP 13 2 rfl rfl c21 d_Mo_putAtom_90 ?_
      refine lv_if_eq (tgt := 100) hx hb d_Mo_putAtom_91 (by decide) (fun c22 => ?_) (fun c22 => ?_)
      · replace h := (if_pos c22).symm.trans h
        cases h
        exact W.vret hx hb hr (fun t ht hW => ⟨⟨(), rfl, trivial, by rw [ht]; exact hP, hD⟩, hS.F ht⟩) hS.2.2 d_Mo_putAtom_100
      · replace h := (if_neg c22).symm.trans h
        refine lv_aload_n hx hb d_Mo_putAtom_94 rfl (lv_at hl 0 rfl) ?_
        refine lv_bipush (v := 34) hx hb d_Mo_putAtom_95 (by decide) ?_
        obtain ⟨r23, hr23, h⟩ := Option.bind_eq_some_iff.mp h
        refine cl_V (wr := []) [0, 1, 2, 3, 4, 5, 6, 7, 8, 9, 10, 11, 12, 13, 14, 15, 16, 17, 18, 19, 20, 21, 22, 23, 24, 25, 26, 27, 28, 29, 30, 31, 32] [] rfl rfl rfl (by decide) hP hD hS hA (va_runV (As := [.int (34 : Int32)]) (rest := []) ⟨hx, hb, hml, hown, htb⟩ (c_Mo_put l g F a_t t tL (34 : Int32) _ hr23 H.size) (cw_V htb mb_Mo_put (htb _ L_Mo_396) rfl rfl ⟨Nat.le_of_ble_eq_true rfl, Nat.le_of_ble_eq_true rfl⟩) (pre_V (va_recv hK hP (ci := 8) (q0 := 0) rfl rfl) (pre_S [0, 1, 2, 3, 4, 5, 6, 7, 8, 9, 10, 11, 12, 13, 14, 15, 16, 17, 18, 19, 20, 21, 22, 23, 24, 25, 26, 27, 28, 29, 30, 31, 32] rfl rfl hP hD hS hA hAA hG)) rfl rfl hl.1 rfl (lv_room (Nat.le_of_ble_eq_true rfl)) d_Mo_putAtom_97 ⟨Nat.zero_le _, Nat.zero_le _⟩) (fun H locs hP hD hS => ?_)
        have hP : va_P (gD g) vwCl ((pic_Mo g a_t r23.1 r23.2)) H := hP.sub [0, 1, 2, 3, 4, 5, 6, 7, 8, 9, 10, 11, 12, 13, 14, 15, 16, 17, 18, 19, 20, 21, 22, 23, 24, 25, 26, 27, 28, 29, 30, 31, 32] rfl
        have hD : va_D A ((pic_Mo g a_t r23.1 r23.2)) := hD.sub [0, 1, 2, 3, 4, 5, 6, 7, 8, 9, 10, 11, 12, 13, 14, 15, 16, 17, 18, 19, 20, 21, 22, 23, 24, 25, 26, 27, 28, 29, 30, 31, 32] rfl rfl
        cases h
        exact W.vret hx hb hr (fun t ht hW => ⟨⟨(), rfl, trivial, by rw [ht]; exact hP, hD⟩, hS.F ht⟩) hS.2.2 d_Mo_putAtom_100
    · replace h := (if_neg c20).symm.trans h
      refine lv_aload_n hx hb d_Mo_putAtom_63 rfl (lv_at hl 0 rfl) ?_
      refine lv_aload_n hx hb d_Mo_putAtom_64 rfl (lv_at hl 0 rfl) ?_
      refine lv_aload_n hx hb d_Mo_putAtom_65 rfl (lv_at hl 0 rfl) ?_
      refine va_get (D := gD g) (ci := 8) (v := .ref (a_t 24)) (C := R_Mo) (T := T_Mo) (N := 64) hx hb htb in_Mo hown hK hP 0 rfl rfl 23 (by decide) (htb _ L_Mo_61) (fun _ h9 => h9) rfl d_Mo_putAtom_66 ?_
      refine lv_iload_n hx hb d_Mo_putAtom_69 rfl (lv_at hl 1 rfl) ?_
      by_cases c24 : (x1 < 0 ∨ 40 ≤ x1.toNatClampNeg)
      · replace h := (if_pos c24).symm.trans h
        cases h
      replace h := (if_neg c24).symm.trans h
      refine va_iald hx hb hK hP 7 0 rfl rfl c24 d_Mo_putAtom_70 ?_
      refine lv_iload_n hx hb d_Mo_putAtom_71 rfl (lv_at hl 2 rfl) ?_
      refine lv_iadd hx hb d_Mo_putAtom_72 ?_
      obtain ⟨r25, hr25, h⟩ := Option.bind_eq_some_iff.mp h
      refine cl_Ir hP hS hA (va_runV (As := [.int (((t 23) x1.toNatClampNeg) + x2)]) (rest := [.ref (a_t 0)]) ⟨hx, hb, hml, hown, htb⟩ (c_Mo_see l g F a_t t tL (((t 23) x1.toNatClampNeg) + x2) _ hr25 H.size) (cw_V htb mb_Mo_see (htb _ L_Mo_160) rfl rfl ⟨Nat.le_of_ble_eq_true rfl, Nat.le_of_ble_eq_true rfl⟩) (pre_V (va_recv hK hP (ci := 8) (q0 := 0) rfl rfl) (pre_S [0, 1, 2, 3, 4, 5, 6, 7, 8, 9, 10, 11, 12, 13, 14, 15, 16, 17, 18, 19, 20, 21, 22, 23, 24, 25, 26, 27, 28, 29, 30, 31, 32] rfl rfl hP hD hS hA hAA hG)) rfl rfl hl.1 rfl (lv_room (Nat.le_of_ble_eq_true rfl)) d_Mo_putAtom_73 ⟨Nat.zero_le _, Nat.zero_le _⟩) (fun H locs hP hS => ?_)
      obtain ⟨r26, hr26, h⟩ := Option.bind_eq_some_iff.mp h
      refine cl_V (wr := []) [0, 1, 2, 3, 4, 5, 6, 7, 8, 9, 10, 11, 12, 13, 14, 15, 16, 17, 18, 19, 20, 21, 22, 23, 24, 25, 26, 27, 28, 29, 30, 31, 32] [] rfl rfl rfl (by decide) hP hD hS hA (va_runV (As := [.int r25]) (rest := []) ⟨hx, hb, hml, hown, htb⟩ (c_Mo_put l g F a_t t tL r25 _ hr26 H.size) (cw_V htb mb_Mo_put (htb _ L_Mo_396) rfl rfl ⟨Nat.le_of_ble_eq_true rfl, Nat.le_of_ble_eq_true rfl⟩) (pre_V (va_recv hK hP (ci := 8) (q0 := 0) rfl rfl) (pre_S [0, 1, 2, 3, 4, 5, 6, 7, 8, 9, 10, 11, 12, 13, 14, 15, 16, 17, 18, 19, 20, 21, 22, 23, 24, 25, 26, 27, 28, 29, 30, 31, 32] rfl rfl hP hD hS hA hAA hG)) rfl rfl hl.1 rfl (lv_room (Nat.le_of_ble_eq_true rfl)) d_Mo_putAtom_76 ⟨Nat.zero_le _, Nat.zero_le _⟩) (fun H locs hP hD hS => ?_)
      have hP : va_P (gD g) vwCl ((pic_Mo g a_t r26.1 r26.2)) H := hP.sub [0, 1, 2, 3, 4, 5, 6, 7, 8, 9, 10, 11, 12, 13, 14, 15, 16, 17, 18, 19, 20, 21, 22, 23, 24, 25, 26, 27, 28, 29, 30, 31, 32] rfl
      have hD : va_D A ((pic_Mo g a_t r26.1 r26.2)) := hD.sub [0, 1, 2, 3, 4, 5, 6, 7, 8, 9, 10, 11, 12, 13, 14, 15, 16, 17, 18, 19, 20, 21, 22, 23, 24, 25, 26, 27, 28, 29, 30, 31, 32] rfl rfl
      refine lv_iinc (v := (x2 + (1 : Int32))) (lv' := [(2, .int (x2 + (1 : Int32))), (0, .ref (a_t 0)), (1, .int x1)]) hx hb d_Mo_putAtom_79 hl (k := 2) rfl rfl (by decide) rfl (fun ls hl => ?_)
      refine lv_goto (tgt := 53) hx hb d_Mo_putAtom_82 (by decide) ?_
      exact ih _ _ _ _ _ h _ _ _ hP hD hS (lv_sub hl [1, 2, 0] rfl)
set_option maxHeartbeats 4000000 in
set_option maxRecDepth 100000 in
theorem k_Mo_putAtom_51 {p : Program} {l : Launch} {e : Env} {s : State} {m : MethodId} {args : Array Value} {below : List Frame} {meth : Method} {c : Code} {g : Gz} {A : Nat → Prop} {F : Nat} {a_t : Nat → Nat} (hC : Cx prog_10_method_57_code 3 none R_Mo p s m args meth c g A A) : ∀ (t : StI) (tL : StL) (x1 : Int32) (res : StI × StL), Mo_putAtom_51 F t tL x1 = some res → Go p l e rm_Mo_putAtom s m args below meth c g A A 3 (MQ below (EV g ((pic_Mo g a_t res.1 res.2)) A) args s 0 0 A) ((pic_Mo g a_t t tL)) [(0, .ref (a_t 0)), (1, .int x1)] 51 [] := by
  obtain ⟨hx, hb, hr, hml, hown, htb, hlocks, hA, hAA, hG⟩ := id hC
  have hK := hG.1
  intro t tL x1 res h H locs ls hP hD hS hl
  rw [Mo_putAtom_51] at h
  refine lv_iconst (v := 0) hx hb d_Mo_putAtom_51 (by decide) ?_
  refine lv_istore_n (lv' := [(2, .int (0 : Int32)), (0, .ref (a_t 0)), (1, .int x1)]) hx hb d_Mo_putAtom_52 rfl hl (by decide) rfl (fun ls hl => ?_)
  exact k_Mo_putAtom_53 hC F _ _ _ _ _ h _ _ _ hP hD hS (lv_sub hl [1, 2, 0] rfl)
set_option maxHeartbeats 4000000 in
set_option maxRecDepth 100000 in
theorem k_Mo_putAtom_36 {p : Program} {l : Launch} {e : Env} {s : State} {m : MethodId} {args : Array Value} {below : List Frame} {meth : Method} {c : Code} {g : Gz} {A : Nat → Prop} {F : Nat} {a_t : Nat → Nat} (hC : Cx prog_10_method_57_code 3 none R_Mo p s m args meth c g A A) : ∀ (t : StI) (tL : StL) (x1 : Int32) (res : StI × StL), Mo_putAtom_36 F t tL x1 = some res → Go p l e rm_Mo_putAtom s m args below meth c g A A 3 (MQ below (EV g ((pic_Mo g a_t res.1 res.2)) A) args s 0 0 A) ((pic_Mo g a_t t tL)) [(0, .ref (a_t 0)), (1, .int x1)] 36 [] := by
  obtain ⟨hx, hb, hr, hml, hown, htb, hlocks, hA, hAA, hG⟩ := id hC
  have hK := hG.1
  intro t tL x1 res h H locs ls hP hD hS hl
  rw [Mo_putAtom_36] at h
  refine lv_aload_n hx hb d_Mo_putAtom_36 rfl (lv_at hl 0 rfl) ?_
  refine va_get (D := gD g) (ci := 8) (v := .ref (a_t 30)) (C := R_Mo) (T := T_Mo) (N := 64) hx hb htb in_Mo hown hK hP 0 rfl rfl 29 (by decide) (htb _ L_Mo_79) (fun _ h9 => h9) rfl d_Mo_putAtom_37 ?_
  refine lv_iload_n hx hb d_Mo_putAtom_40 rfl (lv_at hl 1 rfl) ?_
  by_cases c27 : (x1 < 0 ∨ 40 ≤ x1.toNatClampNeg)
  · replace h := (if_pos c27).symm.trans h
    cases h
  replace h := (if_neg c27).symm.trans h
  refine va_zald hx hb hK hP 13 2 rfl rfl c27 d_Mo_putAtom_41 ?_
  refine lv_if_eq (tgt := 51) hx hb d_Mo_putAtom_42 (by decide) (fun c28 => ?_) (fun c28 => ?_)
  · replace h := (if_pos c28).symm.trans h
    exact k_Mo_putAtom_51 hC _ _ _ _ h _ _ _ hP hD hS (lv_sub hl [0, 1] rfl)
  · replace h := (if_neg c28).symm.trans h
    refine lv_aload_n hx hb d_Mo_putAtom_45 rfl (lv_at hl 0 rfl) ?_
    refine lv_bipush (v := 34) hx hb d_Mo_putAtom_46 (by decide) ?_
    obtain ⟨r29, hr29, h⟩ := Option.bind_eq_some_iff.mp h
    refine cl_V (wr := []) [0, 1, 2, 3, 4, 5, 6, 7, 8, 9, 10, 11, 12, 13, 14, 15, 16, 17, 18, 19, 20, 21, 22, 23, 24, 25, 26, 27, 28, 29, 30, 31, 32] [] rfl rfl rfl (by decide) hP hD hS hA (va_runV (As := [.int (34 : Int32)]) (rest := []) ⟨hx, hb, hml, hown, htb⟩ (c_Mo_put l g F a_t t tL (34 : Int32) _ hr29 H.size) (cw_V htb mb_Mo_put (htb _ L_Mo_396) rfl rfl ⟨Nat.le_of_ble_eq_true rfl, Nat.le_of_ble_eq_true rfl⟩) (pre_V (va_recv hK hP (ci := 8) (q0 := 0) rfl rfl) (pre_S [0, 1, 2, 3, 4, 5, 6, 7, 8, 9, 10, 11, 12, 13, 14, 15, 16, 17, 18, 19, 20, 21, 22, 23, 24, 25, 26, 27, 28, 29, 30, 31, 32] rfl rfl hP hD hS hA hAA hG)) rfl rfl hl.1 rfl (lv_room (Nat.le_of_ble_eq_true rfl)) d_Mo_putAtom_48 ⟨Nat.zero_le _, Nat.zero_le _⟩) (fun H locs hP hD hS => ?_)
    have hP : va_P (gD g) vwCl ((pic_Mo g a_t r29.1 r29.2)) H := hP.sub [0, 1, 2, 3, 4, 5, 6, 7, 8, 9, 10, 11, 12, 13, 14, 15, 16, 17, 18, 19, 20, 21, 22, 23, 24, 25, 26, 27, 28, 29, 30, 31, 32] rfl
    have hD : va_D A ((pic_Mo g a_t r29.1 r29.2)) := hD.sub [0, 1, 2, 3, 4, 5, 6, 7, 8, 9, 10, 11, 12, 13, 14, 15, 16, 17, 18, 19, 20, 21, 22, 23, 24, 25, 26, 27, 28, 29, 30, 31, 32] rfl rfl
    exact k_Mo_putAtom_51 hC _ _ _ _ h _ _ _ hP hD hS (lv_sub hl [0, 1] rfl)
set_option maxHeartbeats 4000000 in
set_option maxRecDepth 100000 in
theorem k_Mo_putAtom {p : Program} {l : Launch} {e : Env} {s : State} {m : MethodId} {args : Array Value} {below : List Frame} {meth : Method} {c : Code} {g : Gz} {A : Nat → Prop} {F : Nat} {a_t : Nat → Nat} (hC : Cx prog_10_method_57_code 3 none R_Mo p s m args meth c g A A) : ∀ (t : StI) (tL : StL) (x1 : Int32) (res : StI × StL), Mo_putAtom F t tL x1 = some res → Go p l e rm_Mo_putAtom s m args below meth c g A A 3 (MQ below (EV g ((pic_Mo g a_t res.1 res.2)) A) args s 0 0 A) ((pic_Mo g a_t t tL)) [(0, .ref (a_t 0)), (1, .int x1)] 0 [] := by
  obtain ⟨hx, hb, hr, hml, hown, htb, hlocks, hA, hAA, hG⟩ := id hC
  have hK := hG.1
  intro t tL x1 res h H locs ls hP hD hS hl
  rw [Mo_putAtom] at h
  refine lv_aload_n hx hb d_Mo_putAtom_0 rfl (lv_at hl 0 rfl) ?_
  obtain ⟨r30, hr30, h⟩ := Option.bind_eq_some_iff.mp h
  refine cl_V (wr := []) [0, 1, 2, 3, 4, 5, 6, 7, 8, 9, 10, 11, 12, 13, 14, 15, 16, 17, 18, 19, 20, 21, 22, 23, 24, 25, 26, 27, 28, 29, 30, 31, 32] [] rfl rfl rfl (by decide) hP hD hS hA (va_runV (As := []) (rest := []) ⟨hx, hb, hml, hown, htb⟩ (c_Mo_space l g F a_t t tL _ hr30 H.size) (cw_V htb mb_Mo_space (htb _ L_Mo_399) rfl rfl ⟨Nat.le_of_ble_eq_true rfl, Nat.le_of_ble_eq_true rfl⟩) (pre_V (va_recv hK hP (ci := 8) (q0 := 0) rfl rfl) (pre_S [0, 1, 2, 3, 4, 5, 6, 7, 8, 9, 10, 11, 12, 13, 14, 15, 16, 17, 18, 19, 20, 21, 22, 23, 24, 25, 26, 27, 28, 29, 30, 31, 32] rfl rfl hP hD hS hA hAA hG)) rfl rfl hl.1 rfl (lv_room (Nat.le_of_ble_eq_true rfl)) d_Mo_putAtom_1 ⟨Nat.zero_le _, Nat.zero_le _⟩) (fun H locs hP hD hS => ?_)
  have hP : va_P (gD g) vwCl ((pic_Mo g a_t r30.1 r30.2)) H := hP.sub [0, 1, 2, 3, 4, 5, 6, 7, 8, 9, 10, 11, 12, 13, 14, 15, 16, 17, 18, 19, 20, 21, 22, 23, 24, 25, 26, 27, 28, 29, 30, 31, 32] rfl
  have hD : va_D A ((pic_Mo g a_t r30.1 r30.2)) := hD.sub [0, 1, 2, 3, 4, 5, 6, 7, 8, 9, 10, 11, 12, 13, 14, 15, 16, 17, 18, 19, 20, 21, 22, 23, 24, 25, 26, 27, 28, 29, 30, 31, 32] rfl rfl
  refine lv_aload_n hx hb d_Mo_putAtom_4 rfl (lv_at hl 0 rfl) ?_
  refine va_get (D := gD g) (ci := 8) (v := .ref (a_t 23)) (C := R_Mo) (T := T_Mo) (N := 64) hx hb htb in_Mo hown hK hP 0 rfl rfl 22 (by decide) (htb _ L_Mo_57) (fun _ h9 => h9) rfl d_Mo_putAtom_5 ?_
  refine lv_iload_n hx hb d_Mo_putAtom_8 rfl (lv_at hl 1 rfl) ?_
  by_cases c31 : (x1 < 0 ∨ 40 ≤ x1.toNatClampNeg)
  · replace h := (if_pos c31).symm.trans h
    cases h
  replace h := (if_neg c31).symm.trans h
  refine va_iald hx hb hK hP 6 0 rfl rfl c31 d_Mo_putAtom_9 ?_
  refine lv_if_le (tgt := 36) hx hb d_Mo_putAtom_10 (by decide) (fun c32 => ?_) (fun c32 => ?_)
  · replace h := (if_pos c32).symm.trans h
    exact k_Mo_putAtom_36 hC _ _ _ _ h _ _ _ hP hD hS (lv_sub hl [0, 1] rfl)
  · replace h := (if_neg c32).symm.trans h
    refine lv_aload_n hx hb d_Mo_putAtom_13 rfl (lv_at hl 0 rfl) ?_
    refine lv_aload_n hx hb d_Mo_putAtom_14 rfl (lv_at hl 0 rfl) ?_
    refine va_get (D := gD g) (ci := 8) (v := .ref (a_t 14)) (C := R_Mo) (T := T_Mo) (N := 64) hx hb htb in_Mo hown hK hP 0 rfl rfl 13 (by decide) (htb _ L_Mo_53) (fun _ h9 => h9) rfl d_Mo_putAtom_15 ?_
    refine lv_aload_n hx hb d_Mo_putAtom_18 rfl (lv_at hl 0 rfl) ?_
    refine va_get (D := gD g) (ci := 8) (v := .ref (a_t 23)) (C := R_Mo) (T := T_Mo) (N := 64) hx hb htb in_Mo hown hK hP 0 rfl rfl 22 (by decide) (htb _ L_Mo_57) (fun _ h9 => h9) rfl d_Mo_putAtom_19 ?_
    refine lv_iload_n hx hb d_Mo_putAtom_22 rfl (lv_at hl 1 rfl) ?_
    by_cases c33 : (x1 < 0 ∨ 40 ≤ x1.toNatClampNeg)
    · replace h := (if_pos c33).symm.trans h
      cases h
    replace h := (if_neg c33).symm.trans h
    refine va_iald hx hb hK hP 6 0 rfl rfl c33 d_Mo_putAtom_23 ?_
    refine lv_iconst (v := 1) hx hb d_Mo_putAtom_24 (by decide) ?_
    refine lv_isub hx hb d_Mo_putAtom_25 ?_
    by_cases c34 : ((((r30.1 22) x1.toNatClampNeg) - (1 : Int32)) < 0 ∨ 12 ≤ (((r30.1 22) x1.toNatClampNeg) - (1 : Int32)).toNatClampNeg)
    · replace h := (if_pos c34).symm.trans h
      cases h
    replace h := (if_neg c34).symm.trans h
    refine va_lald hx hb hK hP 5 3 rfl rfl c34 d_Mo_putAtom_26 ?_
    obtain ⟨r35, hr35, h⟩ := Option.bind_eq_some_iff.mp h
    refine cl_V (wr := []) [0, 1, 2, 3, 4, 5, 6, 7, 8, 9, 10, 11, 12, 13, 14, 15, 16, 17, 18, 19, 20, 21, 22, 23, 24, 25, 26, 27, 28, 29, 30, 31, 32] [] rfl rfl rfl (by decide) hP hD hS hA (va_runV (As := [.long ((r30.2 13) (((r30.1 22) x1.toNatClampNeg) - (1 : Int32)).toNatClampNeg)]) (rest := []) ⟨hx, hb, hml, hown, htb⟩ (c_Mo_putLetters l g F a_t r30.1 r30.2 ((r30.2 13) (((r30.1 22) x1.toNatClampNeg) - (1 : Int32)).toNatClampNeg) _ hr35 H.size) (cw_V htb mb_Mo_putLetters (htb _ L_Mo_402) rfl rfl ⟨Nat.le_of_ble_eq_true rfl, Nat.le_of_ble_eq_true rfl⟩) (pre_V (va_recv hK hP (ci := 8) (q0 := 0) rfl rfl) (pre_S [0, 1, 2, 3, 4, 5, 6, 7, 8, 9, 10, 11, 12, 13, 14, 15, 16, 17, 18, 19, 20, 21, 22, 23, 24, 25, 26, 27, 28, 29, 30, 31, 32] rfl rfl hP hD hS hA hAA hG)) rfl rfl hl.1 rfl (lv_room (Nat.le_of_ble_eq_true rfl)) d_Mo_putAtom_27 ⟨Nat.zero_le _, Nat.zero_le _⟩) (fun H locs hP hD hS => ?_)
    have hP : va_P (gD g) vwCl ((pic_Mo g a_t r35.1 r35.2)) H := hP.sub [0, 1, 2, 3, 4, 5, 6, 7, 8, 9, 10, 11, 12, 13, 14, 15, 16, 17, 18, 19, 20, 21, 22, 23, 24, 25, 26, 27, 28, 29, 30, 31, 32] rfl
    have hD : va_D A ((pic_Mo g a_t r35.1 r35.2)) := hD.sub [0, 1, 2, 3, 4, 5, 6, 7, 8, 9, 10, 11, 12, 13, 14, 15, 16, 17, 18, 19, 20, 21, 22, 23, 24, 25, 26, 27, 28, 29, 30, 31, 32] rfl rfl
    refine lv_aload_n hx hb d_Mo_putAtom_30 rfl (lv_at hl 0 rfl) ?_
    refine lv_bipush (v := 58) hx hb d_Mo_putAtom_31 (by decide) ?_
    obtain ⟨r36, hr36, h⟩ := Option.bind_eq_some_iff.mp h
    refine cl_V (wr := []) [0, 1, 2, 3, 4, 5, 6, 7, 8, 9, 10, 11, 12, 13, 14, 15, 16, 17, 18, 19, 20, 21, 22, 23, 24, 25, 26, 27, 28, 29, 30, 31, 32] [] rfl rfl rfl (by decide) hP hD hS hA (va_runV (As := [.int (58 : Int32)]) (rest := []) ⟨hx, hb, hml, hown, htb⟩ (c_Mo_put l g F a_t r35.1 r35.2 (58 : Int32) _ hr36 H.size) (cw_V htb mb_Mo_put (htb _ L_Mo_396) rfl rfl ⟨Nat.le_of_ble_eq_true rfl, Nat.le_of_ble_eq_true rfl⟩) (pre_V (va_recv hK hP (ci := 8) (q0 := 0) rfl rfl) (pre_S [0, 1, 2, 3, 4, 5, 6, 7, 8, 9, 10, 11, 12, 13, 14, 15, 16, 17, 18, 19, 20, 21, 22, 23, 24, 25, 26, 27, 28, 29, 30, 31, 32] rfl rfl hP hD hS hA hAA hG)) rfl rfl hl.1 rfl (lv_room (Nat.le_of_ble_eq_true rfl)) d_Mo_putAtom_33 ⟨Nat.zero_le _, Nat.zero_le _⟩) (fun H locs hP hD hS => ?_)
    have hP : va_P (gD g) vwCl ((pic_Mo g a_t r36.1 r36.2)) H := hP.sub [0, 1, 2, 3, 4, 5, 6, 7, 8, 9, 10, 11, 12, 13, 14, 15, 16, 17, 18, 19, 20, 21, 22, 23, 24, 25, 26, 27, 28, 29, 30, 31, 32] rfl
    have hD : va_D A ((pic_Mo g a_t r36.1 r36.2)) := hD.sub [0, 1, 2, 3, 4, 5, 6, 7, 8, 9, 10, 11, 12, 13, 14, 15, 16, 17, 18, 19, 20, 21, 22, 23, 24, 25, 26, 27, 28, 29, 30, 31, 32] rfl rfl
    exact k_Mo_putAtom_36 hC _ _ _ _ h _ _ _ hP hD hS (lv_sub hl [0, 1] rfl)
theorem c_Mo_putAtom (l : Launch) (g : Gz) (F : Nat) (a_t : Nat → Nat) (t : StI) (tL : StL) (x1 : Int32) (res : StI × StL) (h : Mo_putAtom F t tL x1 = some res) : ∀ sz : Nat, Met l y_Mo_putAtom (.code y_Mo_putAtom prog_10_method_57_code 3 none :: TBL) rm_Mo_putAtom (va_Pc [.ref (a_t 0), .int x1] (Pre0 g ((pic_Mo g a_t t tL)) sz)) (EV g ((pic_Mo g a_t res.1 res.2)) (va_A ((pic_Mo g a_t t tL)) sz)) 0 0 (va_A ((pic_Mo g a_t t tL)) sz) :=
  ct_w (Qc := fun A => EV g ((pic_Mo g a_t res.1 res.2)) A) (by decide) (Nat.le_of_ble_eq_true rfl) (fun p e s m args below meth c A hC => k_Mo_putAtom hC t tL x1 res h)
