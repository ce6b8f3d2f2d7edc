theorem L_Mo_83 : (Jvm.Cond.fieldLink "MailQueriesModel" (83 : Nat) "MailQueriesModel" "kind" "[I") ∈ TBL := TBL_in (List.mem_of_getElem? (i := 999) (by decide +kernel)) (by decide +kernel)
theorem L_Mo_331 : (Jvm.Cond.fieldLink "MailQueriesModel" (331 : Nat) "MailQueriesModel" "nodes" "I") ∈ TBL := TBL_in (List.mem_of_getElem? (i := 997) (by decide +kernel)) (by decide +kernel)
theorem L_Mo_86 : (Jvm.Cond.fieldLink "MailQueriesModel" (86 : Nat) "MailQueriesModel" "left" "[I") ∈ TBL := TBL_in (List.mem_of_getElem? (i := 1000) (by decide +kernel)) (by decide +kernel)
theorem L_Mo_89 : (Jvm.Cond.fieldLink "MailQueriesModel" (89 : Nat) "MailQueriesModel" "right" "[I") ∈ TBL := TBL_in (List.mem_of_getElem? (i := 1001) (by decide +kernel)) (by decide +kernel)
set_option maxRecDepth 100000 in
theorem W_Mo_node_code : (Jvm.Cond.code ({ cls := "MailQueriesModel", name := "node", desc := "(III)I" } : Jvm.MethodName) prog_10_method_36_code (4 : Nat) (Option.some Jvm.ClassFile.FieldType.int)) ∈ TBL := TBL_in (List.mem_of_getElem? (i := 1252) rfl) rfl
theorem W_Mo_node_in : (Jvm.Cond.instanceMethod ({ cls := "MailQueriesModel", name := "node", desc := "(III)I" } : Jvm.MethodName)) ∈ TBL := TBL_in (List.mem_of_getElem? (i := 1251) (by decide +kernel)) (by decide +kernel)
theorem sel_64 : Cond.selects "MailQueriesModel" ⟨"MailQueriesModel", "node", "(III)I"⟩ ⟨"MailQueriesModel", "node", "(III)I"⟩ ∈ TBL := TBL_in (List.mem_of_getElem? (i := 64) (by decide +kernel)) (by decide +kernel)
theorem L_Mo_92 : (Jvm.Cond.fieldLink "MailQueriesModel" (92 : Nat) "MailQueriesModel" "value" "[I") ∈ TBL := TBL_in (List.mem_of_getElem? (i := 1005) (by decide +kernel)) (by decide +kernel)
theorem L_Mo_334 : (Jvm.Cond.fieldLink "MailQueriesModel" (334 : Nat) "MailQueriesModel" "values" "I") ∈ TBL := TBL_in (List.mem_of_getElem? (i := 1002) (by decide +kernel)) (by decide +kernel)
set_option maxRecDepth 100000 in
theorem W_Mo_push_code : (Jvm.Cond.code ({ cls := "MailQueriesModel", name := "push", desc := "(I)V" } : Jvm.MethodName) prog_10_method_37_code (2 : Nat) (Option.none : Option Jvm.ClassFile.FieldType)) ∈ TBL := TBL_in (List.mem_of_getElem? (i := 1345) rfl) rfl
theorem W_Mo_push_in : (Jvm.Cond.instanceMethod ({ cls := "MailQueriesModel", name := "push", desc := "(I)V" } : Jvm.MethodName)) ∈ TBL := TBL_in (List.mem_of_getElem? (i := 1344) (by decide +kernel)) (by decide +kernel)
theorem sel_82 : Cond.selects "MailQueriesModel" ⟨"MailQueriesModel", "push", "(I)V"⟩ ⟨"MailQueriesModel", "push", "(I)V"⟩ ∈ TBL := TBL_in (List.mem_of_getElem? (i := 82) (by decide +kernel)) (by decide +kernel)
theorem L_Mo_308 : (Jvm.Cond.fieldLink "MailQueriesModel" (308 : Nat) "MailQueriesModel" "came" "I") ∈ TBL := TBL_in (List.mem_of_getElem? (i := 988) (by decide +kernel)) (by decide +kernel)
theorem L_Mo_321 : (Jvm.Cond.methodLink "MailQueriesModel" (321 : Nat) ({ cls := "MailQueriesModel", name := "atomNumber", desc := "()I" } : Jvm.MethodName)) ∈ TBL := TBL_in (List.mem_of_getElem? (i := 1331) (by decide +kernel)) (by decide +kernel)
theorem L_Mo_324 : (Jvm.Cond.methodLink "MailQueriesModel" (324 : Nat) ({ cls := "MailQueriesModel", name := "node", desc := "(III)I" } : Jvm.MethodName)) ∈ TBL := TBL_in (List.mem_of_getElem? (i := 1249) (by decide +kernel)) (by decide +kernel)
theorem L_Mo_328 : (Jvm.Cond.methodLink "MailQueriesModel" (328 : Nat) ({ cls := "MailQueriesModel", name := "push", desc := "(I)V" } : Jvm.MethodName)) ∈ TBL := TBL_in (List.mem_of_getElem? (i := 1342) (by decide +kernel)) (by decide +kernel)
theorem L_Mo_318 : (Jvm.Cond.methodLink "MailQueriesModel" (318 : Nat) ({ cls := "MailQueriesModel", name := "isRight", desc := "()Z" } : Jvm.MethodName)) ∈ TBL := TBL_in (List.mem_of_getElem? (i := 1273) (by decide +kernel)) (by decide +kernel)
theorem L_Mo_314 : (Jvm.Cond.methodLink "MailQueriesModel" (314 : Nat) ({ cls := "MailQueriesModel", name := "takeRun", desc := "(I)V" } : Jvm.MethodName)) ∈ TBL := TBL_in (List.mem_of_getElem? (i := 1269) (by decide +kernel)) (by decide +kernel)
theorem L_Mo_311 : (Jvm.Cond.methodLink "MailQueriesModel" (311 : Nat) ({ cls := "MailQueriesModel", name := "takePhrase", desc := "(I)Z" } : Jvm.MethodName)) ∈ TBL := TBL_in (List.mem_of_getElem? (i := 1265) (by decide +kernel)) (by decide +kernel)
set_option maxRecDepth 100000 in
theorem W_Mo_readAtom_code : (Jvm.Cond.code ({ cls := "MailQueriesModel", name := "readAtom", desc := "()V" } : Jvm.MethodName) prog_10_method_35_code (4 : Nat) (Option.none : Option Jvm.ClassFile.FieldType)) ∈ TBL := TBL_in (List.mem_of_getElem? (i := 1264) rfl) rfl
theorem W_Mo_readAtom_in : (Jvm.Cond.instanceMethod ({ cls := "MailQueriesModel", name := "readAtom", desc := "()V" } : Jvm.MethodName)) ∈ TBL := TBL_in (List.mem_of_getElem? (i := 1263) (by decide +kernel)) (by decide +kernel)
theorem sel_67 : Cond.selects "MailQueriesModel" ⟨"MailQueriesModel", "readAtom", "()V"⟩ ⟨"MailQueriesModel", "readAtom", "()V"⟩ ∈ TBL := TBL_in (List.mem_of_getElem? (i := 67) (by decide +kernel)) (by decide +kernel)
theorem L_Mo_95 : (Jvm.Cond.fieldLink "MailQueriesModel" (95 : Nat) "MailQueriesModel" "wait" "[I") ∈ TBL := TBL_in (List.mem_of_getElem? (i := 1006) (by decide +kernel)) (by decide +kernel)
theorem L_Mo_337 : (Jvm.Cond.fieldLink "MailQueriesModel" (337 : Nat) "MailQueriesModel" "waits" "I") ∈ TBL := TBL_in (List.mem_of_getElem? (i := 1003) (by decide +kernel)) (by decide +kernel)
set_option maxRecDepth 100000 in
theorem W_Mo_hold_code : (Jvm.Cond.code ({ cls := "MailQueriesModel", name := "hold", desc := "(I)V" } : Jvm.MethodName) prog_10_method_38_code (2 : Nat) (Option.none : Option Jvm.ClassFile.FieldType)) ∈ TBL := TBL_in (List.mem_of_getElem? (i := 1256) rfl) rfl
theorem W_Mo_hold_in : (Jvm.Cond.instanceMethod ({ cls := "MailQueriesModel", name := "hold", desc := "(I)V" } : Jvm.MethodName)) ∈ TBL := TBL_in (List.mem_of_getElem? (i := 1255) (by decide +kernel)) (by decide +kernel)
theorem sel_65 : Cond.selects "MailQueriesModel" ⟨"MailQueriesModel", "hold", "(I)V"⟩ ⟨"MailQueriesModel", "hold", "(I)V"⟩ ∈ TBL := TBL_in (List.mem_of_getElem? (i := 65) (by decide +kernel)) (by decide +kernel)
set_option maxRecDepth 100000 in
theorem W_Mo_reduce_code : (Jvm.Cond.code ({ cls := "MailQueriesModel", name := "reduce", desc := "()V" } : Jvm.MethodName) prog_10_method_39_code (3 : Nat) (Option.none : Option Jvm.ClassFile.FieldType)) ∈ TBL := TBL_in (List.mem_of_getElem? (i := 1248) rfl) rfl
theorem W_Mo_reduce_in : (Jvm.Cond.instanceMethod ({ cls := "MailQueriesModel", name := "reduce", desc := "()V" } : Jvm.MethodName)) ∈ TBL := TBL_in (List.mem_of_getElem? (i := 1247) (by decide +kernel)) (by decide +kernel)
theorem sel_63 : Cond.selects "MailQueriesModel" ⟨"MailQueriesModel", "reduce", "()V"⟩ ⟨"MailQueriesModel", "reduce", "()V"⟩ ∈ TBL := TBL_in (List.mem_of_getElem? (i := 63) (by decide +kernel)) (by decide +kernel)
theorem L_Mo_340 : (Jvm.Cond.methodLink "MailQueriesModel" (340 : Nat) ({ cls := "MailQueriesModel", name := "reduce", desc := "()V" } : Jvm.MethodName)) ∈ TBL := TBL_in (List.mem_of_getElem? (i := 1245) (by decide +kernel)) (by decide +kernel)
set_option maxRecDepth 100000 in
theorem W_Mo_reduceTo_code : (Jvm.Cond.code ({ cls := "MailQueriesModel", name := "reduceTo", desc := "(I)V" } : Jvm.MethodName) prog_10_method_40_code (2 : Nat) (Option.none : Option Jvm.ClassFile.FieldType)) ∈ TBL := TBL_in (List.mem_of_getElem? (i := 1244) rfl) rfl
theorem W_Mo_reduceTo_in : (Jvm.Cond.instanceMethod ({ cls := "MailQueriesModel", name := "reduceTo", desc := "(I)V" } : Jvm.MethodName)) ∈ TBL := TBL_in (List.mem_of_getElem? (i := 1243) (by decide +kernel)) (by decide +kernel)
theorem sel_62 : Cond.selects "MailQueriesModel" ⟨"MailQueriesModel", "reduceTo", "(I)V"⟩ ⟨"MailQueriesModel", "reduceTo", "(I)V"⟩ ∈ TBL := TBL_in (List.mem_of_getElem? (i := 62) (by decide +kernel)) (by decide +kernel)
theorem L_Mo_343 : (Jvm.Cond.methodLink "MailQueriesModel" (343 : Nat) ({ cls := "MailQueriesModel", name := "reduceTo", desc := "(I)V" } : Jvm.MethodName)) ∈ TBL := TBL_in (List.mem_of_getElem? (i := 1241) (by decide +kernel)) (by decide +kernel)
theorem L_Mo_346 : (Jvm.Cond.methodLink "MailQueriesModel" (346 : Nat) ({ cls := "MailQueriesModel", name := "hold", desc := "(I)V" } : Jvm.MethodName)) ∈ TBL := TBL_in (List.mem_of_getElem? (i := 1253) (by decide +kernel)) (by decide +kernel)
set_option maxRecDepth 100000 in
theorem W_Mo_between_code : (Jvm.Cond.code ({ cls := "MailQueriesModel", name := "between", desc := "(I)V" } : Jvm.MethodName) prog_10_method_41_code (2 : Nat) (Option.none : Option Jvm.ClassFile.FieldType)) ∈ TBL := TBL_in (List.mem_of_getElem? (i := 1240) rfl) rfl
theorem W_Mo_between_in : (Jvm.Cond.instanceMethod ({ cls := "MailQueriesModel", name := "between", desc := "(I)V" } : Jvm.MethodName)) ∈ TBL := TBL_in (List.mem_of_getElem? (i := 1239) (by decide +kernel)) (by decide +kernel)
theorem sel_61 : Cond.selects "MailQueriesModel" ⟨"MailQueriesModel", "between", "(I)V"⟩ ⟨"MailQueriesModel", "between", "(I)V"⟩ ∈ TBL := TBL_in (List.mem_of_getElem? (i := 61) (by decide +kernel)) (by decide +kernel)
theorem L_Mo_349 : (Jvm.Cond.fieldLink "MailQueriesModel" (349 : Nat) "MailQueriesModel" "opened" "I") ∈ TBL := TBL_in (List.mem_of_getElem? (i := 1004) (by decide +kernel)) (by decide +kernel)
theorem L_Mo_352 : (Jvm.Cond.methodLink "MailQueriesModel" (352 : Nat) ({ cls := "MailQueriesModel", name := "readAtom", desc := "()V" } : Jvm.MethodName)) ∈ TBL := TBL_in (List.mem_of_getElem? (i := 1261) (by decide +kernel)) (by decide +kernel)
set_option maxRecDepth 100000 in
theorem W_Mo_operand_code : (Jvm.Cond.code ({ cls := "MailQueriesModel", name := "operand", desc := "()Z" } : Jvm.MethodName) prog_10_method_42_code (1 : Nat) (Option.some Jvm.ClassFile.FieldType.boolean)) ∈ TBL := TBL_in (List.mem_of_getElem? (i := 1260) rfl) rfl
theorem W_Mo_operand_in : (Jvm.Cond.instanceMethod ({ cls := "MailQueriesModel", name := "operand", desc := "()Z" } : Jvm.MethodName)) ∈ TBL := TBL_in (List.mem_of_getElem? (i := 1259) (by decide +kernel)) (by decide +kernel)
theorem sel_66 : Cond.selects "MailQueriesModel" ⟨"MailQueriesModel", "operand", "()Z"⟩ ⟨"MailQueriesModel", "operand", "()Z"⟩ ∈ TBL := TBL_in (List.mem_of_getElem? (i := 66) (by decide +kernel)) (by decide +kernel)
def y_Mo_node : MethodName := ⟨"MailQueriesModel", "node", "(III)I"⟩
def rm_Mo_node : Room := { frames := 0, cells := 0, slots := 0, locals := 0 }
theorem d_Mo_node_0 : decode prog_10_method_36_code 0 = .ok (.aload_n 0, 1) := by decide +kernel
theorem d_Mo_node_1 : decode prog_10_method_36_code 1 = .ok (.getfield 83, 3) := by decide +kernel
theorem d_Mo_node_4 : decode prog_10_method_36_code 4 = .ok (.aload_n 0, 1) := by decide +kernel
theorem d_Mo_node_5 : decode prog_10_method_36_code 5 = .ok (.getfield 331, 3) := by decide +kernel
theorem d_Mo_node_8 : decode prog_10_method_36_code 8 = .ok (.iload_n 1, 1) := by decide +kernel
theorem d_Mo_node_9 : decode prog_10_method_36_code 9 = .ok (.iastore, 1) := by decide +kernel
theorem d_Mo_node_10 : decode prog_10_method_36_code 10 = .ok (.aload_n 0, 1) := by decide +kernel
theorem d_Mo_node_11 : decode prog_10_method_36_code 11 = .ok (.getfield 86, 3) := by decide +kernel
theorem d_Mo_node_14 : decode prog_10_method_36_code 14 = .ok (.aload_n 0, 1) := by decide +kernel
theorem d_Mo_node_15 : decode prog_10_method_36_code 15 = .ok (.getfield 331, 3) := by decide +kernel
theorem d_Mo_node_18 : decode prog_10_method_36_code 18 = .ok (.iload_n 2, 1) := by decide +kernel
theorem d_Mo_node_19 : decode prog_10_method_36_code 19 = .ok (.iastore, 1) := by decide +kernel
theorem d_Mo_node_20 : decode prog_10_method_36_code 20 = .ok (.aload_n 0, 1) := by decide +kernel
theorem d_Mo_node_21 : decode prog_10_method_36_code 21 = .ok (.getfield 89, 3) := by decide +kernel
theorem d_Mo_node_24 : decode prog_10_method_36_code 24 = .ok (.aload_n 0, 1) := by decide +kernel
theorem d_Mo_node_25 : decode prog_10_method_36_code 25 = .ok (.getfield 331, 3) := by decide +kernel
theorem d_Mo_node_28 : decode prog_10_method_36_code 28 = .ok (.iload_n 3, 1) := by decide +kernel
theorem d_Mo_node_29 : decode prog_10_method_36_code 29 = .ok (.iastore, 1) := by decide +kernel
theorem d_Mo_node_30 : decode prog_10_method_36_code 30 = .ok (.aload_n 0, 1) := by decide +kernel
theorem d_Mo_node_31 : decode prog_10_method_36_code 31 = .ok (.dup, 1) := by decide +kernel
theorem d_Mo_node_32 : decode prog_10_method_36_code 32 = .ok (.getfield 331, 3) := by decide +kernel
theorem d_Mo_node_35 : decode prog_10_method_36_code 35 = .ok (.iconst 1, 1) := by decide +kernel
theorem d_Mo_node_36 : decode prog_10_method_36_code 36 = .ok (.iadd, 1) := by decide +kernel
theorem d_Mo_node_37 : decode prog_10_method_36_code 37 = .ok (.putfield 331, 3) := by decide +kernel
theorem d_Mo_node_40 : decode prog_10_method_36_code 40 = .ok (.aload_n 0, 1) := by decide +kernel
theorem d_Mo_node_41 : decode prog_10_method_36_code 41 = .ok (.getfield 331, 3) := by decide +kernel
theorem d_Mo_node_44 : decode prog_10_method_36_code 44 = .ok (.iconst 1, 1) := by decide +kernel
theorem d_Mo_node_45 : decode prog_10_method_36_code 45 = .ok (.isub, 1) := by decide +kernel
theorem d_Mo_node_46 : decode prog_10_method_36_code 46 = .ok (.ireturn, 1) := by decide +kernel
def y_Mo_push : MethodName := ⟨"MailQueriesModel", "push", "(I)V"⟩
def rm_Mo_push : Room := { frames := 0, cells := 0, slots := 0, locals := 0 }
theorem d_Mo_push_0 : decode prog_10_method_37_code 0 = .ok (.aload_n 0, 1) := by decide +kernel
theorem d_Mo_push_1 : decode prog_10_method_37_code 1 = .ok (.getfield 92, 3) := by decide +kernel
theorem d_Mo_push_4 : decode prog_10_method_37_code 4 = .ok (.aload_n 0, 1) := by decide +kernel
theorem d_Mo_push_5 : decode prog_10_method_37_code 5 = .ok (.getfield 334, 3) := by decide +kernel
theorem d_Mo_push_8 : decode prog_10_method_37_code 8 = .ok (.iload_n 1, 1) := by decide +kernel
theorem d_Mo_push_9 : decode prog_10_method_37_code 9 = .ok (.iastore, 1) := by decide +kernel
theorem d_Mo_push_10 : decode prog_10_method_37_code 10 = .ok (.aload_n 0, 1) := by decide +kernel
theorem d_Mo_push_11 : decode prog_10_method_37_code 11 = .ok (.dup, 1) := by decide +kernel
theorem d_Mo_push_12 : decode prog_10_method_37_code 12 = .ok (.getfield 334, 3) := by decide +kernel
theorem d_Mo_push_15 : decode prog_10_method_37_code 15 = .ok (.iconst 1, 1) := by decide +kernel
theorem d_Mo_push_16 : decode prog_10_method_37_code 16 = .ok (.iadd, 1) := by decide +kernel
theorem d_Mo_push_17 : decode prog_10_method_37_code 17 = .ok (.putfield 334, 3) := by decide +kernel
theorem d_Mo_push_20 : decode prog_10_method_37_code 20 = .ok (.return_, 1) := by decide +kernel
def y_Mo_readAtom : MethodName := ⟨"MailQueriesModel", "readAtom", "()V"⟩
def rm_Mo_readAtom : Room := { frames := 6, cells := 0, slots := 0, locals := 140 }
theorem d_Mo_readAtom_0 : decode prog_10_method_35_code 0 = .ok (.aload_n 0, 1) := by decide +kernel
theorem d_Mo_readAtom_1 : decode prog_10_method_35_code 1 = .ok (.getfield 199, 3) := by decide +kernel
theorem d_Mo_readAtom_4 : decode prog_10_method_35_code 4 = .ok (.aload_n 0, 1) := by decide +kernel
theorem d_Mo_readAtom_5 : decode prog_10_method_35_code 5 = .ok (.getfield 208, 3) := by decide +kernel
theorem d_Mo_readAtom_8 : decode prog_10_method_35_code 8 = .ok (.if_icmp .le 7, 3) := by decide +kernel
theorem d_Mo_readAtom_11 : decode prog_10_method_35_code 11 = .ok (.iconst 1, 1) := by decide +kernel
theorem d_Mo_readAtom_12 : decode prog_10_method_35_code 12 = .ok (.goto 4, 3) := by decide +kernel
theorem d_Mo_readAtom_15 : decode prog_10_method_35_code 15 = .ok (.iconst 0, 1) := by decide +kernel
theorem d_Mo_readAtom_16 : decode prog_10_method_35_code 16 = .ok (.istore_n 1, 1) := by decide +kernel
theorem d_Mo_readAtom_17 : decode prog_10_method_35_code 17 = .ok (.iload_n 1, 1) := by decide +kernel
theorem d_Mo_readAtom_18 : decode prog_10_method_35_code 18 = .ok (.ifCond .eq 20, 3) := by decide +kernel
theorem d_Mo_readAtom_21 : decode prog_10_method_35_code 21 = .ok (.aload_n 0, 1) := by decide +kernel
theorem d_Mo_readAtom_22 : decode prog_10_method_35_code 22 = .ok (.getfield 214, 3) := by decide +kernel
theorem d_Mo_readAtom_25 : decode prog_10_method_35_code 25 = .ok (.iconst (-1), 1) := by decide +kernel
theorem d_Mo_readAtom_26 : decode prog_10_method_35_code 26 = .ok (.if_icmp .ne 12, 3) := by decide +kernel
theorem d_Mo_readAtom_29 : decode prog_10_method_35_code 29 = .ok (.aload_n 0, 1) := by decide +kernel
theorem d_Mo_readAtom_30 : decode prog_10_method_35_code 30 = .ok (.iconst 3, 1) := by decide +kernel
theorem d_Mo_readAtom_31 : decode prog_10_method_35_code 31 = .ok (.aload_n 0, 1) := by decide +kernel
theorem d_Mo_readAtom_32 : decode prog_10_method_35_code 32 = .ok (.getfield 208, 3) := by decide +kernel
theorem d_Mo_readAtom_35 : decode prog_10_method_35_code 35 = .ok (.invokevirtual 217, 3) := by decide +kernel
theorem d_Mo_readAtom_38 : decode prog_10_method_35_code 38 = .ok (.iload_n 1, 1) := by decide +kernel
theorem d_Mo_readAtom_39 : decode prog_10_method_35_code 39 = .ok (.ifCond .eq 21, 3) := by decide +kernel
theorem d_Mo_readAtom_42 : decode prog_10_method_35_code 42 = .ok (.aload_n 0, 1) := by decide +kernel
theorem d_Mo_readAtom_43 : decode prog_10_method_35_code 43 = .ok (.getfield 308, 3) := by decide +kernel
theorem d_Mo_readAtom_46 : decode prog_10_method_35_code 46 = .ok (.bipush 40, 2) := by decide +kernel
theorem d_Mo_readAtom_48 : decode prog_10_method_35_code 48 = .ok (.if_icmp .ne 12, 3) := by decide +kernel
theorem d_Mo_readAtom_51 : decode prog_10_method_35_code 51 = .ok (.aload_n 0, 1) := by decide +kernel
theorem d_Mo_readAtom_52 : decode prog_10_method_35_code 52 = .ok (.iconst 5, 1) := by decide +kernel
theorem d_Mo_readAtom_53 : decode prog_10_method_35_code 53 = .ok (.aload_n 0, 1) := by decide +kernel
theorem d_Mo_readAtom_54 : decode prog_10_method_35_code 54 = .ok (.getfield 208, 3) := by decide +kernel
theorem d_Mo_readAtom_57 : decode prog_10_method_35_code 57 = .ok (.invokevirtual 217, 3) := by decide +kernel
theorem d_Mo_readAtom_60 : decode prog_10_method_35_code 60 = .ok (.aload_n 0, 1) := by decide +kernel
theorem d_Mo_readAtom_61 : decode prog_10_method_35_code 61 = .ok (.aload_n 0, 1) := by decide +kernel
theorem d_Mo_readAtom_62 : decode prog_10_method_35_code 62 = .ok (.getfield 199, 3) := by decide +kernel
theorem d_Mo_readAtom_65 : decode prog_10_method_35_code 65 = .ok (.invokevirtual 160, 3) := by decide +kernel
theorem d_Mo_readAtom_68 : decode prog_10_method_35_code 68 = .ok (.istore_n 2, 1) := by decide +kernel
theorem d_Mo_readAtom_69 : decode prog_10_method_35_code 69 = .ok (.iload_n 2, 1) := by decide +kernel
theorem d_Mo_readAtom_70 : decode prog_10_method_35_code 70 = .ok (.bipush 34, 2) := by decide +kernel
theorem d_Mo_readAtom_72 : decode prog_10_method_35_code 72 = .ok (.if_icmp .ne 25, 3) := by decide +kernel
theorem d_Mo_readAtom_75 : decode prog_10_method_35_code 75 = .ok (.aload_n 0, 1) := by decide +kernel
theorem d_Mo_readAtom_76 : decode prog_10_method_35_code 76 = .ok (.getfield 199, 3) := by decide +kernel
theorem d_Mo_readAtom_79 : decode prog_10_method_35_code 79 = .ok (.istore_n 3, 1) := by decide +kernel
theorem d_Mo_readAtom_80 : decode prog_10_method_35_code 80 = .ok (.aload_n 0, 1) := by decide +kernel
theorem d_Mo_readAtom_81 : decode prog_10_method_35_code 81 = .ok (.iload_n 3, 1) := by decide +kernel
theorem d_Mo_readAtom_82 : decode prog_10_method_35_code 82 = .ok (.invokevirtual 311, 3) := by decide +kernel
theorem d_Mo_readAtom_85 : decode prog_10_method_35_code 85 = .ok (.ifCond .ne 9, 3) := by decide +kernel
theorem d_Mo_readAtom_88 : decode prog_10_method_35_code 88 = .ok (.aload_n 0, 1) := by decide +kernel
theorem d_Mo_readAtom_89 : decode prog_10_method_35_code 89 = .ok (.iconst 2, 1) := by decide +kernel
theorem d_Mo_readAtom_90 : decode prog_10_method_35_code 90 = .ok (.iload_n 3, 1) := by decide +kernel
theorem d_Mo_readAtom_91 : decode prog_10_method_35_code 91 = .ok (.invokevirtual 217, 3) := by decide +kernel
theorem d_Mo_readAtom_94 : decode prog_10_method_35_code 94 = .ok (.goto 69, 3) := by decide +kernel
theorem d_Mo_readAtom_97 : decode prog_10_method_35_code 97 = .ok (.iload_n 2, 1) := by decide +kernel
theorem d_Mo_readAtom_98 : decode prog_10_method_35_code 98 = .ok (.invokestatic 164, 3) := by decide +kernel
theorem d_Mo_readAtom_101 : decode prog_10_method_35_code 101 = .ok (.ifCond .eq 14, 3) := by decide +kernel
theorem d_Mo_readAtom_104 : decode prog_10_method_35_code 104 = .ok (.aload_n 0, 1) := by decide +kernel
theorem d_Mo_readAtom_105 : decode prog_10_method_35_code 105 = .ok (.aload_n 0, 1) := by decide +kernel
theorem d_Mo_readAtom_106 : decode prog_10_method_35_code 106 = .ok (.getfield 199, 3) := by decide +kernel
theorem d_Mo_readAtom_109 : decode prog_10_method_35_code 109 = .ok (.invokevirtual 314, 3) := by decide +kernel
theorem d_Mo_readAtom_112 : decode prog_10_method_35_code 112 = .ok (.goto 51, 3) := by decide +kernel
theorem d_Mo_readAtom_115 : decode prog_10_method_35_code 115 = .ok (.iload_n 2, 1) := by decide +kernel
theorem d_Mo_readAtom_116 : decode prog_10_method_35_code 116 = .ok (.iconst (-1), 1) := by decide +kernel
theorem d_Mo_readAtom_117 : decode prog_10_method_35_code 117 = .ok (.if_icmp .eq 23, 3) := by decide +kernel
theorem d_Mo_readAtom_120 : decode prog_10_method_35_code 120 = .ok (.aload_n 0, 1) := by decide +kernel
theorem d_Mo_readAtom_121 : decode prog_10_method_35_code 121 = .ok (.iload_n 2, 1) := by decide +kernel
theorem d_Mo_readAtom_122 : decode prog_10_method_35_code 122 = .ok (.invokevirtual 205, 3) := by decide +kernel
theorem d_Mo_readAtom_125 : decode prog_10_method_35_code 125 = .ok (.ifCond .ne 15, 3) := by decide +kernel
theorem d_Mo_readAtom_128 : decode prog_10_method_35_code 128 = .ok (.iload_n 2, 1) := by decide +kernel
theorem d_Mo_readAtom_129 : decode prog_10_method_35_code 129 = .ok (.bipush 40, 2) := by decide +kernel
theorem d_Mo_readAtom_131 : decode prog_10_method_35_code 131 = .ok (.if_icmp .eq 9, 3) := by decide +kernel
theorem d_Mo_readAtom_134 : decode prog_10_method_35_code 134 = .ok (.iload_n 2, 1) := by decide +kernel
theorem d_Mo_readAtom_135 : decode prog_10_method_35_code 135 = .ok (.bipush 41, 2) := by decide +kernel
theorem d_Mo_readAtom_137 : decode prog_10_method_35_code 137 = .ok (.if_icmp .ne 7, 3) := by decide +kernel
theorem d_Mo_readAtom_140 : decode prog_10_method_35_code 140 = .ok (.iconst 1, 1) := by decide +kernel
theorem d_Mo_readAtom_141 : decode prog_10_method_35_code 141 = .ok (.goto 4, 3) := by decide +kernel
theorem d_Mo_readAtom_144 : decode prog_10_method_35_code 144 = .ok (.iconst 0, 1) := by decide +kernel
theorem d_Mo_readAtom_145 : decode prog_10_method_35_code 145 = .ok (.istore_n 3, 1) := by decide +kernel
theorem d_Mo_readAtom_146 : decode prog_10_method_35_code 146 = .ok (.aload_n 0, 1) := by decide +kernel
theorem d_Mo_readAtom_147 : decode prog_10_method_35_code 147 = .ok (.iload_n 3, 1) := by decide +kernel
theorem d_Mo_readAtom_148 : decode prog_10_method_35_code 148 = .ok (.ifCond .eq 7, 3) := by decide +kernel
theorem d_Mo_readAtom_151 : decode prog_10_method_35_code 151 = .ok (.iconst 1, 1) := by decide +kernel
theorem d_Mo_readAtom_152 : decode prog_10_method_35_code 152 = .ok (.goto 4, 3) := by decide +kernel
theorem d_Mo_readAtom_155 : decode prog_10_method_35_code 155 = .ok (.iconst 2, 1) := by decide +kernel
theorem d_Mo_readAtom_156 : decode prog_10_method_35_code 156 = .ok (.aload_n 0, 1) := by decide +kernel
theorem d_Mo_readAtom_157 : decode prog_10_method_35_code 157 = .ok (.getfield 199, 3) := by decide +kernel
theorem d_Mo_readAtom_160 : decode prog_10_method_35_code 160 = .ok (.invokevirtual 217, 3) := by decide +kernel
theorem d_Mo_readAtom_163 : decode prog_10_method_35_code 163 = .ok (.aload_n 0, 1) := by decide +kernel
theorem d_Mo_readAtom_164 : decode prog_10_method_35_code 164 = .ok (.getfield 157, 3) := by decide +kernel
theorem d_Mo_readAtom_167 : decode prog_10_method_35_code 167 = .ok (.ifCond .ne 35, 3) := by decide +kernel
theorem d_Mo_readAtom_170 : decode prog_10_method_35_code 170 = .ok (.aload_n 0, 1) := by decide +kernel
theorem d_Mo_readAtom_171 : decode prog_10_method_35_code 171 = .ok (.invokevirtual 318, 3) := by decide +kernel
theorem d_Mo_readAtom_174 : decode prog_10_method_35_code 174 = .ok (.ifCond .ne 28, 3) := by decide +kernel
theorem d_Mo_readAtom_177 : decode prog_10_method_35_code 177 = .ok (.aload_n 0, 1) := by decide +kernel
theorem d_Mo_readAtom_178 : decode prog_10_method_35_code 178 = .ok (.iconst 4, 1) := by decide +kernel
theorem d_Mo_readAtom_179 : decode prog_10_method_35_code 179 = .ok (.aload_n 0, 1) := by decide +kernel
theorem d_Mo_readAtom_180 : decode prog_10_method_35_code 180 = .ok (.getfield 189, 3) := by decide +kernel
theorem d_Mo_readAtom_183 : decode prog_10_method_35_code 183 = .ok (.ifCond .eq 12, 3) := by decide +kernel
theorem d_Mo_readAtom_186 : decode prog_10_method_35_code 186 = .ok (.aload_n 0, 1) := by decide +kernel
theorem d_Mo_readAtom_187 : decode prog_10_method_35_code 187 = .ok (.getfield 193, 3) := by decide +kernel
theorem d_Mo_readAtom_190 : decode prog_10_method_35_code 190 = .ok (.iconst 1, 1) := by decide +kernel
theorem d_Mo_readAtom_191 : decode prog_10_method_35_code 191 = .ok (.isub, 1) := by decide +kernel
theorem d_Mo_readAtom_192 : decode prog_10_method_35_code 192 = .ok (.goto 7, 3) := by decide +kernel
theorem d_Mo_readAtom_195 : decode prog_10_method_35_code 195 = .ok (.aload_n 0, 1) := by decide +kernel
theorem d_Mo_readAtom_196 : decode prog_10_method_35_code 196 = .ok (.getfield 193, 3) := by decide +kernel
theorem d_Mo_readAtom_199 : decode prog_10_method_35_code 199 = .ok (.invokevirtual 217, 3) := by decide +kernel
theorem d_Mo_readAtom_202 : decode prog_10_method_35_code 202 = .ok (.aload_n 0, 1) := by decide +kernel
theorem d_Mo_readAtom_203 : decode prog_10_method_35_code 203 = .ok (.getfield 308, 3) := by decide +kernel
theorem d_Mo_readAtom_206 : decode prog_10_method_35_code 206 = .ok (.bipush 40, 2) := by decide +kernel
theorem d_Mo_readAtom_208 : decode prog_10_method_35_code 208 = .ok (.if_icmp .ne 12, 3) := by decide +kernel
theorem d_Mo_readAtom_211 : decode prog_10_method_35_code 211 = .ok (.aload_n 0, 1) := by decide +kernel
theorem d_Mo_readAtom_212 : decode prog_10_method_35_code 212 = .ok (.iconst 5, 1) := by decide +kernel
theorem d_Mo_readAtom_213 : decode prog_10_method_35_code 213 = .ok (.aload_n 0, 1) := by decide +kernel
theorem d_Mo_readAtom_214 : decode prog_10_method_35_code 214 = .ok (.getfield 208, 3) := by decide +kernel
theorem d_Mo_readAtom_217 : decode prog_10_method_35_code 217 = .ok (.invokevirtual 217, 3) := by decide +kernel
theorem d_Mo_readAtom_220 : decode prog_10_method_35_code 220 = .ok (.aload_n 0, 1) := by decide +kernel
theorem d_Mo_readAtom_221 : decode prog_10_method_35_code 221 = .ok (.getfield 157, 3) := by decide +kernel
theorem d_Mo_readAtom_224 : decode prog_10_method_35_code 224 = .ok (.ifCond .ne 40, 3) := by decide +kernel
theorem d_Mo_readAtom_227 : decode prog_10_method_35_code 227 = .ok (.aload_n 0, 1) := by decide +kernel
theorem d_Mo_readAtom_228 : decode prog_10_method_35_code 228 = .ok (.dup, 1) := by decide +kernel
theorem d_Mo_readAtom_229 : decode prog_10_method_35_code 229 = .ok (.getfield 308, 3) := by decide +kernel
theorem d_Mo_readAtom_232 : decode prog_10_method_35_code 232 = .ok (.iconst 1, 1) := by decide +kernel
theorem d_Mo_readAtom_233 : decode prog_10_method_35_code 233 = .ok (.iadd, 1) := by decide +kernel
theorem d_Mo_readAtom_234 : decode prog_10_method_35_code 234 = .ok (.putfield 308, 3) := by decide +kernel
theorem d_Mo_readAtom_237 : decode prog_10_method_35_code 237 = .ok (.aload_n 0, 1) := by decide +kernel
theorem d_Mo_readAtom_238 : decode prog_10_method_35_code 238 = .ok (.invokevirtual 321, 3) := by decide +kernel
theorem d_Mo_readAtom_241 : decode prog_10_method_35_code 241 = .ok (.istore_n 3, 1) := by decide +kernel
theorem d_Mo_readAtom_242 : decode prog_10_method_35_code 242 = .ok (.aload_n 0, 1) := by decide +kernel
theorem d_Mo_readAtom_243 : decode prog_10_method_35_code 243 = .ok (.getfield 70, 3) := by decide +kernel
theorem d_Mo_readAtom_246 : decode prog_10_method_35_code 246 = .ok (.iload_n 3, 1) := by decide +kernel
theorem d_Mo_readAtom_247 : decode prog_10_method_35_code 247 = .ok (.dup2, 1) := by decide +kernel
theorem d_Mo_readAtom_248 : decode prog_10_method_35_code 248 = .ok (.iaload, 1) := by decide +kernel
theorem d_Mo_readAtom_249 : decode prog_10_method_35_code 249 = .ok (.iconst 1, 1) := by decide +kernel
theorem d_Mo_readAtom_250 : decode prog_10_method_35_code 250 = .ok (.iadd, 1) := by decide +kernel
theorem d_Mo_readAtom_251 : decode prog_10_method_35_code 251 = .ok (.iastore, 1) := by decide +kernel
theorem d_Mo_readAtom_252 : decode prog_10_method_35_code 252 = .ok (.aload_n 0, 1) := by decide +kernel
theorem d_Mo_readAtom_253 : decode prog_10_method_35_code 253 = .ok (.aload_n 0, 1) := by decide +kernel
theorem d_Mo_readAtom_254 : decode prog_10_method_35_code 254 = .ok (.bipush 7, 2) := by decide +kernel
theorem d_Mo_readAtom_256 : decode prog_10_method_35_code 256 = .ok (.iload_n 3, 1) := by decide +kernel
theorem d_Mo_readAtom_257 : decode prog_10_method_35_code 257 = .ok (.iconst (-1), 1) := by decide +kernel
theorem d_Mo_readAtom_258 : decode prog_10_method_35_code 258 = .ok (.invokevirtual 324, 3) := by decide +kernel
theorem d_Mo_readAtom_261 : decode prog_10_method_35_code 261 = .ok (.invokevirtual 328, 3) := by decide +kernel
theorem d_Mo_readAtom_264 : decode prog_10_method_35_code 264 = .ok (.return_, 1) := by decide +kernel
def y_Mo_hold : MethodName := ⟨"MailQueriesModel", "hold", "(I)V"⟩
def rm_Mo_hold : Room := { frames := 0, cells := 0, slots := 0, locals := 0 }
theorem d_Mo_hold_0 : decode prog_10_method_38_code 0 = .ok (.aload_n 0, 1) := by decide +kernel
theorem d_Mo_hold_1 : decode prog_10_method_38_code 1 = .ok (.getfield 95, 3) := by decide +kernel
theorem d_Mo_hold_4 : decode prog_10_method_38_code 4 = .ok (.aload_n 0, 1) := by decide +kernel
theorem d_Mo_hold_5 : decode prog_10_method_38_code 5 = .ok (.getfield 337, 3) := by decide +kernel
theorem d_Mo_hold_8 : decode prog_10_method_38_code 8 = .ok (.iload_n 1, 1) := by decide +kernel
theorem d_Mo_hold_9 : decode prog_10_method_38_code 9 = .ok (.iastore, 1) := by decide +kernel
theorem d_Mo_hold_10 : decode prog_10_method_38_code 10 = .ok (.aload_n 0, 1) := by decide +kernel
theorem d_Mo_hold_11 : decode prog_10_method_38_code 11 = .ok (.dup, 1) := by decide +kernel
theorem d_Mo_hold_12 : decode prog_10_method_38_code 12 = .ok (.getfield 337, 3) := by decide +kernel
theorem d_Mo_hold_15 : decode prog_10_method_38_code 15 = .ok (.iconst 1, 1) := by decide +kernel
theorem d_Mo_hold_16 : decode prog_10_method_38_code 16 = .ok (.iadd, 1) := by decide +kernel
theorem d_Mo_hold_17 : decode prog_10_method_38_code 17 = .ok (.putfield 337, 3) := by decide +kernel
theorem d_Mo_hold_20 : decode prog_10_method_38_code 20 = .ok (.return_, 1) := by decide +kernel
def y_Mo_reduce : MethodName := ⟨"MailQueriesModel", "reduce", "()V"⟩
def rm_Mo_reduce : Room := { frames := 1, cells := 0, slots := 0, locals := 23 }
theorem d_Mo_reduce_0 : decode prog_10_method_39_code 0 = .ok (.aload_n 0, 1) := by decide +kernel
theorem d_Mo_reduce_1 : decode prog_10_method_39_code 1 = .ok (.dup, 1) := by decide +kernel
theorem d_Mo_reduce_2 : decode prog_10_method_39_code 2 = .ok (.getfield 337, 3) := by decide +kernel
theorem d_Mo_reduce_5 : decode prog_10_method_39_code 5 = .ok (.iconst 1, 1) := by decide +kernel
theorem d_Mo_reduce_6 : decode prog_10_method_39_code 6 = .ok (.isub, 1) := by decide +kernel
theorem d_Mo_reduce_7 : decode prog_10_method_39_code 7 = .ok (.putfield 337, 3) := by decide +kernel
theorem d_Mo_reduce_10 : decode prog_10_method_39_code 10 = .ok (.aload_n 0, 1) := by decide +kernel
theorem d_Mo_reduce_11 : decode prog_10_method_39_code 11 = .ok (.getfield 95, 3) := by decide +kernel
theorem d_Mo_reduce_14 : decode prog_10_method_39_code 14 = .ok (.aload_n 0, 1) := by decide +kernel
theorem d_Mo_reduce_15 : decode prog_10_method_39_code 15 = .ok (.getfield 337, 3) := by decide +kernel
theorem d_Mo_reduce_18 : decode prog_10_method_39_code 18 = .ok (.iaload, 1) := by decide +kernel
theorem d_Mo_reduce_19 : decode prog_10_method_39_code 19 = .ok (.istore_n 1, 1) := by decide +kernel
theorem d_Mo_reduce_20 : decode prog_10_method_39_code 20 = .ok (.aload_n 0, 1) := by decide +kernel
theorem d_Mo_reduce_21 : decode prog_10_method_39_code 21 = .ok (.getfield 92, 3) := by decide +kernel
theorem d_Mo_reduce_24 : decode prog_10_method_39_code 24 = .ok (.aload_n 0, 1) := by decide +kernel
theorem d_Mo_reduce_25 : decode prog_10_method_39_code 25 = .ok (.getfield 334, 3) := by decide +kernel
theorem d_Mo_reduce_28 : decode prog_10_method_39_code 28 = .ok (.iconst 1, 1) := by decide +kernel
theorem d_Mo_reduce_29 : decode prog_10_method_39_code 29 = .ok (.isub, 1) := by decide +kernel
theorem d_Mo_reduce_30 : decode prog_10_method_39_code 30 = .ok (.iaload, 1) := by decide +kernel
theorem d_Mo_reduce_31 : decode prog_10_method_39_code 31 = .ok (.istore_n 2, 1) := by decide +kernel
theorem d_Mo_reduce_32 : decode prog_10_method_39_code 32 = .ok (.iload_n 1, 1) := by decide +kernel
theorem d_Mo_reduce_33 : decode prog_10_method_39_code 33 = .ok (.iconst 4, 1) := by decide +kernel
theorem d_Mo_reduce_34 : decode prog_10_method_39_code 34 = .ok (.if_icmp .ne 24, 3) := by decide +kernel
theorem d_Mo_reduce_37 : decode prog_10_method_39_code 37 = .ok (.aload_n 0, 1) := by decide +kernel
theorem d_Mo_reduce_38 : decode prog_10_method_39_code 38 = .ok (.getfield 92, 3) := by decide +kernel
theorem d_Mo_reduce_41 : decode prog_10_method_39_code 41 = .ok (.aload_n 0, 1) := by decide +kernel
theorem d_Mo_reduce_42 : decode prog_10_method_39_code 42 = .ok (.getfield 334, 3) := by decide +kernel
theorem d_Mo_reduce_45 : decode prog_10_method_39_code 45 = .ok (.iconst 1, 1) := by decide +kernel
theorem d_Mo_reduce_46 : decode prog_10_method_39_code 46 = .ok (.isub, 1) := by decide +kernel
theorem d_Mo_reduce_47 : decode prog_10_method_39_code 47 = .ok (.aload_n 0, 1) := by decide +kernel
theorem d_Mo_reduce_48 : decode prog_10_method_39_code 48 = .ok (.iconst 4, 1) := by decide +kernel
theorem d_Mo_reduce_49 : decode prog_10_method_39_code 49 = .ok (.iload_n 2, 1) := by decide +kernel
theorem d_Mo_reduce_50 : decode prog_10_method_39_code 50 = .ok (.iconst (-1), 1) := by decide +kernel
theorem d_Mo_reduce_51 : decode prog_10_method_39_code 51 = .ok (.invokevirtual 324, 3) := by decide +kernel
theorem d_Mo_reduce_54 : decode prog_10_method_39_code 54 = .ok (.iastore, 1) := by decide +kernel
theorem d_Mo_reduce_55 : decode prog_10_method_39_code 55 = .ok (.goto 41, 3) := by decide +kernel
theorem d_Mo_reduce_58 : decode prog_10_method_39_code 58 = .ok (.aload_n 0, 1) := by decide +kernel
theorem d_Mo_reduce_59 : decode prog_10_method_39_code 59 = .ok (.dup, 1) := by decide +kernel
theorem d_Mo_reduce_60 : decode prog_10_method_39_code 60 = .ok (.getfield 334, 3) := by decide +kernel
theorem d_Mo_reduce_63 : decode prog_10_method_39_code 63 = .ok (.iconst 1, 1) := by decide +kernel
theorem d_Mo_reduce_64 : decode prog_10_method_39_code 64 = .ok (.isub, 1) := by decide +kernel
theorem d_Mo_reduce_65 : decode prog_10_method_39_code 65 = .ok (.putfield 334, 3) := by decide +kernel
theorem d_Mo_reduce_68 : decode prog_10_method_39_code 68 = .ok (.aload_n 0, 1) := by decide +kernel
theorem d_Mo_reduce_69 : decode prog_10_method_39_code 69 = .ok (.getfield 92, 3) := by decide +kernel
theorem d_Mo_reduce_72 : decode prog_10_method_39_code 72 = .ok (.aload_n 0, 1) := by decide +kernel
theorem d_Mo_reduce_73 : decode prog_10_method_39_code 73 = .ok (.getfield 334, 3) := by decide +kernel
theorem d_Mo_reduce_76 : decode prog_10_method_39_code 76 = .ok (.iconst 1, 1) := by decide +kernel
theorem d_Mo_reduce_77 : decode prog_10_method_39_code 77 = .ok (.isub, 1) := by decide +kernel
theorem d_Mo_reduce_78 : decode prog_10_method_39_code 78 = .ok (.aload_n 0, 1) := by decide +kernel
theorem d_Mo_reduce_79 : decode prog_10_method_39_code 79 = .ok (.iload_n 1, 1) := by decide +kernel
theorem d_Mo_reduce_80 : decode prog_10_method_39_code 80 = .ok (.aload_n 0, 1) := by decide +kernel
theorem d_Mo_reduce_81 : decode prog_10_method_39_code 81 = .ok (.getfield 92, 3) := by decide +kernel
theorem d_Mo_reduce_84 : decode prog_10_method_39_code 84 = .ok (.aload_n 0, 1) := by decide +kernel
theorem d_Mo_reduce_85 : decode prog_10_method_39_code 85 = .ok (.getfield 334, 3) := by decide +kernel
theorem d_Mo_reduce_88 : decode prog_10_method_39_code 88 = .ok (.iconst 1, 1) := by decide +kernel
theorem d_Mo_reduce_89 : decode prog_10_method_39_code 89 = .ok (.isub, 1) := by decide +kernel
theorem d_Mo_reduce_90 : decode prog_10_method_39_code 90 = .ok (.iaload, 1) := by decide +kernel
theorem d_Mo_reduce_91 : decode prog_10_method_39_code 91 = .ok (.iload_n 2, 1) := by decide +kernel
theorem d_Mo_reduce_92 : decode prog_10_method_39_code 92 = .ok (.invokevirtual 324, 3) := by decide +kernel
theorem d_Mo_reduce_95 : decode prog_10_method_39_code 95 = .ok (.iastore, 1) := by decide +kernel
theorem d_Mo_reduce_96 : decode prog_10_method_39_code 96 = .ok (.return_, 1) := by decide +kernel
def y_Mo_reduceTo : MethodName := ⟨"MailQueriesModel", "reduceTo", "(I)V"⟩
def rm_Mo_reduceTo : Room := { frames := 2, cells := 0, slots := 0, locals := 45 }
theorem d_Mo_reduceTo_0 : decode prog_10_method_40_code 0 = .ok (.aload_n 0, 1) := by decide +kernel
theorem d_Mo_reduceTo_1 : decode prog_10_method_40_code 1 = .ok (.getfield 337, 3) := by decide +kernel
theorem d_Mo_reduceTo_4 : decode prog_10_method_40_code 4 = .ok (.ifCond .le 40, 3) := by decide +kernel
theorem d_Mo_reduceTo_7 : decode prog_10_method_40_code 7 = .ok (.aload_n 0, 1) := by decide +kernel
theorem d_Mo_reduceTo_8 : decode prog_10_method_40_code 8 = .ok (.getfield 95, 3) := by decide +kernel
theorem d_Mo_reduceTo_11 : decode prog_10_method_40_code 11 = .ok (.aload_n 0, 1) := by decide +kernel
theorem d_Mo_reduceTo_12 : decode prog_10_method_40_code 12 = .ok (.getfield 337, 3) := by decide +kernel
theorem d_Mo_reduceTo_15 : decode prog_10_method_40_code 15 = .ok (.iconst 1, 1) := by decide +kernel
theorem d_Mo_reduceTo_16 : decode prog_10_method_40_code 16 = .ok (.isub, 1) := by decide +kernel
theorem d_Mo_reduceTo_17 : decode prog_10_method_40_code 17 = .ok (.iaload, 1) := by decide +kernel
theorem d_Mo_reduceTo_18 : decode prog_10_method_40_code 18 = .ok (.iconst 5, 1) := by decide +kernel
theorem d_Mo_reduceTo_19 : decode prog_10_method_40_code 19 = .ok (.if_icmp .eq 25, 3) := by decide +kernel
theorem d_Mo_reduceTo_22 : decode prog_10_method_40_code 22 = .ok (.aload_n 0, 1) := by decide +kernel
theorem d_Mo_reduceTo_23 : decode prog_10_method_40_code 23 = .ok (.getfield 95, 3) := by decide +kernel
theorem d_Mo_reduceTo_26 : decode prog_10_method_40_code 26 = .ok (.aload_n 0, 1) := by decide +kernel
theorem d_Mo_reduceTo_27 : decode prog_10_method_40_code 27 = .ok (.getfield 337, 3) := by decide +kernel
theorem d_Mo_reduceTo_30 : decode prog_10_method_40_code 30 = .ok (.iconst 1, 1) := by decide +kernel
theorem d_Mo_reduceTo_31 : decode prog_10_method_40_code 31 = .ok (.isub, 1) := by decide +kernel
theorem d_Mo_reduceTo_32 : decode prog_10_method_40_code 32 = .ok (.iaload, 1) := by decide +kernel
theorem d_Mo_reduceTo_33 : decode prog_10_method_40_code 33 = .ok (.iload_n 1, 1) := by decide +kernel
theorem d_Mo_reduceTo_34 : decode prog_10_method_40_code 34 = .ok (.if_icmp .lt 10, 3) := by decide +kernel
theorem d_Mo_reduceTo_37 : decode prog_10_method_40_code 37 = .ok (.aload_n 0, 1) := by decide +kernel
theorem d_Mo_reduceTo_38 : decode prog_10_method_40_code 38 = .ok (.invokevirtual 340, 3) := by decide +kernel
theorem d_Mo_reduceTo_41 : decode prog_10_method_40_code 41 = .ok (.goto (-41), 3) := by decide +kernel
theorem d_Mo_reduceTo_44 : decode prog_10_method_40_code 44 = .ok (.return_, 1) := by decide +kernel
def y_Mo_between : MethodName := ⟨"MailQueriesModel", "between", "(I)V"⟩
def rm_Mo_between : Room := { frames := 3, cells := 0, slots := 0, locals := 66 }
theorem d_Mo_between_0 : decode prog_10_method_41_code 0 = .ok (.aload_n 0, 1) := by decide +kernel
theorem d_Mo_between_1 : decode prog_10_method_41_code 1 = .ok (.iload_n 1, 1) := by decide +kernel
theorem d_Mo_between_2 : decode prog_10_method_41_code 2 = .ok (.invokevirtual 343, 3) := by decide +kernel
theorem d_Mo_between_5 : decode prog_10_method_41_code 5 = .ok (.aload_n 0, 1) := by decide +kernel
theorem d_Mo_between_6 : decode prog_10_method_41_code 6 = .ok (.iload_n 1, 1) := by decide +kernel
theorem d_Mo_between_7 : decode prog_10_method_41_code 7 = .ok (.invokevirtual 346, 3) := by decide +kernel
theorem d_Mo_between_10 : decode prog_10_method_41_code 10 = .ok (.return_, 1) := by decide +kernel
def y_Mo_operand : MethodName := ⟨"MailQueriesModel", "operand", "()Z"⟩
def rm_Mo_operand : Room := { frames := 7, cells := 0, slots := 0, locals := 163 }
theorem d_Mo_operand_0 : decode prog_10_method_42_code 0 = .ok (.aload_n 0, 1) := by decide +kernel
theorem d_Mo_operand_1 : decode prog_10_method_42_code 1 = .ok (.getfield 211, 3) := by decide +kernel
theorem d_Mo_operand_4 : decode prog_10_method_42_code 4 = .ok (.iconst 4, 1) := by decide +kernel
theorem d_Mo_operand_5 : decode prog_10_method_42_code 5 = .ok (.if_icmp .ne 10, 3) := by decide +kernel
theorem d_Mo_operand_8 : decode prog_10_method_42_code 8 = .ok (.aload_n 0, 1) := by decide +kernel
theorem d_Mo_operand_9 : decode prog_10_method_42_code 9 = .ok (.iconst 4, 1) := by decide +kernel
theorem d_Mo_operand_10 : decode prog_10_method_42_code 10 = .ok (.invokevirtual 346, 3) := by decide +kernel
theorem d_Mo_operand_13 : decode prog_10_method_42_code 13 = .ok (.iconst 0, 1) := by decide +kernel
theorem d_Mo_operand_14 : decode prog_10_method_42_code 14 = .ok (.ireturn, 1) := by decide +kernel
theorem d_Mo_operand_15 : decode prog_10_method_42_code 15 = .ok (.aload_n 0, 1) := by decide +kernel
theorem d_Mo_operand_16 : decode prog_10_method_42_code 16 = .ok (.getfield 211, 3) := by decide +kernel
theorem d_Mo_operand_19 : decode prog_10_method_42_code 19 = .ok (.iconst 5, 1) := by decide +kernel
theorem d_Mo_operand_20 : decode prog_10_method_42_code 20 = .ok (.if_icmp .ne 38, 3) := by decide +kernel
theorem d_Mo_operand_23 : decode prog_10_method_42_code 23 = .ok (.aload_n 0, 1) := by decide +kernel
theorem d_Mo_operand_24 : decode prog_10_method_42_code 24 = .ok (.getfield 349, 3) := by decide +kernel
theorem d_Mo_operand_27 : decode prog_10_method_42_code 27 = .ok (.bipush 20, 2) := by decide +kernel
theorem d_Mo_operand_29 : decode prog_10_method_42_code 29 = .ok (.if_icmp .ne 12, 3) := by decide +kernel
theorem d_Mo_operand_32 : decode prog_10_method_42_code 32 = .ok (.aload_n 0, 1) := by decide +kernel
theorem d_Mo_operand_33 : decode prog_10_method_42_code 33 = .ok (.iconst 5, 1) := by decide +kernel
theorem d_Mo_operand_34 : decode prog_10_method_42_code 34 = .ok (.aload_n 0, 1) := by decide +kernel
theorem d_Mo_operand_35 : decode prog_10_method_42_code 35 = .ok (.getfield 208, 3) := by decide +kernel
theorem d_Mo_operand_38 : decode prog_10_method_42_code 38 = .ok (.invokevirtual 217, 3) := by decide +kernel
theorem d_Mo_operand_41 : decode prog_10_method_42_code 41 = .ok (.aload_n 0, 1) := by decide +kernel
theorem d_Mo_operand_42 : decode prog_10_method_42_code 42 = .ok (.dup, 1) := by decide +kernel
theorem d_Mo_operand_43 : decode prog_10_method_42_code 43 = .ok (.getfield 349, 3) := by decide +kernel
theorem d_Mo_operand_46 : decode prog_10_method_42_code 46 = .ok (.iconst 1, 1) := by decide +kernel
theorem d_Mo_operand_47 : decode prog_10_method_42_code 47 = .ok (.iadd, 1) := by decide +kernel
theorem d_Mo_operand_48 : decode prog_10_method_42_code 48 = .ok (.putfield 349, 3) := by decide +kernel
theorem d_Mo_operand_51 : decode prog_10_method_42_code 51 = .ok (.aload_n 0, 1) := by decide +kernel
theorem d_Mo_operand_52 : decode prog_10_method_42_code 52 = .ok (.iconst 5, 1) := by decide +kernel
theorem d_Mo_operand_53 : decode prog_10_method_42_code 53 = .ok (.invokevirtual 346, 3) := by decide +kernel
theorem d_Mo_operand_56 : decode prog_10_method_42_code 56 = .ok (.iconst 0, 1) := by decide +kernel
theorem d_Mo_operand_57 : decode prog_10_method_42_code 57 = .ok (.ireturn, 1) := by decide +kernel
theorem d_Mo_operand_58 : decode prog_10_method_42_code 58 = .ok (.aload_n 0, 1) := by decide +kernel
theorem d_Mo_operand_59 : decode prog_10_method_42_code 59 = .ok (.getfield 211, 3) := by decide +kernel
theorem d_Mo_operand_62 : decode prog_10_method_42_code 62 = .ok (.bipush 7, 2) := by decide +kernel
theorem d_Mo_operand_64 : decode prog_10_method_42_code 64 = .ok (.if_icmp .ne 9, 3) := by decide +kernel
theorem d_Mo_operand_67 : decode prog_10_method_42_code 67 = .ok (.aload_n 0, 1) := by decide +kernel
theorem d_Mo_operand_68 : decode prog_10_method_42_code 68 = .ok (.invokevirtual 352, 3) := by decide +kernel
theorem d_Mo_operand_71 : decode prog_10_method_42_code 71 = .ok (.iconst 1, 1) := by decide +kernel
theorem d_Mo_operand_72 : decode prog_10_method_42_code 72 = .ok (.ireturn, 1) := by decide +kernel
theorem d_Mo_operand_73 : decode prog_10_method_42_code 73 = .ok (.aload_n 0, 1) := by decide +kernel
theorem d_Mo_operand_74 : decode prog_10_method_42_code 74 = .ok (.iconst 1, 1) := by decide +kernel
theorem d_Mo_operand_75 : decode prog_10_method_42_code 75 = .ok (.aload_n 0, 1) := by decide +kernel
theorem d_Mo_operand_76 : decode prog_10_method_42_code 76 = .ok (.getfield 208, 3) := by decide +kernel
theorem d_Mo_operand_79 : decode prog_10_method_42_code 79 = .ok (.invokevirtual 217, 3) := by decide +kernel
theorem d_Mo_operand_82 : decode prog_10_method_42_code 82 = .ok (.iconst 0, 1) := by decide +kernel
theorem d_Mo_operand_83 : decode prog_10_method_42_code 83 = .ok (.ireturn, 1) := by decide +kernel
theorem mb_Mo_node : Mb y_Mo_node prog_10_method_36_code 4 (some .int) 3 := ⟨W_Mo_node_code, W_Mo_node_in, sel_64, I_Mo, by decide +kernel, by decide +kernel, by decide +kernel⟩
theorem mb_Mo_push : Mb y_Mo_push prog_10_method_37_code 2 none 1 := ⟨W_Mo_push_code, W_Mo_push_in, sel_82, I_Mo, by decide +kernel, by decide +kernel, by decide +kernel⟩
theorem mb_Mo_readAtom : Mb y_Mo_readAtom prog_10_method_35_code 4 none 0 := ⟨W_Mo_readAtom_code, W_Mo_readAtom_in, sel_67, I_Mo, by decide +kernel, by decide +kernel, by decide +kernel⟩
theorem mb_Mo_hold : Mb y_Mo_hold prog_10_method_38_code 2 none 1 := ⟨W_Mo_hold_code, W_Mo_hold_in, sel_65, I_Mo, by decide +kernel, by decide +kernel, by decide +kernel⟩
theorem mb_Mo_reduce : Mb y_Mo_reduce prog_10_method_39_code 3 none 0 := ⟨W_Mo_reduce_code, W_Mo_reduce_in, sel_63, I_Mo, by decide +kernel, by decide +kernel, by decide +kernel⟩
theorem mb_Mo_reduceTo : Mb y_Mo_reduceTo prog_10_method_40_code 2 none 1 := ⟨W_Mo_reduceTo_code, W_Mo_reduceTo_in, sel_62, I_Mo, by decide +kernel, by decide +kernel, by decide +kernel⟩
theorem mb_Mo_between : Mb y_Mo_between prog_10_method_41_code 2 none 1 := ⟨W_Mo_between_code, W_Mo_between_in, sel_61, I_Mo, by decide +kernel, by decide +kernel, by decide +kernel⟩
theorem mb_Mo_operand : Mb y_Mo_operand prog_10_method_42_code 1 (some .boolean) 0 := ⟨W_Mo_operand_code, W_Mo_operand_in, sel_66, I_Mo, by decide +kernel, by decide +kernel, by decide +kernel⟩
def Mo_node (F : Nat) (t : StI) (tL : StL) (x1 : Int32) (x2 : Int32) (x3 : Int32) : Option (Int32 × StI × StL) := if (t 30 0) < 0 ∨ 700 ≤ (t 30 0).toNatClampNeg then none else letS (va_up t 32 (upd (t 32) (t 30 0).toNatClampNeg x1)) fun t_8 => if (t_8 30 0) < 0 ∨ 700 ≤ (t_8 30 0).toNatClampNeg then none else letS (va_up t_8 33 (upd (t_8 33) (t_8 30 0).toNatClampNeg x2)) fun t_10 => if (t_10 30 0) < 0 ∨ 700 ≤ (t_10 30 0).toNatClampNeg then none else letS (va_up t_10 34 (upd (t_10 34) (t_10 30 0).toNatClampNeg x3)) fun t_12 => letS (va_up t_12 30 (fun _ => ((t_12 30 0) + (1 : Int32)))) fun t_14 => some (((t_14 30 0) - (1 : Int32)), t_14, tL)
set_option maxHeartbeats 4000000 in
set_option maxRecDepth 100000 in
theorem k_Mo_node {p : Program} {l : Launch} {e : Env} {s : State} {m : MethodId} {args : Array Value} {below : List Frame} {meth : Method} {c : Code} {g : Gz} {A : Nat → Prop} {F : Nat} {a_t : Nat → Nat} (hC : Cx prog_10_method_36_code 4 (some .int) R_Mo p s m args meth c g A A) : ∀ (t : StI) (tL : StL) (x1 : Int32) (x2 : Int32) (x3 : Int32) (res : Int32 × StI × StL), Mo_node F t tL x1 x2 x3 = some res → Go p l e rm_Mo_node s m args below meth c g A A 4 (MQ below (EI g ((pic_Mo g a_t res.2.1 res.2.2)) res.1 A) args s 0 0 A) ((pic_Mo g a_t t tL)) [(0, .ref (a_t 0)), (1, .int x1), (2, .int x2), (3, .int x3)] 0 [] := by
  obtain ⟨hx, hb, hr, hml, hown, htb, hlocks, hA, hAA, hG⟩ := id hC
  have hK := hG.1
  intro t tL x1 x2 x3 res h H locs ls hP hD hS hl
  rw [Mo_node] at h
  refine lv_aload_n hx hb d_Mo_node_0 rfl (lv_at hl 0 rfl) ?_
  refine va_get (D := gD g) (ci := 8) (v := .ref (a_t 33)) (C := R_Mo) (T := T_Mo) (N := 64) hx hb htb in_Mo hown hK hP 0 rfl rfl 32 (by decide) (htb _ L_Mo_83) (fun _ h9 => h9) rfl d_Mo_node_1 ?_
  refine lv_aload_n hx hb d_Mo_node_4 rfl (lv_at hl 0 rfl) ?_
  refine va_get (D := gD g) (ci := 8) (v := .int (t 30 0)) (C := R_Mo) (T := T_Mo) (N := 64) hx hb htb in_Mo hown hK hP 0 rfl rfl 30 (by decide) (htb _ L_Mo_331) (fun _ h9 => h9) rfl d_Mo_node_5 ?_
  refine lv_iload_n hx hb d_Mo_node_8 rfl (lv_at hl 1 rfl) ?_
  by_cases c9 : ((t 30 0) < 0 ∨ 700 ≤ (t 30 0).toNatClampNeg)
  · replace h := (if_pos c9).symm.trans h
    cases h
  replace h := (if_neg c9).symm.trans h
  refine va_iast hx hb hK hP hD hS 14 0 rfl rfl c9 d_Mo_node_9 (fun H locs hP hD hS => ?_)
  obtain ⟨t_8, et_8, h⟩ := letS_el h
  have hP : va_P (gD g) vwCl ((pic_Mo g a_t t_8 tL)) H := by rw [et_8]; exact hP
  have hD : va_D A ((pic_Mo g a_t t_8 tL)) := by rw [et_8]; exact hD
  refine lv_aload_n hx hb d_Mo_node_10 rfl (lv_at hl 0 rfl) ?_
  refine va_get (D := gD g) (ci := 8) (v := .ref (a_t 34)) (C := R_Mo) (T := T_Mo) (N := 64) hx hb htb in_Mo hown hK hP 0 rfl rfl 33 (by decide) (htb _ L_Mo_86) (fun _ h9 => h9) rfl d_Mo_node_11 ?_
  refine lv_aload_n hx hb d_Mo_node_14 rfl (lv_at hl 0 rfl) ?_
  refine va_get (D := gD g) (ci := 8) (v := .int (t_8 30 0)) (C := R_Mo) (T := T_Mo) (N := 64) hx hb htb in_Mo hown hK hP 0 rfl rfl 30 (by decide) (htb _ L_Mo_331) (fun _ h9 => h9) rfl d_Mo_node_15 ?_
  refine lv_iload_n hx hb d_Mo_node_18 rfl (lv_at hl 2 rfl) ?_
  by_cases c11 : ((t_8 30 0) < 0 ∨ 700 ≤ (t_8 30 0).toNatClampNeg)
  · replace h := (if_pos c11).symm.trans h
    cases h
  replace h := (if_neg c11).symm.trans h
  refine va_iast hx hb hK hP hD hS 15 0 rfl rfl c11 d_Mo_node_19 (fun H locs hP hD hS => ?_)
  obtain ⟨t_10, et_10, h⟩ := letS_el h
  have hP : va_P (gD g) vwCl ((pic_Mo g a_t t_10 tL)) H := by rw [et_10]; exact hP
  have hD : va_D A ((pic_Mo g a_t t_10 tL)) := by rw [et_10]; exact hD
  refine lv_aload_n hx hb d_Mo_node_20 rfl (lv_at hl 0 rfl) ?_
  refine va_get (D := gD g) (ci := 8) (v := .ref (a_t 35)) (C := R_Mo) (T := T_Mo) (N := 64) hx hb htb in_Mo hown hK hP 0 rfl rfl 34 (by decide) (htb _ L_Mo_89) (fun _ h9 => h9) rfl d_Mo_node_21 ?_
  refine lv_aload_n hx hb d_Mo_node_24 rfl (lv_at hl 0 rfl) ?_
  refine va_get (D := gD g) (ci := 8) (v := .int (t_10 30 0)) (C := R_Mo) (T := T_Mo) (N := 64) hx hb htb in_Mo hown hK hP 0 rfl rfl 30 (by decide) (htb _ L_Mo_331) (fun _ h9 => h9) rfl d_Mo_node_25 ?_
  refine lv_iload_n hx hb d_Mo_node_28 rfl (lv_at hl 3 rfl) ?_
  by_cases c13 : ((t_10 30 0) < 0 ∨ 700 ≤ (t_10 30 0).toNatClampNeg)
  · replace h := (if_pos c13).symm.trans h
    cases h
  replace h := (if_neg c13).symm.trans h
  refine va_iast hx hb hK hP hD hS 16 0 rfl rfl c13 d_Mo_node_29 (fun H locs hP hD hS => ?_)
  obtain ⟨t_12, et_12, h⟩ := letS_el h
  have hP : va_P (gD g) vwCl ((pic_Mo g a_t t_12 tL)) H := by rw [et_12]; exact hP
  have hD : va_D A ((pic_Mo g a_t t_12 tL)) := by rw [et_12]; exact hD
  refine lv_aload_n hx hb d_Mo_node_30 rfl (lv_at hl 0 rfl) ?_
  refine lv_dup hx hb d_Mo_node_31 rfl ?_
  refine va_get (D := gD g) (ci := 8) (v := .int (t_12 30 0)) (C := R_Mo) (T := T_Mo) (N := 64) hx hb htb in_Mo hown hK hP 0 rfl rfl 30 (by decide) (htb _ L_Mo_331) (fun _ h9 => h9) rfl d_Mo_node_32 ?_
  refine lv_iconst (v := 1) hx hb d_Mo_node_35 (by decide) ?_
  refine lv_iadd hx hb d_Mo_node_36 ?_
  refine va_put (D := gD g) (ci := 8) (v := .int ((t_12 30 0) + (1 : Int32))) (ty := .int) (C := R_Mo) (T := T_Mo) (N := 64) hx hb htb in_Mo ty_Mo ty_Mo_ok nm_Mo hown hK hP hD hS 0 rfl rfl 30 (by decide) (htb _ L_Mo_331) (fun _ h9 => h9) rfl (by decide +kernel) rfl rfl (Nat.le_of_ble_eq_true rfl) d_Mo_node_37 (fun H locs hP hD hS => ?_)
  obtain ⟨t_14, et_14, h⟩ := letS_el h
  have hP : va_P (gD g) vwCl ((pic_Mo g a_t t_14 tL)) H := by rw [et_14]; exact hP
  have hD : va_D A ((pic_Mo g a_t t_14 tL)) := by rw [et_14]; exact hD
  refine lv_aload_n hx hb d_Mo_node_40 rfl (lv_at hl 0 rfl) ?_
  refine va_get (D := gD g) (ci := 8) (v := .int (t_14 30 0)) (C := R_Mo) (T := T_Mo) (N := 64) hx hb htb in_Mo hown hK hP 0 rfl rfl 30 (by decide) (htb _ L_Mo_331) (fun _ h9 => h9) rfl d_Mo_node_41 ?_
  refine lv_iconst (v := 1) hx hb d_Mo_node_44 (by decide) ?_
  refine lv_isub hx hb d_Mo_node_45 ?_
  cases h
  exact W.iret hx hb hr (fun t ht hW => ⟨⟨_, (), rfl, rfl, by rw [ht]; exact hP, hD⟩, hS.F ht⟩) hS.2.2 d_Mo_node_46
theorem c_Mo_node (l : Launch) (g : Gz) (F : Nat) (a_t : Nat → Nat) (t : StI) (tL : StL) (x1 : Int32) (x2 : Int32) (x3 : Int32) (res : Int32 × StI × StL) (h : Mo_node F t tL x1 x2 x3 = some res) : ∀ sz : Nat, Met l y_Mo_node (.code y_Mo_node prog_10_method_36_code 4 (some .int) :: TBL) rm_Mo_node (va_Pc [.ref (a_t 0), .int x1, .int x2, .int x3] (Pre0 g ((pic_Mo g a_t t tL)) sz)) (EI g ((pic_Mo g a_t res.2.1 res.2.2)) res.1 (va_A ((pic_Mo g a_t t tL)) sz)) 0 0 (va_A ((pic_Mo g a_t t tL)) sz) :=
  ct_w (Qc := fun A => EI g ((pic_Mo g a_t res.2.1 res.2.2)) res.1 A) (by decide) (Nat.le_of_ble_eq_true rfl) (fun p e s m args below meth c A hC => k_Mo_node hC t tL x1 x2 x3 res h)
def Mo_push (F : Nat) (t : StI) (tL : StL) (x1 : Int32) : Option (StI × StL) := if (t 35 0) < 0 ∨ 700 ≤ (t 35 0).toNatClampNeg then none else letS (va_up t 38 (upd (t 38) (t 35 0).toNatClampNeg x1)) fun t_4 => letS (va_up t_4 35 (fun _ => ((t_4 35 0) + (1 : Int32)))) fun t_6 => some (t_6, tL)
set_option maxHeartbeats 4000000 in
set_option maxRecDepth 100000 in
theorem k_Mo_push {p : Program} {l : Launch} {e : Env} {s : State} {m : MethodId} {args : Array Value} {below : List Frame} {meth : Method} {c : Code} {g : Gz} {A : Nat → Prop} {F : Nat} {a_t : Nat → Nat} (hC : Cx prog_10_method_37_code 2 none R_Mo p s m args meth c g A A) : ∀ (t : StI) (tL : StL) (x1 : Int32) (res : StI × StL), Mo_push F t tL x1 = some res → Go p l e rm_Mo_push s m args below meth c g A A 2 (MQ below (EV g ((pic_Mo g a_t res.1 res.2)) A) args s 0 0 A) ((pic_Mo g a_t t tL)) [(0, .ref (a_t 0)), (1, .int x1)] 0 [] := by
  obtain ⟨hx, hb, hr, hml, hown, htb, hlocks, hA, hAA, hG⟩ := id hC
  have hK := hG.1
  intro t tL x1 res h H locs ls hP hD hS hl
  rw [Mo_push] at h
  refine lv_aload_n hx hb d_Mo_push_0 rfl (lv_at hl 0 rfl) ?_
  refine va_get (D := gD g) (ci := 8) (v := .ref (a_t 39)) (C := R_Mo) (T := T_Mo) (N := 64) hx hb htb in_Mo hown hK hP 0 rfl rfl 38 (by decide) (htb _ L_Mo_92) (fun _ h9 => h9) rfl d_Mo_push_1 ?_
  refine lv_aload_n hx hb d_Mo_push_4 rfl (lv_at hl 0 rfl) ?_
  refine va_get (D := gD g) (ci := 8) (v := .int (t 35 0)) (C := R_Mo) (T := T_Mo) (N := 64) hx hb htb in_Mo hown hK hP 0 rfl rfl 35 (by decide) (htb _ L_Mo_334) (fun _ h9 => h9) rfl d_Mo_push_5 ?_
  refine lv_iload_n hx hb d_Mo_push_8 rfl (lv_at hl 1 rfl) ?_
  by_cases c5 : ((t 35 0) < 0 ∨ 700 ≤ (t 35 0).toNatClampNeg)
  · replace h := (if_pos c5).symm.trans h
    cases h
  replace h := (if_neg c5).symm.trans h
  refine va_iast hx hb hK hP hD hS 17 0 rfl rfl c5 d_Mo_push_9 (fun H locs hP hD hS => ?_)
  obtain ⟨t_4, et_4, h⟩ := letS_el h
  have hP : va_P (gD g) vwCl ((pic_Mo g a_t t_4 tL)) H := by rw [et_4]; exact hP
  have hD : va_D A ((pic_Mo g a_t t_4 tL)) := by rw [et_4]; exact hD
  refine lv_aload_n hx hb d_Mo_push_10 rfl (lv_at hl 0 rfl) ?_
  refine lv_dup hx hb d_Mo_push_11 rfl ?_
  refine va_get (D := gD g) (ci := 8) (v := .int (t_4 35 0)) (C := R_Mo) (T := T_Mo) (N := 64) hx hb htb in_Mo hown hK hP 0 rfl rfl 35 (by decide) (htb _ L_Mo_334) (fun _ h9 => h9) rfl d_Mo_push_12 ?_
  refine lv_iconst (v := 1) hx hb d_Mo_push_15 (by decide) ?_
  refine lv_iadd hx hb d_Mo_push_16 ?_
  refine va_put (D := gD g) (ci := 8) (v := .int ((t_4 35 0) + (1 : Int32))) (ty := .int) (C := R_Mo) (T := T_Mo) (N := 64) hx hb htb in_Mo ty_Mo ty_Mo_ok nm_Mo hown hK hP hD hS 0 rfl rfl 35 (by decide) (htb _ L_Mo_334) (fun _ h9 => h9) rfl (by decide +kernel) rfl rfl (Nat.le_of_ble_eq_true rfl) d_Mo_push_17 (fun H locs hP hD hS => ?_)
  obtain ⟨t_6, et_6, h⟩ := letS_el h
  have hP : va_P (gD g) vwCl ((pic_Mo g a_t t_6 tL)) H := by rw [et_6]; exact hP
  have hD : va_D A ((pic_Mo g a_t t_6 tL)) := by rw [et_6]; exact hD
  cases h
  exact W.vret hx hb hr (fun t ht hW => ⟨⟨(), rfl, trivial, by rw [ht]; exact hP, hD⟩, hS.F ht⟩) hS.2.2 d_Mo_push_20
theorem c_Mo_push (l : Launch) (g : Gz) (F : Nat) (a_t : Nat → Nat) (t : StI) (tL : StL) (x1 : Int32) (res : StI × StL) (h : Mo_push F t tL x1 = some res) : ∀ sz : Nat, Met l y_Mo_push (.code y_Mo_push prog_10_method_37_code 2 none :: TBL) rm_Mo_push (va_Pc [.ref (a_t 0), .int x1] (Pre0 g ((pic_Mo g a_t t tL)) sz)) (EV g ((pic_Mo g a_t res.1 res.2)) (va_A ((pic_Mo g a_t t tL)) sz)) 0 0 (va_A ((pic_Mo g a_t t tL)) sz) :=
  ct_w (Qc := fun A => EV g ((pic_Mo g a_t res.1 res.2)) A) (by decide) (Nat.le_of_ble_eq_true rfl) (fun p e s m args below meth c A hC => k_Mo_push hC t tL x1 res h)
def Mo_readAtom_220 (F : Nat) (t : StI) (tL : StL) : Option (StI × StL) := if (t 9 0) = 0 then letS (va_up t 21 (fun _ => ((t 21 0) + (1 : Int32)))) fun t_39 => (Mo_atomNumber F t_39 tL).bind fun r40 => if r40.1 < 0 ∨ 40 ≤ r40.1.toNatClampNeg then none else if r40.1 < 0 ∨ 40 ≤ r40.1.toNatClampNeg then none else letS (va_up r40.2.1 26 (upd (r40.2.1 26) r40.1.toNatClampNeg (((r40.2.1 26) r40.1.toNatClampNeg) + (1 : Int32)))) fun t_42 => (Mo_node F t_42 r40.2.2 (7 : Int32) r40.1 (-1 : Int32)).bind fun r44 => (Mo_push F r44.2.1 r44.2.2 r44.1).bind fun r45 => some (r45.1, r45.2) else some (t, tL)
def Mo_readAtom_202 (F : Nat) (t : StI) (tL : StL) : Option (StI × StL) := if (t 21 0) = (40 : Int32) then (Mo_fail F t tL (5 : Int32) (t 15 0)).bind fun r47 => Mo_readAtom_220 F r47.1 r47.2 else Mo_readAtom_220 F t tL
def Mo_readAtom_199 (F : Nat) (t : StI) (tL : StL) (y0 : Int32) (y1 : Int32) : Option (StI × StL) := (Mo_fail F t tL y1 y0).bind fun r48 => Mo_readAtom_202 F r48.1 r48.2
def Mo_readAtom_163 (F : Nat) (t : StI) (tL : StL) : Option (StI × StL) := if (t 9 0) = 0 then (Mo_isRight F t tL).bind fun r50 => if r50.1 = 0 then if (r50.2.1 19 0) = 0 then Mo_readAtom_199 F r50.2.1 r50.2.2 (r50.2.1 17 0) (4 : Int32) else Mo_readAtom_199 F r50.2.1 r50.2.2 ((r50.2.1 17 0) - (1 : Int32)) (4 : Int32) else Mo_readAtom_202 F r50.2.1 r50.2.2 else Mo_readAtom_202 F t tL
def Mo_readAtom_156 (F : Nat) (t : StI) (tL : StL) (y0 : Int32) : Option (StI × StL) := (Mo_fail F t tL y0 (t 8 0)).bind fun r53 => Mo_readAtom_163 F r53.1 r53.2
def Mo_readAtom_145 (F : Nat) (t : StI) (tL : StL) (y0 : Int32) : Option (StI × StL) := if y0 = 0 then Mo_readAtom_156 F t tL (2 : Int32) else Mo_readAtom_156 F t tL (1 : Int32)
def Mo_readAtom_140 (F : Nat) (t : StI) (tL : StL) : Option (StI × StL) := Mo_readAtom_145 F t tL (1 : Int32)
def Mo_readAtom_94 (F : Nat) (t : StI) (tL : StL) : Option (StI × StL) := Mo_readAtom_163 F t tL
def Mo_readAtom_60 (F : Nat) (t : StI) (tL : StL) : Option (StI × StL) := (Mo_see F t tL (t 8 0)).bind fun r55 => if r55 = (34 : Int32) then (Mo_takePhrase F t tL (t 8 0)).bind fun r65 => if r65.1 = 0 then (Mo_fail F r65.2.1 r65.2.2 (2 : Int32) (t 8 0)).bind fun r67 => Mo_readAtom_94 F r67.1 r67.2 else Mo_readAtom_94 F r65.2.1 r65.2.2 else (Mo_isPart F r55).bind fun r57 => if r57 = 0 then if r55 = (-1 : Int32) then Mo_readAtom_140 F t tL else (Mo_isSpace F t tL r55).bind fun r60 => if r60 = 0 then if r55 = (40 : Int32) then Mo_readAtom_140 F t tL else if r55 = (41 : Int32) then Mo_readAtom_140 F t tL else Mo_readAtom_145 F t tL (0 : Int32) else Mo_readAtom_140 F t tL else (Mo_takeRun F t tL (t 8 0)).bind fun r64 => Mo_readAtom_163 F r64.1 r64.2
def Mo_readAtom_38 (F : Nat) (t : StI) (tL : StL) (x1 : Int32) : Option (StI × StL) := if x1 = 0 then Mo_readAtom_60 F t tL else if (t 21 0) = (40 : Int32) then (Mo_fail F t tL (5 : Int32) (t 15 0)).bind fun r70 => Mo_readAtom_60 F r70.1 r70.2 else Mo_readAtom_60 F t tL
def Mo_readAtom_16 (F : Nat) (t : StI) (tL : StL) (y0 : Int32) : Option (StI × StL) := if y0 = 0 then Mo_readAtom_38 F t tL y0 else if (t 16 0) = (-1 : Int32) then (Mo_fail F t tL (3 : Int32) (t 15 0)).bind fun r73 => Mo_readAtom_38 F r73.1 r73.2 y0 else Mo_readAtom_38 F t tL y0
def Mo_readAtom (F : Nat) (t : StI) (tL : StL) : Option (StI × StL) := if (t 8 0) ≤ (t 15 0) then Mo_readAtom_16 F t tL (0 : Int32) else Mo_readAtom_16 F t tL (1 : Int32)
set_option maxHeartbeats 4000000 in
set_option maxRecDepth 100000 in
theorem k_Mo_readAtom_220 {p : Program} {l : Launch} {e : Env} {s : State} {m : MethodId} {args : Array Value} {below : List Frame} {meth : Method} {c : Code} {g : Gz} {A : Nat → Prop} {F : Nat} {a_t : Nat → Nat} (hC : Cx prog_10_method_35_code 4 none R_Mo p s m args meth c g A A) : ∀ (t : StI) (tL : StL) (res : StI × StL), Mo_readAtom_220 F t tL = some res → Go p l e rm_Mo_readAtom s m args below meth c g A A 4 (MQ below (EV g ((pic_Mo g a_t res.1 res.2)) A) args s 0 0 A) ((pic_Mo g a_t t tL)) [(0, .ref (a_t 0))] 220 [] := by
  obtain ⟨hx, hb, hr, hml, hown, htb, hlocks, hA, hAA, hG⟩ := id hC
  have hK := hG.1
  intro t tL res h H locs ls hP hD hS hl
  rw [Mo_readAtom_220] at h
  refine lv_aload_n hx hb d_Mo_readAtom_220 rfl (lv_at hl 0 rfl) ?_
  refine va_get (D := gD g) (ci := 8) (v := .int (t 9 0)) (C := R_Mo) (T := T_Mo) (N := 64) hx hb htb in_Mo hown hK hP 0 rfl rfl 9 (by decide) (htb _ L_Mo_157) (fun _ h9 => h9) rfl d_Mo_readAtom_221 ?_
  refine lv_if_ne (tgt := 264) hx hb d_Mo_readAtom_224 (by decide) (fun c38 => ?_) (fun c38 => ?_)
  · replace h := (if_neg c38).symm.trans h
    cases h
    exact W.vret hx hb hr (fun t ht hW => ⟨⟨(), rfl, trivial, by rw [ht]; exact hP, hD⟩, hS.F ht⟩) hS.2.2 d_Mo_readAtom_264
  · replace h := (if_pos c38).symm.trans h
    refine lv_aload_n hx hb d_Mo_readAtom_227 rfl (lv_at hl 0 rfl) ?_
    refine lv_dup hx hb d_Mo_readAtom_228 rfl ?_
    refine va_get (D := gD g) (ci := 8) (v := .int (t 21 0)) (C := R_Mo) (T := T_Mo) (N := 64) hx hb htb in_Mo hown hK hP 0 rfl rfl 21 (by decide) (htb _ L_Mo_308) (fun _ h9 => h9) rfl d_Mo_readAtom_229 ?_
    refine lv_iconst (v := 1) hx hb d_Mo_readAtom_232 (by decide) ?_
    refine lv_iadd hx hb d_Mo_readAtom_233 ?_
    refine va_put (D := gD g) (ci := 8) (v := .int ((t 21 0) + (1 : Int32))) (ty := .int) (C := R_Mo) (T := T_Mo) (N := 64) hx hb htb in_Mo ty_Mo ty_Mo_ok nm_Mo hown hK hP hD hS 0 rfl rfl 21 (by decide) (htb _ L_Mo_308) (fun _ h9 => h9) rfl (by decide +kernel) rfl rfl (Nat.le_of_ble_eq_true rfl) d_Mo_readAtom_234 (fun H locs hP hD hS => ?_)
    obtain ⟨t_39, et_39, h⟩ := letS_el h
    have hP : va_P (gD g) vwCl ((pic_Mo g a_t t_39 tL)) H := by rw [et_39]; exact hP
    have hD : va_D A ((pic_Mo g a_t t_39 tL)) := by rw [et_39]; exact hD
    refine lv_aload_n hx hb d_Mo_readAtom_237 rfl (lv_at hl 0 rfl) ?_
    obtain ⟨r40, hr40, h⟩ := Option.bind_eq_some_iff.mp h
    refine cl_I (wr := []) [0, 1, 2, 3, 4, 5, 6, 7, 8, 9, 10, 11, 12, 13, 14, 15, 16, 17, 18, 19, 20, 21, 22, 23, 24, 25, 26, 27, 28, 29, 30, 31, 32] [] rfl rfl rfl (by decide) hP hD hS hA (va_runV (As := []) (rest := []) ⟨hx, hb, hml, hown, htb⟩ (c_Mo_atomNumber l g F a_t t_39 tL _ hr40 H.size) (cw_V htb mb_Mo_atomNumber (htb _ L_Mo_321) rfl rfl ⟨Nat.le_of_ble_eq_true rfl, Nat.le_of_ble_eq_true rfl⟩) (pre_V (va_recv hK hP (ci := 8) (q0 := 0) rfl rfl) (pre_S [0, 1, 2, 3, 4, 5, 6, 7, 8, 9, 10, 11, 12, 13, 14, 15, 16, 17, 18, 19, 20, 21, 22, 23, 24, 25, 26, 27, 28, 29, 30, 31, 32] rfl rfl hP hD hS hA hAA hG)) rfl rfl hl.1 rfl (lv_room (Nat.le_of_ble_eq_true rfl)) d_Mo_readAtom_238 ⟨Nat.zero_le _, Nat.zero_le _⟩) (fun H locs hP hD hS => ?_)
    have hP : va_P (gD g) vwCl ((pic_Mo g a_t r40.2.1 r40.2.2)) H := hP.sub [0, 1, 2, 3, 4, 5, 6, 7, 8, 9, 10, 11, 12, 13, 14, 15, 16, 17, 18, 19, 20, 21, 22, 23, 24, 25, 26, 27, 28, 29, 30, 31, 32] rfl
    have hD : va_D A ((pic_Mo g a_t r40.2.1 r40.2.2)) := hD.sub [0, 1, 2, 3, 4, 5, 6, 7, 8, 9, 10, 11, 12, 13, 14, 15, 16, 17, 18, 19, 20, 21, 22, 23, 24, 25, 26, 27, 28, 29, 30, 31, 32] rfl rfl
    refine lv_istore_n (lv' := [(3, .int r40.1), (0, .ref (a_t 0))]) hx hb d_Mo_readAtom_241 rfl hl (by decide) rfl (fun ls hl => ?_)
    refine lv_aload_n hx hb d_Mo_readAtom_242 rfl (lv_at hl 1 rfl) ?_
    refine va_get (D := gD g) (ci := 8) (v := .ref (a_t 27)) (C := R_Mo) (T := T_Mo) (N := 64) hx hb htb in_Mo hown hK hP 0 rfl rfl 26 (by decide) (htb _ L_Mo_70) (fun _ h9 => h9) rfl d_Mo_readAtom_243 ?_
    refine lv_iload_n hx hb d_Mo_readAtom_246 rfl (lv_at hl 0 rfl) ?_
    refine lv_dup2_11 hx hb d_Mo_readAtom_247 rfl rfl ?_
    by_cases c41 : (r40.1 < 0 ∨ 40 ≤ r40.1.toNatClampNeg)
    · replace h := (if_pos c41).symm.trans h
      cases h
    replace h := (if_neg c41).symm.trans h
    refine va_iald hx hb hK hP 10 0 rfl rfl c41 d_Mo_readAtom_248 ?_
    refine lv_iconst (v := 1) hx hb d_Mo_readAtom_249 (by decide) ?_
    refine lv_iadd hx hb d_Mo_readAtom_250 ?_
    by_cases c43 : (r40.1 < 0 ∨ 40 ≤ r40.1.toNatClampNeg)
    · replace h := (if_pos c43).symm.trans h
      cases h
    replace h := (if_neg c43).symm.trans h
    refine va_iast hx hb hK hP hD hS 10 0 rfl rfl c43 d_Mo_readAtom_251 (fun H locs hP hD hS => ?_)
    obtain ⟨t_42, et_42, h⟩ := letS_el h
    have hP : va_P (gD g) vwCl ((pic_Mo g a_t t_42 r40.2.2)) H := by rw [et_42]; exact hP
    have hD : va_D A ((pic_Mo g a_t t_42 r40.2.2)) := by rw [et_42]; exact hD
    refine lv_aload_n hx hb d_Mo_readAtom_252 rfl (lv_at hl 1 rfl) ?_
    refine lv_aload_n hx hb d_Mo_readAtom_253 rfl (lv_at hl 1 rfl) ?_
    refine lv_bipush (v := 7) hx hb d_Mo_readAtom_254 (by decide) ?_
    refine lv_iload_n hx hb d_Mo_readAtom_256 rfl (lv_at hl 0 rfl) ?_
    refine lv_iconst (v := -1) hx hb d_Mo_readAtom_257 (by decide) ?_
    obtain ⟨r44, hr44, h⟩ := Option.bind_eq_some_iff.mp h
    refine cl_I (wr := []) [0, 1, 2, 3, 4, 5, 6, 7, 8, 9, 10, 11, 12, 13, 14, 15, 16, 17, 18, 19, 20, 21, 22, 23, 24, 25, 26, 27, 28, 29, 30, 31, 32] [] rfl rfl rfl (by decide) hP hD hS hA (va_runV (As := [.int (7 : Int32), .int r40.1, .int (-1 : Int32)]) (rest := [.ref (a_t 0)]) ⟨hx, hb, hml, hown, htb⟩ (c_Mo_node l g F a_t t_42 r40.2.2 (7 : Int32) r40.1 (-1 : Int32) _ hr44 H.size) (cw_V htb mb_Mo_node (htb _ L_Mo_324) rfl rfl ⟨Nat.le_of_ble_eq_true rfl, Nat.le_of_ble_eq_true rfl⟩) (pre_V (va_recv hK hP (ci := 8) (q0 := 0) rfl rfl) (pre_S [0, 1, 2, 3, 4, 5, 6, 7, 8, 9, 10, 11, 12, 13, 14, 15, 16, 17, 18, 19, 20, 21, 22, 23, 24, 25, 26, 27, 28, 29, 30, 31, 32] rfl rfl hP hD hS hA hAA hG)) rfl rfl hl.1 rfl (lv_room (Nat.le_of_ble_eq_true rfl)) d_Mo_readAtom_258 ⟨Nat.zero_le _, Nat.zero_le _⟩) (fun H locs hP hD hS => ?_)
    have hP : va_P (gD g) vwCl ((pic_Mo g a_t r44.2.1 r44.2.2)) H := hP.sub [0, 1, 2, 3, 4, 5, 6, 7, 8, 9, 10, 11, 12, 13, 14, 15, 16, 17, 18, 19, 20, 21, 22, 23, 24, 25, 26, 27, 28, 29, 30, 31, 32] rfl
    have hD : va_D A ((pic_Mo g a_t r44.2.1 r44.2.2)) := hD.sub [0, 1, 2, 3, 4, 5, 6, 7, 8, 9, 10, 11, 12, 13, 14, 15, 16, 17, 18, 19, 20, 21, 22, 23, 24, 25, 26, 27, 28, 29, 30, 31, 32] rfl rfl
    obtain ⟨r45, hr45, h⟩ := Option.bind_eq_some_iff.mp h
    refine cl_V (wr := []) [0, 1, 2, 3, 4, 5, 6, 7, 8, 9, 10, 11, 12, 13, 14, 15, 16, 17, 18, 19, 20, 21, 22, 23, 24, 25, 26, 27, 28, 29, 30, 31, 32] [] rfl rfl rfl (by decide) hP hD hS hA (va_runV (As := [.int r44.1]) (rest := []) ⟨hx, hb, hml, hown, htb⟩ (c_Mo_push l g F a_t r44.2.1 r44.2.2 r44.1 _ hr45 H.size) (cw_V htb mb_Mo_push (htb _ L_Mo_328) rfl rfl ⟨Nat.le_of_ble_eq_true rfl, Nat.le_of_ble_eq_true rfl⟩) (pre_V (va_recv hK hP (ci := 8) (q0 := 0) rfl rfl) (pre_S [0, 1, 2, 3, 4, 5, 6, 7, 8, 9, 10, 11, 12, 13, 14, 15, 16, 17, 18, 19, 20, 21, 22, 23, 24, 25, 26, 27, 28, 29, 30, 31, 32] rfl rfl hP hD hS hA hAA hG)) rfl rfl hl.1 rfl (lv_room (Nat.le_of_ble_eq_true rfl)) d_Mo_readAtom_261 ⟨Nat.zero_le _, Nat.zero_le _⟩) (fun H locs hP hD hS => ?_)
    have hP : va_P (gD g) vwCl ((pic_Mo g a_t r45.1 r45.2)) H := hP.sub [0, 1, 2, 3, 4, 5, 6, 7, 8, 9, 10, 11, 12, 13, 14, 15, 16, 17, 18, 19, 20, 21, 22, 23, 24, 25, 26, 27, 28, 29, 30, 31, 32] rfl
    have hD : va_D A ((pic_Mo g a_t r45.1 r45.2)) := hD.sub [0, 1, 2, 3, 4, 5, 6, 7, 8, 9, 10, 11, 12, 13, 14, 15, 16, 17, 18, 19, 20, 21, 22, 23, 24, 25, 26, 27, 28, 29, 30, 31, 32] rfl rfl
    cases h
    exact W.vret hx hb hr (fun t ht hW => ⟨⟨(), rfl, trivial, by rw [ht]; exact hP, hD⟩, hS.F ht⟩) hS.2.2 d_Mo_readAtom_264
set_option maxHeartbeats 4000000 in
set_option maxRecDepth 100000 in
theorem k_Mo_readAtom_202 {p : Program} {l : Launch} {e : Env} {s : State} {m : MethodId} {args : Array Value} {below : List Frame} {meth : Method} {c : Code} {g : Gz} {A : Nat → Prop} {F : Nat} {a_t : Nat → Nat} (hC : Cx prog_10_method_35_code 4 none R_Mo p s m args meth c g A A) : ∀ (t : StI) (tL : StL) (res : StI × StL), Mo_readAtom_202 F t tL = some res → Go p l e rm_Mo_readAtom s m args below meth c g A A 4 (MQ below (EV g ((pic_Mo g a_t res.1 res.2)) A) args s 0 0 A) ((pic_Mo g a_t t tL)) [(0, .ref (a_t 0))] 202 [] := by
  obtain ⟨hx, hb, hr, hml, hown, htb, hlocks, hA, hAA, hG⟩ := id hC
  have hK := hG.1
  intro t tL res h H locs ls hP hD hS hl
  rw [Mo_readAtom_202] at h
  refine lv_aload_n hx hb d_Mo_readAtom_202 rfl (lv_at hl 0 rfl) ?_
  refine va_get (D := gD g) (ci := 8) (v := .int (t 21 0)) (C := R_Mo) (T := T_Mo) (N := 64) hx hb htb in_Mo hown hK hP 0 rfl rfl 21 (by decide) (htb _ L_Mo_308) (fun _ h9 => h9) rfl d_Mo_readAtom_203 ?_
  refine lv_bipush (v := 40) hx hb d_Mo_readAtom_206 (by decide) ?_
  refine lv_icmp_ne (tgt := 220) hx hb d_Mo_readAtom_208 (by decide) (fun c46 => ?_) (fun c46 => ?_)
  · replace h := (if_neg c46).symm.trans h
    exact k_Mo_readAtom_220 hC _ _ _ h _ _ _ hP hD hS (lv_sub hl [0] rfl)
  · replace h := (if_pos c46).symm.trans h
    refine lv_aload_n hx hb d_Mo_readAtom_211 rfl (lv_at hl 0 rfl) ?_
    refine lv_iconst (v := 5) hx hb d_Mo_readAtom_212 (by decide) ?_
    refine lv_aload_n hx hb d_Mo_readAtom_213 rfl (lv_at hl 0 rfl) ?_
    refine va_get (D := gD g) (ci := 8) (v := .int (t 15 0)) (C := R_Mo) (T := T_Mo) (N := 64) hx hb htb in_Mo hown hK hP 0 rfl rfl 15 (by decide) (htb _ L_Mo_208) (fun _ h9 => h9) rfl d_Mo_readAtom_214 ?_
    obtain ⟨r47, hr47, h⟩ := Option.bind_eq_some_iff.mp h
    refine cl_V (wr := []) [0, 1, 2, 3, 4, 5, 6, 7, 8, 9, 10, 11, 12, 13, 14, 15, 16, 17, 18, 19, 20, 21, 22, 23, 24, 25, 26, 27, 28, 29, 30, 31, 32] [] rfl rfl rfl (by decide) hP hD hS hA (va_runV (As := [.int (5 : Int32), .int (t 15 0)]) (rest := []) ⟨hx, hb, hml, hown, htb⟩ (c_Mo_fail l g F a_t t tL (5 : Int32) (t 15 0) _ hr47 H.size) (cw_V htb mb_Mo_fail (htb _ L_Mo_217) rfl rfl ⟨Nat.le_of_ble_eq_true rfl, Nat.le_of_ble_eq_true rfl⟩) (pre_V (va_recv hK hP (ci := 8) (q0 := 0) rfl rfl) (pre_S [0, 1, 2, 3, 4, 5, 6, 7, 8, 9, 10, 11, 12, 13, 14, 15, 16, 17, 18, 19, 20, 21, 22, 23, 24, 25, 26, 27, 28, 29, 30, 31, 32] rfl rfl hP hD hS hA hAA hG)) rfl rfl hl.1 rfl (lv_room (Nat.le_of_ble_eq_true rfl)) d_Mo_readAtom_217 ⟨Nat.zero_le _, Nat.zero_le _⟩) (fun H locs hP hD hS => ?_)
    have hP : va_P (gD g) vwCl ((pic_Mo g a_t r47.1 r47.2)) H := hP.sub [0, 1, 2, 3, 4, 5, 6, 7, 8, 9, 10, 11, 12, 13, 14, 15, 16, 17, 18, 19, 20, 21, 22, 23, 24, 25, 26, 27, 28, 29, 30, 31, 32] rfl
    have hD : va_D A ((pic_Mo g a_t r47.1 r47.2)) := hD.sub [0, 1, 2, 3, 4, 5, 6, 7, 8, 9, 10, 11, 12, 13, 14, 15, 16, 17, 18, 19, 20, 21, 22, 23, 24, 25, 26, 27, 28, 29, 30, 31, 32] rfl rfl
    exact k_Mo_readAtom_220 hC _ _ _ h _ _ _ hP hD hS (lv_sub hl [0] rfl)
set_option maxHeartbeats 4000000 in
set_option maxRecDepth 100000 in
theorem k_Mo_readAtom_199 {p : Program} {l : Launch} {e : Env} {s : State} {m : MethodId} {args : Array Value} {below : List Frame} {meth : Method} {c : Code} {g : Gz} {A : Nat → Prop} {F : Nat} {a_t : Nat → Nat} (hC : Cx prog_10_method_35_code 4 none R_Mo p s m args meth c g A A) : ∀ (t : StI) (tL : StL) (y0 : Int32) (y1 : Int32) (res : StI × StL), Mo_readAtom_199 F t tL y0 y1 = some res → Go p l e rm_Mo_readAtom s m args below meth c g A A 4 (MQ below (EV g ((pic_Mo g a_t res.1 res.2)) A) args s 0 0 A) ((pic_Mo g a_t t tL)) [(0, .ref (a_t 0))] 199 [.int y0, .int y1, .ref (a_t 0)] := by
  obtain ⟨hx, hb, hr, hml, hown, htb, hlocks, hA, hAA, hG⟩ := id hC
  have hK := hG.1
  intro t tL y0 y1 res h H locs ls hP hD hS hl
  rw [Mo_readAtom_199] at h
  obtain ⟨r48, hr48, h⟩ := Option.bind_eq_some_iff.mp h
  refine cl_V (wr := []) [0, 1, 2, 3, 4, 5, 6, 7, 8, 9, 10, 11, 12, 13, 14, 15, 16, 17, 18, 19, 20, 21, 22, 23, 24, 25, 26, 27, 28, 29, 30, 31, 32] [] rfl rfl rfl (by decide) hP hD hS hA (va_runV (As := [.int y1, .int y0]) (rest := []) ⟨hx, hb, hml, hown, htb⟩ (c_Mo_fail l g F a_t t tL y1 y0 _ hr48 H.size) (cw_V htb mb_Mo_fail (htb _ L_Mo_217) rfl rfl ⟨Nat.le_of_ble_eq_true rfl, Nat.le_of_ble_eq_true rfl⟩) (pre_V (va_recv hK hP (ci := 8) (q0 := 0) rfl rfl) (pre_S [0, 1, 2, 3, 4, 5, 6, 7, 8, 9, 10, 11, 12, 13, 14, 15, 16, 17, 18, 19, 20, 21, 22, 23, 24, 25, 26, 27, 28, 29, 30, 31, 32] rfl rfl hP hD hS hA hAA hG)) rfl rfl hl.1 rfl (lv_room (Nat.le_of_ble_eq_true rfl)) d_Mo_readAtom_199 ⟨Nat.zero_le _, Nat.zero_le _⟩) (fun H locs hP hD hS => ?_)
  have hP : va_P (gD g) vwCl ((pic_Mo g a_t r48.1 r48.2)) H := hP.sub [0, 1, 2, 3, 4, 5, 6, 7, 8, 9, 10, 11, 12, 13, 14, 15, 16, 17, 18, 19, 20, 21, 22, 23, 24, 25, 26, 27, 28, 29, 30, 31, 32] rfl
  have hD : va_D A ((pic_Mo g a_t r48.1 r48.2)) := hD.sub [0, 1, 2, 3, 4, 5, 6, 7, 8, 9, 10, 11, 12, 13, 14, 15, 16, 17, 18, 19, 20, 21, 22, 23, 24, 25, 26, 27, 28, 29, 30, 31, 32] rfl rfl
  exact k_Mo_readAtom_202 hC _ _ _ h _ _ _ hP hD hS (lv_sub hl [0] rfl)
set_option maxHeartbeats 4000000 in
set_option maxRecDepth 100000 in
theorem k_Mo_readAtom_163 {p : Program} {l : Launch} {e : Env} {s : State} {m : MethodId} {args : Array Value} {below : List Frame} {meth : Method} {c : Code} {g : Gz} {A : Nat → Prop} {F : Nat} {a_t : Nat → Nat} (hC : Cx prog_10_method_35_code 4 none R_Mo p s m args meth c g A A) : ∀ (t : StI) (tL : StL) (res : StI × StL), Mo_readAtom_163 F t tL = some res → Go p l e rm_Mo_readAtom s m args below meth c g A A 4 (MQ below (EV g ((pic_Mo g a_t res.1 res.2)) A) args s 0 0 A) ((pic_Mo g a_t t tL)) [(0, .ref (a_t 0))] 163 [] := by
  obtain ⟨hx, hb, hr, hml, hown, htb, hlocks, hA, hAA, hG⟩ := id hC
  have hK := hG.1
  intro t tL res h H locs ls hP hD hS hl
  rw [Mo_readAtom_163] at h
  refine lv_aload_n hx hb d_Mo_readAtom_163 rfl (lv_at hl 0 rfl) ?_
  refine va_get (D := gD g) (ci := 8) (v := .int (t 9 0)) (C := R_Mo) (T := T_Mo) (N := 64) hx hb htb in_Mo hown hK hP 0 rfl rfl 9 (by decide) (htb _ L_Mo_157) (fun _ h9 => h9) rfl d_Mo_readAtom_164 ?_
  refine lv_if_ne (tgt := 202) hx hb d_Mo_readAtom_167 (by decide) (fun c49 => ?_) (fun c49 => ?_)
  · replace h := (if_neg c49).symm.trans h
    exact k_Mo_readAtom_202 hC _ _ _ h _ _ _ hP hD hS (lv_sub hl [0] rfl)
  · replace h := (if_pos c49).symm.trans h
    refine lv_aload_n hx hb d_Mo_readAtom_170 rfl (lv_at hl 0 rfl) ?_
    obtain ⟨r50, hr50, h⟩ := Option.bind_eq_some_iff.mp h
    refine cl_I (wr := []) [0, 1, 2, 3, 4, 5, 6, 7, 8, 9, 10, 11, 12, 13, 14, 15, 16, 17, 18, 19, 20, 21, 22, 23, 24, 25, 26, 27, 28, 29, 30, 31, 32] [] rfl rfl rfl (by decide) hP hD hS hA (va_runV (As := []) (rest := []) ⟨hx, hb, hml, hown, htb⟩ (c_Mo_isRight l g F a_t t tL _ hr50 H.size) (cw_V htb mb_Mo_isRight (htb _ L_Mo_318) rfl rfl ⟨Nat.le_of_ble_eq_true rfl, Nat.le_of_ble_eq_true rfl⟩) (pre_V (va_recv hK hP (ci := 8) (q0 := 0) rfl rfl) (pre_S [0, 1, 2, 3, 4, 5, 6, 7, 8, 9, 10, 11, 12, 13, 14, 15, 16, 17, 18, 19, 20, 21, 22, 23, 24, 25, 26, 27, 28, 29, 30, 31, 32] rfl rfl hP hD hS hA hAA hG)) rfl rfl hl.1 rfl (lv_room (Nat.le_of_ble_eq_true rfl)) d_Mo_readAtom_171 ⟨Nat.zero_le _, Nat.zero_le _⟩) (fun H locs hP hD hS => ?_)
    have hP : va_P (gD g) vwCl ((pic_Mo g a_t r50.2.1 r50.2.2)) H := hP.sub [0, 1, 2, 3, 4, 5, 6, 7, 8, 9, 10, 11, 12, 13, 14, 15, 16, 17, 18, 19, 20, 21, 22, 23, 24, 25, 26, 27, 28, 29, 30, 31, 32] rfl
    have hD : va_D A ((pic_Mo g a_t r50.2.1 r50.2.2)) := hD.sub [0, 1, 2, 3, 4, 5, 6, 7, 8, 9, 10, 11, 12, 13, 14, 15, 16, 17, 18, 19, 20, 21, 22, 23, 24, 25, 26, 27, 28, 29, 30, 31, 32] rfl rfl
    refine lv_if_ne (tgt := 202) hx hb d_Mo_readAtom_174 (by decide) (fun c51 => ?_) (fun c51 => ?_)
    · replace h := (if_neg c51).symm.trans h
      exact k_Mo_readAtom_202 hC _ _ _ h _ _ _ hP hD hS (lv_sub hl [0] rfl)
    · replace h := (if_pos c51).symm.trans h
      refine lv_aload_n hx hb d_Mo_readAtom_177 rfl (lv_at hl 0 rfl) ?_
      refine lv_iconst (v := 4) hx hb d_Mo_readAtom_178 (by decide) ?_
      refine lv_aload_n hx hb d_Mo_readAtom_179 rfl (lv_at hl 0 rfl) ?_
      refine va_get (D := gD g) (ci := 8) (v := .int (r50.2.1 19 0)) (C := R_Mo) (T := T_Mo) (N := 64) hx hb htb in_Mo hown hK hP 0 rfl rfl 19 (by decide) (htb _ L_Mo_189) (fun _ h9 => h9) rfl d_Mo_readAtom_180 ?_
      refine lv_if_eq (tgt := 195) hx hb d_Mo_readAtom_183 (by decide) (fun c52 => ?_) (fun c52 => ?_)
      · replace h := (if_pos c52).symm.trans h
        refine lv_aload_n hx hb d_Mo_readAtom_195 rfl (lv_at hl 0 rfl) ?_
        refine va_get (D := gD g) (ci := 8) (v := .int (r50.2.1 17 0)) (C := R_Mo) (T := T_Mo) (N := 64) hx hb htb in_Mo hown hK hP 0 rfl rfl 17 (by decide) (htb _ L_Mo_193) (fun _ h9 => h9) rfl d_Mo_readAtom_196 ?_
        exact k_Mo_readAtom_199 hC _ _ _ _ _ h _ _ _ hP hD hS (lv_sub hl [0] rfl)
      · replace h := (if_neg c52).symm.trans h
        refine lv_aload_n hx hb d_Mo_readAtom_186 rfl (lv_at hl 0 rfl) ?_
        refine va_get (D := gD g) (ci := 8) (v := .int (r50.2.1 17 0)) (C := R_Mo) (T := T_Mo) (N := 64) hx hb htb in_Mo hown hK hP 0 rfl rfl 17 (by decide) (htb _ L_Mo_193) (fun _ h9 => h9) rfl d_Mo_readAtom_187 ?_
        refine lv_iconst (v := 1) hx hb d_Mo_readAtom_190 (by decide) ?_
        refine lv_isub hx hb d_Mo_readAtom_191 ?_
        refine lv_goto (tgt := 199) hx hb d_Mo_readAtom_192 (by decide) ?_
        exact k_Mo_readAtom_199 hC _ _ _ _ _ h _ _ _ hP hD hS (lv_sub hl [0] rfl)
set_option maxHeartbeats 4000000 in
set_option maxRecDepth 100000 in
theorem k_Mo_readAtom_156 {p : Program} {l : Launch} {e : Env} {s : State} {m : MethodId} {args : Array Value} {below : List Frame} {meth : Method} {c : Code} {g : Gz} {A : Nat → Prop} {F : Nat} {a_t : Nat → Nat} (hC : Cx prog_10_method_35_code 4 none R_Mo p s m args meth c g A A) : ∀ (t : StI) (tL : StL) (y0 : Int32) (res : StI × StL), Mo_readAtom_156 F t tL y0 = some res → Go p l e rm_Mo_readAtom s m args below meth c g A A 4 (MQ below (EV g ((pic_Mo g a_t res.1 res.2)) A) args s 0 0 A) ((pic_Mo g a_t t tL)) [(0, .ref (a_t 0))] 156 [.int y0, .ref (a_t 0)] := by
  obtain ⟨hx, hb, hr, hml, hown, htb, hlocks, hA, hAA, hG⟩ := id hC
  have hK := hG.1
  intro t tL y0 res h H locs ls hP hD hS hl
  rw [Mo_readAtom_156] at h
  refine lv_aload_n hx hb d_Mo_readAtom_156 rfl (lv_at hl 0 rfl) ?_
  refine va_get (D := gD g) (ci := 8) (v := .int (t 8 0)) (C := R_Mo) (T := T_Mo) (N := 64) hx hb htb in_Mo hown hK hP 0 rfl rfl 8 (by decide) (htb _ L_Mo_199) (fun _ h9 => h9) rfl d_Mo_readAtom_157 ?_
  obtain ⟨r53, hr53, h⟩ := Option.bind_eq_some_iff.mp h
  refine cl_V (wr := []) [0, 1, 2, 3, 4, 5, 6, 7, 8, 9, 10, 11, 12, 13, 14, 15, 16, 17, 18, 19, 20, 21, 22, 23, 24, 25, 26, 27, 28, 29, 30, 31, 32] [] rfl rfl rfl (by decide) hP hD hS hA (va_runV (As := [.int y0, .int (t 8 0)]) (rest := []) ⟨hx, hb, hml, hown, htb⟩ (c_Mo_fail l g F a_t t tL y0 (t 8 0) _ hr53 H.size) (cw_V htb mb_Mo_fail (htb _ L_Mo_217) rfl rfl ⟨Nat.le_of_ble_eq_true rfl, Nat.le_of_ble_eq_true rfl⟩) (pre_V (va_recv hK hP (ci := 8) (q0 := 0) rfl rfl) (pre_S [0, 1, 2, 3, 4, 5, 6, 7, 8, 9, 10, 11, 12, 13, 14, 15, 16, 17, 18, 19, 20, 21, 22, 23, 24, 25, 26, 27, 28, 29, 30, 31, 32] rfl rfl hP hD hS hA hAA hG)) rfl rfl hl.1 rfl (lv_room (Nat.le_of_ble_eq_true rfl)) d_Mo_readAtom_160 ⟨Nat.zero_le _, Nat.zero_le _⟩) (fun H locs hP hD hS => ?_)
  have hP : va_P (gD g) vwCl ((pic_Mo g a_t r53.1 r53.2)) H := hP.sub [0, 1, 2, 3, 4, 5, 6, 7, 8, 9, 10, 11, 12, 13, 14, 15, 16, 17, 18, 19, 20, 21, 22, 23, 24, 25, 26, 27, 28, 29, 30, 31, 32] rfl
  have hD : va_D A ((pic_Mo g a_t r53.1 r53.2)) := hD.sub [0, 1, 2, 3, 4, 5, 6, 7, 8, 9, 10, 11, 12, 13, 14, 15, 16, 17, 18, 19, 20, 21, 22, 23, 24, 25, 26, 27, 28, 29, 30, 31, 32] rfl rfl
  exact k_Mo_readAtom_163 hC _ _ _ h _ _ _ hP hD hS (lv_sub hl [0] rfl)
set_option maxHeartbeats 4000000 in
set_option maxRecDepth 100000 in
theorem k_Mo_readAtom_145 {p : Program} {l : Launch} {e : Env} {s : State} {m : MethodId} {args : Array Value} {below : List Frame} {meth : Method} {c : Code} {g : Gz} {A : Nat → Prop} {F : Nat} {a_t : Nat → Nat} (hC : Cx prog_10_method_35_code 4 none R_Mo p s m args meth c g A A) : ∀ (t : StI) (tL : StL) (y0 : Int32) (res : StI × StL), Mo_readAtom_145 F t tL y0 = some res → Go p l e rm_Mo_readAtom s m args below meth c g A A 4 (MQ below (EV g ((pic_Mo g a_t res.1 res.2)) A) args s 0 0 A) ((pic_Mo g a_t t tL)) [(0, .ref (a_t 0))] 145 [.int y0] := by
  obtain ⟨hx, hb, hr, hml, hown, htb, hlocks, hA, hAA, hG⟩ := id hC
  have hK := hG.1
  intro t tL y0 res h H locs ls hP hD hS hl
  rw [Mo_readAtom_145] at h
  refine lv_istore_n (lv' := [(3, .int y0), (0, .ref (a_t 0))]) hx hb d_Mo_readAtom_145 rfl hl (by decide) rfl (fun ls hl => ?_)
  refine lv_aload_n hx hb d_Mo_readAtom_146 rfl (lv_at hl 1 rfl) ?_
  refine lv_iload_n hx hb d_Mo_readAtom_147 rfl (lv_at hl 0 rfl) ?_
  refine lv_if_eq (tgt := 155) hx hb d_Mo_readAtom_148 (by decide) (fun c54 => ?_) (fun c54 => ?_)
  · replace h := (if_pos c54).symm.trans h
    refine lv_iconst (v := 2) hx hb d_Mo_readAtom_155 (by decide) ?_
    exact k_Mo_readAtom_156 hC _ _ _ _ h _ _ _ hP hD hS (lv_sub hl [1] rfl)
  · replace h := (if_neg c54).symm.trans h
    refine lv_iconst (v := 1) hx hb d_Mo_readAtom_151 (by decide) ?_
    refine lv_goto (tgt := 156) hx hb d_Mo_readAtom_152 (by decide) ?_
    exact k_Mo_readAtom_156 hC _ _ _ _ h _ _ _ hP hD hS (lv_sub hl [1] rfl)
set_option maxHeartbeats 4000000 in
set_option maxRecDepth 100000 in
theorem k_Mo_readAtom_140 {p : Program} {l : Launch} {e : Env} {s : State} {m : MethodId} {args : Array Value} {below : List Frame} {meth : Method} {c : Code} {g : Gz} {A : Nat → Prop} {F : Nat} {a_t : Nat → Nat} (hC : Cx prog_10_method_35_code 4 none R_Mo p s m args meth c g A A) : ∀ (t : StI) (tL : StL) (res : StI × StL), Mo_readAtom_140 F t tL = some res → Go p l e rm_Mo_readAtom s m args below meth c g A A 4 (MQ below (EV g ((pic_Mo g a_t res.1 res.2)) A) args s 0 0 A) ((pic_Mo g a_t t tL)) [(0, .ref (a_t 0))] 140 [] := by
  obtain ⟨hx, hb, hr, hml, hown, htb, hlocks, hA, hAA, hG⟩ := id hC
  have hK := hG.1
  intro t tL res h H locs ls hP hD hS hl
  rw [Mo_readAtom_140] at h
  refine lv_iconst (v := 1) hx hb d_Mo_readAtom_140 (by decide) ?_
  refine lv_goto (tgt := 145) hx hb d_Mo_readAtom_141 (by decide) ?_
  exact k_Mo_readAtom_145 hC _ _ _ _ h _ _ _ hP hD hS (lv_sub hl [0] rfl)
set_option maxHeartbeats 4000000 in
set_option maxRecDepth 100000 in
theorem k_Mo_readAtom_94 {p : Program} {l : Launch} {e : Env} {s : State} {m : MethodId} {args : Array Value} {below : List Frame} {meth : Method} {c : Code} {g : Gz} {A : Nat → Prop} {F : Nat} {a_t : Nat → Nat} (hC : Cx prog_10_method_35_code 4 none R_Mo p s m args meth c g A A) : ∀ (t : StI) (tL : StL) (res : StI × StL), Mo_readAtom_94 F t tL = some res → Go p l e rm_Mo_readAtom s m args below meth c g A A 4 (MQ below (EV g ((pic_Mo g a_t res.1 res.2)) A) args s 0 0 A) ((pic_Mo g a_t t tL)) [(0, .ref (a_t 0))] 94 [] := by
  obtain ⟨hx, hb, hr, hml, hown, htb, hlocks, hA, hAA, hG⟩ := id hC
  have hK := hG.1
  intro t tL res h H locs ls hP hD hS hl
  rw [Mo_readAtom_94] at h
  refine lv_goto (tgt := 163) hx hb d_Mo_readAtom_94 (by decide) ?_
  exact k_Mo_readAtom_163 hC _ _ _ h _ _ _ hP hD hS (lv_sub hl [0] rfl)
set_option maxHeartbeats 4000000 in
set_option maxRecDepth 100000 in
theorem k_Mo_readAtom_60 {p : Program} {l : Launch} {e : Env} {s : State} {m : MethodId} {args : Array Value} {below : List Frame} {meth : Method} {c : Code} {g : Gz} {A : Nat → Prop} {F : Nat} {a_t : Nat → Nat} (hC : Cx prog_10_method_35_code 4 none R_Mo p s m args meth c g A A) : ∀ (t : StI) (tL : StL) (res : StI × StL), Mo_readAtom_60 F t tL = some res → Go p l e rm_Mo_readAtom s m args below meth c g A A 4 (MQ below (EV g ((pic_Mo g a_t res.1 res.2)) A) args s 0 0 A) ((pic_Mo g a_t t tL)) [(0, .ref (a_t 0))] 60 [] := by
  obtain ⟨hx, hb, hr, hml, hown, htb, hlocks, hA, hAA, hG⟩ := id hC
  have hK := hG.1
  intro t tL res h H locs ls hP hD hS hl
  rw [Mo_readAtom_60] at h
  refine lv_aload_n hx hb d_Mo_readAtom_60 rfl (lv_at hl 0 rfl) ?_
  refine lv_aload_n hx hb d_Mo_readAtom_61 rfl (lv_at hl 0 rfl) ?_
  refine va_get (D := gD g) (ci := 8) (v := .int (t 8 0)) (C := R_Mo) (T := T_Mo) (N := 64) hx hb htb in_Mo hown hK hP 0 rfl rfl 8 (by decide) (htb _ L_Mo_199) (fun _ h9 => h9) rfl d_Mo_readAtom_62 ?_
  obtain ⟨r55, hr55, h⟩ := Option.bind_eq_some_iff.mp h
  refine cl_Ir hP hS hA (va_runV (As := [.int (t 8 0)]) (rest := []) ⟨hx, hb, hml, hown, htb⟩ (c_Mo_see l g F a_t t tL (t 8 0) _ hr55 H.size) (cw_V htb mb_Mo_see (htb _ L_Mo_160) rfl rfl ⟨Nat.le_of_ble_eq_true rfl, Nat.le_of_ble_eq_true rfl⟩) (pre_V (va_recv hK hP (ci := 8) (q0 := 0) rfl rfl) (pre_S [0, 1, 2, 3, 4, 5, 6, 7, 8, 9, 10, 11, 12, 13, 14, 15, 16, 17, 18, 19, 20, 21, 22, 23, 24, 25, 26, 27, 28, 29, 30, 31, 32] rfl rfl hP hD hS hA hAA hG)) rfl rfl hl.1 rfl (lv_room (Nat.le_of_ble_eq_true rfl)) d_Mo_readAtom_65 ⟨Nat.zero_le _, Nat.zero_le _⟩) (fun H locs hP hS => ?_)
  refine lv_istore_n (lv' := [(2, .int r55), (0, .ref (a_t 0))]) hx hb d_Mo_readAtom_68 rfl hl (by decide) rfl (fun ls hl => ?_)
  refine lv_iload_n hx hb d_Mo_readAtom_69 rfl (lv_at hl 0 rfl) ?_
  refine lv_bipush (v := 34) hx hb d_Mo_readAtom_70 (by decide) ?_
  refine lv_icmp_ne (tgt := 97) hx hb d_Mo_readAtom_72 (by decide) (fun c56 => ?_) (fun c56 => ?_)
  · replace h := (if_neg c56).symm.trans h
    refine lv_iload_n hx hb d_Mo_readAtom_97 rfl (lv_at hl 0 rfl) ?_
    obtain ⟨r57, hr57, h⟩ := Option.bind_eq_some_iff.mp h
    refine cl_Ir hP hS hA (va_runS (As := [.int r55]) (rest := []) ⟨hx, hb, hml, hown, htb⟩ (c_Mo_isPart l g F r55 _ hr57 H.size) (cw_S htb mb_Mo_isPart (htb _ L_Mo_164) rfl rfl ⟨Nat.le_of_ble_eq_true rfl, Nat.le_of_ble_eq_true rfl⟩) (pre_S [] rfl rfl hP hD hS hA hAA hG) rfl rfl hl.1 rfl (lv_room (Nat.le_of_ble_eq_true rfl)) d_Mo_readAtom_98 ⟨Nat.zero_le _, Nat.zero_le _⟩) (fun H locs hP hS => ?_)
    refine lv_if_eq (tgt := 115) hx hb d_Mo_readAtom_101 (by decide) (fun c58 => ?_) (fun c58 => ?_)
    · replace h := (if_pos c58).symm.trans h
      refine lv_iload_n hx hb d_Mo_readAtom_115 rfl (lv_at hl 0 rfl) ?_
      refine lv_iconst (v := -1) hx hb d_Mo_readAtom_116 (by decide) ?_
      refine lv_icmp_eq (tgt := 140) hx hb d_Mo_readAtom_117 (by decide) (fun c59 => ?_) (fun c59 => ?_)
      · replace h := (if_pos c59).symm.trans h
        exact k_Mo_readAtom_140 hC _ _ _ h _ _ _ hP hD hS (lv_sub hl [1] rfl)
      · replace h := (if_neg c59).symm.trans h
        refine lv_aload_n hx hb d_Mo_readAtom_120 rfl (lv_at hl 1 rfl) ?_
        refine lv_iload_n hx hb d_Mo_readAtom_121 rfl (lv_at hl 0 rfl) ?_
        obtain ⟨r60, hr60, h⟩ := Option.bind_eq_some_iff.mp h
        refine cl_Ir hP hS hA (va_runV (As := [.int r55]) (rest := []) ⟨hx, hb, hml, hown, htb⟩ (c_Mo_isSpace l g F a_t t tL r55 _ hr60 H.size) (cw_V htb mb_Mo_isSpace (htb _ L_Mo_205) rfl rfl ⟨Nat.le_of_ble_eq_true rfl, Nat.le_of_ble_eq_true rfl⟩) (pre_V (va_recv hK hP (ci := 8) (q0 := 0) rfl rfl) (pre_S [0, 1, 2, 3, 4, 5, 6, 7, 8, 9, 10, 11, 12, 13, 14, 15, 16, 17, 18, 19, 20, 21, 22, 23, 24, 25, 26, 27, 28, 29, 30, 31, 32] rfl rfl hP hD hS hA hAA hG)) rfl rfl hl.1 rfl (lv_room (Nat.le_of_ble_eq_true rfl)) d_Mo_readAtom_122 ⟨Nat.zero_le _, Nat.zero_le _⟩) (fun H locs hP hS => ?_)
        refine lv_if_ne (tgt := 140) hx hb d_Mo_readAtom_125 (by decide) (fun c61 => ?_) (fun c61 => ?_)
        · replace h := (if_neg c61).symm.trans h
          exact k_Mo_readAtom_140 hC _ _ _ h _ _ _ hP hD hS (lv_sub hl [1] rfl)
        · replace h := (if_pos c61).symm.trans h
          refine lv_iload_n hx hb d_Mo_readAtom_128 rfl (lv_at hl 0 rfl) ?_
          refine lv_bipush (v := 40) hx hb d_Mo_readAtom_129 (by decide) ?_
          refine lv_icmp_eq (tgt := 140) hx hb d_Mo_readAtom_131 (by decide) (fun c62 => ?_) (fun c62 => ?_)
          · replace h := (if_pos c62).symm.trans h
            exact k_Mo_readAtom_140 hC _ _ _ h _ _ _ hP hD hS (lv_sub hl [1] rfl)
          · replace h := (if_neg c62).symm.trans h
            refine lv_iload_n hx hb d_Mo_readAtom_134 rfl (lv_at hl 0 rfl) ?_
            refine lv_bipush (v := 41) hx hb d_Mo_readAtom_135 (by decide) ?_
            refine lv_icmp_ne (tgt := 144) hx hb d_Mo_readAtom_137 (by decide) (fun c63 => ?_) (fun c63 => ?_)
            · replace h := (if_neg c63).symm.trans h
              refine lv_iconst (v := 0) hx hb d_Mo_readAtom_144 (by decide) ?_
              exact k_Mo_readAtom_145 hC _ _ _ _ h _ _ _ hP hD hS (lv_sub hl [1] rfl)
            · replace h := (if_pos c63).symm.trans h
              exact k_Mo_readAtom_140 hC _ _ _ h _ _ _ hP hD hS (lv_sub hl [1] rfl)
    · replace h := (if_neg c58).symm.trans h
      refine lv_aload_n hx hb d_Mo_readAtom_104 rfl (lv_at hl 1 rfl) ?_
      refine lv_aload_n hx hb d_Mo_readAtom_105 rfl (lv_at hl 1 rfl) ?_
      refine va_get (D := gD g) (ci := 8) (v := .int (t 8 0)) (C := R_Mo) (T := T_Mo) (N := 64) hx hb htb in_Mo hown hK hP 0 rfl rfl 8 (by decide) (htb _ L_Mo_199) (fun _ h9 => h9) rfl d_Mo_readAtom_106 ?_
      obtain ⟨r64, hr64, h⟩ := Option.bind_eq_some_iff.mp h
      refine cl_V (wr := []) [0, 1, 2, 3, 4, 5, 6, 7, 8, 9, 10, 11, 12, 13, 14, 15, 16, 17, 18, 19, 20, 21, 22, 23, 24, 25, 26, 27, 28, 29, 30, 31, 32] [] rfl rfl rfl (by decide) hP hD hS hA (va_runV (As := [.int (t 8 0)]) (rest := []) ⟨hx, hb, hml, hown, htb⟩ (c_Mo_takeRun l g F a_t t tL (t 8 0) _ hr64 H.size) (cw_V htb mb_Mo_takeRun (htb _ L_Mo_314) rfl rfl ⟨Nat.le_of_ble_eq_true rfl, Nat.le_of_ble_eq_true rfl⟩) (pre_V (va_recv hK hP (ci := 8) (q0 := 0) rfl rfl) (pre_S [0, 1, 2, 3, 4, 5, 6, 7, 8, 9, 10, 11, 12, 13, 14, 15, 16, 17, 18, 19, 20, 21, 22, 23, 24, 25, 26, 27, 28, 29, 30, 31, 32] rfl rfl hP hD hS hA hAA hG)) rfl rfl hl.1 rfl (lv_room (Nat.le_of_ble_eq_true rfl)) d_Mo_readAtom_109 ⟨Nat.zero_le _, Nat.zero_le _⟩) (fun H locs hP hD hS => ?_)
      have hP : va_P (gD g) vwCl ((pic_Mo g a_t r64.1 r64.2)) H := hP.sub [0, 1, 2, 3, 4, 5, 6, 7, 8, 9, 10, 11, 12, 13, 14, 15, 16, 17, 18, 19, 20, 21, 22, 23, 24, 25, 26, 27, 28, 29, 30, 31, 32] rfl
      have hD : va_D A ((pic_Mo g a_t r64.1 r64.2)) := hD.sub [0, 1, 2, 3, 4, 5, 6, 7, 8, 9, 10, 11, 12, 13, 14, 15, 16, 17, 18, 19, 20, 21, 22, 23, 24, 25, 26, 27, 28, 29, 30, 31, 32] rfl rfl
      refine lv_goto (tgt := 163) hx hb d_Mo_readAtom_112 (by decide) ?_
      exact k_Mo_readAtom_163 hC _ _ _ h _ _ _ hP hD hS (lv_sub hl [1] rfl)
  · replace h := (if_pos c56).symm.trans h
    refine lv_aload_n hx hb d_Mo_readAtom_75 rfl (lv_at hl 1 rfl) ?_
    refine va_get (D := gD g) (ci := 8) (v := .int (t 8 0)) (C := R_Mo) (T := T_Mo) (N := 64) hx hb htb in_Mo hown hK hP 0 rfl rfl 8 (by decide) (htb _ L_Mo_199) (fun _ h9 => h9) rfl d_Mo_readAtom_76 ?_
    refine lv_istore_n (lv' := [(3, .int (t 8 0)), (2, .int r55), (0, .ref (a_t 0))]) hx hb d_Mo_readAtom_79 rfl hl (by decide) rfl (fun ls hl => ?_)
    refine lv_aload_n hx hb d_Mo_readAtom_80 rfl (lv_at hl 2 rfl) ?_
    refine lv_iload_n hx hb d_Mo_readAtom_81 rfl (lv_at hl 0 rfl) ?_
    obtain ⟨r65, hr65, h⟩ := Option.bind_eq_some_iff.mp h
    refine cl_I (wr := []) [0, 1, 2, 3, 4, 5, 6, 7, 8, 9, 10, 11, 12, 13, 14, 15, 16, 17, 18, 19, 20, 21, 22, 23, 24, 25, 26, 27, 28, 29, 30, 31, 32] [] rfl rfl rfl (by decide) hP hD hS hA (va_runV (As := [.int (t 8 0)]) (rest := []) ⟨hx, hb, hml, hown, htb⟩ (c_Mo_takePhrase l g F a_t t tL (t 8 0) _ hr65 H.size) (cw_V htb mb_Mo_takePhrase (htb _ L_Mo_311) rfl rfl ⟨Nat.le_of_ble_eq_true rfl, Nat.le_of_ble_eq_true rfl⟩) (pre_V (va_recv hK hP (ci := 8) (q0 := 0) rfl rfl) (pre_S [0, 1, 2, 3, 4, 5, 6, 7, 8, 9, 10, 11, 12, 13, 14, 15, 16, 17, 18, 19, 20, 21, 22, 23, 24, 25, 26, 27, 28, 29, 30, 31, 32] rfl rfl hP hD hS hA hAA hG)) rfl rfl hl.1 rfl (lv_room (Nat.le_of_ble_eq_true rfl)) d_Mo_readAtom_82 ⟨Nat.zero_le _, Nat.zero_le _⟩) (fun H locs hP hD hS => ?_)
    have hP : va_P (gD g) vwCl ((pic_Mo g a_t r65.2.1 r65.2.2)) H := hP.sub [0, 1, 2, 3, 4, 5, 6, 7, 8, 9, 10, 11, 12, 13, 14, 15, 16, 17, 18, 19, 20, 21, 22, 23, 24, 25, 26, 27, 28, 29, 30, 31, 32] rfl
    have hD : va_D A ((pic_Mo g a_t r65.2.1 r65.2.2)) := hD.sub [0, 1, 2, 3, 4, 5, 6, 7, 8, 9, 10, 11, 12, 13, 14, 15, 16, 17, 18, 19, 20, 21, 22, 23, 24, 25, 26, 27, 28, 29, 30, 31, 32] rfl rfl
    refine lv_if_ne (tgt := 94) hx hb d_Mo_readAtom_85 (by decide) (fun c66 => ?_) (fun c66 => ?_)
    · replace h := (if_neg c66).symm.trans h
      exact k_Mo_readAtom_94 hC _ _ _ h _ _ _ hP hD hS (lv_sub hl [2] rfl)
    · replace h := (if_pos c66).symm.trans h
      refine lv_aload_n hx hb d_Mo_readAtom_88 rfl (lv_at hl 2 rfl) ?_
      refine lv_iconst (v := 2) hx hb d_Mo_readAtom_89 (by decide) ?_
      refine lv_iload_n hx hb d_Mo_readAtom_90 rfl (lv_at hl 0 rfl) ?_
      obtain ⟨r67, hr67, h⟩ := Option.bind_eq_some_iff.mp h
      refine cl_V (wr := []) [0, 1, 2, 3, 4, 5, 6, 7, 8, 9, 10, 11, 12, 13, 14, 15, 16, 17, 18, 19, 20, 21, 22, 23, 24, 25, 26, 27, 28, 29, 30, 31, 32] [] rfl rfl rfl (by decide) hP hD hS hA (va_runV (As := [.int (2 : Int32), .int (t 8 0)]) (rest := []) ⟨hx, hb, hml, hown, htb⟩ (c_Mo_fail l g F a_t r65.2.1 r65.2.2 (2 : Int32) (t 8 0) _ hr67 H.size) (cw_V htb mb_Mo_fail (htb _ L_Mo_217) rfl rfl ⟨Nat.le_of_ble_eq_true rfl, Nat.le_of_ble_eq_true rfl⟩) (pre_V (va_recv hK hP (ci := 8) (q0 := 0) rfl rfl) (pre_S [0, 1, 2, 3, 4, 5, 6, 7, 8, 9, 10, 11, 12, 13, 14, 15, 16, 17, 18, 19, 20, 21, 22, 23, 24, 25, 26, 27, 28, 29, 30, 31, 32] rfl rfl hP hD hS hA hAA hG)) rfl rfl hl.1 rfl (lv_room (Nat.le_of_ble_eq_true rfl)) d_Mo_readAtom_91 ⟨Nat.zero_le _, Nat.zero_le _⟩) (fun H locs hP hD hS => ?_)
      have hP : va_P (gD g) vwCl ((pic_Mo g a_t r67.1 r67.2)) H := hP.sub [0, 1, 2, 3, 4, 5, 6, 7, 8, 9, 10, 11, 12, 13, 14, 15, 16, 17, 18, 19, 20, 21, 22, 23, 24, 25, 26, 27, 28, 29, 30, 31, 32] rfl
      have hD : va_D A ((pic_Mo g a_t r67.1 r67.2)) := hD.sub [0, 1, 2, 3, 4, 5, 6, 7, 8, 9, 10, 11, 12, 13, 14, 15, 16, 17, 18, 19, 20, 21, 22, 23, 24, 25, 26, 27, 28, 29, 30, 31, 32] rfl rfl
      exact k_Mo_readAtom_94 hC _ _ _ h _ _ _ hP hD hS (lv_sub hl [2] rfl)
set_option maxHeartbeats 4000000 in
set_option maxRecDepth 100000 in
theorem k_Mo_readAtom_38 {p : Program} {l : Launch} {e : Env} {s : State} {m : MethodId} {args : Array Value} {below : List Frame} {meth : Method} {c : Code} {g : Gz} {A : Nat → Prop} {F : Nat} {a_t : Nat → Nat} (hC : Cx prog_10_method_35_code 4 none R_Mo p s m args meth c g A A) : ∀ (t : StI) (tL : StL) (x1 : Int32) (res : StI × StL), Mo_readAtom_38 F t tL x1 = some res → Go p l e rm_Mo_readAtom s m args below meth c g A A 4 (MQ below (EV g ((pic_Mo g a_t res.1 res.2)) A) args s 0 0 A) ((pic_Mo g a_t t tL)) [(0, .ref (a_t 0)), (1, .int x1)] 38 [] := by
  obtain ⟨hx, hb, hr, hml, hown, htb, hlocks, hA, hAA, hG⟩ := id hC
  have hK := hG.1
  intro t tL x1 res h H locs ls hP hD hS hl
  rw [Mo_readAtom_38] at h
  refine lv_iload_n hx hb d_Mo_readAtom_38 rfl (lv_at hl 1 rfl) ?_
  refine lv_if_eq (tgt := 60) hx hb d_Mo_readAtom_39 (by decide) (fun c68 => ?_) (fun c68 => ?_)
  · replace h := (if_pos c68).symm.trans h
    exact k_Mo_readAtom_60 hC _ _ _ h _ _ _ hP hD hS (lv_sub hl [0] rfl)
  · replace h := (if_neg c68).symm.trans h
    refine lv_aload_n hx hb d_Mo_readAtom_42 rfl (lv_at hl 0 rfl) ?_
    refine va_get (D := gD g) (ci := 8) (v := .int (t 21 0)) (C := R_Mo) (T := T_Mo) (N := 64) hx hb htb in_Mo hown hK hP 0 rfl rfl 21 (by decide) (htb _ L_Mo_308) (fun _ h9 => h9) rfl d_Mo_readAtom_43 ?_
    refine lv_bipush (v := 40) hx hb d_Mo_readAtom_46 (by decide) ?_
    refine lv_icmp_ne (tgt := 60) hx hb d_Mo_readAtom_48 (by decide) (fun c69 => ?_) (fun c69 => ?_)
    · replace h := (if_neg c69).symm.trans h
      exact k_Mo_readAtom_60 hC _ _ _ h _ _ _ hP hD hS (lv_sub hl [0] rfl)
    · replace h := (if_pos c69).symm.trans h
      refine lv_aload_n hx hb d_Mo_readAtom_51 rfl (lv_at hl 0 rfl) ?_
      refine lv_iconst (v := 5) hx hb d_Mo_readAtom_52 (by decide) ?_
      refine lv_aload_n hx hb d_Mo_readAtom_53 rfl (lv_at hl 0 rfl) ?_
      refine va_get (D := gD g) (ci := 8) (v := .int (t 15 0)) (C := R_Mo) (T := T_Mo) (N := 64) hx hb htb in_Mo hown hK hP 0 rfl rfl 15 (by decide) (htb _ L_Mo_208) (fun _ h9 => h9) rfl d_Mo_readAtom_54 ?_
      obtain ⟨r70, hr70, h⟩ := Option.bind_eq_some_iff.mp h
      refine cl_V (wr := []) [0, 1, 2, 3, 4, 5, 6, 7, 8, 9, 10, 11, 12, 13, 14, 15, 16, 17, 18, 19, 20, 21, 22, 23, 24, 25, 26, 27, 28, 29, 30, 31, 32] [] rfl rfl rfl (by decide) hP hD hS hA (va_runV (As := [.int (5 : Int32), .int (t 15 0)]) (rest := []) ⟨hx, hb, hml, hown, htb⟩ (c_Mo_fail l g F a_t t tL (5 : Int32) (t 15 0) _ hr70 H.size) (cw_V htb mb_Mo_fail (htb _ L_Mo_217) rfl rfl ⟨Nat.le_of_ble_eq_true rfl, Nat.le_of_ble_eq_true rfl⟩) (pre_V (va_recv hK hP (ci := 8) (q0 := 0) rfl rfl) (pre_S [0, 1, 2, 3, 4, 5, 6, 7, 8, 9, 10, 11, 12, 13, 14, 15, 16, 17, 18, 19, 20, 21, 22, 23, 24, 25, 26, 27, 28, 29, 30, 31, 32] rfl rfl hP hD hS hA hAA hG)) rfl rfl hl.1 rfl (lv_room (Nat.le_of_ble_eq_true rfl)) d_Mo_readAtom_57 ⟨Nat.zero_le _, Nat.zero_le _⟩) (fun H locs hP hD hS => ?_)
      have hP : va_P (gD g) vwCl ((pic_Mo g a_t r70.1 r70.2)) H := hP.sub [0, 1, 2, 3, 4, 5, 6, 7, 8, 9, 10, 11, 12, 13, 14, 15, 16, 17, 18, 19, 20, 21, 22, 23, 24, 25, 26, 27, 28, 29, 30, 31, 32] rfl
      have hD : va_D A ((pic_Mo g a_t r70.1 r70.2)) := hD.sub [0, 1, 2, 3, 4, 5, 6, 7, 8, 9, 10, 11, 12, 13, 14, 15, 16, 17, 18, 19, 20, 21, 22, 23, 24, 25, 26, 27, 28, 29, 30, 31, 32] rfl rfl
      exact k_Mo_readAtom_60 hC _ _ _ h _ _ _ hP hD hS (lv_sub hl [0] rfl)
set_option maxHeartbeats 4000000 in
set_option maxRecDepth 100000 in
theorem k_Mo_readAtom_16 {p : Program} {l : Launch} {e : Env} {s : State} {m : MethodId} {args : Array Value} {below : List Frame} {meth : Method} {c : Code} {g : Gz} {A : Nat → Prop} {F : Nat} {a_t : Nat → Nat} (hC : Cx prog_10_method_35_code 4 none R_Mo p s m args meth c g A A) : ∀ (t : StI) (tL : StL) (y0 : Int32) (res : StI × StL), Mo_readAtom_16 F t tL y0 = some res → Go p l e rm_Mo_readAtom s m args below meth c g A A 4 (MQ below (EV g ((pic_Mo g a_t res.1 res.2)) A) args s 0 0 A) ((pic_Mo g a_t t tL)) [(0, .ref (a_t 0))] 16 [.int y0] := by
  obtain ⟨hx, hb, hr, hml, hown, htb, hlocks, hA, hAA, hG⟩ := id hC
  have hK := hG.1
  intro t tL y0 res h H locs ls hP hD hS hl
  rw [Mo_readAtom_16] at h
  refine lv_istore_n (lv' := [(1, .int y0), (0, .ref (a_t 0))]) hx hb d_Mo_readAtom_16 rfl hl (by decide) rfl (fun ls hl => ?_)
  refine lv_iload_n hx hb d_Mo_readAtom_17 rfl (lv_at hl 0 rfl) ?_
  refine lv_if_eq (tgt := 38) hx hb d_Mo_readAtom_18 (by decide) (fun c71 => ?_) (fun c71 => ?_)
  · replace h := (if_pos c71).symm.trans h
    exact k_Mo_readAtom_38 hC _ _ _ _ h _ _ _ hP hD hS (lv_sub hl [1, 0] rfl)
  · replace h := (if_neg c71).symm.trans h
    refine lv_aload_n hx hb d_Mo_readAtom_21 rfl (lv_at hl 1 rfl) ?_
    refine va_get (D := gD g) (ci := 8) (v := .int (t 16 0)) (C := R_Mo) (T := T_Mo) (N := 64) hx hb htb in_Mo hown hK hP 0 rfl rfl 16 (by decide) (htb _ L_Mo_214) (fun _ h9 => h9) rfl d_Mo_readAtom_22 ?_
    refine lv_iconst (v := -1) hx hb d_Mo_readAtom_25 (by decide) ?_
    refine lv_icmp_ne (tgt := 38) hx hb d_Mo_readAtom_26 (by decide) (fun c72 => ?_) (fun c72 => ?_)
    · replace h := (if_neg c72).symm.trans h
      exact k_Mo_readAtom_38 hC _ _ _ _ h _ _ _ hP hD hS (lv_sub hl [1, 0] rfl)
    · replace h := (if_pos c72).symm.trans h
      refine lv_aload_n hx hb d_Mo_readAtom_29 rfl (lv_at hl 1 rfl) ?_
      refine lv_iconst (v := 3) hx hb d_Mo_readAtom_30 (by decide) ?_
      refine lv_aload_n hx hb d_Mo_readAtom_31 rfl (lv_at hl 1 rfl) ?_
      refine va_get (D := gD g) (ci := 8) (v := .int (t 15 0)) (C := R_Mo) (T := T_Mo) (N := 64) hx hb htb in_Mo hown hK hP 0 rfl rfl 15 (by decide) (htb _ L_Mo_208) (fun _ h9 => h9) rfl d_Mo_readAtom_32 ?_
      obtain ⟨r73, hr73, h⟩ := Option.bind_eq_some_iff.mp h
      refine cl_V (wr := []) [0, 1, 2, 3, 4, 5, 6, 7, 8, 9, 10, 11, 12, 13, 14, 15, 16, 17, 18, 19, 20, 21, 22, 23, 24, 25, 26, 27, 28, 29, 30, 31, 32] [] rfl rfl rfl (by decide) hP hD hS hA (va_runV (As := [.int (3 : Int32), .int (t 15 0)]) (rest := []) ⟨hx, hb, hml, hown, htb⟩ (c_Mo_fail l g F a_t t tL (3 : Int32) (t 15 0) _ hr73 H.size) (cw_V htb mb_Mo_fail (htb _ L_Mo_217) rfl rfl ⟨Nat.le_of_ble_eq_true rfl, Nat.le_of_ble_eq_true rfl⟩) (pre_V (va_recv hK hP (ci := 8) (q0 := 0) rfl rfl) (pre_S [0, 1, 2, 3, 4, 5, 6, 7, 8, 9, 10, 11, 12, 13, 14, 15, 16, 17, 18, 19, 20, 21, 22, 23, 24, 25, 26, 27, 28, 29, 30, 31, 32] rfl rfl hP hD hS hA hAA hG)) rfl rfl hl.1 rfl (lv_room (Nat.le_of_ble_eq_true rfl)) d_Mo_readAtom_35 ⟨Nat.zero_le _, Nat.zero_le _⟩) (fun H locs hP hD hS => ?_)
      have hP : va_P (gD g) vwCl ((pic_Mo g a_t r73.1 r73.2)) H := hP.sub [0, 1, 2, 3, 4, 5, 6, 7, 8, 9, 10, 11, 12, 13, 14, 15, 16, 17, 18, 19, 20, 21, 22, 23, 24, 25, 26, 27, 28, 29, 30, 31, 32] rfl
      have hD : va_D A ((pic_Mo g a_t r73.1 r73.2)) := hD.sub [0, 1, 2, 3, 4, 5, 6, 7, 8, 9, 10, 11, 12, 13, 14, 15, 16, 17, 18, 19, 20, 21, 22, 23, 24, 25, 26, 27, 28, 29, 30, 31, 32] rfl rfl
      exact k_Mo_readAtom_38 hC _ _ _ _ h _ _ _ hP hD hS (lv_sub hl [1, 0] rfl)
set_option maxHeartbeats 4000000 in
set_option maxRecDepth 100000 in
theorem k_Mo_readAtom {p : Program} {l : Launch} {e : Env} {s : State} {m : MethodId} {args : Array Value} {below : List Frame} {meth : Method} {c : Code} {g : Gz} {A : Nat → Prop} {F : Nat} {a_t : Nat → Nat} (hC : Cx prog_10_method_35_code 4 none R_Mo p s m args meth c g A A) : ∀ (t : StI) (tL : StL) (res : StI × StL), Mo_readAtom F t tL = some res → Go p l e rm_Mo_readAtom s m args below meth c g A A 4 (MQ below (EV g ((pic_Mo g a_t res.1 res.2)) A) args s 0 0 A) ((pic_Mo g a_t t tL)) [(0, .ref (a_t 0))] 0 [] := by
  obtain ⟨hx, hb, hr, hml, hown, htb, hlocks, hA, hAA, hG⟩ := id hC
  have hK := hG.1
  intro t tL res h H locs ls hP hD hS hl
  rw [Mo_readAtom] at h
  refine lv_aload_n hx hb d_Mo_readAtom_0 rfl (lv_at hl 0 rfl) ?_
  refine va_get (D := gD g) (ci := 8) (v := .int (t 8 0)) (C := R_Mo) (T := T_Mo) (N := 64) hx hb htb in_Mo hown hK hP 0 rfl rfl 8 (by decide) (htb _ L_Mo_199) (fun _ h9 => h9) rfl d_Mo_readAtom_1 ?_
  refine lv_aload_n hx hb d_Mo_readAtom_4 rfl (lv_at hl 0 rfl) ?_
  refine va_get (D := gD g) (ci := 8) (v := .int (t 15 0)) (C := R_Mo) (T := T_Mo) (N := 64) hx hb htb in_Mo hown hK hP 0 rfl rfl 15 (by decide) (htb _ L_Mo_208) (fun _ h9 => h9) rfl d_Mo_readAtom_5 ?_
  refine lv_icmp_le (tgt := 15) hx hb d_Mo_readAtom_8 (by decide) (fun c74 => ?_) (fun c74 => ?_)
  · replace h := (if_pos c74).symm.trans h
    refine lv_iconst (v := 0) hx hb d_Mo_readAtom_15 (by decide) ?_
    exact k_Mo_readAtom_16 hC _ _ _ _ h _ _ _ hP hD hS (lv_sub hl [0] rfl)
  · replace h := (if_neg c74).symm.trans h
    refine lv_iconst (v := 1) hx hb d_Mo_readAtom_11 (by decide) ?_
    refine lv_goto (tgt := 16) hx hb d_Mo_readAtom_12 (by decide) ?_
    exact k_Mo_readAtom_16 hC _ _ _ _ h _ _ _ hP hD hS (lv_sub hl [0] rfl)
theorem c_Mo_readAtom (l : Launch) (g : Gz) (F : Nat) (a_t : Nat → Nat) (t : StI) (tL : StL) (res : StI × StL) (h : Mo_readAtom F t tL = some res) : ∀ sz : Nat, Met l y_Mo_readAtom (.code y_Mo_readAtom prog_10_method_35_code 4 none :: TBL) rm_Mo_readAtom (va_Pc [.ref (a_t 0)] (Pre0 g ((pic_Mo g a_t t tL)) sz)) (EV g ((pic_Mo g a_t res.1 res.2)) (va_A ((pic_Mo g a_t t tL)) sz)) 0 0 (va_A ((pic_Mo g a_t t tL)) sz) :=
  ct_w (Qc := fun A => EV g ((pic_Mo g a_t res.1 res.2)) A) (by decide) (Nat.le_of_ble_eq_true rfl) (fun p e s m args below meth c A hC => k_Mo_readAtom hC t tL res h)
def Mo_hold (F : Nat) (t : StI) (tL : StL) (x1 : Int32) : Option (StI × StL) := if (t 36 0) < 0 ∨ 700 ≤ (t 36 0).toNatClampNeg then none else letS (va_up t 39 (upd (t 39) (t 36 0).toNatClampNeg x1)) fun t_4 => letS (va_up t_4 36 (fun _ => ((t_4 36 0) + (1 : Int32)))) fun t_6 => some (t_6, tL)
set_option maxHeartbeats 4000000 in
set_option maxRecDepth 100000 in
theorem k_Mo_hold {p : Program} {l : Launch} {e : Env} {s : State} {m : MethodId} {args : Array Value} {below : List Frame} {meth : Method} {c : Code} {g : Gz} {A : Nat → Prop} {F : Nat} {a_t : Nat → Nat} (hC : Cx prog_10_method_38_code 2 none R_Mo p s m args meth c g A A) : ∀ (t : StI) (tL : StL) (x1 : Int32) (res : StI × StL), Mo_hold F t tL x1 = some res → Go p l e rm_Mo_hold s m args below meth c g A A 2 (MQ below (EV g ((pic_Mo g a_t res.1 res.2)) A) args s 0 0 A) ((pic_Mo g a_t t tL)) [(0, .ref (a_t 0)), (1, .int x1)] 0 [] := by
  obtain ⟨hx, hb, hr, hml, hown, htb, hlocks, hA, hAA, hG⟩ := id hC
  have hK := hG.1
  intro t tL x1 res h H locs ls hP hD hS hl
  rw [Mo_hold] at h
  refine lv_aload_n hx hb d_Mo_hold_0 rfl (lv_at hl 0 rfl) ?_
  refine va_get (D := gD g) (ci := 8) (v := .ref (a_t 40)) (C := R_Mo) (T := T_Mo) (N := 64) hx hb htb in_Mo hown hK hP 0 rfl rfl 39 (by decide) (htb _ L_Mo_95) (fun _ h9 => h9) rfl d_Mo_hold_1 ?_
  refine lv_aload_n hx hb d_Mo_hold_4 rfl (lv_at hl 0 rfl) ?_
  refine va_get (D := gD g) (ci := 8) (v := .int (t 36 0)) (C := R_Mo) (T := T_Mo) (N := 64) hx hb htb in_Mo hown hK hP 0 rfl rfl 36 (by decide) (htb _ L_Mo_337) (fun _ h9 => h9) rfl d_Mo_hold_5 ?_
  refine lv_iload_n hx hb d_Mo_hold_8 rfl (lv_at hl 1 rfl) ?_
  by_cases c5 : ((t 36 0) < 0 ∨ 700 ≤ (t 36 0).toNatClampNeg)
  · replace h := (if_pos c5).symm.trans h
    cases h
  replace h := (if_neg c5).symm.trans h
  refine va_iast hx hb hK hP hD hS 18 0 rfl rfl c5 d_Mo_hold_9 (fun H locs hP hD hS => ?_)
  obtain ⟨t_4, et_4, h⟩ := letS_el h
  have hP : va_P (gD g) vwCl ((pic_Mo g a_t t_4 tL)) H := by rw [et_4]; exact hP
  have hD : va_D A ((pic_Mo g a_t t_4 tL)) := by rw [et_4]; exact hD
  refine lv_aload_n hx hb d_Mo_hold_10 rfl (lv_at hl 0 rfl) ?_
  refine lv_dup hx hb d_Mo_hold_11 rfl ?_
  refine va_get (D := gD g) (ci := 8) (v := .int (t_4 36 0)) (C := R_Mo) (T := T_Mo) (N := 64) hx hb htb in_Mo hown hK hP 0 rfl rfl 36 (by decide) (htb _ L_Mo_337) (fun _ h9 => h9) rfl d_Mo_hold_12 ?_
  refine lv_iconst (v := 1) hx hb d_Mo_hold_15 (by decide) ?_
  refine lv_iadd hx hb d_Mo_hold_16 ?_
  refine va_put (D := gD g) (ci := 8) (v := .int ((t_4 36 0) + (1 : Int32))) (ty := .int) (C := R_Mo) (T := T_Mo) (N := 64) hx hb htb in_Mo ty_Mo ty_Mo_ok nm_Mo hown hK hP hD hS 0 rfl rfl 36 (by decide) (htb _ L_Mo_337) (fun _ h9 => h9) rfl (by decide +kernel) rfl rfl (Nat.le_of_ble_eq_true rfl) d_Mo_hold_17 (fun H locs hP hD hS => ?_)
  obtain ⟨t_6, et_6, h⟩ := letS_el h
  have hP : va_P (gD g) vwCl ((pic_Mo g a_t t_6 tL)) H := by rw [et_6]; exact hP
  have hD : va_D A ((pic_Mo g a_t t_6 tL)) := by rw [et_6]; exact hD
  cases h
  exact W.vret hx hb hr (fun t ht hW => ⟨⟨(), rfl, trivial, by rw [ht]; exact hP, hD⟩, hS.F ht⟩) hS.2.2 d_Mo_hold_20
theorem c_Mo_hold (l : Launch) (g : Gz) (F : Nat) (a_t : Nat → Nat) (t : StI) (tL : StL) (x1 : Int32) (res : StI × StL) (h : Mo_hold F t tL x1 = some res) : ∀ sz : Nat, Met l y_Mo_hold (.code y_Mo_hold prog_10_method_38_code 2 none :: TBL) rm_Mo_hold (va_Pc [.ref (a_t 0), .int x1] (Pre0 g ((pic_Mo g a_t t tL)) sz)) (EV g ((pic_Mo g a_t res.1 res.2)) (va_A ((pic_Mo g a_t t tL)) sz)) 0 0 (va_A ((pic_Mo g a_t t tL)) sz) :=
  ct_w (Qc := fun A => EV g ((pic_Mo g a_t res.1 res.2)) A) (by decide) (Nat.le_of_ble_eq_true rfl) (fun p e s m args below meth c A hC => k_Mo_hold hC t tL x1 res h)
def Mo_reduce (F : Nat) (t : StI) (tL : StL) : Option (StI × StL) := letS (va_up t 36 (fun _ => ((t 36 0) - (1 : Int32)))) fun t_13 => if (t_13 36 0) < 0 ∨ 700 ≤ (t_13 36 0).toNatClampNeg then none else if ((t_13 35 0) - (1 : Int32)) < 0 ∨ 700 ≤ ((t_13 35 0) - (1 : Int32)).toNatClampNeg then none else if ((t_13 39) (t_13 36 0).toNatClampNeg) = (4 : Int32) then (Mo_node F t_13 tL (4 : Int32) ((t_13 38) ((t_13 35 0) - (1 : Int32)).toNatClampNeg) (-1 : Int32)).bind fun r22 => if ((t_13 35 0) - (1 : Int32)) < 0 ∨ 700 ≤ ((t_13 35 0) - (1 : Int32)).toNatClampNeg then none else letS (va_up r22.2.1 38 (upd (r22.2.1 38) ((t_13 35 0) - (1 : Int32)).toNatClampNeg r22.1)) fun t_23 => some (t_23, r22.2.2) else letS (va_up t_13 35 (fun _ => ((t_13 35 0) - (1 : Int32)))) fun t_17 => if ((t_17 35 0) - (1 : Int32)) < 0 ∨ 700 ≤ ((t_17 35 0) - (1 : Int32)).toNatClampNeg then none else (Mo_node F t_17 tL ((t_13 39) (t_13 36 0).toNatClampNeg) ((t_17 38) ((t_17 35 0) - (1 : Int32)).toNatClampNeg) ((t_13 38) ((t_13 35 0) - (1 : Int32)).toNatClampNeg)).bind fun r19 => if ((t_17 35 0) - (1 : Int32)) < 0 ∨ 700 ≤ ((t_17 35 0) - (1 : Int32)).toNatClampNeg then none else letS (va_up r19.2.1 38 (upd (r19.2.1 38) ((t_17 35 0) - (1 : Int32)).toNatClampNeg r19.1)) fun t_20 => some (t_20, r19.2.2)
set_option maxHeartbeats 4000000 in
set_option maxRecDepth 100000 in
theorem k_Mo_reduce {p : Program} {l : Launch} {e : Env} {s : State} {m : MethodId} {args : Array Value} {below : List Frame} {meth : Method} {c : Code} {g : Gz} {A : Nat → Prop} {F : Nat} {a_t : Nat → Nat} (hC : Cx prog_10_method_39_code 3 none R_Mo p s m args meth c g A A) : ∀ (t : StI) (tL : StL) (res : StI × StL), Mo_reduce F t tL = some res → Go p l e rm_Mo_reduce s m args below meth c g A A 3 (MQ below (EV g ((pic_Mo g a_t res.1 res.2)) A) args s 0 0 A) ((pic_Mo g a_t t tL)) [(0, .ref (a_t 0))] 0 [] := by
  obtain ⟨hx, hb, hr, hml, hown, htb, hlocks, hA, hAA, hG⟩ := id hC
  have hK := hG.1
  intro t tL res h H locs ls hP hD hS hl
  rw [Mo_reduce] at h
  refine lv_aload_n hx hb d_Mo_reduce_0 rfl (lv_at hl 0 rfl) ?_
  refine lv_dup hx hb d_Mo_reduce_1 rfl ?_
  refine va_get (D := gD g) (ci := 8) (v := .int (t 36 0)) (C := R_Mo) (T := T_Mo) (N := 64) hx hb htb in_Mo hown hK hP 0 rfl rfl 36 (by decide) (htb _ L_Mo_337) (fun _ h9 => h9) rfl d_Mo_reduce_2 ?_
  refine lv_iconst (v := 1) hx hb d_Mo_reduce_5 (by decide) ?_
  refine lv_isub hx hb d_Mo_reduce_6 ?_
  refine va_put (D := gD g) (ci := 8) (v := .int ((t 36 0) - (1 : Int32))) (ty := .int) (C := R_Mo) (T := T_Mo) (N := 64) hx hb htb in_Mo ty_Mo ty_Mo_ok nm_Mo hown hK hP hD hS 0 rfl rfl 36 (by decide) (htb _ L_Mo_337) (fun _ h9 => h9) rfl (by decide +kernel) rfl rfl (Nat.le_of_ble_eq_true rfl) d_Mo_reduce_7 (fun H locs hP hD hS => ?_)
  obtain ⟨t_13, et_13, h⟩ := letS_el h
  have hP : va_P (gD g) vwCl ((pic_Mo g a_t t_13 tL)) H := by rw [et_13]; exact hP
  have hD : va_D A ((pic_Mo g a_t t_13 tL)) := by rw [et_13]; exact hD
  refine lv_aload_n hx hb d_Mo_reduce_10 rfl (lv_at hl 0 rfl) ?_
  refine va_get (D := gD g) (ci := 8) (v := .ref (a_t 40)) (C := R_Mo) (T := T_Mo) (N := 64) hx hb htb in_Mo hown hK hP 0 rfl rfl 39 (by decide) (htb _ L_Mo_95) (fun _ h9 => h9) rfl d_Mo_reduce_11 ?_
  refine lv_aload_n hx hb d_Mo_reduce_14 rfl (lv_at hl 0 rfl) ?_
  refine va_get (D := gD g) (ci := 8) (v := .int (t_13 36 0)) (C := R_Mo) (T := T_Mo) (N := 64) hx hb htb in_Mo hown hK hP 0 rfl rfl 36 (by decide) (htb _ L_Mo_337) (fun _ h9 => h9) rfl d_Mo_reduce_15 ?_
  by_cases c14 : ((t_13 36 0) < 0 ∨ 700 ≤ (t_13 36 0).toNatClampNeg)
  · replace h := (if_pos c14).symm.trans h
    cases h
  replace h := (if_neg c14).symm.trans h
  refine va_iald hx hb hK hP 18 0 rfl rfl c14 d_Mo_reduce_18 ?_
  refine lv_istore_n (lv' := [(1, .int ((t_13 39) (t_13 36 0).toNatClampNeg)), (0, .ref (a_t 0))]) hx hb d_Mo_reduce_19 rfl hl (by decide) rfl (fun ls hl => ?_)
  refine lv_aload_n hx hb d_Mo_reduce_20 rfl (lv_at hl 1 rfl) ?_
  refine va_get (D := gD g) (ci := 8) (v := .ref (a_t 39)) (C := R_Mo) (T := T_Mo) (N := 64) hx hb htb in_Mo hown hK hP 0 rfl rfl 38 (by decide) (htb _ L_Mo_92) (fun _ h9 => h9) rfl d_Mo_reduce_21 ?_
  refine lv_aload_n hx hb d_Mo_reduce_24 rfl (lv_at hl 1 rfl) ?_
  refine va_get (D := gD g) (ci := 8) (v := .int (t_13 35 0)) (C := R_Mo) (T := T_Mo) (N := 64) hx hb htb in_Mo hown hK hP 0 rfl rfl 35 (by decide) (htb _ L_Mo_334) (fun _ h9 => h9) rfl d_Mo_reduce_25 ?_
  refine lv_iconst (v := 1) hx hb d_Mo_reduce_28 (by decide) ?_
  refine lv_isub hx hb d_Mo_reduce_29 ?_
  by_cases c15 : (((t_13 35 0) - (1 : Int32)) < 0 ∨ 700 ≤ ((t_13 35 0) - (1 : Int32)).toNatClampNeg)
  · replace h := (if_pos c15).symm.trans h
    cases h
  replace h := (if_neg c15).symm.trans h
  refine va_iald hx hb hK hP 17 0 rfl rfl c15 d_Mo_reduce_30 ?_
  refine lv_istore_n (lv' := [(2, .int ((t_13 38) ((t_13 35 0) - (1 : Int32)).toNatClampNeg)), (1, .int ((t_13 39) (t_13 36 0).toNatClampNeg)), (0, .ref (a_t 0))]) hx hb d_Mo_reduce_31 rfl hl (by decide) rfl (fun ls hl => ?_)
  refine lv_iload_n hx hb d_Mo_reduce_32 rfl (lv_at hl 1 rfl) ?_
  refine lv_iconst (v := 4) hx hb d_Mo_reduce_33 (by decide) ?_
  refine lv_icmp_ne (tgt := 58) hx hb d_Mo_reduce_34 (by decide) (fun c16 => ?_) (fun c16 => ?_)
  · replace h := (if_neg c16).symm.trans h
    refine lv_aload_n hx hb d_Mo_reduce_58 rfl (lv_at hl 2 rfl) ?_
    refine lv_dup hx hb d_Mo_reduce_59 rfl ?_
    refine va_get (D := gD g) (ci := 8) (v := .int (t_13 35 0)) (C := R_Mo) (T := T_Mo) (N := 64) hx hb htb in_Mo hown hK hP 0 rfl rfl 35 (by decide) (htb _ L_Mo_334) (fun _ h9 => h9) rfl d_Mo_reduce_60 ?_
    refine lv_iconst (v := 1) hx hb d_Mo_reduce_63 (by decide) ?_
    refine lv_isub hx hb d_Mo_reduce_64 ?_
    refine va_put (D := gD g) (ci := 8) (v := .int ((t_13 35 0) - (1 : Int32))) (ty := .int) (C := R_Mo) (T := T_Mo) (N := 64) hx hb htb in_Mo ty_Mo ty_Mo_ok nm_Mo hown hK hP hD hS 0 rfl rfl 35 (by decide) (htb _ L_Mo_334) (fun _ h9 => h9) rfl (by decide +kernel) rfl rfl (Nat.le_of_ble_eq_true rfl) d_Mo_reduce_65 (fun H locs hP hD hS => ?_)
    obtain ⟨t_17, et_17, h⟩ := letS_el h
    have hP : va_P (gD g) vwCl ((pic_Mo g a_t t_17 tL)) H := by rw [et_17]; exact hP
    have hD : va_D A ((pic_Mo g a_t t_17 tL)) := by rw [et_17]; exact hD
    refine lv_aload_n hx hb d_Mo_reduce_68 rfl (lv_at hl 2 rfl) ?_
    refine va_get (D := gD g) (ci := 8) (v := .ref (a_t 39)) (C := R_Mo) (T := T_Mo) (N := 64) hx hb htb in_Mo hown hK hP 0 rfl rfl 38 (by decide) (htb _ L_Mo_92) (fun _ h9 => h9) rfl d_Mo_reduce_69 ?_
    refine lv_aload_n hx hb d_Mo_reduce_72 rfl (lv_at hl 2 rfl) ?_
    refine va_get (D := gD g) (ci := 8) (v := .int (t_17 35 0)) (C := R_Mo) (T := T_Mo) (N := 64) hx hb htb in_Mo hown hK hP 0 rfl rfl 35 (by decide) (htb _ L_Mo_334) (fun _ h9 => h9) rfl d_Mo_reduce_73 ?_
    refine lv_iconst (v := 1) hx hb d_Mo_reduce_76 (by decide) ?_
    refine lv_isub hx hb d_Mo_reduce_77 ?_
    refine lv_aload_n hx hb d_Mo_reduce_78 rfl (lv_at hl 2 rfl) ?_
    refine lv_iload_n hx hb d_Mo_reduce_79 rfl (lv_at hl 1 rfl) ?_
    refine lv_aload_n hx hb d_Mo_reduce_80 rfl (lv_at hl 2 rfl) ?_
    refine va_get (D := gD g) (ci := 8) (v := .ref (a_t 39)) (C := R_Mo) (T := T_Mo) (N := 64) hx hb htb in_Mo hown hK hP 0 rfl rfl 38 (by decide) (htb _ L_Mo_92) (fun _ h9 => h9) rfl d_Mo_reduce_81 ?_
    refine lv_aload_n hx hb d_Mo_reduce_84 rfl (lv_at hl 2 rfl) ?_
    refine va_get (D := gD g) (ci := 8) (v := .int (t_17 35 0)) (C := R_Mo) (T := T_Mo) (N := 64) hx hb htb in_Mo hown hK hP 0 rfl rfl 35 (by decide) (htb _ L_Mo_334) (fun _ h9 => h9) rfl d_Mo_reduce_85 ?_
    refine lv_iconst (v := 1) hx hb d_Mo_reduce_88 (by decide) ?_
    refine lv_isub hx hb d_Mo_reduce_89 ?_
    by_cases c18 : (((t_17 35 0) - (1 : Int32)) < 0 ∨ 700 ≤ ((t_17 35 0) - (1 : Int32)).toNatClampNeg)
    · replace h := (if_pos c18).symm.trans h
      cases h
    replace h := (if_neg c18).symm.trans h
    refine va_iald hx hb hK hP 17 0 rfl rfl c18 d_Mo_reduce_90 ?_
    refine lv_iload_n hx hb d_Mo_reduce_91 rfl (lv_at hl 0 rfl) ?_
    obtain ⟨r19, hr19, h⟩ := Option.bind_eq_some_iff.mp h
    refine cl_I (wr := []) [0, 1, 2, 3, 4, 5, 6, 7, 8, 9, 10, 11, 12, 13, 14, 15, 16, 17, 18, 19, 20, 21, 22, 23, 24, 25, 26, 27, 28, 29, 30, 31, 32] [] rfl rfl rfl (by decide) hP hD hS hA (va_runV (As := [.int ((t_13 39) (t_13 36 0).toNatClampNeg), .int ((t_17 38) ((t_17 35 0) - (1 : Int32)).toNatClampNeg), .int ((t_13 38) ((t_13 35 0) - (1 : Int32)).toNatClampNeg)]) (rest := [.int ((t_17 35 0) - (1 : Int32)), .ref (a_t 39)]) ⟨hx, hb, hml, hown, htb⟩ (c_Mo_node l g F a_t t_17 tL ((t_13 39) (t_13 36 0).toNatClampNeg) ((t_17 38) ((t_17 35 0) - (1 : Int32)).toNatClampNeg) ((t_13 38) ((t_13 35 0) - (1 : Int32)).toNatClampNeg) _ hr19 H.size) (cw_V htb mb_Mo_node (htb _ L_Mo_324) rfl rfl ⟨Nat.le_of_ble_eq_true rfl, Nat.le_of_ble_eq_true rfl⟩) (pre_V (va_recv hK hP (ci := 8) (q0 := 0) rfl rfl) (pre_S [0, 1, 2, 3, 4, 5, 6, 7, 8, 9, 10, 11, 12, 13, 14, 15, 16, 17, 18, 19, 20, 21, 22, 23, 24, 25, 26, 27, 28, 29, 30, 31, 32] rfl rfl hP hD hS hA hAA hG)) rfl rfl hl.1 rfl (lv_room (Nat.le_of_ble_eq_true rfl)) d_Mo_reduce_92 ⟨Nat.zero_le _, Nat.zero_le _⟩) (fun H locs hP hD hS => ?_)
    have hP : va_P (gD g) vwCl ((pic_Mo g a_t r19.2.1 r19.2.2)) H := hP.sub [0, 1, 2, 3, 4, 5, 6, 7, 8, 9, 10, 11, 12, 13, 14, 15, 16, 17, 18, 19, 20, 21, 22, 23, 24, 25, 26, 27, 28, 29, 30, 31, 32] rfl
    have hD : va_D A ((pic_Mo g a_t r19.2.1 r19.2.2)) := hD.sub [0, 1, 2, 3, 4, 5, 6, 7, 8, 9, 10, 11, 12, 13, 14, 15, 16, 17, 18, 19, 20, 21, 22, 23, 24, 25, 26, 27, 28, 29, 30, 31, 32] rfl rfl
    by_cases c21 : (((t_17 35 0) - (1 : Int32)) < 0 ∨ 700 ≤ ((t_17 35 0) - (1 : Int32)).toNatClampNeg)
    · replace h := (if_pos c21).symm.trans h
      cases h
    replace h := (if_neg c21).symm.trans h
    refine va_iast hx hb hK hP hD hS 17 0 rfl rfl c21 d_Mo_reduce_95 (fun H locs hP hD hS => ?_)
    obtain ⟨t_20, et_20, h⟩ := letS_el h
    have hP : va_P (gD g) vwCl ((pic_Mo g a_t t_20 r19.2.2)) H := by rw [et_20]; exact hP
    have hD : va_D A ((pic_Mo g a_t t_20 r19.2.2)) := by rw [et_20]; exact hD
    cases h
    exact W.vret hx hb hr (fun t ht hW => ⟨⟨(), rfl, trivial, by rw [ht]; exact hP, hD⟩, hS.F ht⟩) hS.2.2 d_Mo_reduce_96
  · replace h := (if_pos c16).symm.trans h
    refine lv_aload_n hx hb d_Mo_reduce_37 rfl (lv_at hl 2 rfl) ?_
    refine va_get (D := gD g) (ci := 8) (v := .ref (a_t 39)) (C := R_Mo) (T := T_Mo) (N := 64) hx hb htb in_Mo hown hK hP 0 rfl rfl 38 (by decide) (htb _ L_Mo_92) (fun _ h9 => h9) rfl d_Mo_reduce_38 ?_
    refine lv_aload_n hx hb d_Mo_reduce_41 rfl (lv_at hl 2 rfl) ?_
    refine va_get (D := gD g) (ci := 8) (v := .int (t_13 35 0)) (C := R_Mo) (T := T_Mo) (N := 64) hx hb htb in_Mo hown hK hP 0 rfl rfl 35 (by decide) (htb _ L_Mo_334) (fun _ h9 => h9) rfl d_Mo_reduce_42 ?_
    refine lv_iconst (v := 1) hx hb d_Mo_reduce_45 (by decide) ?_
    refine lv_isub hx hb d_Mo_reduce_46 ?_
    refine lv_aload_n hx hb d_Mo_reduce_47 rfl (lv_at hl 2 rfl) ?_
    refine lv_iconst (v := 4) hx hb d_Mo_reduce_48 (by decide) ?_
    refine lv_iload_n hx hb d_Mo_reduce_49 rfl (lv_at hl 0 rfl) ?_
    refine lv_iconst (v := -1) hx hb d_Mo_reduce_50 (by decide) ?_
    obtain ⟨r22, hr22, h⟩ := Option.bind_eq_some_iff.mp h
    refine cl_I (wr := []) [0, 1, 2, 3, 4, 5, 6, 7, 8, 9, 10, 11, 12, 13, 14, 15, 16, 17, 18, 19, 20, 21, 22, 23, 24, 25, 26, 27, 28, 29, 30, 31, 32] [] rfl rfl rfl (by decide) hP hD hS hA (va_runV (As := [.int (4 : Int32), .int ((t_13 38) ((t_13 35 0) - (1 : Int32)).toNatClampNeg), .int (-1 : Int32)]) (rest := [.int ((t_13 35 0) - (1 : Int32)), .ref (a_t 39)]) ⟨hx, hb, hml, hown, htb⟩ (c_Mo_node l g F a_t t_13 tL (4 : Int32) ((t_13 38) ((t_13 35 0) - (1 : Int32)).toNatClampNeg) (-1 : Int32) _ hr22 H.size) (cw_V htb mb_Mo_node (htb _ L_Mo_324) rfl rfl ⟨Nat.le_of_ble_eq_true rfl, Nat.le_of_ble_eq_true rfl⟩) (pre_V (va_recv hK hP (ci := 8) (q0 := 0) rfl rfl) (pre_S [0, 1, 2, 3, 4, 5, 6, 7, 8, 9, 10, 11, 12, 13, 14, 15, 16, 17, 18, 19, 20, 21, 22, 23, 24, 25, 26, 27, 28, 29, 30, 31, 32] rfl rfl hP hD hS hA hAA hG)) rfl rfl hl.1 rfl (lv_room (Nat.le_of_ble_eq_true rfl)) d_Mo_reduce_51 ⟨Nat.zero_le _, Nat.zero_le _⟩) (fun H locs hP hD hS => ?_)
    have hP : va_P (gD g) vwCl ((pic_Mo g a_t r22.2.1 r22.2.2)) H := hP.sub [0, 1, 2, 3, 4, 5, 6, 7, 8, 9, 10, 11, 12, 13, 14, 15, 16, 17, 18, 19, 20, 21, 22, 23, 24, 25, 26, 27, 28, 29, 30, 31, 32] rfl
    have hD : va_D A ((pic_Mo g a_t r22.2.1 r22.2.2)) := hD.sub [0, 1, 2, 3, 4, 5, 6, 7, 8, 9, 10, 11, 12, 13, 14, 15, 16, 17, 18, 19, 20, 21, 22, 23, 24, 25, 26, 27, 28, 29, 30, 31, 32] rfl rfl
    by_cases c24 : (((t_13 35 0) - (1 : Int32)) < 0 ∨ 700 ≤ ((t_13 35 0) - (1 : Int32)).toNatClampNeg)
    · replace h := (if_pos c24).symm.trans h
      cases h
    replace h := (if_neg c24).symm.trans h
    refine va_iast hx hb hK hP hD hS 17 0 rfl rfl c24 d_Mo_reduce_54 (fun H locs hP hD hS => ?_)
    obtain ⟨t_23, et_23, h⟩ := letS_el h
    have hP : va_P (gD g) vwCl ((pic_Mo g a_t t_23 r22.2.2)) H := by rw [et_23]; exact hP
    have hD : va_D A ((pic_Mo g a_t t_23 r22.2.2)) := by rw [et_23]; exact hD
    refine lv_goto (tgt := 96) hx hb d_Mo_reduce_55 (by decide) ?_
    cases h
    exact W.vret hx hb hr (fun t ht hW => ⟨⟨(), rfl, trivial, by rw [ht]; exact hP, hD⟩, hS.F ht⟩) hS.2.2 d_Mo_reduce_96
theorem c_Mo_reduce (l : Launch) (g : Gz) (F : Nat) (a_t : Nat → Nat) (t : StI) (tL : StL) (res : StI × StL) (h : Mo_reduce F t tL = some res) : ∀ sz : Nat, Met l y_Mo_reduce (.code y_Mo_reduce prog_10_method_39_code 3 none :: TBL) rm_Mo_reduce (va_Pc [.ref (a_t 0)] (Pre0 g ((pic_Mo g a_t t tL)) sz)) (EV g ((pic_Mo g a_t res.1 res.2)) (va_A ((pic_Mo g a_t t tL)) sz)) 0 0 (va_A ((pic_Mo g a_t t tL)) sz) :=
  ct_w (Qc := fun A => EV g ((pic_Mo g a_t res.1 res.2)) A) (by decide) (Nat.le_of_ble_eq_true rfl) (fun p e s m args below meth c A hC => k_Mo_reduce hC t tL res h)
def Mo_reduceTo_0 (F : Nat) : Nat → StI → StL → Int32 → Option (StI × StL)
  | 0, _, _, _ => none
  | n + 1, t, tL, x1 => if (t 36 0) ≤ 0 then some (t, tL) else if ((t 36 0) - (1 : Int32)) < 0 ∨ 700 ≤ ((t 36 0) - (1 : Int32)).toNatClampNeg then none else if ((t 39) ((t 36 0) - (1 : Int32)).toNatClampNeg) = (5 : Int32) then some (t, tL) else if ((t 36 0) - (1 : Int32)) < 0 ∨ 700 ≤ ((t 36 0) - (1 : Int32)).toNatClampNeg then none else if ((t 39) ((t 36 0) - (1 : Int32)).toNatClampNeg) < x1 then some (t, tL) else (Mo_reduce F t tL).bind fun r12 => Mo_reduceTo_0 F n r12.1 r12.2 x1
def Mo_reduceTo (F : Nat) (t : StI) (tL : StL) (x1 : Int32) : Option (StI × StL) := Mo_reduceTo_0 F F t tL x1
set_option maxHeartbeats 4000000 in
set_option maxRecDepth 100000 in
theorem k_Mo_reduceTo_0 {p : Program} {l : Launch} {e : Env} {s : State} {m : MethodId} {args : Array Value} {below : List Frame} {meth : Method} {c : Code} {g : Gz} {A : Nat → Prop} {F : Nat} {a_t : Nat → Nat} (hC : Cx prog_10_method_40_code 2 none R_Mo p s m args meth c g A A) : ∀ (n : Nat) (t : StI) (tL : StL) (x1 : Int32) (res : StI × StL), Mo_reduceTo_0 F n t tL x1 = some res → Go p l e rm_Mo_reduceTo s m args below meth c g A A 2 (MQ below (EV g ((pic_Mo g a_t res.1 res.2)) A) args s 0 0 A) ((pic_Mo g a_t t tL)) [(0, .ref (a_t 0)), (1, .int x1)] 0 [] := by
  obtain ⟨hx, hb, hr, hml, hown, htb, hlocks, hA, hAA, hG⟩ := id hC
  have hK := hG.1
  intro n
  induction n with
  | zero => intro t tL x1 res h; rw [Mo_reduceTo_0] at h; cases h
  | succ n ih =>
    intro t tL x1 res h H locs ls hP hD hS hl
    rw [Mo_reduceTo_0] at h
    refine lv_aload_n hx hb d_Mo_reduceTo_0 rfl (lv_at hl 0 rfl) ?_
    refine va_get (D := gD g) (ci := 8) (v := .int (t 36 0)) (C := R_Mo) (T := T_Mo) (N := 64) hx hb htb in_Mo hown hK hP 0 rfl rfl 36 (by decide) (htb _ L_Mo_337) (fun _ h9 => h9) rfl d_Mo_reduceTo_1 ?_
    refine lv_if_le (tgt := 44) hx hb d_Mo_reduceTo_4 (by decide) (fun c7 => ?_) (fun c7 => ?_)
    · replace h := (if_pos c7).symm.trans h
      cases h
      exact W.vret hx hb hr (fun t ht hW => ⟨⟨(), rfl, trivial, by rw [ht]; exact hP, hD⟩, hS.F ht⟩) hS.2.2 d_Mo_reduceTo_44
    · replace h := (if_neg c7).symm.trans h
      refine lv_aload_n hx hb d_Mo_reduceTo_7 rfl (lv_at hl 0 rfl) ?_
      refine va_get (D := gD g) (ci := 8) (v := .ref (a_t 40)) (C := R_Mo) (T := T_Mo) (N := 64) hx hb htb in_Mo hown hK hP 0 rfl rfl 39 (by decide) (htb _ L_Mo_95) (fun _ h9 => h9) rfl d_Mo_reduceTo_8 ?_
      refine lv_aload_n hx hb d_Mo_reduceTo_11 rfl (lv_at hl 0 rfl) ?_
      refine va_get (D := gD g) (ci := 8) (v := .int (t 36 0)) (C := R_Mo) (T := T_Mo) (N := 64) hx hb htb in_Mo hown hK hP 0 rfl rfl 36 (by decide) (htb _ L_Mo_337) (fun _ h9 => h9) rfl d_Mo_reduceTo_12 ?_
      refine lv_iconst (v := 1) hx hb d_Mo_reduceTo_15 (by decide) ?_
      refine lv_isub hx hb d_Mo_reduceTo_16 ?_
      by_cases c8 : (((t 36 0) - (1 : Int32)) < 0 ∨ 700 ≤ ((t 36 0) - (1 : Int32)).toNatClampNeg)
      · replace h := (if_pos c8).symm.trans h
        cases h
      replace h := (if_neg c8).symm.trans h
      refine va_iald hx hb hK hP 18 0 rfl rfl c8 d_Mo_reduceTo_17 ?_
      refine lv_iconst (v := 5) hx hb d_Mo_reduceTo_18 (by decide) ?_
      refine lv_icmp_eq (tgt := 44) hx hb d_Mo_reduceTo_19 (by decide) (fun c9 => ?_) (fun c9 => ?_)
      · replace h := (if_pos c9).symm.trans h
        cases h
        exact W.vret hx hb hr (fun t ht hW => ⟨⟨(), rfl, trivial, by rw [ht]; exact hP, hD⟩, hS.F ht⟩) hS.2.2 d_Mo_reduceTo_44
      · replace h := (if_neg c9).symm.trans h
        refine lv_aload_n hx hb d_Mo_reduceTo_22 rfl (lv_at hl 0 rfl) ?_
        refine va_get (D := gD g) (ci := 8) (v := .ref (a_t 40)) (C := R_Mo) (T := T_Mo) (N := 64) hx hb htb in_Mo hown hK hP 0 rfl rfl 39 (by decide) (htb _ L_Mo_95) (fun _ h9 => h9) rfl d_Mo_reduceTo_23 ?_
        refine lv_aload_n hx hb d_Mo_reduceTo_26 rfl (lv_at hl 0 rfl) ?_
        refine va_get (D := gD g) (ci := 8) (v := .int (t 36 0)) (C := R_Mo) (T := T_Mo) (N := 64) hx hb htb in_Mo hown hK hP 0 rfl rfl 36 (by decide) (htb _ L_Mo_337) (fun _ h9 => h9) rfl d_Mo_reduceTo_27 ?_
        refine lv_iconst (v := 1) hx hb d_Mo_reduceTo_30 (by decide) ?_
        refine lv_isub hx hb d_Mo_reduceTo_31 ?_
        by_cases c10 : (((t 36 0) - (1 : Int32)) < 0 ∨ 700 ≤ ((t 36 0) - (1 : Int32)).toNatClampNeg)
        · replace h := (if_pos c10).symm.trans h
          cases h
        replace h := (if_neg c10).symm.trans h
        refine va_iald hx hb hK hP 18 0 rfl rfl c10 d_Mo_reduceTo_32 ?_
        refine lv_iload_n hx hb d_Mo_reduceTo_33 rfl (lv_at hl 1 rfl) ?_
        refine lv_icmp_lt (tgt := 44) hx hb d_Mo_reduceTo_34 (by decide) (fun c11 => ?_) (fun c11 => ?_)
        · replace h := (if_pos c11).symm.trans h
          cases h
          exact W.vret hx hb hr (fun t ht hW => ⟨⟨(), rfl, trivial, by rw [ht]; exact hP, hD⟩, hS.F ht⟩) hS.2.2 d_Mo_reduceTo_44
        · replace h := (if_neg c11).symm.trans h
          refine lv_aload_n hx hb d_Mo_reduceTo_37 rfl (lv_at hl 0 rfl) ?_
          obtain ⟨r12, hr12, h⟩ := Option.bind_eq_some_iff.mp h
          refine cl_V (wr := []) [0, 1, 2, 3, 4, 5, 6, 7, 8, 9, 10, 11, 12, 13, 14, 15, 16, 17, 18, 19, 20, 21, 22, 23, 24, 25, 26, 27, 28, 29, 30, 31, 32] [] rfl rfl rfl (by decide) hP hD hS hA (va_runV (As := []) (rest := []) ⟨hx, hb, hml, hown, htb⟩ (c_Mo_reduce l g F a_t t tL _ hr12 H.size) (cw_V htb mb_Mo_reduce (htb _ L_Mo_340) rfl rfl ⟨Nat.le_of_ble_eq_true rfl, Nat.le_of_ble_eq_true rfl⟩) (pre_V (va_recv hK hP (ci := 8) (q0 := 0) rfl rfl) (pre_S [0, 1, 2, 3, 4, 5, 6, 7, 8, 9, 10, 11, 12, 13, 14, 15, 16, 17, 18, 19, 20, 21, 22, 23, 24, 25, 26, 27, 28, 29, 30, 31, 32] rfl rfl hP hD hS hA hAA hG)) rfl rfl hl.1 rfl (lv_room (Nat.le_of_ble_eq_true rfl)) d_Mo_reduceTo_38 ⟨Nat.zero_le _, Nat.zero_le _⟩) (fun H locs hP hD hS => ?_)
          have hP : va_P (gD g) vwCl ((pic_Mo g a_t r12.1 r12.2)) H := hP.sub [0, 1, 2, 3, 4, 5, 6, 7, 8, 9, 10, 11, 12, 13, 14, 15, 16, 17, 18, 19, 20, 21, 22, 23, 24, 25, 26, 27, 28, 29, 30, 31, 32] rfl
          have hD : va_D A ((pic_Mo g a_t r12.1 r12.2)) := hD.sub [0, 1, 2, 3, 4, 5, 6, 7, 8, 9, 10, 11, 12, 13, 14, 15, 16, 17, 18, 19, 20, 21, 22, 23, 24, 25, 26, 27, 28, 29, 30, 31, 32] rfl rfl
          refine lv_goto (tgt := 0) hx hb d_Mo_reduceTo_41 (by decide) ?_
          exact ih _ _ _ _ h _ _ _ hP hD hS (lv_sub hl [0, 1] rfl)
set_option maxHeartbeats 4000000 in
set_option maxRecDepth 100000 in
theorem k_Mo_reduceTo {p : Program} {l : Launch} {e : Env} {s : State} {m : MethodId} {args : Array Value} {below : List Frame} {meth : Method} {c : Code} {g : Gz} {A : Nat → Prop} {F : Nat} {a_t : Nat → Nat} (hC : Cx prog_10_method_40_code 2 none R_Mo p s m args meth c g A A) : ∀ (t : StI) (tL : StL) (x1 : Int32) (res : StI × StL), Mo_reduceTo F t tL x1 = some res → Go p l e rm_Mo_reduceTo s m args below meth c g A A 2 (MQ below (EV g ((pic_Mo g a_t res.1 res.2)) A) args s 0 0 A) ((pic_Mo g a_t t tL)) [(0, .ref (a_t 0)), (1, .int x1)] 0 [] := by
  obtain ⟨hx, hb, hr, hml, hown, htb, hlocks, hA, hAA, hG⟩ := id hC
  have hK := hG.1
  intro t tL x1 res h H locs ls hP hD hS hl
  rw [Mo_reduceTo] at h
  exact k_Mo_reduceTo_0 hC F _ _ _ _ h _ _ _ hP hD hS (lv_sub hl [0, 1] rfl)
theorem c_Mo_reduceTo (l : Launch) (g : Gz) (F : Nat) (a_t : Nat → Nat) (t : StI) (tL : StL) (x1 : Int32) (res : StI × StL) (h : Mo_reduceTo F t tL x1 = some res) : ∀ sz : Nat, Met l y_Mo_reduceTo (.code y_Mo_reduceTo prog_10_method_40_code 2 none :: TBL) rm_Mo_reduceTo (va_Pc [.ref (a_t 0), .int x1] (Pre0 g ((pic_Mo g a_t t tL)) sz)) (EV g ((pic_Mo g a_t res.1 res.2)) (va_A ((pic_Mo g a_t t tL)) sz)) 0 0 (va_A ((pic_Mo g a_t t tL)) sz) :=
  ct_w (Qc := fun A => EV g ((pic_Mo g a_t res.1 res.2)) A) (by decide) (Nat.le_of_ble_eq_true rfl) (fun p e s m args below meth c A hC => k_Mo_reduceTo hC t tL x1 res h)
def Mo_between (F : Nat) (t : StI) (tL : StL) (x1 : Int32) : Option (StI × StL) := (Mo_reduceTo F t tL x1).bind fun r3 => (Mo_hold F r3.1 r3.2 x1).bind fun r4 => some (r4.1, r4.2)
set_option maxHeartbeats 4000000 in
set_option maxRecDepth 100000 in
theorem k_Mo_between {p : Program} {l : Launch} {e : Env} {s : State} {m : MethodId} {args : Array Value} {below : List Frame} {meth : Method} {c : Code} {g : Gz} {A : Nat → Prop} {F : Nat} {a_t : Nat → Nat} (hC : Cx prog_10_method_41_code 2 none R_Mo p s m args meth c g A A) : ∀ (t : StI) (tL : StL) (x1 : Int32) (res : StI × StL), Mo_between F t tL x1 = some res → Go p l e rm_Mo_between s m args below meth c g A A 2 (MQ below (EV g ((pic_Mo g a_t res.1 res.2)) A) args s 0 0 A) ((pic_Mo g a_t t tL)) [(0, .ref (a_t 0)), (1, .int x1)] 0 [] := by
  obtain ⟨hx, hb, hr, hml, hown, htb, hlocks, hA, hAA, hG⟩ := id hC
  have hK := hG.1
  intro t tL x1 res h H locs ls hP hD hS hl
  rw [Mo_between] at h
  refine lv_aload_n hx hb d_Mo_between_0 rfl (lv_at hl 0 rfl) ?_
  refine lv_iload_n hx hb d_Mo_between_1 rfl (lv_at hl 1 rfl) ?_
  obtain ⟨r3, hr3, h⟩ := Option.bind_eq_some_iff.mp h
  refine cl_V (wr := []) [0, 1, 2, 3, 4, 5, 6, 7, 8, 9, 10, 11, 12, 13, 14, 15, 16, 17, 18, 19, 20, 21, 22, 23, 24, 25, 26, 27, 28, 29, 30, 31, 32] [] rfl rfl rfl (by decide) hP hD hS hA (va_runV (As := [.int x1]) (rest := []) ⟨hx, hb, hml, hown, htb⟩ (c_Mo_reduceTo l g F a_t t tL x1 _ hr3 H.size) (cw_V htb mb_Mo_reduceTo (htb _ L_Mo_343) rfl rfl ⟨Nat.le_of_ble_eq_true rfl, Nat.le_of_ble_eq_true rfl⟩) (pre_V (va_recv hK hP (ci := 8) (q0 := 0) rfl rfl) (pre_S [0, 1, 2, 3, 4, 5, 6, 7, 8, 9, 10, 11, 12, 13, 14, 15, 16, 17, 18, 19, 20, 21, 22, 23, 24, 25, 26, 27, 28, 29, 30, 31, 32] rfl rfl hP hD hS hA hAA hG)) rfl rfl hl.1 rfl (lv_room (Nat.le_of_ble_eq_true rfl)) d_Mo_between_2 ⟨Nat.zero_le _, Nat.zero_le _⟩) (fun H locs hP hD hS => ?_)
  have hP : va_P (gD g) vwCl ((pic_Mo g a_t r3.1 r3.2)) H := hP.sub [0, 1, 2, 3, 4, 5, 6, 7, 8, 9, 10, 11, 12, 13, 14, 15, 16, 17, 18, 19, 20, 21, 22, 23, 24, 25, 26, 27, 28, 29, 30, 31, 32] rfl
  have hD : va_D A ((pic_Mo g a_t r3.1 r3.2)) := hD.sub [0, 1, 2, 3, 4, 5, 6, 7, 8, 9, 10, 11, 12, 13, 14, 15, 16, 17, 18, 19, 20, 21, 22, 23, 24, 25, 26, 27, 28, 29, 30, 31, 32] rfl rfl
  refine lv_aload_n hx hb d_Mo_between_5 rfl (lv_at hl 0 rfl) ?_
  refine lv_iload_n hx hb d_Mo_between_6 rfl (lv_at hl 1 rfl) ?_
  obtain ⟨r4, hr4, h⟩ := Option.bind_eq_some_iff.mp h
  refine cl_V (wr := []) [0, 1, 2, 3, 4, 5, 6, 7, 8, 9, 10, 11, 12, 13, 14, 15, 16, 17, 18, 19, 20, 21, 22, 23, 24, 25, 26, 27, 28, 29, 30, 31, 32] [] rfl rfl rfl (by decide) hP hD hS hA (va_runV (As := [.int x1]) (rest := []) ⟨hx, hb, hml, hown, htb⟩ (c_Mo_hold l g F a_t r3.1 r3.2 x1 _ hr4 H.size) (cw_V htb mb_Mo_hold (htb _ L_Mo_346) rfl rfl ⟨Nat.le_of_ble_eq_true rfl, Nat.le_of_ble_eq_true rfl⟩) (pre_V (va_recv hK hP (ci := 8) (q0 := 0) rfl rfl) (pre_S [0, 1, 2, 3, 4, 5, 6, 7, 8, 9, 10, 11, 12, 13, 14, 15, 16, 17, 18, 19, 20, 21, 22, 23, 24, 25, 26, 27, 28, 29, 30, 31, 32] rfl rfl hP hD hS hA hAA hG)) rfl rfl hl.1 rfl (lv_room (Nat.le_of_ble_eq_true rfl)) d_Mo_between_7 ⟨Nat.zero_le _, Nat.zero_le _⟩) (fun H locs hP hD hS => ?_)
  have hP : va_P (gD g) vwCl ((pic_Mo g a_t r4.1 r4.2)) H := hP.sub [0, 1, 2, 3, 4, 5, 6, 7, 8, 9, 10, 11, 12, 13, 14, 15, 16, 17, 18, 19, 20, 21, 22, 23, 24, 25, 26, 27, 28, 29, 30, 31, 32] rfl
  have hD : va_D A ((pic_Mo g a_t r4.1 r4.2)) := hD.sub [0, 1, 2, 3, 4, 5, 6, 7, 8, 9, 10, 11, 12, 13, 14, 15, 16, 17, 18, 19, 20, 21, 22, 23, 24, 25, 26, 27, 28, 29, 30, 31, 32] rfl rfl
  cases h
  exact W.vret hx hb hr (fun t ht hW => ⟨⟨(), rfl, trivial, by rw [ht]; exact hP, hD⟩, hS.F ht⟩) hS.2.2 d_Mo_between_10
theorem c_Mo_between (l : Launch) (g : Gz) (F : Nat) (a_t : Nat → Nat) (t : StI) (tL : StL) (x1 : Int32) (res : StI × StL) (h : Mo_between F t tL x1 = some res) : ∀ sz : Nat, Met l y_Mo_between (.code y_Mo_between prog_10_method_41_code 2 none :: TBL) rm_Mo_between (va_Pc [.ref (a_t 0), .int x1] (Pre0 g ((pic_Mo g a_t t tL)) sz)) (EV g ((pic_Mo g a_t res.1 res.2)) (va_A ((pic_Mo g a_t t tL)) sz)) 0 0 (va_A ((pic_Mo g a_t t tL)) sz) :=
  ct_w (Qc := fun A => EV g ((pic_Mo g a_t res.1 res.2)) A) (by decide) (Nat.le_of_ble_eq_true rfl) (fun p e s m args below meth c A hC => k_Mo_between hC t tL x1 res h)
def Mo_operand_41 (F : Nat) (t : StI) (tL : StL) : Option (Int32 × StI × StL) := letS (va_up t 37 (fun _ => ((t 37 0) + (1 : Int32)))) fun t_11 => (Mo_hold F t_11 tL (5 : Int32)).bind fun r12 => some ((0 : Int32), r12.1, r12.2)
def Mo_operand (F : Nat) (t : StI) (tL : StL) : Option (Int32 × StI × StL) := if (t 14 0) = (4 : Int32) then (Mo_hold F t tL (4 : Int32)).bind fun r20 => some ((0 : Int32), r20.1, r20.2) else if (t 14 0) = (5 : Int32) then if (t 37 0) = (20 : Int32) then (Mo_fail F t tL (5 : Int32) (t 15 0)).bind fun r19 => Mo_operand_41 F r19.1 r19.2 else Mo_operand_41 F t tL else if (t 14 0) = (7 : Int32) then (Mo_readAtom F t tL).bind fun r17 => some ((1 : Int32), r17.1, r17.2) else (Mo_fail F t tL (1 : Int32) (t 15 0)).bind fun r16 => some ((0 : Int32), r16.1, r16.2)
set_option maxHeartbeats 4000000 in
set_option maxRecDepth 100000 in
theorem k_Mo_operand_41 {p : Program} {l : Launch} {e : Env} {s : State} {m : MethodId} {args : Array Value} {below : List Frame} {meth : Method} {c : Code} {g : Gz} {A : Nat → Prop} {F : Nat} {a_t : Nat → Nat} (hC : Cx prog_10_method_42_code 1 (some .boolean) R_Mo p s m args meth c g A A) : ∀ (t : StI) (tL : StL) (res : Int32 × StI × StL), Mo_operand_41 F t tL = some res → Go p l e rm_Mo_operand s m args below meth c g A A 1 (MQ below (EI g ((pic_Mo g a_t res.2.1 res.2.2)) res.1 A) args s 0 0 A) ((pic_Mo g a_t t tL)) [(0, .ref (a_t 0))] 41 [] := by
  obtain ⟨hx, hb, hr, hml, hown, htb, hlocks, hA, hAA, hG⟩ := id hC
  have hK := hG.1
  intro t tL res h H locs ls hP hD hS hl
  rw [Mo_operand_41] at h
  refine lv_aload_n hx hb d_Mo_operand_41 rfl (lv_at hl 0 rfl) ?_
  refine lv_dup hx hb d_Mo_operand_42 rfl ?_
  refine va_get (D := gD g) (ci := 8) (v := .int (t 37 0)) (C := R_Mo) (T := T_Mo) (N := 64) hx hb htb in_Mo hown hK hP 0 rfl rfl 37 (by decide) (htb _ L_Mo_349) (fun _ h9 => h9) rfl d_Mo_operand_43 ?_
  refine lv_iconst (v := 1) hx hb d_Mo_operand_46 (by decide) ?_
  refine lv_iadd hx hb d_Mo_operand_47 ?_
  refine va_put (D := gD g) (ci := 8) (v := .int ((t 37 0) + (1 : Int32))) (ty := .int) (C := R_Mo) (T := T_Mo) (N := 64) hx hb htb in_Mo ty_Mo ty_Mo_ok nm_Mo hown hK hP hD hS 0 rfl rfl 37 (by decide) (htb _ L_Mo_349) (fun _ h9 => h9) rfl (by decide +kernel) rfl rfl (Nat.le_of_ble_eq_true rfl) d_Mo_operand_48 (fun H locs hP hD hS => ?_)
  obtain ⟨t_11, et_11, h⟩ := letS_el h
  have hP : va_P (gD g) vwCl ((pic_Mo g a_t t_11 tL)) H := by rw [et_11]; exact hP
  have hD : va_D A ((pic_Mo g a_t t_11 tL)) := by rw [et_11]; exact hD
  refine lv_aload_n hx hb d_Mo_operand_51 rfl (lv_at hl 0 rfl) ?_
  refine lv_iconst (v := 5) hx hb d_Mo_operand_52 (by decide) ?_
  obtain ⟨r12, hr12, h⟩ := Option.bind_eq_some_iff.mp h
  refine cl_V (wr := []) [0, 1, 2, 3, 4, 5, 6, 7, 8, 9, 10, 11, 12, 13, 14, 15, 16, 17, 18, 19, 20, 21, 22, 23, 24, 25, 26, 27, 28, 29, 30, 31, 32] [] rfl rfl rfl (by decide) hP hD hS hA (va_runV (As := [.int (5 : Int32)]) (rest := []) ⟨hx, hb, hml, hown, htb⟩ (c_Mo_hold l g F a_t t_11 tL (5 : Int32) _ hr12 H.size) (cw_V htb mb_Mo_hold (htb _ L_Mo_346) rfl rfl ⟨Nat.le_of_ble_eq_true rfl, Nat.le_of_ble_eq_true rfl⟩) (pre_V (va_recv hK hP (ci := 8) (q0 := 0) rfl rfl) (pre_S [0, 1, 2, 3, 4, 5, 6, 7, 8, 9, 10, 11, 12, 13, 14, 15, 16, 17, 18, 19, 20, 21, 22, 23, 24, 25, 26, 27, 28, 29, 30, 31, 32] rfl rfl hP hD hS hA hAA hG)) rfl rfl hl.1 rfl (lv_room (Nat.le_of_ble_eq_true rfl)) d_Mo_operand_53 ⟨Nat.zero_le _, Nat.zero_le _⟩) (fun H locs hP hD hS => ?_)
  have hP : va_P (gD g) vwCl ((pic_Mo g a_t r12.1 r12.2)) H := hP.sub [0, 1, 2, 3, 4, 5, 6, 7, 8, 9, 10, 11, 12, 13, 14, 15, 16, 17, 18, 19, 20, 21, 22, 23, 24, 25, 26, 27, 28, 29, 30, 31, 32] rfl
  have hD : va_D A ((pic_Mo g a_t r12.1 r12.2)) := hD.sub [0, 1, 2, 3, 4, 5, 6, 7, 8, 9, 10, 11, 12, 13, 14, 15, 16, 17, 18, 19, 20, 21, 22, 23, 24, 25, 26, 27, 28, 29, 30, 31, 32] rfl rfl
  refine lv_iconst (v := 0) hx hb d_Mo_operand_56 (by decide) ?_
  cases h
  exact W.zret hx hb hr rfl (fun t ht hW => ⟨⟨_, (), rfl, rfl, by rw [ht]; exact hP, hD⟩, hS.F ht⟩) hS.2.2 d_Mo_operand_57
set_option maxHeartbeats 4000000 in
set_option maxRecDepth 100000 in
theorem k_Mo_operand {p : Program} {l : Launch} {e : Env} {s : State} {m : MethodId} {args : Array Value} {below : List Frame} {meth : Method} {c : Code} {g : Gz} {A : Nat → Prop} {F : Nat} {a_t : Nat → Nat} (hC : Cx prog_10_method_42_code 1 (some .boolean) R_Mo p s m args meth c g A A) : ∀ (t : StI) (tL : StL) (res : Int32 × StI × StL), Mo_operand F t tL = some res → Go p l e rm_Mo_operand s m args below meth c g A A 1 (MQ below (EI g ((pic_Mo g a_t res.2.1 res.2.2)) res.1 A) args s 0 0 A) ((pic_Mo g a_t t tL)) [(0, .ref (a_t 0))] 0 [] := by
  obtain ⟨hx, hb, hr, hml, hown, htb, hlocks, hA, hAA, hG⟩ := id hC
  have hK := hG.1
  intro t tL res h H locs ls hP hD hS hl
  rw [Mo_operand] at h
  refine lv_aload_n hx hb d_Mo_operand_0 rfl (lv_at hl 0 rfl) ?_
  refine va_get (D := gD g) (ci := 8) (v := .int (t 14 0)) (C := R_Mo) (T := T_Mo) (N := 64) hx hb htb in_Mo hown hK hP 0 rfl rfl 14 (by decide) (htb _ L_Mo_211) (fun _ h9 => h9) rfl d_Mo_operand_1 ?_
  refine lv_iconst (v := 4) hx hb d_Mo_operand_4 (by decide) ?_
  refine lv_icmp_ne (tgt := 15) hx hb d_Mo_operand_5 (by decide) (fun c13 => ?_) (fun c13 => ?_)
  · replace h := (if_neg c13).symm.trans h
    refine lv_aload_n hx hb d_Mo_operand_15 rfl (lv_at hl 0 rfl) ?_
    refine va_get (D := gD g) (ci := 8) (v := .int (t 14 0)) (C := R_Mo) (T := T_Mo) (N := 64) hx hb htb in_Mo hown hK hP 0 rfl rfl 14 (by decide) (htb _ L_Mo_211) (fun _ h9 => h9) rfl d_Mo_operand_16 ?_
    refine lv_iconst (v := 5) hx hb d_Mo_operand_19 (by decide) ?_
    refine lv_icmp_ne (tgt := 58) hx hb d_Mo_operand_20 (by decide) (fun c14 => ?_) (fun c14 => ?_)
    · replace h := (if_neg c14).symm.trans h
      refine lv_aload_n hx hb d_Mo_operand_58 rfl (lv_at hl 0 rfl) ?_
      refine va_get (D := gD g) (ci := 8) (v := .int (t 14 0)) (C := R_Mo) (T := T_Mo) (N := 64) hx hb htb in_Mo hown hK hP 0 rfl rfl 14 (by decide) (htb _ L_Mo_211) (fun _ h9 => h9) rfl d_Mo_operand_59 ?_
      refine lv_bipush (v := 7) hx hb d_Mo_operand_62 (by decide) ?_
      refine lv_icmp_ne (tgt := 73) hx hb d_Mo_operand_64 (by decide) (fun c15 => ?_) (fun c15 => ?_)
      · replace h := (if_neg c15).symm.trans h
        refine lv_aload_n hx hb d_Mo_operand_73 rfl (lv_at hl 0 rfl) ?_
        refine lv_iconst (v := 1) hx hb d_Mo_operand_74 (by decide) ?_
        refine lv_aload_n hx hb d_Mo_operand_75 rfl (lv_at hl 0 rfl) ?_
        refine va_get (D := gD g) (ci := 8) (v := .int (t 15 0)) (C := R_Mo) (T := T_Mo) (N := 64) hx hb htb in_Mo hown hK hP 0 rfl rfl 15 (by decide) (htb _ L_Mo_208) (fun _ h9 => h9) rfl d_Mo_operand_76 ?_
        obtain ⟨r16, hr16, h⟩ := Option.bind_eq_some_iff.mp h
        refine cl_V (wr := []) [0, 1, 2, 3, 4, 5, 6, 7, 8, 9, 10, 11, 12, 13, 14, 15, 16, 17, 18, 19, 20, 21, 22, 23, 24, 25, 26, 27, 28, 29, 30, 31, 32] [] rfl rfl rfl (by decide) hP hD hS hA (va_runV (As := [.int (1 : Int32), .int (t 15 0)]) (rest := []) ⟨hx, hb, hml, hown, htb⟩ (c_Mo_fail l g F a_t t tL (1 : Int32) (t 15 0) _ hr16 H.size) (cw_V htb mb_Mo_fail (htb _ L_Mo_217) rfl rfl ⟨Nat.le_of_ble_eq_true rfl, Nat.le_of_ble_eq_true rfl⟩) (pre_V (va_recv hK hP (ci := 8) (q0 := 0) rfl rfl) (pre_S [0, 1, 2, 3, 4, 5, 6, 7, 8, 9, 10, 11, 12, 13, 14, 15, 16, 17, 18, 19, 20, 21, 22, 23, 24, 25, 26, 27, 28, 29, 30, 31, 32] rfl rfl hP hD hS hA hAA hG)) rfl rfl hl.1 rfl (lv_room (Nat.le_of_ble_eq_true rfl)) d_Mo_operand_79 ⟨Nat.zero_le _, Nat.zero_le _⟩) (fun H locs hP hD hS => ?_)
        have hP : va_P (gD g) vwCl ((pic_Mo g a_t r16.1 r16.2)) H := hP.sub [0, 1, 2, 3, 4, 5, 6, 7, 8, 9, 10, 11, 12, 13, 14, 15, 16, 17, 18, 19, 20, 21, 22, 23, 24, 25, 26, 27, 28, 29, 30, 31, 32] rfl
        have hD : va_D A ((pic_Mo g a_t r16.1 r16.2)) := hD.sub [0, 1, 2, 3, 4, 5, 6, 7, 8, 9, 10, 11, 12, 13, 14, 15, 16, 17, 18, 19, 20, 21, 22, 23, 24, 25, 26, 27, 28, 29, 30, 31, 32] rfl rfl
        refine lv_iconst (v := 0) hx hb d_Mo_operand_82 (by decide) ?_
        cases h
        exact W.zret hx hb hr rfl (fun t ht hW => ⟨⟨_, (), rfl, rfl, by rw [ht]; exact hP, hD⟩, hS.F ht⟩) hS.2.2 d_Mo_operand_83
      · replace h := (if_pos c15).symm.trans h
        refine lv_aload_n hx hb d_Mo_operand_67 rfl (lv_at hl 0 rfl) ?_
        obtain ⟨r17, hr17, h⟩ := Option.bind_eq_some_iff.mp h
        refine cl_V (wr := []) [0, 1, 2, 3, 4, 5, 6, 7, 8, 9, 10, 11, 12, 13, 14, 15, 16, 17, 18, 19, 20, 21, 22, 23, 24, 25, 26, 27, 28, 29, 30, 31, 32] [] rfl rfl rfl (by decide) hP hD hS hA (va_runV (As := []) (rest := []) ⟨hx, hb, hml, hown, htb⟩ (c_Mo_readAtom l g F a_t t tL _ hr17 H.size) (cw_V htb mb_Mo_readAtom (htb _ L_Mo_352) rfl rfl ⟨Nat.le_of_ble_eq_true rfl, Nat.le_of_ble_eq_true rfl⟩) (pre_V (va_recv hK hP (ci := 8) (q0 := 0) rfl rfl) (pre_S [0, 1, 2, 3, 4, 5, 6, 7, 8, 9, 10, 11, 12, 13, 14, 15, 16, 17, 18, 19, 20, 21, 22, 23, 24, 25, 26, 27, 28, 29, 30, 31, 32] rfl rfl hP hD hS hA hAA hG)) rfl rfl hl.1 rfl (lv_room (Nat.le_of_ble_eq_true rfl)) d_Mo_operand_68 ⟨Nat.zero_le _, Nat.zero_le _⟩) (fun H locs hP hD hS => ?_)
        have hP : va_P (gD g) vwCl ((pic_Mo g a_t r17.1 r17.2)) H := hP.sub [0, 1, 2, 3, 4, 5, 6, 7, 8, 9, 10, 11, 12, 13, 14, 15, 16, 17, 18, 19, 20, 21, 22, 23, 24, 25, 26, 27, 28, 29, 30, 31, 32] rfl
        have hD : va_D A ((pic_Mo g a_t r17.1 r17.2)) := hD.sub [0, 1, 2, 3, 4, 5, 6, 7, 8, 9, 10, 11, 12, 13, 14, 15, 16, 17, 18, 19, 20, 21, 22, 23, 24, 25, 26, 27, 28, 29, 30, 31, 32] rfl rfl
        refine lv_iconst (v := 1) hx hb d_Mo_operand_71 (by decide) ?_
        cases h
        exact W.zret hx hb hr rfl (fun t ht hW => ⟨⟨_, (), rfl, rfl, by rw [ht]; exact hP, hD⟩, hS.F ht⟩) hS.2.2 d_Mo_operand_72
    · replace h := (if_pos c14).symm.trans h
      refine lv_aload_n hx hb d_Mo_operand_23 rfl (lv_at hl 0 rfl) ?_
      refine va_get (D := gD g) (ci := 8) (v := .int (t 37 0)) (C := R_Mo) (T := T_Mo) (N := 64) hx hb htb in_Mo hown hK hP 0 rfl rfl 37 (by decide) (htb _ L_Mo_349) (fun _ h9 => h9) rfl d_Mo_operand_24 ?_
      refine lv_bipush (v := 20) hx hb d_Mo_operand_27 (by decide) ?_
      refine lv_icmp_ne (tgt := 41) hx hb d_Mo_operand_29 (by decide) (fun c18 => ?_) (fun c18 => ?_)
      · replace h := (if_neg c18).symm.trans h
        exact k_Mo_operand_41 hC _ _ _ h _ _ _ hP hD hS (lv_sub hl [0] rfl)
      · replace h := (if_pos c18).symm.trans h
        refine lv_aload_n hx hb d_Mo_operand_32 rfl (lv_at hl 0 rfl) ?_
        refine lv_iconst (v := 5) hx hb d_Mo_operand_33 (by decide) ?_
        refine lv_aload_n hx hb d_Mo_operand_34 rfl (lv_at hl 0 rfl) ?_
        refine va_get (D := gD g) (ci := 8) (v := .int (t 15 0)) (C := R_Mo) (T := T_Mo) (N := 64) hx hb htb in_Mo hown hK hP 0 rfl rfl 15 (by decide) (htb _ L_Mo_208) (fun _ h9 => h9) rfl d_Mo_operand_35 ?_
        obtain ⟨r19, hr19, h⟩ := Option.bind_eq_some_iff.mp h
        refine cl_V (wr := []) [0, 1, 2, 3, 4, 5, 6, 7, 8, 9, 10, 11, 12, 13, 14, 15, 16, 17, 18, 19, 20, 21, 22, 23, 24, 25, 26, 27, 28, 29, 30, 31, 32] [] rfl rfl rfl (by decide) hP hD hS hA (va_runV (As := [.int (5 : Int32), .int (t 15 0)]) (rest := []) ⟨hx, hb, hml, hown, htb⟩ (c_Mo_fail l g F a_t t tL (5 : Int32) (t 15 0) _ hr19 H.size) (cw_V htb mb_Mo_fail (htb _ L_Mo_217) rfl rfl ⟨Nat.le_of_ble_eq_true rfl, Nat.le_of_ble_eq_true rfl⟩) (pre_V (va_recv hK hP (ci := 8) (q0 := 0) rfl rfl) (pre_S [0, 1, 2, 3, 4, 5, 6, 7, 8, 9, 10, 11, 12, 13, 14, 15, 16, 17, 18, 19, 20, 21, 22, 23, 24, 25, 26, 27, 28, 29, 30, 31, 32] rfl rfl hP hD hS hA hAA hG)) rfl rfl hl.1 rfl (lv_room (Nat.le_of_ble_eq_true rfl)) d_Mo_operand_38 ⟨Nat.zero_le _, Nat.zero_le _⟩) (fun H locs hP hD hS => ?_)
        have hP : va_P (gD g) vwCl ((pic_Mo g a_t r19.1 r19.2)) H := hP.sub [0, 1, 2, 3, 4, 5, 6, 7, 8, 9, 10, 11, 12, 13, 14, 15, 16, 17, 18, 19, 20, 21, 22, 23, 24, 25, 26, 27, 28, 29, 30, 31, 32] rfl
        have hD : va_D A ((pic_Mo g a_t r19.1 r19.2)) := hD.sub [0, 1, 2, 3, 4, 5, 6, 7, 8, 9, 10, 11, 12, 13, 14, 15, 16, 17, 18, 19, 20, 21, 22, 23, 24, 25, 26, 27, 28, 29, 30, 31, 32] rfl rfl
        exact k_Mo_operand_41 hC _ _ _ h _ _ _ hP hD hS (lv_sub hl [0] rfl)
  · replace h := (if_pos c13).symm.trans h
    refine lv_aload_n hx hb d_Mo_operand_8 rfl (lv_at hl 0 rfl) ?_
    refine lv_iconst (v := 4) hx hb d_Mo_operand_9 (by decide) ?_
    obtain ⟨r20, hr20, h⟩ := Option.bind_eq_some_iff.mp h
    refine cl_V (wr := []) [0, 1, 2, 3, 4, 5, 6, 7, 8, 9, 10, 11, 12, 13, 14, 15, 16, 17, 18, 19, 20, 21, 22, 23, 24, 25, 26, 27, 28, 29, 30, 31, 32] [] rfl rfl rfl (by decide) hP hD hS hA (va_runV (As := [.int (4 : Int32)]) (rest := []) ⟨hx, hb, hml, hown, htb⟩ (c_Mo_hold l g F a_t t tL (4 : Int32) _ hr20 H.size) (cw_V htb mb_Mo_hold (htb _ L_Mo_346) rfl rfl ⟨Nat.le_of_ble_eq_true rfl, Nat.le_of_ble_eq_true rfl⟩) (pre_V (va_recv hK hP (ci := 8) (q0 := 0) rfl rfl) (pre_S [0, 1, 2, 3, 4, 5, 6, 7, 8, 9, 10, 11, 12, 13, 14, 15, 16, 17, 18, 19, 20, 21, 22, 23, 24, 25, 26, 27, 28, 29, 30, 31, 32] rfl rfl hP hD hS hA hAA hG)) rfl rfl hl.1 rfl (lv_room (Nat.le_of_ble_eq_true rfl)) d_Mo_operand_10 ⟨Nat.zero_le _, Nat.zero_le _⟩) (fun H locs hP hD hS => ?_)
    have hP : va_P (gD g) vwCl ((pic_Mo g a_t r20.1 r20.2)) H := hP.sub [0, 1, 2, 3, 4, 5, 6, 7, 8, 9, 10, 11, 12, 13, 14, 15, 16, 17, 18, 19, 20, 21, 22, 23, 24, 25, 26, 27, 28, 29, 30, 31, 32] rfl
    have hD : va_D A ((pic_Mo g a_t r20.1 r20.2)) := hD.sub [0, 1, 2, 3, 4, 5, 6, 7, 8, 9, 10, 11, 12, 13, 14, 15, 16, 17, 18, 19, 20, 21, 22, 23, 24, 25, 26, 27, 28, 29, 30, 31, 32] rfl rfl
    refine lv_iconst (v := 0) hx hb d_Mo_operand_13 (by decide) ?_
    cases h
    exact W.zret hx hb hr rfl (fun t ht hW => ⟨⟨_, (), rfl, rfl, by rw [ht]; exact hP, hD⟩, hS.F ht⟩) hS.2.2 d_Mo_operand_14
theorem c_Mo_operand (l : Launch) (g : Gz) (F : Nat) (a_t : Nat → Nat) (t : StI) (tL : StL) (res : Int32 × StI × StL) (h : Mo_operand F t tL = some res) : ∀ sz : Nat, Met l y_Mo_operand (.code y_Mo_operand prog_10_method_42_code 1 (some .boolean) :: TBL) rm_Mo_operand (va_Pc [.ref (a_t 0)] (Pre0 g ((pic_Mo g a_t t tL)) sz)) (EI g ((pic_Mo g a_t res.2.1 res.2.2)) res.1 (va_A ((pic_Mo g a_t t tL)) sz)) 0 0 (va_A ((pic_Mo g a_t t tL)) sz) :=
  ct_w (Qc := fun A => EI g ((pic_Mo g a_t res.2.1 res.2.2)) res.1 A) (by decide) (Nat.le_of_ble_eq_true rfl) (fun p e s m args below meth c A hC => k_Mo_operand hC t tL res h)
