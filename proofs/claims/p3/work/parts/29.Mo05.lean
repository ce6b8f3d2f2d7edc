theorem L_Mo_355 : (Jvm.Cond.methodLink "MailQueriesModel" (355 : Nat) ({ cls := "MailQueriesModel", name := "between", desc := "(I)V" } : Jvm.MethodName)) ∈ TBL := TBL_in (List.mem_of_getElem? (i := 1237) (by decide +kernel)) (by decide +kernel)
theorem L_Mo_358 : (Jvm.Cond.methodLink "MailQueriesModel" (358 : Nat) ({ cls := "MailQueriesModel", name := "operand", desc := "()Z" } : Jvm.MethodName)) ∈ TBL := TBL_in (List.mem_of_getElem? (i := 1257) (by decide +kernel)) (by decide +kernel)
set_option maxRecDepth 100000 in
theorem W_Mo_behind_code : (Jvm.Cond.code ({ cls := "MailQueriesModel", name := "behind", desc := "()Z" } : Jvm.MethodName) prog_10_method_43_code (1 : Nat) (Option.some Jvm.ClassFile.FieldType.boolean)) ∈ TBL := TBL_in (List.mem_of_getElem? (i := 1236) rfl) rfl
theorem W_Mo_behind_in : (Jvm.Cond.instanceMethod ({ cls := "MailQueriesModel", name := "behind", desc := "()Z" } : Jvm.MethodName)) ∈ TBL := TBL_in (List.mem_of_getElem? (i := 1235) (by decide +kernel)) (by decide +kernel)
theorem sel_60 : Cond.selects "MailQueriesModel" ⟨"MailQueriesModel", "behind", "()Z"⟩ ⟨"MailQueriesModel", "behind", "()Z"⟩ ∈ TBL := TBL_in (List.mem_of_getElem? (i := 60) (by decide +kernel)) (by decide +kernel)
theorem L_Mo_141 : (Jvm.Cond.fieldLink "MailQueriesModel" (141 : Nat) "MailQueriesModel" "root" "I") ∈ TBL := TBL_in (List.mem_of_getElem? (i := 998) (by decide +kernel)) (by decide +kernel)
theorem L_Mo_361 : (Jvm.Cond.methodLink "MailQueriesModel" (361 : Nat) ({ cls := "MailQueriesModel", name := "next", desc := "()V" } : Jvm.MethodName)) ∈ TBL := TBL_in (List.mem_of_getElem? (i := 1184) (by decide +kernel)) (by decide +kernel)
theorem L_Mo_364 : (Jvm.Cond.methodLink "MailQueriesModel" (364 : Nat) ({ cls := "MailQueriesModel", name := "behind", desc := "()Z" } : Jvm.MethodName)) ∈ TBL := TBL_in (List.mem_of_getElem? (i := 1233) (by decide +kernel)) (by decide +kernel)
set_option maxRecDepth 100000 in
theorem W_Mo_readAll_code : (Jvm.Cond.code ({ cls := "MailQueriesModel", name := "readAll", desc := "()V" } : Jvm.MethodName) prog_10_method_44_code (2 : Nat) (Option.none : Option Jvm.ClassFile.FieldType)) ∈ TBL := TBL_in (List.mem_of_getElem? (i := 1183) rfl) rfl
theorem W_Mo_readAll_in : (Jvm.Cond.instanceMethod ({ cls := "MailQueriesModel", name := "readAll", desc := "()V" } : Jvm.MethodName)) ∈ TBL := TBL_in (List.mem_of_getElem? (i := 1182) (by decide +kernel)) (by decide +kernel)
theorem sel_50 : Cond.selects "MailQueriesModel" ⟨"MailQueriesModel", "readAll", "()V"⟩ ⟨"MailQueriesModel", "readAll", "()V"⟩ ∈ TBL := TBL_in (List.mem_of_getElem? (i := 50) (by decide +kernel)) (by decide +kernel)
set_option maxRecDepth 100000 in
theorem W_Mo_take_code : (Jvm.Cond.code ({ cls := "MailQueriesModel", name := "take", desc := "([BI)V" } : Jvm.MethodName) prog_10_method_45_code (4 : Nat) (Option.none : Option Jvm.ClassFile.FieldType)) ∈ TBL := TBL_in (List.mem_of_getElem? (i := 1179) rfl) rfl
theorem W_Mo_take_in : (Jvm.Cond.instanceMethod ({ cls := "MailQueriesModel", name := "take", desc := "([BI)V" } : Jvm.MethodName)) ∈ TBL := TBL_in (List.mem_of_getElem? (i := 1178) (by decide +kernel)) (by decide +kernel)
theorem sel_49 : Cond.selects "MailQueriesModel" ⟨"MailQueriesModel", "take", "([BI)V"⟩ ⟨"MailQueriesModel", "take", "([BI)V"⟩ ∈ TBL := TBL_in (List.mem_of_getElem? (i := 49) (by decide +kernel)) (by decide +kernel)
theorem L_Mo_19 : (Jvm.Cond.fieldLink "MailQueriesModel" (19 : Nat) "MailQueriesModel" "query" "[B") ∈ TBL := TBL_in (List.mem_of_getElem? (i := 972) (by decide +kernel)) (by decide +kernel)
theorem L_Mo_377 : (Jvm.Cond.fieldLink "MailQueriesModel" (377 : Nat) "MailQueriesModel" "querySize" "I") ∈ TBL := TBL_in (List.mem_of_getElem? (i := 974) (by decide +kernel)) (by decide +kernel)
theorem L_Mo_367 : (Jvm.Cond.methodLink "MailQueriesModel" (367 : Nat) ({ cls := "MailQueriesModel", name := "take", desc := "([BI)V" } : Jvm.MethodName)) ∈ TBL := TBL_in (List.mem_of_getElem? (i := 1176) (by decide +kernel)) (by decide +kernel)
theorem L_Mo_371 : (Jvm.Cond.methodLink "MailQueriesModel" (371 : Nat) ({ cls := "MailQueriesModel", name := "readAll", desc := "()V" } : Jvm.MethodName)) ∈ TBL := TBL_in (List.mem_of_getElem? (i := 1180) (by decide +kernel)) (by decide +kernel)
theorem L_Mo_374 : (Jvm.Cond.fieldLink "MailQueriesModel" (374 : Nat) "MailQueriesModel" "toldFault" "I") ∈ TBL := TBL_in (List.mem_of_getElem? (i := 978) (by decide +kernel)) (by decide +kernel)
theorem L_Mo_26 : (Jvm.Cond.fieldLink "MailQueriesModel" (26 : Nat) "MailQueriesModel" "toldPlace" "I") ∈ TBL := TBL_in (List.mem_of_getElem? (i := 979) (by decide +kernel)) (by decide +kernel)
set_option maxRecDepth 100000 in
theorem W_Mo_read_code : (Jvm.Cond.code ({ cls := "MailQueriesModel", name := "read", desc := "()I" } : Jvm.MethodName) prog_10_method_46_code (2 : Nat) (Option.some Jvm.ClassFile.FieldType.int)) ∈ TBL := TBL_in (List.mem_of_getElem? (i := 1175) rfl) rfl
theorem W_Mo_read_in : (Jvm.Cond.instanceMethod ({ cls := "MailQueriesModel", name := "read", desc := "()I" } : Jvm.MethodName)) ∈ TBL := TBL_in (List.mem_of_getElem? (i := 1173) (by decide +kernel)) (by decide +kernel)
theorem W_Mo_read_se : (Jvm.Cond.selects "MailQueriesModel" ({ cls := "MailQueriesModel", name := "read", desc := "()I" } : Jvm.MethodName) ({ cls := "MailQueriesModel", name := "read", desc := "()I" } : Jvm.MethodName)) ∈ TBL := TBL_in (List.mem_of_getElem? (i := 1174) (by decide +kernel)) (by decide +kernel)
set_option maxRecDepth 100000 in
theorem W_Mo_fault_code : (Jvm.Cond.code ({ cls := "MailQueriesModel", name := "fault", desc := "(I)I" } : Jvm.MethodName) prog_10_method_47_code (2 : Nat) (Option.some Jvm.ClassFile.FieldType.int)) ∈ TBL := TBL_in (List.mem_of_getElem? (i := 1349) rfl) rfl
theorem W_Mo_fault_in : (Jvm.Cond.instanceMethod ({ cls := "MailQueriesModel", name := "fault", desc := "(I)I" } : Jvm.MethodName)) ∈ TBL := TBL_in (List.mem_of_getElem? (i := 1347) (by decide +kernel)) (by decide +kernel)
theorem W_Mo_fault_se : (Jvm.Cond.selects "MailQueriesModel" ({ cls := "MailQueriesModel", name := "fault", desc := "(I)I" } : Jvm.MethodName) ({ cls := "MailQueriesModel", name := "fault", desc := "(I)I" } : Jvm.MethodName)) ∈ TBL := TBL_in (List.mem_of_getElem? (i := 1348) (by decide +kernel)) (by decide +kernel)
set_option maxRecDepth 100000 in
theorem W_Mo_atom_code : (Jvm.Cond.code ({ cls := "MailQueriesModel", name := "atom", desc := "(II)I" } : Jvm.MethodName) prog_10_method_48_code (3 : Nat) (Option.some Jvm.ClassFile.FieldType.int)) ∈ TBL := TBL_in (List.mem_of_getElem? (i := 1353) rfl) rfl
theorem W_Mo_atom_in : (Jvm.Cond.instanceMethod ({ cls := "MailQueriesModel", name := "atom", desc := "(II)I" } : Jvm.MethodName)) ∈ TBL := TBL_in (List.mem_of_getElem? (i := 1351) (by decide +kernel)) (by decide +kernel)
theorem W_Mo_atom_se : (Jvm.Cond.selects "MailQueriesModel" ({ cls := "MailQueriesModel", name := "atom", desc := "(II)I" } : Jvm.MethodName) ({ cls := "MailQueriesModel", name := "atom", desc := "(II)I" } : Jvm.MethodName)) ∈ TBL := TBL_in (List.mem_of_getElem? (i := 1352) (by decide +kernel)) (by decide +kernel)
set_option maxRecDepth 100000 in
theorem W_Mo_atomByte_code : (Jvm.Cond.code ({ cls := "MailQueriesModel", name := "atomByte", desc := "(II)I" } : Jvm.MethodName) prog_10_method_49_code (3 : Nat) (Option.some Jvm.ClassFile.FieldType.int)) ∈ TBL := TBL_in (List.mem_of_getElem? (i := 1357) rfl) rfl
theorem W_Mo_atomByte_in : (Jvm.Cond.instanceMethod ({ cls := "MailQueriesModel", name := "atomByte", desc := "(II)I" } : Jvm.MethodName)) ∈ TBL := TBL_in (List.mem_of_getElem? (i := 1355) (by decide +kernel)) (by decide +kernel)
theorem W_Mo_atomByte_se : (Jvm.Cond.selects "MailQueriesModel" ({ cls := "MailQueriesModel", name := "atomByte", desc := "(II)I" } : Jvm.MethodName) ({ cls := "MailQueriesModel", name := "atomByte", desc := "(II)I" } : Jvm.MethodName)) ∈ TBL := TBL_in (List.mem_of_getElem? (i := 1356) (by decide +kernel)) (by decide +kernel)
def y_Mo_behind : MethodName := ⟨"MailQueriesModel", "behind", "()Z"⟩
def rm_Mo_behind : Room := { frames := 8, cells := 0, slots := 0, locals := 183 }
theorem d_Mo_behind_0 : decode prog_10_method_43_code 0 = .ok (.aload_n 0, 1) := by decide +kernel
theorem d_Mo_behind_1 : decode prog_10_method_43_code 1 = .ok (.getfield 211, 3) := by decide +kernel
theorem d_Mo_behind_4 : decode prog_10_method_43_code 4 = .ok (.iconst 3, 1) := by decide +kernel
theorem d_Mo_behind_5 : decode prog_10_method_43_code 5 = .ok (.if_icmp .eq 19, 3) := by decide +kernel
theorem d_Mo_behind_8 : decode prog_10_method_43_code 8 = .ok (.aload_n 0, 1) := by decide +kernel
theorem d_Mo_behind_9 : decode prog_10_method_43_code 9 = .ok (.getfield 211, 3) := by decide +kernel
theorem d_Mo_behind_12 : decode prog_10_method_43_code 12 = .ok (.iconst 1, 1) := by decide +kernel
theorem d_Mo_behind_13 : decode prog_10_method_43_code 13 = .ok (.if_icmp .eq 11, 3) := by decide +kernel
theorem d_Mo_behind_16 : decode prog_10_method_43_code 16 = .ok (.aload_n 0, 1) := by decide +kernel
theorem d_Mo_behind_17 : decode prog_10_method_43_code 17 = .ok (.getfield 211, 3) := by decide +kernel
theorem d_Mo_behind_20 : decode prog_10_method_43_code 20 = .ok (.iconst 2, 1) := by decide +kernel
theorem d_Mo_behind_21 : decode prog_10_method_43_code 21 = .ok (.if_icmp .ne 13, 3) := by decide +kernel
theorem d_Mo_behind_24 : decode prog_10_method_43_code 24 = .ok (.aload_n 0, 1) := by decide +kernel
theorem d_Mo_behind_25 : decode prog_10_method_43_code 25 = .ok (.aload_n 0, 1) := by decide +kernel
theorem d_Mo_behind_26 : decode prog_10_method_43_code 26 = .ok (.getfield 211, 3) := by decide +kernel
theorem d_Mo_behind_29 : decode prog_10_method_43_code 29 = .ok (.invokevirtual 355, 3) := by decide +kernel
theorem d_Mo_behind_32 : decode prog_10_method_43_code 32 = .ok (.iconst 0, 1) := by decide +kernel
theorem d_Mo_behind_33 : decode prog_10_method_43_code 33 = .ok (.ireturn, 1) := by decide +kernel
theorem d_Mo_behind_34 : decode prog_10_method_43_code 34 = .ok (.aload_n 0, 1) := by decide +kernel
theorem d_Mo_behind_35 : decode prog_10_method_43_code 35 = .ok (.getfield 211, 3) := by decide +kernel
theorem d_Mo_behind_38 : decode prog_10_method_43_code 38 = .ok (.bipush 6, 2) := by decide +kernel
theorem d_Mo_behind_40 : decode prog_10_method_43_code 40 = .ok (.if_icmp .ne 48, 3) := by decide +kernel
theorem d_Mo_behind_43 : decode prog_10_method_43_code 43 = .ok (.aload_n 0, 1) := by decide +kernel
theorem d_Mo_behind_44 : decode prog_10_method_43_code 44 = .ok (.getfield 349, 3) := by decide +kernel
theorem d_Mo_behind_47 : decode prog_10_method_43_code 47 = .ok (.ifCond .ne 14, 3) := by decide +kernel
theorem d_Mo_behind_50 : decode prog_10_method_43_code 50 = .ok (.aload_n 0, 1) := by decide +kernel
theorem d_Mo_behind_51 : decode prog_10_method_43_code 51 = .ok (.iconst 1, 1) := by decide +kernel
theorem d_Mo_behind_52 : decode prog_10_method_43_code 52 = .ok (.aload_n 0, 1) := by decide +kernel
theorem d_Mo_behind_53 : decode prog_10_method_43_code 53 = .ok (.getfield 208, 3) := by decide +kernel
theorem d_Mo_behind_56 : decode prog_10_method_43_code 56 = .ok (.invokevirtual 217, 3) := by decide +kernel
theorem d_Mo_behind_59 : decode prog_10_method_43_code 59 = .ok (.iconst 1, 1) := by decide +kernel
theorem d_Mo_behind_60 : decode prog_10_method_43_code 60 = .ok (.ireturn, 1) := by decide +kernel
theorem d_Mo_behind_61 : decode prog_10_method_43_code 61 = .ok (.aload_n 0, 1) := by decide +kernel
theorem d_Mo_behind_62 : decode prog_10_method_43_code 62 = .ok (.iconst 1, 1) := by decide +kernel
theorem d_Mo_behind_63 : decode prog_10_method_43_code 63 = .ok (.invokevirtual 343, 3) := by decide +kernel
theorem d_Mo_behind_66 : decode prog_10_method_43_code 66 = .ok (.aload_n 0, 1) := by decide +kernel
theorem d_Mo_behind_67 : decode prog_10_method_43_code 67 = .ok (.dup, 1) := by decide +kernel
theorem d_Mo_behind_68 : decode prog_10_method_43_code 68 = .ok (.getfield 337, 3) := by decide +kernel
theorem d_Mo_behind_71 : decode prog_10_method_43_code 71 = .ok (.iconst 1, 1) := by decide +kernel
theorem d_Mo_behind_72 : decode prog_10_method_43_code 72 = .ok (.isub, 1) := by decide +kernel
theorem d_Mo_behind_73 : decode prog_10_method_43_code 73 = .ok (.putfield 337, 3) := by decide +kernel
theorem d_Mo_behind_76 : decode prog_10_method_43_code 76 = .ok (.aload_n 0, 1) := by decide +kernel
theorem d_Mo_behind_77 : decode prog_10_method_43_code 77 = .ok (.dup, 1) := by decide +kernel
theorem d_Mo_behind_78 : decode prog_10_method_43_code 78 = .ok (.getfield 349, 3) := by decide +kernel
theorem d_Mo_behind_81 : decode prog_10_method_43_code 81 = .ok (.iconst 1, 1) := by decide +kernel
theorem d_Mo_behind_82 : decode prog_10_method_43_code 82 = .ok (.isub, 1) := by decide +kernel
theorem d_Mo_behind_83 : decode prog_10_method_43_code 83 = .ok (.putfield 349, 3) := by decide +kernel
theorem d_Mo_behind_86 : decode prog_10_method_43_code 86 = .ok (.iconst 1, 1) := by decide +kernel
theorem d_Mo_behind_87 : decode prog_10_method_43_code 87 = .ok (.ireturn, 1) := by decide +kernel
theorem d_Mo_behind_88 : decode prog_10_method_43_code 88 = .ok (.aload_n 0, 1) := by decide +kernel
theorem d_Mo_behind_89 : decode prog_10_method_43_code 89 = .ok (.iconst 3, 1) := by decide +kernel
theorem d_Mo_behind_90 : decode prog_10_method_43_code 90 = .ok (.invokevirtual 355, 3) := by decide +kernel
theorem d_Mo_behind_93 : decode prog_10_method_43_code 93 = .ok (.aload_n 0, 1) := by decide +kernel
theorem d_Mo_behind_94 : decode prog_10_method_43_code 94 = .ok (.invokevirtual 358, 3) := by decide +kernel
theorem d_Mo_behind_97 : decode prog_10_method_43_code 97 = .ok (.ireturn, 1) := by decide +kernel
def y_Mo_readAll : MethodName := ⟨"MailQueriesModel", "readAll", "()V"⟩
def rm_Mo_readAll : Room := { frames := 9, cells := 0, slots := 0, locals := 203 }
theorem d_Mo_readAll_0 : decode prog_10_method_44_code 0 = .ok (.aload_n 0, 1) := by decide +kernel
theorem d_Mo_readAll_1 : decode prog_10_method_44_code 1 = .ok (.iconst 0, 1) := by decide +kernel
theorem d_Mo_readAll_2 : decode prog_10_method_44_code 2 = .ok (.putfield 199, 3) := by decide +kernel
theorem d_Mo_readAll_5 : decode prog_10_method_44_code 5 = .ok (.aload_n 0, 1) := by decide +kernel
theorem d_Mo_readAll_6 : decode prog_10_method_44_code 6 = .ok (.iconst 0, 1) := by decide +kernel
theorem d_Mo_readAll_7 : decode prog_10_method_44_code 7 = .ok (.putfield 157, 3) := by decide +kernel
theorem d_Mo_readAll_10 : decode prog_10_method_44_code 10 = .ok (.aload_n 0, 1) := by decide +kernel
theorem d_Mo_readAll_11 : decode prog_10_method_44_code 11 = .ok (.iconst (-1), 1) := by decide +kernel
theorem d_Mo_readAll_12 : decode prog_10_method_44_code 12 = .ok (.putfield 22, 3) := by decide +kernel
theorem d_Mo_readAll_15 : decode prog_10_method_44_code 15 = .ok (.aload_n 0, 1) := by decide +kernel
theorem d_Mo_readAll_16 : decode prog_10_method_44_code 16 = .ok (.iconst 0, 1) := by decide +kernel
theorem d_Mo_readAll_17 : decode prog_10_method_44_code 17 = .ok (.putfield 302, 3) := by decide +kernel
theorem d_Mo_readAll_20 : decode prog_10_method_44_code 20 = .ok (.aload_n 0, 1) := by decide +kernel
theorem d_Mo_readAll_21 : decode prog_10_method_44_code 21 = .ok (.iconst 0, 1) := by decide +kernel
theorem d_Mo_readAll_22 : decode prog_10_method_44_code 22 = .ok (.putfield 308, 3) := by decide +kernel
theorem d_Mo_readAll_25 : decode prog_10_method_44_code 25 = .ok (.aload_n 0, 1) := by decide +kernel
theorem d_Mo_readAll_26 : decode prog_10_method_44_code 26 = .ok (.iconst 0, 1) := by decide +kernel
theorem d_Mo_readAll_27 : decode prog_10_method_44_code 27 = .ok (.putfield 331, 3) := by decide +kernel
theorem d_Mo_readAll_30 : decode prog_10_method_44_code 30 = .ok (.aload_n 0, 1) := by decide +kernel
theorem d_Mo_readAll_31 : decode prog_10_method_44_code 31 = .ok (.iconst 0, 1) := by decide +kernel
theorem d_Mo_readAll_32 : decode prog_10_method_44_code 32 = .ok (.putfield 334, 3) := by decide +kernel
theorem d_Mo_readAll_35 : decode prog_10_method_44_code 35 = .ok (.aload_n 0, 1) := by decide +kernel
theorem d_Mo_readAll_36 : decode prog_10_method_44_code 36 = .ok (.iconst 0, 1) := by decide +kernel
theorem d_Mo_readAll_37 : decode prog_10_method_44_code 37 = .ok (.putfield 337, 3) := by decide +kernel
theorem d_Mo_readAll_40 : decode prog_10_method_44_code 40 = .ok (.aload_n 0, 1) := by decide +kernel
theorem d_Mo_readAll_41 : decode prog_10_method_44_code 41 = .ok (.iconst 0, 1) := by decide +kernel
theorem d_Mo_readAll_42 : decode prog_10_method_44_code 42 = .ok (.putfield 349, 3) := by decide +kernel
theorem d_Mo_readAll_45 : decode prog_10_method_44_code 45 = .ok (.aload_n 0, 1) := by decide +kernel
theorem d_Mo_readAll_46 : decode prog_10_method_44_code 46 = .ok (.iconst (-1), 1) := by decide +kernel
theorem d_Mo_readAll_47 : decode prog_10_method_44_code 47 = .ok (.putfield 141, 3) := by decide +kernel
theorem d_Mo_readAll_50 : decode prog_10_method_44_code 50 = .ok (.aload_n 0, 1) := by decide +kernel
theorem d_Mo_readAll_51 : decode prog_10_method_44_code 51 = .ok (.invokevirtual 361, 3) := by decide +kernel
theorem d_Mo_readAll_54 : decode prog_10_method_44_code 54 = .ok (.aload_n 0, 1) := by decide +kernel
theorem d_Mo_readAll_55 : decode prog_10_method_44_code 55 = .ok (.getfield 157, 3) := by decide +kernel
theorem d_Mo_readAll_58 : decode prog_10_method_44_code 58 = .ok (.ifCond .ne 11, 3) := by decide +kernel
theorem d_Mo_readAll_61 : decode prog_10_method_44_code 61 = .ok (.aload_n 0, 1) := by decide +kernel
theorem d_Mo_readAll_62 : decode prog_10_method_44_code 62 = .ok (.getfield 211, 3) := by decide +kernel
theorem d_Mo_readAll_65 : decode prog_10_method_44_code 65 = .ok (.ifCond .ne 4, 3) := by decide +kernel
theorem d_Mo_readAll_68 : decode prog_10_method_44_code 68 = .ok (.return_, 1) := by decide +kernel
theorem d_Mo_readAll_69 : decode prog_10_method_44_code 69 = .ok (.iconst 0, 1) := by decide +kernel
theorem d_Mo_readAll_70 : decode prog_10_method_44_code 70 = .ok (.istore_n 1, 1) := by decide +kernel
theorem d_Mo_readAll_71 : decode prog_10_method_44_code 71 = .ok (.aload_n 0, 1) := by decide +kernel
theorem d_Mo_readAll_72 : decode prog_10_method_44_code 72 = .ok (.getfield 157, 3) := by decide +kernel
theorem d_Mo_readAll_75 : decode prog_10_method_44_code 75 = .ok (.ifCond .ne 40, 3) := by decide +kernel
theorem d_Mo_readAll_78 : decode prog_10_method_44_code 78 = .ok (.aload_n 0, 1) := by decide +kernel
theorem d_Mo_readAll_79 : decode prog_10_method_44_code 79 = .ok (.getfield 211, 3) := by decide +kernel
theorem d_Mo_readAll_82 : decode prog_10_method_44_code 82 = .ok (.ifCond .eq 33, 3) := by decide +kernel
theorem d_Mo_readAll_85 : decode prog_10_method_44_code 85 = .ok (.iload_n 1, 1) := by decide +kernel
theorem d_Mo_readAll_86 : decode prog_10_method_44_code 86 = .ok (.ifCond .eq 10, 3) := by decide +kernel
theorem d_Mo_readAll_89 : decode prog_10_method_44_code 89 = .ok (.aload_n 0, 1) := by decide +kernel
theorem d_Mo_readAll_90 : decode prog_10_method_44_code 90 = .ok (.invokevirtual 364, 3) := by decide +kernel
theorem d_Mo_readAll_93 : decode prog_10_method_44_code 93 = .ok (.goto 7, 3) := by decide +kernel
theorem d_Mo_readAll_96 : decode prog_10_method_44_code 96 = .ok (.aload_n 0, 1) := by decide +kernel
theorem d_Mo_readAll_97 : decode prog_10_method_44_code 97 = .ok (.invokevirtual 358, 3) := by decide +kernel
theorem d_Mo_readAll_100 : decode prog_10_method_44_code 100 = .ok (.istore_n 1, 1) := by decide +kernel
theorem d_Mo_readAll_101 : decode prog_10_method_44_code 101 = .ok (.aload_n 0, 1) := by decide +kernel
theorem d_Mo_readAll_102 : decode prog_10_method_44_code 102 = .ok (.getfield 157, 3) := by decide +kernel
theorem d_Mo_readAll_105 : decode prog_10_method_44_code 105 = .ok (.ifCond .ne (-34), 3) := by decide +kernel
theorem d_Mo_readAll_108 : decode prog_10_method_44_code 108 = .ok (.aload_n 0, 1) := by decide +kernel
theorem d_Mo_readAll_109 : decode prog_10_method_44_code 109 = .ok (.invokevirtual 361, 3) := by decide +kernel
theorem d_Mo_readAll_112 : decode prog_10_method_44_code 112 = .ok (.goto (-41), 3) := by decide +kernel
theorem d_Mo_readAll_115 : decode prog_10_method_44_code 115 = .ok (.aload_n 0, 1) := by decide +kernel
theorem d_Mo_readAll_116 : decode prog_10_method_44_code 116 = .ok (.getfield 157, 3) := by decide +kernel
theorem d_Mo_readAll_119 : decode prog_10_method_44_code 119 = .ok (.ifCond .ne 23, 3) := by decide +kernel
theorem d_Mo_readAll_122 : decode prog_10_method_44_code 122 = .ok (.iload_n 1, 1) := by decide +kernel
theorem d_Mo_readAll_123 : decode prog_10_method_44_code 123 = .ok (.ifCond .eq 10, 3) := by decide +kernel
theorem d_Mo_readAll_126 : decode prog_10_method_44_code 126 = .ok (.aload_n 0, 1) := by decide +kernel
theorem d_Mo_readAll_127 : decode prog_10_method_44_code 127 = .ok (.getfield 349, 3) := by decide +kernel
theorem d_Mo_readAll_130 : decode prog_10_method_44_code 130 = .ok (.ifCond .le 12, 3) := by decide +kernel
theorem d_Mo_readAll_133 : decode prog_10_method_44_code 133 = .ok (.aload_n 0, 1) := by decide +kernel
theorem d_Mo_readAll_134 : decode prog_10_method_44_code 134 = .ok (.iconst 1, 1) := by decide +kernel
theorem d_Mo_readAll_135 : decode prog_10_method_44_code 135 = .ok (.aload_n 0, 1) := by decide +kernel
theorem d_Mo_readAll_136 : decode prog_10_method_44_code 136 = .ok (.getfield 154, 3) := by decide +kernel
theorem d_Mo_readAll_139 : decode prog_10_method_44_code 139 = .ok (.invokevirtual 217, 3) := by decide +kernel
theorem d_Mo_readAll_142 : decode prog_10_method_44_code 142 = .ok (.aload_n 0, 1) := by decide +kernel
theorem d_Mo_readAll_143 : decode prog_10_method_44_code 143 = .ok (.getfield 157, 3) := by decide +kernel
theorem d_Mo_readAll_146 : decode prog_10_method_44_code 146 = .ok (.ifCond .ne 18, 3) := by decide +kernel
theorem d_Mo_readAll_149 : decode prog_10_method_44_code 149 = .ok (.aload_n 0, 1) := by decide +kernel
theorem d_Mo_readAll_150 : decode prog_10_method_44_code 150 = .ok (.iconst 1, 1) := by decide +kernel
theorem d_Mo_readAll_151 : decode prog_10_method_44_code 151 = .ok (.invokevirtual 343, 3) := by decide +kernel
theorem d_Mo_readAll_154 : decode prog_10_method_44_code 154 = .ok (.aload_n 0, 1) := by decide +kernel
theorem d_Mo_readAll_155 : decode prog_10_method_44_code 155 = .ok (.aload_n 0, 1) := by decide +kernel
theorem d_Mo_readAll_156 : decode prog_10_method_44_code 156 = .ok (.getfield 92, 3) := by decide +kernel
theorem d_Mo_readAll_159 : decode prog_10_method_44_code 159 = .ok (.iconst 0, 1) := by decide +kernel
theorem d_Mo_readAll_160 : decode prog_10_method_44_code 160 = .ok (.iaload, 1) := by decide +kernel
theorem d_Mo_readAll_161 : decode prog_10_method_44_code 161 = .ok (.putfield 141, 3) := by decide +kernel
theorem d_Mo_readAll_164 : decode prog_10_method_44_code 164 = .ok (.return_, 1) := by decide +kernel
def y_Mo_take : MethodName := ⟨"MailQueriesModel", "take", "([BI)V"⟩
def rm_Mo_take : Room := { frames := 0, cells := 0, slots := 0, locals := 0 }
theorem d_Mo_take_0 : decode prog_10_method_45_code 0 = .ok (.iconst 0, 1) := by decide +kernel
theorem d_Mo_take_1 : decode prog_10_method_45_code 1 = .ok (.istore_n 3, 1) := by decide +kernel
theorem d_Mo_take_2 : decode prog_10_method_45_code 2 = .ok (.iload_n 3, 1) := by decide +kernel
theorem d_Mo_take_3 : decode prog_10_method_45_code 3 = .ok (.iload_n 2, 1) := by decide +kernel
theorem d_Mo_take_4 : decode prog_10_method_45_code 4 = .ok (.if_icmp .ge 18, 3) := by decide +kernel
theorem d_Mo_take_7 : decode prog_10_method_45_code 7 = .ok (.aload_n 0, 1) := by decide +kernel
theorem d_Mo_take_8 : decode prog_10_method_45_code 8 = .ok (.getfield 16, 3) := by decide +kernel
theorem d_Mo_take_11 : decode prog_10_method_45_code 11 = .ok (.iload_n 3, 1) := by decide +kernel
theorem d_Mo_take_12 : decode prog_10_method_45_code 12 = .ok (.aload_n 1, 1) := by decide +kernel
theorem d_Mo_take_13 : decode prog_10_method_45_code 13 = .ok (.iload_n 3, 1) := by decide +kernel
theorem d_Mo_take_14 : decode prog_10_method_45_code 14 = .ok (.baload, 1) := by decide +kernel
theorem d_Mo_take_15 : decode prog_10_method_45_code 15 = .ok (.bastore, 1) := by decide +kernel
theorem d_Mo_take_16 : decode prog_10_method_45_code 16 = .ok (.iinc 3 1, 3) := by decide +kernel
theorem d_Mo_take_19 : decode prog_10_method_45_code 19 = .ok (.goto (-17), 3) := by decide +kernel
theorem d_Mo_take_22 : decode prog_10_method_45_code 22 = .ok (.aload_n 0, 1) := by decide +kernel
theorem d_Mo_take_23 : decode prog_10_method_45_code 23 = .ok (.iload_n 2, 1) := by decide +kernel
theorem d_Mo_take_24 : decode prog_10_method_45_code 24 = .ok (.putfield 154, 3) := by decide +kernel
theorem d_Mo_take_27 : decode prog_10_method_45_code 27 = .ok (.return_, 1) := by decide +kernel
def y_Mo_read : MethodName := ⟨"MailQueriesModel", "read", "()I"⟩
def rm_Mo_read : Room := { frames := 10, cells := 0, slots := 0, locals := 224 }
theorem d_Mo_read_0 : decode prog_10_method_46_code 0 = .ok (.aload_n 0, 1) := by decide +kernel
theorem d_Mo_read_1 : decode prog_10_method_46_code 1 = .ok (.aload_n 0, 1) := by decide +kernel
theorem d_Mo_read_2 : decode prog_10_method_46_code 2 = .ok (.getfield 13, 3) := by decide +kernel
theorem d_Mo_read_5 : decode prog_10_method_46_code 5 = .ok (.aload_n 0, 1) := by decide +kernel
theorem d_Mo_read_6 : decode prog_10_method_46_code 6 = .ok (.getfield 151, 3) := by decide +kernel
theorem d_Mo_read_9 : decode prog_10_method_46_code 9 = .ok (.invokevirtual 367, 3) := by decide +kernel
theorem d_Mo_read_12 : decode prog_10_method_46_code 12 = .ok (.aload_n 0, 1) := by decide +kernel
theorem d_Mo_read_13 : decode prog_10_method_46_code 13 = .ok (.iconst 0, 1) := by decide +kernel
theorem d_Mo_read_14 : decode prog_10_method_46_code 14 = .ok (.putfield 151, 3) := by decide +kernel
theorem d_Mo_read_17 : decode prog_10_method_46_code 17 = .ok (.aload_n 0, 1) := by decide +kernel
theorem d_Mo_read_18 : decode prog_10_method_46_code 18 = .ok (.invokevirtual 371, 3) := by decide +kernel
theorem d_Mo_read_21 : decode prog_10_method_46_code 21 = .ok (.aload_n 0, 1) := by decide +kernel
theorem d_Mo_read_22 : decode prog_10_method_46_code 22 = .ok (.aload_n 0, 1) := by decide +kernel
theorem d_Mo_read_23 : decode prog_10_method_46_code 23 = .ok (.getfield 157, 3) := by decide +kernel
theorem d_Mo_read_26 : decode prog_10_method_46_code 26 = .ok (.putfield 374, 3) := by decide +kernel
theorem d_Mo_read_29 : decode prog_10_method_46_code 29 = .ok (.aload_n 0, 1) := by decide +kernel
theorem d_Mo_read_30 : decode prog_10_method_46_code 30 = .ok (.aload_n 0, 1) := by decide +kernel
theorem d_Mo_read_31 : decode prog_10_method_46_code 31 = .ok (.getfield 22, 3) := by decide +kernel
theorem d_Mo_read_34 : decode prog_10_method_46_code 34 = .ok (.putfield 26, 3) := by decide +kernel
theorem d_Mo_read_37 : decode prog_10_method_46_code 37 = .ok (.aload_n 0, 1) := by decide +kernel
theorem d_Mo_read_38 : decode prog_10_method_46_code 38 = .ok (.aload_n 0, 1) := by decide +kernel
theorem d_Mo_read_39 : decode prog_10_method_46_code 39 = .ok (.getfield 157, 3) := by decide +kernel
theorem d_Mo_read_42 : decode prog_10_method_46_code 42 = .ok (.ifCond .le 7, 3) := by decide +kernel
theorem d_Mo_read_45 : decode prog_10_method_46_code 45 = .ok (.iconst 1, 1) := by decide +kernel
theorem d_Mo_read_46 : decode prog_10_method_46_code 46 = .ok (.goto 4, 3) := by decide +kernel
theorem d_Mo_read_49 : decode prog_10_method_46_code 49 = .ok (.iconst 0, 1) := by decide +kernel
theorem d_Mo_read_50 : decode prog_10_method_46_code 50 = .ok (.putfield 144, 3) := by decide +kernel
theorem d_Mo_read_53 : decode prog_10_method_46_code 53 = .ok (.aload_n 0, 1) := by decide +kernel
theorem d_Mo_read_54 : decode prog_10_method_46_code 54 = .ok (.getfield 157, 3) := by decide +kernel
theorem d_Mo_read_57 : decode prog_10_method_46_code 57 = .ok (.ifCond .le 21, 3) := by decide +kernel
theorem d_Mo_read_60 : decode prog_10_method_46_code 60 = .ok (.aload_n 0, 1) := by decide +kernel
theorem d_Mo_read_61 : decode prog_10_method_46_code 61 = .ok (.aload_n 0, 1) := by decide +kernel
theorem d_Mo_read_62 : decode prog_10_method_46_code 62 = .ok (.getfield 19, 3) := by decide +kernel
theorem d_Mo_read_65 : decode prog_10_method_46_code 65 = .ok (.aload_n 0, 1) := by decide +kernel
theorem d_Mo_read_66 : decode prog_10_method_46_code 66 = .ok (.getfield 377, 3) := by decide +kernel
theorem d_Mo_read_69 : decode prog_10_method_46_code 69 = .ok (.invokevirtual 367, 3) := by decide +kernel
theorem d_Mo_read_72 : decode prog_10_method_46_code 72 = .ok (.aload_n 0, 1) := by decide +kernel
theorem d_Mo_read_73 : decode prog_10_method_46_code 73 = .ok (.invokevirtual 371, 3) := by decide +kernel
theorem d_Mo_read_76 : decode prog_10_method_46_code 76 = .ok (.iconst 0, 1) := by decide +kernel
theorem d_Mo_read_77 : decode prog_10_method_46_code 77 = .ok (.ireturn, 1) := by decide +kernel
theorem d_Mo_read_78 : decode prog_10_method_46_code 78 = .ok (.aload_n 0, 1) := by decide +kernel
theorem d_Mo_read_79 : decode prog_10_method_46_code 79 = .ok (.aload_n 0, 1) := by decide +kernel
theorem d_Mo_read_80 : decode prog_10_method_46_code 80 = .ok (.getfield 154, 3) := by decide +kernel
theorem d_Mo_read_83 : decode prog_10_method_46_code 83 = .ok (.putfield 377, 3) := by decide +kernel
theorem d_Mo_read_86 : decode prog_10_method_46_code 86 = .ok (.iconst 0, 1) := by decide +kernel
theorem d_Mo_read_87 : decode prog_10_method_46_code 87 = .ok (.istore_n 1, 1) := by decide +kernel
theorem d_Mo_read_88 : decode prog_10_method_46_code 88 = .ok (.iload_n 1, 1) := by decide +kernel
theorem d_Mo_read_89 : decode prog_10_method_46_code 89 = .ok (.aload_n 0, 1) := by decide +kernel
theorem d_Mo_read_90 : decode prog_10_method_46_code 90 = .ok (.getfield 154, 3) := by decide +kernel
theorem d_Mo_read_93 : decode prog_10_method_46_code 93 = .ok (.if_icmp .ge 21, 3) := by decide +kernel
theorem d_Mo_read_96 : decode prog_10_method_46_code 96 = .ok (.aload_n 0, 1) := by decide +kernel
theorem d_Mo_read_97 : decode prog_10_method_46_code 97 = .ok (.getfield 19, 3) := by decide +kernel
theorem d_Mo_read_100 : decode prog_10_method_46_code 100 = .ok (.iload_n 1, 1) := by decide +kernel
theorem d_Mo_read_101 : decode prog_10_method_46_code 101 = .ok (.aload_n 0, 1) := by decide +kernel
theorem d_Mo_read_102 : decode prog_10_method_46_code 102 = .ok (.getfield 16, 3) := by decide +kernel
theorem d_Mo_read_105 : decode prog_10_method_46_code 105 = .ok (.iload_n 1, 1) := by decide +kernel
theorem d_Mo_read_106 : decode prog_10_method_46_code 106 = .ok (.baload, 1) := by decide +kernel
theorem d_Mo_read_107 : decode prog_10_method_46_code 107 = .ok (.bastore, 1) := by decide +kernel
theorem d_Mo_read_108 : decode prog_10_method_46_code 108 = .ok (.iinc 1 1, 3) := by decide +kernel
theorem d_Mo_read_111 : decode prog_10_method_46_code 111 = .ok (.goto (-23), 3) := by decide +kernel
theorem d_Mo_read_114 : decode prog_10_method_46_code 114 = .ok (.aload_n 0, 1) := by decide +kernel
theorem d_Mo_read_115 : decode prog_10_method_46_code 115 = .ok (.getfield 302, 3) := by decide +kernel
theorem d_Mo_read_118 : decode prog_10_method_46_code 118 = .ok (.ireturn, 1) := by decide +kernel
def y_Mo_fault : MethodName := ⟨"MailQueriesModel", "fault", "(I)I"⟩
def rm_Mo_fault : Room := { frames := 0, cells := 0, slots := 0, locals := 0 }
theorem d_Mo_fault_0 : decode prog_10_method_47_code 0 = .ok (.aload_n 0, 1) := by decide +kernel
theorem d_Mo_fault_1 : decode prog_10_method_47_code 1 = .ok (.iconst 0, 1) := by decide +kernel
theorem d_Mo_fault_2 : decode prog_10_method_47_code 2 = .ok (.putfield 144, 3) := by decide +kernel
theorem d_Mo_fault_5 : decode prog_10_method_47_code 5 = .ok (.iload_n 1, 1) := by decide +kernel
theorem d_Mo_fault_6 : decode prog_10_method_47_code 6 = .ok (.ifCond .ne 10, 3) := by decide +kernel
theorem d_Mo_fault_9 : decode prog_10_method_47_code 9 = .ok (.aload_n 0, 1) := by decide +kernel
theorem d_Mo_fault_10 : decode prog_10_method_47_code 10 = .ok (.getfield 374, 3) := by decide +kernel
theorem d_Mo_fault_13 : decode prog_10_method_47_code 13 = .ok (.goto 16, 3) := by decide +kernel
theorem d_Mo_fault_16 : decode prog_10_method_47_code 16 = .ok (.iload_n 1, 1) := by decide +kernel
theorem d_Mo_fault_17 : decode prog_10_method_47_code 17 = .ok (.iconst 1, 1) := by decide +kernel
theorem d_Mo_fault_18 : decode prog_10_method_47_code 18 = .ok (.if_icmp .ne 10, 3) := by decide +kernel
theorem d_Mo_fault_21 : decode prog_10_method_47_code 21 = .ok (.aload_n 0, 1) := by decide +kernel
theorem d_Mo_fault_22 : decode prog_10_method_47_code 22 = .ok (.getfield 26, 3) := by decide +kernel
theorem d_Mo_fault_25 : decode prog_10_method_47_code 25 = .ok (.goto 4, 3) := by decide +kernel
theorem d_Mo_fault_28 : decode prog_10_method_47_code 28 = .ok (.iconst (-1), 1) := by decide +kernel
theorem d_Mo_fault_29 : decode prog_10_method_47_code 29 = .ok (.ireturn, 1) := by decide +kernel
def y_Mo_atom : MethodName := ⟨"MailQueriesModel", "atom", "(II)I"⟩
def rm_Mo_atom : Room := { frames := 0, cells := 0, slots := 0, locals := 0 }
theorem d_Mo_atom_0 : decode prog_10_method_48_code 0 = .ok (.aload_n 0, 1) := by decide +kernel
theorem d_Mo_atom_1 : decode prog_10_method_48_code 1 = .ok (.iconst 0, 1) := by decide +kernel
theorem d_Mo_atom_2 : decode prog_10_method_48_code 2 = .ok (.putfield 144, 3) := by decide +kernel
theorem d_Mo_atom_5 : decode prog_10_method_48_code 5 = .ok (.iload_n 1, 1) := by decide +kernel
theorem d_Mo_atom_6 : decode prog_10_method_48_code 6 = .ok (.ifCond .lt 11, 3) := by decide +kernel
theorem d_Mo_atom_9 : decode prog_10_method_48_code 9 = .ok (.iload_n 1, 1) := by decide +kernel
theorem d_Mo_atom_10 : decode prog_10_method_48_code 10 = .ok (.aload_n 0, 1) := by decide +kernel
theorem d_Mo_atom_11 : decode prog_10_method_48_code 11 = .ok (.getfield 302, 3) := by decide +kernel
theorem d_Mo_atom_14 : decode prog_10_method_48_code 14 = .ok (.if_icmp .lt 5, 3) := by decide +kernel
theorem d_Mo_atom_17 : decode prog_10_method_48_code 17 = .ok (.iconst (-1), 1) := by decide +kernel
theorem d_Mo_atom_18 : decode prog_10_method_48_code 18 = .ok (.ireturn, 1) := by decide +kernel
theorem d_Mo_atom_19 : decode prog_10_method_48_code 19 = .ok (.iload_n 2, 1) := by decide +kernel
theorem d_Mo_atom_20 : decode prog_10_method_48_code 20 = .ok (.tableswitch 79 0 4 #[36, 43, 58, 65, 72], 36) := by decide +kernel
theorem d_Mo_atom_56 : decode prog_10_method_48_code 56 = .ok (.aload_n 0, 1) := by decide +kernel
theorem d_Mo_atom_57 : decode prog_10_method_48_code 57 = .ok (.getfield 57, 3) := by decide +kernel
theorem d_Mo_atom_60 : decode prog_10_method_48_code 60 = .ok (.iload_n 1, 1) := by decide +kernel
theorem d_Mo_atom_61 : decode prog_10_method_48_code 61 = .ok (.iaload, 1) := by decide +kernel
theorem d_Mo_atom_62 : decode prog_10_method_48_code 62 = .ok (.ireturn, 1) := by decide +kernel
theorem d_Mo_atom_63 : decode prog_10_method_48_code 63 = .ok (.aload_n 0, 1) := by decide +kernel
theorem d_Mo_atom_64 : decode prog_10_method_48_code 64 = .ok (.getfield 79, 3) := by decide +kernel
theorem d_Mo_atom_67 : decode prog_10_method_48_code 67 = .ok (.iload_n 1, 1) := by decide +kernel
theorem d_Mo_atom_68 : decode prog_10_method_48_code 68 = .ok (.baload, 1) := by decide +kernel
theorem d_Mo_atom_69 : decode prog_10_method_48_code 69 = .ok (.ifCond .eq 7, 3) := by decide +kernel
theorem d_Mo_atom_72 : decode prog_10_method_48_code 72 = .ok (.iconst 1, 1) := by decide +kernel
theorem d_Mo_atom_73 : decode prog_10_method_48_code 73 = .ok (.goto 4, 3) := by decide +kernel
theorem d_Mo_atom_76 : decode prog_10_method_48_code 76 = .ok (.iconst 0, 1) := by decide +kernel
theorem d_Mo_atom_77 : decode prog_10_method_48_code 77 = .ok (.ireturn, 1) := by decide +kernel
theorem d_Mo_atom_78 : decode prog_10_method_48_code 78 = .ok (.aload_n 0, 1) := by decide +kernel
theorem d_Mo_atom_79 : decode prog_10_method_48_code 79 = .ok (.getfield 64, 3) := by decide +kernel
theorem d_Mo_atom_82 : decode prog_10_method_48_code 82 = .ok (.iload_n 1, 1) := by decide +kernel
theorem d_Mo_atom_83 : decode prog_10_method_48_code 83 = .ok (.iaload, 1) := by decide +kernel
theorem d_Mo_atom_84 : decode prog_10_method_48_code 84 = .ok (.ireturn, 1) := by decide +kernel
theorem d_Mo_atom_85 : decode prog_10_method_48_code 85 = .ok (.aload_n 0, 1) := by decide +kernel
theorem d_Mo_atom_86 : decode prog_10_method_48_code 86 = .ok (.getfield 67, 3) := by decide +kernel
theorem d_Mo_atom_89 : decode prog_10_method_48_code 89 = .ok (.iload_n 1, 1) := by decide +kernel
theorem d_Mo_atom_90 : decode prog_10_method_48_code 90 = .ok (.iaload, 1) := by decide +kernel
theorem d_Mo_atom_91 : decode prog_10_method_48_code 91 = .ok (.ireturn, 1) := by decide +kernel
theorem d_Mo_atom_92 : decode prog_10_method_48_code 92 = .ok (.aload_n 0, 1) := by decide +kernel
theorem d_Mo_atom_93 : decode prog_10_method_48_code 93 = .ok (.getfield 70, 3) := by decide +kernel
theorem d_Mo_atom_96 : decode prog_10_method_48_code 96 = .ok (.iload_n 1, 1) := by decide +kernel
theorem d_Mo_atom_97 : decode prog_10_method_48_code 97 = .ok (.iaload, 1) := by decide +kernel
theorem d_Mo_atom_98 : decode prog_10_method_48_code 98 = .ok (.ireturn, 1) := by decide +kernel
theorem d_Mo_atom_99 : decode prog_10_method_48_code 99 = .ok (.iconst (-1), 1) := by decide +kernel
theorem d_Mo_atom_100 : decode prog_10_method_48_code 100 = .ok (.ireturn, 1) := by decide +kernel
def y_Mo_atomByte : MethodName := ⟨"MailQueriesModel", "atomByte", "(II)I"⟩
def rm_Mo_atomByte : Room := { frames := 1, cells := 0, slots := 0, locals := 21 }
theorem d_Mo_atomByte_0 : decode prog_10_method_49_code 0 = .ok (.aload_n 0, 1) := by decide +kernel
theorem d_Mo_atomByte_1 : decode prog_10_method_49_code 1 = .ok (.iconst 0, 1) := by decide +kernel
theorem d_Mo_atomByte_2 : decode prog_10_method_49_code 2 = .ok (.putfield 144, 3) := by decide +kernel
theorem d_Mo_atomByte_5 : decode prog_10_method_49_code 5 = .ok (.iload_n 1, 1) := by decide +kernel
theorem d_Mo_atomByte_6 : decode prog_10_method_49_code 6 = .ok (.ifCond .lt 40, 3) := by decide +kernel
theorem d_Mo_atomByte_9 : decode prog_10_method_49_code 9 = .ok (.iload_n 1, 1) := by decide +kernel
theorem d_Mo_atomByte_10 : decode prog_10_method_49_code 10 = .ok (.aload_n 0, 1) := by decide +kernel
theorem d_Mo_atomByte_11 : decode prog_10_method_49_code 11 = .ok (.getfield 302, 3) := by decide +kernel
theorem d_Mo_atomByte_14 : decode prog_10_method_49_code 14 = .ok (.if_icmp .ge 32, 3) := by decide +kernel
theorem d_Mo_atomByte_17 : decode prog_10_method_49_code 17 = .ok (.iload_n 2, 1) := by decide +kernel
theorem d_Mo_atomByte_18 : decode prog_10_method_49_code 18 = .ok (.ifCond .lt 28, 3) := by decide +kernel
theorem d_Mo_atomByte_21 : decode prog_10_method_49_code 21 = .ok (.iload_n 2, 1) := by decide +kernel
theorem d_Mo_atomByte_22 : decode prog_10_method_49_code 22 = .ok (.aload_n 0, 1) := by decide +kernel
theorem d_Mo_atomByte_23 : decode prog_10_method_49_code 23 = .ok (.getfield 64, 3) := by decide +kernel
theorem d_Mo_atomByte_26 : decode prog_10_method_49_code 26 = .ok (.iload_n 1, 1) := by decide +kernel
theorem d_Mo_atomByte_27 : decode prog_10_method_49_code 27 = .ok (.iaload, 1) := by decide +kernel
theorem d_Mo_atomByte_28 : decode prog_10_method_49_code 28 = .ok (.if_icmp .ge 18, 3) := by decide +kernel
theorem d_Mo_atomByte_31 : decode prog_10_method_49_code 31 = .ok (.aload_n 0, 1) := by decide +kernel
theorem d_Mo_atomByte_32 : decode prog_10_method_49_code 32 = .ok (.aload_n 0, 1) := by decide +kernel
theorem d_Mo_atomByte_33 : decode prog_10_method_49_code 33 = .ok (.getfield 61, 3) := by decide +kernel
theorem d_Mo_atomByte_36 : decode prog_10_method_49_code 36 = .ok (.iload_n 1, 1) := by decide +kernel
theorem d_Mo_atomByte_37 : decode prog_10_method_49_code 37 = .ok (.iaload, 1) := by decide +kernel
theorem d_Mo_atomByte_38 : decode prog_10_method_49_code 38 = .ok (.iload_n 2, 1) := by decide +kernel
theorem d_Mo_atomByte_39 : decode prog_10_method_49_code 39 = .ok (.iadd, 1) := by decide +kernel
theorem d_Mo_atomByte_40 : decode prog_10_method_49_code 40 = .ok (.invokevirtual 160, 3) := by decide +kernel
theorem d_Mo_atomByte_43 : decode prog_10_method_49_code 43 = .ok (.goto 4, 3) := by decide +kernel
theorem d_Mo_atomByte_46 : decode prog_10_method_49_code 46 = .ok (.iconst (-1), 1) := by decide +kernel
theorem d_Mo_atomByte_47 : decode prog_10_method_49_code 47 = .ok (.ireturn, 1) := by decide +kernel
theorem mb_Mo_behind : Mb y_Mo_behind prog_10_method_43_code 1 (some .boolean) 0 := ⟨W_Mo_behind_code, W_Mo_behind_in, sel_60, I_Mo, by decide +kernel, by decide +kernel, by decide +kernel⟩
theorem mb_Mo_readAll : Mb y_Mo_readAll prog_10_method_44_code 2 none 0 := ⟨W_Mo_readAll_code, W_Mo_readAll_in, sel_50, I_Mo, by decide +kernel, by decide +kernel, by decide +kernel⟩
theorem mb_Mo_take : Mb y_Mo_take prog_10_method_45_code 4 none 2 := ⟨W_Mo_take_code, W_Mo_take_in, sel_49, I_Mo, by decide +kernel, by decide +kernel, by decide +kernel⟩
theorem mb_Mo_read : Mb y_Mo_read prog_10_method_46_code 2 (some .int) 0 := ⟨W_Mo_read_code, W_Mo_read_in, W_Mo_read_se, I_Mo, by decide +kernel, by decide +kernel, by decide +kernel⟩
theorem mb_Mo_fault : Mb y_Mo_fault prog_10_method_47_code 2 (some .int) 1 := ⟨W_Mo_fault_code, W_Mo_fault_in, W_Mo_fault_se, I_Mo, by decide +kernel, by decide +kernel, by decide +kernel⟩
theorem mb_Mo_atom : Mb y_Mo_atom prog_10_method_48_code 3 (some .int) 2 := ⟨W_Mo_atom_code, W_Mo_atom_in, W_Mo_atom_se, I_Mo, by decide +kernel, by decide +kernel, by decide +kernel⟩
theorem mb_Mo_atomByte : Mb y_Mo_atomByte prog_10_method_49_code 3 (some .int) 2 := ⟨W_Mo_atomByte_code, W_Mo_atomByte_in, W_Mo_atomByte_se, I_Mo, by decide +kernel, by decide +kernel, by decide +kernel⟩
def Mo_behind_24 (F : Nat) (t : StI) (tL : StL) : Option (Int32 × StI × StL) := (Mo_between F t tL (t 14 0)).bind fun r14 => some ((0 : Int32), r14.1, r14.2)
def Mo_behind (F : Nat) (t : StI) (tL : StL) : Option (Int32 × StI × StL) := if (t 14 0) = (3 : Int32) then Mo_behind_24 F t tL else if (t 14 0) = (1 : Int32) then Mo_behind_24 F t tL else if (t 14 0) = (2 : Int32) then Mo_behind_24 F t tL else if (t 14 0) = (6 : Int32) then if (t 37 0) = 0 then (Mo_fail F t tL (1 : Int32) (t 15 0)).bind fun r26 => some ((1 : Int32), r26.1, r26.2) else (Mo_reduceTo F t tL (1 : Int32)).bind fun r23 => letS (va_up r23.1 36 (fun _ => ((r23.1 36 0) - (1 : Int32)))) fun t_24 => letS (va_up t_24 37 (fun _ => ((t_24 37 0) - (1 : Int32)))) fun t_25 => some ((1 : Int32), t_25, r23.2) else (Mo_between F t tL (3 : Int32)).bind fun r19 => (Mo_operand F r19.1 r19.2).bind fun r20 => if r20.1 = 0 ∨ r20.1 = 1 then some (r20.1, r20.2.1, r20.2.2) else none
set_option maxHeartbeats 4000000 in
set_option maxRecDepth 100000 in
theorem k_Mo_behind_24 {p : Program} {l : Launch} {e : Env} {s : State} {m : MethodId} {args : Array Value} {below : List Frame} {meth : Method} {c : Code} {g : Gz} {A : Nat → Prop} {F : Nat} {a_t : Nat → Nat} (hC : Cx prog_10_method_43_code 1 (some .boolean) R_Mo p s m args meth c g A A) : ∀ (t : StI) (tL : StL) (res : Int32 × StI × StL), Mo_behind_24 F t tL = some res → Go p l e rm_Mo_behind s m args below meth c g A A 1 (MQ below (EI g ((pic_Mo g a_t res.2.1 res.2.2)) res.1 A) args s 0 0 A) ((pic_Mo g a_t t tL)) [(0, .ref (a_t 0))] 24 [] := by
  obtain ⟨hx, hb, hr, hml, hown, htb, hlocks, hA, hAA, hG⟩ := id hC
  have hK := hG.1
  intro t tL res h H locs ls hP hD hS hl
  rw [Mo_behind_24] at h
  refine lv_aload_n hx hb d_Mo_behind_24 rfl (lv_at hl 0 rfl) ?_
  refine lv_aload_n hx hb d_Mo_behind_25 rfl (lv_at hl 0 rfl) ?_
  refine va_get (D := gD g) (ci := 8) (v := .int (t 14 0)) (C := R_Mo) (T := T_Mo) (N := 64) hx hb htb in_Mo hown hK hP 0 rfl rfl 14 (by decide) (htb _ L_Mo_211) (fun _ h9 => h9) rfl d_Mo_behind_26 ?_
  obtain ⟨r14, hr14, h⟩ := Option.bind_eq_some_iff.mp h
  refine cl_V (wr := []) [0, 1, 2, 3, 4, 5, 6, 7, 8, 9, 10, 11, 12, 13, 14, 15, 16, 17, 18, 19, 20, 21, 22, 23, 24, 25, 26, 27, 28, 29, 30, 31, 32] [] rfl rfl rfl (by decide) hP hD hS hA (va_runV (As := [.int (t 14 0)]) (rest := []) ⟨hx, hb, hml, hown, htb⟩ (c_Mo_between l g F a_t t tL (t 14 0) _ hr14 H.size) (cw_V htb mb_Mo_between (htb _ L_Mo_355) rfl rfl ⟨Nat.le_of_ble_eq_true rfl, Nat.le_of_ble_eq_true rfl⟩) (pre_V (va_recv hK hP (ci := 8) (q0 := 0) rfl rfl) (pre_S [0, 1, 2, 3, 4, 5, 6, 7, 8, 9, 10, 11, 12, 13, 14, 15, 16, 17, 18, 19, 20, 21, 22, 23, 24, 25, 26, 27, 28, 29, 30, 31, 32] rfl rfl hP hD hS hA hAA hG)) rfl rfl hl.1 rfl (lv_room (Nat.le_of_ble_eq_true rfl)) d_Mo_behind_29 ⟨Nat.zero_le _, Nat.zero_le _⟩) (fun H locs hP hD hS => ?_)
  have hP : va_P (gD g) vwCl ((pic_Mo g a_t r14.1 r14.2)) H := hP.sub [0, 1, 2, 3, 4, 5, 6, 7, 8, 9, 10, 11, 12, 13, 14, 15, 16, 17, 18, 19, 20, 21, 22, 23, 24, 25, 26, 27, 28, 29, 30, 31, 32] rfl
  have hD : va_D A ((pic_Mo g a_t r14.1 r14.2)) := hD.sub [0, 1, 2, 3, 4, 5, 6, 7, 8, 9, 10, 11, 12, 13, 14, 15, 16, 17, 18, 19, 20, 21, 22, 23, 24, 25, 26, 27, 28, 29, 30, 31, 32] rfl rfl
  refine lv_iconst (v := 0) hx hb d_Mo_behind_32 (by decide) ?_
  cases h
  exact W.zret hx hb hr rfl (fun t ht hW => ⟨⟨_, (), rfl, rfl, by rw [ht]; exact hP, hD⟩, hS.F ht⟩) hS.2.2 d_Mo_behind_33
set_option maxHeartbeats 4000000 in
set_option maxRecDepth 100000 in
theorem k_Mo_behind {p : Program} {l : Launch} {e : Env} {s : State} {m : MethodId} {args : Array Value} {below : List Frame} {meth : Method} {c : Code} {g : Gz} {A : Nat → Prop} {F : Nat} {a_t : Nat → Nat} (hC : Cx prog_10_method_43_code 1 (some .boolean) R_Mo p s m args meth c g A A) : ∀ (t : StI) (tL : StL) (res : Int32 × StI × StL), Mo_behind F t tL = some res → Go p l e rm_Mo_behind s m args below meth c g A A 1 (MQ below (EI g ((pic_Mo g a_t res.2.1 res.2.2)) res.1 A) args s 0 0 A) ((pic_Mo g a_t t tL)) [(0, .ref (a_t 0))] 0 [] := by
  obtain ⟨hx, hb, hr, hml, hown, htb, hlocks, hA, hAA, hG⟩ := id hC
  have hK := hG.1
  intro t tL res h H locs ls hP hD hS hl
  rw [Mo_behind] at h
  refine lv_aload_n hx hb d_Mo_behind_0 rfl (lv_at hl 0 rfl) ?_
  refine va_get (D := gD g) (ci := 8) (v := .int (t 14 0)) (C := R_Mo) (T := T_Mo) (N := 64) hx hb htb in_Mo hown hK hP 0 rfl rfl 14 (by decide) (htb _ L_Mo_211) (fun _ h9 => h9) rfl d_Mo_behind_1 ?_
  refine lv_iconst (v := 3) hx hb d_Mo_behind_4 (by decide) ?_
  refine lv_icmp_eq (tgt := 24) hx hb d_Mo_behind_5 (by decide) (fun c15 => ?_) (fun c15 => ?_)
  · replace h := (if_pos c15).symm.trans h
    exact k_Mo_behind_24 hC _ _ _ h _ _ _ hP hD hS (lv_sub hl [0] rfl)
  · replace h := (if_neg c15).symm.trans h
    refine lv_aload_n hx hb d_Mo_behind_8 rfl (lv_at hl 0 rfl) ?_
    refine va_get (D := gD g) (ci := 8) (v := .int (t 14 0)) (C := R_Mo) (T := T_Mo) (N := 64) hx hb htb in_Mo hown hK hP 0 rfl rfl 14 (by decide) (htb _ L_Mo_211) (fun _ h9 => h9) rfl d_Mo_behind_9 ?_
    refine lv_iconst (v := 1) hx hb d_Mo_behind_12 (by decide) ?_
    refine lv_icmp_eq (tgt := 24) hx hb d_Mo_behind_13 (by decide) (fun c16 => ?_) (fun c16 => ?_)
    · replace h := (if_pos c16).symm.trans h
      exact k_Mo_behind_24 hC _ _ _ h _ _ _ hP hD hS (lv_sub hl [0] rfl)
    · replace h := (if_neg c16).symm.trans h
      refine lv_aload_n hx hb d_Mo_behind_16 rfl (lv_at hl 0 rfl) ?_
      refine va_get (D := gD g) (ci := 8) (v := .int (t 14 0)) (C := R_Mo) (T := T_Mo) (N := 64) hx hb htb in_Mo hown hK hP 0 rfl rfl 14 (by decide) (htb _ L_Mo_211) (fun _ h9 => h9) rfl d_Mo_behind_17 ?_
      refine lv_iconst (v := 2) hx hb d_Mo_behind_20 (by decide) ?_
      refine lv_icmp_ne (tgt := 34) hx hb d_Mo_behind_21 (by decide) (fun c17 => ?_) (fun c17 => ?_)
      · replace h := (if_neg c17).symm.trans h
        refine lv_aload_n hx hb d_Mo_behind_34 rfl (lv_at hl 0 rfl) ?_
        refine va_get (D := gD g) (ci := 8) (v := .int (t 14 0)) (C := R_Mo) (T := T_Mo) (N := 64) hx hb htb in_Mo hown hK hP 0 rfl rfl 14 (by decide) (htb _ L_Mo_211) (fun _ h9 => h9) rfl d_Mo_behind_35 ?_
        refine lv_bipush (v := 6) hx hb d_Mo_behind_38 (by decide) ?_
        refine lv_icmp_ne (tgt := 88) hx hb d_Mo_behind_40 (by decide) (fun c18 => ?_) (fun c18 => ?_)
        · replace h := (if_neg c18).symm.trans h
          refine lv_aload_n hx hb d_Mo_behind_88 rfl (lv_at hl 0 rfl) ?_
          refine lv_iconst (v := 3) hx hb d_Mo_behind_89 (by decide) ?_
          obtain ⟨r19, hr19, h⟩ := Option.bind_eq_some_iff.mp h
          refine cl_V (wr := []) [0, 1, 2, 3, 4, 5, 6, 7, 8, 9, 10, 11, 12, 13, 14, 15, 16, 17, 18, 19, 20, 21, 22, 23, 24, 25, 26, 27, 28, 29, 30, 31, 32] [] rfl rfl rfl (by decide) hP hD hS hA (va_runV (As := [.int (3 : Int32)]) (rest := []) ⟨hx, hb, hml, hown, htb⟩ (c_Mo_between l g F a_t t tL (3 : Int32) _ hr19 H.size) (cw_V htb mb_Mo_between (htb _ L_Mo_355) rfl rfl ⟨Nat.le_of_ble_eq_true rfl, Nat.le_of_ble_eq_true rfl⟩) (pre_V (va_recv hK hP (ci := 8) (q0 := 0) rfl rfl) (pre_S [0, 1, 2, 3, 4, 5, 6, 7, 8, 9, 10, 11, 12, 13, 14, 15, 16, 17, 18, 19, 20, 21, 22, 23, 24, 25, 26, 27, 28, 29, 30, 31, 32] rfl rfl hP hD hS hA hAA hG)) rfl rfl hl.1 rfl (lv_room (Nat.le_of_ble_eq_true rfl)) d_Mo_behind_90 ⟨Nat.zero_le _, Nat.zero_le _⟩) (fun H locs hP hD hS => ?_)
          have hP : va_P (gD g) vwCl ((pic_Mo g a_t r19.1 r19.2)) H := hP.sub [0, 1, 2, 3, 4, 5, 6, 7, 8, 9, 10, 11, 12, 13, 14, 15, 16, 17, 18, 19, 20, 21, 22, 23, 24, 25, 26, 27, 28, 29, 30, 31, 32] rfl
          have hD : va_D A ((pic_Mo g a_t r19.1 r19.2)) := hD.sub [0, 1, 2, 3, 4, 5, 6, 7, 8, 9, 10, 11, 12, 13, 14, 15, 16, 17, 18, 19, 20, 21, 22, 23, 24, 25, 26, 27, 28, 29, 30, 31, 32] rfl rfl
          refine lv_aload_n hx hb d_Mo_behind_93 rfl (lv_at hl 0 rfl) ?_
          obtain ⟨r20, hr20, h⟩ := Option.bind_eq_some_iff.mp h
          refine cl_I (wr := []) [0, 1, 2, 3, 4, 5, 6, 7, 8, 9, 10, 11, 12, 13, 14, 15, 16, 17, 18, 19, 20, 21, 22, 23, 24, 25, 26, 27, 28, 29, 30, 31, 32] [] rfl rfl rfl (by decide) hP hD hS hA (va_runV (As := []) (rest := []) ⟨hx, hb, hml, hown, htb⟩ (c_Mo_operand l g F a_t r19.1 r19.2 _ hr20 H.size) (cw_V htb mb_Mo_operand (htb _ L_Mo_358) rfl rfl ⟨Nat.le_of_ble_eq_true rfl, Nat.le_of_ble_eq_true rfl⟩) (pre_V (va_recv hK hP (ci := 8) (q0 := 0) rfl rfl) (pre_S [0, 1, 2, 3, 4, 5, 6, 7, 8, 9, 10, 11, 12, 13, 14, 15, 16, 17, 18, 19, 20, 21, 22, 23, 24, 25, 26, 27, 28, 29, 30, 31, 32] rfl rfl hP hD hS hA hAA hG)) rfl rfl hl.1 rfl (lv_room (Nat.le_of_ble_eq_true rfl)) d_Mo_behind_94 ⟨Nat.zero_le _, Nat.zero_le _⟩) (fun H locs hP hD hS => ?_)
          have hP : va_P (gD g) vwCl ((pic_Mo g a_t r20.2.1 r20.2.2)) H := hP.sub [0, 1, 2, 3, 4, 5, 6, 7, 8, 9, 10, 11, 12, 13, 14, 15, 16, 17, 18, 19, 20, 21, 22, 23, 24, 25, 26, 27, 28, 29, 30, 31, 32] rfl
          have hD : va_D A ((pic_Mo g a_t r20.2.1 r20.2.2)) := hD.sub [0, 1, 2, 3, 4, 5, 6, 7, 8, 9, 10, 11, 12, 13, 14, 15, 16, 17, 18, 19, 20, 21, 22, 23, 24, 25, 26, 27, 28, 29, 30, 31, 32] rfl rfl
          by_cases c21 : (r20.1 = 0 ∨ r20.1 = 1)
          rotate_left
          · replace h := (if_neg c21).symm.trans h
            cases h
          replace h := (if_pos c21).symm.trans h
          cases h
          exact W.zret hx hb hr (by rcases c21 with c21 | c21 <;> rw [c21] <;> rfl) (fun t ht hW => ⟨⟨_, (), rfl, rfl, by rw [ht]; exact hP, hD⟩, hS.F ht⟩) hS.2.2 d_Mo_behind_97
        · replace h := (if_pos c18).symm.trans h
          refine lv_aload_n hx hb d_Mo_behind_43 rfl (lv_at hl 0 rfl) ?_
          refine va_get (D := gD g) (ci := 8) (v := .int (t 37 0)) (C := R_Mo) (T := T_Mo) (N := 64) hx hb htb in_Mo hown hK hP 0 rfl rfl 37 (by decide) (htb _ L_Mo_349) (fun _ h9 => h9) rfl d_Mo_behind_44 ?_
          refine lv_if_ne (tgt := 61) hx hb d_Mo_behind_47 (by decide) (fun c22 => ?_) (fun c22 => ?_)
          · replace h := (if_neg c22).symm.trans h
            refine lv_aload_n hx hb d_Mo_behind_61 rfl (lv_at hl 0 rfl) ?_
            refine lv_iconst (v := 1) hx hb d_Mo_behind_62 (by decide) ?_
            obtain ⟨r23, hr23, h⟩ := Option.bind_eq_some_iff.mp h
            refine cl_V (wr := []) [0, 1, 2, 3, 4, 5, 6, 7, 8, 9, 10, 11, 12, 13, 14, 15, 16, 17, 18, 19, 20, 21, 22, 23, 24, 25, 26, 27, 28, 29, 30, 31, 32] [] rfl rfl rfl (by decide) hP hD hS hA (va_runV (As := [.int (1 : Int32)]) (rest := []) ⟨hx, hb, hml, hown, htb⟩ (c_Mo_reduceTo l g F a_t t tL (1 : Int32) _ hr23 H.size) (cw_V htb mb_Mo_reduceTo (htb _ L_Mo_343) rfl rfl ⟨Nat.le_of_ble_eq_true rfl, Nat.le_of_ble_eq_true rfl⟩) (pre_V (va_recv hK hP (ci := 8) (q0 := 0) rfl rfl) (pre_S [0, 1, 2, 3, 4, 5, 6, 7, 8, 9, 10, 11, 12, 13, 14, 15, 16, 17, 18, 19, 20, 21, 22, 23, 24, 25, 26, 27, 28, 29, 30, 31, 32] rfl rfl hP hD hS hA hAA hG)) rfl rfl hl.1 rfl (lv_room (Nat.le_of_ble_eq_true rfl)) d_Mo_behind_63 ⟨Nat.zero_le _, Nat.zero_le _⟩) (fun H locs hP hD hS => ?_)
            have hP : va_P (gD g) vwCl ((pic_Mo g a_t r23.1 r23.2)) H := hP.sub [0, 1, 2, 3, 4, 5, 6, 7, 8, 9, 10, 11, 12, 13, 14, 15, 16, 17, 18, 19, 20, 21, 22, 23, 24, 25, 26, 27, 28, 29, 30, 31, 32] rfl
            have hD : va_D A ((pic_Mo g a_t r23.1 r23.2)) := hD.sub [0, 1, 2, 3, 4, 5, 6, 7, 8, 9, 10, 11, 12, 13, 14, 15, 16, 17, 18, 19, 20, 21, 22, 23, 24, 25, 26, 27, 28, 29, 30, 31, 32] rfl rfl
            refine lv_aload_n hx hb d_Mo_behind_66 rfl (lv_at hl 0 rfl) ?_
            refine lv_dup hx hb d_Mo_behind_67 rfl ?_
            refine va_get (D := gD g) (ci := 8) (v := .int (r23.1 36 0)) (C := R_Mo) (T := T_Mo) (N := 64) hx hb htb in_Mo hown hK hP 0 rfl rfl 36 (by decide) (htb _ L_Mo_337) (fun _ h9 => h9) rfl d_Mo_behind_68 ?_
            refine lv_iconst (v := 1) hx hb d_Mo_behind_71 (by decide) ?_
            refine lv_isub hx hb d_Mo_behind_72 ?_
            refine va_put (D := gD g) (ci := 8) (v := .int ((r23.1 36 0) - (1 : Int32))) (ty := .int) (C := R_Mo) (T := T_Mo) (N := 64) hx hb htb in_Mo ty_Mo ty_Mo_ok nm_Mo hown hK hP hD hS 0 rfl rfl 36 (by decide) (htb _ L_Mo_337) (fun _ h9 => h9) rfl (by decide +kernel) rfl rfl (Nat.le_of_ble_eq_true rfl) d_Mo_behind_73 (fun H locs hP hD hS => ?_)
            obtain ⟨t_24, et_24, h⟩ := letS_el h
            have hP : va_P (gD g) vwCl ((pic_Mo g a_t t_24 r23.2)) H := by rw [et_24]; exact hP
            have hD : va_D A ((pic_Mo g a_t t_24 r23.2)) := by rw [et_24]; exact hD
            refine lv_aload_n hx hb d_Mo_behind_76 rfl (lv_at hl 0 rfl) ?_
            refine lv_dup hx hb d_Mo_behind_77 rfl ?_
            refine va_get (D := gD g) (ci := 8) (v := .int (t_24 37 0)) (C := R_Mo) (T := T_Mo) (N := 64) hx hb htb in_Mo hown hK hP 0 rfl rfl 37 (by decide) (htb _ L_Mo_349) (fun _ h9 => h9) rfl d_Mo_behind_78 ?_
            refine lv_iconst (v := 1) hx hb d_Mo_behind_81 (by decide) ?_
            refine lv_isub hx hb d_Mo_behind_82 ?_
            refine va_put (D := gD g) (ci := 8) (v := .int ((t_24 37 0) - (1 : Int32))) (ty := .int) (C := R_Mo) (T := T_Mo) (N := 64) hx hb htb in_Mo ty_Mo ty_Mo_ok nm_Mo hown hK hP hD hS 0 rfl rfl 37 (by decide) (htb _ L_Mo_349) (fun _ h9 => h9) rfl (by decide +kernel) rfl rfl (Nat.le_of_ble_eq_true rfl) d_Mo_behind_83 (fun H locs hP hD hS => ?_)
            obtain ⟨t_25, et_25, h⟩ := letS_el h
            have hP : va_P (gD g) vwCl ((pic_Mo g a_t t_25 r23.2)) H := by rw [et_25]; exact hP
            have hD : va_D A ((pic_Mo g a_t t_25 r23.2)) := by rw [et_25]; exact hD
            refine lv_iconst (v := 1) hx hb d_Mo_behind_86 (by decide) ?_
            cases h
            exact W.zret hx hb hr rfl (fun t ht hW => ⟨⟨_, (), rfl, rfl, by rw [ht]; exact hP, hD⟩, hS.F ht⟩) hS.2.2 d_Mo_behind_87
          · replace h := (if_pos c22).symm.trans h
            refine lv_aload_n hx hb d_Mo_behind_50 rfl (lv_at hl 0 rfl) ?_
            refine lv_iconst (v := 1) hx hb d_Mo_behind_51 (by decide) ?_
            refine lv_aload_n hx hb d_Mo_behind_52 rfl (lv_at hl 0 rfl) ?_
            refine va_get (D := gD g) (ci := 8) (v := .int (t 15 0)) (C := R_Mo) (T := T_Mo) (N := 64) hx hb htb in_Mo hown hK hP 0 rfl rfl 15 (by decide) (htb _ L_Mo_208) (fun _ h9 => h9) rfl d_Mo_behind_53 ?_
            obtain ⟨r26, hr26, h⟩ := Option.bind_eq_some_iff.mp h
            refine cl_V (wr := []) [0, 1, 2, 3, 4, 5, 6, 7, 8, 9, 10, 11, 12, 13, 14, 15, 16, 17, 18, 19, 20, 21, 22, 23, 24, 25, 26, 27, 28, 29, 30, 31, 32] [] rfl rfl rfl (by decide) hP hD hS hA (va_runV (As := [.int (1 : Int32), .int (t 15 0)]) (rest := []) ⟨hx, hb, hml, hown, htb⟩ (c_Mo_fail l g F a_t t tL (1 : Int32) (t 15 0) _ hr26 H.size) (cw_V htb mb_Mo_fail (htb _ L_Mo_217) rfl rfl ⟨Nat.le_of_ble_eq_true rfl, Nat.le_of_ble_eq_true rfl⟩) (pre_V (va_recv hK hP (ci := 8) (q0 := 0) rfl rfl) (pre_S [0, 1, 2, 3, 4, 5, 6, 7, 8, 9, 10, 11, 12, 13, 14, 15, 16, 17, 18, 19, 20, 21, 22, 23, 24, 25, 26, 27, 28, 29, 30, 31, 32] rfl rfl hP hD hS hA hAA hG)) rfl rfl hl.1 rfl (lv_room (Nat.le_of_ble_eq_true rfl)) d_Mo_behind_56 ⟨Nat.zero_le _, Nat.zero_le _⟩) (fun H locs hP hD hS => ?_)
            have hP : va_P (gD g) vwCl ((pic_Mo g a_t r26.1 r26.2)) H := hP.sub [0, 1, 2, 3, 4, 5, 6, 7, 8, 9, 10, 11, 12, 13, 14, 15, 16, 17, 18, 19, 20, 21, 22, 23, 24, 25, 26, 27, 28, 29, 30, 31, 32] rfl
            have hD : va_D A ((pic_Mo g a_t r26.1 r26.2)) := hD.sub [0, 1, 2, 3, 4, 5, 6, 7, 8, 9, 10, 11, 12, 13, 14, 15, 16, 17, 18, 19, 20, 21, 22, 23, 24, 25, 26, 27, 28, 29, 30, 31, 32] rfl rfl
            refine lv_iconst (v := 1) hx hb d_Mo_behind_59 (by decide) ?_
            cases h
            exact W.zret hx hb hr rfl (fun t ht hW => ⟨⟨_, (), rfl, rfl, by rw [ht]; exact hP, hD⟩, hS.F ht⟩) hS.2.2 d_Mo_behind_60
      · replace h := (if_pos c17).symm.trans h
        exact k_Mo_behind_24 hC _ _ _ h _ _ _ hP hD hS (lv_sub hl [0] rfl)
theorem c_Mo_behind (l : Launch) (g : Gz) (F : Nat) (a_t : Nat → Nat) (t : StI) (tL : StL) (res : Int32 × StI × StL) (h : Mo_behind F t tL = some res) : ∀ sz : Nat, Met l y_Mo_behind (.code y_Mo_behind prog_10_method_43_code 1 (some .boolean) :: TBL) rm_Mo_behind (va_Pc [.ref (a_t 0)] (Pre0 g ((pic_Mo g a_t t tL)) sz)) (EI g ((pic_Mo g a_t res.2.1 res.2.2)) res.1 (va_A ((pic_Mo g a_t t tL)) sz)) 0 0 (va_A ((pic_Mo g a_t t tL)) sz) :=
  ct_w (Qc := fun A => EI g ((pic_Mo g a_t res.2.1 res.2.2)) res.1 A) (by decide) (Nat.le_of_ble_eq_true rfl) (fun p e s m args below meth c A hC => k_Mo_behind hC t tL res h)
def Mo_readAll_142 (F : Nat) (t : StI) (tL : StL) : Option (StI × StL) := if (t 9 0) = 0 then (Mo_reduceTo F t tL (1 : Int32)).bind fun r30 => if (0 : Int32) < 0 ∨ 700 ≤ (0 : Int32).toNatClampNeg then none else letS (va_up r30.1 31 (fun _ => ((r30.1 38) (0 : Int32).toNatClampNeg))) fun t_32 => some (t_32, r30.2) else some (t, tL)
def Mo_readAll_133 (F : Nat) (t : StI) (tL : StL) : Option (StI × StL) := (Mo_fail F t tL (1 : Int32) (t 6 0)).bind fun r33 => Mo_readAll_142 F r33.1 r33.2
def Mo_readAll_115 (F : Nat) (t : StI) (tL : StL) (x1 : Int32) : Option (StI × StL) := if (t 9 0) = 0 then if x1 = 0 then Mo_readAll_133 F t tL else if (t 37 0) ≤ 0 then Mo_readAll_142 F t tL else Mo_readAll_133 F t tL else Mo_readAll_142 F t tL
def Mo_readAll_100 (F : Nat) (k71 : StI → StL → Int32 → Option (StI × StL)) (t : StI) (tL : StL) (y0 : Int32) : Option (StI × StL) := if (t 9 0) = 0 then (Mo_next F t tL).bind fun r38 => k71 r38.1 r38.2 y0 else k71 t tL y0
def Mo_readAll_71 (F : Nat) : Nat → StI → StL → Int32 → Option (StI × StL)
  | 0, _, _, _ => none
  | n + 1, t, tL, x1 => if (t 9 0) = 0 then if (t 14 0) = 0 then Mo_readAll_115 F t tL x1 else if x1 = 0 then (Mo_operand F t tL).bind fun r42 => Mo_readAll_100 F (Mo_readAll_71 F n) r42.2.1 r42.2.2 r42.1 else (Mo_behind F t tL).bind fun r43 => Mo_readAll_100 F (Mo_readAll_71 F n) r43.2.1 r43.2.2 r43.1 else Mo_readAll_115 F t tL x1
def Mo_readAll_69 (F : Nat) (t : StI) (tL : StL) : Option (StI × StL) := Mo_readAll_71 F F t tL (0 : Int32)
def Mo_readAll (F : Nat) (t : StI) (tL : StL) : Option (StI × StL) := letS (va_up t 8 (fun _ => (0 : Int32))) fun t_44 => letS (va_up t_44 9 (fun _ => (0 : Int32))) fun t_45 => letS (va_up t_45 10 (fun _ => (-1 : Int32))) fun t_46 => letS (va_up t_46 20 (fun _ => (0 : Int32))) fun t_47 => letS (va_up t_47 21 (fun _ => (0 : Int32))) fun t_48 => letS (va_up t_48 30 (fun _ => (0 : Int32))) fun t_49 => letS (va_up t_49 35 (fun _ => (0 : Int32))) fun t_50 => letS (va_up t_50 36 (fun _ => (0 : Int32))) fun t_51 => letS (va_up t_51 37 (fun _ => (0 : Int32))) fun t_52 => letS (va_up t_52 31 (fun _ => (-1 : Int32))) fun t_53 => (Mo_next F t_53 tL).bind fun r54 => if (r54.1 9 0) = 0 then if (r54.1 14 0) = 0 then some (r54.1, r54.2) else Mo_readAll_69 F r54.1 r54.2 else Mo_readAll_69 F r54.1 r54.2
set_option maxHeartbeats 4000000 in
set_option maxRecDepth 100000 in
theorem k_Mo_readAll_142 {p : Program} {l : Launch} {e : Env} {s : State} {m : MethodId} {args : Array Value} {below : List Frame} {meth : Method} {c : Code} {g : Gz} {A : Nat → Prop} {F : Nat} {a_t : Nat → Nat} (hC : Cx prog_10_method_44_code 2 none R_Mo p s m args meth c g A A) : ∀ (t : StI) (tL : StL) (res : StI × StL), Mo_readAll_142 F t tL = some res → Go p l e rm_Mo_readAll s m args below meth c g A A 2 (MQ below (EV g ((pic_Mo g a_t res.1 res.2)) A) args s 0 0 A) ((pic_Mo g a_t t tL)) [(0, .ref (a_t 0))] 142 [] := by
  obtain ⟨hx, hb, hr, hml, hown, htb, hlocks, hA, hAA, hG⟩ := id hC
  have hK := hG.1
  intro t tL res h H locs ls hP hD hS hl
  rw [Mo_readAll_142] at h
  refine lv_aload_n hx hb d_Mo_readAll_142 rfl (lv_at hl 0 rfl) ?_
  refine va_get (D := gD g) (ci := 8) (v := .int (t 9 0)) (C := R_Mo) (T := T_Mo) (N := 64) hx hb htb in_Mo hown hK hP 0 rfl rfl 9 (by decide) (htb _ L_Mo_157) (fun _ h9 => h9) rfl d_Mo_readAll_143 ?_
  refine lv_if_ne (tgt := 164) hx hb d_Mo_readAll_146 (by decide) (fun c29 => ?_) (fun c29 => ?_)
  · replace h := (if_neg c29).symm.trans h
    cases h
    exact W.vret hx hb hr (fun t ht hW => ⟨⟨(), rfl, trivial, by rw [ht]; exact hP, hD⟩, hS.F ht⟩) hS.2.2 d_Mo_readAll_164
  · replace h := (if_pos c29).symm.trans h
    refine lv_aload_n hx hb d_Mo_readAll_149 rfl (lv_at hl 0 rfl) ?_
    refine lv_iconst (v := 1) hx hb d_Mo_readAll_150 (by decide) ?_
    obtain ⟨r30, hr30, h⟩ := Option.bind_eq_some_iff.mp h
    refine cl_V (wr := []) [0, 1, 2, 3, 4, 5, 6, 7, 8, 9, 10, 11, 12, 13, 14, 15, 16, 17, 18, 19, 20, 21, 22, 23, 24, 25, 26, 27, 28, 29, 30, 31, 32] [] rfl rfl rfl (by decide) hP hD hS hA (va_runV (As := [.int (1 : Int32)]) (rest := []) ⟨hx, hb, hml, hown, htb⟩ (c_Mo_reduceTo l g F a_t t tL (1 : Int32) _ hr30 H.size) (cw_V htb mb_Mo_reduceTo (htb _ L_Mo_343) rfl rfl ⟨Nat.le_of_ble_eq_true rfl, Nat.le_of_ble_eq_true rfl⟩) (pre_V (va_recv hK hP (ci := 8) (q0 := 0) rfl rfl) (pre_S [0, 1, 2, 3, 4, 5, 6, 7, 8, 9, 10, 11, 12, 13, 14, 15, 16, 17, 18, 19, 20, 21, 22, 23, 24, 25, 26, 27, 28, 29, 30, 31, 32] rfl rfl hP hD hS hA hAA hG)) rfl rfl hl.1 rfl (lv_room (Nat.le_of_ble_eq_true rfl)) d_Mo_readAll_151 ⟨Nat.zero_le _, Nat.zero_le _⟩) (fun H locs hP hD hS => ?_)
    have hP : va_P (gD g) vwCl ((pic_Mo g a_t r30.1 r30.2)) H := hP.sub [0, 1, 2, 3, 4, 5, 6, 7, 8, 9, 10, 11, 12, 13, 14, 15, 16, 17, 18, 19, 20, 21, 22, 23, 24, 25, 26, 27, 28, 29, 30, 31, 32] rfl
    have hD : va_D A ((pic_Mo g a_t r30.1 r30.2)) := hD.sub [0, 1, 2, 3, 4, 5, 6, 7, 8, 9, 10, 11, 12, 13, 14, 15, 16, 17, 18, 19, 20, 21, 22, 23, 24, 25, 26, 27, 28, 29, 30, 31, 32] rfl rfl
    refine lv_aload_n hx hb d_Mo_readAll_154 rfl (lv_at hl 0 rfl) ?_
    refine lv_aload_n hx hb d_Mo_readAll_155 rfl (lv_at hl 0 rfl) ?_
    refine va_get (D := gD g) (ci := 8) (v := .ref (a_t 39)) (C := R_Mo) (T := T_Mo) (N := 64) hx hb htb in_Mo hown hK hP 0 rfl rfl 38 (by decide) (htb _ L_Mo_92) (fun _ h9 => h9) rfl d_Mo_readAll_156 ?_
    refine lv_iconst (v := 0) hx hb d_Mo_readAll_159 (by decide) ?_
    by_cases c31 : ((0 : Int32) < 0 ∨ 700 ≤ (0 : Int32).toNatClampNeg)
    · replace h := (if_pos c31).symm.trans h
      cases h
    replace h := (if_neg c31).symm.trans h
    refine va_iald hx hb hK hP 17 0 rfl rfl c31 d_Mo_readAll_160 ?_
    refine va_put (D := gD g) (ci := 8) (v := .int ((r30.1 38) (0 : Int32).toNatClampNeg)) (ty := .int) (C := R_Mo) (T := T_Mo) (N := 64) hx hb htb in_Mo ty_Mo ty_Mo_ok nm_Mo hown hK hP hD hS 0 rfl rfl 31 (by decide) (htb _ L_Mo_141) (fun _ h9 => h9) rfl (by decide +kernel) rfl rfl (Nat.le_of_ble_eq_true rfl) d_Mo_readAll_161 (fun H locs hP hD hS => ?_)
    obtain ⟨t_32, et_32, h⟩ := letS_el h
    have hP : va_P (gD g) vwCl ((pic_Mo g a_t t_32 r30.2)) H := by rw [et_32]; exact hP
    have hD : va_D A ((pic_Mo g a_t t_32 r30.2)) := by rw [et_32]; exact hD
    cases h
    exact W.vret hx hb hr (fun t ht hW => ⟨⟨(), rfl, trivial, by rw [ht]; exact hP, hD⟩, hS.F ht⟩) hS.2.2 d_Mo_readAll_164
set_option maxHeartbeats 4000000 in
set_option maxRecDepth 100000 in
theorem k_Mo_readAll_133 {p : Program} {l : Launch} {e : Env} {s : State} {m : MethodId} {args : Array Value} {below : List Frame} {meth : Method} {c : Code} {g : Gz} {A : Nat → Prop} {F : Nat} {a_t : Nat → Nat} (hC : Cx prog_10_method_44_code 2 none R_Mo p s m args meth c g A A) : ∀ (t : StI) (tL : StL) (res : StI × StL), Mo_readAll_133 F t tL = some res → Go p l e rm_Mo_readAll s m args below meth c g A A 2 (MQ below (EV g ((pic_Mo g a_t res.1 res.2)) A) args s 0 0 A) ((pic_Mo g a_t t tL)) [(0, .ref (a_t 0))] 133 [] := by
  obtain ⟨hx, hb, hr, hml, hown, htb, hlocks, hA, hAA, hG⟩ := id hC
  have hK := hG.1
  intro t tL res h H locs ls hP hD hS hl
  rw [Mo_readAll_133] at h
  refine lv_aload_n hx hb d_Mo_readAll_133 rfl (lv_at hl 0 rfl) ?_
  refine lv_iconst (v := 1) hx hb d_Mo_readAll_134 (by decide) ?_
  refine lv_aload_n hx hb d_Mo_readAll_135 rfl (lv_at hl 0 rfl) ?_
  refine va_get (D := gD g) (ci := 8) (v := .int (t 6 0)) (C := R_Mo) (T := T_Mo) (N := 64) hx hb htb in_Mo hown hK hP 0 rfl rfl 6 (by decide) (htb _ L_Mo_154) (fun _ h9 => h9) rfl d_Mo_readAll_136 ?_
  obtain ⟨r33, hr33, h⟩ := Option.bind_eq_some_iff.mp h
  refine cl_V (wr := []) [0, 1, 2, 3, 4, 5, 6, 7, 8, 9, 10, 11, 12, 13, 14, 15, 16, 17, 18, 19, 20, 21, 22, 23, 24, 25, 26, 27, 28, 29, 30, 31, 32] [] rfl rfl rfl (by decide) hP hD hS hA (va_runV (As := [.int (1 : Int32), .int (t 6 0)]) (rest := []) ⟨hx, hb, hml, hown, htb⟩ (c_Mo_fail l g F a_t t tL (1 : Int32) (t 6 0) _ hr33 H.size) (cw_V htb mb_Mo_fail (htb _ L_Mo_217) rfl rfl ⟨Nat.le_of_ble_eq_true rfl, Nat.le_of_ble_eq_true rfl⟩) (pre_V (va_recv hK hP (ci := 8) (q0 := 0) rfl rfl) (pre_S [0, 1, 2, 3, 4, 5, 6, 7, 8, 9, 10, 11, 12, 13, 14, 15, 16, 17, 18, 19, 20, 21, 22, 23, 24, 25, 26, 27, 28, 29, 30, 31, 32] rfl rfl hP hD hS hA hAA hG)) rfl rfl hl.1 rfl (lv_room (Nat.le_of_ble_eq_true rfl)) d_Mo_readAll_139 ⟨Nat.zero_le _, Nat.zero_le _⟩) (fun H locs hP hD hS => ?_)
  have hP : va_P (gD g) vwCl ((pic_Mo g a_t r33.1 r33.2)) H := hP.sub [0, 1, 2, 3, 4, 5, 6, 7, 8, 9, 10, 11, 12, 13, 14, 15, 16, 17, 18, 19, 20, 21, 22, 23, 24, 25, 26, 27, 28, 29, 30, 31, 32] rfl
  have hD : va_D A ((pic_Mo g a_t r33.1 r33.2)) := hD.sub [0, 1, 2, 3, 4, 5, 6, 7, 8, 9, 10, 11, 12, 13, 14, 15, 16, 17, 18, 19, 20, 21, 22, 23, 24, 25, 26, 27, 28, 29, 30, 31, 32] rfl rfl
  exact k_Mo_readAll_142 hC _ _ _ h _ _ _ hP hD hS (lv_sub hl [0] rfl)
set_option maxHeartbeats 4000000 in
set_option maxRecDepth 100000 in
theorem k_Mo_readAll_115 {p : Program} {l : Launch} {e : Env} {s : State} {m : MethodId} {args : Array Value} {below : List Frame} {meth : Method} {c : Code} {g : Gz} {A : Nat → Prop} {F : Nat} {a_t : Nat → Nat} (hC : Cx prog_10_method_44_code 2 none R_Mo p s m args meth c g A A) : ∀ (t : StI) (tL : StL) (x1 : Int32) (res : StI × StL), Mo_readAll_115 F t tL x1 = some res → Go p l e rm_Mo_readAll s m args below meth c g A A 2 (MQ below (EV g ((pic_Mo g a_t res.1 res.2)) A) args s 0 0 A) ((pic_Mo g a_t t tL)) [(0, .ref (a_t 0)), (1, .int x1)] 115 [] := by
  obtain ⟨hx, hb, hr, hml, hown, htb, hlocks, hA, hAA, hG⟩ := id hC
  have hK := hG.1
  intro t tL x1 res h H locs ls hP hD hS hl
  rw [Mo_readAll_115] at h
  refine lv_aload_n hx hb d_Mo_readAll_115 rfl (lv_at hl 0 rfl) ?_
  refine va_get (D := gD g) (ci := 8) (v := .int (t 9 0)) (C := R_Mo) (T := T_Mo) (N := 64) hx hb htb in_Mo hown hK hP 0 rfl rfl 9 (by decide) (htb _ L_Mo_157) (fun _ h9 => h9) rfl d_Mo_readAll_116 ?_
  refine lv_if_ne (tgt := 142) hx hb d_Mo_readAll_119 (by decide) (fun c34 => ?_) (fun c34 => ?_)
  · replace h := (if_neg c34).symm.trans h
    exact k_Mo_readAll_142 hC _ _ _ h _ _ _ hP hD hS (lv_sub hl [0] rfl)
  · replace h := (if_pos c34).symm.trans h
    refine lv_iload_n hx hb d_Mo_readAll_122 rfl (lv_at hl 1 rfl) ?_
    refine lv_if_eq (tgt := 133) hx hb d_Mo_readAll_123 (by decide) (fun c35 => ?_) (fun c35 => ?_)
    · replace h := (if_pos c35).symm.trans h
      exact k_Mo_readAll_133 hC _ _ _ h _ _ _ hP hD hS (lv_sub hl [0] rfl)
    · replace h := (if_neg c35).symm.trans h
      refine lv_aload_n hx hb d_Mo_readAll_126 rfl (lv_at hl 0 rfl) ?_
      refine va_get (D := gD g) (ci := 8) (v := .int (t 37 0)) (C := R_Mo) (T := T_Mo) (N := 64) hx hb htb in_Mo hown hK hP 0 rfl rfl 37 (by decide) (htb _ L_Mo_349) (fun _ h9 => h9) rfl d_Mo_readAll_127 ?_
      refine lv_if_le (tgt := 142) hx hb d_Mo_readAll_130 (by decide) (fun c36 => ?_) (fun c36 => ?_)
      · replace h := (if_pos c36).symm.trans h
        exact k_Mo_readAll_142 hC _ _ _ h _ _ _ hP hD hS (lv_sub hl [0] rfl)
      · replace h := (if_neg c36).symm.trans h
        exact k_Mo_readAll_133 hC _ _ _ h _ _ _ hP hD hS (lv_sub hl [0] rfl)
set_option maxHeartbeats 4000000 in
set_option maxRecDepth 100000 in
theorem k_Mo_readAll_100 {p : Program} {l : Launch} {e : Env} {s : State} {m : MethodId} {args : Array Value} {below : List Frame} {meth : Method} {c : Code} {g : Gz} {A : Nat → Prop} {F : Nat} {a_t : Nat → Nat} {k71 : StI → StL → Int32 → Option (StI × StL)} (hC : Cx prog_10_method_44_code 2 none R_Mo p s m args meth c g A A) : ∀ (t : StI) (tL : StL) (y0 : Int32) (res : StI × StL), Mo_readAll_100 F k71 t tL y0 = some res → (∀ (t : StI) (tL : StL) (x1 : Int32), k71 t tL x1 = some res → Go p l e rm_Mo_readAll s m args below meth c g A A 2 (MQ below (EV g ((pic_Mo g a_t res.1 res.2)) A) args s 0 0 A) ((pic_Mo g a_t t tL)) [(0, .ref (a_t 0)), (1, .int x1)] 71 []) → Go p l e rm_Mo_readAll s m args below meth c g A A 2 (MQ below (EV g ((pic_Mo g a_t res.1 res.2)) A) args s 0 0 A) ((pic_Mo g a_t t tL)) [(0, .ref (a_t 0))] 100 [.int y0] := by
  obtain ⟨hx, hb, hr, hml, hown, htb, hlocks, hA, hAA, hG⟩ := id hC
  have hK := hG.1
  intro t tL y0 res h hk71 H locs ls hP hD hS hl
  rw [Mo_readAll_100] at h
  refine lv_istore_n (lv' := [(1, .int y0), (0, .ref (a_t 0))]) hx hb d_Mo_readAll_100 rfl hl (by decide) rfl (fun ls hl => ?_)
  refine lv_aload_n hx hb d_Mo_readAll_101 rfl (lv_at hl 1 rfl) ?_
  refine va_get (D := gD g) (ci := 8) (v := .int (t 9 0)) (C := R_Mo) (T := T_Mo) (N := 64) hx hb htb in_Mo hown hK hP 0 rfl rfl 9 (by decide) (htb _ L_Mo_157) (fun _ h9 => h9) rfl d_Mo_readAll_102 ?_
  refine lv_if_ne (tgt := 71) hx hb d_Mo_readAll_105 (by decide) (fun c37 => ?_) (fun c37 => ?_)
  · replace h := (if_neg c37).symm.trans h
    exact hk71 _ _ _ h _ _ _ hP hD hS (lv_sub hl [1, 0] rfl)
  · replace h := (if_pos c37).symm.trans h
    refine lv_aload_n hx hb d_Mo_readAll_108 rfl (lv_at hl 1 rfl) ?_
    obtain ⟨r38, hr38, h⟩ := Option.bind_eq_some_iff.mp h
    refine cl_V (wr := []) [0, 1, 2, 3, 4, 5, 6, 7, 8, 9, 10, 11, 12, 13, 14, 15, 16, 17, 18, 19, 20, 21, 22, 23, 24, 25, 26, 27, 28, 29, 30, 31, 32] [] rfl rfl rfl (by decide) hP hD hS hA (va_runV (As := []) (rest := []) ⟨hx, hb, hml, hown, htb⟩ (c_Mo_next l g F a_t t tL _ hr38 H.size) (cw_V htb mb_Mo_next (htb _ L_Mo_361) rfl rfl ⟨Nat.le_of_ble_eq_true rfl, Nat.le_of_ble_eq_true rfl⟩) (pre_V (va_recv hK hP (ci := 8) (q0 := 0) rfl rfl) (pre_S [0, 1, 2, 3, 4, 5, 6, 7, 8, 9, 10, 11, 12, 13, 14, 15, 16, 17, 18, 19, 20, 21, 22, 23, 24, 25, 26, 27, 28, 29, 30, 31, 32] rfl rfl hP hD hS hA hAA hG)) rfl rfl hl.1 rfl (lv_room (Nat.le_of_ble_eq_true rfl)) d_Mo_readAll_109 ⟨Nat.zero_le _, Nat.zero_le _⟩) (fun H locs hP hD hS => ?_)
    have hP : va_P (gD g) vwCl ((pic_Mo g a_t r38.1 r38.2)) H := hP.sub [0, 1, 2, 3, 4, 5, 6, 7, 8, 9, 10, 11, 12, 13, 14, 15, 16, 17, 18, 19, 20, 21, 22, 23, 24, 25, 26, 27, 28, 29, 30, 31, 32] rfl
    have hD : va_D A ((pic_Mo g a_t r38.1 r38.2)) := hD.sub [0, 1, 2, 3, 4, 5, 6, 7, 8, 9, 10, 11, 12, 13, 14, 15, 16, 17, 18, 19, 20, 21, 22, 23, 24, 25, 26, 27, 28, 29, 30, 31, 32] rfl rfl
    refine lv_goto (tgt := 71) hx hb d_Mo_readAll_112 (by decide) ?_
    exact hk71 _ _ _ h _ _ _ hP hD hS (lv_sub hl [1, 0] rfl)
set_option maxHeartbeats 4000000 in
set_option maxRecDepth 100000 in
theorem k_Mo_readAll_71 {p : Program} {l : Launch} {e : Env} {s : State} {m : MethodId} {args : Array Value} {below : List Frame} {meth : Method} {c : Code} {g : Gz} {A : Nat → Prop} {F : Nat} {a_t : Nat → Nat} (hC : Cx prog_10_method_44_code 2 none R_Mo p s m args meth c g A A) : ∀ (n : Nat) (t : StI) (tL : StL) (x1 : Int32) (res : StI × StL), Mo_readAll_71 F n t tL x1 = some res → Go p l e rm_Mo_readAll s m args below meth c g A A 2 (MQ below (EV g ((pic_Mo g a_t res.1 res.2)) A) args s 0 0 A) ((pic_Mo g a_t t tL)) [(0, .ref (a_t 0)), (1, .int x1)] 71 [] := by
  obtain ⟨hx, hb, hr, hml, hown, htb, hlocks, hA, hAA, hG⟩ := id hC
  have hK := hG.1
  intro n
  induction n with
  | zero => intro t tL x1 res h; rw [Mo_readAll_71] at h; cases h
  | succ n ih =>
    intro t tL x1 res h H locs ls hP hD hS hl
    rw [Mo_readAll_71] at h
    refine lv_aload_n hx hb d_Mo_readAll_71 rfl (lv_at hl 0 rfl) ?_
    refine va_get (D := gD g) (ci := 8) (v := .int (t 9 0)) (C := R_Mo) (T := T_Mo) (N := 64) hx hb htb in_Mo hown hK hP 0 rfl rfl 9 (by decide) (htb _ L_Mo_157) (fun _ h9 => h9) rfl d_Mo_readAll_72 ?_
    refine lv_if_ne (tgt := 115) hx hb d_Mo_readAll_75 (by decide) (fun c39 => ?_) (fun c39 => ?_)
    · replace h := (if_neg c39).symm.trans h
      exact k_Mo_readAll_115 hC _ _ _ _ h _ _ _ hP hD hS (lv_sub hl [0, 1] rfl)
    · replace h := (if_pos c39).symm.trans h
      refine lv_aload_n hx hb d_Mo_readAll_78 rfl (lv_at hl 0 rfl) ?_
      refine va_get (D := gD g) (ci := 8) (v := .int (t 14 0)) (C := R_Mo) (T := T_Mo) (N := 64) hx hb htb in_Mo hown hK hP 0 rfl rfl 14 (by decide) (htb _ L_Mo_211) (fun _ h9 => h9) rfl d_Mo_readAll_79 ?_
      refine lv_if_eq (tgt := 115) hx hb d_Mo_readAll_82 (by decide) (fun c40 => ?_) (fun c40 => ?_)
      · replace h := (if_pos c40).symm.trans h
        exact k_Mo_readAll_115 hC _ _ _ _ h _ _ _ hP hD hS (lv_sub hl [0, 1] rfl)
      · replace h := (if_neg c40).symm.trans h
        refine lv_iload_n hx hb d_Mo_readAll_85 rfl (lv_at hl 1 rfl) ?_
        refine lv_if_eq (tgt := 96) hx hb d_Mo_readAll_86 (by decide) (fun c41 => ?_) (fun c41 => ?_)
        · replace h := (if_pos c41).symm.trans h
          refine lv_aload_n hx hb d_Mo_readAll_96 rfl (lv_at hl 0 rfl) ?_
          obtain ⟨r42, hr42, h⟩ := Option.bind_eq_some_iff.mp h
          refine cl_I (wr := []) [0, 1, 2, 3, 4, 5, 6, 7, 8, 9, 10, 11, 12, 13, 14, 15, 16, 17, 18, 19, 20, 21, 22, 23, 24, 25, 26, 27, 28, 29, 30, 31, 32] [] rfl rfl rfl (by decide) hP hD hS hA (va_runV (As := []) (rest := []) ⟨hx, hb, hml, hown, htb⟩ (c_Mo_operand l g F a_t t tL _ hr42 H.size) (cw_V htb mb_Mo_operand (htb _ L_Mo_358) rfl rfl ⟨Nat.le_of_ble_eq_true rfl, Nat.le_of_ble_eq_true rfl⟩) (pre_V (va_recv hK hP (ci := 8) (q0 := 0) rfl rfl) (pre_S [0, 1, 2, 3, 4, 5, 6, 7, 8, 9, 10, 11, 12, 13, 14, 15, 16, 17, 18, 19, 20, 21, 22, 23, 24, 25, 26, 27, 28, 29, 30, 31, 32] rfl rfl hP hD hS hA hAA hG)) rfl rfl hl.1 rfl (lv_room (Nat.le_of_ble_eq_true rfl)) d_Mo_readAll_97 ⟨Nat.zero_le _, Nat.zero_le _⟩) (fun H locs hP hD hS => ?_)
          have hP : va_P (gD g) vwCl ((pic_Mo g a_t r42.2.1 r42.2.2)) H := hP.sub [0, 1, 2, 3, 4, 5, 6, 7, 8, 9, 10, 11, 12, 13, 14, 15, 16, 17, 18, 19, 20, 21, 22, 23, 24, 25, 26, 27, 28, 29, 30, 31, 32] rfl
          have hD : va_D A ((pic_Mo g a_t r42.2.1 r42.2.2)) := hD.sub [0, 1, 2, 3, 4, 5, 6, 7, 8, 9, 10, 11, 12, 13, 14, 15, 16, 17, 18, 19, 20, 21, 22, 23, 24, 25, 26, 27, 28, 29, 30, 31, 32] rfl rfl
          exact k_Mo_readAll_100 hC _ _ _ _ h (fun z0 z1 z2 hz => ih z0 z1 z2 _ hz) _ _ _ hP hD hS (lv_sub hl [0] rfl)
        · replace h := (if_neg c41).symm.trans h
          refine lv_aload_n hx hb d_Mo_readAll_89 rfl (lv_at hl 0 rfl) ?_
          obtain ⟨r43, hr43, h⟩ := Option.bind_eq_some_iff.mp h
          refine cl_I (wr := []) [0, 1, 2, 3, 4, 5, 6, 7, 8, 9, 10, 11, 12, 13, 14, 15, 16, 17, 18, 19, 20, 21, 22, 23, 24, 25, 26, 27, 28, 29, 30, 31, 32] [] rfl rfl rfl (by decide) hP hD hS hA (va_runV (As := []) (rest := []) ⟨hx, hb, hml, hown, htb⟩ (c_Mo_behind l g F a_t t tL _ hr43 H.size) (cw_V htb mb_Mo_behind (htb _ L_Mo_364) rfl rfl ⟨Nat.le_of_ble_eq_true rfl, Nat.le_of_ble_eq_true rfl⟩) (pre_V (va_recv hK hP (ci := 8) (q0 := 0) rfl rfl) (pre_S [0, 1, 2, 3, 4, 5, 6, 7, 8, 9, 10, 11, 12, 13, 14, 15, 16, 17, 18, 19, 20, 21, 22, 23, 24, 25, 26, 27, 28, 29, 30, 31, 32] rfl rfl hP hD hS hA hAA hG)) rfl rfl hl.1 rfl (lv_room (Nat.le_of_ble_eq_true rfl)) d_Mo_readAll_90 ⟨Nat.zero_le _, Nat.zero_le _⟩) (fun H locs hP hD hS => ?_)
          have hP : va_P (gD g) vwCl ((pic_Mo g a_t r43.2.1 r43.2.2)) H := hP.sub [0, 1, 2, 3, 4, 5, 6, 7, 8, 9, 10, 11, 12, 13, 14, 15, 16, 17, 18, 19, 20, 21, 22, 23, 24, 25, 26, 27, 28, 29, 30, 31, 32] rfl
          have hD : va_D A ((pic_Mo g a_t r43.2.1 r43.2.2)) := hD.sub [0, 1, 2, 3, 4, 5, 6, 7, 8, 9, 10, 11, 12, 13, 14, 15, 16, 17, 18, 19, 20, 21, 22, 23, 24, 25, 26, 27, 28, 29, 30, 31, 32] rfl rfl
          refine lv_goto (tgt := 100) hx hb d_Mo_readAll_93 (by decide) ?_
          exact k_Mo_readAll_100 hC _ _ _ _ h (fun z0 z1 z2 hz => ih z0 z1 z2 _ hz) _ _ _ hP hD hS (lv_sub hl [0] rfl)
set_option maxHeartbeats 4000000 in
set_option maxRecDepth 100000 in
theorem k_Mo_readAll_69 {p : Program} {l : Launch} {e : Env} {s : State} {m : MethodId} {args : Array Value} {below : List Frame} {meth : Method} {c : Code} {g : Gz} {A : Nat → Prop} {F : Nat} {a_t : Nat → Nat} (hC : Cx prog_10_method_44_code 2 none R_Mo p s m args meth c g A A) : ∀ (t : StI) (tL : StL) (res : StI × StL), Mo_readAll_69 F t tL = some res → Go p l e rm_Mo_readAll s m args below meth c g A A 2 (MQ below (EV g ((pic_Mo g a_t res.1 res.2)) A) args s 0 0 A) ((pic_Mo g a_t t tL)) [(0, .ref (a_t 0))] 69 [] := by
  obtain ⟨hx, hb, hr, hml, hown, htb, hlocks, hA, hAA, hG⟩ := id hC
  have hK := hG.1
  intro t tL res h H locs ls hP hD hS hl
  rw [Mo_readAll_69] at h
  refine lv_iconst (v := 0) hx hb d_Mo_readAll_69 (by decide) ?_
  refine lv_istore_n (lv' := [(1, .int (0 : Int32)), (0, .ref (a_t 0))]) hx hb d_Mo_readAll_70 rfl hl (by decide) rfl (fun ls hl => ?_)
  exact k_Mo_readAll_71 hC F _ _ _ _ h _ _ _ hP hD hS (lv_sub hl [1, 0] rfl)
set_option maxHeartbeats 4000000 in
set_option maxRecDepth 100000 in
theorem k_Mo_readAll {p : Program} {l : Launch} {e : Env} {s : State} {m : MethodId} {args : Array Value} {below : List Frame} {meth : Method} {c : Code} {g : Gz} {A : Nat → Prop} {F : Nat} {a_t : Nat → Nat} (hC : Cx prog_10_method_44_code 2 none R_Mo p s m args meth c g A A) : ∀ (t : StI) (tL : StL) (res : StI × StL), Mo_readAll F t tL = some res → Go p l e rm_Mo_readAll s m args below meth c g A A 2 (MQ below (EV g ((pic_Mo g a_t res.1 res.2)) A) args s 0 0 A) ((pic_Mo g a_t t tL)) [(0, .ref (a_t 0))] 0 [] := by
  obtain ⟨hx, hb, hr, hml, hown, htb, hlocks, hA, hAA, hG⟩ := id hC
  have hK := hG.1
  intro t tL res h H locs ls hP hD hS hl
  rw [Mo_readAll] at h
  refine lv_aload_n hx hb d_Mo_readAll_0 rfl (lv_at hl 0 rfl) ?_
  refine lv_iconst (v := 0) hx hb d_Mo_readAll_1 (by decide) ?_
  refine va_put (D := gD g) (ci := 8) (v := .int (0 : Int32)) (ty := .int) (C := R_Mo) (T := T_Mo) (N := 64) hx hb htb in_Mo ty_Mo ty_Mo_ok nm_Mo hown hK hP hD hS 0 rfl rfl 8 (by decide) (htb _ L_Mo_199) (fun _ h9 => h9) rfl (by decide +kernel) rfl rfl (Nat.le_of_ble_eq_true rfl) d_Mo_readAll_2 (fun H locs hP hD hS => ?_)
  obtain ⟨t_44, et_44, h⟩ := letS_el h
  have hP : va_P (gD g) vwCl ((pic_Mo g a_t t_44 tL)) H := by rw [et_44]; exact hP
  have hD : va_D A ((pic_Mo g a_t t_44 tL)) := by rw [et_44]; exact hD
  refine lv_aload_n hx hb d_Mo_readAll_5 rfl (lv_at hl 0 rfl) ?_
  refine lv_iconst (v := 0) hx hb d_Mo_readAll_6 (by decide) ?_
  refine va_put (D := gD g) (ci := 8) (v := .int (0 : Int32)) (ty := .int) (C := R_Mo) (T := T_Mo) (N := 64) hx hb htb in_Mo ty_Mo ty_Mo_ok nm_Mo hown hK hP hD hS 0 rfl rfl 9 (by decide) (htb _ L_Mo_157) (fun _ h9 => h9) rfl (by decide +kernel) rfl rfl (Nat.le_of_ble_eq_true rfl) d_Mo_readAll_7 (fun H locs hP hD hS => ?_)
  obtain ⟨t_45, et_45, h⟩ := letS_el h
  have hP : va_P (gD g) vwCl ((pic_Mo g a_t t_45 tL)) H := by rw [et_45]; exact hP
  have hD : va_D A ((pic_Mo g a_t t_45 tL)) := by rw [et_45]; exact hD
  refine lv_aload_n hx hb d_Mo_readAll_10 rfl (lv_at hl 0 rfl) ?_
  refine lv_iconst (v := -1) hx hb d_Mo_readAll_11 (by decide) ?_
  refine va_put (D := gD g) (ci := 8) (v := .int (-1 : Int32)) (ty := .int) (C := R_Mo) (T := T_Mo) (N := 64) hx hb htb in_Mo ty_Mo ty_Mo_ok nm_Mo hown hK hP hD hS 0 rfl rfl 10 (by decide) (htb _ L_Mo_22) (fun _ h9 => h9) rfl (by decide +kernel) rfl rfl (Nat.le_of_ble_eq_true rfl) d_Mo_readAll_12 (fun H locs hP hD hS => ?_)
  obtain ⟨t_46, et_46, h⟩ := letS_el h
  have hP : va_P (gD g) vwCl ((pic_Mo g a_t t_46 tL)) H := by rw [et_46]; exact hP
  have hD : va_D A ((pic_Mo g a_t t_46 tL)) := by rw [et_46]; exact hD
  refine lv_aload_n hx hb d_Mo_readAll_15 rfl (lv_at hl 0 rfl) ?_
  refine lv_iconst (v := 0) hx hb d_Mo_readAll_16 (by decide) ?_
  refine va_put (D := gD g) (ci := 8) (v := .int (0 : Int32)) (ty := .int) (C := R_Mo) (T := T_Mo) (N := 64) hx hb htb in_Mo ty_Mo ty_Mo_ok nm_Mo hown hK hP hD hS 0 rfl rfl 20 (by decide) (htb _ L_Mo_302) (fun _ h9 => h9) rfl (by decide +kernel) rfl rfl (Nat.le_of_ble_eq_true rfl) d_Mo_readAll_17 (fun H locs hP hD hS => ?_)
  obtain ⟨t_47, et_47, h⟩ := letS_el h
  have hP : va_P (gD g) vwCl ((pic_Mo g a_t t_47 tL)) H := by rw [et_47]; exact hP
  have hD : va_D A ((pic_Mo g a_t t_47 tL)) := by rw [et_47]; exact hD
  refine lv_aload_n hx hb d_Mo_readAll_20 rfl (lv_at hl 0 rfl) ?_
  refine lv_iconst (v := 0) hx hb d_Mo_readAll_21 (by decide) ?_
  refine va_put (D := gD g) (ci := 8) (v := .int (0 : Int32)) (ty := .int) (C := R_Mo) (T := T_Mo) (N := 64) hx hb htb in_Mo ty_Mo ty_Mo_ok nm_Mo hown hK hP hD hS 0 rfl rfl 21 (by decide) (htb _ L_Mo_308) (fun _ h9 => h9) rfl (by decide +kernel) rfl rfl (Nat.le_of_ble_eq_true rfl) d_Mo_readAll_22 (fun H locs hP hD hS => ?_)
  obtain ⟨t_48, et_48, h⟩ := letS_el h
  have hP : va_P (gD g) vwCl ((pic_Mo g a_t t_48 tL)) H := by rw [et_48]; exact hP
  have hD : va_D A ((pic_Mo g a_t t_48 tL)) := by rw [et_48]; exact hD
  refine lv_aload_n hx hb d_Mo_readAll_25 rfl (lv_at hl 0 rfl) ?_
  refine lv_iconst (v := 0) hx hb d_Mo_readAll_26 (by decide) ?_
  refine va_put (D := gD g) (ci := 8) (v := .int (0 : Int32)) (ty := .int) (C := R_Mo) (T := T_Mo) (N := 64) hx hb htb in_Mo ty_Mo ty_Mo_ok nm_Mo hown hK hP hD hS 0 rfl rfl 30 (by decide) (htb _ L_Mo_331) (fun _ h9 => h9) rfl (by decide +kernel) rfl rfl (Nat.le_of_ble_eq_true rfl) d_Mo_readAll_27 (fun H locs hP hD hS => ?_)
  obtain ⟨t_49, et_49, h⟩ := letS_el h
  have hP : va_P (gD g) vwCl ((pic_Mo g a_t t_49 tL)) H := by rw [et_49]; exact hP
  have hD : va_D A ((pic_Mo g a_t t_49 tL)) := by rw [et_49]; exact hD
  refine lv_aload_n hx hb d_Mo_readAll_30 rfl (lv_at hl 0 rfl) ?_
  refine lv_iconst (v := 0) hx hb d_Mo_readAll_31 (by decide) ?_
  refine va_put (D := gD g) (ci := 8) (v := .int (0 : Int32)) (ty := .int) (C := R_Mo) (T := T_Mo) (N := 64) hx hb htb in_Mo ty_Mo ty_Mo_ok nm_Mo hown hK hP hD hS 0 rfl rfl 35 (by decide) (htb _ L_Mo_334) (fun _ h9 => h9) rfl (by decide +kernel) rfl rfl (Nat.le_of_ble_eq_true rfl) d_Mo_readAll_32 (fun H locs hP hD hS => ?_)
  obtain ⟨t_50, et_50, h⟩ := letS_el h
  have hP : va_P (gD g) vwCl ((pic_Mo g a_t t_50 tL)) H := by rw [et_50]; exact hP
  have hD : va_D A ((pic_Mo g a_t t_50 tL)) := by rw [et_50]; exact hD
  refine lv_aload_n hx hb d_Mo_readAll_35 rfl (lv_at hl 0 rfl) ?_
  refine lv_iconst (v := 0) hx hb d_Mo_readAll_36 (by decide) ?_
  refine va_put (D := gD g) (ci := 8) (v := .int (0 : Int32)) (ty := .int) (C := R_Mo) (T := T_Mo) (N := 64) hx hb htb in_Mo ty_Mo ty_Mo_ok nm_Mo hown hK hP hD hS 0 rfl rfl 36 (by decide) (htb _ L_Mo_337) (fun _ h9 => h9) rfl (by decide +kernel) rfl rfl (Nat.le_of_ble_eq_true rfl) d_Mo_readAll_37 (fun H locs hP hD hS => ?_)
  obtain ⟨t_51, et_51, h⟩ := letS_el h
  have hP : va_P (gD g) vwCl ((pic_Mo g a_t t_51 tL)) H := by rw [et_51]; exact hP
  have hD : va_D A ((pic_Mo g a_t t_51 tL)) := by rw [et_51]; exact hD
  refine lv_aload_n hx hb d_Mo_readAll_40 rfl (lv_at hl 0 rfl) ?_
  refine lv_iconst (v := 0) hx hb d_Mo_readAll_41 (by decide) ?_
  refine va_put (D := gD g) (ci := 8) (v := .int (0 : Int32)) (ty := .int) (C := R_Mo) (T := T_Mo) (N := 64) hx hb htb in_Mo ty_Mo ty_Mo_ok nm_Mo hown hK hP hD hS 0 rfl rfl 37 (by decide) (htb _ L_Mo_349) (fun _ h9 => h9) rfl (by decide +kernel) rfl rfl (Nat.le_of_ble_eq_true rfl) d_Mo_readAll_42 (fun H locs hP hD hS => ?_)
  obtain ⟨t_52, et_52, h⟩ := letS_el h
  have hP : va_P (gD g) vwCl ((pic_Mo g a_t t_52 tL)) H := by rw [et_52]; exact hP
  have hD : va_D A ((pic_Mo g a_t t_52 tL)) := by rw [et_52]; exact hD
  refine lv_aload_n hx hb d_Mo_readAll_45 rfl (lv_at hl 0 rfl) ?_
  refine lv_iconst (v := -1) hx hb d_Mo_readAll_46 (by decide) ?_
  refine va_put (D := gD g) (ci := 8) (v := .int (-1 : Int32)) (ty := .int) (C := R_Mo) (T := T_Mo) (N := 64) hx hb htb in_Mo ty_Mo ty_Mo_ok nm_Mo hown hK hP hD hS 0 rfl rfl 31 (by decide) (htb _ L_Mo_141) (fun _ h9 => h9) rfl (by decide +kernel) rfl rfl (Nat.le_of_ble_eq_true rfl) d_Mo_readAll_47 (fun H locs hP hD hS => ?_)
  obtain ⟨t_53, et_53, h⟩ := letS_el h
  have hP : va_P (gD g) vwCl ((pic_Mo g a_t t_53 tL)) H := by rw [et_53]; exact hP
  have hD : va_D A ((pic_Mo g a_t t_53 tL)) := by rw [et_53]; exact hD
  refine lv_aload_n hx hb d_Mo_readAll_50 rfl (lv_at hl 0 rfl) ?_
  obtain ⟨r54, hr54, h⟩ := Option.bind_eq_some_iff.mp h
  refine cl_V (wr := []) [0, 1, 2, 3, 4, 5, 6, 7, 8, 9, 10, 11, 12, 13, 14, 15, 16, 17, 18, 19, 20, 21, 22, 23, 24, 25, 26, 27, 28, 29, 30, 31, 32] [] rfl rfl rfl (by decide) hP hD hS hA (va_runV (As := []) (rest := []) ⟨hx, hb, hml, hown, htb⟩ (c_Mo_next l g F a_t t_53 tL _ hr54 H.size) (cw_V htb mb_Mo_next (htb _ L_Mo_361) rfl rfl ⟨Nat.le_of_ble_eq_true rfl, Nat.le_of_ble_eq_true rfl⟩) (pre_V (va_recv hK hP (ci := 8) (q0 := 0) rfl rfl) (pre_S [0, 1, 2, 3, 4, 5, 6, 7, 8, 9, 10, 11, 12, 13, 14, 15, 16, 17, 18, 19, 20, 21, 22, 23, 24, 25, 26, 27, 28, 29, 30, 31, 32] rfl rfl hP hD hS hA hAA hG)) rfl rfl hl.1 rfl (lv_room (Nat.le_of_ble_eq_true rfl)) d_Mo_readAll_51 ⟨Nat.zero_le _, Nat.zero_le _⟩) (fun H locs hP hD hS => ?_)
  have hP : va_P (gD g) vwCl ((pic_Mo g a_t r54.1 r54.2)) H := hP.sub [0, 1, 2, 3, 4, 5, 6, 7, 8, 9, 10, 11, 12, 13, 14, 15, 16, 17, 18, 19, 20, 21, 22, 23, 24, 25, 26, 27, 28, 29, 30, 31, 32] rfl
  have hD : va_D A ((pic_Mo g a_t r54.1 r54.2)) := hD.sub [0, 1, 2, 3, 4, 5, 6, 7, 8, 9, 10, 11, 12, 13, 14, 15, 16, 17, 18, 19, 20, 21, 22, 23, 24, 25, 26, 27, 28, 29, 30, 31, 32] rfl rfl
  refine lv_aload_n hx hb d_Mo_readAll_54 rfl (lv_at hl 0 rfl) ?_
  refine va_get (D := gD g) (ci := 8) (v := .int (r54.1 9 0)) (C := R_Mo) (T := T_Mo) (N := 64) hx hb htb in_Mo hown hK hP 0 rfl rfl 9 (by decide) (htb _ L_Mo_157) (fun _ h9 => h9) rfl d_Mo_readAll_55 ?_
  refine lv_if_ne (tgt := 69) hx hb d_Mo_readAll_58 (by decide) (fun c55 => ?_) (fun c55 => ?_)
  · replace h := (if_neg c55).symm.trans h
    exact k_Mo_readAll_69 hC _ _ _ h _ _ _ hP hD hS (lv_sub hl [0] rfl)
  · replace h := (if_pos c55).symm.trans h
    refine lv_aload_n hx hb d_Mo_readAll_61 rfl (lv_at hl 0 rfl) ?_
    refine va_get (D := gD g) (ci := 8) (v := .int (r54.1 14 0)) (C := R_Mo) (T := T_Mo) (N := 64) hx hb htb in_Mo hown hK hP 0 rfl rfl 14 (by decide) (htb _ L_Mo_211) (fun _ h9 => h9) rfl d_Mo_readAll_62 ?_
    refine lv_if_ne (tgt := 69) hx hb d_Mo_readAll_65 (by decide) (fun c56 => ?_) (fun c56 => ?_)
    · replace h := (if_neg c56).symm.trans h
      exact k_Mo_readAll_69 hC _ _ _ h _ _ _ hP hD hS (lv_sub hl [0] rfl)
    · replace h := (if_pos c56).symm.trans h
      cases h
      exact W.vret hx hb hr (fun t ht hW => ⟨⟨(), rfl, trivial, by rw [ht]; exact hP, hD⟩, hS.F ht⟩) hS.2.2 d_Mo_readAll_68
theorem c_Mo_readAll (l : Launch) (g : Gz) (F : Nat) (a_t : Nat → Nat) (t : StI) (tL : StL) (res : StI × StL) (h : Mo_readAll F t tL = some res) : ∀ sz : Nat, Met l y_Mo_readAll (.code y_Mo_readAll prog_10_method_44_code 2 none :: TBL) rm_Mo_readAll (va_Pc [.ref (a_t 0)] (Pre0 g ((pic_Mo g a_t t tL)) sz)) (EV g ((pic_Mo g a_t res.1 res.2)) (va_A ((pic_Mo g a_t t tL)) sz)) 0 0 (va_A ((pic_Mo g a_t t tL)) sz) :=
  ct_w (Qc := fun A => EV g ((pic_Mo g a_t res.1 res.2)) A) (by decide) (Nat.le_of_ble_eq_true rfl) (fun p e s m args below meth c A hC => k_Mo_readAll hC t tL res h)
def Mo_take_hand_2 (F : Nat) : Nat → StI → StL → Int32 → Int32 → Option (StI × StL)
  | 0, _, _, _, _ => none
  | n + 1, t, tL, x2, x3 => if x2 ≤ x3 then letS (va_up t 6 (fun _ => x2)) fun t_7 => some (t_7, tL) else if x3 < 0 ∨ 600 ≤ x3.toNatClampNeg then none else if x3 < 0 ∨ 600 ≤ x3.toNatClampNeg then none else letS (va_up t 4 (upd (t 4) x3.toNatClampNeg (vp_nar .byte ((t 2) x3.toNatClampNeg)))) fun t_9 => Mo_take_hand_2 F n t_9 tL x2 (x3 + (1 : Int32))
def Mo_take_hand (F : Nat) (t : StI) (tL : StL) (x2 : Int32) : Option (StI × StL) := Mo_take_hand_2 F F t tL x2 (0 : Int32)
set_option maxHeartbeats 4000000 in
set_option maxRecDepth 100000 in
theorem k_Mo_take_hand_2 {p : Program} {l : Launch} {e : Env} {s : State} {m : MethodId} {args : Array Value} {below : List Frame} {meth : Method} {c : Code} {g : Gz} {A : Nat → Prop} {F : Nat} {a_t : Nat → Nat} (hC : Cx prog_10_method_45_code 4 none R_Mo p s m args meth c g A A) : ∀ (n : Nat) (t : StI) (tL : StL) (x2 : Int32) (x3 : Int32) (res : StI × StL), Mo_take_hand_2 F n t tL x2 x3 = some res → Go p l e rm_Mo_take s m args below meth c g A A 4 (MQ below (EV g ((pic_Mo g a_t res.1 res.2)) A) args s 0 0 A) ((pic_Mo g a_t t tL)) [(0, .ref (a_t 0)), (1, .ref (a_t 3)), (2, .int x2), (3, .int x3)] 2 [] := by
  obtain ⟨hx, hb, hr, hml, hown, htb, hlocks, hA, hAA, hG⟩ := id hC
  have hK := hG.1
  intro n
  induction n with
  | zero => intro t tL x2 x3 res h; rw [Mo_take_hand_2] at h; cases h
  | succ n ih =>
    intro t tL x2 x3 res h H locs ls hP hD hS hl
    rw [Mo_take_hand_2] at h
    refine lv_iload_n hx hb d_Mo_take_2 rfl (lv_at hl 3 rfl) ?_
    refine lv_iload_n hx hb d_Mo_take_3 rfl (lv_at hl 2 rfl) ?_
    refine lv_icmp_ge (tgt := 22) hx hb d_Mo_take_4 (by decide) (fun c6 => ?_) (fun c6 => ?_)
    · replace h := (if_pos c6).symm.trans h
      refine lv_aload_n hx hb d_Mo_take_22 rfl (lv_at hl 0 rfl) ?_
      refine lv_iload_n hx hb d_Mo_take_23 rfl (lv_at hl 2 rfl) ?_
      refine va_put (D := gD g) (ci := 8) (v := .int x2) (ty := .int) (C := R_Mo) (T := T_Mo) (N := 64) hx hb htb in_Mo ty_Mo ty_Mo_ok nm_Mo hown hK hP hD hS 0 rfl rfl 6 (by decide) (htb _ L_Mo_154) (fun _ h9 => h9) rfl (by decide +kernel) rfl rfl (Nat.le_of_ble_eq_true rfl) d_Mo_take_24 (fun H locs hP hD hS => ?_)
      obtain ⟨t_7, et_7, h⟩ := letS_el h
      have hP : va_P (gD g) vwCl ((pic_Mo g a_t t_7 tL)) H := by rw [et_7]; exact hP
      have hD : va_D A ((pic_Mo g a_t t_7 tL)) := by rw [et_7]; exact hD
      cases h
      exact W.vret hx hb hr (fun t ht hW => ⟨⟨(), rfl, trivial, by rw [ht]; exact hP, hD⟩, hS.F ht⟩) hS.2.2 d_Mo_take_27
    · replace h := (if_neg c6).symm.trans h
      refine lv_aload_n hx hb d_Mo_take_7 rfl (lv_at hl 0 rfl) ?_
      refine va_get (D := gD g) (ci := 8) (v := .ref (a_t 5)) (C := R_Mo) (T := T_Mo) (N := 64) hx hb htb in_Mo hown hK hP 0 rfl rfl 4 (by decide) (htb _ L_Mo_16) (fun _ h9 => h9) rfl d_Mo_take_8 ?_
      refine lv_iload_n hx hb d_Mo_take_11 rfl (lv_at hl 3 rfl) ?_
      refine lv_aload_n hx hb d_Mo_take_12 rfl (lv_at hl 1 rfl) ?_
      refine lv_iload_n hx hb d_Mo_take_13 rfl (lv_at hl 3 rfl) ?_
      by_cases c8 : (x3 < 0 ∨ 600 ≤ x3.toNatClampNeg)
      · replace h := (if_pos c8).symm.trans h
        cases h
      replace h := (if_neg c8).symm.trans h
      refine va_bald hx hb hK hP 2 4 rfl rfl c8 d_Mo_take_14 ?_
      by_cases c10 : (x3 < 0 ∨ 600 ≤ x3.toNatClampNeg)
      · replace h := (if_pos c10).symm.trans h
        cases h
      replace h := (if_neg c10).symm.trans h
      refine va_bast hx hb hK hP hD hS 3 4 rfl rfl c10 d_Mo_take_15 (fun H locs hP hD hS => ?_)
      obtain ⟨t_9, et_9, h⟩ := letS_el h
      have hP : va_P (gD g) vwCl ((pic_Mo g a_t t_9 tL)) H := by rw [et_9]; exact hP
      have hD : va_D A ((pic_Mo g a_t t_9 tL)) := by rw [et_9]; exact hD
      refine lv_iinc (v := (x3 + (1 : Int32))) (lv' := [(3, .int (x3 + (1 : Int32))), (0, .ref (a_t 0)), (1, .ref (a_t 3)), (2, .int x2)]) hx hb d_Mo_take_16 hl (k := 3) rfl rfl (by decide) rfl (fun ls hl => ?_)
      refine lv_goto (tgt := 2) hx hb d_Mo_take_19 (by decide) ?_
      exact ih _ _ _ _ _ h _ _ _ hP hD hS (lv_sub hl [1, 2, 3, 0] rfl)
set_option maxHeartbeats 4000000 in
set_option maxRecDepth 100000 in
theorem k_Mo_take_hand {p : Program} {l : Launch} {e : Env} {s : State} {m : MethodId} {args : Array Value} {below : List Frame} {meth : Method} {c : Code} {g : Gz} {A : Nat → Prop} {F : Nat} {a_t : Nat → Nat} (hC : Cx prog_10_method_45_code 4 none R_Mo p s m args meth c g A A) : ∀ (t : StI) (tL : StL) (x2 : Int32) (res : StI × StL), Mo_take_hand F t tL x2 = some res → Go p l e rm_Mo_take s m args below meth c g A A 4 (MQ below (EV g ((pic_Mo g a_t res.1 res.2)) A) args s 0 0 A) ((pic_Mo g a_t t tL)) [(0, .ref (a_t 0)), (1, .ref (a_t 3)), (2, .int x2)] 0 [] := by
  obtain ⟨hx, hb, hr, hml, hown, htb, hlocks, hA, hAA, hG⟩ := id hC
  have hK := hG.1
  intro t tL x2 res h H locs ls hP hD hS hl
  rw [Mo_take_hand] at h
  refine lv_iconst (v := 0) hx hb d_Mo_take_0 (by decide) ?_
  refine lv_istore_n (lv' := [(3, .int (0 : Int32)), (0, .ref (a_t 0)), (1, .ref (a_t 3)), (2, .int x2)]) hx hb d_Mo_take_1 rfl hl (by decide) rfl (fun ls hl => ?_)
  exact k_Mo_take_hand_2 hC F _ _ _ _ _ h _ _ _ hP hD hS (lv_sub hl [1, 2, 3, 0] rfl)
theorem c_Mo_take_hand (l : Launch) (g : Gz) (F : Nat) (a_t : Nat → Nat) (t : StI) (tL : StL) (x2 : Int32) (res : StI × StL) (h : Mo_take_hand F t tL x2 = some res) : ∀ sz : Nat, Met l y_Mo_take (.code y_Mo_take prog_10_method_45_code 4 none :: TBL) rm_Mo_take (va_Pc [.ref (a_t 0), .ref (a_t 3), .int x2] (Pre0 g ((pic_Mo g a_t t tL)) sz)) (EV g ((pic_Mo g a_t res.1 res.2)) (va_A ((pic_Mo g a_t t tL)) sz)) 0 0 (va_A ((pic_Mo g a_t t tL)) sz) :=
  ct_w (Qc := fun A => EV g ((pic_Mo g a_t res.1 res.2)) A) (by decide) (Nat.le_of_ble_eq_true rfl) (fun p e s m args below meth c A hC => k_Mo_take_hand hC t tL x2 res h)
def Mo_take_query_2 (F : Nat) : Nat → StI → StL → Int32 → Int32 → Option (StI × StL)
  | 0, _, _, _, _ => none
  | n + 1, t, tL, x2, x3 => if x2 ≤ x3 then letS (va_up t 6 (fun _ => x2)) fun t_7 => some (t_7, tL) else if x3 < 0 ∨ 600 ≤ x3.toNatClampNeg then none else if x3 < 0 ∨ 600 ≤ x3.toNatClampNeg then none else letS (va_up t 4 (upd (t 4) x3.toNatClampNeg (vp_nar .byte ((t 5) x3.toNatClampNeg)))) fun t_9 => Mo_take_query_2 F n t_9 tL x2 (x3 + (1 : Int32))
def Mo_take_query (F : Nat) (t : StI) (tL : StL) (x2 : Int32) : Option (StI × StL) := Mo_take_query_2 F F t tL x2 (0 : Int32)
set_option maxHeartbeats 4000000 in
set_option maxRecDepth 100000 in
theorem k_Mo_take_query_2 {p : Program} {l : Launch} {e : Env} {s : State} {m : MethodId} {args : Array Value} {below : List Frame} {meth : Method} {c : Code} {g : Gz} {A : Nat → Prop} {F : Nat} {a_t : Nat → Nat} (hC : Cx prog_10_method_45_code 4 none R_Mo p s m args meth c g A A) : ∀ (n : Nat) (t : StI) (tL : StL) (x2 : Int32) (x3 : Int32) (res : StI × StL), Mo_take_query_2 F n t tL x2 x3 = some res → Go p l e rm_Mo_take s m args below meth c g A A 4 (MQ below (EV g ((pic_Mo g a_t res.1 res.2)) A) args s 0 0 A) ((pic_Mo g a_t t tL)) [(0, .ref (a_t 0)), (1, .ref (a_t 6)), (2, .int x2), (3, .int x3)] 2 [] := by
  obtain ⟨hx, hb, hr, hml, hown, htb, hlocks, hA, hAA, hG⟩ := id hC
  have hK := hG.1
  intro n
  induction n with
  | zero => intro t tL x2 x3 res h; rw [Mo_take_query_2] at h; cases h
  | succ n ih =>
    intro t tL x2 x3 res h H locs ls hP hD hS hl
    rw [Mo_take_query_2] at h
    refine lv_iload_n hx hb d_Mo_take_2 rfl (lv_at hl 3 rfl) ?_
    refine lv_iload_n hx hb d_Mo_take_3 rfl (lv_at hl 2 rfl) ?_
    refine lv_icmp_ge (tgt := 22) hx hb d_Mo_take_4 (by decide) (fun c6 => ?_) (fun c6 => ?_)
    · replace h := (if_pos c6).symm.trans h
      refine lv_aload_n hx hb d_Mo_take_22 rfl (lv_at hl 0 rfl) ?_
      refine lv_iload_n hx hb d_Mo_take_23 rfl (lv_at hl 2 rfl) ?_
      refine va_put (D := gD g) (ci := 8) (v := .int x2) (ty := .int) (C := R_Mo) (T := T_Mo) (N := 64) hx hb htb in_Mo ty_Mo ty_Mo_ok nm_Mo hown hK hP hD hS 0 rfl rfl 6 (by decide) (htb _ L_Mo_154) (fun _ h9 => h9) rfl (by decide +kernel) rfl rfl (Nat.le_of_ble_eq_true rfl) d_Mo_take_24 (fun H locs hP hD hS => ?_)
      obtain ⟨t_7, et_7, h⟩ := letS_el h
      have hP : va_P (gD g) vwCl ((pic_Mo g a_t t_7 tL)) H := by rw [et_7]; exact hP
      have hD : va_D A ((pic_Mo g a_t t_7 tL)) := by rw [et_7]; exact hD
      cases h
      exact W.vret hx hb hr (fun t ht hW => ⟨⟨(), rfl, trivial, by rw [ht]; exact hP, hD⟩, hS.F ht⟩) hS.2.2 d_Mo_take_27
    · replace h := (if_neg c6).symm.trans h
      refine lv_aload_n hx hb d_Mo_take_7 rfl (lv_at hl 0 rfl) ?_
      refine va_get (D := gD g) (ci := 8) (v := .ref (a_t 5)) (C := R_Mo) (T := T_Mo) (N := 64) hx hb htb in_Mo hown hK hP 0 rfl rfl 4 (by decide) (htb _ L_Mo_16) (fun _ h9 => h9) rfl d_Mo_take_8 ?_
      refine lv_iload_n hx hb d_Mo_take_11 rfl (lv_at hl 3 rfl) ?_
      refine lv_aload_n hx hb d_Mo_take_12 rfl (lv_at hl 1 rfl) ?_
      refine lv_iload_n hx hb d_Mo_take_13 rfl (lv_at hl 3 rfl) ?_
      by_cases c8 : (x3 < 0 ∨ 600 ≤ x3.toNatClampNeg)
      · replace h := (if_pos c8).symm.trans h
        cases h
      replace h := (if_neg c8).symm.trans h
      refine va_bald hx hb hK hP 4 4 rfl rfl c8 d_Mo_take_14 ?_
      by_cases c10 : (x3 < 0 ∨ 600 ≤ x3.toNatClampNeg)
      · replace h := (if_pos c10).symm.trans h
        cases h
      replace h := (if_neg c10).symm.trans h
      refine va_bast hx hb hK hP hD hS 3 4 rfl rfl c10 d_Mo_take_15 (fun H locs hP hD hS => ?_)
      obtain ⟨t_9, et_9, h⟩ := letS_el h
      have hP : va_P (gD g) vwCl ((pic_Mo g a_t t_9 tL)) H := by rw [et_9]; exact hP
      have hD : va_D A ((pic_Mo g a_t t_9 tL)) := by rw [et_9]; exact hD
      refine lv_iinc (v := (x3 + (1 : Int32))) (lv' := [(3, .int (x3 + (1 : Int32))), (0, .ref (a_t 0)), (1, .ref (a_t 6)), (2, .int x2)]) hx hb d_Mo_take_16 hl (k := 3) rfl rfl (by decide) rfl (fun ls hl => ?_)
      refine lv_goto (tgt := 2) hx hb d_Mo_take_19 (by decide) ?_
      exact ih _ _ _ _ _ h _ _ _ hP hD hS (lv_sub hl [1, 2, 3, 0] rfl)
set_option maxHeartbeats 4000000 in
set_option maxRecDepth 100000 in
theorem k_Mo_take_query {p : Program} {l : Launch} {e : Env} {s : State} {m : MethodId} {args : Array Value} {below : List Frame} {meth : Method} {c : Code} {g : Gz} {A : Nat → Prop} {F : Nat} {a_t : Nat → Nat} (hC : Cx prog_10_method_45_code 4 none R_Mo p s m args meth c g A A) : ∀ (t : StI) (tL : StL) (x2 : Int32) (res : StI × StL), Mo_take_query F t tL x2 = some res → Go p l e rm_Mo_take s m args below meth c g A A 4 (MQ below (EV g ((pic_Mo g a_t res.1 res.2)) A) args s 0 0 A) ((pic_Mo g a_t t tL)) [(0, .ref (a_t 0)), (1, .ref (a_t 6)), (2, .int x2)] 0 [] := by
  obtain ⟨hx, hb, hr, hml, hown, htb, hlocks, hA, hAA, hG⟩ := id hC
  have hK := hG.1
  intro t tL x2 res h H locs ls hP hD hS hl
  rw [Mo_take_query] at h
  refine lv_iconst (v := 0) hx hb d_Mo_take_0 (by decide) ?_
  refine lv_istore_n (lv' := [(3, .int (0 : Int32)), (0, .ref (a_t 0)), (1, .ref (a_t 6)), (2, .int x2)]) hx hb d_Mo_take_1 rfl hl (by decide) rfl (fun ls hl => ?_)
  exact k_Mo_take_query_2 hC F _ _ _ _ _ h _ _ _ hP hD hS (lv_sub hl [1, 2, 3, 0] rfl)
theorem c_Mo_take_query (l : Launch) (g : Gz) (F : Nat) (a_t : Nat → Nat) (t : StI) (tL : StL) (x2 : Int32) (res : StI × StL) (h : Mo_take_query F t tL x2 = some res) : ∀ sz : Nat, Met l y_Mo_take (.code y_Mo_take prog_10_method_45_code 4 none :: TBL) rm_Mo_take (va_Pc [.ref (a_t 0), .ref (a_t 6), .int x2] (Pre0 g ((pic_Mo g a_t t tL)) sz)) (EV g ((pic_Mo g a_t res.1 res.2)) (va_A ((pic_Mo g a_t t tL)) sz)) 0 0 (va_A ((pic_Mo g a_t t tL)) sz) :=
  ct_w (Qc := fun A => EV g ((pic_Mo g a_t res.1 res.2)) A) (by decide) (Nat.le_of_ble_eq_true rfl) (fun p e s m args below meth c A hC => k_Mo_take_query hC t tL x2 res h)
def Mo_read_88 (F : Nat) : Nat → StI → StL → Int32 → Option (Int32 × StI × StL)
  | 0, _, _, _ => none
  | n + 1, t, tL, x1 => if (t 6 0) ≤ x1 then some ((t 20 0), t, tL) else if x1 < 0 ∨ 600 ≤ x1.toNatClampNeg then none else if x1 < 0 ∨ 600 ≤ x1.toNatClampNeg then none else letS (va_up t 5 (upd (t 5) x1.toNatClampNeg (vp_nar .byte ((t 4) x1.toNatClampNeg)))) fun t_18 => Mo_read_88 F n t_18 tL (x1 + (1 : Int32))
def Mo_read_50 (F : Nat) (t : StI) (tL : StL) (y0 : Int32) : Option (Int32 × StI × StL) := letS (va_up t 0 (fun _ => y0)) fun t_20 => if (t_20 9 0) ≤ 0 then letS (va_up t_20 7 (fun _ => (t_20 6 0))) fun t_22 => Mo_read_88 F F t_22 tL (0 : Int32) else (Mo_take_query F t_20 tL (t_20 7 0)).bind fun r23 => (Mo_readAll F r23.1 r23.2).bind fun r24 => some ((0 : Int32), r24.1, r24.2)
def Mo_read (F : Nat) (t : StI) (tL : StL) : Option (Int32 × StI × StL) := (Mo_take_hand F t tL (t 3 0)).bind fun r25 => letS (va_up r25.1 3 (fun _ => (0 : Int32))) fun t_26 => (Mo_readAll F t_26 r25.2).bind fun r27 => letS (va_up r27.1 11 (fun _ => (r27.1 9 0))) fun t_28 => letS (va_up t_28 12 (fun _ => (t_28 10 0))) fun t_29 => if (t_29 9 0) ≤ 0 then Mo_read_50 F t_29 r27.2 (0 : Int32) else Mo_read_50 F t_29 r27.2 (1 : Int32)
set_option maxHeartbeats 4000000 in
set_option maxRecDepth 100000 in
theorem k_Mo_read_88 {p : Program} {l : Launch} {e : Env} {s : State} {m : MethodId} {args : Array Value} {below : List Frame} {meth : Method} {c : Code} {g : Gz} {A : Nat → Prop} {F : Nat} {a_t : Nat → Nat} (hC : Cx prog_10_method_46_code 2 (some .int) R_Mo p s m args meth c g A A) : ∀ (n : Nat) (t : StI) (tL : StL) (x1 : Int32) (res : Int32 × StI × StL), Mo_read_88 F n t tL x1 = some res → Go p l e rm_Mo_read s m args below meth c g A A 2 (MQ below (EI g ((pic_Mo g a_t res.2.1 res.2.2)) res.1 A) args s 0 0 A) ((pic_Mo g a_t t tL)) [(0, .ref (a_t 0)), (1, .int x1)] 88 [] := by
  obtain ⟨hx, hb, hr, hml, hown, htb, hlocks, hA, hAA, hG⟩ := id hC
  have hK := hG.1
  intro n
  induction n with
  | zero => intro t tL x1 res h; rw [Mo_read_88] at h; cases h
  | succ n ih =>
    intro t tL x1 res h H locs ls hP hD hS hl
    rw [Mo_read_88] at h
    refine lv_iload_n hx hb d_Mo_read_88 rfl (lv_at hl 1 rfl) ?_
    refine lv_aload_n hx hb d_Mo_read_89 rfl (lv_at hl 0 rfl) ?_
    refine va_get (D := gD g) (ci := 8) (v := .int (t 6 0)) (C := R_Mo) (T := T_Mo) (N := 64) hx hb htb in_Mo hown hK hP 0 rfl rfl 6 (by decide) (htb _ L_Mo_154) (fun _ h9 => h9) rfl d_Mo_read_90 ?_
    refine lv_icmp_ge (tgt := 114) hx hb d_Mo_read_93 (by decide) (fun c16 => ?_) (fun c16 => ?_)
    · replace h := (if_pos c16).symm.trans h
      refine lv_aload_n hx hb d_Mo_read_114 rfl (lv_at hl 0 rfl) ?_
      refine va_get (D := gD g) (ci := 8) (v := .int (t 20 0)) (C := R_Mo) (T := T_Mo) (N := 64) hx hb htb in_Mo hown hK hP 0 rfl rfl 20 (by decide) (htb _ L_Mo_302) (fun _ h9 => h9) rfl d_Mo_read_115 ?_
      cases h
      exact W.iret hx hb hr (fun t ht hW => ⟨⟨_, (), rfl, rfl, by rw [ht]; exact hP, hD⟩, hS.F ht⟩) hS.2.2 d_Mo_read_118
    · replace h := (if_neg c16).symm.trans h
      refine lv_aload_n hx hb d_Mo_read_96 rfl (lv_at hl 0 rfl) ?_
      refine va_get (D := gD g) (ci := 8) (v := .ref (a_t 6)) (C := R_Mo) (T := T_Mo) (N := 64) hx hb htb in_Mo hown hK hP 0 rfl rfl 5 (by decide) (htb _ L_Mo_19) (fun _ h9 => h9) rfl d_Mo_read_97 ?_
      refine lv_iload_n hx hb d_Mo_read_100 rfl (lv_at hl 1 rfl) ?_
      refine lv_aload_n hx hb d_Mo_read_101 rfl (lv_at hl 0 rfl) ?_
      refine va_get (D := gD g) (ci := 8) (v := .ref (a_t 5)) (C := R_Mo) (T := T_Mo) (N := 64) hx hb htb in_Mo hown hK hP 0 rfl rfl 4 (by decide) (htb _ L_Mo_16) (fun _ h9 => h9) rfl d_Mo_read_102 ?_
      refine lv_iload_n hx hb d_Mo_read_105 rfl (lv_at hl 1 rfl) ?_
      by_cases c17 : (x1 < 0 ∨ 600 ≤ x1.toNatClampNeg)
      · replace h := (if_pos c17).symm.trans h
        cases h
      replace h := (if_neg c17).symm.trans h
      refine va_bald hx hb hK hP 3 4 rfl rfl c17 d_Mo_read_106 ?_
      by_cases c19 : (x1 < 0 ∨ 600 ≤ x1.toNatClampNeg)
      · replace h := (if_pos c19).symm.trans h
        cases h
      replace h := (if_neg c19).symm.trans h
      refine va_bast hx hb hK hP hD hS 4 4 rfl rfl c19 d_Mo_read_107 (fun H locs hP hD hS => ?_)
      obtain ⟨t_18, et_18, h⟩ := letS_el h
      have hP : va_P (gD g) vwCl ((pic_Mo g a_t t_18 tL)) H := by rw [et_18]; exact hP
      have hD : va_D A ((pic_Mo g a_t t_18 tL)) := by rw [et_18]; exact hD
      refine lv_iinc (v := (x1 + (1 : Int32))) (lv' := [(1, .int (x1 + (1 : Int32))), (0, .ref (a_t 0))]) hx hb d_Mo_read_108 hl (k := 1) rfl rfl (by decide) rfl (fun ls hl => ?_)
      refine lv_goto (tgt := 88) hx hb d_Mo_read_111 (by decide) ?_
      exact ih _ _ _ _ h _ _ _ hP hD hS (lv_sub hl [1, 0] rfl)
set_option maxHeartbeats 4000000 in
set_option maxRecDepth 100000 in
theorem k_Mo_read_50 {p : Program} {l : Launch} {e : Env} {s : State} {m : MethodId} {args : Array Value} {below : List Frame} {meth : Method} {c : Code} {g : Gz} {A : Nat → Prop} {F : Nat} {a_t : Nat → Nat} (hC : Cx prog_10_method_46_code 2 (some .int) R_Mo p s m args meth c g A A) : ∀ (t : StI) (tL : StL) (y0 : Int32) (res : Int32 × StI × StL), Mo_read_50 F t tL y0 = some res → Go p l e rm_Mo_read s m args below meth c g A A 2 (MQ below (EI g ((pic_Mo g a_t res.2.1 res.2.2)) res.1 A) args s 0 0 A) ((pic_Mo g a_t t tL)) [(0, .ref (a_t 0))] 50 [.int y0, .ref (a_t 0)] := by
  obtain ⟨hx, hb, hr, hml, hown, htb, hlocks, hA, hAA, hG⟩ := id hC
  have hK := hG.1
  intro t tL y0 res h H locs ls hP hD hS hl
  rw [Mo_read_50] at h
  refine va_put (D := gD g) (ci := 8) (v := .int y0) (ty := .int) (C := R_Mo) (T := T_Mo) (N := 64) hx hb htb in_Mo ty_Mo ty_Mo_ok nm_Mo hown hK hP hD hS 0 rfl rfl 0 (by decide) (htb _ L_Mo_144) (fun _ h9 => h9) rfl (by decide +kernel) rfl rfl (Nat.le_of_ble_eq_true rfl) d_Mo_read_50 (fun H locs hP hD hS => ?_)
  obtain ⟨t_20, et_20, h⟩ := letS_el h
  have hP : va_P (gD g) vwCl ((pic_Mo g a_t t_20 tL)) H := by rw [et_20]; exact hP
  have hD : va_D A ((pic_Mo g a_t t_20 tL)) := by rw [et_20]; exact hD
  refine lv_aload_n hx hb d_Mo_read_53 rfl (lv_at hl 0 rfl) ?_
  refine va_get (D := gD g) (ci := 8) (v := .int (t_20 9 0)) (C := R_Mo) (T := T_Mo) (N := 64) hx hb htb in_Mo hown hK hP 0 rfl rfl 9 (by decide) (htb _ L_Mo_157) (fun _ h9 => h9) rfl d_Mo_read_54 ?_
  refine lv_if_le (tgt := 78) hx hb d_Mo_read_57 (by decide) (fun c21 => ?_) (fun c21 => ?_)
  · replace h := (if_pos c21).symm.trans h
    refine lv_aload_n hx hb d_Mo_read_78 rfl (lv_at hl 0 rfl) ?_
    refine lv_aload_n hx hb d_Mo_read_79 rfl (lv_at hl 0 rfl) ?_
    refine va_get (D := gD g) (ci := 8) (v := .int (t_20 6 0)) (C := R_Mo) (T := T_Mo) (N := 64) hx hb htb in_Mo hown hK hP 0 rfl rfl 6 (by decide) (htb _ L_Mo_154) (fun _ h9 => h9) rfl d_Mo_read_80 ?_
    refine va_put (D := gD g) (ci := 8) (v := .int (t_20 6 0)) (ty := .int) (C := R_Mo) (T := T_Mo) (N := 64) hx hb htb in_Mo ty_Mo ty_Mo_ok nm_Mo hown hK hP hD hS 0 rfl rfl 7 (by decide) (htb _ L_Mo_377) (fun _ h9 => h9) rfl (by decide +kernel) rfl rfl (Nat.le_of_ble_eq_true rfl) d_Mo_read_83 (fun H locs hP hD hS => ?_)
    obtain ⟨t_22, et_22, h⟩ := letS_el h
    have hP : va_P (gD g) vwCl ((pic_Mo g a_t t_22 tL)) H := by rw [et_22]; exact hP
    have hD : va_D A ((pic_Mo g a_t t_22 tL)) := by rw [et_22]; exact hD
    refine lv_iconst (v := 0) hx hb d_Mo_read_86 (by decide) ?_
    refine lv_istore_n (lv' := [(1, .int (0 : Int32)), (0, .ref (a_t 0))]) hx hb d_Mo_read_87 rfl hl (by decide) rfl (fun ls hl => ?_)
    exact k_Mo_read_88 hC F _ _ _ _ h _ _ _ hP hD hS (lv_sub hl [1, 0] rfl)
  · replace h := (if_neg c21).symm.trans h
    refine lv_aload_n hx hb d_Mo_read_60 rfl (lv_at hl 0 rfl) ?_
    refine lv_aload_n hx hb d_Mo_read_61 rfl (lv_at hl 0 rfl) ?_
    refine va_get (D := gD g) (ci := 8) (v := .ref (a_t 6)) (C := R_Mo) (T := T_Mo) (N := 64) hx hb htb in_Mo hown hK hP 0 rfl rfl 5 (by decide) (htb _ L_Mo_19) (fun _ h9 => h9) rfl d_Mo_read_62 ?_
    refine lv_aload_n hx hb d_Mo_read_65 rfl (lv_at hl 0 rfl) ?_
    refine va_get (D := gD g) (ci := 8) (v := .int (t_20 7 0)) (C := R_Mo) (T := T_Mo) (N := 64) hx hb htb in_Mo hown hK hP 0 rfl rfl 7 (by decide) (htb _ L_Mo_377) (fun _ h9 => h9) rfl d_Mo_read_66 ?_
    obtain ⟨r23, hr23, h⟩ := Option.bind_eq_some_iff.mp h
    refine cl_V (wr := []) [0, 1, 2, 3, 4, 5, 6, 7, 8, 9, 10, 11, 12, 13, 14, 15, 16, 17, 18, 19, 20, 21, 22, 23, 24, 25, 26, 27, 28, 29, 30, 31, 32] [] rfl rfl rfl (by decide) hP hD hS hA (va_runV (As := [.ref (a_t 6), .int (t_20 7 0)]) (rest := []) ⟨hx, hb, hml, hown, htb⟩ (c_Mo_take_query l g F a_t t_20 tL (t_20 7 0) _ hr23 H.size) (cw_V htb mb_Mo_take (htb _ L_Mo_367) rfl rfl ⟨Nat.le_of_ble_eq_true rfl, Nat.le_of_ble_eq_true rfl⟩) (pre_V (va_recv hK hP (ci := 8) (q0 := 0) rfl rfl) (pre_S [0, 1, 2, 3, 4, 5, 6, 7, 8, 9, 10, 11, 12, 13, 14, 15, 16, 17, 18, 19, 20, 21, 22, 23, 24, 25, 26, 27, 28, 29, 30, 31, 32] rfl rfl hP hD hS hA hAA hG)) rfl rfl hl.1 rfl (lv_room (Nat.le_of_ble_eq_true rfl)) d_Mo_read_69 ⟨Nat.zero_le _, Nat.zero_le _⟩) (fun H locs hP hD hS => ?_)
    have hP : va_P (gD g) vwCl ((pic_Mo g a_t r23.1 r23.2)) H := hP.sub [0, 1, 2, 3, 4, 5, 6, 7, 8, 9, 10, 11, 12, 13, 14, 15, 16, 17, 18, 19, 20, 21, 22, 23, 24, 25, 26, 27, 28, 29, 30, 31, 32] rfl
    have hD : va_D A ((pic_Mo g a_t r23.1 r23.2)) := hD.sub [0, 1, 2, 3, 4, 5, 6, 7, 8, 9, 10, 11, 12, 13, 14, 15, 16, 17, 18, 19, 20, 21, 22, 23, 24, 25, 26, 27, 28, 29, 30, 31, 32] rfl rfl
    refine lv_aload_n hx hb d_Mo_read_72 rfl (lv_at hl 0 rfl) ?_
    obtain ⟨r24, hr24, h⟩ := Option.bind_eq_some_iff.mp h
    refine cl_V (wr := []) [0, 1, 2, 3, 4, 5, 6, 7, 8, 9, 10, 11, 12, 13, 14, 15, 16, 17, 18, 19, 20, 21, 22, 23, 24, 25, 26, 27, 28, 29, 30, 31, 32] [] rfl rfl rfl (by decide) hP hD hS hA (va_runV (As := []) (rest := []) ⟨hx, hb, hml, hown, htb⟩ (c_Mo_readAll l g F a_t r23.1 r23.2 _ hr24 H.size) (cw_V htb mb_Mo_readAll (htb _ L_Mo_371) rfl rfl ⟨Nat.le_of_ble_eq_true rfl, Nat.le_of_ble_eq_true rfl⟩) (pre_V (va_recv hK hP (ci := 8) (q0 := 0) rfl rfl) (pre_S [0, 1, 2, 3, 4, 5, 6, 7, 8, 9, 10, 11, 12, 13, 14, 15, 16, 17, 18, 19, 20, 21, 22, 23, 24, 25, 26, 27, 28, 29, 30, 31, 32] rfl rfl hP hD hS hA hAA hG)) rfl rfl hl.1 rfl (lv_room (Nat.le_of_ble_eq_true rfl)) d_Mo_read_73 ⟨Nat.zero_le _, Nat.zero_le _⟩) (fun H locs hP hD hS => ?_)
    have hP : va_P (gD g) vwCl ((pic_Mo g a_t r24.1 r24.2)) H := hP.sub [0, 1, 2, 3, 4, 5, 6, 7, 8, 9, 10, 11, 12, 13, 14, 15, 16, 17, 18, 19, 20, 21, 22, 23, 24, 25, 26, 27, 28, 29, 30, 31, 32] rfl
    have hD : va_D A ((pic_Mo g a_t r24.1 r24.2)) := hD.sub [0, 1, 2, 3, 4, 5, 6, 7, 8, 9, 10, 11, 12, 13, 14, 15, 16, 17, 18, 19, 20, 21, 22, 23, 24, 25, 26, 27, 28, 29, 30, 31, 32] rfl rfl
    refine lv_iconst (v := 0) hx hb d_Mo_read_76 (by decide) ?_
    cases h
    exact W.iret hx hb hr (fun t ht hW => ⟨⟨_, (), rfl, rfl, by rw [ht]; exact hP, hD⟩, hS.F ht⟩) hS.2.2 d_Mo_read_77
set_option maxHeartbeats 4000000 in
set_option maxRecDepth 100000 in
theorem k_Mo_read {p : Program} {l : Launch} {e : Env} {s : State} {m : MethodId} {args : Array Value} {below : List Frame} {meth : Method} {c : Code} {g : Gz} {A : Nat → Prop} {F : Nat} {a_t : Nat → Nat} (hC : Cx prog_10_method_46_code 2 (some .int) R_Mo p s m args meth c g A A) : ∀ (t : StI) (tL : StL) (res : Int32 × StI × StL), Mo_read F t tL = some res → Go p l e rm_Mo_read s m args below meth c g A A 2 (MQ below (EI g ((pic_Mo g a_t res.2.1 res.2.2)) res.1 A) args s 0 0 A) ((pic_Mo g a_t t tL)) [(0, .ref (a_t 0))] 0 [] := by
  obtain ⟨hx, hb, hr, hml, hown, htb, hlocks, hA, hAA, hG⟩ := id hC
  have hK := hG.1
  intro t tL res h H locs ls hP hD hS hl
  rw [Mo_read] at h
  refine lv_aload_n hx hb d_Mo_read_0 rfl (lv_at hl 0 rfl) ?_
  refine lv_aload_n hx hb d_Mo_read_1 rfl (lv_at hl 0 rfl) ?_
  refine va_get (D := gD g) (ci := 8) (v := .ref (a_t 3)) (C := R_Mo) (T := T_Mo) (N := 64) hx hb htb in_Mo hown hK hP 0 rfl rfl 2 (by decide) (htb _ L_Mo_13) (fun _ h9 => h9) rfl d_Mo_read_2 ?_
  refine lv_aload_n hx hb d_Mo_read_5 rfl (lv_at hl 0 rfl) ?_
  refine va_get (D := gD g) (ci := 8) (v := .int (t 3 0)) (C := R_Mo) (T := T_Mo) (N := 64) hx hb htb in_Mo hown hK hP 0 rfl rfl 3 (by decide) (htb _ L_Mo_151) (fun _ h9 => h9) rfl d_Mo_read_6 ?_
  obtain ⟨r25, hr25, h⟩ := Option.bind_eq_some_iff.mp h
  refine cl_V (wr := []) [0, 1, 2, 3, 4, 5, 6, 7, 8, 9, 10, 11, 12, 13, 14, 15, 16, 17, 18, 19, 20, 21, 22, 23, 24, 25, 26, 27, 28, 29, 30, 31, 32] [] rfl rfl rfl (by decide) hP hD hS hA (va_runV (As := [.ref (a_t 3), .int (t 3 0)]) (rest := []) ⟨hx, hb, hml, hown, htb⟩ (c_Mo_take_hand l g F a_t t tL (t 3 0) _ hr25 H.size) (cw_V htb mb_Mo_take (htb _ L_Mo_367) rfl rfl ⟨Nat.le_of_ble_eq_true rfl, Nat.le_of_ble_eq_true rfl⟩) (pre_V (va_recv hK hP (ci := 8) (q0 := 0) rfl rfl) (pre_S [0, 1, 2, 3, 4, 5, 6, 7, 8, 9, 10, 11, 12, 13, 14, 15, 16, 17, 18, 19, 20, 21, 22, 23, 24, 25, 26, 27, 28, 29, 30, 31, 32] rfl rfl hP hD hS hA hAA hG)) rfl rfl hl.1 rfl (lv_room (Nat.le_of_ble_eq_true rfl)) d_Mo_read_9 ⟨Nat.zero_le _, Nat.zero_le _⟩) (fun H locs hP hD hS => ?_)
  have hP : va_P (gD g) vwCl ((pic_Mo g a_t r25.1 r25.2)) H := hP.sub [0, 1, 2, 3, 4, 5, 6, 7, 8, 9, 10, 11, 12, 13, 14, 15, 16, 17, 18, 19, 20, 21, 22, 23, 24, 25, 26, 27, 28, 29, 30, 31, 32] rfl
  have hD : va_D A ((pic_Mo g a_t r25.1 r25.2)) := hD.sub [0, 1, 2, 3, 4, 5, 6, 7, 8, 9, 10, 11, 12, 13, 14, 15, 16, 17, 18, 19, 20, 21, 22, 23, 24, 25, 26, 27, 28, 29, 30, 31, 32] rfl rfl
  refine lv_aload_n hx hb d_Mo_read_12 rfl (lv_at hl 0 rfl) ?_
  refine lv_iconst (v := 0) hx hb d_Mo_read_13 (by decide) ?_
  refine va_put (D := gD g) (ci := 8) (v := .int (0 : Int32)) (ty := .int) (C := R_Mo) (T := T_Mo) (N := 64) hx hb htb in_Mo ty_Mo ty_Mo_ok nm_Mo hown hK hP hD hS 0 rfl rfl 3 (by decide) (htb _ L_Mo_151) (fun _ h9 => h9) rfl (by decide +kernel) rfl rfl (Nat.le_of_ble_eq_true rfl) d_Mo_read_14 (fun H locs hP hD hS => ?_)
  obtain ⟨t_26, et_26, h⟩ := letS_el h
  have hP : va_P (gD g) vwCl ((pic_Mo g a_t t_26 r25.2)) H := by rw [et_26]; exact hP
  have hD : va_D A ((pic_Mo g a_t t_26 r25.2)) := by rw [et_26]; exact hD
  refine lv_aload_n hx hb d_Mo_read_17 rfl (lv_at hl 0 rfl) ?_
  obtain ⟨r27, hr27, h⟩ := Option.bind_eq_some_iff.mp h
  refine cl_V (wr := []) [0, 1, 2, 3, 4, 5, 6, 7, 8, 9, 10, 11, 12, 13, 14, 15, 16, 17, 18, 19, 20, 21, 22, 23, 24, 25, 26, 27, 28, 29, 30, 31, 32] [] rfl rfl rfl (by decide) hP hD hS hA (va_runV (As := []) (rest := []) ⟨hx, hb, hml, hown, htb⟩ (c_Mo_readAll l g F a_t t_26 r25.2 _ hr27 H.size) (cw_V htb mb_Mo_readAll (htb _ L_Mo_371) rfl rfl ⟨Nat.le_of_ble_eq_true rfl, Nat.le_of_ble_eq_true rfl⟩) (pre_V (va_recv hK hP (ci := 8) (q0 := 0) rfl rfl) (pre_S [0, 1, 2, 3, 4, 5, 6, 7, 8, 9, 10, 11, 12, 13, 14, 15, 16, 17, 18, 19, 20, 21, 22, 23, 24, 25, 26, 27, 28, 29, 30, 31, 32] rfl rfl hP hD hS hA hAA hG)) rfl rfl hl.1 rfl (lv_room (Nat.le_of_ble_eq_true rfl)) d_Mo_read_18 ⟨Nat.zero_le _, Nat.zero_le _⟩) (fun H locs hP hD hS => ?_)
  have hP : va_P (gD g) vwCl ((pic_Mo g a_t r27.1 r27.2)) H := hP.sub [0, 1, 2, 3, 4, 5, 6, 7, 8, 9, 10, 11, 12, 13, 14, 15, 16, 17, 18, 19, 20, 21, 22, 23, 24, 25, 26, 27, 28, 29, 30, 31, 32] rfl
  have hD : va_D A ((pic_Mo g a_t r27.1 r27.2)) := hD.sub [0, 1, 2, 3, 4, 5, 6, 7, 8, 9, 10, 11, 12, 13, 14, 15, 16, 17, 18, 19, 20, 21, 22, 23, 24, 25, 26, 27, 28, 29, 30, 31, 32] rfl rfl
  refine lv_aload_n hx hb d_Mo_read_21 rfl (lv_at hl 0 rfl) ?_
  refine lv_aload_n hx hb d_Mo_read_22 rfl (lv_at hl 0 rfl) ?_
  refine va_get (D := gD g) (ci := 8) (v := .int (r27.1 9 0)) (C := R_Mo) (T := T_Mo) (N := 64) hx hb htb in_Mo hown hK hP 0 rfl rfl 9 (by decide) (htb _ L_Mo_157) (fun _ h9 => h9) rfl d_Mo_read_23 ?_
  refine va_put (D := gD g) (ci := 8) (v := .int (r27.1 9 0)) (ty := .int) (C := R_Mo) (T := T_Mo) (N := 64) hx hb htb in_Mo ty_Mo ty_Mo_ok nm_Mo hown hK hP hD hS 0 rfl rfl 11 (by decide) (htb _ L_Mo_374) (fun _ h9 => h9) rfl (by decide +kernel) rfl rfl (Nat.le_of_ble_eq_true rfl) d_Mo_read_26 (fun H locs hP hD hS => ?_)
  obtain ⟨t_28, et_28, h⟩ := letS_el h
  have hP : va_P (gD g) vwCl ((pic_Mo g a_t t_28 r27.2)) H := by rw [et_28]; exact hP
  have hD : va_D A ((pic_Mo g a_t t_28 r27.2)) := by rw [et_28]; exact hD
  refine lv_aload_n hx hb d_Mo_read_29 rfl (lv_at hl 0 rfl) ?_
  refine lv_aload_n hx hb d_Mo_read_30 rfl (lv_at hl 0 rfl) ?_
  refine va_get (D := gD g) (ci := 8) (v := .int (t_28 10 0)) (C := R_Mo) (T := T_Mo) (N := 64) hx hb htb in_Mo hown hK hP 0 rfl rfl 10 (by decide) (htb _ L_Mo_22) (fun _ h9 => h9) rfl d_Mo_read_31 ?_
  refine va_put (D := gD g) (ci := 8) (v := .int (t_28 10 0)) (ty := .int) (C := R_Mo) (T := T_Mo) (N := 64) hx hb htb in_Mo ty_Mo ty_Mo_ok nm_Mo hown hK hP hD hS 0 rfl rfl 12 (by decide) (htb _ L_Mo_26) (fun _ h9 => h9) rfl (by decide +kernel) rfl rfl (Nat.le_of_ble_eq_true rfl) d_Mo_read_34 (fun H locs hP hD hS => ?_)
  obtain ⟨t_29, et_29, h⟩ := letS_el h
  have hP : va_P (gD g) vwCl ((pic_Mo g a_t t_29 r27.2)) H := by rw [et_29]; exact hP
  have hD : va_D A ((pic_Mo g a_t t_29 r27.2)) := by rw [et_29]; exact hD
  refine lv_aload_n hx hb d_Mo_read_37 rfl (lv_at hl 0 rfl) ?_
  refine lv_aload_n hx hb d_Mo_read_38 rfl (lv_at hl 0 rfl) ?_
  refine va_get (D := gD g) (ci := 8) (v := .int (t_29 9 0)) (C := R_Mo) (T := T_Mo) (N := 64) hx hb htb in_Mo hown hK hP 0 rfl rfl 9 (by decide) (htb _ L_Mo_157) (fun _ h9 => h9) rfl d_Mo_read_39 ?_
  refine lv_if_le (tgt := 49) hx hb d_Mo_read_42 (by decide) (fun c30 => ?_) (fun c30 => ?_)
  · replace h := (if_pos c30).symm.trans h
    refine lv_iconst (v := 0) hx hb d_Mo_read_49 (by decide) ?_
    exact k_Mo_read_50 hC _ _ _ _ h _ _ _ hP hD hS (lv_sub hl [0] rfl)
  · replace h := (if_neg c30).symm.trans h
    refine lv_iconst (v := 1) hx hb d_Mo_read_45 (by decide) ?_
    refine lv_goto (tgt := 50) hx hb d_Mo_read_46 (by decide) ?_
    exact k_Mo_read_50 hC _ _ _ _ h _ _ _ hP hD hS (lv_sub hl [0] rfl)
theorem c_Mo_read (l : Launch) (g : Gz) (F : Nat) (a_t : Nat → Nat) (t : StI) (tL : StL) (res : Int32 × StI × StL) (h : Mo_read F t tL = some res) : ∀ sz : Nat, Met l y_Mo_read (.code y_Mo_read prog_10_method_46_code 2 (some .int) :: TBL) rm_Mo_read (va_Pc [.ref (a_t 0)] (Pre0 g ((pic_Mo g a_t t tL)) sz)) (EI g ((pic_Mo g a_t res.2.1 res.2.2)) res.1 (va_A ((pic_Mo g a_t t tL)) sz)) 0 0 (va_A ((pic_Mo g a_t t tL)) sz) :=
  ct_w (Qc := fun A => EI g ((pic_Mo g a_t res.2.1 res.2.2)) res.1 A) (by decide) (Nat.le_of_ble_eq_true rfl) (fun p e s m args below meth c A hC => k_Mo_read hC t tL res h)
def Mo_fault (F : Nat) (t : StI) (tL : StL) (x1 : Int32) : Option (Int32 × StI × StL) := letS (va_up t 0 (fun _ => (0 : Int32))) fun t_4 => if x1 = 0 then some ((t_4 11 0), t_4, tL) else if x1 = (1 : Int32) then some ((t_4 12 0), t_4, tL) else some ((-1 : Int32), t_4, tL)
set_option maxHeartbeats 4000000 in
set_option maxRecDepth 100000 in
theorem k_Mo_fault {p : Program} {l : Launch} {e : Env} {s : State} {m : MethodId} {args : Array Value} {below : List Frame} {meth : Method} {c : Code} {g : Gz} {A : Nat → Prop} {F : Nat} {a_t : Nat → Nat} (hC : Cx prog_10_method_47_code 2 (some .int) R_Mo p s m args meth c g A A) : ∀ (t : StI) (tL : StL) (x1 : Int32) (res : Int32 × StI × StL), Mo_fault F t tL x1 = some res → Go p l e rm_Mo_fault s m args below meth c g A A 2 (MQ below (EI g ((pic_Mo g a_t res.2.1 res.2.2)) res.1 A) args s 0 0 A) ((pic_Mo g a_t t tL)) [(0, .ref (a_t 0)), (1, .int x1)] 0 [] := by
  obtain ⟨hx, hb, hr, hml, hown, htb, hlocks, hA, hAA, hG⟩ := id hC
  have hK := hG.1
  intro t tL x1 res h H locs ls hP hD hS hl
  rw [Mo_fault] at h
  refine lv_aload_n hx hb d_Mo_fault_0 rfl (lv_at hl 0 rfl) ?_
  refine lv_iconst (v := 0) hx hb d_Mo_fault_1 (by decide) ?_
  refine va_put (D := gD g) (ci := 8) (v := .int (0 : Int32)) (ty := .int) (C := R_Mo) (T := T_Mo) (N := 64) hx hb htb in_Mo ty_Mo ty_Mo_ok nm_Mo hown hK hP hD hS 0 rfl rfl 0 (by decide) (htb _ L_Mo_144) (fun _ h9 => h9) rfl (by decide +kernel) rfl rfl (Nat.le_of_ble_eq_true rfl) d_Mo_fault_2 (fun H locs hP hD hS => ?_)
  obtain ⟨t_4, et_4, h⟩ := letS_el h
  have hP : va_P (gD g) vwCl ((pic_Mo g a_t t_4 tL)) H := by rw [et_4]; exact hP
  have hD : va_D A ((pic_Mo g a_t t_4 tL)) := by rw [et_4]; exact hD
  refine lv_iload_n hx hb d_Mo_fault_5 rfl (lv_at hl 1 rfl) ?_
  refine lv_if_ne (tgt := 16) hx hb d_Mo_fault_6 (by decide) (fun c5 => ?_) (fun c5 => ?_)
  · replace h := (if_neg c5).symm.trans h
    refine lv_iload_n hx hb d_Mo_fault_16 rfl (lv_at hl 1 rfl) ?_
    refine lv_iconst (v := 1) hx hb d_Mo_fault_17 (by decide) ?_
    refine lv_icmp_ne (tgt := 28) hx hb d_Mo_fault_18 (by decide) (fun c6 => ?_) (fun c6 => ?_)
    · replace h := (if_neg c6).symm.trans h
      refine lv_iconst (v := -1) hx hb d_Mo_fault_28 (by decide) ?_
      cases h
      exact W.iret hx hb hr (fun t ht hW => ⟨⟨_, (), rfl, rfl, by rw [ht]; exact hP, hD⟩, hS.F ht⟩) hS.2.2 d_Mo_fault_29
    · replace h := (if_pos c6).symm.trans h
      refine lv_aload_n hx hb d_Mo_fault_21 rfl (lv_at hl 0 rfl) ?_
      refine va_get (D := gD g) (ci := 8) (v := .int (t_4 12 0)) (C := R_Mo) (T := T_Mo) (N := 64) hx hb htb in_Mo hown hK hP 0 rfl rfl 12 (by decide) (htb _ L_Mo_26) (fun _ h9 => h9) rfl d_Mo_fault_22 ?_
      refine lv_goto (tgt := 29) hx hb d_Mo_fault_25 (by decide) ?_
      cases h
      exact W.iret hx hb hr (fun t ht hW => ⟨⟨_, (), rfl, rfl, by rw [ht]; exact hP, hD⟩, hS.F ht⟩) hS.2.2 d_Mo_fault_29
  · replace h := (if_pos c5).symm.trans h
    refine lv_aload_n hx hb d_Mo_fault_9 rfl (lv_at hl 0 rfl) ?_
    refine va_get (D := gD g) (ci := 8) (v := .int (t_4 11 0)) (C := R_Mo) (T := T_Mo) (N := 64) hx hb htb in_Mo hown hK hP 0 rfl rfl 11 (by decide) (htb _ L_Mo_374) (fun _ h9 => h9) rfl d_Mo_fault_10 ?_
    refine lv_goto (tgt := 29) hx hb d_Mo_fault_13 (by decide) ?_
    cases h
    exact W.iret hx hb hr (fun t ht hW => ⟨⟨_, (), rfl, rfl, by rw [ht]; exact hP, hD⟩, hS.F ht⟩) hS.2.2 d_Mo_fault_29
theorem c_Mo_fault (l : Launch) (g : Gz) (F : Nat) (a_t : Nat → Nat) (t : StI) (tL : StL) (x1 : Int32) (res : Int32 × StI × StL) (h : Mo_fault F t tL x1 = some res) : ∀ sz : Nat, Met l y_Mo_fault (.code y_Mo_fault prog_10_method_47_code 2 (some .int) :: TBL) rm_Mo_fault (va_Pc [.ref (a_t 0), .int x1] (Pre0 g ((pic_Mo g a_t t tL)) sz)) (EI g ((pic_Mo g a_t res.2.1 res.2.2)) res.1 (va_A ((pic_Mo g a_t t tL)) sz)) 0 0 (va_A ((pic_Mo g a_t t tL)) sz) :=
  ct_w (Qc := fun A => EI g ((pic_Mo g a_t res.2.1 res.2.2)) res.1 A) (by decide) (Nat.le_of_ble_eq_true rfl) (fun p e s m args below meth c A hC => k_Mo_fault hC t tL x1 res h)
def Mo_atom (F : Nat) (t : StI) (tL : StL) (x1 : Int32) (x2 : Int32) : Option (Int32 × StI × StL) := letS (va_up t 0 (fun _ => (0 : Int32))) fun t_15 => if x1 < 0 then some ((-1 : Int32), t_15, tL) else if x1 < (t_15 20 0) then if x2 = (0 : Int32) then if x1 < 0 ∨ 40 ≤ x1.toNatClampNeg then none else some (((t_15 22) x1.toNatClampNeg), t_15, tL) else if x2 = (1 : Int32) then if x1 < 0 ∨ 40 ≤ x1.toNatClampNeg then none else if ((t_15 29) x1.toNatClampNeg) = 0 then some ((0 : Int32), t_15, tL) else some ((1 : Int32), t_15, tL) else if x2 = (2 : Int32) then if x1 < 0 ∨ 40 ≤ x1.toNatClampNeg then none else some (((t_15 24) x1.toNatClampNeg), t_15, tL) else if x2 = (3 : Int32) then if x1 < 0 ∨ 40 ≤ x1.toNatClampNeg then none else some (((t_15 25) x1.toNatClampNeg), t_15, tL) else if x2 = (4 : Int32) then if x1 < 0 ∨ 40 ≤ x1.toNatClampNeg then none else some (((t_15 26) x1.toNatClampNeg), t_15, tL) else some ((-1 : Int32), t_15, tL) else some ((-1 : Int32), t_15, tL)
set_option maxHeartbeats 4000000 in
set_option maxRecDepth 100000 in
theorem k_Mo_atom {p : Program} {l : Launch} {e : Env} {s : State} {m : MethodId} {args : Array Value} {below : List Frame} {meth : Method} {c : Code} {g : Gz} {A : Nat → Prop} {F : Nat} {a_t : Nat → Nat} (hC : Cx prog_10_method_48_code 3 (some .int) R_Mo p s m args meth c g A A) : ∀ (t : StI) (tL : StL) (x1 : Int32) (x2 : Int32) (res : Int32 × StI × StL), Mo_atom F t tL x1 x2 = some res → Go p l e rm_Mo_atom s m args below meth c g A A 3 (MQ below (EI g ((pic_Mo g a_t res.2.1 res.2.2)) res.1 A) args s 0 0 A) ((pic_Mo g a_t t tL)) [(0, .ref (a_t 0)), (1, .int x1), (2, .int x2)] 0 [] := by
  obtain ⟨hx, hb, hr, hml, hown, htb, hlocks, hA, hAA, hG⟩ := id hC
  have hK := hG.1
  intro t tL x1 x2 res h H locs ls hP hD hS hl
  rw [Mo_atom] at h
  refine lv_aload_n hx hb d_Mo_atom_0 rfl (lv_at hl 0 rfl) ?_
  refine lv_iconst (v := 0) hx hb d_Mo_atom_1 (by decide) ?_
  refine va_put (D := gD g) (ci := 8) (v := .int (0 : Int32)) (ty := .int) (C := R_Mo) (T := T_Mo) (N := 64) hx hb htb in_Mo ty_Mo ty_Mo_ok nm_Mo hown hK hP hD hS 0 rfl rfl 0 (by decide) (htb _ L_Mo_144) (fun _ h9 => h9) rfl (by decide +kernel) rfl rfl (Nat.le_of_ble_eq_true rfl) d_Mo_atom_2 (fun H locs hP hD hS => ?_)
  obtain ⟨t_15, et_15, h⟩ := letS_el h
  have hP : va_P (gD g) vwCl ((pic_Mo g a_t t_15 tL)) H := by rw [et_15]; exact hP
  have hD : va_D A ((pic_Mo g a_t t_15 tL)) := by rw [et_15]; exact hD
  refine lv_iload_n hx hb d_Mo_atom_5 rfl (lv_at hl 1 rfl) ?_
  refine lv_if_lt (tgt := 17) hx hb d_Mo_atom_6 (by decide) (fun c16 => ?_) (fun c16 => ?_)
  · replace h := (if_pos c16).symm.trans h
    refine lv_iconst (v := -1) hx hb d_Mo_atom_17 (by decide) ?_
    cases h
    exact W.iret hx hb hr (fun t ht hW => ⟨⟨_, (), rfl, rfl, by rw [ht]; exact hP, hD⟩, hS.F ht⟩) hS.2.2 d_Mo_atom_18
  · replace h := (if_neg c16).symm.trans h
    refine lv_iload_n hx hb d_Mo_atom_9 rfl (lv_at hl 1 rfl) ?_
    refine lv_aload_n hx hb d_Mo_atom_10 rfl (lv_at hl 0 rfl) ?_
    refine va_get (D := gD g) (ci := 8) (v := .int (t_15 20 0)) (C := R_Mo) (T := T_Mo) (N := 64) hx hb htb in_Mo hown hK hP 0 rfl rfl 20 (by decide) (htb _ L_Mo_302) (fun _ h9 => h9) rfl d_Mo_atom_11 ?_
    refine lv_icmp_lt (tgt := 19) hx hb d_Mo_atom_14 (by decide) (fun c17 => ?_) (fun c17 => ?_)
    · replace h := (if_pos c17).symm.trans h
      refine lv_iload_n hx hb d_Mo_atom_19 rfl (lv_at hl 2 rfl) ?_
      by_cases c18 : x2 = (0 : Int32)
      · replace h := (if_pos c18).symm.trans h
        refine lv_tableIn (off := 36) (tgt := 56) hx hb d_Mo_atom_20 (by rw [c18]; decide) (by rw [c18]; decide) (by rw [c18]; rfl) (by decide) ?_
        refine lv_aload_n hx hb d_Mo_atom_56 rfl (lv_at hl 0 rfl) ?_
        refine va_get (D := gD g) (ci := 8) (v := .ref (a_t 23)) (C := R_Mo) (T := T_Mo) (N := 64) hx hb htb in_Mo hown hK hP 0 rfl rfl 22 (by decide) (htb _ L_Mo_57) (fun _ h9 => h9) rfl d_Mo_atom_57 ?_
        refine lv_iload_n hx hb d_Mo_atom_60 rfl (lv_at hl 1 rfl) ?_
        by_cases c28 : (x1 < 0 ∨ 40 ≤ x1.toNatClampNeg)
        · replace h := (if_pos c28).symm.trans h
          cases h
        replace h := (if_neg c28).symm.trans h
        refine va_iald hx hb hK hP 6 0 rfl rfl c28 d_Mo_atom_61 ?_
        cases h
        exact W.iret hx hb hr (fun t ht hW => ⟨⟨_, (), rfl, rfl, by rw [ht]; exact hP, hD⟩, hS.F ht⟩) hS.2.2 d_Mo_atom_62
      replace h := (if_neg c18).symm.trans h
      by_cases c19 : x2 = (1 : Int32)
      · replace h := (if_pos c19).symm.trans h
        refine lv_tableIn (off := 43) (tgt := 63) hx hb d_Mo_atom_20 (by rw [c19]; decide) (by rw [c19]; decide) (by rw [c19]; rfl) (by decide) ?_
        refine lv_aload_n hx hb d_Mo_atom_63 rfl (lv_at hl 0 rfl) ?_
        refine va_get (D := gD g) (ci := 8) (v := .ref (a_t 30)) (C := R_Mo) (T := T_Mo) (N := 64) hx hb htb in_Mo hown hK hP 0 rfl rfl 29 (by decide) (htb _ L_Mo_79) (fun _ h9 => h9) rfl d_Mo_atom_64 ?_
        refine lv_iload_n hx hb d_Mo_atom_67 rfl (lv_at hl 1 rfl) ?_
        by_cases c26 : (x1 < 0 ∨ 40 ≤ x1.toNatClampNeg)
        · replace h := (if_pos c26).symm.trans h
          cases h
        replace h := (if_neg c26).symm.trans h
        refine va_zald hx hb hK hP 13 2 rfl rfl c26 d_Mo_atom_68 ?_
        refine lv_if_eq (tgt := 76) hx hb d_Mo_atom_69 (by decide) (fun c27 => ?_) (fun c27 => ?_)
        · replace h := (if_pos c27).symm.trans h
          refine lv_iconst (v := 0) hx hb d_Mo_atom_76 (by decide) ?_
          cases h
          exact W.iret hx hb hr (fun t ht hW => ⟨⟨_, (), rfl, rfl, by rw [ht]; exact hP, hD⟩, hS.F ht⟩) hS.2.2 d_Mo_atom_77
        · replace h := (if_neg c27).symm.trans h
          refine lv_iconst (v := 1) hx hb d_Mo_atom_72 (by decide) ?_
          refine lv_goto (tgt := 77) hx hb d_Mo_atom_73 (by decide) ?_
          cases h
          exact W.iret hx hb hr (fun t ht hW => ⟨⟨_, (), rfl, rfl, by rw [ht]; exact hP, hD⟩, hS.F ht⟩) hS.2.2 d_Mo_atom_77
      replace h := (if_neg c19).symm.trans h
      by_cases c20 : x2 = (2 : Int32)
      · replace h := (if_pos c20).symm.trans h
        refine lv_tableIn (off := 58) (tgt := 78) hx hb d_Mo_atom_20 (by rw [c20]; decide) (by rw [c20]; decide) (by rw [c20]; rfl) (by decide) ?_
        refine lv_aload_n hx hb d_Mo_atom_78 rfl (lv_at hl 0 rfl) ?_
        refine va_get (D := gD g) (ci := 8) (v := .ref (a_t 25)) (C := R_Mo) (T := T_Mo) (N := 64) hx hb htb in_Mo hown hK hP 0 rfl rfl 24 (by decide) (htb _ L_Mo_64) (fun _ h9 => h9) rfl d_Mo_atom_79 ?_
        refine lv_iload_n hx hb d_Mo_atom_82 rfl (lv_at hl 1 rfl) ?_
        by_cases c25 : (x1 < 0 ∨ 40 ≤ x1.toNatClampNeg)
        · replace h := (if_pos c25).symm.trans h
          cases h
        replace h := (if_neg c25).symm.trans h
        refine va_iald hx hb hK hP 8 0 rfl rfl c25 d_Mo_atom_83 ?_
        cases h
        exact W.iret hx hb hr (fun t ht hW => ⟨⟨_, (), rfl, rfl, by rw [ht]; exact hP, hD⟩, hS.F ht⟩) hS.2.2 d_Mo_atom_84
      replace h := (if_neg c20).symm.trans h
      by_cases c21 : x2 = (3 : Int32)
      · replace h := (if_pos c21).symm.trans h
        refine lv_tableIn (off := 65) (tgt := 85) hx hb d_Mo_atom_20 (by rw [c21]; decide) (by rw [c21]; decide) (by rw [c21]; rfl) (by decide) ?_
        refine lv_aload_n hx hb d_Mo_atom_85 rfl (lv_at hl 0 rfl) ?_
        refine va_get (D := gD g) (ci := 8) (v := .ref (a_t 26)) (C := R_Mo) (T := T_Mo) (N := 64) hx hb htb in_Mo hown hK hP 0 rfl rfl 25 (by decide) (htb _ L_Mo_67) (fun _ h9 => h9) rfl d_Mo_atom_86 ?_
        refine lv_iload_n hx hb d_Mo_atom_89 rfl (lv_at hl 1 rfl) ?_
        by_cases c24 : (x1 < 0 ∨ 40 ≤ x1.toNatClampNeg)
        · replace h := (if_pos c24).symm.trans h
          cases h
        replace h := (if_neg c24).symm.trans h
        refine va_iald hx hb hK hP 9 0 rfl rfl c24 d_Mo_atom_90 ?_
        cases h
        exact W.iret hx hb hr (fun t ht hW => ⟨⟨_, (), rfl, rfl, by rw [ht]; exact hP, hD⟩, hS.F ht⟩) hS.2.2 d_Mo_atom_91
      replace h := (if_neg c21).symm.trans h
      by_cases c22 : x2 = (4 : Int32)
      · replace h := (if_pos c22).symm.trans h
        refine lv_tableIn (off := 72) (tgt := 92) hx hb d_Mo_atom_20 (by rw [c22]; decide) (by rw [c22]; decide) (by rw [c22]; rfl) (by decide) ?_
        refine lv_aload_n hx hb d_Mo_atom_92 rfl (lv_at hl 0 rfl) ?_
        refine va_get (D := gD g) (ci := 8) (v := .ref (a_t 27)) (C := R_Mo) (T := T_Mo) (N := 64) hx hb htb in_Mo hown hK hP 0 rfl rfl 26 (by decide) (htb _ L_Mo_70) (fun _ h9 => h9) rfl d_Mo_atom_93 ?_
        refine lv_iload_n hx hb d_Mo_atom_96 rfl (lv_at hl 1 rfl) ?_
        by_cases c23 : (x1 < 0 ∨ 40 ≤ x1.toNatClampNeg)
        · replace h := (if_pos c23).symm.trans h
          cases h
        replace h := (if_neg c23).symm.trans h
        refine va_iald hx hb hK hP 10 0 rfl rfl c23 d_Mo_atom_97 ?_
        cases h
        exact W.iret hx hb hr (fun t ht hW => ⟨⟨_, (), rfl, rfl, by rw [ht]; exact hP, hD⟩, hS.F ht⟩) hS.2.2 d_Mo_atom_98
      replace h := (if_neg c22).symm.trans h
      refine lv_tableOut (tgt := 99) hx hb d_Mo_atom_20 (by have z0 := lv_neT (a := 0) c18 (by decide); have z1 := lv_neT (a := 1) c19 (by decide); have z2 := lv_neT (a := 2) c20 (by decide); have z3 := lv_neT (a := 3) c21 (by decide); have z4 := lv_neT (a := 4) c22 (by decide); omega) (by decide) ?_
      refine lv_iconst (v := -1) hx hb d_Mo_atom_99 (by decide) ?_
      cases h
      exact W.iret hx hb hr (fun t ht hW => ⟨⟨_, (), rfl, rfl, by rw [ht]; exact hP, hD⟩, hS.F ht⟩) hS.2.2 d_Mo_atom_100
    · replace h := (if_neg c17).symm.trans h
      refine lv_iconst (v := -1) hx hb d_Mo_atom_17 (by decide) ?_
      cases h
      exact W.iret hx hb hr (fun t ht hW => ⟨⟨_, (), rfl, rfl, by rw [ht]; exact hP, hD⟩, hS.F ht⟩) hS.2.2 d_Mo_atom_18
theorem c_Mo_atom (l : Launch) (g : Gz) (F : Nat) (a_t : Nat → Nat) (t : StI) (tL : StL) (x1 : Int32) (x2 : Int32) (res : Int32 × StI × StL) (h : Mo_atom F t tL x1 x2 = some res) : ∀ sz : Nat, Met l y_Mo_atom (.code y_Mo_atom prog_10_method_48_code 3 (some .int) :: TBL) rm_Mo_atom (va_Pc [.ref (a_t 0), .int x1, .int x2] (Pre0 g ((pic_Mo g a_t t tL)) sz)) (EI g ((pic_Mo g a_t res.2.1 res.2.2)) res.1 (va_A ((pic_Mo g a_t t tL)) sz)) 0 0 (va_A ((pic_Mo g a_t t tL)) sz) :=
  ct_w (Qc := fun A => EI g ((pic_Mo g a_t res.2.1 res.2.2)) res.1 A) (by decide) (Nat.le_of_ble_eq_true rfl) (fun p e s m args below meth c A hC => k_Mo_atom hC t tL x1 x2 res h)
def Mo_atomByte (F : Nat) (t : StI) (tL : StL) (x1 : Int32) (x2 : Int32) : Option (Int32 × StI × StL) := letS (va_up t 0 (fun _ => (0 : Int32))) fun t_9 => if x1 < 0 then some ((-1 : Int32), t_9, tL) else if (t_9 20 0) ≤ x1 then some ((-1 : Int32), t_9, tL) else if x2 < 0 then some ((-1 : Int32), t_9, tL) else if x1 < 0 ∨ 40 ≤ x1.toNatClampNeg then none else if ((t_9 24) x1.toNatClampNeg) ≤ x2 then some ((-1 : Int32), t_9, tL) else if x1 < 0 ∨ 40 ≤ x1.toNatClampNeg then none else (Mo_see F t_9 tL (((t_9 23) x1.toNatClampNeg) + x2)).bind fun r16 => some (r16, t_9, tL)
set_option maxHeartbeats 4000000 in
set_option maxRecDepth 100000 in
theorem k_Mo_atomByte {p : Program} {l : Launch} {e : Env} {s : State} {m : MethodId} {args : Array Value} {below : List Frame} {meth : Method} {c : Code} {g : Gz} {A : Nat → Prop} {F : Nat} {a_t : Nat → Nat} (hC : Cx prog_10_method_49_code 3 (some .int) R_Mo p s m args meth c g A A) : ∀ (t : StI) (tL : StL) (x1 : Int32) (x2 : Int32) (res : Int32 × StI × StL), Mo_atomByte F t tL x1 x2 = some res → Go p l e rm_Mo_atomByte s m args below meth c g A A 3 (MQ below (EI g ((pic_Mo g a_t res.2.1 res.2.2)) res.1 A) args s 0 0 A) ((pic_Mo g a_t t tL)) [(0, .ref (a_t 0)), (1, .int x1), (2, .int x2)] 0 [] := by
  obtain ⟨hx, hb, hr, hml, hown, htb, hlocks, hA, hAA, hG⟩ := id hC
  have hK := hG.1
  intro t tL x1 x2 res h H locs ls hP hD hS hl
  rw [Mo_atomByte] at h
  refine lv_aload_n hx hb d_Mo_atomByte_0 rfl (lv_at hl 0 rfl) ?_
  refine lv_iconst (v := 0) hx hb d_Mo_atomByte_1 (by decide) ?_
  refine va_put (D := gD g) (ci := 8) (v := .int (0 : Int32)) (ty := .int) (C := R_Mo) (T := T_Mo) (N := 64) hx hb htb in_Mo ty_Mo ty_Mo_ok nm_Mo hown hK hP hD hS 0 rfl rfl 0 (by decide) (htb _ L_Mo_144) (fun _ h9 => h9) rfl (by decide +kernel) rfl rfl (Nat.le_of_ble_eq_true rfl) d_Mo_atomByte_2 (fun H locs hP hD hS => ?_)
  obtain ⟨t_9, et_9, h⟩ := letS_el h
  have hP : va_P (gD g) vwCl ((pic_Mo g a_t t_9 tL)) H := by rw [et_9]; exact hP
  have hD : va_D A ((pic_Mo g a_t t_9 tL)) := by rw [et_9]; exact hD
  refine lv_iload_n hx hb d_Mo_atomByte_5 rfl (lv_at hl 1 rfl) ?_
  refine lv_if_lt (tgt := 46) hx hb d_Mo_atomByte_6 (by decide) (fun c10 => ?_) (fun c10 => ?_)
  · replace h := (if_pos c10).symm.trans h
    refine lv_iconst (v := -1) hx hb d_Mo_atomByte_46 (by decide) ?_
    cases h
    exact W.iret hx hb hr (fun t ht hW => ⟨⟨_, (), rfl, rfl, by rw [ht]; exact hP, hD⟩, hS.F ht⟩) hS.2.2 d_Mo_atomByte_47
  · replace h := (if_neg c10).symm.trans h
    refine lv_iload_n hx hb d_Mo_atomByte_9 rfl (lv_at hl 1 rfl) ?_
    refine lv_aload_n hx hb d_Mo_atomByte_10 rfl (lv_at hl 0 rfl) ?_
    refine va_get (D := gD g) (ci := 8) (v := .int (t_9 20 0)) (C := R_Mo) (T := T_Mo) (N := 64) hx hb htb in_Mo hown hK hP 0 rfl rfl 20 (by decide) (htb _ L_Mo_302) (fun _ h9 => h9) rfl d_Mo_atomByte_11 ?_
    refine lv_icmp_ge (tgt := 46) hx hb d_Mo_atomByte_14 (by decide) (fun c11 => ?_) (fun c11 => ?_)
    · replace h := (if_pos c11).symm.trans h
      refine lv_iconst (v := -1) hx hb d_Mo_atomByte_46 (by decide) ?_
      cases h
      exact W.iret hx hb hr (fun t ht hW => ⟨⟨_, (), rfl, rfl, by rw [ht]; exact hP, hD⟩, hS.F ht⟩) hS.2.2 d_Mo_atomByte_47
    · replace h := (if_neg c11).symm.trans h
      refine lv_iload_n hx hb d_Mo_atomByte_17 rfl (lv_at hl 2 rfl) ?_
      refine lv_if_lt (tgt := 46) hx hb d_Mo_atomByte_18 (by decide) (fun c12 => ?_) (fun c12 => ?_)
      · replace h := (if_pos c12).symm.trans h
        refine lv_iconst (v := -1) hx hb d_Mo_atomByte_46 (by decide) ?_
        cases h
        exact W.iret hx hb hr (fun t ht hW => ⟨⟨_, (), rfl, rfl, by rw [ht]; exact hP, hD⟩, hS.F ht⟩) hS.2.2 d_Mo_atomByte_47
      · replace h := (if_neg c12).symm.trans h
        refine lv_iload_n hx hb d_Mo_atomByte_21 rfl (lv_at hl 2 rfl) ?_
        refine lv_aload_n hx hb d_Mo_atomByte_22 rfl (lv_at hl 0 rfl) ?_
        refine va_get (D := gD g) (ci := 8) (v := .ref (a_t 25)) (C := R_Mo) (T := T_Mo) (N := 64) hx hb htb in_Mo hown hK hP 0 rfl rfl 24 (by decide) (htb _ L_Mo_64) (fun _ h9 => h9) rfl d_Mo_atomByte_23 ?_
        refine lv_iload_n hx hb d_Mo_atomByte_26 rfl (lv_at hl 1 rfl) ?_
        by_cases c13 : (x1 < 0 ∨ 40 ≤ x1.toNatClampNeg)
        · replace h := (if_pos c13).symm.trans h
          cases h
        replace h := (if_neg c13).symm.trans h
        refine va_iald hx hb hK hP 8 0 rfl rfl c13 d_Mo_atomByte_27 ?_
        refine lv_icmp_ge (tgt := 46) hx hb d_Mo_atomByte_28 (by decide) (fun c14 => ?_) (fun c14 => ?_)
        · replace h := (if_pos c14).symm.trans h
          refine lv_iconst (v := -1) hx hb d_Mo_atomByte_46 (by decide) ?_
          cases h
          exact W.iret hx hb hr (fun t ht hW => ⟨⟨_, (), rfl, rfl, by rw [ht]; exact hP, hD⟩, hS.F ht⟩) hS.2.2 d_Mo_atomByte_47
        · replace h := (if_neg c14).symm.trans h
          refine lv_aload_n hx hb d_Mo_atomByte_31 rfl (lv_at hl 0 rfl) ?_
          refine lv_aload_n hx hb d_Mo_atomByte_32 rfl (lv_at hl 0 rfl) ?_
          refine va_get (D := gD g) (ci := 8) (v := .ref (a_t 24)) (C := R_Mo) (T := T_Mo) (N := 64) hx hb htb in_Mo hown hK hP 0 rfl rfl 23 (by decide) (htb _ L_Mo_61) (fun _ h9 => h9) rfl d_Mo_atomByte_33 ?_
          refine lv_iload_n hx hb d_Mo_atomByte_36 rfl (lv_at hl 1 rfl) ?_
          by_cases c15 : (x1 < 0 ∨ 40 ≤ x1.toNatClampNeg)
          · replace h := (if_pos c15).symm.trans h
            cases h
          replace h := (if_neg c15).symm.trans h
          refine va_iald hx hb hK hP 7 0 rfl rfl c15 d_Mo_atomByte_37 ?_
          refine lv_iload_n hx hb d_Mo_atomByte_38 rfl (lv_at hl 2 rfl) ?_
          refine lv_iadd hx hb d_Mo_atomByte_39 ?_
          obtain ⟨r16, hr16, h⟩ := Option.bind_eq_some_iff.mp h
          refine cl_Ir hP hS hA (va_runV (As := [.int (((t_9 23) x1.toNatClampNeg) + x2)]) (rest := []) ⟨hx, hb, hml, hown, htb⟩ (c_Mo_see l g F a_t t_9 tL (((t_9 23) x1.toNatClampNeg) + x2) _ hr16 H.size) (cw_V htb mb_Mo_see (htb _ L_Mo_160) rfl rfl ⟨Nat.le_of_ble_eq_true rfl, Nat.le_of_ble_eq_true rfl⟩) (pre_V (va_recv hK hP (ci := 8) (q0 := 0) rfl rfl) (pre_S [0, 1, 2, 3, 4, 5, 6, 7, 8, 9, 10, 11, 12, 13, 14, 15, 16, 17, 18, 19, 20, 21, 22, 23, 24, 25, 26, 27, 28, 29, 30, 31, 32] rfl rfl hP hD hS hA hAA hG)) rfl rfl hl.1 rfl (lv_room (Nat.le_of_ble_eq_true rfl)) d_Mo_atomByte_40 ⟨Nat.zero_le _, Nat.zero_le _⟩) (fun H locs hP hS => ?_)
          refine lv_goto (tgt := 47) hx hb d_Mo_atomByte_43 (by decide) ?_
          cases h
          exact W.iret hx hb hr (fun t ht hW => ⟨⟨_, (), rfl, rfl, by rw [ht]; exact hP, hD⟩, hS.F ht⟩) hS.2.2 d_Mo_atomByte_47
theorem c_Mo_atomByte (l : Launch) (g : Gz) (F : Nat) (a_t : Nat → Nat) (t : StI) (tL : StL) (x1 : Int32) (x2 : Int32) (res : Int32 × StI × StL) (h : Mo_atomByte F t tL x1 x2 = some res) : ∀ sz : Nat, Met l y_Mo_atomByte (.code y_Mo_atomByte prog_10_method_49_code 3 (some .int) :: TBL) rm_Mo_atomByte (va_Pc [.ref (a_t 0), .int x1, .int x2] (Pre0 g ((pic_Mo g a_t t tL)) sz)) (EI g ((pic_Mo g a_t res.2.1 res.2.2)) res.1 (va_A ((pic_Mo g a_t t tL)) sz)) 0 0 (va_A ((pic_Mo g a_t t tL)) sz) :=
  ct_w (Qc := fun A => EI g ((pic_Mo g a_t res.2.1 res.2.2)) res.1 A) (by decide) (Nat.le_of_ble_eq_true rfl) (fun p e s m args below meth c A hC => k_Mo_atomByte hC t tL x1 x2 res h)
