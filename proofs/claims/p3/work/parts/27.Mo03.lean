theorem L_Mo_263 : (Jvm.Cond.methodLink "MailQueriesModel" (263 : Nat) ({ cls := "MailQueriesModel", name := "isBytes", desc := "(II)Z" } : Jvm.MethodName)) ∈ TBL := TBL_in (List.mem_of_getElem? (i := 1322) (by decide +kernel)) (by decide +kernel)
theorem L_Mo_260 : (Jvm.Cond.methodLink "MailQueriesModel" (260 : Nat) ({ cls := "MailQueriesModel", name := "isDay", desc := "(II)Z" } : Jvm.MethodName)) ∈ TBL := TBL_in (List.mem_of_getElem? (i := 1304) (by decide +kernel)) (by decide +kernel)
set_option maxRecDepth 100000 in
theorem W_Mo_isBound_code : (Jvm.Cond.code ({ cls := "MailQueriesModel", name := "isBound", desc := "(III)Z" } : Jvm.MethodName) prog_10_method_27_code (4 : Nat) (Option.some Jvm.ClassFile.FieldType.boolean)) ∈ TBL := TBL_in (List.mem_of_getElem? (i := 1303) rfl) rfl
theorem W_Mo_isBound_in : (Jvm.Cond.instanceMethod ({ cls := "MailQueriesModel", name := "isBound", desc := "(III)Z" } : Jvm.MethodName)) ∈ TBL := TBL_in (List.mem_of_getElem? (i := 1302) (by decide +kernel)) (by decide +kernel)
theorem sel_75 : Cond.selects "MailQueriesModel" ⟨"MailQueriesModel", "isBound", "(III)Z"⟩ ⟨"MailQueriesModel", "isBound", "(III)Z"⟩ ∈ TBL := TBL_in (List.mem_of_getElem? (i := 75) (by decide +kernel)) (by decide +kernel)
theorem K_Mo_276 : (Jvm.Cond.constant "MailQueriesModel" (276 : Nat) (-2147483648 : Int32)) ∈ TBL := TBL_in (List.mem_of_getElem? (i := 1330) (by decide +kernel)) (by decide +kernel)
theorem L_Mo_266 : (Jvm.Cond.methodLink "MailQueriesModel" (266 : Nat) ({ cls := "MailQueriesModel", name := "isBound", desc := "(III)Z" } : Jvm.MethodName)) ∈ TBL := TBL_in (List.mem_of_getElem? (i := 1300) (by decide +kernel)) (by decide +kernel)
theorem L_Mo_273 : (Jvm.Cond.fieldLink "MailQueriesModel" (273 : Nat) "MailQueriesModel" "greatest" "I") ∈ TBL := TBL_in (List.mem_of_getElem? (i := 1026) (by decide +kernel)) (by decide +kernel)
theorem L_Mo_270 : (Jvm.Cond.fieldLink "MailQueriesModel" (270 : Nat) "MailQueriesModel" "least" "I") ∈ TBL := TBL_in (List.mem_of_getElem? (i := 1025) (by decide +kernel)) (by decide +kernel)
set_option maxRecDepth 100000 in
theorem W_Mo_isRange_code : (Jvm.Cond.code ({ cls := "MailQueriesModel", name := "isRange", desc := "(III)Z" } : Jvm.MethodName) prog_10_method_28_code (6 : Nat) (Option.some Jvm.ClassFile.FieldType.boolean)) ∈ TBL := TBL_in (List.mem_of_getElem? (i := 1299) rfl) rfl
theorem W_Mo_isRange_in : (Jvm.Cond.instanceMethod ({ cls := "MailQueriesModel", name := "isRange", desc := "(III)Z" } : Jvm.MethodName)) ∈ TBL := TBL_in (List.mem_of_getElem? (i := 1298) (by decide +kernel)) (by decide +kernel)
theorem sel_74 : Cond.selects "MailQueriesModel" ⟨"MailQueriesModel", "isRange", "(III)Z"⟩ ⟨"MailQueriesModel", "isRange", "(III)Z"⟩ ∈ TBL := TBL_in (List.mem_of_getElem? (i := 74) (by decide +kernel)) (by decide +kernel)
set_option maxRecDepth 100000 in
theorem W_Mo_star_code : (Jvm.Cond.code ({ cls := "MailQueriesModel", name := "star", desc := "()I" } : Jvm.MethodName) prog_10_method_29_code (3 : Nat) (Option.some Jvm.ClassFile.FieldType.int)) ∈ TBL := TBL_in (List.mem_of_getElem? (i := 1295) rfl) rfl
theorem W_Mo_star_in : (Jvm.Cond.instanceMethod ({ cls := "MailQueriesModel", name := "star", desc := "()I" } : Jvm.MethodName)) ∈ TBL := TBL_in (List.mem_of_getElem? (i := 1294) (by decide +kernel)) (by decide +kernel)
theorem sel_73 : Cond.selects "MailQueriesModel" ⟨"MailQueriesModel", "star", "()I"⟩ ⟨"MailQueriesModel", "star", "()I"⟩ ∈ TBL := TBL_in (List.mem_of_getElem? (i := 73) (by decide +kernel)) (by decide +kernel)
theorem K_Mo_297 : (Jvm.Cond.constantLong "MailQueriesModel" (297 : Nat) (7308888588583728229 : Int64)) ∈ TBL := TBL_in (List.mem_of_getElem? (i := 1291) (by decide +kernel)) (by decide +kernel)
set_option maxRecDepth 100000 in
theorem W_Mo_isEncrypted_code : (Jvm.Cond.code ({ cls := "MailQueriesModel", name := "isEncrypted", desc := "()Z" } : Jvm.MethodName) prog_10_method_31_code (1 : Nat) (Option.some Jvm.ClassFile.FieldType.boolean)) ∈ TBL := TBL_in (List.mem_of_getElem? (i := 1290) rfl) rfl
theorem W_Mo_isEncrypted_in : (Jvm.Cond.instanceMethod ({ cls := "MailQueriesModel", name := "isEncrypted", desc := "()Z" } : Jvm.MethodName)) ∈ TBL := TBL_in (List.mem_of_getElem? (i := 1289) (by decide +kernel)) (by decide +kernel)
theorem sel_72 : Cond.selects "MailQueriesModel" ⟨"MailQueriesModel", "isEncrypted", "()Z"⟩ ⟨"MailQueriesModel", "isEncrypted", "()Z"⟩ ∈ TBL := TBL_in (List.mem_of_getElem? (i := 72) (by decide +kernel)) (by decide +kernel)
theorem K_Mo_280 : (Jvm.Cond.constantLong "MailQueriesModel" (280 : Nat) (129117226099044 : Int64)) ∈ TBL := TBL_in (List.mem_of_getElem? (i := 1284) (by decide +kernel)) (by decide +kernel)
theorem K_Mo_282 : (Jvm.Cond.constantLong "MailQueriesModel" (282 : Nat) (28829613226943844 : Int64)) ∈ TBL := TBL_in (List.mem_of_getElem? (i := 1285) (by decide +kernel)) (by decide +kernel)
theorem K_Mo_284 : (Jvm.Cond.constantLong "MailQueriesModel" (284 : Nat) (32199680874603876 : Int64)) ∈ TBL := TBL_in (List.mem_of_getElem? (i := 1286) (by decide +kernel)) (by decide +kernel)
theorem L_Mo_294 : (Jvm.Cond.methodLink "MailQueriesModel" (294 : Nat) ({ cls := "MailQueriesModel", name := "isRange", desc := "(III)Z" } : Jvm.MethodName)) ∈ TBL := TBL_in (List.mem_of_getElem? (i := 1296) (by decide +kernel)) (by decide +kernel)
theorem L_Mo_290 : (Jvm.Cond.methodLink "MailQueriesModel" (290 : Nat) ({ cls := "MailQueriesModel", name := "star", desc := "()I" } : Jvm.MethodName)) ∈ TBL := TBL_in (List.mem_of_getElem? (i := 1292) (by decide +kernel)) (by decide +kernel)
theorem L_Mo_286 : (Jvm.Cond.methodLink "MailQueriesModel" (286 : Nat) ({ cls := "MailQueriesModel", name := "isEncrypted", desc := "()Z" } : Jvm.MethodName)) ∈ TBL := TBL_in (List.mem_of_getElem? (i := 1287) (by decide +kernel)) (by decide +kernel)
theorem L_Mo_277 : (Jvm.Cond.methodLink "MailQueriesModel" (277 : Nat) ({ cls := "MailQueriesModel", name := "isTag", desc := "(II)Z" } : Jvm.MethodName)) ∈ TBL := TBL_in (List.mem_of_getElem? (i := 1277) (by decide +kernel)) (by decide +kernel)
set_option maxRecDepth 100000 in
theorem W_Mo_isRight_code : (Jvm.Cond.code ({ cls := "MailQueriesModel", name := "isRight", desc := "()Z" } : Jvm.MethodName) prog_10_method_30_code (1 : Nat) (Option.some Jvm.ClassFile.FieldType.boolean)) ∈ TBL := TBL_in (List.mem_of_getElem? (i := 1276) rfl) rfl
theorem W_Mo_isRight_in : (Jvm.Cond.instanceMethod ({ cls := "MailQueriesModel", name := "isRight", desc := "()Z" } : Jvm.MethodName)) ∈ TBL := TBL_in (List.mem_of_getElem? (i := 1275) (by decide +kernel)) (by decide +kernel)
theorem sel_70 : Cond.selects "MailQueriesModel" ⟨"MailQueriesModel", "isRight", "()Z"⟩ ⟨"MailQueriesModel", "isRight", "()Z"⟩ ∈ TBL := TBL_in (List.mem_of_getElem? (i := 70) (by decide +kernel)) (by decide +kernel)
set_option maxRecDepth 100000 in
theorem W_Mo_small_code : (Jvm.Cond.code ({ cls := "MailQueriesModel", name := "small", desc := "(I)I" } : Jvm.MethodName) prog_10_method_32_code (1 : Nat) (Option.some Jvm.ClassFile.FieldType.int)) ∈ TBL := TBL_in (List.mem_of_getElem? (i := 1341) rfl) rfl
theorem W_Mo_small_st : (Jvm.Cond.static ({ cls := "MailQueriesModel", name := "small", desc := "(I)I" } : Jvm.MethodName)) ∈ TBL := TBL_in (List.mem_of_getElem? (i := 1340) (by decide +kernel)) (by decide +kernel)
theorem L_Mo_64 : (Jvm.Cond.fieldLink "MailQueriesModel" (64 : Nat) "MailQueriesModel" "atomSize" "[I") ∈ TBL := TBL_in (List.mem_of_getElem? (i := 991) (by decide +kernel)) (by decide +kernel)
theorem L_Mo_61 : (Jvm.Cond.fieldLink "MailQueriesModel" (61 : Nat) "MailQueriesModel" "atomFrom" "[I") ∈ TBL := TBL_in (List.mem_of_getElem? (i := 990) (by decide +kernel)) (by decide +kernel)
theorem L_Mo_299 : (Jvm.Cond.methodLink "MailQueriesModel" (299 : Nat) ({ cls := "MailQueriesModel", name := "small", desc := "(I)I" } : Jvm.MethodName)) ∈ TBL := TBL_in (List.mem_of_getElem? (i := 1339) (by decide +kernel)) (by decide +kernel)
theorem L_Mo_57 : (Jvm.Cond.fieldLink "MailQueriesModel" (57 : Nat) "MailQueriesModel" "atomField" "[I") ∈ TBL := TBL_in (List.mem_of_getElem? (i := 989) (by decide +kernel)) (by decide +kernel)
theorem L_Mo_79 : (Jvm.Cond.fieldLink "MailQueriesModel" (79 : Nat) "MailQueriesModel" "atomPhrase" "[Z") ∈ TBL := TBL_in (List.mem_of_getElem? (i := 996) (by decide +kernel)) (by decide +kernel)
set_option maxRecDepth 100000 in
theorem W_Mo_isAlike_code : (Jvm.Cond.code ({ cls := "MailQueriesModel", name := "isAlike", desc := "(I)Z" } : Jvm.MethodName) prog_10_method_33_code (4 : Nat) (Option.some Jvm.ClassFile.FieldType.boolean)) ∈ TBL := TBL_in (List.mem_of_getElem? (i := 1338) rfl) rfl
theorem W_Mo_isAlike_in : (Jvm.Cond.instanceMethod ({ cls := "MailQueriesModel", name := "isAlike", desc := "(I)Z" } : Jvm.MethodName)) ∈ TBL := TBL_in (List.mem_of_getElem? (i := 1337) (by decide +kernel)) (by decide +kernel)
theorem sel_81 : Cond.selects "MailQueriesModel" ⟨"MailQueriesModel", "isAlike", "(I)Z"⟩ ⟨"MailQueriesModel", "isAlike", "(I)Z"⟩ ∈ TBL := TBL_in (List.mem_of_getElem? (i := 81) (by decide +kernel)) (by decide +kernel)
theorem L_Mo_70 : (Jvm.Cond.fieldLink "MailQueriesModel" (70 : Nat) "MailQueriesModel" "atomTimes" "[I") ∈ TBL := TBL_in (List.mem_of_getElem? (i := 993) (by decide +kernel)) (by decide +kernel)
theorem L_Mo_73 : (Jvm.Cond.fieldLink "MailQueriesModel" (73 : Nat) "MailQueriesModel" "low" "[I") ∈ TBL := TBL_in (List.mem_of_getElem? (i := 994) (by decide +kernel)) (by decide +kernel)
theorem L_Mo_76 : (Jvm.Cond.fieldLink "MailQueriesModel" (76 : Nat) "MailQueriesModel" "high" "[I") ∈ TBL := TBL_in (List.mem_of_getElem? (i := 995) (by decide +kernel)) (by decide +kernel)
theorem L_Mo_302 : (Jvm.Cond.fieldLink "MailQueriesModel" (302 : Nat) "MailQueriesModel" "atoms" "I") ∈ TBL := TBL_in (List.mem_of_getElem? (i := 987) (by decide +kernel)) (by decide +kernel)
theorem L_Mo_67 : (Jvm.Cond.fieldLink "MailQueriesModel" (67 : Nat) "MailQueriesModel" "atomStar" "[I") ∈ TBL := TBL_in (List.mem_of_getElem? (i := 992) (by decide +kernel)) (by decide +kernel)
theorem L_Mo_305 : (Jvm.Cond.methodLink "MailQueriesModel" (305 : Nat) ({ cls := "MailQueriesModel", name := "isAlike", desc := "(I)Z" } : Jvm.MethodName)) ∈ TBL := TBL_in (List.mem_of_getElem? (i := 1335) (by decide +kernel)) (by decide +kernel)
set_option maxRecDepth 100000 in
theorem W_Mo_atomNumber_code : (Jvm.Cond.code ({ cls := "MailQueriesModel", name := "atomNumber", desc := "()I" } : Jvm.MethodName) prog_10_method_34_code (2 : Nat) (Option.some Jvm.ClassFile.FieldType.int)) ∈ TBL := TBL_in (List.mem_of_getElem? (i := 1334) rfl) rfl
theorem W_Mo_atomNumber_in : (Jvm.Cond.instanceMethod ({ cls := "MailQueriesModel", name := "atomNumber", desc := "()I" } : Jvm.MethodName)) ∈ TBL := TBL_in (List.mem_of_getElem? (i := 1333) (by decide +kernel)) (by decide +kernel)
theorem sel_80 : Cond.selects "MailQueriesModel" ⟨"MailQueriesModel", "atomNumber", "()I"⟩ ⟨"MailQueriesModel", "atomNumber", "()I"⟩ ∈ TBL := TBL_in (List.mem_of_getElem? (i := 80) (by decide +kernel)) (by decide +kernel)
def y_Mo_isBound : MethodName := ⟨"MailQueriesModel", "isBound", "(III)Z"⟩
def rm_Mo_isBound : Room := { frames := 3, cells := 0, slots := 0, locals := 72 }
theorem d_Mo_isBound_0 : decode prog_10_method_27_code 0 = .ok (.iload_n 1, 1) := by decide +kernel
theorem d_Mo_isBound_1 : decode prog_10_method_27_code 1 = .ok (.bipush 11, 2) := by decide +kernel
theorem d_Mo_isBound_3 : decode prog_10_method_27_code 3 = .ok (.if_icmp .ne 12, 3) := by decide +kernel
theorem d_Mo_isBound_6 : decode prog_10_method_27_code 6 = .ok (.aload_n 0, 1) := by decide +kernel
theorem d_Mo_isBound_7 : decode prog_10_method_27_code 7 = .ok (.iload_n 2, 1) := by decide +kernel
theorem d_Mo_isBound_8 : decode prog_10_method_27_code 8 = .ok (.iload_n 3, 1) := by decide +kernel
theorem d_Mo_isBound_9 : decode prog_10_method_27_code 9 = .ok (.invokevirtual 260, 3) := by decide +kernel
theorem d_Mo_isBound_12 : decode prog_10_method_27_code 12 = .ok (.goto 9, 3) := by decide +kernel
theorem d_Mo_isBound_15 : decode prog_10_method_27_code 15 = .ok (.aload_n 0, 1) := by decide +kernel
theorem d_Mo_isBound_16 : decode prog_10_method_27_code 16 = .ok (.iload_n 2, 1) := by decide +kernel
theorem d_Mo_isBound_17 : decode prog_10_method_27_code 17 = .ok (.iload_n 3, 1) := by decide +kernel
theorem d_Mo_isBound_18 : decode prog_10_method_27_code 18 = .ok (.invokevirtual 263, 3) := by decide +kernel
theorem d_Mo_isBound_21 : decode prog_10_method_27_code 21 = .ok (.ireturn, 1) := by decide +kernel
def y_Mo_isRange : MethodName := ⟨"MailQueriesModel", "isRange", "(III)Z"⟩
def rm_Mo_isRange : Room := { frames := 4, cells := 0, slots := 0, locals := 95 }
theorem d_Mo_isRange_0 : decode prog_10_method_28_code 0 = .ok (.iload_n 2, 1) := by decide +kernel
theorem d_Mo_isRange_1 : decode prog_10_method_28_code 1 = .ok (.istore 4, 2) := by decide +kernel
theorem d_Mo_isRange_3 : decode prog_10_method_28_code 3 = .ok (.iload 4, 2) := by decide +kernel
theorem d_Mo_isRange_5 : decode prog_10_method_28_code 5 = .ok (.iconst 1, 1) := by decide +kernel
theorem d_Mo_isRange_6 : decode prog_10_method_28_code 6 = .ok (.iadd, 1) := by decide +kernel
theorem d_Mo_isRange_7 : decode prog_10_method_28_code 7 = .ok (.iload_n 3, 1) := by decide +kernel
theorem d_Mo_isRange_8 : decode prog_10_method_28_code 8 = .ok (.if_icmp .ge 33, 3) := by decide +kernel
theorem d_Mo_isRange_11 : decode prog_10_method_28_code 11 = .ok (.aload_n 0, 1) := by decide +kernel
theorem d_Mo_isRange_12 : decode prog_10_method_28_code 12 = .ok (.iload 4, 2) := by decide +kernel
theorem d_Mo_isRange_14 : decode prog_10_method_28_code 14 = .ok (.invokevirtual 160, 3) := by decide +kernel
theorem d_Mo_isRange_17 : decode prog_10_method_28_code 17 = .ok (.bipush 46, 2) := by decide +kernel
theorem d_Mo_isRange_19 : decode prog_10_method_28_code 19 = .ok (.if_icmp .ne 16, 3) := by decide +kernel
theorem d_Mo_isRange_22 : decode prog_10_method_28_code 22 = .ok (.aload_n 0, 1) := by decide +kernel
theorem d_Mo_isRange_23 : decode prog_10_method_28_code 23 = .ok (.iload 4, 2) := by decide +kernel
theorem d_Mo_isRange_25 : decode prog_10_method_28_code 25 = .ok (.iconst 1, 1) := by decide +kernel
theorem d_Mo_isRange_26 : decode prog_10_method_28_code 26 = .ok (.iadd, 1) := by decide +kernel
theorem d_Mo_isRange_27 : decode prog_10_method_28_code 27 = .ok (.invokevirtual 160, 3) := by decide +kernel
theorem d_Mo_isRange_30 : decode prog_10_method_28_code 30 = .ok (.bipush 46, 2) := by decide +kernel
theorem d_Mo_isRange_32 : decode prog_10_method_28_code 32 = .ok (.if_icmp .eq 9, 3) := by decide +kernel
theorem d_Mo_isRange_35 : decode prog_10_method_28_code 35 = .ok (.iinc 4 1, 3) := by decide +kernel
theorem d_Mo_isRange_38 : decode prog_10_method_28_code 38 = .ok (.goto (-35), 3) := by decide +kernel
theorem d_Mo_isRange_41 : decode prog_10_method_28_code 41 = .ok (.iload 4, 2) := by decide +kernel
theorem d_Mo_isRange_43 : decode prog_10_method_28_code 43 = .ok (.iconst 1, 1) := by decide +kernel
theorem d_Mo_isRange_44 : decode prog_10_method_28_code 44 = .ok (.iadd, 1) := by decide +kernel
theorem d_Mo_isRange_45 : decode prog_10_method_28_code 45 = .ok (.iload_n 3, 1) := by decide +kernel
theorem d_Mo_isRange_46 : decode prog_10_method_28_code 46 = .ok (.if_icmp .lt 31, 3) := by decide +kernel
theorem d_Mo_isRange_49 : decode prog_10_method_28_code 49 = .ok (.aload_n 0, 1) := by decide +kernel
theorem d_Mo_isRange_50 : decode prog_10_method_28_code 50 = .ok (.iload_n 1, 1) := by decide +kernel
theorem d_Mo_isRange_51 : decode prog_10_method_28_code 51 = .ok (.iload_n 2, 1) := by decide +kernel
theorem d_Mo_isRange_52 : decode prog_10_method_28_code 52 = .ok (.iload_n 3, 1) := by decide +kernel
theorem d_Mo_isRange_53 : decode prog_10_method_28_code 53 = .ok (.invokevirtual 266, 3) := by decide +kernel
theorem d_Mo_isRange_56 : decode prog_10_method_28_code 56 = .ok (.istore 5, 2) := by decide +kernel
theorem d_Mo_isRange_58 : decode prog_10_method_28_code 58 = .ok (.aload_n 0, 1) := by decide +kernel
theorem d_Mo_isRange_59 : decode prog_10_method_28_code 59 = .ok (.aload_n 0, 1) := by decide +kernel
theorem d_Mo_isRange_60 : decode prog_10_method_28_code 60 = .ok (.getfield 246, 3) := by decide +kernel
theorem d_Mo_isRange_63 : decode prog_10_method_28_code 63 = .ok (.putfield 270, 3) := by decide +kernel
theorem d_Mo_isRange_66 : decode prog_10_method_28_code 66 = .ok (.aload_n 0, 1) := by decide +kernel
theorem d_Mo_isRange_67 : decode prog_10_method_28_code 67 = .ok (.aload_n 0, 1) := by decide +kernel
theorem d_Mo_isRange_68 : decode prog_10_method_28_code 68 = .ok (.getfield 246, 3) := by decide +kernel
theorem d_Mo_isRange_71 : decode prog_10_method_28_code 71 = .ok (.putfield 273, 3) := by decide +kernel
theorem d_Mo_isRange_74 : decode prog_10_method_28_code 74 = .ok (.iload 5, 2) := by decide +kernel
theorem d_Mo_isRange_76 : decode prog_10_method_28_code 76 = .ok (.ireturn, 1) := by decide +kernel
theorem d_Mo_isRange_77 : decode prog_10_method_28_code 77 = .ok (.aload_n 0, 1) := by decide +kernel
theorem d_Mo_isRange_78 : decode prog_10_method_28_code 78 = .ok (.ldc_w 276, 3) := by decide +kernel
theorem d_Mo_isRange_81 : decode prog_10_method_28_code 81 = .ok (.putfield 270, 3) := by decide +kernel
theorem d_Mo_isRange_84 : decode prog_10_method_28_code 84 = .ok (.aload_n 0, 1) := by decide +kernel
theorem d_Mo_isRange_85 : decode prog_10_method_28_code 85 = .ok (.ldc_w 259, 3) := by decide +kernel
theorem d_Mo_isRange_88 : decode prog_10_method_28_code 88 = .ok (.putfield 273, 3) := by decide +kernel
theorem d_Mo_isRange_91 : decode prog_10_method_28_code 91 = .ok (.iload_n 3, 1) := by decide +kernel
theorem d_Mo_isRange_92 : decode prog_10_method_28_code 92 = .ok (.iload_n 2, 1) := by decide +kernel
theorem d_Mo_isRange_93 : decode prog_10_method_28_code 93 = .ok (.isub, 1) := by decide +kernel
theorem d_Mo_isRange_94 : decode prog_10_method_28_code 94 = .ok (.iconst 2, 1) := by decide +kernel
theorem d_Mo_isRange_95 : decode prog_10_method_28_code 95 = .ok (.if_icmp .ne 5, 3) := by decide +kernel
theorem d_Mo_isRange_98 : decode prog_10_method_28_code 98 = .ok (.iconst 0, 1) := by decide +kernel
theorem d_Mo_isRange_99 : decode prog_10_method_28_code 99 = .ok (.ireturn, 1) := by decide +kernel
theorem d_Mo_isRange_100 : decode prog_10_method_28_code 100 = .ok (.iload 4, 2) := by decide +kernel
theorem d_Mo_isRange_102 : decode prog_10_method_28_code 102 = .ok (.iload_n 2, 1) := by decide +kernel
theorem d_Mo_isRange_103 : decode prog_10_method_28_code 103 = .ok (.if_icmp .le 24, 3) := by decide +kernel
theorem d_Mo_isRange_106 : decode prog_10_method_28_code 106 = .ok (.aload_n 0, 1) := by decide +kernel
theorem d_Mo_isRange_107 : decode prog_10_method_28_code 107 = .ok (.iload_n 1, 1) := by decide +kernel
theorem d_Mo_isRange_108 : decode prog_10_method_28_code 108 = .ok (.iload_n 2, 1) := by decide +kernel
theorem d_Mo_isRange_109 : decode prog_10_method_28_code 109 = .ok (.iload 4, 2) := by decide +kernel
theorem d_Mo_isRange_111 : decode prog_10_method_28_code 111 = .ok (.invokevirtual 266, 3) := by decide +kernel
theorem d_Mo_isRange_114 : decode prog_10_method_28_code 114 = .ok (.ifCond .ne 5, 3) := by decide +kernel
theorem d_Mo_isRange_117 : decode prog_10_method_28_code 117 = .ok (.iconst 0, 1) := by decide +kernel
theorem d_Mo_isRange_118 : decode prog_10_method_28_code 118 = .ok (.ireturn, 1) := by decide +kernel
theorem d_Mo_isRange_119 : decode prog_10_method_28_code 119 = .ok (.aload_n 0, 1) := by decide +kernel
theorem d_Mo_isRange_120 : decode prog_10_method_28_code 120 = .ok (.aload_n 0, 1) := by decide +kernel
theorem d_Mo_isRange_121 : decode prog_10_method_28_code 121 = .ok (.getfield 246, 3) := by decide +kernel
theorem d_Mo_isRange_124 : decode prog_10_method_28_code 124 = .ok (.putfield 270, 3) := by decide +kernel
theorem d_Mo_isRange_127 : decode prog_10_method_28_code 127 = .ok (.iload 4, 2) := by decide +kernel
theorem d_Mo_isRange_129 : decode prog_10_method_28_code 129 = .ok (.iconst 2, 1) := by decide +kernel
theorem d_Mo_isRange_130 : decode prog_10_method_28_code 130 = .ok (.iadd, 1) := by decide +kernel
theorem d_Mo_isRange_131 : decode prog_10_method_28_code 131 = .ok (.iload_n 3, 1) := by decide +kernel
theorem d_Mo_isRange_132 : decode prog_10_method_28_code 132 = .ok (.if_icmp .ge 26, 3) := by decide +kernel
theorem d_Mo_isRange_135 : decode prog_10_method_28_code 135 = .ok (.aload_n 0, 1) := by decide +kernel
theorem d_Mo_isRange_136 : decode prog_10_method_28_code 136 = .ok (.iload_n 1, 1) := by decide +kernel
theorem d_Mo_isRange_137 : decode prog_10_method_28_code 137 = .ok (.iload 4, 2) := by decide +kernel
theorem d_Mo_isRange_139 : decode prog_10_method_28_code 139 = .ok (.iconst 2, 1) := by decide +kernel
theorem d_Mo_isRange_140 : decode prog_10_method_28_code 140 = .ok (.iadd, 1) := by decide +kernel
theorem d_Mo_isRange_141 : decode prog_10_method_28_code 141 = .ok (.iload_n 3, 1) := by decide +kernel
theorem d_Mo_isRange_142 : decode prog_10_method_28_code 142 = .ok (.invokevirtual 266, 3) := by decide +kernel
theorem d_Mo_isRange_145 : decode prog_10_method_28_code 145 = .ok (.ifCond .ne 5, 3) := by decide +kernel
theorem d_Mo_isRange_148 : decode prog_10_method_28_code 148 = .ok (.iconst 0, 1) := by decide +kernel
theorem d_Mo_isRange_149 : decode prog_10_method_28_code 149 = .ok (.ireturn, 1) := by decide +kernel
theorem d_Mo_isRange_150 : decode prog_10_method_28_code 150 = .ok (.aload_n 0, 1) := by decide +kernel
theorem d_Mo_isRange_151 : decode prog_10_method_28_code 151 = .ok (.aload_n 0, 1) := by decide +kernel
theorem d_Mo_isRange_152 : decode prog_10_method_28_code 152 = .ok (.getfield 246, 3) := by decide +kernel
theorem d_Mo_isRange_155 : decode prog_10_method_28_code 155 = .ok (.putfield 273, 3) := by decide +kernel
theorem d_Mo_isRange_158 : decode prog_10_method_28_code 158 = .ok (.iconst 1, 1) := by decide +kernel
theorem d_Mo_isRange_159 : decode prog_10_method_28_code 159 = .ok (.ireturn, 1) := by decide +kernel
def y_Mo_star : MethodName := ⟨"MailQueriesModel", "star", "()I"⟩
def rm_Mo_star : Room := { frames := 1, cells := 0, slots := 0, locals := 21 }
theorem d_Mo_star_0 : decode prog_10_method_29_code 0 = .ok (.iconst (-1), 1) := by decide +kernel
theorem d_Mo_star_1 : decode prog_10_method_29_code 1 = .ok (.istore_n 1, 1) := by decide +kernel
theorem d_Mo_star_2 : decode prog_10_method_29_code 2 = .ok (.aload_n 0, 1) := by decide +kernel
theorem d_Mo_star_3 : decode prog_10_method_29_code 3 = .ok (.getfield 189, 3) := by decide +kernel
theorem d_Mo_star_6 : decode prog_10_method_29_code 6 = .ok (.ifCond .eq 5, 3) := by decide +kernel
theorem d_Mo_star_9 : decode prog_10_method_29_code 9 = .ok (.iload_n 1, 1) := by decide +kernel
theorem d_Mo_star_10 : decode prog_10_method_29_code 10 = .ok (.ireturn, 1) := by decide +kernel
theorem d_Mo_star_11 : decode prog_10_method_29_code 11 = .ok (.aload_n 0, 1) := by decide +kernel
theorem d_Mo_star_12 : decode prog_10_method_29_code 12 = .ok (.getfield 193, 3) := by decide +kernel
theorem d_Mo_star_15 : decode prog_10_method_29_code 15 = .ok (.istore_n 2, 1) := by decide +kernel
theorem d_Mo_star_16 : decode prog_10_method_29_code 16 = .ok (.iload_n 2, 1) := by decide +kernel
theorem d_Mo_star_17 : decode prog_10_method_29_code 17 = .ok (.aload_n 0, 1) := by decide +kernel
theorem d_Mo_star_18 : decode prog_10_method_29_code 18 = .ok (.getfield 196, 3) := by decide +kernel
theorem d_Mo_star_21 : decode prog_10_method_29_code 21 = .ok (.if_icmp .ge 36, 3) := by decide +kernel
theorem d_Mo_star_24 : decode prog_10_method_29_code 24 = .ok (.aload_n 0, 1) := by decide +kernel
theorem d_Mo_star_25 : decode prog_10_method_29_code 25 = .ok (.iload_n 2, 1) := by decide +kernel
theorem d_Mo_star_26 : decode prog_10_method_29_code 26 = .ok (.invokevirtual 160, 3) := by decide +kernel
theorem d_Mo_star_29 : decode prog_10_method_29_code 29 = .ok (.bipush 42, 2) := by decide +kernel
theorem d_Mo_star_31 : decode prog_10_method_29_code 31 = .ok (.if_icmp .ne 20, 3) := by decide +kernel
theorem d_Mo_star_34 : decode prog_10_method_29_code 34 = .ok (.iload_n 1, 1) := by decide +kernel
theorem d_Mo_star_35 : decode prog_10_method_29_code 35 = .ok (.iconst (-1), 1) := by decide +kernel
theorem d_Mo_star_36 : decode prog_10_method_29_code 36 = .ok (.if_icmp .ne 12, 3) := by decide +kernel
theorem d_Mo_star_39 : decode prog_10_method_29_code 39 = .ok (.iload_n 2, 1) := by decide +kernel
theorem d_Mo_star_40 : decode prog_10_method_29_code 40 = .ok (.aload_n 0, 1) := by decide +kernel
theorem d_Mo_star_41 : decode prog_10_method_29_code 41 = .ok (.getfield 193, 3) := by decide +kernel
theorem d_Mo_star_44 : decode prog_10_method_29_code 44 = .ok (.isub, 1) := by decide +kernel
theorem d_Mo_star_45 : decode prog_10_method_29_code 45 = .ok (.goto 5, 3) := by decide +kernel
theorem d_Mo_star_48 : decode prog_10_method_29_code 48 = .ok (.bipush (-2), 2) := by decide +kernel
theorem d_Mo_star_50 : decode prog_10_method_29_code 50 = .ok (.istore_n 1, 1) := by decide +kernel
theorem d_Mo_star_51 : decode prog_10_method_29_code 51 = .ok (.iinc 2 1, 3) := by decide +kernel
theorem d_Mo_star_54 : decode prog_10_method_29_code 54 = .ok (.goto (-38), 3) := by decide +kernel
theorem d_Mo_star_57 : decode prog_10_method_29_code 57 = .ok (.aload_n 0, 1) := by decide +kernel
theorem d_Mo_star_58 : decode prog_10_method_29_code 58 = .ok (.getfield 214, 3) := by decide +kernel
theorem d_Mo_star_61 : decode prog_10_method_29_code 61 = .ok (.iconst 5, 1) := by decide +kernel
theorem d_Mo_star_62 : decode prog_10_method_29_code 62 = .ok (.if_icmp .lt 21, 3) := by decide +kernel
theorem d_Mo_star_65 : decode prog_10_method_29_code 65 = .ok (.aload_n 0, 1) := by decide +kernel
theorem d_Mo_star_66 : decode prog_10_method_29_code 66 = .ok (.getfield 214, 3) := by decide +kernel
theorem d_Mo_star_69 : decode prog_10_method_29_code 69 = .ok (.bipush 7, 2) := by decide +kernel
theorem d_Mo_star_71 : decode prog_10_method_29_code 71 = .ok (.if_icmp .eq 12, 3) := by decide +kernel
theorem d_Mo_star_74 : decode prog_10_method_29_code 74 = .ok (.aload_n 0, 1) := by decide +kernel
theorem d_Mo_star_75 : decode prog_10_method_29_code 75 = .ok (.getfield 214, 3) := by decide +kernel
theorem d_Mo_star_78 : decode prog_10_method_29_code 78 = .ok (.bipush 9, 2) := by decide +kernel
theorem d_Mo_star_80 : decode prog_10_method_29_code 80 = .ok (.if_icmp .ne 7, 3) := by decide +kernel
theorem d_Mo_star_83 : decode prog_10_method_29_code 83 = .ok (.iconst 1, 1) := by decide +kernel
theorem d_Mo_star_84 : decode prog_10_method_29_code 84 = .ok (.goto 4, 3) := by decide +kernel
theorem d_Mo_star_87 : decode prog_10_method_29_code 87 = .ok (.iconst 0, 1) := by decide +kernel
theorem d_Mo_star_88 : decode prog_10_method_29_code 88 = .ok (.istore_n 2, 1) := by decide +kernel
theorem d_Mo_star_89 : decode prog_10_method_29_code 89 = .ok (.iload_n 1, 1) := by decide +kernel
theorem d_Mo_star_90 : decode prog_10_method_29_code 90 = .ok (.iconst (-1), 1) := by decide +kernel
theorem d_Mo_star_91 : decode prog_10_method_29_code 91 = .ok (.if_icmp .eq 25, 3) := by decide +kernel
theorem d_Mo_star_94 : decode prog_10_method_29_code 94 = .ok (.iload_n 2, 1) := by decide +kernel
theorem d_Mo_star_95 : decode prog_10_method_29_code 95 = .ok (.ifCond .eq 16, 3) := by decide +kernel
theorem d_Mo_star_98 : decode prog_10_method_29_code 98 = .ok (.aload_n 0, 1) := by decide +kernel
theorem d_Mo_star_99 : decode prog_10_method_29_code 99 = .ok (.getfield 196, 3) := by decide +kernel
theorem d_Mo_star_102 : decode prog_10_method_29_code 102 = .ok (.aload_n 0, 1) := by decide +kernel
theorem d_Mo_star_103 : decode prog_10_method_29_code 103 = .ok (.getfield 193, 3) := by decide +kernel
theorem d_Mo_star_106 : decode prog_10_method_29_code 106 = .ok (.isub, 1) := by decide +kernel
theorem d_Mo_star_107 : decode prog_10_method_29_code 107 = .ok (.iconst 1, 1) := by decide +kernel
theorem d_Mo_star_108 : decode prog_10_method_29_code 108 = .ok (.if_icmp .ne 8, 3) := by decide +kernel
theorem d_Mo_star_111 : decode prog_10_method_29_code 111 = .ok (.bipush (-2), 2) := by decide +kernel
theorem d_Mo_star_113 : decode prog_10_method_29_code 113 = .ok (.goto 4, 3) := by decide +kernel
theorem d_Mo_star_116 : decode prog_10_method_29_code 116 = .ok (.iload_n 1, 1) := by decide +kernel
theorem d_Mo_star_117 : decode prog_10_method_29_code 117 = .ok (.ireturn, 1) := by decide +kernel
def y_Mo_isEncrypted : MethodName := ⟨"MailQueriesModel", "isEncrypted", "()Z"⟩
def rm_Mo_isEncrypted : Room := { frames := 2, cells := 0, slots := 0, locals := 48 }
theorem d_Mo_isEncrypted_0 : decode prog_10_method_31_code 0 = .ok (.aload_n 0, 1) := by decide +kernel
theorem d_Mo_isEncrypted_1 : decode prog_10_method_31_code 1 = .ok (.getfield 196, 3) := by decide +kernel
theorem d_Mo_isEncrypted_4 : decode prog_10_method_31_code 4 = .ok (.aload_n 0, 1) := by decide +kernel
theorem d_Mo_isEncrypted_5 : decode prog_10_method_31_code 5 = .ok (.getfield 193, 3) := by decide +kernel
theorem d_Mo_isEncrypted_8 : decode prog_10_method_31_code 8 = .ok (.isub, 1) := by decide +kernel
theorem d_Mo_isEncrypted_9 : decode prog_10_method_31_code 9 = .ok (.bipush 9, 2) := by decide +kernel
theorem d_Mo_isEncrypted_11 : decode prog_10_method_31_code 11 = .ok (.if_icmp .ne 45, 3) := by decide +kernel
theorem d_Mo_isEncrypted_14 : decode prog_10_method_31_code 14 = .ok (.aload_n 0, 1) := by decide +kernel
theorem d_Mo_isEncrypted_15 : decode prog_10_method_31_code 15 = .ok (.aload_n 0, 1) := by decide +kernel
theorem d_Mo_isEncrypted_16 : decode prog_10_method_31_code 16 = .ok (.getfield 193, 3) := by decide +kernel
theorem d_Mo_isEncrypted_19 : decode prog_10_method_31_code 19 = .ok (.aload_n 0, 1) := by decide +kernel
theorem d_Mo_isEncrypted_20 : decode prog_10_method_31_code 20 = .ok (.getfield 193, 3) := by decide +kernel
theorem d_Mo_isEncrypted_23 : decode prog_10_method_31_code 23 = .ok (.bipush 8, 2) := by decide +kernel
theorem d_Mo_isEncrypted_25 : decode prog_10_method_31_code 25 = .ok (.iadd, 1) := by decide +kernel
theorem d_Mo_isEncrypted_26 : decode prog_10_method_31_code 26 = .ok (.ldc2_w 297, 3) := by decide +kernel
theorem d_Mo_isEncrypted_29 : decode prog_10_method_31_code 29 = .ok (.bipush 8, 2) := by decide +kernel
theorem d_Mo_isEncrypted_31 : decode prog_10_method_31_code 31 = .ok (.invokevirtual 175, 3) := by decide +kernel
theorem d_Mo_isEncrypted_34 : decode prog_10_method_31_code 34 = .ok (.ifCond .eq 22, 3) := by decide +kernel
theorem d_Mo_isEncrypted_37 : decode prog_10_method_31_code 37 = .ok (.aload_n 0, 1) := by decide +kernel
theorem d_Mo_isEncrypted_38 : decode prog_10_method_31_code 38 = .ok (.aload_n 0, 1) := by decide +kernel
theorem d_Mo_isEncrypted_39 : decode prog_10_method_31_code 39 = .ok (.getfield 196, 3) := by decide +kernel
theorem d_Mo_isEncrypted_42 : decode prog_10_method_31_code 42 = .ok (.iconst 1, 1) := by decide +kernel
theorem d_Mo_isEncrypted_43 : decode prog_10_method_31_code 43 = .ok (.isub, 1) := by decide +kernel
theorem d_Mo_isEncrypted_44 : decode prog_10_method_31_code 44 = .ok (.invokevirtual 160, 3) := by decide +kernel
theorem d_Mo_isEncrypted_47 : decode prog_10_method_31_code 47 = .ok (.bipush 100, 2) := by decide +kernel
theorem d_Mo_isEncrypted_49 : decode prog_10_method_31_code 49 = .ok (.if_icmp .ne 7, 3) := by decide +kernel
theorem d_Mo_isEncrypted_52 : decode prog_10_method_31_code 52 = .ok (.iconst 1, 1) := by decide +kernel
theorem d_Mo_isEncrypted_53 : decode prog_10_method_31_code 53 = .ok (.goto 4, 3) := by decide +kernel
theorem d_Mo_isEncrypted_56 : decode prog_10_method_31_code 56 = .ok (.iconst 0, 1) := by decide +kernel
theorem d_Mo_isEncrypted_57 : decode prog_10_method_31_code 57 = .ok (.ireturn, 1) := by decide +kernel
def y_Mo_isRight : MethodName := ⟨"MailQueriesModel", "isRight", "()Z"⟩
def rm_Mo_isRight : Room := { frames := 5, cells := 0, slots := 0, locals := 120 }
theorem d_Mo_isRight_0 : decode prog_10_method_30_code 0 = .ok (.aload_n 0, 1) := by decide +kernel
theorem d_Mo_isRight_1 : decode prog_10_method_30_code 1 = .ok (.iconst 0, 1) := by decide +kernel
theorem d_Mo_isRight_2 : decode prog_10_method_30_code 2 = .ok (.putfield 270, 3) := by decide +kernel
theorem d_Mo_isRight_5 : decode prog_10_method_30_code 5 = .ok (.aload_n 0, 1) := by decide +kernel
theorem d_Mo_isRight_6 : decode prog_10_method_30_code 6 = .ok (.iconst 0, 1) := by decide +kernel
theorem d_Mo_isRight_7 : decode prog_10_method_30_code 7 = .ok (.putfield 273, 3) := by decide +kernel
theorem d_Mo_isRight_10 : decode prog_10_method_30_code 10 = .ok (.aload_n 0, 1) := by decide +kernel
theorem d_Mo_isRight_11 : decode prog_10_method_30_code 11 = .ok (.getfield 214, 3) := by decide +kernel
theorem d_Mo_isRight_14 : decode prog_10_method_30_code 14 = .ok (.iconst 5, 1) := by decide +kernel
theorem d_Mo_isRight_15 : decode prog_10_method_30_code 15 = .ok (.if_icmp .ne 31, 3) := by decide +kernel
theorem d_Mo_isRight_18 : decode prog_10_method_30_code 18 = .ok (.aload_n 0, 1) := by decide +kernel
theorem d_Mo_isRight_19 : decode prog_10_method_30_code 19 = .ok (.getfield 189, 3) := by decide +kernel
theorem d_Mo_isRight_22 : decode prog_10_method_30_code 22 = .ok (.ifCond .ne 22, 3) := by decide +kernel
theorem d_Mo_isRight_25 : decode prog_10_method_30_code 25 = .ok (.aload_n 0, 1) := by decide +kernel
theorem d_Mo_isRight_26 : decode prog_10_method_30_code 26 = .ok (.aload_n 0, 1) := by decide +kernel
theorem d_Mo_isRight_27 : decode prog_10_method_30_code 27 = .ok (.getfield 193, 3) := by decide +kernel
theorem d_Mo_isRight_30 : decode prog_10_method_30_code 30 = .ok (.aload_n 0, 1) := by decide +kernel
theorem d_Mo_isRight_31 : decode prog_10_method_30_code 31 = .ok (.getfield 196, 3) := by decide +kernel
theorem d_Mo_isRight_34 : decode prog_10_method_30_code 34 = .ok (.invokevirtual 277, 3) := by decide +kernel
theorem d_Mo_isRight_37 : decode prog_10_method_30_code 37 = .ok (.ifCond .eq 7, 3) := by decide +kernel
theorem d_Mo_isRight_40 : decode prog_10_method_30_code 40 = .ok (.iconst 1, 1) := by decide +kernel
theorem d_Mo_isRight_41 : decode prog_10_method_30_code 41 = .ok (.goto 4, 3) := by decide +kernel
theorem d_Mo_isRight_44 : decode prog_10_method_30_code 44 = .ok (.iconst 0, 1) := by decide +kernel
theorem d_Mo_isRight_45 : decode prog_10_method_30_code 45 = .ok (.ireturn, 1) := by decide +kernel
theorem d_Mo_isRight_46 : decode prog_10_method_30_code 46 = .ok (.aload_n 0, 1) := by decide +kernel
theorem d_Mo_isRight_47 : decode prog_10_method_30_code 47 = .ok (.getfield 214, 3) := by decide +kernel
theorem d_Mo_isRight_50 : decode prog_10_method_30_code 50 = .ok (.bipush 10, 2) := by decide +kernel
theorem d_Mo_isRight_52 : decode prog_10_method_30_code 52 = .ok (.if_icmp .ne 83, 3) := by decide +kernel
theorem d_Mo_isRight_55 : decode prog_10_method_30_code 55 = .ok (.aload_n 0, 1) := by decide +kernel
theorem d_Mo_isRight_56 : decode prog_10_method_30_code 56 = .ok (.getfield 189, 3) := by decide +kernel
theorem d_Mo_isRight_59 : decode prog_10_method_30_code 59 = .ok (.ifCond .ne 74, 3) := by decide +kernel
theorem d_Mo_isRight_62 : decode prog_10_method_30_code 62 = .ok (.aload_n 0, 1) := by decide +kernel
theorem d_Mo_isRight_63 : decode prog_10_method_30_code 63 = .ok (.aload_n 0, 1) := by decide +kernel
theorem d_Mo_isRight_64 : decode prog_10_method_30_code 64 = .ok (.getfield 193, 3) := by decide +kernel
theorem d_Mo_isRight_67 : decode prog_10_method_30_code 67 = .ok (.aload_n 0, 1) := by decide +kernel
theorem d_Mo_isRight_68 : decode prog_10_method_30_code 68 = .ok (.getfield 196, 3) := by decide +kernel
theorem d_Mo_isRight_71 : decode prog_10_method_30_code 71 = .ok (.ldc2_w 280, 3) := by decide +kernel
theorem d_Mo_isRight_74 : decode prog_10_method_30_code 74 = .ok (.bipush 6, 2) := by decide +kernel
theorem d_Mo_isRight_76 : decode prog_10_method_30_code 76 = .ok (.invokevirtual 175, 3) := by decide +kernel
theorem d_Mo_isRight_79 : decode prog_10_method_30_code 79 = .ok (.ifCond .ne 50, 3) := by decide +kernel
theorem d_Mo_isRight_82 : decode prog_10_method_30_code 82 = .ok (.aload_n 0, 1) := by decide +kernel
theorem d_Mo_isRight_83 : decode prog_10_method_30_code 83 = .ok (.aload_n 0, 1) := by decide +kernel
theorem d_Mo_isRight_84 : decode prog_10_method_30_code 84 = .ok (.getfield 193, 3) := by decide +kernel
theorem d_Mo_isRight_87 : decode prog_10_method_30_code 87 = .ok (.aload_n 0, 1) := by decide +kernel
theorem d_Mo_isRight_88 : decode prog_10_method_30_code 88 = .ok (.getfield 196, 3) := by decide +kernel
theorem d_Mo_isRight_91 : decode prog_10_method_30_code 91 = .ok (.ldc2_w 282, 3) := by decide +kernel
theorem d_Mo_isRight_94 : decode prog_10_method_30_code 94 = .ok (.bipush 7, 2) := by decide +kernel
theorem d_Mo_isRight_96 : decode prog_10_method_30_code 96 = .ok (.invokevirtual 175, 3) := by decide +kernel
theorem d_Mo_isRight_99 : decode prog_10_method_30_code 99 = .ok (.ifCond .ne 30, 3) := by decide +kernel
theorem d_Mo_isRight_102 : decode prog_10_method_30_code 102 = .ok (.aload_n 0, 1) := by decide +kernel
theorem d_Mo_isRight_103 : decode prog_10_method_30_code 103 = .ok (.aload_n 0, 1) := by decide +kernel
theorem d_Mo_isRight_104 : decode prog_10_method_30_code 104 = .ok (.getfield 193, 3) := by decide +kernel
theorem d_Mo_isRight_107 : decode prog_10_method_30_code 107 = .ok (.aload_n 0, 1) := by decide +kernel
theorem d_Mo_isRight_108 : decode prog_10_method_30_code 108 = .ok (.getfield 196, 3) := by decide +kernel
theorem d_Mo_isRight_111 : decode prog_10_method_30_code 111 = .ok (.ldc2_w 284, 3) := by decide +kernel
theorem d_Mo_isRight_114 : decode prog_10_method_30_code 114 = .ok (.bipush 7, 2) := by decide +kernel
theorem d_Mo_isRight_116 : decode prog_10_method_30_code 116 = .ok (.invokevirtual 175, 3) := by decide +kernel
theorem d_Mo_isRight_119 : decode prog_10_method_30_code 119 = .ok (.ifCond .ne 10, 3) := by decide +kernel
theorem d_Mo_isRight_122 : decode prog_10_method_30_code 122 = .ok (.aload_n 0, 1) := by decide +kernel
theorem d_Mo_isRight_123 : decode prog_10_method_30_code 123 = .ok (.invokevirtual 286, 3) := by decide +kernel
theorem d_Mo_isRight_126 : decode prog_10_method_30_code 126 = .ok (.ifCond .eq 7, 3) := by decide +kernel
theorem d_Mo_isRight_129 : decode prog_10_method_30_code 129 = .ok (.iconst 1, 1) := by decide +kernel
theorem d_Mo_isRight_130 : decode prog_10_method_30_code 130 = .ok (.goto 4, 3) := by decide +kernel
theorem d_Mo_isRight_133 : decode prog_10_method_30_code 133 = .ok (.iconst 0, 1) := by decide +kernel
theorem d_Mo_isRight_134 : decode prog_10_method_30_code 134 = .ok (.ireturn, 1) := by decide +kernel
theorem d_Mo_isRight_135 : decode prog_10_method_30_code 135 = .ok (.aload_n 0, 1) := by decide +kernel
theorem d_Mo_isRight_136 : decode prog_10_method_30_code 136 = .ok (.getfield 214, 3) := by decide +kernel
theorem d_Mo_isRight_139 : decode prog_10_method_30_code 139 = .ok (.bipush 11, 2) := by decide +kernel
theorem d_Mo_isRight_141 : decode prog_10_method_30_code 141 = .ok (.if_icmp .ge 20, 3) := by decide +kernel
theorem d_Mo_isRight_144 : decode prog_10_method_30_code 144 = .ok (.aload_n 0, 1) := by decide +kernel
theorem d_Mo_isRight_145 : decode prog_10_method_30_code 145 = .ok (.invokevirtual 290, 3) := by decide +kernel
theorem d_Mo_isRight_148 : decode prog_10_method_30_code 148 = .ok (.bipush (-2), 2) := by decide +kernel
theorem d_Mo_isRight_150 : decode prog_10_method_30_code 150 = .ok (.if_icmp .eq 7, 3) := by decide +kernel
theorem d_Mo_isRight_153 : decode prog_10_method_30_code 153 = .ok (.iconst 1, 1) := by decide +kernel
theorem d_Mo_isRight_154 : decode prog_10_method_30_code 154 = .ok (.goto 38, 3) := by decide +kernel
theorem d_Mo_isRight_157 : decode prog_10_method_30_code 157 = .ok (.iconst 0, 1) := by decide +kernel
theorem d_Mo_isRight_158 : decode prog_10_method_30_code 158 = .ok (.goto 34, 3) := by decide +kernel
theorem d_Mo_isRight_161 : decode prog_10_method_30_code 161 = .ok (.aload_n 0, 1) := by decide +kernel
theorem d_Mo_isRight_162 : decode prog_10_method_30_code 162 = .ok (.getfield 189, 3) := by decide +kernel
theorem d_Mo_isRight_165 : decode prog_10_method_30_code 165 = .ok (.ifCond .ne 26, 3) := by decide +kernel
theorem d_Mo_isRight_168 : decode prog_10_method_30_code 168 = .ok (.aload_n 0, 1) := by decide +kernel
theorem d_Mo_isRight_169 : decode prog_10_method_30_code 169 = .ok (.aload_n 0, 1) := by decide +kernel
theorem d_Mo_isRight_170 : decode prog_10_method_30_code 170 = .ok (.getfield 214, 3) := by decide +kernel
theorem d_Mo_isRight_173 : decode prog_10_method_30_code 173 = .ok (.aload_n 0, 1) := by decide +kernel
theorem d_Mo_isRight_174 : decode prog_10_method_30_code 174 = .ok (.getfield 193, 3) := by decide +kernel
theorem d_Mo_isRight_177 : decode prog_10_method_30_code 177 = .ok (.aload_n 0, 1) := by decide +kernel
theorem d_Mo_isRight_178 : decode prog_10_method_30_code 178 = .ok (.getfield 196, 3) := by decide +kernel
theorem d_Mo_isRight_181 : decode prog_10_method_30_code 181 = .ok (.invokevirtual 294, 3) := by decide +kernel
theorem d_Mo_isRight_184 : decode prog_10_method_30_code 184 = .ok (.ifCond .eq 7, 3) := by decide +kernel
theorem d_Mo_isRight_187 : decode prog_10_method_30_code 187 = .ok (.iconst 1, 1) := by decide +kernel
theorem d_Mo_isRight_188 : decode prog_10_method_30_code 188 = .ok (.goto 4, 3) := by decide +kernel
theorem d_Mo_isRight_191 : decode prog_10_method_30_code 191 = .ok (.iconst 0, 1) := by decide +kernel
theorem d_Mo_isRight_192 : decode prog_10_method_30_code 192 = .ok (.ireturn, 1) := by decide +kernel
def y_Mo_small : MethodName := ⟨"MailQueriesModel", "small", "(I)I"⟩
def rm_Mo_small : Room := { frames := 0, cells := 0, slots := 0, locals := 0 }
theorem d_Mo_small_0 : decode prog_10_method_32_code 0 = .ok (.iload_n 0, 1) := by decide +kernel
theorem d_Mo_small_1 : decode prog_10_method_32_code 1 = .ok (.bipush 65, 2) := by decide +kernel
theorem d_Mo_small_3 : decode prog_10_method_32_code 3 = .ok (.if_icmp .lt 16, 3) := by decide +kernel
theorem d_Mo_small_6 : decode prog_10_method_32_code 6 = .ok (.iload_n 0, 1) := by decide +kernel
theorem d_Mo_small_7 : decode prog_10_method_32_code 7 = .ok (.bipush 90, 2) := by decide +kernel
theorem d_Mo_small_9 : decode prog_10_method_32_code 9 = .ok (.if_icmp .gt 10, 3) := by decide +kernel
theorem d_Mo_small_12 : decode prog_10_method_32_code 12 = .ok (.iload_n 0, 1) := by decide +kernel
theorem d_Mo_small_13 : decode prog_10_method_32_code 13 = .ok (.bipush 32, 2) := by decide +kernel
theorem d_Mo_small_15 : decode prog_10_method_32_code 15 = .ok (.iadd, 1) := by decide +kernel
theorem d_Mo_small_16 : decode prog_10_method_32_code 16 = .ok (.goto 4, 3) := by decide +kernel
theorem d_Mo_small_19 : decode prog_10_method_32_code 19 = .ok (.iload_n 0, 1) := by decide +kernel
theorem d_Mo_small_20 : decode prog_10_method_32_code 20 = .ok (.ireturn, 1) := by decide +kernel
def y_Mo_isAlike : MethodName := ⟨"MailQueriesModel", "isAlike", "(I)Z"⟩
def rm_Mo_isAlike : Room := { frames := 1, cells := 0, slots := 0, locals := 21 }
theorem d_Mo_isAlike_0 : decode prog_10_method_33_code 0 = .ok (.aload_n 0, 1) := by decide +kernel
theorem d_Mo_isAlike_1 : decode prog_10_method_33_code 1 = .ok (.getfield 57, 3) := by decide +kernel
theorem d_Mo_isAlike_4 : decode prog_10_method_33_code 4 = .ok (.iload_n 1, 1) := by decide +kernel
theorem d_Mo_isAlike_5 : decode prog_10_method_33_code 5 = .ok (.iaload, 1) := by decide +kernel
theorem d_Mo_isAlike_6 : decode prog_10_method_33_code 6 = .ok (.aload_n 0, 1) := by decide +kernel
theorem d_Mo_isAlike_7 : decode prog_10_method_33_code 7 = .ok (.getfield 214, 3) := by decide +kernel
theorem d_Mo_isAlike_10 : decode prog_10_method_33_code 10 = .ok (.if_icmp .ne 38, 3) := by decide +kernel
theorem d_Mo_isAlike_13 : decode prog_10_method_33_code 13 = .ok (.aload_n 0, 1) := by decide +kernel
theorem d_Mo_isAlike_14 : decode prog_10_method_33_code 14 = .ok (.getfield 79, 3) := by decide +kernel
theorem d_Mo_isAlike_17 : decode prog_10_method_33_code 17 = .ok (.iload_n 1, 1) := by decide +kernel
theorem d_Mo_isAlike_18 : decode prog_10_method_33_code 18 = .ok (.baload, 1) := by decide +kernel
theorem d_Mo_isAlike_19 : decode prog_10_method_33_code 19 = .ok (.aload_n 0, 1) := by decide +kernel
theorem d_Mo_isAlike_20 : decode prog_10_method_33_code 20 = .ok (.getfield 189, 3) := by decide +kernel
theorem d_Mo_isAlike_23 : decode prog_10_method_33_code 23 = .ok (.if_icmp .ne 25, 3) := by decide +kernel
theorem d_Mo_isAlike_26 : decode prog_10_method_33_code 26 = .ok (.aload_n 0, 1) := by decide +kernel
theorem d_Mo_isAlike_27 : decode prog_10_method_33_code 27 = .ok (.getfield 64, 3) := by decide +kernel
theorem d_Mo_isAlike_30 : decode prog_10_method_33_code 30 = .ok (.iload_n 1, 1) := by decide +kernel
theorem d_Mo_isAlike_31 : decode prog_10_method_33_code 31 = .ok (.iaload, 1) := by decide +kernel
theorem d_Mo_isAlike_32 : decode prog_10_method_33_code 32 = .ok (.aload_n 0, 1) := by decide +kernel
theorem d_Mo_isAlike_33 : decode prog_10_method_33_code 33 = .ok (.getfield 196, 3) := by decide +kernel
theorem d_Mo_isAlike_36 : decode prog_10_method_33_code 36 = .ok (.aload_n 0, 1) := by decide +kernel
theorem d_Mo_isAlike_37 : decode prog_10_method_33_code 37 = .ok (.getfield 193, 3) := by decide +kernel
theorem d_Mo_isAlike_40 : decode prog_10_method_33_code 40 = .ok (.isub, 1) := by decide +kernel
theorem d_Mo_isAlike_41 : decode prog_10_method_33_code 41 = .ok (.if_icmp .ne 7, 3) := by decide +kernel
theorem d_Mo_isAlike_44 : decode prog_10_method_33_code 44 = .ok (.iconst 1, 1) := by decide +kernel
theorem d_Mo_isAlike_45 : decode prog_10_method_33_code 45 = .ok (.goto 4, 3) := by decide +kernel
theorem d_Mo_isAlike_48 : decode prog_10_method_33_code 48 = .ok (.iconst 0, 1) := by decide +kernel
theorem d_Mo_isAlike_49 : decode prog_10_method_33_code 49 = .ok (.istore_n 2, 1) := by decide +kernel
theorem d_Mo_isAlike_50 : decode prog_10_method_33_code 50 = .ok (.iconst 0, 1) := by decide +kernel
theorem d_Mo_isAlike_51 : decode prog_10_method_33_code 51 = .ok (.istore_n 3, 1) := by decide +kernel
theorem d_Mo_isAlike_52 : decode prog_10_method_33_code 52 = .ok (.iload_n 3, 1) := by decide +kernel
theorem d_Mo_isAlike_53 : decode prog_10_method_33_code 53 = .ok (.aload_n 0, 1) := by decide +kernel
theorem d_Mo_isAlike_54 : decode prog_10_method_33_code 54 = .ok (.getfield 64, 3) := by decide +kernel
theorem d_Mo_isAlike_57 : decode prog_10_method_33_code 57 = .ok (.iload_n 1, 1) := by decide +kernel
theorem d_Mo_isAlike_58 : decode prog_10_method_33_code 58 = .ok (.iaload, 1) := by decide +kernel
theorem d_Mo_isAlike_59 : decode prog_10_method_33_code 59 = .ok (.if_icmp .ge 50, 3) := by decide +kernel
theorem d_Mo_isAlike_62 : decode prog_10_method_33_code 62 = .ok (.iload_n 2, 1) := by decide +kernel
theorem d_Mo_isAlike_63 : decode prog_10_method_33_code 63 = .ok (.ifCond .eq 46, 3) := by decide +kernel
theorem d_Mo_isAlike_66 : decode prog_10_method_33_code 66 = .ok (.aload_n 0, 1) := by decide +kernel
theorem d_Mo_isAlike_67 : decode prog_10_method_33_code 67 = .ok (.aload_n 0, 1) := by decide +kernel
theorem d_Mo_isAlike_68 : decode prog_10_method_33_code 68 = .ok (.getfield 61, 3) := by decide +kernel
theorem d_Mo_isAlike_71 : decode prog_10_method_33_code 71 = .ok (.iload_n 1, 1) := by decide +kernel
theorem d_Mo_isAlike_72 : decode prog_10_method_33_code 72 = .ok (.iaload, 1) := by decide +kernel
theorem d_Mo_isAlike_73 : decode prog_10_method_33_code 73 = .ok (.iload_n 3, 1) := by decide +kernel
theorem d_Mo_isAlike_74 : decode prog_10_method_33_code 74 = .ok (.iadd, 1) := by decide +kernel
theorem d_Mo_isAlike_75 : decode prog_10_method_33_code 75 = .ok (.invokevirtual 160, 3) := by decide +kernel
theorem d_Mo_isAlike_78 : decode prog_10_method_33_code 78 = .ok (.invokestatic 299, 3) := by decide +kernel
theorem d_Mo_isAlike_81 : decode prog_10_method_33_code 81 = .ok (.aload_n 0, 1) := by decide +kernel
theorem d_Mo_isAlike_82 : decode prog_10_method_33_code 82 = .ok (.aload_n 0, 1) := by decide +kernel
theorem d_Mo_isAlike_83 : decode prog_10_method_33_code 83 = .ok (.getfield 193, 3) := by decide +kernel
theorem d_Mo_isAlike_86 : decode prog_10_method_33_code 86 = .ok (.iload_n 3, 1) := by decide +kernel
theorem d_Mo_isAlike_87 : decode prog_10_method_33_code 87 = .ok (.iadd, 1) := by decide +kernel
theorem d_Mo_isAlike_88 : decode prog_10_method_33_code 88 = .ok (.invokevirtual 160, 3) := by decide +kernel
theorem d_Mo_isAlike_91 : decode prog_10_method_33_code 91 = .ok (.invokestatic 299, 3) := by decide +kernel
theorem d_Mo_isAlike_94 : decode prog_10_method_33_code 94 = .ok (.if_icmp .ne 7, 3) := by decide +kernel
theorem d_Mo_isAlike_97 : decode prog_10_method_33_code 97 = .ok (.iconst 1, 1) := by decide +kernel
theorem d_Mo_isAlike_98 : decode prog_10_method_33_code 98 = .ok (.goto 4, 3) := by decide +kernel
theorem d_Mo_isAlike_101 : decode prog_10_method_33_code 101 = .ok (.iconst 0, 1) := by decide +kernel
theorem d_Mo_isAlike_102 : decode prog_10_method_33_code 102 = .ok (.istore_n 2, 1) := by decide +kernel
theorem d_Mo_isAlike_103 : decode prog_10_method_33_code 103 = .ok (.iinc 3 1, 3) := by decide +kernel
theorem d_Mo_isAlike_106 : decode prog_10_method_33_code 106 = .ok (.goto (-54), 3) := by decide +kernel
theorem d_Mo_isAlike_109 : decode prog_10_method_33_code 109 = .ok (.iload_n 2, 1) := by decide +kernel
theorem d_Mo_isAlike_110 : decode prog_10_method_33_code 110 = .ok (.ireturn, 1) := by decide +kernel
def y_Mo_atomNumber : MethodName := ⟨"MailQueriesModel", "atomNumber", "()I"⟩
def rm_Mo_atomNumber : Room := { frames := 2, cells := 0, slots := 0, locals := 44 }
theorem d_Mo_atomNumber_0 : decode prog_10_method_34_code 0 = .ok (.iconst 0, 1) := by decide +kernel
theorem d_Mo_atomNumber_1 : decode prog_10_method_34_code 1 = .ok (.istore_n 1, 1) := by decide +kernel
theorem d_Mo_atomNumber_2 : decode prog_10_method_34_code 2 = .ok (.iload_n 1, 1) := by decide +kernel
theorem d_Mo_atomNumber_3 : decode prog_10_method_34_code 3 = .ok (.aload_n 0, 1) := by decide +kernel
theorem d_Mo_atomNumber_4 : decode prog_10_method_34_code 4 = .ok (.getfield 302, 3) := by decide +kernel
theorem d_Mo_atomNumber_7 : decode prog_10_method_34_code 7 = .ok (.if_icmp .ge 19, 3) := by decide +kernel
theorem d_Mo_atomNumber_10 : decode prog_10_method_34_code 10 = .ok (.aload_n 0, 1) := by decide +kernel
theorem d_Mo_atomNumber_11 : decode prog_10_method_34_code 11 = .ok (.iload_n 1, 1) := by decide +kernel
theorem d_Mo_atomNumber_12 : decode prog_10_method_34_code 12 = .ok (.invokevirtual 305, 3) := by decide +kernel
theorem d_Mo_atomNumber_15 : decode prog_10_method_34_code 15 = .ok (.ifCond .eq 5, 3) := by decide +kernel
theorem d_Mo_atomNumber_18 : decode prog_10_method_34_code 18 = .ok (.iload_n 1, 1) := by decide +kernel
theorem d_Mo_atomNumber_19 : decode prog_10_method_34_code 19 = .ok (.ireturn, 1) := by decide +kernel
theorem d_Mo_atomNumber_20 : decode prog_10_method_34_code 20 = .ok (.iinc 1 1, 3) := by decide +kernel
theorem d_Mo_atomNumber_23 : decode prog_10_method_34_code 23 = .ok (.goto (-21), 3) := by decide +kernel
theorem d_Mo_atomNumber_26 : decode prog_10_method_34_code 26 = .ok (.aload_n 0, 1) := by decide +kernel
theorem d_Mo_atomNumber_27 : decode prog_10_method_34_code 27 = .ok (.getfield 302, 3) := by decide +kernel
theorem d_Mo_atomNumber_30 : decode prog_10_method_34_code 30 = .ok (.istore_n 1, 1) := by decide +kernel
theorem d_Mo_atomNumber_31 : decode prog_10_method_34_code 31 = .ok (.aload_n 0, 1) := by decide +kernel
theorem d_Mo_atomNumber_32 : decode prog_10_method_34_code 32 = .ok (.getfield 57, 3) := by decide +kernel
theorem d_Mo_atomNumber_35 : decode prog_10_method_34_code 35 = .ok (.iload_n 1, 1) := by decide +kernel
theorem d_Mo_atomNumber_36 : decode prog_10_method_34_code 36 = .ok (.aload_n 0, 1) := by decide +kernel
theorem d_Mo_atomNumber_37 : decode prog_10_method_34_code 37 = .ok (.getfield 214, 3) := by decide +kernel
theorem d_Mo_atomNumber_40 : decode prog_10_method_34_code 40 = .ok (.iastore, 1) := by decide +kernel
theorem d_Mo_atomNumber_41 : decode prog_10_method_34_code 41 = .ok (.aload_n 0, 1) := by decide +kernel
theorem d_Mo_atomNumber_42 : decode prog_10_method_34_code 42 = .ok (.getfield 79, 3) := by decide +kernel
theorem d_Mo_atomNumber_45 : decode prog_10_method_34_code 45 = .ok (.iload_n 1, 1) := by decide +kernel
theorem d_Mo_atomNumber_46 : decode prog_10_method_34_code 46 = .ok (.aload_n 0, 1) := by decide +kernel
theorem d_Mo_atomNumber_47 : decode prog_10_method_34_code 47 = .ok (.getfield 189, 3) := by decide +kernel
theorem d_Mo_atomNumber_50 : decode prog_10_method_34_code 50 = .ok (.bastore, 1) := by decide +kernel
theorem d_Mo_atomNumber_51 : decode prog_10_method_34_code 51 = .ok (.aload_n 0, 1) := by decide +kernel
theorem d_Mo_atomNumber_52 : decode prog_10_method_34_code 52 = .ok (.getfield 61, 3) := by decide +kernel
theorem d_Mo_atomNumber_55 : decode prog_10_method_34_code 55 = .ok (.iload_n 1, 1) := by decide +kernel
theorem d_Mo_atomNumber_56 : decode prog_10_method_34_code 56 = .ok (.aload_n 0, 1) := by decide +kernel
theorem d_Mo_atomNumber_57 : decode prog_10_method_34_code 57 = .ok (.getfield 193, 3) := by decide +kernel
theorem d_Mo_atomNumber_60 : decode prog_10_method_34_code 60 = .ok (.iastore, 1) := by decide +kernel
theorem d_Mo_atomNumber_61 : decode prog_10_method_34_code 61 = .ok (.aload_n 0, 1) := by decide +kernel
theorem d_Mo_atomNumber_62 : decode prog_10_method_34_code 62 = .ok (.getfield 64, 3) := by decide +kernel
theorem d_Mo_atomNumber_65 : decode prog_10_method_34_code 65 = .ok (.iload_n 1, 1) := by decide +kernel
theorem d_Mo_atomNumber_66 : decode prog_10_method_34_code 66 = .ok (.aload_n 0, 1) := by decide +kernel
theorem d_Mo_atomNumber_67 : decode prog_10_method_34_code 67 = .ok (.getfield 196, 3) := by decide +kernel
theorem d_Mo_atomNumber_70 : decode prog_10_method_34_code 70 = .ok (.aload_n 0, 1) := by decide +kernel
theorem d_Mo_atomNumber_71 : decode prog_10_method_34_code 71 = .ok (.getfield 193, 3) := by decide +kernel
theorem d_Mo_atomNumber_74 : decode prog_10_method_34_code 74 = .ok (.isub, 1) := by decide +kernel
theorem d_Mo_atomNumber_75 : decode prog_10_method_34_code 75 = .ok (.iastore, 1) := by decide +kernel
theorem d_Mo_atomNumber_76 : decode prog_10_method_34_code 76 = .ok (.aload_n 0, 1) := by decide +kernel
theorem d_Mo_atomNumber_77 : decode prog_10_method_34_code 77 = .ok (.getfield 67, 3) := by decide +kernel
theorem d_Mo_atomNumber_80 : decode prog_10_method_34_code 80 = .ok (.iload_n 1, 1) := by decide +kernel
theorem d_Mo_atomNumber_81 : decode prog_10_method_34_code 81 = .ok (.aload_n 0, 1) := by decide +kernel
theorem d_Mo_atomNumber_82 : decode prog_10_method_34_code 82 = .ok (.getfield 214, 3) := by decide +kernel
theorem d_Mo_atomNumber_85 : decode prog_10_method_34_code 85 = .ok (.iconst 5, 1) := by decide +kernel
theorem d_Mo_atomNumber_86 : decode prog_10_method_34_code 86 = .ok (.if_icmp .lt 21, 3) := by decide +kernel
theorem d_Mo_atomNumber_89 : decode prog_10_method_34_code 89 = .ok (.aload_n 0, 1) := by decide +kernel
theorem d_Mo_atomNumber_90 : decode prog_10_method_34_code 90 = .ok (.getfield 214, 3) := by decide +kernel
theorem d_Mo_atomNumber_93 : decode prog_10_method_34_code 93 = .ok (.bipush 7, 2) := by decide +kernel
theorem d_Mo_atomNumber_95 : decode prog_10_method_34_code 95 = .ok (.if_icmp .eq 12, 3) := by decide +kernel
theorem d_Mo_atomNumber_98 : decode prog_10_method_34_code 98 = .ok (.aload_n 0, 1) := by decide +kernel
theorem d_Mo_atomNumber_99 : decode prog_10_method_34_code 99 = .ok (.getfield 214, 3) := by decide +kernel
theorem d_Mo_atomNumber_102 : decode prog_10_method_34_code 102 = .ok (.bipush 9, 2) := by decide +kernel
theorem d_Mo_atomNumber_104 : decode prog_10_method_34_code 104 = .ok (.if_icmp .ne 10, 3) := by decide +kernel
theorem d_Mo_atomNumber_107 : decode prog_10_method_34_code 107 = .ok (.aload_n 0, 1) := by decide +kernel
theorem d_Mo_atomNumber_108 : decode prog_10_method_34_code 108 = .ok (.invokevirtual 290, 3) := by decide +kernel
theorem d_Mo_atomNumber_111 : decode prog_10_method_34_code 111 = .ok (.goto 4, 3) := by decide +kernel
theorem d_Mo_atomNumber_114 : decode prog_10_method_34_code 114 = .ok (.iconst (-1), 1) := by decide +kernel
theorem d_Mo_atomNumber_115 : decode prog_10_method_34_code 115 = .ok (.iastore, 1) := by decide +kernel
theorem d_Mo_atomNumber_116 : decode prog_10_method_34_code 116 = .ok (.aload_n 0, 1) := by decide +kernel
theorem d_Mo_atomNumber_117 : decode prog_10_method_34_code 117 = .ok (.getfield 70, 3) := by decide +kernel
theorem d_Mo_atomNumber_120 : decode prog_10_method_34_code 120 = .ok (.iload_n 1, 1) := by decide +kernel
theorem d_Mo_atomNumber_121 : decode prog_10_method_34_code 121 = .ok (.iconst 0, 1) := by decide +kernel
theorem d_Mo_atomNumber_122 : decode prog_10_method_34_code 122 = .ok (.iastore, 1) := by decide +kernel
theorem d_Mo_atomNumber_123 : decode prog_10_method_34_code 123 = .ok (.aload_n 0, 1) := by decide +kernel
theorem d_Mo_atomNumber_124 : decode prog_10_method_34_code 124 = .ok (.getfield 73, 3) := by decide +kernel
theorem d_Mo_atomNumber_127 : decode prog_10_method_34_code 127 = .ok (.iload_n 1, 1) := by decide +kernel
theorem d_Mo_atomNumber_128 : decode prog_10_method_34_code 128 = .ok (.aload_n 0, 1) := by decide +kernel
theorem d_Mo_atomNumber_129 : decode prog_10_method_34_code 129 = .ok (.getfield 270, 3) := by decide +kernel
theorem d_Mo_atomNumber_132 : decode prog_10_method_34_code 132 = .ok (.iastore, 1) := by decide +kernel
theorem d_Mo_atomNumber_133 : decode prog_10_method_34_code 133 = .ok (.aload_n 0, 1) := by decide +kernel
theorem d_Mo_atomNumber_134 : decode prog_10_method_34_code 134 = .ok (.getfield 76, 3) := by decide +kernel
theorem d_Mo_atomNumber_137 : decode prog_10_method_34_code 137 = .ok (.iload_n 1, 1) := by decide +kernel
theorem d_Mo_atomNumber_138 : decode prog_10_method_34_code 138 = .ok (.aload_n 0, 1) := by decide +kernel
theorem d_Mo_atomNumber_139 : decode prog_10_method_34_code 139 = .ok (.getfield 273, 3) := by decide +kernel
theorem d_Mo_atomNumber_142 : decode prog_10_method_34_code 142 = .ok (.iastore, 1) := by decide +kernel
theorem d_Mo_atomNumber_143 : decode prog_10_method_34_code 143 = .ok (.aload_n 0, 1) := by decide +kernel
theorem d_Mo_atomNumber_144 : decode prog_10_method_34_code 144 = .ok (.dup, 1) := by decide +kernel
theorem d_Mo_atomNumber_145 : decode prog_10_method_34_code 145 = .ok (.getfield 302, 3) := by decide +kernel
theorem d_Mo_atomNumber_148 : decode prog_10_method_34_code 148 = .ok (.iconst 1, 1) := by decide +kernel
theorem d_Mo_atomNumber_149 : decode prog_10_method_34_code 149 = .ok (.iadd, 1) := by decide +kernel
theorem d_Mo_atomNumber_150 : decode prog_10_method_34_code 150 = .ok (.putfield 302, 3) := by decide +kernel
theorem d_Mo_atomNumber_153 : decode prog_10_method_34_code 153 = .ok (.iload_n 1, 1) := by decide +kernel
theorem d_Mo_atomNumber_154 : decode prog_10_method_34_code 154 = .ok (.ireturn, 1) := by decide +kernel
theorem mb_Mo_isBound : Mb y_Mo_isBound prog_10_method_27_code 4 (some .boolean) 3 := ⟨W_Mo_isBound_code, W_Mo_isBound_in, sel_75, I_Mo, by decide +kernel, by decide +kernel, by decide +kernel⟩
theorem mb_Mo_isRange : Mb y_Mo_isRange prog_10_method_28_code 6 (some .boolean) 3 := ⟨W_Mo_isRange_code, W_Mo_isRange_in, sel_74, I_Mo, by decide +kernel, by decide +kernel, by decide +kernel⟩
theorem mb_Mo_star : Mb y_Mo_star prog_10_method_29_code 3 (some .int) 0 := ⟨W_Mo_star_code, W_Mo_star_in, sel_73, I_Mo, by decide +kernel, by decide +kernel, by decide +kernel⟩
theorem mb_Mo_isEncrypted : Mb y_Mo_isEncrypted prog_10_method_31_code 1 (some .boolean) 0 := ⟨W_Mo_isEncrypted_code, W_Mo_isEncrypted_in, sel_72, I_Mo, by decide +kernel, by decide +kernel, by decide +kernel⟩
theorem mb_Mo_isRight : Mb y_Mo_isRight prog_10_method_30_code 1 (some .boolean) 0 := ⟨W_Mo_isRight_code, W_Mo_isRight_in, sel_70, I_Mo, by decide +kernel, by decide +kernel, by decide +kernel⟩
theorem mb_Mo_small : MbS y_Mo_small prog_10_method_32_code 1 (some .int) 1 := ⟨W_Mo_small_code, W_Mo_small_st, I_Mo, by decide +kernel, by decide +kernel, by decide +kernel⟩
theorem mb_Mo_isAlike : Mb y_Mo_isAlike prog_10_method_33_code 4 (some .boolean) 1 := ⟨W_Mo_isAlike_code, W_Mo_isAlike_in, sel_81, I_Mo, by decide +kernel, by decide +kernel, by decide +kernel⟩
theorem mb_Mo_atomNumber : Mb y_Mo_atomNumber prog_10_method_34_code 2 (some .int) 0 := ⟨W_Mo_atomNumber_code, W_Mo_atomNumber_in, sel_80, I_Mo, by decide +kernel, by decide +kernel, by decide +kernel⟩
def Mo_isBound (F : Nat) (t : StI) (tL : StL) (x1 : Int32) (x2 : Int32) (x3 : Int32) : Option (Int32 × StI × StL) := if x1 = (11 : Int32) then (Mo_isDay F t tL x2 x3).bind fun r9 => if r9.1 = 0 ∨ r9.1 = 1 then some (r9.1, r9.2.1, r9.2.2) else none else (Mo_isBytes F t tL x2 x3).bind fun r7 => if r7.1 = 0 ∨ r7.1 = 1 then some (r7.1, r7.2.1, r7.2.2) else none
set_option maxHeartbeats 4000000 in
set_option maxRecDepth 100000 in
theorem k_Mo_isBound {p : Program} {l : Launch} {e : Env} {s : State} {m : MethodId} {args : Array Value} {below : List Frame} {meth : Method} {c : Code} {g : Gz} {A : Nat → Prop} {F : Nat} {a_t : Nat → Nat} (hC : Cx prog_10_method_27_code 4 (some .boolean) R_Mo p s m args meth c g A A) : ∀ (t : StI) (tL : StL) (x1 : Int32) (x2 : Int32) (x3 : Int32) (res : Int32 × StI × StL), Mo_isBound F t tL x1 x2 x3 = some res → Go p l e rm_Mo_isBound s m args below meth c g A A 4 (MQ below (EI g ((pic_Mo g a_t res.2.1 res.2.2)) res.1 A) args s 0 0 A) ((pic_Mo g a_t t tL)) [(0, .ref (a_t 0)), (1, .int x1), (2, .int x2), (3, .int x3)] 0 [] := by
  obtain ⟨hx, hb, hr, hml, hown, htb, hlocks, hA, hAA, hG⟩ := id hC
  have hK := hG.1
  intro t tL x1 x2 x3 res h H locs ls hP hD hS hl
  rw [Mo_isBound] at h
  refine lv_iload_n hx hb d_Mo_isBound_0 rfl (lv_at hl 1 rfl) ?_
  refine lv_bipush (v := 11) hx hb d_Mo_isBound_1 (by decide) ?_
  refine lv_icmp_ne (tgt := 15) hx hb d_Mo_isBound_3 (by decide) (fun c6 => ?_) (fun c6 => ?_)
  · replace h := (if_neg c6).symm.trans h
    refine lv_aload_n hx hb d_Mo_isBound_15 rfl (lv_at hl 0 rfl) ?_
    refine lv_iload_n hx hb d_Mo_isBound_16 rfl (lv_at hl 2 rfl) ?_
    refine lv_iload_n hx hb d_Mo_isBound_17 rfl (lv_at hl 3 rfl) ?_
    obtain ⟨r7, hr7, h⟩ := Option.bind_eq_some_iff.mp h
    refine cl_I (wr := []) [0, 1, 2, 3, 4, 5, 6, 7, 8, 9, 10, 11, 12, 13, 14, 15, 16, 17, 18, 19, 20, 21, 22, 23, 24, 25, 26, 27, 28, 29, 30, 31, 32] [] rfl rfl rfl (by decide) hP hD hS hA (va_runV (As := [.int x2, .int x3]) (rest := []) ⟨hx, hb, hml, hown, htb⟩ (c_Mo_isBytes l g F a_t t tL x2 x3 _ hr7 H.size) (cw_V htb mb_Mo_isBytes (htb _ L_Mo_263) rfl rfl ⟨Nat.le_of_ble_eq_true rfl, Nat.le_of_ble_eq_true rfl⟩) (pre_V (va_recv hK hP (ci := 8) (q0 := 0) rfl rfl) (pre_S [0, 1, 2, 3, 4, 5, 6, 7, 8, 9, 10, 11, 12, 13, 14, 15, 16, 17, 18, 19, 20, 21, 22, 23, 24, 25, 26, 27, 28, 29, 30, 31, 32] rfl rfl hP hD hS hA hAA hG)) rfl rfl hl.1 rfl (lv_room (Nat.le_of_ble_eq_true rfl)) d_Mo_isBound_18 ⟨Nat.zero_le _, Nat.zero_le _⟩) (fun H locs hP hD hS => ?_)
    have hP : va_P (gD g) vwCl ((pic_Mo g a_t r7.2.1 r7.2.2)) H := hP.sub [0, 1, 2, 3, 4, 5, 6, 7, 8, 9, 10, 11, 12, 13, 14, 15, 16, 17, 18, 19, 20, 21, 22, 23, 24, 25, 26, 27, 28, 29, 30, 31, 32] rfl
    have hD : va_D A ((pic_Mo g a_t r7.2.1 r7.2.2)) := hD.sub [0, 1, 2, 3, 4, 5, 6, 7, 8, 9, 10, 11, 12, 13, 14, 15, 16, 17, 18, 19, 20, 21, 22, 23, 24, 25, 26, 27, 28, 29, 30, 31, 32] rfl rfl
    by_cases c8 : (r7.1 = 0 ∨ r7.1 = 1)
    rotate_left
    · replace h := (if_neg c8).symm.trans h
      cases h
    replace h := (if_pos c8).symm.trans h
    cases h
    exact W.zret hx hb hr (by rcases c8 with c8 | c8 <;> rw [c8] <;> rfl) (fun t ht hW => ⟨⟨_, (), rfl, rfl, by rw [ht]; exact hP, hD⟩, hS.F ht⟩) hS.2.2 d_Mo_isBound_21
  · replace h := (if_pos c6).symm.trans h
    refine lv_aload_n hx hb d_Mo_isBound_6 rfl (lv_at hl 0 rfl) ?_
    refine lv_iload_n hx hb d_Mo_isBound_7 rfl (lv_at hl 2 rfl) ?_
    refine lv_iload_n hx hb d_Mo_isBound_8 rfl (lv_at hl 3 rfl) ?_
    obtain ⟨r9, hr9, h⟩ := Option.bind_eq_some_iff.mp h
    refine cl_I (wr := []) [0, 1, 2, 3, 4, 5, 6, 7, 8, 9, 10, 11, 12, 13, 14, 15, 16, 17, 18, 19, 20, 21, 22, 23, 24, 25, 26, 27, 28, 29, 30, 31, 32] [] rfl rfl rfl (by decide) hP hD hS hA (va_runV (As := [.int x2, .int x3]) (rest := []) ⟨hx, hb, hml, hown, htb⟩ (c_Mo_isDay l g F a_t t tL x2 x3 _ hr9 H.size) (cw_V htb mb_Mo_isDay (htb _ L_Mo_260) rfl rfl ⟨Nat.le_of_ble_eq_true rfl, Nat.le_of_ble_eq_true rfl⟩) (pre_V (va_recv hK hP (ci := 8) (q0 := 0) rfl rfl) (pre_S [0, 1, 2, 3, 4, 5, 6, 7, 8, 9, 10, 11, 12, 13, 14, 15, 16, 17, 18, 19, 20, 21, 22, 23, 24, 25, 26, 27, 28, 29, 30, 31, 32] rfl rfl hP hD hS hA hAA hG)) rfl rfl hl.1 rfl (lv_room (Nat.le_of_ble_eq_true rfl)) d_Mo_isBound_9 ⟨Nat.zero_le _, Nat.zero_le _⟩) (fun H locs hP hD hS => ?_)
    have hP : va_P (gD g) vwCl ((pic_Mo g a_t r9.2.1 r9.2.2)) H := hP.sub [0, 1, 2, 3, 4, 5, 6, 7, 8, 9, 10, 11, 12, 13, 14, 15, 16, 17, 18, 19, 20, 21, 22, 23, 24, 25, 26, 27, 28, 29, 30, 31, 32] rfl
    have hD : va_D A ((pic_Mo g a_t r9.2.1 r9.2.2)) := hD.sub [0, 1, 2, 3, 4, 5, 6, 7, 8, 9, 10, 11, 12, 13, 14, 15, 16, 17, 18, 19, 20, 21, 22, 23, 24, 25, 26, 27, 28, 29, 30, 31, 32] rfl rfl
    refine lv_goto (tgt := 21) hx hb d_Mo_isBound_12 (by decide) ?_
    by_cases c10 : (r9.1 = 0 ∨ r9.1 = 1)
    rotate_left
    · replace h := (if_neg c10).symm.trans h
      cases h
    replace h := (if_pos c10).symm.trans h
    cases h
    exact W.zret hx hb hr (by rcases c10 with c10 | c10 <;> rw [c10] <;> rfl) (fun t ht hW => ⟨⟨_, (), rfl, rfl, by rw [ht]; exact hP, hD⟩, hS.F ht⟩) hS.2.2 d_Mo_isBound_21
theorem c_Mo_isBound (l : Launch) (g : Gz) (F : Nat) (a_t : Nat → Nat) (t : StI) (tL : StL) (x1 : Int32) (x2 : Int32) (x3 : Int32) (res : Int32 × StI × StL) (h : Mo_isBound F t tL x1 x2 x3 = some res) : ∀ sz : Nat, Met l y_Mo_isBound (.code y_Mo_isBound prog_10_method_27_code 4 (some .boolean) :: TBL) rm_Mo_isBound (va_Pc [.ref (a_t 0), .int x1, .int x2, .int x3] (Pre0 g ((pic_Mo g a_t t tL)) sz)) (EI g ((pic_Mo g a_t res.2.1 res.2.2)) res.1 (va_A ((pic_Mo g a_t t tL)) sz)) 0 0 (va_A ((pic_Mo g a_t t tL)) sz) :=
  ct_w (Qc := fun A => EI g ((pic_Mo g a_t res.2.1 res.2.2)) res.1 A) (by decide) (Nat.le_of_ble_eq_true rfl) (fun p e s m args below meth c A hC => k_Mo_isBound hC t tL x1 x2 x3 res h)
def Mo_isRange_127 (F : Nat) (t : StI) (tL : StL) (x1 : Int32) (x3 : Int32) (x4 : Int32) : Option (Int32 × StI × StL) := if x3 ≤ (x4 + (2 : Int32)) then some ((1 : Int32), t, tL) else (Mo_isBound F t tL x1 (x4 + (2 : Int32)) x3).bind fun r23 => if r23.1 = 0 then some ((0 : Int32), r23.2.1, r23.2.2) else letS (va_up r23.2.1 59 (fun _ => (r23.2.1 56 0))) fun t_25 => some ((1 : Int32), t_25, r23.2.2)
def Mo_isRange_41 (F : Nat) (t : StI) (tL : StL) (x1 : Int32) (x2 : Int32) (x3 : Int32) (x4 : Int32) : Option (Int32 × StI × StL) := if (x4 + (1 : Int32)) < x3 then letS (va_up t 58 (fun _ => (-2147483648 : Int32))) fun t_27 => letS (va_up t_27 59 (fun _ => (2147483647 : Int32))) fun t_28 => if (x3 - x2) = (2 : Int32) then some ((0 : Int32), t_28, tL) else if x4 ≤ x2 then Mo_isRange_127 F t_28 tL x1 x3 x4 else (Mo_isBound F t_28 tL x1 x2 x4).bind fun r31 => if r31.1 = 0 then some ((0 : Int32), r31.2.1, r31.2.2) else letS (va_up r31.2.1 58 (fun _ => (r31.2.1 56 0))) fun t_33 => Mo_isRange_127 F t_33 r31.2.2 x1 x3 x4 else (Mo_isBound F t tL x1 x2 x3).bind fun r34 => letS (va_up r34.2.1 58 (fun _ => (r34.2.1 56 0))) fun t_35 => letS (va_up t_35 59 (fun _ => (t_35 56 0))) fun t_36 => if r34.1 = 0 ∨ r34.1 = 1 then some (r34.1, t_36, r34.2.2) else none
def Mo_isRange_35 (F : Nat) (k3 : StI → StL → Int32 → Int32 → Int32 → Int32 → Option (Int32 × StI × StL)) (t : StI) (tL : StL) (x1 : Int32) (x2 : Int32) (x3 : Int32) (x4 : Int32) : Option (Int32 × StI × StL) := k3 t tL x1 x2 x3 (x4 + (1 : Int32))
def Mo_isRange_3 (F : Nat) : Nat → StI → StL → Int32 → Int32 → Int32 → Int32 → Option (Int32 × StI × StL)
  | 0, _, _, _, _, _, _ => none
  | n + 1, t, tL, x1, x2, x3, x4 => if x3 ≤ (x4 + (1 : Int32)) then Mo_isRange_41 F t tL x1 x2 x3 x4 else (Mo_see F t tL x4).bind fun r39 => if r39 = (46 : Int32) then (Mo_see F t tL (x4 + (1 : Int32))).bind fun r41 => if r41 = (46 : Int32) then Mo_isRange_41 F t tL x1 x2 x3 x4 else Mo_isRange_35 F (Mo_isRange_3 F n) t tL x1 x2 x3 x4 else Mo_isRange_35 F (Mo_isRange_3 F n) t tL x1 x2 x3 x4
def Mo_isRange (F : Nat) (t : StI) (tL : StL) (x1 : Int32) (x2 : Int32) (x3 : Int32) : Option (Int32 × StI × StL) := Mo_isRange_3 F F t tL x1 x2 x3 x2
set_option maxHeartbeats 4000000 in
set_option maxRecDepth 100000 in
theorem k_Mo_isRange_127 {p : Program} {l : Launch} {e : Env} {s : State} {m : MethodId} {args : Array Value} {below : List Frame} {meth : Method} {c : Code} {g : Gz} {A : Nat → Prop} {F : Nat} {a_t : Nat → Nat} (hC : Cx prog_10_method_28_code 6 (some .boolean) R_Mo p s m args meth c g A A) : ∀ (t : StI) (tL : StL) (x1 : Int32) (x3 : Int32) (x4 : Int32) (res : Int32 × StI × StL), Mo_isRange_127 F t tL x1 x3 x4 = some res → Go p l e rm_Mo_isRange s m args below meth c g A A 6 (MQ below (EI g ((pic_Mo g a_t res.2.1 res.2.2)) res.1 A) args s 0 0 A) ((pic_Mo g a_t t tL)) [(0, .ref (a_t 0)), (1, .int x1), (3, .int x3), (4, .int x4)] 127 [] := by
  obtain ⟨hx, hb, hr, hml, hown, htb, hlocks, hA, hAA, hG⟩ := id hC
  have hK := hG.1
  intro t tL x1 x3 x4 res h H locs ls hP hD hS hl
  rw [Mo_isRange_127] at h
  refine lv_iload hx hb d_Mo_isRange_127 (lv_at hl 3 rfl) ?_
  refine lv_iconst (v := 2) hx hb d_Mo_isRange_129 (by decide) ?_
  refine lv_iadd hx hb d_Mo_isRange_130 ?_
  refine lv_iload_n hx hb d_Mo_isRange_131 rfl (lv_at hl 2 rfl) ?_
  refine lv_icmp_ge (tgt := 158) hx hb d_Mo_isRange_132 (by decide) (fun c22 => ?_) (fun c22 => ?_)
  · replace h := (if_pos c22).symm.trans h
    refine lv_iconst (v := 1) hx hb d_Mo_isRange_158 (by decide) ?_
    cases h
    exact W.zret hx hb hr rfl (fun t ht hW => ⟨⟨_, (), rfl, rfl, by rw [ht]; exact hP, hD⟩, hS.F ht⟩) hS.2.2 d_Mo_isRange_159
  · replace h := (if_neg c22).symm.trans h
    refine lv_aload_n hx hb d_Mo_isRange_135 rfl (lv_at hl 0 rfl) ?_
    refine lv_iload_n hx hb d_Mo_isRange_136 rfl (lv_at hl 1 rfl) ?_
    refine lv_iload hx hb d_Mo_isRange_137 (lv_at hl 3 rfl) ?_
    refine lv_iconst (v := 2) hx hb d_Mo_isRange_139 (by decide) ?_
    refine lv_iadd hx hb d_Mo_isRange_140 ?_
    refine lv_iload_n hx hb d_Mo_isRange_141 rfl (lv_at hl 2 rfl) ?_
    obtain ⟨r23, hr23, h⟩ := Option.bind_eq_some_iff.mp h
    refine cl_I (wr := []) [0, 1, 2, 3, 4, 5, 6, 7, 8, 9, 10, 11, 12, 13, 14, 15, 16, 17, 18, 19, 20, 21, 22, 23, 24, 25, 26, 27, 28, 29, 30, 31, 32] [] rfl rfl rfl (by decide) hP hD hS hA (va_runV (As := [.int x1, .int (x4 + (2 : Int32)), .int x3]) (rest := []) ⟨hx, hb, hml, hown, htb⟩ (c_Mo_isBound l g F a_t t tL x1 (x4 + (2 : Int32)) x3 _ hr23 H.size) (cw_V htb mb_Mo_isBound (htb _ L_Mo_266) rfl rfl ⟨Nat.le_of_ble_eq_true rfl, Nat.le_of_ble_eq_true rfl⟩) (pre_V (va_recv hK hP (ci := 8) (q0 := 0) rfl rfl) (pre_S [0, 1, 2, 3, 4, 5, 6, 7, 8, 9, 10, 11, 12, 13, 14, 15, 16, 17, 18, 19, 20, 21, 22, 23, 24, 25, 26, 27, 28, 29, 30, 31, 32] rfl rfl hP hD hS hA hAA hG)) rfl rfl hl.1 rfl (lv_room (Nat.le_of_ble_eq_true rfl)) d_Mo_isRange_142 ⟨Nat.zero_le _, Nat.zero_le _⟩) (fun H locs hP hD hS => ?_)
    have hP : va_P (gD g) vwCl ((pic_Mo g a_t r23.2.1 r23.2.2)) H := hP.sub [0, 1, 2, 3, 4, 5, 6, 7, 8, 9, 10, 11, 12, 13, 14, 15, 16, 17, 18, 19, 20, 21, 22, 23, 24, 25, 26, 27, 28, 29, 30, 31, 32] rfl
    have hD : va_D A ((pic_Mo g a_t r23.2.1 r23.2.2)) := hD.sub [0, 1, 2, 3, 4, 5, 6, 7, 8, 9, 10, 11, 12, 13, 14, 15, 16, 17, 18, 19, 20, 21, 22, 23, 24, 25, 26, 27, 28, 29, 30, 31, 32] rfl rfl
    refine lv_if_ne (tgt := 150) hx hb d_Mo_isRange_145 (by decide) (fun c24 => ?_) (fun c24 => ?_)
    · replace h := (if_neg c24).symm.trans h
      refine lv_aload_n hx hb d_Mo_isRange_150 rfl (lv_at hl 0 rfl) ?_
      refine lv_aload_n hx hb d_Mo_isRange_151 rfl (lv_at hl 0 rfl) ?_
      refine va_get (D := gD g) (ci := 8) (v := .int (r23.2.1 56 0)) (C := R_Mo) (T := T_Mo) (N := 64) hx hb htb in_Mo hown hK hP 0 rfl rfl 56 (by decide) (htb _ L_Mo_246) (fun _ h9 => h9) rfl d_Mo_isRange_152 ?_
      refine va_put (D := gD g) (ci := 8) (v := .int (r23.2.1 56 0)) (ty := .int) (C := R_Mo) (T := T_Mo) (N := 64) hx hb htb in_Mo ty_Mo ty_Mo_ok nm_Mo hown hK hP hD hS 0 rfl rfl 59 (by decide) (htb _ L_Mo_273) (fun _ h9 => h9) rfl (by decide +kernel) rfl rfl (Nat.le_of_ble_eq_true rfl) d_Mo_isRange_155 (fun H locs hP hD hS => ?_)
      obtain ⟨t_25, et_25, h⟩ := letS_el h
      have hP : va_P (gD g) vwCl ((pic_Mo g a_t t_25 r23.2.2)) H := by rw [et_25]; exact hP
      have hD : va_D A ((pic_Mo g a_t t_25 r23.2.2)) := by rw [et_25]; exact hD
      refine lv_iconst (v := 1) hx hb d_Mo_isRange_158 (by decide) ?_
      cases h
      exact W.zret hx hb hr rfl (fun t ht hW => ⟨⟨_, (), rfl, rfl, by rw [ht]; exact hP, hD⟩, hS.F ht⟩) hS.2.2 d_Mo_isRange_159
    · replace h := (if_pos c24).symm.trans h
      refine lv_iconst (v := 0) hx hb d_Mo_isRange_148 (by decide) ?_
      cases h
      exact W.zret hx hb hr rfl (fun t ht hW => ⟨⟨_, (), rfl, rfl, by rw [ht]; exact hP, hD⟩, hS.F ht⟩) hS.2.2 d_Mo_isRange_149
set_option maxHeartbeats 4000000 in
set_option maxRecDepth 100000 in
theorem k_Mo_isRange_41 {p : Program} {l : Launch} {e : Env} {s : State} {m : MethodId} {args : Array Value} {below : List Frame} {meth : Method} {c : Code} {g : Gz} {A : Nat → Prop} {F : Nat} {a_t : Nat → Nat} (hC : Cx prog_10_method_28_code 6 (some .boolean) R_Mo p s m args meth c g A A) : ∀ (t : StI) (tL : StL) (x1 : Int32) (x2 : Int32) (x3 : Int32) (x4 : Int32) (res : Int32 × StI × StL), Mo_isRange_41 F t tL x1 x2 x3 x4 = some res → Go p l e rm_Mo_isRange s m args below meth c g A A 6 (MQ below (EI g ((pic_Mo g a_t res.2.1 res.2.2)) res.1 A) args s 0 0 A) ((pic_Mo g a_t t tL)) [(0, .ref (a_t 0)), (1, .int x1), (2, .int x2), (3, .int x3), (4, .int x4)] 41 [] := by
  obtain ⟨hx, hb, hr, hml, hown, htb, hlocks, hA, hAA, hG⟩ := id hC
  have hK := hG.1
  intro t tL x1 x2 x3 x4 res h H locs ls hP hD hS hl
  rw [Mo_isRange_41] at h
  refine lv_iload hx hb d_Mo_isRange_41 (lv_at hl 4 rfl) ?_
  refine lv_iconst (v := 1) hx hb d_Mo_isRange_43 (by decide) ?_
  refine lv_iadd hx hb d_Mo_isRange_44 ?_
  refine lv_iload_n hx hb d_Mo_isRange_45 rfl (lv_at hl 3 rfl) ?_
  refine lv_icmp_lt (tgt := 77) hx hb d_Mo_isRange_46 (by decide) (fun c26 => ?_) (fun c26 => ?_)
  · replace h := (if_pos c26).symm.trans h
    refine lv_aload_n hx hb d_Mo_isRange_77 rfl (lv_at hl 0 rfl) ?_
    refine lv_ldcw (v := -2147483648) hx hb hown (htb _ K_Mo_276) d_Mo_isRange_78 ?_
    refine va_put (D := gD g) (ci := 8) (v := .int (-2147483648 : Int32)) (ty := .int) (C := R_Mo) (T := T_Mo) (N := 64) hx hb htb in_Mo ty_Mo ty_Mo_ok nm_Mo hown hK hP hD hS 0 rfl rfl 58 (by decide) (htb _ L_Mo_270) (fun _ h9 => h9) rfl (by decide +kernel) rfl rfl (Nat.le_of_ble_eq_true rfl) d_Mo_isRange_81 (fun H locs hP hD hS => ?_)
    obtain ⟨t_27, et_27, h⟩ := letS_el h
    have hP : va_P (gD g) vwCl ((pic_Mo g a_t t_27 tL)) H := by rw [et_27]; exact hP
    have hD : va_D A ((pic_Mo g a_t t_27 tL)) := by rw [et_27]; exact hD
    refine lv_aload_n hx hb d_Mo_isRange_84 rfl (lv_at hl 0 rfl) ?_
    refine lv_ldcw (v := 2147483647) hx hb hown (htb _ K_Mo_259) d_Mo_isRange_85 ?_
    refine va_put (D := gD g) (ci := 8) (v := .int (2147483647 : Int32)) (ty := .int) (C := R_Mo) (T := T_Mo) (N := 64) hx hb htb in_Mo ty_Mo ty_Mo_ok nm_Mo hown hK hP hD hS 0 rfl rfl 59 (by decide) (htb _ L_Mo_273) (fun _ h9 => h9) rfl (by decide +kernel) rfl rfl (Nat.le_of_ble_eq_true rfl) d_Mo_isRange_88 (fun H locs hP hD hS => ?_)
    obtain ⟨t_28, et_28, h⟩ := letS_el h
    have hP : va_P (gD g) vwCl ((pic_Mo g a_t t_28 tL)) H := by rw [et_28]; exact hP
    have hD : va_D A ((pic_Mo g a_t t_28 tL)) := by rw [et_28]; exact hD
    refine lv_iload_n hx hb d_Mo_isRange_91 rfl (lv_at hl 3 rfl) ?_
    refine lv_iload_n hx hb d_Mo_isRange_92 rfl (lv_at hl 2 rfl) ?_
    refine lv_isub hx hb d_Mo_isRange_93 ?_
    refine lv_iconst (v := 2) hx hb d_Mo_isRange_94 (by decide) ?_
    refine lv_icmp_ne (tgt := 100) hx hb d_Mo_isRange_95 (by decide) (fun c29 => ?_) (fun c29 => ?_)
    · replace h := (if_neg c29).symm.trans h
      refine lv_iload hx hb d_Mo_isRange_100 (lv_at hl 4 rfl) ?_
      refine lv_iload_n hx hb d_Mo_isRange_102 rfl (lv_at hl 2 rfl) ?_
      refine lv_icmp_le (tgt := 127) hx hb d_Mo_isRange_103 (by decide) (fun c30 => ?_) (fun c30 => ?_)
      · replace h := (if_pos c30).symm.trans h
        exact k_Mo_isRange_127 hC _ _ _ _ _ _ h _ _ _ hP hD hS (lv_sub hl [0, 1, 3, 4] rfl)
      · replace h := (if_neg c30).symm.trans h
        refine lv_aload_n hx hb d_Mo_isRange_106 rfl (lv_at hl 0 rfl) ?_
        refine lv_iload_n hx hb d_Mo_isRange_107 rfl (lv_at hl 1 rfl) ?_
        refine lv_iload_n hx hb d_Mo_isRange_108 rfl (lv_at hl 2 rfl) ?_
        refine lv_iload hx hb d_Mo_isRange_109 (lv_at hl 4 rfl) ?_
        obtain ⟨r31, hr31, h⟩ := Option.bind_eq_some_iff.mp h
        refine cl_I (wr := []) [0, 1, 2, 3, 4, 5, 6, 7, 8, 9, 10, 11, 12, 13, 14, 15, 16, 17, 18, 19, 20, 21, 22, 23, 24, 25, 26, 27, 28, 29, 30, 31, 32] [] rfl rfl rfl (by decide) hP hD hS hA (va_runV (As := [.int x1, .int x2, .int x4]) (rest := []) ⟨hx, hb, hml, hown, htb⟩ (c_Mo_isBound l g F a_t t_28 tL x1 x2 x4 _ hr31 H.size) (cw_V htb mb_Mo_isBound (htb _ L_Mo_266) rfl rfl ⟨Nat.le_of_ble_eq_true rfl, Nat.le_of_ble_eq_true rfl⟩) (pre_V (va_recv hK hP (ci := 8) (q0 := 0) rfl rfl) (pre_S [0, 1, 2, 3, 4, 5, 6, 7, 8, 9, 10, 11, 12, 13, 14, 15, 16, 17, 18, 19, 20, 21, 22, 23, 24, 25, 26, 27, 28, 29, 30, 31, 32] rfl rfl hP hD hS hA hAA hG)) rfl rfl hl.1 rfl (lv_room (Nat.le_of_ble_eq_true rfl)) d_Mo_isRange_111 ⟨Nat.zero_le _, Nat.zero_le _⟩) (fun H locs hP hD hS => ?_)
        have hP : va_P (gD g) vwCl ((pic_Mo g a_t r31.2.1 r31.2.2)) H := hP.sub [0, 1, 2, 3, 4, 5, 6, 7, 8, 9, 10, 11, 12, 13, 14, 15, 16, 17, 18, 19, 20, 21, 22, 23, 24, 25, 26, 27, 28, 29, 30, 31, 32] rfl
        have hD : va_D A ((pic_Mo g a_t r31.2.1 r31.2.2)) := hD.sub [0, 1, 2, 3, 4, 5, 6, 7, 8, 9, 10, 11, 12, 13, 14, 15, 16, 17, 18, 19, 20, 21, 22, 23, 24, 25, 26, 27, 28, 29, 30, 31, 32] rfl rfl
        refine lv_if_ne (tgt := 119) hx hb d_Mo_isRange_114 (by decide) (fun c32 => ?_) (fun c32 => ?_)
        · replace h := (if_neg c32).symm.trans h
          refine lv_aload_n hx hb d_Mo_isRange_119 rfl (lv_at hl 0 rfl) ?_
          refine lv_aload_n hx hb d_Mo_isRange_120 rfl (lv_at hl 0 rfl) ?_
          refine va_get (D := gD g) (ci := 8) (v := .int (r31.2.1 56 0)) (C := R_Mo) (T := T_Mo) (N := 64) hx hb htb in_Mo hown hK hP 0 rfl rfl 56 (by decide) (htb _ L_Mo_246) (fun _ h9 => h9) rfl d_Mo_isRange_121 ?_
          refine va_put (D := gD g) (ci := 8) (v := .int (r31.2.1 56 0)) (ty := .int) (C := R_Mo) (T := T_Mo) (N := 64) hx hb htb in_Mo ty_Mo ty_Mo_ok nm_Mo hown hK hP hD hS 0 rfl rfl 58 (by decide) (htb _ L_Mo_270) (fun _ h9 => h9) rfl (by decide +kernel) rfl rfl (Nat.le_of_ble_eq_true rfl) d_Mo_isRange_124 (fun H locs hP hD hS => ?_)
          obtain ⟨t_33, et_33, h⟩ := letS_el h
          have hP : va_P (gD g) vwCl ((pic_Mo g a_t t_33 r31.2.2)) H := by rw [et_33]; exact hP
          have hD : va_D A ((pic_Mo g a_t t_33 r31.2.2)) := by rw [et_33]; exact hD
          exact k_Mo_isRange_127 hC _ _ _ _ _ _ h _ _ _ hP hD hS (lv_sub hl [0, 1, 3, 4] rfl)
        · replace h := (if_pos c32).symm.trans h
          refine lv_iconst (v := 0) hx hb d_Mo_isRange_117 (by decide) ?_
          cases h
          exact W.zret hx hb hr rfl (fun t ht hW => ⟨⟨_, (), rfl, rfl, by rw [ht]; exact hP, hD⟩, hS.F ht⟩) hS.2.2 d_Mo_isRange_118
    · replace h := (if_pos c29).symm.trans h
      refine lv_iconst (v := 0) hx hb d_Mo_isRange_98 (by decide) ?_
      cases h
      exact W.zret hx hb hr rfl (fun t ht hW => ⟨⟨_, (), rfl, rfl, by rw [ht]; exact hP, hD⟩, hS.F ht⟩) hS.2.2 d_Mo_isRange_99
  · replace h := (if_neg c26).symm.trans h
    refine lv_aload_n hx hb d_Mo_isRange_49 rfl (lv_at hl 0 rfl) ?_
    refine lv_iload_n hx hb d_Mo_isRange_50 rfl (lv_at hl 1 rfl) ?_
    refine lv_iload_n hx hb d_Mo_isRange_51 rfl (lv_at hl 2 rfl) ?_
    refine lv_iload_n hx hb d_Mo_isRange_52 rfl (lv_at hl 3 rfl) ?_
    obtain ⟨r34, hr34, h⟩ := Option.bind_eq_some_iff.mp h
    refine cl_I (wr := []) [0, 1, 2, 3, 4, 5, 6, 7, 8, 9, 10, 11, 12, 13, 14, 15, 16, 17, 18, 19, 20, 21, 22, 23, 24, 25, 26, 27, 28, 29, 30, 31, 32] [] rfl rfl rfl (by decide) hP hD hS hA (va_runV (As := [.int x1, .int x2, .int x3]) (rest := []) ⟨hx, hb, hml, hown, htb⟩ (c_Mo_isBound l g F a_t t tL x1 x2 x3 _ hr34 H.size) (cw_V htb mb_Mo_isBound (htb _ L_Mo_266) rfl rfl ⟨Nat.le_of_ble_eq_true rfl, Nat.le_of_ble_eq_true rfl⟩) (pre_V (va_recv hK hP (ci := 8) (q0 := 0) rfl rfl) (pre_S [0, 1, 2, 3, 4, 5, 6, 7, 8, 9, 10, 11, 12, 13, 14, 15, 16, 17, 18, 19, 20, 21, 22, 23, 24, 25, 26, 27, 28, 29, 30, 31, 32] rfl rfl hP hD hS hA hAA hG)) rfl rfl hl.1 rfl (lv_room (Nat.le_of_ble_eq_true rfl)) d_Mo_isRange_53 ⟨Nat.zero_le _, Nat.zero_le _⟩) (fun H locs hP hD hS => ?_)
    have hP : va_P (gD g) vwCl ((pic_Mo g a_t r34.2.1 r34.2.2)) H := hP.sub [0, 1, 2, 3, 4, 5, 6, 7, 8, 9, 10, 11, 12, 13, 14, 15, 16, 17, 18, 19, 20, 21, 22, 23, 24, 25, 26, 27, 28, 29, 30, 31, 32] rfl
    have hD : va_D A ((pic_Mo g a_t r34.2.1 r34.2.2)) := hD.sub [0, 1, 2, 3, 4, 5, 6, 7, 8, 9, 10, 11, 12, 13, 14, 15, 16, 17, 18, 19, 20, 21, 22, 23, 24, 25, 26, 27, 28, 29, 30, 31, 32] rfl rfl
    refine lv_istore (lv' := [(5, .int r34.1), (0, .ref (a_t 0)), (1, .int x1), (2, .int x2), (3, .int x3), (4, .int x4)]) hx hb d_Mo_isRange_56 hl (by decide) rfl (fun ls hl => ?_)
    refine lv_aload_n hx hb d_Mo_isRange_58 rfl (lv_at hl 1 rfl) ?_
    refine lv_aload_n hx hb d_Mo_isRange_59 rfl (lv_at hl 1 rfl) ?_
    refine va_get (D := gD g) (ci := 8) (v := .int (r34.2.1 56 0)) (C := R_Mo) (T := T_Mo) (N := 64) hx hb htb in_Mo hown hK hP 0 rfl rfl 56 (by decide) (htb _ L_Mo_246) (fun _ h9 => h9) rfl d_Mo_isRange_60 ?_
    refine va_put (D := gD g) (ci := 8) (v := .int (r34.2.1 56 0)) (ty := .int) (C := R_Mo) (T := T_Mo) (N := 64) hx hb htb in_Mo ty_Mo ty_Mo_ok nm_Mo hown hK hP hD hS 0 rfl rfl 58 (by decide) (htb _ L_Mo_270) (fun _ h9 => h9) rfl (by decide +kernel) rfl rfl (Nat.le_of_ble_eq_true rfl) d_Mo_isRange_63 (fun H locs hP hD hS => ?_)
    obtain ⟨t_35, et_35, h⟩ := letS_el h
    have hP : va_P (gD g) vwCl ((pic_Mo g a_t t_35 r34.2.2)) H := by rw [et_35]; exact hP
    have hD : va_D A ((pic_Mo g a_t t_35 r34.2.2)) := by rw [et_35]; exact hD
    refine lv_aload_n hx hb d_Mo_isRange_66 rfl (lv_at hl 1 rfl) ?_
    refine lv_aload_n hx hb d_Mo_isRange_67 rfl (lv_at hl 1 rfl) ?_
    refine va_get (D := gD g) (ci := 8) (v := .int (t_35 56 0)) (C := R_Mo) (T := T_Mo) (N := 64) hx hb htb in_Mo hown hK hP 0 rfl rfl 56 (by decide) (htb _ L_Mo_246) (fun _ h9 => h9) rfl d_Mo_isRange_68 ?_
    refine va_put (D := gD g) (ci := 8) (v := .int (t_35 56 0)) (ty := .int) (C := R_Mo) (T := T_Mo) (N := 64) hx hb htb in_Mo ty_Mo ty_Mo_ok nm_Mo hown hK hP hD hS 0 rfl rfl 59 (by decide) (htb _ L_Mo_273) (fun _ h9 => h9) rfl (by decide +kernel) rfl rfl (Nat.le_of_ble_eq_true rfl) d_Mo_isRange_71 (fun H locs hP hD hS => ?_)
    obtain ⟨t_36, et_36, h⟩ := letS_el h
    have hP : va_P (gD g) vwCl ((pic_Mo g a_t t_36 r34.2.2)) H := by rw [et_36]; exact hP
    have hD : va_D A ((pic_Mo g a_t t_36 r34.2.2)) := by rw [et_36]; exact hD
    refine lv_iload hx hb d_Mo_isRange_74 (lv_at hl 0 rfl) ?_
    by_cases c37 : (r34.1 = 0 ∨ r34.1 = 1)
    rotate_left
    · replace h := (if_neg c37).symm.trans h
      cases h
    replace h := (if_pos c37).symm.trans h
    cases h
    exact W.zret hx hb hr (by rcases c37 with c37 | c37 <;> rw [c37] <;> rfl) (fun t ht hW => ⟨⟨_, (), rfl, rfl, by rw [ht]; exact hP, hD⟩, hS.F ht⟩) hS.2.2 d_Mo_isRange_76
set_option maxHeartbeats 4000000 in
set_option maxRecDepth 100000 in
theorem k_Mo_isRange_35 {p : Program} {l : Launch} {e : Env} {s : State} {m : MethodId} {args : Array Value} {below : List Frame} {meth : Method} {c : Code} {g : Gz} {A : Nat → Prop} {F : Nat} {a_t : Nat → Nat} {k3 : StI → StL → Int32 → Int32 → Int32 → Int32 → Option (Int32 × StI × StL)} (hC : Cx prog_10_method_28_code 6 (some .boolean) R_Mo p s m args meth c g A A) : ∀ (t : StI) (tL : StL) (x1 : Int32) (x2 : Int32) (x3 : Int32) (x4 : Int32) (res : Int32 × StI × StL), Mo_isRange_35 F k3 t tL x1 x2 x3 x4 = some res → (∀ (t : StI) (tL : StL) (x1 : Int32) (x2 : Int32) (x3 : Int32) (x4 : Int32), k3 t tL x1 x2 x3 x4 = some res → Go p l e rm_Mo_isRange s m args below meth c g A A 6 (MQ below (EI g ((pic_Mo g a_t res.2.1 res.2.2)) res.1 A) args s 0 0 A) ((pic_Mo g a_t t tL)) [(0, .ref (a_t 0)), (1, .int x1), (2, .int x2), (3, .int x3), (4, .int x4)] 3 []) → Go p l e rm_Mo_isRange s m args below meth c g A A 6 (MQ below (EI g ((pic_Mo g a_t res.2.1 res.2.2)) res.1 A) args s 0 0 A) ((pic_Mo g a_t t tL)) [(0, .ref (a_t 0)), (1, .int x1), (2, .int x2), (3, .int x3), (4, .int x4)] 35 [] := by
  obtain ⟨hx, hb, hr, hml, hown, htb, hlocks, hA, hAA, hG⟩ := id hC
  have hK := hG.1
  intro t tL x1 x2 x3 x4 res h hk3 H locs ls hP hD hS hl
  rw [Mo_isRange_35] at h
  refine lv_iinc (v := (x4 + (1 : Int32))) (lv' := [(4, .int (x4 + (1 : Int32))), (0, .ref (a_t 0)), (1, .int x1), (2, .int x2), (3, .int x3)]) hx hb d_Mo_isRange_35 hl (k := 4) rfl rfl (by decide) rfl (fun ls hl => ?_)
  refine lv_goto (tgt := 3) hx hb d_Mo_isRange_38 (by decide) ?_
  exact hk3 _ _ _ _ _ _ h _ _ _ hP hD hS (lv_sub hl [1, 2, 3, 4, 0] rfl)
set_option maxHeartbeats 4000000 in
set_option maxRecDepth 100000 in
theorem k_Mo_isRange_3 {p : Program} {l : Launch} {e : Env} {s : State} {m : MethodId} {args : Array Value} {below : List Frame} {meth : Method} {c : Code} {g : Gz} {A : Nat → Prop} {F : Nat} {a_t : Nat → Nat} (hC : Cx prog_10_method_28_code 6 (some .boolean) R_Mo p s m args meth c g A A) : ∀ (n : Nat) (t : StI) (tL : StL) (x1 : Int32) (x2 : Int32) (x3 : Int32) (x4 : Int32) (res : Int32 × StI × StL), Mo_isRange_3 F n t tL x1 x2 x3 x4 = some res → Go p l e rm_Mo_isRange s m args below meth c g A A 6 (MQ below (EI g ((pic_Mo g a_t res.2.1 res.2.2)) res.1 A) args s 0 0 A) ((pic_Mo g a_t t tL)) [(0, .ref (a_t 0)), (1, .int x1), (2, .int x2), (3, .int x3), (4, .int x4)] 3 [] := by
  obtain ⟨hx, hb, hr, hml, hown, htb, hlocks, hA, hAA, hG⟩ := id hC
  have hK := hG.1
  intro n
  induction n with
  | zero => intro t tL x1 x2 x3 x4 res h; rw [Mo_isRange_3] at h; cases h
  | succ n ih =>
    intro t tL x1 x2 x3 x4 res h H locs ls hP hD hS hl
    rw [Mo_isRange_3] at h
    refine lv_iload hx hb d_Mo_isRange_3 (lv_at hl 4 rfl) ?_
    refine lv_iconst (v := 1) hx hb d_Mo_isRange_5 (by decide) ?_
    refine lv_iadd hx hb d_Mo_isRange_6 ?_
    refine lv_iload_n hx hb d_Mo_isRange_7 rfl (lv_at hl 3 rfl) ?_
    refine lv_icmp_ge (tgt := 41) hx hb d_Mo_isRange_8 (by decide) (fun c38 => ?_) (fun c38 => ?_)
    · replace h := (if_pos c38).symm.trans h
      exact k_Mo_isRange_41 hC _ _ _ _ _ _ _ h _ _ _ hP hD hS (lv_sub hl [0, 1, 2, 3, 4] rfl)
    · replace h := (if_neg c38).symm.trans h
      refine lv_aload_n hx hb d_Mo_isRange_11 rfl (lv_at hl 0 rfl) ?_
      refine lv_iload hx hb d_Mo_isRange_12 (lv_at hl 4 rfl) ?_
      obtain ⟨r39, hr39, h⟩ := Option.bind_eq_some_iff.mp h
      refine cl_Ir hP hS hA (va_runV (As := [.int x4]) (rest := []) ⟨hx, hb, hml, hown, htb⟩ (c_Mo_see l g F a_t t tL x4 _ hr39 H.size) (cw_V htb mb_Mo_see (htb _ L_Mo_160) rfl rfl ⟨Nat.le_of_ble_eq_true rfl, Nat.le_of_ble_eq_true rfl⟩) (pre_V (va_recv hK hP (ci := 8) (q0 := 0) rfl rfl) (pre_S [0, 1, 2, 3, 4, 5, 6, 7, 8, 9, 10, 11, 12, 13, 14, 15, 16, 17, 18, 19, 20, 21, 22, 23, 24, 25, 26, 27, 28, 29, 30, 31, 32] rfl rfl hP hD hS hA hAA hG)) rfl rfl hl.1 rfl (lv_room (Nat.le_of_ble_eq_true rfl)) d_Mo_isRange_14 ⟨Nat.zero_le _, Nat.zero_le _⟩) (fun H locs hP hS => ?_)
      refine lv_bipush (v := 46) hx hb d_Mo_isRange_17 (by decide) ?_
      refine lv_icmp_ne (tgt := 35) hx hb d_Mo_isRange_19 (by decide) (fun c40 => ?_) (fun c40 => ?_)
      · replace h := (if_neg c40).symm.trans h
        exact k_Mo_isRange_35 hC _ _ _ _ _ _ _ h (fun z0 z1 z2 z3 z4 z5 hz => ih z0 z1 z2 z3 z4 z5 _ hz) _ _ _ hP hD hS (lv_sub hl [0, 1, 2, 3, 4] rfl)
      · replace h := (if_pos c40).symm.trans h
        refine lv_aload_n hx hb d_Mo_isRange_22 rfl (lv_at hl 0 rfl) ?_
        refine lv_iload hx hb d_Mo_isRange_23 (lv_at hl 4 rfl) ?_
        refine lv_iconst (v := 1) hx hb d_Mo_isRange_25 (by decide) ?_
        refine lv_iadd hx hb d_Mo_isRange_26 ?_
        obtain ⟨r41, hr41, h⟩ := Option.bind_eq_some_iff.mp h
        refine cl_Ir hP hS hA (va_runV (As := [.int (x4 + (1 : Int32))]) (rest := []) ⟨hx, hb, hml, hown, htb⟩ (c_Mo_see l g F a_t t tL (x4 + (1 : Int32)) _ hr41 H.size) (cw_V htb mb_Mo_see (htb _ L_Mo_160) rfl rfl ⟨Nat.le_of_ble_eq_true rfl, Nat.le_of_ble_eq_true rfl⟩) (pre_V (va_recv hK hP (ci := 8) (q0 := 0) rfl rfl) (pre_S [0, 1, 2, 3, 4, 5, 6, 7, 8, 9, 10, 11, 12, 13, 14, 15, 16, 17, 18, 19, 20, 21, 22, 23, 24, 25, 26, 27, 28, 29, 30, 31, 32] rfl rfl hP hD hS hA hAA hG)) rfl rfl hl.1 rfl (lv_room (Nat.le_of_ble_eq_true rfl)) d_Mo_isRange_27 ⟨Nat.zero_le _, Nat.zero_le _⟩) (fun H locs hP hS => ?_)
        refine lv_bipush (v := 46) hx hb d_Mo_isRange_30 (by decide) ?_
        refine lv_icmp_eq (tgt := 41) hx hb d_Mo_isRange_32 (by decide) (fun c42 => ?_) (fun c42 => ?_)
        · replace h := (if_pos c42).symm.trans h
          exact k_Mo_isRange_41 hC _ _ _ _ _ _ _ h _ _ _ hP hD hS (lv_sub hl [0, 1, 2, 3, 4] rfl)
        · replace h := (if_neg c42).symm.trans h
          exact k_Mo_isRange_35 hC _ _ _ _ _ _ _ h (fun z0 z1 z2 z3 z4 z5 hz => ih z0 z1 z2 z3 z4 z5 _ hz) _ _ _ hP hD hS (lv_sub hl [0, 1, 2, 3, 4] rfl)
set_option maxHeartbeats 4000000 in
set_option maxRecDepth 100000 in
theorem k_Mo_isRange {p : Program} {l : Launch} {e : Env} {s : State} {m : MethodId} {args : Array Value} {below : List Frame} {meth : Method} {c : Code} {g : Gz} {A : Nat → Prop} {F : Nat} {a_t : Nat → Nat} (hC : Cx prog_10_method_28_code 6 (some .boolean) R_Mo p s m args meth c g A A) : ∀ (t : StI) (tL : StL) (x1 : Int32) (x2 : Int32) (x3 : Int32) (res : Int32 × StI × StL), Mo_isRange F t tL x1 x2 x3 = some res → Go p l e rm_Mo_isRange s m args below meth c g A A 6 (MQ below (EI g ((pic_Mo g a_t res.2.1 res.2.2)) res.1 A) args s 0 0 A) ((pic_Mo g a_t t tL)) [(0, .ref (a_t 0)), (1, .int x1), (2, .int x2), (3, .int x3)] 0 [] := by
  obtain ⟨hx, hb, hr, hml, hown, htb, hlocks, hA, hAA, hG⟩ := id hC
  have hK := hG.1
  intro t tL x1 x2 x3 res h H locs ls hP hD hS hl
  rw [Mo_isRange] at h
  refine lv_iload_n hx hb d_Mo_isRange_0 rfl (lv_at hl 2 rfl) ?_
  refine lv_istore (lv' := [(4, .int x2), (0, .ref (a_t 0)), (1, .int x1), (2, .int x2), (3, .int x3)]) hx hb d_Mo_isRange_1 hl (by decide) rfl (fun ls hl => ?_)
  exact k_Mo_isRange_3 hC F _ _ _ _ _ _ _ h _ _ _ hP hD hS (lv_sub hl [1, 2, 3, 4, 0] rfl)
theorem c_Mo_isRange (l : Launch) (g : Gz) (F : Nat) (a_t : Nat → Nat) (t : StI) (tL : StL) (x1 : Int32) (x2 : Int32) (x3 : Int32) (res : Int32 × StI × StL) (h : Mo_isRange F t tL x1 x2 x3 = some res) : ∀ sz : Nat, Met l y_Mo_isRange (.code y_Mo_isRange prog_10_method_28_code 6 (some .boolean) :: TBL) rm_Mo_isRange (va_Pc [.ref (a_t 0), .int x1, .int x2, .int x3] (Pre0 g ((pic_Mo g a_t t tL)) sz)) (EI g ((pic_Mo g a_t res.2.1 res.2.2)) res.1 (va_A ((pic_Mo g a_t t tL)) sz)) 0 0 (va_A ((pic_Mo g a_t t tL)) sz) :=
  ct_w (Qc := fun A => EI g ((pic_Mo g a_t res.2.1 res.2.2)) res.1 A) (by decide) (Nat.le_of_ble_eq_true rfl) (fun p e s m args below meth c A hC => k_Mo_isRange hC t tL x1 x2 x3 res h)
def Mo_star_88 (F : Nat) (t : StI) (tL : StL) (x1 : Int32) (y0 : Int32) : Option (Int32) := if x1 = (-1 : Int32) then some x1 else if y0 = 0 then some (-2 : Int32) else if ((t 18 0) - (t 17 0)) = (1 : Int32) then some (-2 : Int32) else some x1
def Mo_star_83 (F : Nat) (t : StI) (tL : StL) (x1 : Int32) : Option (Int32) := Mo_star_88 F t tL x1 (1 : Int32)
def Mo_star_51 (F : Nat) (k16 : StI → StL → Int32 → Int32 → Option (Int32)) (t : StI) (tL : StL) (x1 : Int32) (x2 : Int32) : Option (Int32) := k16 t tL x1 (x2 + (1 : Int32))
def Mo_star_50 (F : Nat) (k16 : StI → StL → Int32 → Int32 → Option (Int32)) (t : StI) (tL : StL) (x2 : Int32) (y0 : Int32) : Option (Int32) := Mo_star_51 F k16 t tL y0 x2
def Mo_star_16 (F : Nat) : Nat → StI → StL → Int32 → Int32 → Option (Int32)
  | 0, _, _, _, _ => none
  | n + 1, t, tL, x1, x2 => if (t 18 0) ≤ x2 then if (t 16 0) < (5 : Int32) then Mo_star_83 F t tL x1 else if (t 16 0) = (7 : Int32) then Mo_star_83 F t tL x1 else if (t 16 0) = (9 : Int32) then Mo_star_83 F t tL x1 else Mo_star_88 F t tL x1 (0 : Int32) else (Mo_see F t tL x2).bind fun r19 => if r19 = (42 : Int32) then if x1 = (-1 : Int32) then Mo_star_50 F (Mo_star_16 F n) t tL x2 (x2 - (t 17 0)) else Mo_star_50 F (Mo_star_16 F n) t tL x2 (-2 : Int32) else Mo_star_51 F (Mo_star_16 F n) t tL x1 x2
def Mo_star (F : Nat) (t : StI) (tL : StL) : Option (Int32) := if (t 19 0) = 0 then Mo_star_16 F F t tL (-1 : Int32) (t 17 0) else some (-1 : Int32)
set_option maxHeartbeats 4000000 in
set_option maxRecDepth 100000 in
theorem k_Mo_star_88 {p : Program} {l : Launch} {e : Env} {s : State} {m : MethodId} {args : Array Value} {below : List Frame} {meth : Method} {c : Code} {g : Gz} {A2 A : Nat → Prop} {F : Nat} {a_t : Nat → Nat} (hC : Cx prog_10_method_29_code 3 (some .int) R_Mo p s m args meth c g A2 A) : ∀ (t : StI) (tL : StL) (x1 : Int32) (y0 : Int32) (res : Int32), Mo_star_88 F t tL x1 y0 = some res → Go p l e rm_Mo_star s m args below meth c g A2 A 3 (MQ below (RI res A) args s 0 0 A) ((pic_Mo g a_t t tL)) [(0, .ref (a_t 0)), (1, .int x1)] 88 [.int y0] := by
  obtain ⟨hx, hb, hr, hml, hown, htb, hlocks, hA, hAA, hG⟩ := id hC
  have hK := hG.1
  intro t tL x1 y0 res h H locs ls hP hD hS hl
  rw [Mo_star_88] at h
  refine lv_istore_n (lv' := [(2, .int y0), (0, .ref (a_t 0)), (1, .int x1)]) hx hb d_Mo_star_88 rfl hl (by decide) rfl (fun ls hl => ?_)
  refine lv_iload_n hx hb d_Mo_star_89 rfl (lv_at hl 2 rfl) ?_
  refine lv_iconst (v := -1) hx hb d_Mo_star_90 (by decide) ?_
  refine lv_icmp_eq (tgt := 116) hx hb d_Mo_star_91 (by decide) (fun c12 => ?_) (fun c12 => ?_)
  · replace h := (if_pos c12).symm.trans h
    refine lv_iload_n hx hb d_Mo_star_116 rfl (lv_at hl 2 rfl) ?_
    cases h
    exact W.iret hx hb hr (fun t ht hW => ⟨⟨_, (), rfl, rfl, trivial⟩, hS.F ht⟩) hS.2.2 d_Mo_star_117
  · replace h := (if_neg c12).symm.trans h
    refine lv_iload_n hx hb d_Mo_star_94 rfl (lv_at hl 0 rfl) ?_
    refine lv_if_eq (tgt := 111) hx hb d_Mo_star_95 (by decide) (fun c13 => ?_) (fun c13 => ?_)
    · replace h := (if_pos c13).symm.trans h
      refine lv_bipush (v := -2) hx hb d_Mo_star_111 (by decide) ?_
      refine lv_goto (tgt := 117) hx hb d_Mo_star_113 (by decide) ?_
      cases h
      exact W.iret hx hb hr (fun t ht hW => ⟨⟨_, (), rfl, rfl, trivial⟩, hS.F ht⟩) hS.2.2 d_Mo_star_117
    · replace h := (if_neg c13).symm.trans h
      refine lv_aload_n hx hb d_Mo_star_98 rfl (lv_at hl 1 rfl) ?_
      refine va_get (D := gD g) (ci := 8) (v := .int (t 18 0)) (C := R_Mo) (T := T_Mo) (N := 64) hx hb htb in_Mo hown hK hP 0 rfl rfl 18 (by decide) (htb _ L_Mo_196) (fun _ h9 => h9) rfl d_Mo_star_99 ?_
      refine lv_aload_n hx hb d_Mo_star_102 rfl (lv_at hl 1 rfl) ?_
      refine va_get (D := gD g) (ci := 8) (v := .int (t 17 0)) (C := R_Mo) (T := T_Mo) (N := 64) hx hb htb in_Mo hown hK hP 0 rfl rfl 17 (by decide) (htb _ L_Mo_193) (fun _ h9 => h9) rfl d_Mo_star_103 ?_
      refine lv_isub hx hb d_Mo_star_106 ?_
      refine lv_iconst (v := 1) hx hb d_Mo_star_107 (by decide) ?_
      refine lv_icmp_ne (tgt := 116) hx hb d_Mo_star_108 (by decide) (fun c14 => ?_) (fun c14 => ?_)
      · replace h := (if_neg c14).symm.trans h
        refine lv_iload_n hx hb d_Mo_star_116 rfl (lv_at hl 2 rfl) ?_
        cases h
        exact W.iret hx hb hr (fun t ht hW => ⟨⟨_, (), rfl, rfl, trivial⟩, hS.F ht⟩) hS.2.2 d_Mo_star_117
      · replace h := (if_pos c14).symm.trans h
        refine lv_bipush (v := -2) hx hb d_Mo_star_111 (by decide) ?_
        refine lv_goto (tgt := 117) hx hb d_Mo_star_113 (by decide) ?_
        cases h
        exact W.iret hx hb hr (fun t ht hW => ⟨⟨_, (), rfl, rfl, trivial⟩, hS.F ht⟩) hS.2.2 d_Mo_star_117
set_option maxHeartbeats 4000000 in
set_option maxRecDepth 100000 in
theorem k_Mo_star_83 {p : Program} {l : Launch} {e : Env} {s : State} {m : MethodId} {args : Array Value} {below : List Frame} {meth : Method} {c : Code} {g : Gz} {A2 A : Nat → Prop} {F : Nat} {a_t : Nat → Nat} (hC : Cx prog_10_method_29_code 3 (some .int) R_Mo p s m args meth c g A2 A) : ∀ (t : StI) (tL : StL) (x1 : Int32) (res : Int32), Mo_star_83 F t tL x1 = some res → Go p l e rm_Mo_star s m args below meth c g A2 A 3 (MQ below (RI res A) args s 0 0 A) ((pic_Mo g a_t t tL)) [(0, .ref (a_t 0)), (1, .int x1)] 83 [] := by
  obtain ⟨hx, hb, hr, hml, hown, htb, hlocks, hA, hAA, hG⟩ := id hC
  have hK := hG.1
  intro t tL x1 res h H locs ls hP hD hS hl
  rw [Mo_star_83] at h
  refine lv_iconst (v := 1) hx hb d_Mo_star_83 (by decide) ?_
  refine lv_goto (tgt := 88) hx hb d_Mo_star_84 (by decide) ?_
  exact k_Mo_star_88 hC _ _ _ _ _ h _ _ _ hP hD hS (lv_sub hl [0, 1] rfl)
set_option maxHeartbeats 4000000 in
set_option maxRecDepth 100000 in
theorem k_Mo_star_51 {p : Program} {l : Launch} {e : Env} {s : State} {m : MethodId} {args : Array Value} {below : List Frame} {meth : Method} {c : Code} {g : Gz} {A2 A : Nat → Prop} {F : Nat} {a_t : Nat → Nat} {k16 : StI → StL → Int32 → Int32 → Option (Int32)} (hC : Cx prog_10_method_29_code 3 (some .int) R_Mo p s m args meth c g A2 A) : ∀ (t : StI) (tL : StL) (x1 : Int32) (x2 : Int32) (res : Int32), Mo_star_51 F k16 t tL x1 x2 = some res → (∀ (t : StI) (tL : StL) (x1 : Int32) (x2 : Int32), k16 t tL x1 x2 = some res → Go p l e rm_Mo_star s m args below meth c g A2 A 3 (MQ below (RI res A) args s 0 0 A) ((pic_Mo g a_t t tL)) [(0, .ref (a_t 0)), (1, .int x1), (2, .int x2)] 16 []) → Go p l e rm_Mo_star s m args below meth c g A2 A 3 (MQ below (RI res A) args s 0 0 A) ((pic_Mo g a_t t tL)) [(0, .ref (a_t 0)), (1, .int x1), (2, .int x2)] 51 [] := by
  obtain ⟨hx, hb, hr, hml, hown, htb, hlocks, hA, hAA, hG⟩ := id hC
  have hK := hG.1
  intro t tL x1 x2 res h hk16 H locs ls hP hD hS hl
  rw [Mo_star_51] at h
  refine lv_iinc (v := (x2 + (1 : Int32))) (lv' := [(2, .int (x2 + (1 : Int32))), (0, .ref (a_t 0)), (1, .int x1)]) hx hb d_Mo_star_51 hl (k := 2) rfl rfl (by decide) rfl (fun ls hl => ?_)
  refine lv_goto (tgt := 16) hx hb d_Mo_star_54 (by decide) ?_
  exact hk16 _ _ _ _ h _ _ _ hP hD hS (lv_sub hl [1, 2, 0] rfl)
set_option maxHeartbeats 4000000 in
set_option maxRecDepth 100000 in
theorem k_Mo_star_50 {p : Program} {l : Launch} {e : Env} {s : State} {m : MethodId} {args : Array Value} {below : List Frame} {meth : Method} {c : Code} {g : Gz} {A2 A : Nat → Prop} {F : Nat} {a_t : Nat → Nat} {k16 : StI → StL → Int32 → Int32 → Option (Int32)} (hC : Cx prog_10_method_29_code 3 (some .int) R_Mo p s m args meth c g A2 A) : ∀ (t : StI) (tL : StL) (x2 : Int32) (y0 : Int32) (res : Int32), Mo_star_50 F k16 t tL x2 y0 = some res → (∀ (t : StI) (tL : StL) (x1 : Int32) (x2 : Int32), k16 t tL x1 x2 = some res → Go p l e rm_Mo_star s m args below meth c g A2 A 3 (MQ below (RI res A) args s 0 0 A) ((pic_Mo g a_t t tL)) [(0, .ref (a_t 0)), (1, .int x1), (2, .int x2)] 16 []) → Go p l e rm_Mo_star s m args below meth c g A2 A 3 (MQ below (RI res A) args s 0 0 A) ((pic_Mo g a_t t tL)) [(0, .ref (a_t 0)), (2, .int x2)] 50 [.int y0] := by
  obtain ⟨hx, hb, hr, hml, hown, htb, hlocks, hA, hAA, hG⟩ := id hC
  have hK := hG.1
  intro t tL x2 y0 res h hk16 H locs ls hP hD hS hl
  rw [Mo_star_50] at h
  refine lv_istore_n (lv' := [(1, .int y0), (0, .ref (a_t 0)), (2, .int x2)]) hx hb d_Mo_star_50 rfl hl (by decide) rfl (fun ls hl => ?_)
  exact k_Mo_star_51 hC _ _ _ _ _ h hk16 _ _ _ hP hD hS (lv_sub hl [1, 0, 2] rfl)
set_option maxHeartbeats 4000000 in
set_option maxRecDepth 100000 in
theorem k_Mo_star_16 {p : Program} {l : Launch} {e : Env} {s : State} {m : MethodId} {args : Array Value} {below : List Frame} {meth : Method} {c : Code} {g : Gz} {A2 A : Nat → Prop} {F : Nat} {a_t : Nat → Nat} (hC : Cx prog_10_method_29_code 3 (some .int) R_Mo p s m args meth c g A2 A) : ∀ (n : Nat) (t : StI) (tL : StL) (x1 : Int32) (x2 : Int32) (res : Int32), Mo_star_16 F n t tL x1 x2 = some res → Go p l e rm_Mo_star s m args below meth c g A2 A 3 (MQ below (RI res A) args s 0 0 A) ((pic_Mo g a_t t tL)) [(0, .ref (a_t 0)), (1, .int x1), (2, .int x2)] 16 [] := by
  obtain ⟨hx, hb, hr, hml, hown, htb, hlocks, hA, hAA, hG⟩ := id hC
  have hK := hG.1
  intro n
  induction n with
  | zero => intro t tL x1 x2 res h; rw [Mo_star_16] at h; cases h
  | succ n ih =>
    intro t tL x1 x2 res h H locs ls hP hD hS hl
    rw [Mo_star_16] at h
    refine lv_iload_n hx hb d_Mo_star_16 rfl (lv_at hl 2 rfl) ?_
    refine lv_aload_n hx hb d_Mo_star_17 rfl (lv_at hl 0 rfl) ?_
    refine va_get (D := gD g) (ci := 8) (v := .int (t 18 0)) (C := R_Mo) (T := T_Mo) (N := 64) hx hb htb in_Mo hown hK hP 0 rfl rfl 18 (by decide) (htb _ L_Mo_196) (fun _ h9 => h9) rfl d_Mo_star_18 ?_
    refine lv_icmp_ge (tgt := 57) hx hb d_Mo_star_21 (by decide) (fun c15 => ?_) (fun c15 => ?_)
    · replace h := (if_pos c15).symm.trans h
      refine lv_aload_n hx hb d_Mo_star_57 rfl (lv_at hl 0 rfl) ?_
      refine va_get (D := gD g) (ci := 8) (v := .int (t 16 0)) (C := R_Mo) (T := T_Mo) (N := 64) hx hb htb in_Mo hown hK hP 0 rfl rfl 16 (by decide) (htb _ L_Mo_214) (fun _ h9 => h9) rfl d_Mo_star_58 ?_
      refine lv_iconst (v := 5) hx hb d_Mo_star_61 (by decide) ?_
      refine lv_icmp_lt (tgt := 83) hx hb d_Mo_star_62 (by decide) (fun c16 => ?_) (fun c16 => ?_)
      · replace h := (if_pos c16).symm.trans h
        exact k_Mo_star_83 hC _ _ _ _ h _ _ _ hP hD hS (lv_sub hl [0, 1] rfl)
      · replace h := (if_neg c16).symm.trans h
        refine lv_aload_n hx hb d_Mo_star_65 rfl (lv_at hl 0 rfl) ?_
        refine va_get (D := gD g) (ci := 8) (v := .int (t 16 0)) (C := R_Mo) (T := T_Mo) (N := 64) hx hb htb in_Mo hown hK hP 0 rfl rfl 16 (by decide) (htb _ L_Mo_214) (fun _ h9 => h9) rfl d_Mo_star_66 ?_
        refine lv_bipush (v := 7) hx hb d_Mo_star_69 (by decide) ?_
        refine lv_icmp_eq (tgt := 83) hx hb d_Mo_star_71 (by decide) (fun c17 => ?_) (fun c17 => ?_)
        · replace h := (if_pos c17).symm.trans h
          exact k_Mo_star_83 hC _ _ _ _ h _ _ _ hP hD hS (lv_sub hl [0, 1] rfl)
        · replace h := (if_neg c17).symm.trans h
          refine lv_aload_n hx hb d_Mo_star_74 rfl (lv_at hl 0 rfl) ?_
          refine va_get (D := gD g) (ci := 8) (v := .int (t 16 0)) (C := R_Mo) (T := T_Mo) (N := 64) hx hb htb in_Mo hown hK hP 0 rfl rfl 16 (by decide) (htb _ L_Mo_214) (fun _ h9 => h9) rfl d_Mo_star_75 ?_
          refine lv_bipush (v := 9) hx hb d_Mo_star_78 (by decide) ?_
          refine lv_icmp_ne (tgt := 87) hx hb d_Mo_star_80 (by decide) (fun c18 => ?_) (fun c18 => ?_)
          · replace h := (if_neg c18).symm.trans h
            refine lv_iconst (v := 0) hx hb d_Mo_star_87 (by decide) ?_
            exact k_Mo_star_88 hC _ _ _ _ _ h _ _ _ hP hD hS (lv_sub hl [0, 1] rfl)
          · replace h := (if_pos c18).symm.trans h
            exact k_Mo_star_83 hC _ _ _ _ h _ _ _ hP hD hS (lv_sub hl [0, 1] rfl)
    · replace h := (if_neg c15).symm.trans h
      refine lv_aload_n hx hb d_Mo_star_24 rfl (lv_at hl 0 rfl) ?_
      refine lv_iload_n hx hb d_Mo_star_25 rfl (lv_at hl 2 rfl) ?_
      obtain ⟨r19, hr19, h⟩ := Option.bind_eq_some_iff.mp h
      refine cl_Ir hP hS hA (va_runV (As := [.int x2]) (rest := []) ⟨hx, hb, hml, hown, htb⟩ (c_Mo_see l g F a_t t tL x2 _ hr19 H.size) (cw_V htb mb_Mo_see (htb _ L_Mo_160) rfl rfl ⟨Nat.le_of_ble_eq_true rfl, Nat.le_of_ble_eq_true rfl⟩) (pre_V (va_recv hK hP (ci := 8) (q0 := 0) rfl rfl) (pre_S [0, 1, 2, 3, 4, 5, 6, 7, 8, 9, 10, 11, 12, 13, 14, 15, 16, 17, 18, 19, 20, 21, 22, 23, 24, 25, 26, 27, 28, 29, 30, 31, 32] rfl rfl hP hD hS hA hAA hG)) rfl rfl hl.1 rfl (lv_room (Nat.le_of_ble_eq_true rfl)) d_Mo_star_26 ⟨Nat.zero_le _, Nat.zero_le _⟩) (fun H locs hP hS => ?_)
      refine lv_bipush (v := 42) hx hb d_Mo_star_29 (by decide) ?_
      refine lv_icmp_ne (tgt := 51) hx hb d_Mo_star_31 (by decide) (fun c20 => ?_) (fun c20 => ?_)
      · replace h := (if_neg c20).symm.trans h
        exact k_Mo_star_51 hC _ _ _ _ _ h (fun z0 z1 z2 z3 hz => ih z0 z1 z2 z3 _ hz) _ _ _ hP hD hS (lv_sub hl [0, 1, 2] rfl)
      · replace h := (if_pos c20).symm.trans h
        refine lv_iload_n hx hb d_Mo_star_34 rfl (lv_at hl 1 rfl) ?_
        refine lv_iconst (v := -1) hx hb d_Mo_star_35 (by decide) ?_
        refine lv_icmp_ne (tgt := 48) hx hb d_Mo_star_36 (by decide) (fun c21 => ?_) (fun c21 => ?_)
        · replace h := (if_neg c21).symm.trans h
          refine lv_bipush (v := -2) hx hb d_Mo_star_48 (by decide) ?_
          exact k_Mo_star_50 hC _ _ _ _ _ h (fun z0 z1 z2 z3 hz => ih z0 z1 z2 z3 _ hz) _ _ _ hP hD hS (lv_sub hl [0, 2] rfl)
        · replace h := (if_pos c21).symm.trans h
          refine lv_iload_n hx hb d_Mo_star_39 rfl (lv_at hl 2 rfl) ?_
          refine lv_aload_n hx hb d_Mo_star_40 rfl (lv_at hl 0 rfl) ?_
          refine va_get (D := gD g) (ci := 8) (v := .int (t 17 0)) (C := R_Mo) (T := T_Mo) (N := 64) hx hb htb in_Mo hown hK hP 0 rfl rfl 17 (by decide) (htb _ L_Mo_193) (fun _ h9 => h9) rfl d_Mo_star_41 ?_
          refine lv_isub hx hb d_Mo_star_44 ?_
          refine lv_goto (tgt := 50) hx hb d_Mo_star_45 (by decide) ?_
          exact k_Mo_star_50 hC _ _ _ _ _ h (fun z0 z1 z2 z3 hz => ih z0 z1 z2 z3 _ hz) _ _ _ hP hD hS (lv_sub hl [0, 2] rfl)
set_option maxHeartbeats 4000000 in
set_option maxRecDepth 100000 in
theorem k_Mo_star {p : Program} {l : Launch} {e : Env} {s : State} {m : MethodId} {args : Array Value} {below : List Frame} {meth : Method} {c : Code} {g : Gz} {A2 A : Nat → Prop} {F : Nat} {a_t : Nat → Nat} (hC : Cx prog_10_method_29_code 3 (some .int) R_Mo p s m args meth c g A2 A) : ∀ (t : StI) (tL : StL) (res : Int32), Mo_star F t tL = some res → Go p l e rm_Mo_star s m args below meth c g A2 A 3 (MQ below (RI res A) args s 0 0 A) ((pic_Mo g a_t t tL)) [(0, .ref (a_t 0))] 0 [] := by
  obtain ⟨hx, hb, hr, hml, hown, htb, hlocks, hA, hAA, hG⟩ := id hC
  have hK := hG.1
  intro t tL res h H locs ls hP hD hS hl
  rw [Mo_star] at h
  refine lv_iconst (v := -1) hx hb d_Mo_star_0 (by decide) ?_
  refine lv_istore_n (lv' := [(1, .int (-1 : Int32)), (0, .ref (a_t 0))]) hx hb d_Mo_star_1 rfl hl (by decide) rfl (fun ls hl => ?_)
  refine lv_aload_n hx hb d_Mo_star_2 rfl (lv_at hl 1 rfl) ?_
  refine va_get (D := gD g) (ci := 8) (v := .int (t 19 0)) (C := R_Mo) (T := T_Mo) (N := 64) hx hb htb in_Mo hown hK hP 0 rfl rfl 19 (by decide) (htb _ L_Mo_189) (fun _ h9 => h9) rfl d_Mo_star_3 ?_
  refine lv_if_eq (tgt := 11) hx hb d_Mo_star_6 (by decide) (fun c22 => ?_) (fun c22 => ?_)
  · replace h := (if_pos c22).symm.trans h
    refine lv_aload_n hx hb d_Mo_star_11 rfl (lv_at hl 1 rfl) ?_
    refine va_get (D := gD g) (ci := 8) (v := .int (t 17 0)) (C := R_Mo) (T := T_Mo) (N := 64) hx hb htb in_Mo hown hK hP 0 rfl rfl 17 (by decide) (htb _ L_Mo_193) (fun _ h9 => h9) rfl d_Mo_star_12 ?_
    refine lv_istore_n (lv' := [(2, .int (t 17 0)), (1, .int (-1 : Int32)), (0, .ref (a_t 0))]) hx hb d_Mo_star_15 rfl hl (by decide) rfl (fun ls hl => ?_)
    exact k_Mo_star_16 hC F _ _ _ _ _ h _ _ _ hP hD hS (lv_sub hl [2, 1, 0] rfl)
  · replace h := (if_neg c22).symm.trans h
    refine lv_iload_n hx hb d_Mo_star_9 rfl (lv_at hl 0 rfl) ?_
    cases h
    exact W.iret hx hb hr (fun t ht hW => ⟨⟨_, (), rfl, rfl, trivial⟩, hS.F ht⟩) hS.2.2 d_Mo_star_10
theorem c_Mo_star (l : Launch) (g : Gz) (F : Nat) (a_t : Nat → Nat) (t : StI) (tL : StL) (res : Int32) (h : Mo_star F t tL = some res) : ∀ sz : Nat, Met l y_Mo_star (.code y_Mo_star prog_10_method_29_code 3 (some .int) :: TBL) rm_Mo_star (va_Pc [.ref (a_t 0)] (Pre0 g ((pic_Mo g a_t t tL)) sz)) (RI res (fun q => sz ≤ q)) 0 0 (fun q => sz ≤ q) :=
  ct_r (Qc := fun A => RI res A) (by decide) (Nat.le_of_ble_eq_true rfl) (fun p e s m args below meth c A2 A hC => k_Mo_star hC t tL res h)
def Mo_isEncrypted (F : Nat) (t : StI) (tL : StL) : Option (Int32) := if ((t 18 0) - (t 17 0)) = (9 : Int32) then (Mo_isText F t tL (t 17 0) ((t 17 0) + (8 : Int32)) (7308888588583728229 : Int64) (8 : Int32)).bind fun r7 => if r7 = 0 then some (0 : Int32) else (Mo_see F t tL ((t 18 0) - (1 : Int32))).bind fun r9 => if r9 = (100 : Int32) then some (1 : Int32) else some (0 : Int32) else some (0 : Int32)
set_option maxHeartbeats 4000000 in
set_option maxRecDepth 100000 in
theorem k_Mo_isEncrypted {p : Program} {l : Launch} {e : Env} {s : State} {m : MethodId} {args : Array Value} {below : List Frame} {meth : Method} {c : Code} {g : Gz} {A2 A : Nat → Prop} {F : Nat} {a_t : Nat → Nat} (hC : Cx prog_10_method_31_code 1 (some .boolean) R_Mo p s m args meth c g A2 A) : ∀ (t : StI) (tL : StL) (res : Int32), Mo_isEncrypted F t tL = some res → Go p l e rm_Mo_isEncrypted s m args below meth c g A2 A 1 (MQ below (RI res A) args s 0 0 A) ((pic_Mo g a_t t tL)) [(0, .ref (a_t 0))] 0 [] := by
  obtain ⟨hx, hb, hr, hml, hown, htb, hlocks, hA, hAA, hG⟩ := id hC
  have hK := hG.1
  intro t tL res h H locs ls hP hD hS hl
  rw [Mo_isEncrypted] at h
  refine lv_aload_n hx hb d_Mo_isEncrypted_0 rfl (lv_at hl 0 rfl) ?_
  refine va_get (D := gD g) (ci := 8) (v := .int (t 18 0)) (C := R_Mo) (T := T_Mo) (N := 64) hx hb htb in_Mo hown hK hP 0 rfl rfl 18 (by decide) (htb _ L_Mo_196) (fun _ h9 => h9) rfl d_Mo_isEncrypted_1 ?_
  refine lv_aload_n hx hb d_Mo_isEncrypted_4 rfl (lv_at hl 0 rfl) ?_
  refine va_get (D := gD g) (ci := 8) (v := .int (t 17 0)) (C := R_Mo) (T := T_Mo) (N := 64) hx hb htb in_Mo hown hK hP 0 rfl rfl 17 (by decide) (htb _ L_Mo_193) (fun _ h9 => h9) rfl d_Mo_isEncrypted_5 ?_
  refine lv_isub hx hb d_Mo_isEncrypted_8 ?_
  refine lv_bipush (v := 9) hx hb d_Mo_isEncrypted_9 (by decide) ?_
  refine lv_icmp_ne (tgt := 56) hx hb d_Mo_isEncrypted_11 (by decide) (fun c6 => ?_) (fun c6 => ?_)
  · replace h := (if_neg c6).symm.trans h
    refine lv_iconst (v := 0) hx hb d_Mo_isEncrypted_56 (by decide) ?_
    cases h
    exact W.zret hx hb hr rfl (fun t ht hW => ⟨⟨_, (), rfl, rfl, trivial⟩, hS.F ht⟩) hS.2.2 d_Mo_isEncrypted_57
  · replace h := (if_pos c6).symm.trans h
    refine lv_aload_n hx hb d_Mo_isEncrypted_14 rfl (lv_at hl 0 rfl) ?_
    refine lv_aload_n hx hb d_Mo_isEncrypted_15 rfl (lv_at hl 0 rfl) ?_
    refine va_get (D := gD g) (ci := 8) (v := .int (t 17 0)) (C := R_Mo) (T := T_Mo) (N := 64) hx hb htb in_Mo hown hK hP 0 rfl rfl 17 (by decide) (htb _ L_Mo_193) (fun _ h9 => h9) rfl d_Mo_isEncrypted_16 ?_
    refine lv_aload_n hx hb d_Mo_isEncrypted_19 rfl (lv_at hl 0 rfl) ?_
    refine va_get (D := gD g) (ci := 8) (v := .int (t 17 0)) (C := R_Mo) (T := T_Mo) (N := 64) hx hb htb in_Mo hown hK hP 0 rfl rfl 17 (by decide) (htb _ L_Mo_193) (fun _ h9 => h9) rfl d_Mo_isEncrypted_20 ?_
    refine lv_bipush (v := 8) hx hb d_Mo_isEncrypted_23 (by decide) ?_
    refine lv_iadd hx hb d_Mo_isEncrypted_25 ?_
    refine lv_ldc2 (v := 7308888588583728229) hx hb hown (htb _ K_Mo_297) d_Mo_isEncrypted_26 ?_
    refine lv_bipush (v := 8) hx hb d_Mo_isEncrypted_29 (by decide) ?_
    obtain ⟨r7, hr7, h⟩ := Option.bind_eq_some_iff.mp h
    refine cl_Ir hP hS hA (va_runV (As := [.int (t 17 0), .int ((t 17 0) + (8 : Int32)), .long (7308888588583728229 : Int64), .int (8 : Int32)]) (rest := []) ⟨hx, hb, hml, hown, htb⟩ (c_Mo_isText l g F a_t t tL (t 17 0) ((t 17 0) + (8 : Int32)) (7308888588583728229 : Int64) (8 : Int32) _ hr7 H.size) (cw_V htb mb_Mo_isText (htb _ L_Mo_175) rfl rfl ⟨Nat.le_of_ble_eq_true rfl, Nat.le_of_ble_eq_true rfl⟩) (pre_V (va_recv hK hP (ci := 8) (q0 := 0) rfl rfl) (pre_S [0, 1, 2, 3, 4, 5, 6, 7, 8, 9, 10, 11, 12, 13, 14, 15, 16, 17, 18, 19, 20, 21, 22, 23, 24, 25, 26, 27, 28, 29, 30, 31, 32] rfl rfl hP hD hS hA hAA hG)) rfl rfl hl.1 rfl (lv_room (Nat.le_of_ble_eq_true rfl)) d_Mo_isEncrypted_31 ⟨Nat.zero_le _, Nat.zero_le _⟩) (fun H locs hP hS => ?_)
    refine lv_if_eq (tgt := 56) hx hb d_Mo_isEncrypted_34 (by decide) (fun c8 => ?_) (fun c8 => ?_)
    · replace h := (if_pos c8).symm.trans h
      refine lv_iconst (v := 0) hx hb d_Mo_isEncrypted_56 (by decide) ?_
      cases h
      exact W.zret hx hb hr rfl (fun t ht hW => ⟨⟨_, (), rfl, rfl, trivial⟩, hS.F ht⟩) hS.2.2 d_Mo_isEncrypted_57
    · replace h := (if_neg c8).symm.trans h
      refine lv_aload_n hx hb d_Mo_isEncrypted_37 rfl (lv_at hl 0 rfl) ?_
      refine lv_aload_n hx hb d_Mo_isEncrypted_38 rfl (lv_at hl 0 rfl) ?_
      refine va_get (D := gD g) (ci := 8) (v := .int (t 18 0)) (C := R_Mo) (T := T_Mo) (N := 64) hx hb htb in_Mo hown hK hP 0 rfl rfl 18 (by decide) (htb _ L_Mo_196) (fun _ h9 => h9) rfl d_Mo_isEncrypted_39 ?_
      refine lv_iconst (v := 1) hx hb d_Mo_isEncrypted_42 (by decide) ?_
      refine lv_isub hx hb d_Mo_isEncrypted_43 ?_
      obtain ⟨r9, hr9, h⟩ := Option.bind_eq_some_iff.mp h
      refine cl_Ir hP hS hA (va_runV (As := [.int ((t 18 0) - (1 : Int32))]) (rest := []) ⟨hx, hb, hml, hown, htb⟩ (c_Mo_see l g F a_t t tL ((t 18 0) - (1 : Int32)) _ hr9 H.size) (cw_V htb mb_Mo_see (htb _ L_Mo_160) rfl rfl ⟨Nat.le_of_ble_eq_true rfl, Nat.le_of_ble_eq_true rfl⟩) (pre_V (va_recv hK hP (ci := 8) (q0 := 0) rfl rfl) (pre_S [0, 1, 2, 3, 4, 5, 6, 7, 8, 9, 10, 11, 12, 13, 14, 15, 16, 17, 18, 19, 20, 21, 22, 23, 24, 25, 26, 27, 28, 29, 30, 31, 32] rfl rfl hP hD hS hA hAA hG)) rfl rfl hl.1 rfl (lv_room (Nat.le_of_ble_eq_true rfl)) d_Mo_isEncrypted_44 ⟨Nat.zero_le _, Nat.zero_le _⟩) (fun H locs hP hS => ?_)
      refine lv_bipush (v := 100) hx hb d_Mo_isEncrypted_47 (by decide) ?_
      refine lv_icmp_ne (tgt := 56) hx hb d_Mo_isEncrypted_49 (by decide) (fun c10 => ?_) (fun c10 => ?_)
      · replace h := (if_neg c10).symm.trans h
        refine lv_iconst (v := 0) hx hb d_Mo_isEncrypted_56 (by decide) ?_
        cases h
        exact W.zret hx hb hr rfl (fun t ht hW => ⟨⟨_, (), rfl, rfl, trivial⟩, hS.F ht⟩) hS.2.2 d_Mo_isEncrypted_57
      · replace h := (if_pos c10).symm.trans h
        refine lv_iconst (v := 1) hx hb d_Mo_isEncrypted_52 (by decide) ?_
        refine lv_goto (tgt := 57) hx hb d_Mo_isEncrypted_53 (by decide) ?_
        cases h
        exact W.zret hx hb hr rfl (fun t ht hW => ⟨⟨_, (), rfl, rfl, trivial⟩, hS.F ht⟩) hS.2.2 d_Mo_isEncrypted_57
theorem c_Mo_isEncrypted (l : Launch) (g : Gz) (F : Nat) (a_t : Nat → Nat) (t : StI) (tL : StL) (res : Int32) (h : Mo_isEncrypted F t tL = some res) : ∀ sz : Nat, Met l y_Mo_isEncrypted (.code y_Mo_isEncrypted prog_10_method_31_code 1 (some .boolean) :: TBL) rm_Mo_isEncrypted (va_Pc [.ref (a_t 0)] (Pre0 g ((pic_Mo g a_t t tL)) sz)) (RI res (fun q => sz ≤ q)) 0 0 (fun q => sz ≤ q) :=
  ct_r (Qc := fun A => RI res A) (by decide) (Nat.le_of_ble_eq_true rfl) (fun p e s m args below meth c A2 A hC => k_Mo_isEncrypted hC t tL res h)
def Mo_isRight (F : Nat) (t : StI) (tL : StL) : Option (Int32 × StI × StL) := letS (va_up t 58 (fun _ => (0 : Int32))) fun t_23 => letS (va_up t_23 59 (fun _ => (0 : Int32))) fun t_24 => if (t_24 16 0) = (5 : Int32) then if (t_24 19 0) = 0 then (Mo_isTag F t_24 tL (t_24 17 0) (t_24 18 0)).bind fun r43 => if r43 = 0 then some ((0 : Int32), t_24, tL) else some ((1 : Int32), t_24, tL) else some ((0 : Int32), t_24, tL) else if (t_24 16 0) = (10 : Int32) then if (t_24 19 0) = 0 then (Mo_isText F t_24 tL (t_24 17 0) (t_24 18 0) (129117226099044 : Int64) (6 : Int32)).bind fun r34 => if r34 = 0 then (Mo_isText F t_24 tL (t_24 17 0) (t_24 18 0) (28829613226943844 : Int64) (7 : Int32)).bind fun r36 => if r36 = 0 then (Mo_isText F t_24 tL (t_24 17 0) (t_24 18 0) (32199680874603876 : Int64) (7 : Int32)).bind fun r38 => if r38 = 0 then (Mo_isEncrypted F t_24 tL).bind fun r40 => if r40 = 0 then some ((0 : Int32), t_24, tL) else some ((1 : Int32), t_24, tL) else some ((1 : Int32), t_24, tL) else some ((1 : Int32), t_24, tL) else some ((1 : Int32), t_24, tL) else some ((0 : Int32), t_24, tL) else if (11 : Int32) ≤ (t_24 16 0) then if (t_24 19 0) = 0 then (Mo_isRange F t_24 tL (t_24 16 0) (t_24 17 0) (t_24 18 0)).bind fun r29 => if r29.1 = 0 then some ((0 : Int32), r29.2.1, r29.2.2) else some ((1 : Int32), r29.2.1, r29.2.2) else some ((0 : Int32), t_24, tL) else (Mo_star F t_24 tL).bind fun r31 => if r31 = (-2 : Int32) then some ((0 : Int32), t_24, tL) else some ((1 : Int32), t_24, tL)
set_option maxHeartbeats 4000000 in
set_option maxRecDepth 100000 in
theorem k_Mo_isRight {p : Program} {l : Launch} {e : Env} {s : State} {m : MethodId} {args : Array Value} {below : List Frame} {meth : Method} {c : Code} {g : Gz} {A : Nat → Prop} {F : Nat} {a_t : Nat → Nat} (hC : Cx prog_10_method_30_code 1 (some .boolean) R_Mo p s m args meth c g A A) : ∀ (t : StI) (tL : StL) (res : Int32 × StI × StL), Mo_isRight F t tL = some res → Go p l e rm_Mo_isRight s m args below meth c g A A 1 (MQ below (EI g ((pic_Mo g a_t res.2.1 res.2.2)) res.1 A) args s 0 0 A) ((pic_Mo g a_t t tL)) [(0, .ref (a_t 0))] 0 [] := by
  obtain ⟨hx, hb, hr, hml, hown, htb, hlocks, hA, hAA, hG⟩ := id hC
  have hK := hG.1
  intro t tL res h H locs ls hP hD hS hl
  rw [Mo_isRight] at h
  refine lv_aload_n hx hb d_Mo_isRight_0 rfl (lv_at hl 0 rfl) ?_
  refine lv_iconst (v := 0) hx hb d_Mo_isRight_1 (by decide) ?_
  refine va_put (D := gD g) (ci := 8) (v := .int (0 : Int32)) (ty := .int) (C := R_Mo) (T := T_Mo) (N := 64) hx hb htb in_Mo ty_Mo ty_Mo_ok nm_Mo hown hK hP hD hS 0 rfl rfl 58 (by decide) (htb _ L_Mo_270) (fun _ h9 => h9) rfl (by decide +kernel) rfl rfl (Nat.le_of_ble_eq_true rfl) d_Mo_isRight_2 (fun H locs hP hD hS => ?_)
  obtain ⟨t_23, et_23, h⟩ := letS_el h
  have hP : va_P (gD g) vwCl ((pic_Mo g a_t t_23 tL)) H := by rw [et_23]; exact hP
  have hD : va_D A ((pic_Mo g a_t t_23 tL)) := by rw [et_23]; exact hD
  refine lv_aload_n hx hb d_Mo_isRight_5 rfl (lv_at hl 0 rfl) ?_
  refine lv_iconst (v := 0) hx hb d_Mo_isRight_6 (by decide) ?_
  refine va_put (D := gD g) (ci := 8) (v := .int (0 : Int32)) (ty := .int) (C := R_Mo) (T := T_Mo) (N := 64) hx hb htb in_Mo ty_Mo ty_Mo_ok nm_Mo hown hK hP hD hS 0 rfl rfl 59 (by decide) (htb _ L_Mo_273) (fun _ h9 => h9) rfl (by decide +kernel) rfl rfl (Nat.le_of_ble_eq_true rfl) d_Mo_isRight_7 (fun H locs hP hD hS => ?_)
  obtain ⟨t_24, et_24, h⟩ := letS_el h
  have hP : va_P (gD g) vwCl ((pic_Mo g a_t t_24 tL)) H := by rw [et_24]; exact hP
  have hD : va_D A ((pic_Mo g a_t t_24 tL)) := by rw [et_24]; exact hD
  refine lv_aload_n hx hb d_Mo_isRight_10 rfl (lv_at hl 0 rfl) ?_
  refine va_get (D := gD g) (ci := 8) (v := .int (t_24 16 0)) (C := R_Mo) (T := T_Mo) (N := 64) hx hb htb in_Mo hown hK hP 0 rfl rfl 16 (by decide) (htb _ L_Mo_214) (fun _ h9 => h9) rfl d_Mo_isRight_11 ?_
  refine lv_iconst (v := 5) hx hb d_Mo_isRight_14 (by decide) ?_
  refine lv_icmp_ne (tgt := 46) hx hb d_Mo_isRight_15 (by decide) (fun c25 => ?_) (fun c25 => ?_)
  · replace h := (if_neg c25).symm.trans h
    refine lv_aload_n hx hb d_Mo_isRight_46 rfl (lv_at hl 0 rfl) ?_
    refine va_get (D := gD g) (ci := 8) (v := .int (t_24 16 0)) (C := R_Mo) (T := T_Mo) (N := 64) hx hb htb in_Mo hown hK hP 0 rfl rfl 16 (by decide) (htb _ L_Mo_214) (fun _ h9 => h9) rfl d_Mo_isRight_47 ?_
    refine lv_bipush (v := 10) hx hb d_Mo_isRight_50 (by decide) ?_
    refine lv_icmp_ne (tgt := 135) hx hb d_Mo_isRight_52 (by decide) (fun c26 => ?_) (fun c26 => ?_)
    · replace h := (if_neg c26).symm.trans h
      refine lv_aload_n hx hb d_Mo_isRight_135 rfl (lv_at hl 0 rfl) ?_
      refine va_get (D := gD g) (ci := 8) (v := .int (t_24 16 0)) (C := R_Mo) (T := T_Mo) (N := 64) hx hb htb in_Mo hown hK hP 0 rfl rfl 16 (by decide) (htb _ L_Mo_214) (fun _ h9 => h9) rfl d_Mo_isRight_136 ?_
      refine lv_bipush (v := 11) hx hb d_Mo_isRight_139 (by decide) ?_
      refine lv_icmp_ge (tgt := 161) hx hb d_Mo_isRight_141 (by decide) (fun c27 => ?_) (fun c27 => ?_)
      · replace h := (if_pos c27).symm.trans h
        refine lv_aload_n hx hb d_Mo_isRight_161 rfl (lv_at hl 0 rfl) ?_
        refine va_get (D := gD g) (ci := 8) (v := .int (t_24 19 0)) (C := R_Mo) (T := T_Mo) (N := 64) hx hb htb in_Mo hown hK hP 0 rfl rfl 19 (by decide) (htb _ L_Mo_189) (fun _ h9 => h9) rfl d_Mo_isRight_162 ?_
        refine lv_if_ne (tgt := 191) hx hb d_Mo_isRight_165 (by decide) (fun c28 => ?_) (fun c28 => ?_)
        · replace h := (if_neg c28).symm.trans h
          refine lv_iconst (v := 0) hx hb d_Mo_isRight_191 (by decide) ?_
          cases h
          exact W.zret hx hb hr rfl (fun t ht hW => ⟨⟨_, (), rfl, rfl, by rw [ht]; exact hP, hD⟩, hS.F ht⟩) hS.2.2 d_Mo_isRight_192
        · replace h := (if_pos c28).symm.trans h
          refine lv_aload_n hx hb d_Mo_isRight_168 rfl (lv_at hl 0 rfl) ?_
          refine lv_aload_n hx hb d_Mo_isRight_169 rfl (lv_at hl 0 rfl) ?_
          refine va_get (D := gD g) (ci := 8) (v := .int (t_24 16 0)) (C := R_Mo) (T := T_Mo) (N := 64) hx hb htb in_Mo hown hK hP 0 rfl rfl 16 (by decide) (htb _ L_Mo_214) (fun _ h9 => h9) rfl d_Mo_isRight_170 ?_
          refine lv_aload_n hx hb d_Mo_isRight_173 rfl (lv_at hl 0 rfl) ?_
          refine va_get (D := gD g) (ci := 8) (v := .int (t_24 17 0)) (C := R_Mo) (T := T_Mo) (N := 64) hx hb htb in_Mo hown hK hP 0 rfl rfl 17 (by decide) (htb _ L_Mo_193) (fun _ h9 => h9) rfl d_Mo_isRight_174 ?_
          refine lv_aload_n hx hb d_Mo_isRight_177 rfl (lv_at hl 0 rfl) ?_
          refine va_get (D := gD g) (ci := 8) (v := .int (t_24 18 0)) (C := R_Mo) (T := T_Mo) (N := 64) hx hb htb in_Mo hown hK hP 0 rfl rfl 18 (by decide) (htb _ L_Mo_196) (fun _ h9 => h9) rfl d_Mo_isRight_178 ?_
          obtain ⟨r29, hr29, h⟩ := Option.bind_eq_some_iff.mp h
          refine cl_I (wr := []) [0, 1, 2, 3, 4, 5, 6, 7, 8, 9, 10, 11, 12, 13, 14, 15, 16, 17, 18, 19, 20, 21, 22, 23, 24, 25, 26, 27, 28, 29, 30, 31, 32] [] rfl rfl rfl (by decide) hP hD hS hA (va_runV (As := [.int (t_24 16 0), .int (t_24 17 0), .int (t_24 18 0)]) (rest := []) ⟨hx, hb, hml, hown, htb⟩ (c_Mo_isRange l g F a_t t_24 tL (t_24 16 0) (t_24 17 0) (t_24 18 0) _ hr29 H.size) (cw_V htb mb_Mo_isRange (htb _ L_Mo_294) rfl rfl ⟨Nat.le_of_ble_eq_true rfl, Nat.le_of_ble_eq_true rfl⟩) (pre_V (va_recv hK hP (ci := 8) (q0 := 0) rfl rfl) (pre_S [0, 1, 2, 3, 4, 5, 6, 7, 8, 9, 10, 11, 12, 13, 14, 15, 16, 17, 18, 19, 20, 21, 22, 23, 24, 25, 26, 27, 28, 29, 30, 31, 32] rfl rfl hP hD hS hA hAA hG)) rfl rfl hl.1 rfl (lv_room (Nat.le_of_ble_eq_true rfl)) d_Mo_isRight_181 ⟨Nat.zero_le _, Nat.zero_le _⟩) (fun H locs hP hD hS => ?_)
          have hP : va_P (gD g) vwCl ((pic_Mo g a_t r29.2.1 r29.2.2)) H := hP.sub [0, 1, 2, 3, 4, 5, 6, 7, 8, 9, 10, 11, 12, 13, 14, 15, 16, 17, 18, 19, 20, 21, 22, 23, 24, 25, 26, 27, 28, 29, 30, 31, 32] rfl
          have hD : va_D A ((pic_Mo g a_t r29.2.1 r29.2.2)) := hD.sub [0, 1, 2, 3, 4, 5, 6, 7, 8, 9, 10, 11, 12, 13, 14, 15, 16, 17, 18, 19, 20, 21, 22, 23, 24, 25, 26, 27, 28, 29, 30, 31, 32] rfl rfl
          refine lv_if_eq (tgt := 191) hx hb d_Mo_isRight_184 (by decide) (fun c30 => ?_) (fun c30 => ?_)
          · replace h := (if_pos c30).symm.trans h
            refine lv_iconst (v := 0) hx hb d_Mo_isRight_191 (by decide) ?_
            cases h
            exact W.zret hx hb hr rfl (fun t ht hW => ⟨⟨_, (), rfl, rfl, by rw [ht]; exact hP, hD⟩, hS.F ht⟩) hS.2.2 d_Mo_isRight_192
          · replace h := (if_neg c30).symm.trans h
            refine lv_iconst (v := 1) hx hb d_Mo_isRight_187 (by decide) ?_
            refine lv_goto (tgt := 192) hx hb d_Mo_isRight_188 (by decide) ?_
            cases h
            exact W.zret hx hb hr rfl (fun t ht hW => ⟨⟨_, (), rfl, rfl, by rw [ht]; exact hP, hD⟩, hS.F ht⟩) hS.2.2 d_Mo_isRight_192
      · replace h := (if_neg c27).symm.trans h
        refine lv_aload_n hx hb d_Mo_isRight_144 rfl (lv_at hl 0 rfl) ?_
        obtain ⟨r31, hr31, h⟩ := Option.bind_eq_some_iff.mp h
        refine cl_Ir hP hS hA (va_runV (As := []) (rest := []) ⟨hx, hb, hml, hown, htb⟩ (c_Mo_star l g F a_t t_24 tL _ hr31 H.size) (cw_V htb mb_Mo_star (htb _ L_Mo_290) rfl rfl ⟨Nat.le_of_ble_eq_true rfl, Nat.le_of_ble_eq_true rfl⟩) (pre_V (va_recv hK hP (ci := 8) (q0 := 0) rfl rfl) (pre_S [0, 1, 2, 3, 4, 5, 6, 7, 8, 9, 10, 11, 12, 13, 14, 15, 16, 17, 18, 19, 20, 21, 22, 23, 24, 25, 26, 27, 28, 29, 30, 31, 32] rfl rfl hP hD hS hA hAA hG)) rfl rfl hl.1 rfl (lv_room (Nat.le_of_ble_eq_true rfl)) d_Mo_isRight_145 ⟨Nat.zero_le _, Nat.zero_le _⟩) (fun H locs hP hS => ?_)
        refine lv_bipush (v := -2) hx hb d_Mo_isRight_148 (by decide) ?_
        refine lv_icmp_eq (tgt := 157) hx hb d_Mo_isRight_150 (by decide) (fun c32 => ?_) (fun c32 => ?_)
        · replace h := (if_pos c32).symm.trans h
          refine lv_iconst (v := 0) hx hb d_Mo_isRight_157 (by decide) ?_
          refine lv_goto (tgt := 192) hx hb d_Mo_isRight_158 (by decide) ?_
          cases h
          exact W.zret hx hb hr rfl (fun t ht hW => ⟨⟨_, (), rfl, rfl, by rw [ht]; exact hP, hD⟩, hS.F ht⟩) hS.2.2 d_Mo_isRight_192
        · replace h := (if_neg c32).symm.trans h
          refine lv_iconst (v := 1) hx hb d_Mo_isRight_153 (by decide) ?_
          refine lv_goto (tgt := 192) hx hb d_Mo_isRight_154 (by decide) ?_
          cases h
          exact W.zret hx hb hr rfl (fun t ht hW => ⟨⟨_, (), rfl, rfl, by rw [ht]; exact hP, hD⟩, hS.F ht⟩) hS.2.2 d_Mo_isRight_192
    · replace h := (if_pos c26).symm.trans h
      refine lv_aload_n hx hb d_Mo_isRight_55 rfl (lv_at hl 0 rfl) ?_
      refine va_get (D := gD g) (ci := 8) (v := .int (t_24 19 0)) (C := R_Mo) (T := T_Mo) (N := 64) hx hb htb in_Mo hown hK hP 0 rfl rfl 19 (by decide) (htb _ L_Mo_189) (fun _ h9 => h9) rfl d_Mo_isRight_56 ?_
      refine lv_if_ne (tgt := 133) hx hb d_Mo_isRight_59 (by decide) (fun c33 => ?_) (fun c33 => ?_)
      · replace h := (if_neg c33).symm.trans h
        refine lv_iconst (v := 0) hx hb d_Mo_isRight_133 (by decide) ?_
        cases h
        exact W.zret hx hb hr rfl (fun t ht hW => ⟨⟨_, (), rfl, rfl, by rw [ht]; exact hP, hD⟩, hS.F ht⟩) hS.2.2 d_Mo_isRight_134
      · replace h := (if_pos c33).symm.trans h
        refine lv_aload_n hx hb d_Mo_isRight_62 rfl (lv_at hl 0 rfl) ?_
        refine lv_aload_n hx hb d_Mo_isRight_63 rfl (lv_at hl 0 rfl) ?_
        refine va_get (D := gD g) (ci := 8) (v := .int (t_24 17 0)) (C := R_Mo) (T := T_Mo) (N := 64) hx hb htb in_Mo hown hK hP 0 rfl rfl 17 (by decide) (htb _ L_Mo_193) (fun _ h9 => h9) rfl d_Mo_isRight_64 ?_
        refine lv_aload_n hx hb d_Mo_isRight_67 rfl (lv_at hl 0 rfl) ?_
        refine va_get (D := gD g) (ci := 8) (v := .int (t_24 18 0)) (C := R_Mo) (T := T_Mo) (N := 64) hx hb htb in_Mo hown hK hP 0 rfl rfl 18 (by decide) (htb _ L_Mo_196) (fun _ h9 => h9) rfl d_Mo_isRight_68 ?_
        refine lv_ldc2 (v := 129117226099044) hx hb hown (htb _ K_Mo_280) d_Mo_isRight_71 ?_
        refine lv_bipush (v := 6) hx hb d_Mo_isRight_74 (by decide) ?_
        obtain ⟨r34, hr34, h⟩ := Option.bind_eq_some_iff.mp h
        refine cl_Ir hP hS hA (va_runV (As := [.int (t_24 17 0), .int (t_24 18 0), .long (129117226099044 : Int64), .int (6 : Int32)]) (rest := []) ⟨hx, hb, hml, hown, htb⟩ (c_Mo_isText l g F a_t t_24 tL (t_24 17 0) (t_24 18 0) (129117226099044 : Int64) (6 : Int32) _ hr34 H.size) (cw_V htb mb_Mo_isText (htb _ L_Mo_175) rfl rfl ⟨Nat.le_of_ble_eq_true rfl, Nat.le_of_ble_eq_true rfl⟩) (pre_V (va_recv hK hP (ci := 8) (q0 := 0) rfl rfl) (pre_S [0, 1, 2, 3, 4, 5, 6, 7, 8, 9, 10, 11, 12, 13, 14, 15, 16, 17, 18, 19, 20, 21, 22, 23, 24, 25, 26, 27, 28, 29, 30, 31, 32] rfl rfl hP hD hS hA hAA hG)) rfl rfl hl.1 rfl (lv_room (Nat.le_of_ble_eq_true rfl)) d_Mo_isRight_76 ⟨Nat.zero_le _, Nat.zero_le _⟩) (fun H locs hP hS => ?_)
        refine lv_if_ne (tgt := 129) hx hb d_Mo_isRight_79 (by decide) (fun c35 => ?_) (fun c35 => ?_)
        · replace h := (if_neg c35).symm.trans h
          refine lv_iconst (v := 1) hx hb d_Mo_isRight_129 (by decide) ?_
          refine lv_goto (tgt := 134) hx hb d_Mo_isRight_130 (by decide) ?_
          cases h
          exact W.zret hx hb hr rfl (fun t ht hW => ⟨⟨_, (), rfl, rfl, by rw [ht]; exact hP, hD⟩, hS.F ht⟩) hS.2.2 d_Mo_isRight_134
        · replace h := (if_pos c35).symm.trans h
          refine lv_aload_n hx hb d_Mo_isRight_82 rfl (lv_at hl 0 rfl) ?_
          refine lv_aload_n hx hb d_Mo_isRight_83 rfl (lv_at hl 0 rfl) ?_
          refine va_get (D := gD g) (ci := 8) (v := .int (t_24 17 0)) (C := R_Mo) (T := T_Mo) (N := 64) hx hb htb in_Mo hown hK hP 0 rfl rfl 17 (by decide) (htb _ L_Mo_193) (fun _ h9 => h9) rfl d_Mo_isRight_84 ?_
          refine lv_aload_n hx hb d_Mo_isRight_87 rfl (lv_at hl 0 rfl) ?_
          refine va_get (D := gD g) (ci := 8) (v := .int (t_24 18 0)) (C := R_Mo) (T := T_Mo) (N := 64) hx hb htb in_Mo hown hK hP 0 rfl rfl 18 (by decide) (htb _ L_Mo_196) (fun _ h9 => h9) rfl d_Mo_isRight_88 ?_
          refine lv_ldc2 (v := 28829613226943844) hx hb hown (htb _ K_Mo_282) d_Mo_isRight_91 ?_
          refine lv_bipush (v := 7) hx hb d_Mo_isRight_94 (by decide) ?_
          obtain ⟨r36, hr36, h⟩ := Option.bind_eq_some_iff.mp h
          refine cl_Ir hP hS hA (va_runV (As := [.int (t_24 17 0), .int (t_24 18 0), .long (28829613226943844 : Int64), .int (7 : Int32)]) (rest := []) ⟨hx, hb, hml, hown, htb⟩ (c_Mo_isText l g F a_t t_24 tL (t_24 17 0) (t_24 18 0) (28829613226943844 : Int64) (7 : Int32) _ hr36 H.size) (cw_V htb mb_Mo_isText (htb _ L_Mo_175) rfl rfl ⟨Nat.le_of_ble_eq_true rfl, Nat.le_of_ble_eq_true rfl⟩) (pre_V (va_recv hK hP (ci := 8) (q0 := 0) rfl rfl) (pre_S [0, 1, 2, 3, 4, 5, 6, 7, 8, 9, 10, 11, 12, 13, 14, 15, 16, 17, 18, 19, 20, 21, 22, 23, 24, 25, 26, 27, 28, 29, 30, 31, 32] rfl rfl hP hD hS hA hAA hG)) rfl rfl hl.1 rfl (lv_room (Nat.le_of_ble_eq_true rfl)) d_Mo_isRight_96 ⟨Nat.zero_le _, Nat.zero_le _⟩) (fun H locs hP hS => ?_)
          refine lv_if_ne (tgt := 129) hx hb d_Mo_isRight_99 (by decide) (fun c37 => ?_) (fun c37 => ?_)
          · replace h := (if_neg c37).symm.trans h
            refine lv_iconst (v := 1) hx hb d_Mo_isRight_129 (by decide) ?_
            refine lv_goto (tgt := 134) hx hb d_Mo_isRight_130 (by decide) ?_
            cases h
            exact W.zret hx hb hr rfl (fun t ht hW => ⟨⟨_, (), rfl, rfl, by rw [ht]; exact hP, hD⟩, hS.F ht⟩) hS.2.2 d_Mo_isRight_134
          · replace h := (if_pos c37).symm.trans h
            refine lv_aload_n hx hb d_Mo_isRight_102 rfl (lv_at hl 0 rfl) ?_
            refine lv_aload_n hx hb d_Mo_isRight_103 rfl (lv_at hl 0 rfl) ?_
            refine va_get (D := gD g) (ci := 8) (v := .int (t_24 17 0)) (C := R_Mo) (T := T_Mo) (N := 64) hx hb htb in_Mo hown hK hP 0 rfl rfl 17 (by decide) (htb _ L_Mo_193) (fun _ h9 => h9) rfl d_Mo_isRight_104 ?_
            refine lv_aload_n hx hb d_Mo_isRight_107 rfl (lv_at hl 0 rfl) ?_
            refine va_get (D := gD g) (ci := 8) (v := .int (t_24 18 0)) (C := R_Mo) (T := T_Mo) (N := 64) hx hb htb in_Mo hown hK hP 0 rfl rfl 18 (by decide) (htb _ L_Mo_196) (fun _ h9 => h9) rfl d_Mo_isRight_108 ?_
            refine lv_ldc2 (v := 32199680874603876) hx hb hown (htb _ K_Mo_284) d_Mo_isRight_111 ?_
            refine lv_bipush (v := 7) hx hb d_Mo_isRight_114 (by decide) ?_
            obtain ⟨r38, hr38, h⟩ := Option.bind_eq_some_iff.mp h
            refine cl_Ir hP hS hA (va_runV (As := [.int (t_24 17 0), .int (t_24 18 0), .long (32199680874603876 : Int64), .int (7 : Int32)]) (rest := []) ⟨hx, hb, hml, hown, htb⟩ (c_Mo_isText l g F a_t t_24 tL (t_24 17 0) (t_24 18 0) (32199680874603876 : Int64) (7 : Int32) _ hr38 H.size) (cw_V htb mb_Mo_isText (htb _ L_Mo_175) rfl rfl ⟨Nat.le_of_ble_eq_true rfl, Nat.le_of_ble_eq_true rfl⟩) (pre_V (va_recv hK hP (ci := 8) (q0 := 0) rfl rfl) (pre_S [0, 1, 2, 3, 4, 5, 6, 7, 8, 9, 10, 11, 12, 13, 14, 15, 16, 17, 18, 19, 20, 21, 22, 23, 24, 25, 26, 27, 28, 29, 30, 31, 32] rfl rfl hP hD hS hA hAA hG)) rfl rfl hl.1 rfl (lv_room (Nat.le_of_ble_eq_true rfl)) d_Mo_isRight_116 ⟨Nat.zero_le _, Nat.zero_le _⟩) (fun H locs hP hS => ?_)
            refine lv_if_ne (tgt := 129) hx hb d_Mo_isRight_119 (by decide) (fun c39 => ?_) (fun c39 => ?_)
            · replace h := (if_neg c39).symm.trans h
              refine lv_iconst (v := 1) hx hb d_Mo_isRight_129 (by decide) ?_
              refine lv_goto (tgt := 134) hx hb d_Mo_isRight_130 (by decide) ?_
              cases h
              exact W.zret hx hb hr rfl (fun t ht hW => ⟨⟨_, (), rfl, rfl, by rw [ht]; exact hP, hD⟩, hS.F ht⟩) hS.2.2 d_Mo_isRight_134
            · replace h := (if_pos c39).symm.trans h
              refine lv_aload_n hx hb d_Mo_isRight_122 rfl (lv_at hl 0 rfl) ?_
              obtain ⟨r40, hr40, h⟩ := Option.bind_eq_some_iff.mp h
              refine cl_Ir hP hS hA (va_runV (As := []) (rest := []) ⟨hx, hb, hml, hown, htb⟩ (c_Mo_isEncrypted l g F a_t t_24 tL _ hr40 H.size) (cw_V htb mb_Mo_isEncrypted (htb _ L_Mo_286) rfl rfl ⟨Nat.le_of_ble_eq_true rfl, Nat.le_of_ble_eq_true rfl⟩) (pre_V (va_recv hK hP (ci := 8) (q0 := 0) rfl rfl) (pre_S [0, 1, 2, 3, 4, 5, 6, 7, 8, 9, 10, 11, 12, 13, 14, 15, 16, 17, 18, 19, 20, 21, 22, 23, 24, 25, 26, 27, 28, 29, 30, 31, 32] rfl rfl hP hD hS hA hAA hG)) rfl rfl hl.1 rfl (lv_room (Nat.le_of_ble_eq_true rfl)) d_Mo_isRight_123 ⟨Nat.zero_le _, Nat.zero_le _⟩) (fun H locs hP hS => ?_)
              refine lv_if_eq (tgt := 133) hx hb d_Mo_isRight_126 (by decide) (fun c41 => ?_) (fun c41 => ?_)
              · replace h := (if_pos c41).symm.trans h
                refine lv_iconst (v := 0) hx hb d_Mo_isRight_133 (by decide) ?_
                cases h
                exact W.zret hx hb hr rfl (fun t ht hW => ⟨⟨_, (), rfl, rfl, by rw [ht]; exact hP, hD⟩, hS.F ht⟩) hS.2.2 d_Mo_isRight_134
              · replace h := (if_neg c41).symm.trans h
                refine lv_iconst (v := 1) hx hb d_Mo_isRight_129 (by decide) ?_
                refine lv_goto (tgt := 134) hx hb d_Mo_isRight_130 (by decide) ?_
                cases h
                exact W.zret hx hb hr rfl (fun t ht hW => ⟨⟨_, (), rfl, rfl, by rw [ht]; exact hP, hD⟩, hS.F ht⟩) hS.2.2 d_Mo_isRight_134
  · replace h := (if_pos c25).symm.trans h
    refine lv_aload_n hx hb d_Mo_isRight_18 rfl (lv_at hl 0 rfl) ?_
    refine va_get (D := gD g) (ci := 8) (v := .int (t_24 19 0)) (C := R_Mo) (T := T_Mo) (N := 64) hx hb htb in_Mo hown hK hP 0 rfl rfl 19 (by decide) (htb _ L_Mo_189) (fun _ h9 => h9) rfl d_Mo_isRight_19 ?_
    refine lv_if_ne (tgt := 44) hx hb d_Mo_isRight_22 (by decide) (fun c42 => ?_) (fun c42 => ?_)
    · replace h := (if_neg c42).symm.trans h
      refine lv_iconst (v := 0) hx hb d_Mo_isRight_44 (by decide) ?_
      cases h
      exact W.zret hx hb hr rfl (fun t ht hW => ⟨⟨_, (), rfl, rfl, by rw [ht]; exact hP, hD⟩, hS.F ht⟩) hS.2.2 d_Mo_isRight_45
    · replace h := (if_pos c42).symm.trans h
      refine lv_aload_n hx hb d_Mo_isRight_25 rfl (lv_at hl 0 rfl) ?_
      refine lv_aload_n hx hb d_Mo_isRight_26 rfl (lv_at hl 0 rfl) ?_
      refine va_get (D := gD g) (ci := 8) (v := .int (t_24 17 0)) (C := R_Mo) (T := T_Mo) (N := 64) hx hb htb in_Mo hown hK hP 0 rfl rfl 17 (by decide) (htb _ L_Mo_193) (fun _ h9 => h9) rfl d_Mo_isRight_27 ?_
      refine lv_aload_n hx hb d_Mo_isRight_30 rfl (lv_at hl 0 rfl) ?_
      refine va_get (D := gD g) (ci := 8) (v := .int (t_24 18 0)) (C := R_Mo) (T := T_Mo) (N := 64) hx hb htb in_Mo hown hK hP 0 rfl rfl 18 (by decide) (htb _ L_Mo_196) (fun _ h9 => h9) rfl d_Mo_isRight_31 ?_
      obtain ⟨r43, hr43, h⟩ := Option.bind_eq_some_iff.mp h
      refine cl_Ir hP hS hA (va_runV (As := [.int (t_24 17 0), .int (t_24 18 0)]) (rest := []) ⟨hx, hb, hml, hown, htb⟩ (c_Mo_isTag l g F a_t t_24 tL (t_24 17 0) (t_24 18 0) _ hr43 H.size) (cw_V htb mb_Mo_isTag (htb _ L_Mo_277) rfl rfl ⟨Nat.le_of_ble_eq_true rfl, Nat.le_of_ble_eq_true rfl⟩) (pre_V (va_recv hK hP (ci := 8) (q0 := 0) rfl rfl) (pre_S [0, 1, 2, 3, 4, 5, 6, 7, 8, 9, 10, 11, 12, 13, 14, 15, 16, 17, 18, 19, 20, 21, 22, 23, 24, 25, 26, 27, 28, 29, 30, 31, 32] rfl rfl hP hD hS hA hAA hG)) rfl rfl hl.1 rfl (lv_room (Nat.le_of_ble_eq_true rfl)) d_Mo_isRight_34 ⟨Nat.zero_le _, Nat.zero_le _⟩) (fun H locs hP hS => ?_)
      refine lv_if_eq (tgt := 44) hx hb d_Mo_isRight_37 (by decide) (fun c44 => ?_) (fun c44 => ?_)
      · replace h := (if_pos c44).symm.trans h
        refine lv_iconst (v := 0) hx hb d_Mo_isRight_44 (by decide) ?_
        cases h
        exact W.zret hx hb hr rfl (fun t ht hW => ⟨⟨_, (), rfl, rfl, by rw [ht]; exact hP, hD⟩, hS.F ht⟩) hS.2.2 d_Mo_isRight_45
      · replace h := (if_neg c44).symm.trans h
        refine lv_iconst (v := 1) hx hb d_Mo_isRight_40 (by decide) ?_
        refine lv_goto (tgt := 45) hx hb d_Mo_isRight_41 (by decide) ?_
        cases h
        exact W.zret hx hb hr rfl (fun t ht hW => ⟨⟨_, (), rfl, rfl, by rw [ht]; exact hP, hD⟩, hS.F ht⟩) hS.2.2 d_Mo_isRight_45
theorem c_Mo_isRight (l : Launch) (g : Gz) (F : Nat) (a_t : Nat → Nat) (t : StI) (tL : StL) (res : Int32 × StI × StL) (h : Mo_isRight F t tL = some res) : ∀ sz : Nat, Met l y_Mo_isRight (.code y_Mo_isRight prog_10_method_30_code 1 (some .boolean) :: TBL) rm_Mo_isRight (va_Pc [.ref (a_t 0)] (Pre0 g ((pic_Mo g a_t t tL)) sz)) (EI g ((pic_Mo g a_t res.2.1 res.2.2)) res.1 (va_A ((pic_Mo g a_t t tL)) sz)) 0 0 (va_A ((pic_Mo g a_t t tL)) sz) :=
  ct_w (Qc := fun A => EI g ((pic_Mo g a_t res.2.1 res.2.2)) res.1 A) (by decide) (Nat.le_of_ble_eq_true rfl) (fun p e s m args below meth c A hC => k_Mo_isRight hC t tL res h)
def Mo_small (F : Nat) (x0 : Int32) : Option (Int32) := if x0 < (65 : Int32) then some x0 else if (90 : Int32) < x0 then some x0 else some (x0 + (32 : Int32))
set_option maxHeartbeats 4000000 in
set_option maxRecDepth 100000 in
theorem k_Mo_small {p : Program} {l : Launch} {e : Env} {s : State} {m : MethodId} {args : Array Value} {below : List Frame} {meth : Method} {c : Code} {g : Gz} {A2 A : Nat → Prop} {F : Nat} (hC : Cx prog_10_method_32_code 1 (some .int) R_Mo p s m args meth c g A2 A) : ∀ (x0 : Int32) (res : Int32), Mo_small F x0 = some res → Go p l e rm_Mo_small s m args below meth c g A2 A 1 (MQ below (RI res A) args s 0 0 A) ([]) [(0, .int x0)] 0 [] := by
  obtain ⟨hx, hb, hr, hml, hown, htb, hlocks, hA, hAA, hG⟩ := id hC
  have hK := hG.1
  intro x0 res h H locs ls hP hD hS hl
  rw [Mo_small] at h
  refine lv_iload_n hx hb d_Mo_small_0 rfl (lv_at hl 0 rfl) ?_
  refine lv_bipush (v := 65) hx hb d_Mo_small_1 (by decide) ?_
  refine lv_icmp_lt (tgt := 19) hx hb d_Mo_small_3 (by decide) (fun c3 => ?_) (fun c3 => ?_)
  · replace h := (if_pos c3).symm.trans h
    refine lv_iload_n hx hb d_Mo_small_19 rfl (lv_at hl 0 rfl) ?_
    cases h
    exact W.iret hx hb hr (fun t ht hW => ⟨⟨_, (), rfl, rfl, trivial⟩, hS.F ht⟩) hS.2.2 d_Mo_small_20
  · replace h := (if_neg c3).symm.trans h
    refine lv_iload_n hx hb d_Mo_small_6 rfl (lv_at hl 0 rfl) ?_
    refine lv_bipush (v := 90) hx hb d_Mo_small_7 (by decide) ?_
    refine lv_icmp_gt (tgt := 19) hx hb d_Mo_small_9 (by decide) (fun c4 => ?_) (fun c4 => ?_)
    · replace h := (if_pos c4).symm.trans h
      refine lv_iload_n hx hb d_Mo_small_19 rfl (lv_at hl 0 rfl) ?_
      cases h
      exact W.iret hx hb hr (fun t ht hW => ⟨⟨_, (), rfl, rfl, trivial⟩, hS.F ht⟩) hS.2.2 d_Mo_small_20
    · replace h := (if_neg c4).symm.trans h
      refine lv_iload_n hx hb d_Mo_small_12 rfl (lv_at hl 0 rfl) ?_
      refine lv_bipush (v := 32) hx hb d_Mo_small_13 (by decide) ?_
      refine lv_iadd hx hb d_Mo_small_15 ?_
      refine lv_goto (tgt := 20) hx hb d_Mo_small_16 (by decide) ?_
      cases h
      exact W.iret hx hb hr (fun t ht hW => ⟨⟨_, (), rfl, rfl, trivial⟩, hS.F ht⟩) hS.2.2 d_Mo_small_20
theorem c_Mo_small (l : Launch) (g : Gz) (F : Nat) (x0 : Int32) (res : Int32) (h : Mo_small F x0 = some res) : ∀ sz : Nat, Met l y_Mo_small (.code y_Mo_small prog_10_method_32_code 1 (some .int) :: TBL) rm_Mo_small (va_Pc [.int x0] (Pre0 g ([]) sz)) (RI res (fun q => sz ≤ q)) 0 0 (fun q => sz ≤ q) :=
  ct_r (Qc := fun A => RI res A) (by decide) (Nat.le_of_ble_eq_true rfl) (fun p e s m args below meth c A2 A hC => k_Mo_small hC x0 res h)
def Mo_isAlike_102 (F : Nat) (k52 : StI → StL → Int32 → Int32 → Int32 → Option (Int32)) (t : StI) (tL : StL) (x1 : Int32) (x3 : Int32) (y0 : Int32) : Option (Int32) := k52 t tL x1 y0 (x3 + (1 : Int32))
def Mo_isAlike_52 (F : Nat) : Nat → StI → StL → Int32 → Int32 → Int32 → Option (Int32)
  | 0, _, _, _, _, _ => none
  | n + 1, t, tL, x1, x2, x3 => if x1 < 0 ∨ 40 ≤ x1.toNatClampNeg then none else if ((t 24) x1.toNatClampNeg) ≤ x3 then if x2 = 0 ∨ x2 = 1 then some x2 else none else if x2 = 0 then if x2 = 0 ∨ x2 = 1 then some x2 else none else if x1 < 0 ∨ 40 ≤ x1.toNatClampNeg then none else (Mo_see F t tL (((t 23) x1.toNatClampNeg) + x3)).bind fun r24 => (Mo_small F r24).bind fun r25 => (Mo_see F t tL ((t 17 0) + x3)).bind fun r26 => (Mo_small F r26).bind fun r27 => if r25 = r27 then Mo_isAlike_102 F (Mo_isAlike_52 F n) t tL x1 x3 (1 : Int32) else Mo_isAlike_102 F (Mo_isAlike_52 F n) t tL x1 x3 (0 : Int32)
def Mo_isAlike_49 (F : Nat) (t : StI) (tL : StL) (x1 : Int32) (y0 : Int32) : Option (Int32) := Mo_isAlike_52 F F t tL x1 y0 (0 : Int32)
def Mo_isAlike_48 (F : Nat) (t : StI) (tL : StL) (x1 : Int32) : Option (Int32) := Mo_isAlike_49 F t tL x1 (0 : Int32)
def Mo_isAlike (F : Nat) (t : StI) (tL : StL) (x1 : Int32) : Option (Int32) := if x1 < 0 ∨ 40 ≤ x1.toNatClampNeg then none else if ((t 22) x1.toNatClampNeg) = (t 16 0) then if x1 < 0 ∨ 40 ≤ x1.toNatClampNeg then none else if ((t 29) x1.toNatClampNeg) = (t 19 0) then if x1 < 0 ∨ 40 ≤ x1.toNatClampNeg then none else if ((t 24) x1.toNatClampNeg) = ((t 18 0) - (t 17 0)) then Mo_isAlike_49 F t tL x1 (1 : Int32) else Mo_isAlike_48 F t tL x1 else Mo_isAlike_48 F t tL x1 else Mo_isAlike_48 F t tL x1
set_option maxHeartbeats 4000000 in
set_option maxRecDepth 100000 in
theorem k_Mo_isAlike_102 {p : Program} {l : Launch} {e : Env} {s : State} {m : MethodId} {args : Array Value} {below : List Frame} {meth : Method} {c : Code} {g : Gz} {A2 A : Nat → Prop} {F : Nat} {a_t : Nat → Nat} {k52 : StI → StL → Int32 → Int32 → Int32 → Option (Int32)} (hC : Cx prog_10_method_33_code 4 (some .boolean) R_Mo p s m args meth c g A2 A) : ∀ (t : StI) (tL : StL) (x1 : Int32) (x3 : Int32) (y0 : Int32) (res : Int32), Mo_isAlike_102 F k52 t tL x1 x3 y0 = some res → (∀ (t : StI) (tL : StL) (x1 : Int32) (x2 : Int32) (x3 : Int32), k52 t tL x1 x2 x3 = some res → Go p l e rm_Mo_isAlike s m args below meth c g A2 A 4 (MQ below (RI res A) args s 0 0 A) ((pic_Mo g a_t t tL)) [(0, .ref (a_t 0)), (1, .int x1), (2, .int x2), (3, .int x3)] 52 []) → Go p l e rm_Mo_isAlike s m args below meth c g A2 A 4 (MQ below (RI res A) args s 0 0 A) ((pic_Mo g a_t t tL)) [(0, .ref (a_t 0)), (1, .int x1), (3, .int x3)] 102 [.int y0] := by
  obtain ⟨hx, hb, hr, hml, hown, htb, hlocks, hA, hAA, hG⟩ := id hC
  have hK := hG.1
  intro t tL x1 x3 y0 res h hk52 H locs ls hP hD hS hl
  rw [Mo_isAlike_102] at h
  refine lv_istore_n (lv' := [(2, .int y0), (0, .ref (a_t 0)), (1, .int x1), (3, .int x3)]) hx hb d_Mo_isAlike_102 rfl hl (by decide) rfl (fun ls hl => ?_)
  refine lv_iinc (v := (x3 + (1 : Int32))) (lv' := [(3, .int (x3 + (1 : Int32))), (2, .int y0), (0, .ref (a_t 0)), (1, .int x1)]) hx hb d_Mo_isAlike_103 hl (k := 3) rfl rfl (by decide) rfl (fun ls hl => ?_)
  refine lv_goto (tgt := 52) hx hb d_Mo_isAlike_106 (by decide) ?_
  exact hk52 _ _ _ _ _ h _ _ _ hP hD hS (lv_sub hl [2, 3, 1, 0] rfl)
set_option maxHeartbeats 4000000 in
set_option maxRecDepth 100000 in
theorem k_Mo_isAlike_52 {p : Program} {l : Launch} {e : Env} {s : State} {m : MethodId} {args : Array Value} {below : List Frame} {meth : Method} {c : Code} {g : Gz} {A2 A : Nat → Prop} {F : Nat} {a_t : Nat → Nat} (hC : Cx prog_10_method_33_code 4 (some .boolean) R_Mo p s m args meth c g A2 A) : ∀ (n : Nat) (t : StI) (tL : StL) (x1 : Int32) (x2 : Int32) (x3 : Int32) (res : Int32), Mo_isAlike_52 F n t tL x1 x2 x3 = some res → Go p l e rm_Mo_isAlike s m args below meth c g A2 A 4 (MQ below (RI res A) args s 0 0 A) ((pic_Mo g a_t t tL)) [(0, .ref (a_t 0)), (1, .int x1), (2, .int x2), (3, .int x3)] 52 [] := by
  obtain ⟨hx, hb, hr, hml, hown, htb, hlocks, hA, hAA, hG⟩ := id hC
  have hK := hG.1
  intro n
  induction n with
  | zero => intro t tL x1 x2 x3 res h; rw [Mo_isAlike_52] at h; cases h
  | succ n ih =>
    intro t tL x1 x2 x3 res h H locs ls hP hD hS hl
    rw [Mo_isAlike_52] at h
    refine lv_iload_n hx hb d_Mo_isAlike_52 rfl (lv_at hl 3 rfl) ?_
    refine lv_aload_n hx hb d_Mo_isAlike_53 rfl (lv_at hl 0 rfl) ?_
    refine va_get (D := gD g) (ci := 8) (v := .ref (a_t 25)) (C := R_Mo) (T := T_Mo) (N := 64) hx hb htb in_Mo hown hK hP 0 rfl rfl 24 (by decide) (htb _ L_Mo_64) (fun _ h9 => h9) rfl d_Mo_isAlike_54 ?_
    refine lv_iload_n hx hb d_Mo_isAlike_57 rfl (lv_at hl 1 rfl) ?_
    by_cases c18 : (x1 < 0 ∨ 40 ≤ x1.toNatClampNeg)
    · replace h := (if_pos c18).symm.trans h
      cases h
    replace h := (if_neg c18).symm.trans h
    refine va_iald hx hb hK hP 8 0 rfl rfl c18 d_Mo_isAlike_58 ?_
    refine lv_icmp_ge (tgt := 109) hx hb d_Mo_isAlike_59 (by decide) (fun c19 => ?_) (fun c19 => ?_)
    · replace h := (if_pos c19).symm.trans h
      refine lv_iload_n hx hb d_Mo_isAlike_109 rfl (lv_at hl 2 rfl) ?_
      by_cases c20 : (x2 = 0 ∨ x2 = 1)
      rotate_left
      · replace h := (if_neg c20).symm.trans h
        cases h
      replace h := (if_pos c20).symm.trans h
      cases h
      exact W.zret hx hb hr (by rcases c20 with c20 | c20 <;> rw [c20] <;> rfl) (fun t ht hW => ⟨⟨_, (), rfl, rfl, trivial⟩, hS.F ht⟩) hS.2.2 d_Mo_isAlike_110
    · replace h := (if_neg c19).symm.trans h
      refine lv_iload_n hx hb d_Mo_isAlike_62 rfl (lv_at hl 2 rfl) ?_
      refine lv_if_eq (tgt := 109) hx hb d_Mo_isAlike_63 (by decide) (fun c21 => ?_) (fun c21 => ?_)
      · replace h := (if_pos c21).symm.trans h
        refine lv_iload_n hx hb d_Mo_isAlike_109 rfl (lv_at hl 2 rfl) ?_
        by_cases c22 : (x2 = 0 ∨ x2 = 1)
        rotate_left
        · replace h := (if_neg c22).symm.trans h
          cases h
        replace h := (if_pos c22).symm.trans h
        cases h
        exact W.zret hx hb hr (by rcases c22 with c22 | c22 <;> rw [c22] <;> rfl) (fun t ht hW => ⟨⟨_, (), rfl, rfl, trivial⟩, hS.F ht⟩) hS.2.2 d_Mo_isAlike_110
      · replace h := (if_neg c21).symm.trans h
        refine lv_aload_n hx hb d_Mo_isAlike_66 rfl (lv_at hl 0 rfl) ?_
        refine lv_aload_n hx hb d_Mo_isAlike_67 rfl (lv_at hl 0 rfl) ?_
        refine va_get (D := gD g) (ci := 8) (v := .ref (a_t 24)) (C := R_Mo) (T := T_Mo) (N := 64) hx hb htb in_Mo hown hK hP 0 rfl rfl 23 (by decide) (htb _ L_Mo_61) (fun _ h9 => h9) rfl d_Mo_isAlike_68 ?_
        refine lv_iload_n hx hb d_Mo_isAlike_71 rfl (lv_at hl 1 rfl) ?_
        by_cases c23 : (x1 < 0 ∨ 40 ≤ x1.toNatClampNeg)
        · replace h := (if_pos c23).symm.trans h
          cases h
        replace h := (if_neg c23).symm.trans h
        refine va_iald hx hb hK hP 7 0 rfl rfl c23 d_Mo_isAlike_72 ?_
        refine lv_iload_n hx hb d_Mo_isAlike_73 rfl (lv_at hl 3 rfl) ?_
        refine lv_iadd hx hb d_Mo_isAlike_74 ?_
        obtain ⟨r24, hr24, h⟩ := Option.bind_eq_some_iff.mp h
        refine cl_Ir hP hS hA (va_runV (As := [.int (((t 23) x1.toNatClampNeg) + x3)]) (rest := []) ⟨hx, hb, hml, hown, htb⟩ (c_Mo_see l g F a_t t tL (((t 23) x1.toNatClampNeg) + x3) _ hr24 H.size) (cw_V htb mb_Mo_see (htb _ L_Mo_160) rfl rfl ⟨Nat.le_of_ble_eq_true rfl, Nat.le_of_ble_eq_true rfl⟩) (pre_V (va_recv hK hP (ci := 8) (q0 := 0) rfl rfl) (pre_S [0, 1, 2, 3, 4, 5, 6, 7, 8, 9, 10, 11, 12, 13, 14, 15, 16, 17, 18, 19, 20, 21, 22, 23, 24, 25, 26, 27, 28, 29, 30, 31, 32] rfl rfl hP hD hS hA hAA hG)) rfl rfl hl.1 rfl (lv_room (Nat.le_of_ble_eq_true rfl)) d_Mo_isAlike_75 ⟨Nat.zero_le _, Nat.zero_le _⟩) (fun H locs hP hS => ?_)
        obtain ⟨r25, hr25, h⟩ := Option.bind_eq_some_iff.mp h
        refine cl_Ir hP hS hA (va_runS (As := [.int r24]) (rest := []) ⟨hx, hb, hml, hown, htb⟩ (c_Mo_small l g F r24 _ hr25 H.size) (cw_S htb mb_Mo_small (htb _ L_Mo_299) rfl rfl ⟨Nat.le_of_ble_eq_true rfl, Nat.le_of_ble_eq_true rfl⟩) (pre_S [] rfl rfl hP hD hS hA hAA hG) rfl rfl hl.1 rfl (lv_room (Nat.le_of_ble_eq_true rfl)) d_Mo_isAlike_78 ⟨Nat.zero_le _, Nat.zero_le _⟩) (fun H locs hP hS => ?_)
        refine lv_aload_n hx hb d_Mo_isAlike_81 rfl (lv_at hl 0 rfl) ?_
        refine lv_aload_n hx hb d_Mo_isAlike_82 rfl (lv_at hl 0 rfl) ?_
        refine va_get (D := gD g) (ci := 8) (v := .int (t 17 0)) (C := R_Mo) (T := T_Mo) (N := 64) hx hb htb in_Mo hown hK hP 0 rfl rfl 17 (by decide) (htb _ L_Mo_193) (fun _ h9 => h9) rfl d_Mo_isAlike_83 ?_
        refine lv_iload_n hx hb d_Mo_isAlike_86 rfl (lv_at hl 3 rfl) ?_
        refine lv_iadd hx hb d_Mo_isAlike_87 ?_
        obtain ⟨r26, hr26, h⟩ := Option.bind_eq_some_iff.mp h
        refine cl_Ir hP hS hA (va_runV (As := [.int ((t 17 0) + x3)]) (rest := [.int r25]) ⟨hx, hb, hml, hown, htb⟩ (c_Mo_see l g F a_t t tL ((t 17 0) + x3) _ hr26 H.size) (cw_V htb mb_Mo_see (htb _ L_Mo_160) rfl rfl ⟨Nat.le_of_ble_eq_true rfl, Nat.le_of_ble_eq_true rfl⟩) (pre_V (va_recv hK hP (ci := 8) (q0 := 0) rfl rfl) (pre_S [0, 1, 2, 3, 4, 5, 6, 7, 8, 9, 10, 11, 12, 13, 14, 15, 16, 17, 18, 19, 20, 21, 22, 23, 24, 25, 26, 27, 28, 29, 30, 31, 32] rfl rfl hP hD hS hA hAA hG)) rfl rfl hl.1 rfl (lv_room (Nat.le_of_ble_eq_true rfl)) d_Mo_isAlike_88 ⟨Nat.zero_le _, Nat.zero_le _⟩) (fun H locs hP hS => ?_)
        obtain ⟨r27, hr27, h⟩ := Option.bind_eq_some_iff.mp h
        refine cl_Ir hP hS hA (va_runS (As := [.int r26]) (rest := [.int r25]) ⟨hx, hb, hml, hown, htb⟩ (c_Mo_small l g F r26 _ hr27 H.size) (cw_S htb mb_Mo_small (htb _ L_Mo_299) rfl rfl ⟨Nat.le_of_ble_eq_true rfl, Nat.le_of_ble_eq_true rfl⟩) (pre_S [] rfl rfl hP hD hS hA hAA hG) rfl rfl hl.1 rfl (lv_room (Nat.le_of_ble_eq_true rfl)) d_Mo_isAlike_91 ⟨Nat.zero_le _, Nat.zero_le _⟩) (fun H locs hP hS => ?_)
        refine lv_icmp_ne (tgt := 101) hx hb d_Mo_isAlike_94 (by decide) (fun c28 => ?_) (fun c28 => ?_)
        · replace h := (if_neg c28).symm.trans h
          refine lv_iconst (v := 0) hx hb d_Mo_isAlike_101 (by decide) ?_
          exact k_Mo_isAlike_102 hC _ _ _ _ _ _ h (fun z0 z1 z2 z3 z4 hz => ih z0 z1 z2 z3 z4 _ hz) _ _ _ hP hD hS (lv_sub hl [0, 1, 3] rfl)
        · replace h := (if_pos c28).symm.trans h
          refine lv_iconst (v := 1) hx hb d_Mo_isAlike_97 (by decide) ?_
          refine lv_goto (tgt := 102) hx hb d_Mo_isAlike_98 (by decide) ?_
          exact k_Mo_isAlike_102 hC _ _ _ _ _ _ h (fun z0 z1 z2 z3 z4 hz => ih z0 z1 z2 z3 z4 _ hz) _ _ _ hP hD hS (lv_sub hl [0, 1, 3] rfl)
set_option maxHeartbeats 4000000 in
set_option maxRecDepth 100000 in
theorem k_Mo_isAlike_49 {p : Program} {l : Launch} {e : Env} {s : State} {m : MethodId} {args : Array Value} {below : List Frame} {meth : Method} {c : Code} {g : Gz} {A2 A : Nat → Prop} {F : Nat} {a_t : Nat → Nat} (hC : Cx prog_10_method_33_code 4 (some .boolean) R_Mo p s m args meth c g A2 A) : ∀ (t : StI) (tL : StL) (x1 : Int32) (y0 : Int32) (res : Int32), Mo_isAlike_49 F t tL x1 y0 = some res → Go p l e rm_Mo_isAlike s m args below meth c g A2 A 4 (MQ below (RI res A) args s 0 0 A) ((pic_Mo g a_t t tL)) [(0, .ref (a_t 0)), (1, .int x1)] 49 [.int y0] := by
  obtain ⟨hx, hb, hr, hml, hown, htb, hlocks, hA, hAA, hG⟩ := id hC
  have hK := hG.1
  intro t tL x1 y0 res h H locs ls hP hD hS hl
  rw [Mo_isAlike_49] at h
  refine lv_istore_n (lv' := [(2, .int y0), (0, .ref (a_t 0)), (1, .int x1)]) hx hb d_Mo_isAlike_49 rfl hl (by decide) rfl (fun ls hl => ?_)
  refine lv_iconst (v := 0) hx hb d_Mo_isAlike_50 (by decide) ?_
  refine lv_istore_n (lv' := [(3, .int (0 : Int32)), (2, .int y0), (0, .ref (a_t 0)), (1, .int x1)]) hx hb d_Mo_isAlike_51 rfl hl (by decide) rfl (fun ls hl => ?_)
  exact k_Mo_isAlike_52 hC F _ _ _ _ _ _ h _ _ _ hP hD hS (lv_sub hl [2, 3, 1, 0] rfl)
set_option maxHeartbeats 4000000 in
set_option maxRecDepth 100000 in
theorem k_Mo_isAlike_48 {p : Program} {l : Launch} {e : Env} {s : State} {m : MethodId} {args : Array Value} {below : List Frame} {meth : Method} {c : Code} {g : Gz} {A2 A : Nat → Prop} {F : Nat} {a_t : Nat → Nat} (hC : Cx prog_10_method_33_code 4 (some .boolean) R_Mo p s m args meth c g A2 A) : ∀ (t : StI) (tL : StL) (x1 : Int32) (res : Int32), Mo_isAlike_48 F t tL x1 = some res → Go p l e rm_Mo_isAlike s m args below meth c g A2 A 4 (MQ below (RI res A) args s 0 0 A) ((pic_Mo g a_t t tL)) [(0, .ref (a_t 0)), (1, .int x1)] 48 [] := by
  obtain ⟨hx, hb, hr, hml, hown, htb, hlocks, hA, hAA, hG⟩ := id hC
  have hK := hG.1
  intro t tL x1 res h H locs ls hP hD hS hl
  rw [Mo_isAlike_48] at h
  refine lv_iconst (v := 0) hx hb d_Mo_isAlike_48 (by decide) ?_
  exact k_Mo_isAlike_49 hC _ _ _ _ _ h _ _ _ hP hD hS (lv_sub hl [0, 1] rfl)
set_option maxHeartbeats 4000000 in
set_option maxRecDepth 100000 in
theorem k_Mo_isAlike {p : Program} {l : Launch} {e : Env} {s : State} {m : MethodId} {args : Array Value} {below : List Frame} {meth : Method} {c : Code} {g : Gz} {A2 A : Nat → Prop} {F : Nat} {a_t : Nat → Nat} (hC : Cx prog_10_method_33_code 4 (some .boolean) R_Mo p s m args meth c g A2 A) : ∀ (t : StI) (tL : StL) (x1 : Int32) (res : Int32), Mo_isAlike F t tL x1 = some res → Go p l e rm_Mo_isAlike s m args below meth c g A2 A 4 (MQ below (RI res A) args s 0 0 A) ((pic_Mo g a_t t tL)) [(0, .ref (a_t 0)), (1, .int x1)] 0 [] := by
  obtain ⟨hx, hb, hr, hml, hown, htb, hlocks, hA, hAA, hG⟩ := id hC
  have hK := hG.1
  intro t tL x1 res h H locs ls hP hD hS hl
  rw [Mo_isAlike] at h
  refine lv_aload_n hx hb d_Mo_isAlike_0 rfl (lv_at hl 0 rfl) ?_
  refine va_get (D := gD g) (ci := 8) (v := .ref (a_t 23)) (C := R_Mo) (T := T_Mo) (N := 64) hx hb htb in_Mo hown hK hP 0 rfl rfl 22 (by decide) (htb _ L_Mo_57) (fun _ h9 => h9) rfl d_Mo_isAlike_1 ?_
  refine lv_iload_n hx hb d_Mo_isAlike_4 rfl (lv_at hl 1 rfl) ?_
  by_cases c29 : (x1 < 0 ∨ 40 ≤ x1.toNatClampNeg)
  · replace h := (if_pos c29).symm.trans h
    cases h
  replace h := (if_neg c29).symm.trans h
  refine va_iald hx hb hK hP 6 0 rfl rfl c29 d_Mo_isAlike_5 ?_
  refine lv_aload_n hx hb d_Mo_isAlike_6 rfl (lv_at hl 0 rfl) ?_
  refine va_get (D := gD g) (ci := 8) (v := .int (t 16 0)) (C := R_Mo) (T := T_Mo) (N := 64) hx hb htb in_Mo hown hK hP 0 rfl rfl 16 (by decide) (htb _ L_Mo_214) (fun _ h9 => h9) rfl d_Mo_isAlike_7 ?_
  refine lv_icmp_ne (tgt := 48) hx hb d_Mo_isAlike_10 (by decide) (fun c30 => ?_) (fun c30 => ?_)
  · replace h := (if_neg c30).symm.trans h
    exact k_Mo_isAlike_48 hC _ _ _ _ h _ _ _ hP hD hS (lv_sub hl [0, 1] rfl)
  · replace h := (if_pos c30).symm.trans h
    refine lv_aload_n hx hb d_Mo_isAlike_13 rfl (lv_at hl 0 rfl) ?_
    refine va_get (D := gD g) (ci := 8) (v := .ref (a_t 30)) (C := R_Mo) (T := T_Mo) (N := 64) hx hb htb in_Mo hown hK hP 0 rfl rfl 29 (by decide) (htb _ L_Mo_79) (fun _ h9 => h9) rfl d_Mo_isAlike_14 ?_
    refine lv_iload_n hx hb d_Mo_isAlike_17 rfl (lv_at hl 1 rfl) ?_
    by_cases c31 : (x1 < 0 ∨ 40 ≤ x1.toNatClampNeg)
    · replace h := (if_pos c31).symm.trans h
      cases h
    replace h := (if_neg c31).symm.trans h
    refine va_zald hx hb hK hP 13 2 rfl rfl c31 d_Mo_isAlike_18 ?_
    refine lv_aload_n hx hb d_Mo_isAlike_19 rfl (lv_at hl 0 rfl) ?_
    refine va_get (D := gD g) (ci := 8) (v := .int (t 19 0)) (C := R_Mo) (T := T_Mo) (N := 64) hx hb htb in_Mo hown hK hP 0 rfl rfl 19 (by decide) (htb _ L_Mo_189) (fun _ h9 => h9) rfl d_Mo_isAlike_20 ?_
    refine lv_icmp_ne (tgt := 48) hx hb d_Mo_isAlike_23 (by decide) (fun c32 => ?_) (fun c32 => ?_)
    · replace h := (if_neg c32).symm.trans h
      exact k_Mo_isAlike_48 hC _ _ _ _ h _ _ _ hP hD hS (lv_sub hl [0, 1] rfl)
    · replace h := (if_pos c32).symm.trans h
      refine lv_aload_n hx hb d_Mo_isAlike_26 rfl (lv_at hl 0 rfl) ?_
      refine va_get (D := gD g) (ci := 8) (v := .ref (a_t 25)) (C := R_Mo) (T := T_Mo) (N := 64) hx hb htb in_Mo hown hK hP 0 rfl rfl 24 (by decide) (htb _ L_Mo_64) (fun _ h9 => h9) rfl d_Mo_isAlike_27 ?_
      refine lv_iload_n hx hb d_Mo_isAlike_30 rfl (lv_at hl 1 rfl) ?_
      by_cases c33 : (x1 < 0 ∨ 40 ≤ x1.toNatClampNeg)
      · replace h := (if_pos c33).symm.trans h
        cases h
      replace h := (if_neg c33).symm.trans h
      refine va_iald hx hb hK hP 8 0 rfl rfl c33 d_Mo_isAlike_31 ?_
      refine lv_aload_n hx hb d_Mo_isAlike_32 rfl (lv_at hl 0 rfl) ?_
      refine va_get (D := gD g) (ci := 8) (v := .int (t 18 0)) (C := R_Mo) (T := T_Mo) (N := 64) hx hb htb in_Mo hown hK hP 0 rfl rfl 18 (by decide) (htb _ L_Mo_196) (fun _ h9 => h9) rfl d_Mo_isAlike_33 ?_
      refine lv_aload_n hx hb d_Mo_isAlike_36 rfl (lv_at hl 0 rfl) ?_
      refine va_get (D := gD g) (ci := 8) (v := .int (t 17 0)) (C := R_Mo) (T := T_Mo) (N := 64) hx hb htb in_Mo hown hK hP 0 rfl rfl 17 (by decide) (htb _ L_Mo_193) (fun _ h9 => h9) rfl d_Mo_isAlike_37 ?_
      refine lv_isub hx hb d_Mo_isAlike_40 ?_
      refine lv_icmp_ne (tgt := 48) hx hb d_Mo_isAlike_41 (by decide) (fun c34 => ?_) (fun c34 => ?_)
      · replace h := (if_neg c34).symm.trans h
        exact k_Mo_isAlike_48 hC _ _ _ _ h _ _ _ hP hD hS (lv_sub hl [0, 1] rfl)
      · replace h := (if_pos c34).symm.trans h
        refine lv_iconst (v := 1) hx hb d_Mo_isAlike_44 (by decide) ?_
        refine lv_goto (tgt := 49) hx hb d_Mo_isAlike_45 (by decide) ?_
        exact k_Mo_isAlike_49 hC _ _ _ _ _ h _ _ _ hP hD hS (lv_sub hl [0, 1] rfl)
theorem c_Mo_isAlike (l : Launch) (g : Gz) (F : Nat) (a_t : Nat → Nat) (t : StI) (tL : StL) (x1 : Int32) (res : Int32) (h : Mo_isAlike F t tL x1 = some res) : ∀ sz : Nat, Met l y_Mo_isAlike (.code y_Mo_isAlike prog_10_method_33_code 4 (some .boolean) :: TBL) rm_Mo_isAlike (va_Pc [.ref (a_t 0), .int x1] (Pre0 g ((pic_Mo g a_t t tL)) sz)) (RI res (fun q => sz ≤ q)) 0 0 (fun q => sz ≤ q) :=
  ct_r (Qc := fun A => RI res A) (by decide) (Nat.le_of_ble_eq_true rfl) (fun p e s m args below meth c A2 A hC => k_Mo_isAlike hC t tL x1 res h)
def Mo_atomNumber_115 (F : Nat) (t : StI) (tL : StL) (x1 : Int32) (y0 : Int32) (y1 : Int32) : Option (Int32 × StI × StL) := if y1 < 0 ∨ 40 ≤ y1.toNatClampNeg then none else letS (va_up t 25 (upd (t 25) y1.toNatClampNeg y0)) fun t_25 => if x1 < 0 ∨ 40 ≤ x1.toNatClampNeg then none else letS (va_up t_25 26 (upd (t_25 26) x1.toNatClampNeg (0 : Int32))) fun t_27 => if x1 < 0 ∨ 40 ≤ x1.toNatClampNeg then none else letS (va_up t_27 27 (upd (t_27 27) x1.toNatClampNeg (t_27 58 0))) fun t_29 => if x1 < 0 ∨ 40 ≤ x1.toNatClampNeg then none else letS (va_up t_29 28 (upd (t_29 28) x1.toNatClampNeg (t_29 59 0))) fun t_31 => letS (va_up t_31 20 (fun _ => ((t_31 20 0) + (1 : Int32)))) fun t_33 => some (x1, t_33, tL)
def Mo_atomNumber_107 (F : Nat) (t : StI) (tL : StL) (x1 : Int32) (y0 : Int32) : Option (Int32 × StI × StL) := (Mo_star F t tL).bind fun r34 => Mo_atomNumber_115 F t tL x1 r34 y0
def Mo_atomNumber_2 (F : Nat) : Nat → StI → StL → Int32 → Option (Int32 × StI × StL)
  | 0, _, _, _ => none
  | n + 1, t, tL, x1 => if (t 20 0) ≤ x1 then if (t 20 0) < 0 ∨ 40 ≤ (t 20 0).toNatClampNeg then none else letS (va_up t 22 (upd (t 22) (t 20 0).toNatClampNeg (t 16 0))) fun t_36 => if (t 20 0) < 0 ∨ 40 ≤ (t 20 0).toNatClampNeg then none else letS (va_up t_36 29 (upd (t_36 29) (t 20 0).toNatClampNeg (vp_nar .boolean (t_36 19 0)))) fun t_38 => if (t 20 0) < 0 ∨ 40 ≤ (t 20 0).toNatClampNeg then none else letS (va_up t_38 23 (upd (t_38 23) (t 20 0).toNatClampNeg (t_38 17 0))) fun t_40 => if (t 20 0) < 0 ∨ 40 ≤ (t 20 0).toNatClampNeg then none else letS (va_up t_40 24 (upd (t_40 24) (t 20 0).toNatClampNeg ((t_40 18 0) - (t_40 17 0)))) fun t_42 => if (t_42 16 0) < (5 : Int32) then Mo_atomNumber_107 F t_42 tL (t 20 0) (t 20 0) else if (t_42 16 0) = (7 : Int32) then Mo_atomNumber_107 F t_42 tL (t 20 0) (t 20 0) else if (t_42 16 0) = (9 : Int32) then Mo_atomNumber_107 F t_42 tL (t 20 0) (t 20 0) else Mo_atomNumber_115 F t_42 tL (t 20 0) (-1 : Int32) (t 20 0) else (Mo_isAlike F t tL x1).bind fun r47 => if r47 = 0 then Mo_atomNumber_2 F n t tL (x1 + (1 : Int32)) else some (x1, t, tL)
def Mo_atomNumber (F : Nat) (t : StI) (tL : StL) : Option (Int32 × StI × StL) := Mo_atomNumber_2 F F t tL (0 : Int32)
set_option maxHeartbeats 4000000 in
set_option maxRecDepth 100000 in
theorem k_Mo_atomNumber_115 {p : Program} {l : Launch} {e : Env} {s : State} {m : MethodId} {args : Array Value} {below : List Frame} {meth : Method} {c : Code} {g : Gz} {A : Nat → Prop} {F : Nat} {a_t : Nat → Nat} (hC : Cx prog_10_method_34_code 2 (some .int) R_Mo p s m args meth c g A A) : ∀ (t : StI) (tL : StL) (x1 : Int32) (y0 : Int32) (y1 : Int32) (res : Int32 × StI × StL), Mo_atomNumber_115 F t tL x1 y0 y1 = some res → Go p l e rm_Mo_atomNumber s m args below meth c g A A 2 (MQ below (EI g ((pic_Mo g a_t res.2.1 res.2.2)) res.1 A) args s 0 0 A) ((pic_Mo g a_t t tL)) [(0, .ref (a_t 0)), (1, .int x1)] 115 [.int y0, .int y1, .ref (a_t 26)] := by
  obtain ⟨hx, hb, hr, hml, hown, htb, hlocks, hA, hAA, hG⟩ := id hC
  have hK := hG.1
  intro t tL x1 y0 y1 res h H locs ls hP hD hS hl
  rw [Mo_atomNumber_115] at h
  by_cases c26 : (y1 < 0 ∨ 40 ≤ y1.toNatClampNeg)
  · replace h := (if_pos c26).symm.trans h
    cases h
  replace h := (if_neg c26).symm.trans h
  refine va_iast hx hb hK hP hD hS 9 0 rfl rfl c26 d_Mo_atomNumber_115 (fun H locs hP hD hS => ?_)
  obtain ⟨t_25, et_25, h⟩ := letS_el h
  have hP : va_P (gD g) vwCl ((pic_Mo g a_t t_25 tL)) H := by rw [et_25]; exact hP
  have hD : va_D A ((pic_Mo g a_t t_25 tL)) := by rw [et_25]; exact hD
  refine lv_aload_n hx hb d_Mo_atomNumber_116 rfl (lv_at hl 0 rfl) ?_
  refine va_get (D := gD g) (ci := 8) (v := .ref (a_t 27)) (C := R_Mo) (T := T_Mo) (N := 64) hx hb htb in_Mo hown hK hP 0 rfl rfl 26 (by decide) (htb _ L_Mo_70) (fun _ h9 => h9) rfl d_Mo_atomNumber_117 ?_
  refine lv_iload_n hx hb d_Mo_atomNumber_120 rfl (lv_at hl 1 rfl) ?_
  refine lv_iconst (v := 0) hx hb d_Mo_atomNumber_121 (by decide) ?_
  by_cases c28 : (x1 < 0 ∨ 40 ≤ x1.toNatClampNeg)
  · replace h := (if_pos c28).symm.trans h
    cases h
  replace h := (if_neg c28).symm.trans h
  refine va_iast hx hb hK hP hD hS 10 0 rfl rfl c28 d_Mo_atomNumber_122 (fun H locs hP hD hS => ?_)
  obtain ⟨t_27, et_27, h⟩ := letS_el h
  have hP : va_P (gD g) vwCl ((pic_Mo g a_t t_27 tL)) H := by rw [et_27]; exact hP
  have hD : va_D A ((pic_Mo g a_t t_27 tL)) := by rw [et_27]; exact hD
  refine lv_aload_n hx hb d_Mo_atomNumber_123 rfl (lv_at hl 0 rfl) ?_
  refine va_get (D := gD g) (ci := 8) (v := .ref (a_t 28)) (C := R_Mo) (T := T_Mo) (N := 64) hx hb htb in_Mo hown hK hP 0 rfl rfl 27 (by decide) (htb _ L_Mo_73) (fun _ h9 => h9) rfl d_Mo_atomNumber_124 ?_
  refine lv_iload_n hx hb d_Mo_atomNumber_127 rfl (lv_at hl 1 rfl) ?_
  refine lv_aload_n hx hb d_Mo_atomNumber_128 rfl (lv_at hl 0 rfl) ?_
  refine va_get (D := gD g) (ci := 8) (v := .int (t_27 58 0)) (C := R_Mo) (T := T_Mo) (N := 64) hx hb htb in_Mo hown hK hP 0 rfl rfl 58 (by decide) (htb _ L_Mo_270) (fun _ h9 => h9) rfl d_Mo_atomNumber_129 ?_
  by_cases c30 : (x1 < 0 ∨ 40 ≤ x1.toNatClampNeg)
  · replace h := (if_pos c30).symm.trans h
    cases h
  replace h := (if_neg c30).symm.trans h
  refine va_iast hx hb hK hP hD hS 11 0 rfl rfl c30 d_Mo_atomNumber_132 (fun H locs hP hD hS => ?_)
  obtain ⟨t_29, et_29, h⟩ := letS_el h
  have hP : va_P (gD g) vwCl ((pic_Mo g a_t t_29 tL)) H := by rw [et_29]; exact hP
  have hD : va_D A ((pic_Mo g a_t t_29 tL)) := by rw [et_29]; exact hD
  refine lv_aload_n hx hb d_Mo_atomNumber_133 rfl (lv_at hl 0 rfl) ?_
  refine va_get (D := gD g) (ci := 8) (v := .ref (a_t 29)) (C := R_Mo) (T := T_Mo) (N := 64) hx hb htb in_Mo hown hK hP 0 rfl rfl 28 (by decide) (htb _ L_Mo_76) (fun _ h9 => h9) rfl d_Mo_atomNumber_134 ?_
  refine lv_iload_n hx hb d_Mo_atomNumber_137 rfl (lv_at hl 1 rfl) ?_
  refine lv_aload_n hx hb d_Mo_atomNumber_138 rfl (lv_at hl 0 rfl) ?_
  refine va_get (D := gD g) (ci := 8) (v := .int (t_29 59 0)) (C := R_Mo) (T := T_Mo) (N := 64) hx hb htb in_Mo hown hK hP 0 rfl rfl 59 (by decide) (htb _ L_Mo_273) (fun _ h9 => h9) rfl d_Mo_atomNumber_139 ?_
  by_cases c32 : (x1 < 0 ∨ 40 ≤ x1.toNatClampNeg)
  · replace h := (if_pos c32).symm.trans h
    cases h
  replace h := (if_neg c32).symm.trans h
  refine va_iast hx hb hK hP hD hS 12 0 rfl rfl c32 d_Mo_atomNumber_142 (fun H locs hP hD hS => ?_)
  obtain ⟨t_31, et_31, h⟩ := letS_el h
  have hP : va_P (gD g) vwCl ((pic_Mo g a_t t_31 tL)) H := by rw [et_31]; exact hP
  have hD : va_D A ((pic_Mo g a_t t_31 tL)) := by rw [et_31]; exact hD
  refine lv_aload_n hx hb d_Mo_atomNumber_143 rfl (lv_at hl 0 rfl) ?_
  refine lv_dup hx hb d_Mo_atomNumber_144 rfl ?_
  refine va_get (D := gD g) (ci := 8) (v := .int (t_31 20 0)) (C := R_Mo) (T := T_Mo) (N := 64) hx hb htb in_Mo hown hK hP 0 rfl rfl 20 (by decide) (htb _ L_Mo_302) (fun _ h9 => h9) rfl d_Mo_atomNumber_145 ?_
  refine lv_iconst (v := 1) hx hb d_Mo_atomNumber_148 (by decide) ?_
  refine lv_iadd hx hb d_Mo_atomNumber_149 ?_
  refine va_put (D := gD g) (ci := 8) (v := .int ((t_31 20 0) + (1 : Int32))) (ty := .int) (C := R_Mo) (T := T_Mo) (N := 64) hx hb htb in_Mo ty_Mo ty_Mo_ok nm_Mo hown hK hP hD hS 0 rfl rfl 20 (by decide) (htb _ L_Mo_302) (fun _ h9 => h9) rfl (by decide +kernel) rfl rfl (Nat.le_of_ble_eq_true rfl) d_Mo_atomNumber_150 (fun H locs hP hD hS => ?_)
  obtain ⟨t_33, et_33, h⟩ := letS_el h
  have hP : va_P (gD g) vwCl ((pic_Mo g a_t t_33 tL)) H := by rw [et_33]; exact hP
  have hD : va_D A ((pic_Mo g a_t t_33 tL)) := by rw [et_33]; exact hD
  refine lv_iload_n hx hb d_Mo_atomNumber_153 rfl (lv_at hl 1 rfl) ?_
  cases h
  exact W.iret hx hb hr (fun t ht hW => ⟨⟨_, (), rfl, rfl, by rw [ht]; exact hP, hD⟩, hS.F ht⟩) hS.2.2 d_Mo_atomNumber_154
set_option maxHeartbeats 4000000 in
set_option maxRecDepth 100000 in
theorem k_Mo_atomNumber_107 {p : Program} {l : Launch} {e : Env} {s : State} {m : MethodId} {args : Array Value} {below : List Frame} {meth : Method} {c : Code} {g : Gz} {A : Nat → Prop} {F : Nat} {a_t : Nat → Nat} (hC : Cx prog_10_method_34_code 2 (some .int) R_Mo p s m args meth c g A A) : ∀ (t : StI) (tL : StL) (x1 : Int32) (y0 : Int32) (res : Int32 × StI × StL), Mo_atomNumber_107 F t tL x1 y0 = some res → Go p l e rm_Mo_atomNumber s m args below meth c g A A 2 (MQ below (EI g ((pic_Mo g a_t res.2.1 res.2.2)) res.1 A) args s 0 0 A) ((pic_Mo g a_t t tL)) [(0, .ref (a_t 0)), (1, .int x1)] 107 [.int y0, .ref (a_t 26)] := by
  obtain ⟨hx, hb, hr, hml, hown, htb, hlocks, hA, hAA, hG⟩ := id hC
  have hK := hG.1
  intro t tL x1 y0 res h H locs ls hP hD hS hl
  rw [Mo_atomNumber_107] at h
  refine lv_aload_n hx hb d_Mo_atomNumber_107 rfl (lv_at hl 0 rfl) ?_
  obtain ⟨r34, hr34, h⟩ := Option.bind_eq_some_iff.mp h
  refine cl_Ir hP hS hA (va_runV (As := []) (rest := [.int y0, .ref (a_t 26)]) ⟨hx, hb, hml, hown, htb⟩ (c_Mo_star l g F a_t t tL _ hr34 H.size) (cw_V htb mb_Mo_star (htb _ L_Mo_290) rfl rfl ⟨Nat.le_of_ble_eq_true rfl, Nat.le_of_ble_eq_true rfl⟩) (pre_V (va_recv hK hP (ci := 8) (q0 := 0) rfl rfl) (pre_S [0, 1, 2, 3, 4, 5, 6, 7, 8, 9, 10, 11, 12, 13, 14, 15, 16, 17, 18, 19, 20, 21, 22, 23, 24, 25, 26, 27, 28, 29, 30, 31, 32] rfl rfl hP hD hS hA hAA hG)) rfl rfl hl.1 rfl (lv_room (Nat.le_of_ble_eq_true rfl)) d_Mo_atomNumber_108 ⟨Nat.zero_le _, Nat.zero_le _⟩) (fun H locs hP hS => ?_)
  refine lv_goto (tgt := 115) hx hb d_Mo_atomNumber_111 (by decide) ?_
  exact k_Mo_atomNumber_115 hC _ _ _ _ _ _ h _ _ _ hP hD hS (lv_sub hl [0, 1] rfl)
set_option maxHeartbeats 4000000 in
set_option maxRecDepth 100000 in
theorem k_Mo_atomNumber_2 {p : Program} {l : Launch} {e : Env} {s : State} {m : MethodId} {args : Array Value} {below : List Frame} {meth : Method} {c : Code} {g : Gz} {A : Nat → Prop} {F : Nat} {a_t : Nat → Nat} (hC : Cx prog_10_method_34_code 2 (some .int) R_Mo p s m args meth c g A A) : ∀ (n : Nat) (t : StI) (tL : StL) (x1 : Int32) (res : Int32 × StI × StL), Mo_atomNumber_2 F n t tL x1 = some res → Go p l e rm_Mo_atomNumber s m args below meth c g A A 2 (MQ below (EI g ((pic_Mo g a_t res.2.1 res.2.2)) res.1 A) args s 0 0 A) ((pic_Mo g a_t t tL)) [(0, .ref (a_t 0)), (1, .int x1)] 2 [] := by
  obtain ⟨hx, hb, hr, hml, hown, htb, hlocks, hA, hAA, hG⟩ := id hC
  have hK := hG.1
  intro n
  induction n with
  | zero => intro t tL x1 res h; rw [Mo_atomNumber_2] at h; cases h
  | succ n ih =>
    intro t tL x1 res h H locs ls hP hD hS hl
    rw [Mo_atomNumber_2] at h
    refine lv_iload_n hx hb d_Mo_atomNumber_2 rfl (lv_at hl 1 rfl) ?_
    refine lv_aload_n hx hb d_Mo_atomNumber_3 rfl (lv_at hl 0 rfl) ?_
    refine va_get (D := gD g) (ci := 8) (v := .int (t 20 0)) (C := R_Mo) (T := T_Mo) (N := 64) hx hb htb in_Mo hown hK hP 0 rfl rfl 20 (by decide) (htb _ L_Mo_302) (fun _ h9 => h9) rfl d_Mo_atomNumber_4 ?_
    refine lv_icmp_ge (tgt := 26) hx hb d_Mo_atomNumber_7 (by decide) (fun c35 => ?_) (fun c35 => ?_)
    · replace h := (if_pos c35).symm.trans h
      refine lv_aload_n hx hb d_Mo_atomNumber_26 rfl (lv_at hl 0 rfl) ?_
      refine va_get (D := gD g) (ci := 8) (v := .int (t 20 0)) (C := R_Mo) (T := T_Mo) (N := 64) hx hb htb in_Mo hown hK hP 0 rfl rfl 20 (by decide) (htb _ L_Mo_302) (fun _ h9 => h9) rfl d_Mo_atomNumber_27 ?_
      refine lv_istore_n (lv' := [(1, .int (t 20 0)), (0, .ref (a_t 0))]) hx hb d_Mo_atomNumber_30 rfl hl (by decide) rfl (fun ls hl => ?_)
      refine lv_aload_n hx hb d_Mo_atomNumber_31 rfl (lv_at hl 1 rfl) ?_
      refine va_get (D := gD g) (ci := 8) (v := .ref (a_t 23)) (C := R_Mo) (T := T_Mo) (N := 64) hx hb htb in_Mo hown hK hP 0 rfl rfl 22 (by decide) (htb _ L_Mo_57) (fun _ h9 => h9) rfl d_Mo_atomNumber_32 ?_
      refine lv_iload_n hx hb d_Mo_atomNumber_35 rfl (lv_at hl 0 rfl) ?_
      refine lv_aload_n hx hb d_Mo_atomNumber_36 rfl (lv_at hl 1 rfl) ?_
      refine va_get (D := gD g) (ci := 8) (v := .int (t 16 0)) (C := R_Mo) (T := T_Mo) (N := 64) hx hb htb in_Mo hown hK hP 0 rfl rfl 16 (by decide) (htb _ L_Mo_214) (fun _ h9 => h9) rfl d_Mo_atomNumber_37 ?_
      by_cases c37 : ((t 20 0) < 0 ∨ 40 ≤ (t 20 0).toNatClampNeg)
      · replace h := (if_pos c37).symm.trans h
        cases h
      replace h := (if_neg c37).symm.trans h
      refine va_iast hx hb hK hP hD hS 6 0 rfl rfl c37 d_Mo_atomNumber_40 (fun H locs hP hD hS => ?_)
      obtain ⟨t_36, et_36, h⟩ := letS_el h
      have hP : va_P (gD g) vwCl ((pic_Mo g a_t t_36 tL)) H := by rw [et_36]; exact hP
      have hD : va_D A ((pic_Mo g a_t t_36 tL)) := by rw [et_36]; exact hD
      refine lv_aload_n hx hb d_Mo_atomNumber_41 rfl (lv_at hl 1 rfl) ?_
      refine va_get (D := gD g) (ci := 8) (v := .ref (a_t 30)) (C := R_Mo) (T := T_Mo) (N := 64) hx hb htb in_Mo hown hK hP 0 rfl rfl 29 (by decide) (htb _ L_Mo_79) (fun _ h9 => h9) rfl d_Mo_atomNumber_42 ?_
      refine lv_iload_n hx hb d_Mo_atomNumber_45 rfl (lv_at hl 0 rfl) ?_
      refine lv_aload_n hx hb d_Mo_atomNumber_46 rfl (lv_at hl 1 rfl) ?_
      refine va_get (D := gD g) (ci := 8) (v := .int (t_36 19 0)) (C := R_Mo) (T := T_Mo) (N := 64) hx hb htb in_Mo hown hK hP 0 rfl rfl 19 (by decide) (htb _ L_Mo_189) (fun _ h9 => h9) rfl d_Mo_atomNumber_47 ?_
      by_cases c39 : ((t 20 0) < 0 ∨ 40 ≤ (t 20 0).toNatClampNeg)
      · replace h := (if_pos c39).symm.trans h
        cases h
      replace h := (if_neg c39).symm.trans h
      refine va_zast hx hb hK hP hD hS 13 2 rfl rfl c39 d_Mo_atomNumber_50 (fun H locs hP hD hS => ?_)
      obtain ⟨t_38, et_38, h⟩ := letS_el h
      have hP : va_P (gD g) vwCl ((pic_Mo g a_t t_38 tL)) H := by rw [et_38]; exact hP
      have hD : va_D A ((pic_Mo g a_t t_38 tL)) := by rw [et_38]; exact hD
      refine lv_aload_n hx hb d_Mo_atomNumber_51 rfl (lv_at hl 1 rfl) ?_
      refine va_get (D := gD g) (ci := 8) (v := .ref (a_t 24)) (C := R_Mo) (T := T_Mo) (N := 64) hx hb htb in_Mo hown hK hP 0 rfl rfl 23 (by decide) (htb _ L_Mo_61) (fun _ h9 => h9) rfl d_Mo_atomNumber_52 ?_
      refine lv_iload_n hx hb d_Mo_atomNumber_55 rfl (lv_at hl 0 rfl) ?_
      refine lv_aload_n hx hb d_Mo_atomNumber_56 rfl (lv_at hl 1 rfl) ?_
      refine va_get (D := gD g) (ci := 8) (v := .int (t_38 17 0)) (C := R_Mo) (T := T_Mo) (N := 64) hx hb htb in_Mo hown hK hP 0 rfl rfl 17 (by decide) (htb _ L_Mo_193) (fun _ h9 => h9) rfl d_Mo_atomNumber_57 ?_
      by_cases c41 : ((t 20 0) < 0 ∨ 40 ≤ (t 20 0).toNatClampNeg)
      · replace h := (if_pos c41).symm.trans h
        cases h
      replace h := (if_neg c41).symm.trans h
      refine va_iast hx hb hK hP hD hS 7 0 rfl rfl c41 d_Mo_atomNumber_60 (fun H locs hP hD hS => ?_)
      obtain ⟨t_40, et_40, h⟩ := letS_el h
      have hP : va_P (gD g) vwCl ((pic_Mo g a_t t_40 tL)) H := by rw [et_40]; exact hP
      have hD : va_D A ((pic_Mo g a_t t_40 tL)) := by rw [et_40]; exact hD
      refine lv_aload_n hx hb d_Mo_atomNumber_61 rfl (lv_at hl 1 rfl) ?_
      refine va_get (D := gD g) (ci := 8) (v := .ref (a_t 25)) (C := R_Mo) (T := T_Mo) (N := 64) hx hb htb in_Mo hown hK hP 0 rfl rfl 24 (by decide) (htb _ L_Mo_64) (fun _ h9 => h9) rfl d_Mo_atomNumber_62 ?_
      refine lv_iload_n hx hb d_Mo_atomNumber_65 rfl (lv_at hl 0 rfl) ?_
      refine lv_aload_n hx hb d_Mo_atomNumber_66 rfl (lv_at hl 1 rfl) ?_
      refine va_get (D := gD g) (ci := 8) (v := .int (t_40 18 0)) (C := R_Mo) (T := T_Mo) (N := 64) hx hb htb in_Mo hown hK hP 0 rfl rfl 18 (by decide) (htb _ L_Mo_196) (fun _ h9 => h9) rfl d_Mo_atomNumber_67 ?_
      refine lv_aload_n hx hb d_Mo_atomNumber_70 rfl (lv_at hl 1 rfl) ?_
      refine va_get (D := gD g) (ci := 8) (v := .int (t_40 17 0)) (C := R_Mo) (T := T_Mo) (N := 64) hx hb htb in_Mo hown hK hP 0 rfl rfl 17 (by decide) (htb _ L_Mo_193) (fun _ h9 => h9) rfl d_Mo_atomNumber_71 ?_
      refine lv_isub hx hb d_Mo_atomNumber_74 ?_
      by_cases c43 : ((t 20 0) < 0 ∨ 40 ≤ (t 20 0).toNatClampNeg)
      · replace h := (if_pos c43).symm.trans h
        cases h
      replace h := (if_neg c43).symm.trans h
      refine va_iast hx hb hK hP hD hS 8 0 rfl rfl c43 d_Mo_atomNumber_75 (fun H locs hP hD hS => ?_)
      obtain ⟨t_42, et_42, h⟩ := letS_el h
      have hP : va_P (gD g) vwCl ((pic_Mo g a_t t_42 tL)) H := by rw [et_42]; exact hP
      have hD : va_D A ((pic_Mo g a_t t_42 tL)) := by rw [et_42]; exact hD
      refine lv_aload_n hx hb d_Mo_atomNumber_76 rfl (lv_at hl 1 rfl) ?_
      refine va_get (D := gD g) (ci := 8) (v := .ref (a_t 26)) (C := R_Mo) (T := T_Mo) (N := 64) hx hb htb in_Mo hown hK hP 0 rfl rfl 25 (by decide) (htb _ L_Mo_67) (fun _ h9 => h9) rfl d_Mo_atomNumber_77 ?_
      refine lv_iload_n hx hb d_Mo_atomNumber_80 rfl (lv_at hl 0 rfl) ?_
      refine lv_aload_n hx hb d_Mo_atomNumber_81 rfl (lv_at hl 1 rfl) ?_
      refine va_get (D := gD g) (ci := 8) (v := .int (t_42 16 0)) (C := R_Mo) (T := T_Mo) (N := 64) hx hb htb in_Mo hown hK hP 0 rfl rfl 16 (by decide) (htb _ L_Mo_214) (fun _ h9 => h9) rfl d_Mo_atomNumber_82 ?_
      refine lv_iconst (v := 5) hx hb d_Mo_atomNumber_85 (by decide) ?_
      refine lv_icmp_lt (tgt := 107) hx hb d_Mo_atomNumber_86 (by decide) (fun c44 => ?_) (fun c44 => ?_)
      · replace h := (if_pos c44).symm.trans h
        exact k_Mo_atomNumber_107 hC _ _ _ _ _ h _ _ _ hP hD hS (lv_sub hl [1, 0] rfl)
      · replace h := (if_neg c44).symm.trans h
        refine lv_aload_n hx hb d_Mo_atomNumber_89 rfl (lv_at hl 1 rfl) ?_
        refine va_get (D := gD g) (ci := 8) (v := .int (t_42 16 0)) (C := R_Mo) (T := T_Mo) (N := 64) hx hb htb in_Mo hown hK hP 0 rfl rfl 16 (by decide) (htb _ L_Mo_214) (fun _ h9 => h9) rfl d_Mo_atomNumber_90 ?_
        refine lv_bipush (v := 7) hx hb d_Mo_atomNumber_93 (by decide) ?_
        refine lv_icmp_eq (tgt := 107) hx hb d_Mo_atomNumber_95 (by decide) (fun c45 => ?_) (fun c45 => ?_)
        · replace h := (if_pos c45).symm.trans h
          exact k_Mo_atomNumber_107 hC _ _ _ _ _ h _ _ _ hP hD hS (lv_sub hl [1, 0] rfl)
        · replace h := (if_neg c45).symm.trans h
          refine lv_aload_n hx hb d_Mo_atomNumber_98 rfl (lv_at hl 1 rfl) ?_
          refine va_get (D := gD g) (ci := 8) (v := .int (t_42 16 0)) (C := R_Mo) (T := T_Mo) (N := 64) hx hb htb in_Mo hown hK hP 0 rfl rfl 16 (by decide) (htb _ L_Mo_214) (fun _ h9 => h9) rfl d_Mo_atomNumber_99 ?_
          refine lv_bipush (v := 9) hx hb d_Mo_atomNumber_102 (by decide) ?_
          refine lv_icmp_ne (tgt := 114) hx hb d_Mo_atomNumber_104 (by decide) (fun c46 => ?_) (fun c46 => ?_)
          · replace h := (if_neg c46).symm.trans h
            refine lv_iconst (v := -1) hx hb d_Mo_atomNumber_114 (by decide) ?_
            exact k_Mo_atomNumber_115 hC _ _ _ _ _ _ h _ _ _ hP hD hS (lv_sub hl [1, 0] rfl)
          · replace h := (if_pos c46).symm.trans h
            exact k_Mo_atomNumber_107 hC _ _ _ _ _ h _ _ _ hP hD hS (lv_sub hl [1, 0] rfl)
    · replace h := (if_neg c35).symm.trans h
      refine lv_aload_n hx hb d_Mo_atomNumber_10 rfl (lv_at hl 0 rfl) ?_
      refine lv_iload_n hx hb d_Mo_atomNumber_11 rfl (lv_at hl 1 rfl) ?_
      obtain ⟨r47, hr47, h⟩ := Option.bind_eq_some_iff.mp h
      refine cl_Ir hP hS hA (va_runV (As := [.int x1]) (rest := []) ⟨hx, hb, hml, hown, htb⟩ (c_Mo_isAlike l g F a_t t tL x1 _ hr47 H.size) (cw_V htb mb_Mo_isAlike (htb _ L_Mo_305) rfl rfl ⟨Nat.le_of_ble_eq_true rfl, Nat.le_of_ble_eq_true rfl⟩) (pre_V (va_recv hK hP (ci := 8) (q0 := 0) rfl rfl) (pre_S [0, 1, 2, 3, 4, 5, 6, 7, 8, 9, 10, 11, 12, 13, 14, 15, 16, 17, 18, 19, 20, 21, 22, 23, 24, 25, 26, 27, 28, 29, 30, 31, 32] rfl rfl hP hD hS hA hAA hG)) rfl rfl hl.1 rfl (lv_room (Nat.le_of_ble_eq_true rfl)) d_Mo_atomNumber_12 ⟨Nat.zero_le _, Nat.zero_le _⟩) (fun H locs hP hS => ?_)
      refine lv_if_eq (tgt := 20) hx hb d_Mo_atomNumber_15 (by decide) (fun c48 => ?_) (fun c48 => ?_)
      · replace h := (if_pos c48).symm.trans h
        refine lv_iinc (v := (x1 + (1 : Int32))) (lv' := [(1, .int (x1 + (1 : Int32))), (0, .ref (a_t 0))]) hx hb d_Mo_atomNumber_20 hl (k := 1) rfl rfl (by decide) rfl (fun ls hl => ?_)
        refine lv_goto (tgt := 2) hx hb d_Mo_atomNumber_23 (by decide) ?_
        exact ih _ _ _ _ h _ _ _ hP hD hS (lv_sub hl [1, 0] rfl)
      · replace h := (if_neg c48).symm.trans h
        refine lv_iload_n hx hb d_Mo_atomNumber_18 rfl (lv_at hl 1 rfl) ?_
        cases h
        exact W.iret hx hb hr (fun t ht hW => ⟨⟨_, (), rfl, rfl, by rw [ht]; exact hP, hD⟩, hS.F ht⟩) hS.2.2 d_Mo_atomNumber_19
set_option maxHeartbeats 4000000 in
set_option maxRecDepth 100000 in
theorem k_Mo_atomNumber {p : Program} {l : Launch} {e : Env} {s : State} {m : MethodId} {args : Array Value} {below : List Frame} {meth : Method} {c : Code} {g : Gz} {A : Nat → Prop} {F : Nat} {a_t : Nat → Nat} (hC : Cx prog_10_method_34_code 2 (some .int) R_Mo p s m args meth c g A A) : ∀ (t : StI) (tL : StL) (res : Int32 × StI × StL), Mo_atomNumber F t tL = some res → Go p l e rm_Mo_atomNumber s m args below meth c g A A 2 (MQ below (EI g ((pic_Mo g a_t res.2.1 res.2.2)) res.1 A) args s 0 0 A) ((pic_Mo g a_t t tL)) [(0, .ref (a_t 0))] 0 [] := by
  obtain ⟨hx, hb, hr, hml, hown, htb, hlocks, hA, hAA, hG⟩ := id hC
  have hK := hG.1
  intro t tL res h H locs ls hP hD hS hl
  rw [Mo_atomNumber] at h
  refine lv_iconst (v := 0) hx hb d_Mo_atomNumber_0 (by decide) ?_
  refine lv_istore_n (lv' := [(1, .int (0 : Int32)), (0, .ref (a_t 0))]) hx hb d_Mo_atomNumber_1 rfl hl (by decide) rfl (fun ls hl => ?_)
  exact k_Mo_atomNumber_2 hC F _ _ _ _ h _ _ _ hP hD hS (lv_sub hl [1, 0] rfl)
theorem c_Mo_atomNumber (l : Launch) (g : Gz) (F : Nat) (a_t : Nat → Nat) (t : StI) (tL : StL) (res : Int32 × StI × StL) (h : Mo_atomNumber F t tL = some res) : ∀ sz : Nat, Met l y_Mo_atomNumber (.code y_Mo_atomNumber prog_10_method_34_code 2 (some .int) :: TBL) rm_Mo_atomNumber (va_Pc [.ref (a_t 0)] (Pre0 g ((pic_Mo g a_t t tL)) sz)) (EI g ((pic_Mo g a_t res.2.1 res.2.2)) res.1 (va_A ((pic_Mo g a_t t tL)) sz)) 0 0 (va_A ((pic_Mo g a_t t tL)) sz) :=
  ct_w (Qc := fun A => EI g ((pic_Mo g a_t res.2.1 res.2.2)) res.1 A) (by decide) (Nat.le_of_ble_eq_true rfl) (fun p e s m args below meth c A hC => k_Mo_atomNumber hC t tL res h)
