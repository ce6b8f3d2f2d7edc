theorem L_Mo_160 : (Jvm.Cond.methodLink "MailQueriesModel" (160 : Nat) ({ cls := "MailQueriesModel", name := "see", desc := "(I)I" } : Jvm.MethodName)) ∈ TBL := TBL_in (List.mem_of_getElem? (i := 1188) (by decide +kernel)) (by decide +kernel)
theorem L_Mo_164 : (Jvm.Cond.methodLink "MailQueriesModel" (164 : Nat) ({ cls := "MailQueriesModel", name := "isPart", desc := "(I)Z" } : Jvm.MethodName)) ∈ TBL := TBL_in (List.mem_of_getElem? (i := 1196) (by decide +kernel)) (by decide +kernel)
set_option maxRecDepth 100000 in
theorem W_Mo_runEnd_code : (Jvm.Cond.code ({ cls := "MailQueriesModel", name := "runEnd", desc := "(I)I" } : Jvm.MethodName) prog_10_method_11_code (3 : Nat) (Option.some Jvm.ClassFile.FieldType.int)) ∈ TBL := TBL_in (List.mem_of_getElem? (i := 1206) rfl) rfl
theorem W_Mo_runEnd_in : (Jvm.Cond.instanceMethod ({ cls := "MailQueriesModel", name := "runEnd", desc := "(I)I" } : Jvm.MethodName)) ∈ TBL := TBL_in (List.mem_of_getElem? (i := 1205) (by decide +kernel)) (by decide +kernel)
theorem sel_55 : Cond.selects "MailQueriesModel" ⟨"MailQueriesModel", "runEnd", "(I)I"⟩ ⟨"MailQueriesModel", "runEnd", "(I)I"⟩ ∈ TBL := TBL_in (List.mem_of_getElem? (i := 55) (by decide +kernel)) (by decide +kernel)
theorem L_Mo_168 : (Jvm.Cond.methodLink "MailQueriesModel" (168 : Nat) ({ cls := "MailQueriesModel", name := "isSmall", desc := "(I)Z" } : Jvm.MethodName)) ∈ TBL := TBL_in (List.mem_of_getElem? (i := 1211) (by decide +kernel)) (by decide +kernel)
set_option maxRecDepth 100000 in
theorem W_Mo_isLetters_code : (Jvm.Cond.code ({ cls := "MailQueriesModel", name := "isLetters", desc := "(II)Z" } : Jvm.MethodName) prog_10_method_12_code (5 : Nat) (Option.some Jvm.ClassFile.FieldType.boolean)) ∈ TBL := TBL_in (List.mem_of_getElem? (i := 1210) rfl) rfl
theorem W_Mo_isLetters_in : (Jvm.Cond.instanceMethod ({ cls := "MailQueriesModel", name := "isLetters", desc := "(II)Z" } : Jvm.MethodName)) ∈ TBL := TBL_in (List.mem_of_getElem? (i := 1209) (by decide +kernel)) (by decide +kernel)
theorem sel_56 : Cond.selects "MailQueriesModel" ⟨"MailQueriesModel", "isLetters", "(II)Z"⟩ ⟨"MailQueriesModel", "isLetters", "(II)Z"⟩ ∈ TBL := TBL_in (List.mem_of_getElem? (i := 56) (by decide +kernel)) (by decide +kernel)
theorem K_Mo_171 : (Jvm.Cond.constantLong "MailQueriesModel" (171 : Nat) (255 : Int64)) ∈ TBL := TBL_in (List.mem_of_getElem? (i := 1223) (by decide +kernel)) (by decide +kernel)
set_option maxRecDepth 100000 in
theorem W_Mo_isText_code : (Jvm.Cond.code ({ cls := "MailQueriesModel", name := "isText", desc := "(IIJI)Z" } : Jvm.MethodName) prog_10_method_13_code (8 : Nat) (Option.some Jvm.ClassFile.FieldType.boolean)) ∈ TBL := TBL_in (List.mem_of_getElem? (i := 1222) rfl) rfl
theorem W_Mo_isText_in : (Jvm.Cond.instanceMethod ({ cls := "MailQueriesModel", name := "isText", desc := "(IIJI)Z" } : Jvm.MethodName)) ∈ TBL := TBL_in (List.mem_of_getElem? (i := 1221) (by decide +kernel)) (by decide +kernel)
theorem sel_58 : Cond.selects "MailQueriesModel" ⟨"MailQueriesModel", "isText", "(IIJI)Z"⟩ ⟨"MailQueriesModel", "isText", "(IIJI)Z"⟩ ∈ TBL := TBL_in (List.mem_of_getElem? (i := 58) (by decide +kernel)) (by decide +kernel)
theorem K_Mo_173 : (Jvm.Cond.constantLong "MailQueriesModel" (173 : Nat) (6385252 : Int64)) ∈ TBL := TBL_in (List.mem_of_getElem? (i := 1218) (by decide +kernel)) (by decide +kernel)
theorem K_Mo_179 : (Jvm.Cond.constantLong "MailQueriesModel" (179 : Nat) (28530 : Int64)) ∈ TBL := TBL_in (List.mem_of_getElem? (i := 1224) (by decide +kernel)) (by decide +kernel)
theorem K_Mo_181 : (Jvm.Cond.constantLong "MailQueriesModel" (181 : Nat) (7892850 : Int64)) ∈ TBL := TBL_in (List.mem_of_getElem? (i := 1225) (by decide +kernel)) (by decide +kernel)
theorem K_Mo_183 : (Jvm.Cond.constantLong "MailQueriesModel" (183 : Nat) (7237492 : Int64)) ∈ TBL := TBL_in (List.mem_of_getElem? (i := 1226) (by decide +kernel)) (by decide +kernel)
theorem L_Mo_175 : (Jvm.Cond.methodLink "MailQueriesModel" (175 : Nat) ({ cls := "MailQueriesModel", name := "isText", desc := "(IIJI)Z" } : Jvm.MethodName)) ∈ TBL := TBL_in (List.mem_of_getElem? (i := 1219) (by decide +kernel)) (by decide +kernel)
set_option maxRecDepth 100000 in
theorem W_Mo_operator_code : (Jvm.Cond.code ({ cls := "MailQueriesModel", name := "operator", desc := "(II)I" } : Jvm.MethodName) prog_10_method_14_code (3 : Nat) (Option.some Jvm.ClassFile.FieldType.int)) ∈ TBL := TBL_in (List.mem_of_getElem? (i := 1217) rfl) rfl
theorem W_Mo_operator_in : (Jvm.Cond.instanceMethod ({ cls := "MailQueriesModel", name := "operator", desc := "(II)I" } : Jvm.MethodName)) ∈ TBL := TBL_in (List.mem_of_getElem? (i := 1216) (by decide +kernel)) (by decide +kernel)
theorem sel_57 : Cond.selects "MailQueriesModel" ⟨"MailQueriesModel", "operator", "(II)I"⟩ ⟨"MailQueriesModel", "operator", "(II)I"⟩ ∈ TBL := TBL_in (List.mem_of_getElem? (i := 57) (by decide +kernel)) (by decide +kernel)
theorem K_Mo_185 : (Jvm.Cond.constantLong "MailQueriesModel" (185 : Nat) (27 : Int64)) ∈ TBL := TBL_in (List.mem_of_getElem? (i := 1231) (by decide +kernel)) (by decide +kernel)
theorem K_Mo_187 : (Jvm.Cond.constantLong "MailQueriesModel" (187 : Nat) (96 : Int64)) ∈ TBL := TBL_in (List.mem_of_getElem? (i := 1232) (by decide +kernel)) (by decide +kernel)
theorem L_Mo_53 : (Jvm.Cond.fieldLink "MailQueriesModel" (53 : Nat) "MailQueriesModel" "fieldNames" "[J") ∈ TBL := TBL_in (List.mem_of_getElem? (i := 980) (by decide +kernel)) (by decide +kernel)
set_option maxRecDepth 100000 in
theorem W_Mo_fieldOf_code : (Jvm.Cond.code ({ cls := "MailQueriesModel", name := "fieldOf", desc := "(II)I" } : Jvm.MethodName) prog_10_method_15_code (6 : Nat) (Option.some Jvm.ClassFile.FieldType.int)) ∈ TBL := TBL_in (List.mem_of_getElem? (i := 1230) rfl) rfl
theorem W_Mo_fieldOf_in : (Jvm.Cond.instanceMethod ({ cls := "MailQueriesModel", name := "fieldOf", desc := "(II)I" } : Jvm.MethodName)) ∈ TBL := TBL_in (List.mem_of_getElem? (i := 1229) (by decide +kernel)) (by decide +kernel)
theorem sel_59 : Cond.selects "MailQueriesModel" ⟨"MailQueriesModel", "fieldOf", "(II)I"⟩ ⟨"MailQueriesModel", "fieldOf", "(II)I"⟩ ∈ TBL := TBL_in (List.mem_of_getElem? (i := 59) (by decide +kernel)) (by decide +kernel)
theorem L_Mo_189 : (Jvm.Cond.fieldLink "MailQueriesModel" (189 : Nat) "MailQueriesModel" "phrase" "Z") ∈ TBL := TBL_in (List.mem_of_getElem? (i := 986) (by decide +kernel)) (by decide +kernel)
theorem L_Mo_193 : (Jvm.Cond.fieldLink "MailQueriesModel" (193 : Nat) "MailQueriesModel" "textFrom" "I") ∈ TBL := TBL_in (List.mem_of_getElem? (i := 984) (by decide +kernel)) (by decide +kernel)
theorem L_Mo_196 : (Jvm.Cond.fieldLink "MailQueriesModel" (196 : Nat) "MailQueriesModel" "textTo" "I") ∈ TBL := TBL_in (List.mem_of_getElem? (i := 985) (by decide +kernel)) (by decide +kernel)
theorem L_Mo_199 : (Jvm.Cond.fieldLink "MailQueriesModel" (199 : Nat) "MailQueriesModel" "at" "I") ∈ TBL := TBL_in (List.mem_of_getElem? (i := 975) (by decide +kernel)) (by decide +kernel)
set_option maxRecDepth 100000 in
theorem W_Mo_takePhrase_code : (Jvm.Cond.code ({ cls := "MailQueriesModel", name := "takePhrase", desc := "(I)Z" } : Jvm.MethodName) prog_10_method_16_code (3 : Nat) (Option.some Jvm.ClassFile.FieldType.boolean)) ∈ TBL := TBL_in (List.mem_of_getElem? (i := 1268) rfl) rfl
theorem W_Mo_takePhrase_in : (Jvm.Cond.instanceMethod ({ cls := "MailQueriesModel", name := "takePhrase", desc := "(I)Z" } : Jvm.MethodName)) ∈ TBL := TBL_in (List.mem_of_getElem? (i := 1267) (by decide +kernel)) (by decide +kernel)
theorem sel_68 : Cond.selects "MailQueriesModel" ⟨"MailQueriesModel", "takePhrase", "(I)Z"⟩ ⟨"MailQueriesModel", "takePhrase", "(I)Z"⟩ ∈ TBL := TBL_in (List.mem_of_getElem? (i := 68) (by decide +kernel)) (by decide +kernel)
theorem L_Mo_202 : (Jvm.Cond.methodLink "MailQueriesModel" (202 : Nat) ({ cls := "MailQueriesModel", name := "runEnd", desc := "(I)I" } : Jvm.MethodName)) ∈ TBL := TBL_in (List.mem_of_getElem? (i := 1203) (by decide +kernel)) (by decide +kernel)
set_option maxRecDepth 100000 in
theorem W_Mo_takeRun_code : (Jvm.Cond.code ({ cls := "MailQueriesModel", name := "takeRun", desc := "(I)V" } : Jvm.MethodName) prog_10_method_17_code (2 : Nat) (Option.none : Option Jvm.ClassFile.FieldType)) ∈ TBL := TBL_in (List.mem_of_getElem? (i := 1272) rfl) rfl
theorem W_Mo_takeRun_in : (Jvm.Cond.instanceMethod ({ cls := "MailQueriesModel", name := "takeRun", desc := "(I)V" } : Jvm.MethodName)) ∈ TBL := TBL_in (List.mem_of_getElem? (i := 1271) (by decide +kernel)) (by decide +kernel)
theorem sel_69 : Cond.selects "MailQueriesModel" ⟨"MailQueriesModel", "takeRun", "(I)V"⟩ ⟨"MailQueriesModel", "takeRun", "(I)V"⟩ ∈ TBL := TBL_in (List.mem_of_getElem? (i := 69) (by decide +kernel)) (by decide +kernel)
set_option maxRecDepth 100000 in
theorem W_Mo_isSpace_code : (Jvm.Cond.code ({ cls := "MailQueriesModel", name := "isSpace", desc := "(I)Z" } : Jvm.MethodName) prog_10_method_18_code (2 : Nat) (Option.some Jvm.ClassFile.FieldType.boolean)) ∈ TBL := TBL_in (List.mem_of_getElem? (i := 1195) rfl) rfl
theorem W_Mo_isSpace_in : (Jvm.Cond.instanceMethod ({ cls := "MailQueriesModel", name := "isSpace", desc := "(I)Z" } : Jvm.MethodName)) ∈ TBL := TBL_in (List.mem_of_getElem? (i := 1194) (by decide +kernel)) (by decide +kernel)
theorem sel_53 : Cond.selects "MailQueriesModel" ⟨"MailQueriesModel", "isSpace", "(I)Z"⟩ ⟨"MailQueriesModel", "isSpace", "(I)Z"⟩ ∈ TBL := TBL_in (List.mem_of_getElem? (i := 53) (by decide +kernel)) (by decide +kernel)
def y_Mo_runEnd : MethodName := ⟨"MailQueriesModel", "runEnd", "(I)I"⟩
def rm_Mo_runEnd : Room := { frames := 1, cells := 0, slots := 0, locals := 21 }
theorem d_Mo_runEnd_0 : decode prog_10_method_11_code 0 = .ok (.iload_n 1, 1) := by decide +kernel
theorem d_Mo_runEnd_1 : decode prog_10_method_11_code 1 = .ok (.istore_n 2, 1) := by decide +kernel
theorem d_Mo_runEnd_2 : decode prog_10_method_11_code 2 = .ok (.aload_n 0, 1) := by decide +kernel
theorem d_Mo_runEnd_3 : decode prog_10_method_11_code 3 = .ok (.iload_n 2, 1) := by decide +kernel
theorem d_Mo_runEnd_4 : decode prog_10_method_11_code 4 = .ok (.invokevirtual 160, 3) := by decide +kernel
theorem d_Mo_runEnd_7 : decode prog_10_method_11_code 7 = .ok (.invokestatic 164, 3) := by decide +kernel
theorem d_Mo_runEnd_10 : decode prog_10_method_11_code 10 = .ok (.ifCond .eq 9, 3) := by decide +kernel
theorem d_Mo_runEnd_13 : decode prog_10_method_11_code 13 = .ok (.iinc 2 1, 3) := by decide +kernel
theorem d_Mo_runEnd_16 : decode prog_10_method_11_code 16 = .ok (.goto (-14), 3) := by decide +kernel
theorem d_Mo_runEnd_19 : decode prog_10_method_11_code 19 = .ok (.iload_n 2, 1) := by decide +kernel
theorem d_Mo_runEnd_20 : decode prog_10_method_11_code 20 = .ok (.ireturn, 1) := by decide +kernel
def y_Mo_isLetters : MethodName := ⟨"MailQueriesModel", "isLetters", "(II)Z"⟩
def rm_Mo_isLetters : Room := { frames := 1, cells := 0, slots := 0, locals := 21 }
theorem d_Mo_isLetters_0 : decode prog_10_method_12_code 0 = .ok (.iload_n 2, 1) := by decide +kernel
theorem d_Mo_isLetters_1 : decode prog_10_method_12_code 1 = .ok (.iload_n 1, 1) := by decide +kernel
theorem d_Mo_isLetters_2 : decode prog_10_method_12_code 2 = .ok (.if_icmp .le 7, 3) := by decide +kernel
theorem d_Mo_isLetters_5 : decode prog_10_method_12_code 5 = .ok (.iconst 1, 1) := by decide +kernel
theorem d_Mo_isLetters_6 : decode prog_10_method_12_code 6 = .ok (.goto 4, 3) := by decide +kernel
theorem d_Mo_isLetters_9 : decode prog_10_method_12_code 9 = .ok (.iconst 0, 1) := by decide +kernel
theorem d_Mo_isLetters_10 : decode prog_10_method_12_code 10 = .ok (.istore_n 3, 1) := by decide +kernel
theorem d_Mo_isLetters_11 : decode prog_10_method_12_code 11 = .ok (.iload_n 1, 1) := by decide +kernel
theorem d_Mo_isLetters_12 : decode prog_10_method_12_code 12 = .ok (.istore 4, 2) := by decide +kernel
theorem d_Mo_isLetters_14 : decode prog_10_method_12_code 14 = .ok (.iload 4, 2) := by decide +kernel
theorem d_Mo_isLetters_16 : decode prog_10_method_12_code 16 = .ok (.iload_n 2, 1) := by decide +kernel
theorem d_Mo_isLetters_17 : decode prog_10_method_12_code 17 = .ok (.if_icmp .ge 31, 3) := by decide +kernel
theorem d_Mo_isLetters_20 : decode prog_10_method_12_code 20 = .ok (.iload_n 3, 1) := by decide +kernel
theorem d_Mo_isLetters_21 : decode prog_10_method_12_code 21 = .ok (.ifCond .eq 19, 3) := by decide +kernel
theorem d_Mo_isLetters_24 : decode prog_10_method_12_code 24 = .ok (.aload_n 0, 1) := by decide +kernel
theorem d_Mo_isLetters_25 : decode prog_10_method_12_code 25 = .ok (.iload 4, 2) := by decide +kernel
theorem d_Mo_isLetters_27 : decode prog_10_method_12_code 27 = .ok (.invokevirtual 160, 3) := by decide +kernel
theorem d_Mo_isLetters_30 : decode prog_10_method_12_code 30 = .ok (.invokestatic 168, 3) := by decide +kernel
theorem d_Mo_isLetters_33 : decode prog_10_method_12_code 33 = .ok (.ifCond .eq 7, 3) := by decide +kernel
theorem d_Mo_isLetters_36 : decode prog_10_method_12_code 36 = .ok (.iconst 1, 1) := by decide +kernel
theorem d_Mo_isLetters_37 : decode prog_10_method_12_code 37 = .ok (.goto 4, 3) := by decide +kernel
theorem d_Mo_isLetters_40 : decode prog_10_method_12_code 40 = .ok (.iconst 0, 1) := by decide +kernel
theorem d_Mo_isLetters_41 : decode prog_10_method_12_code 41 = .ok (.istore_n 3, 1) := by decide +kernel
theorem d_Mo_isLetters_42 : decode prog_10_method_12_code 42 = .ok (.iinc 4 1, 3) := by decide +kernel
theorem d_Mo_isLetters_45 : decode prog_10_method_12_code 45 = .ok (.goto (-31), 3) := by decide +kernel
theorem d_Mo_isLetters_48 : decode prog_10_method_12_code 48 = .ok (.iload_n 3, 1) := by decide +kernel
theorem d_Mo_isLetters_49 : decode prog_10_method_12_code 49 = .ok (.ireturn, 1) := by decide +kernel
def y_Mo_isText : MethodName := ⟨"MailQueriesModel", "isText", "(IIJI)Z"⟩
def rm_Mo_isText : Room := { frames := 1, cells := 0, slots := 0, locals := 21 }
theorem d_Mo_isText_0 : decode prog_10_method_13_code 0 = .ok (.iload_n 2, 1) := by decide +kernel
theorem d_Mo_isText_1 : decode prog_10_method_13_code 1 = .ok (.iload_n 1, 1) := by decide +kernel
theorem d_Mo_isText_2 : decode prog_10_method_13_code 2 = .ok (.isub, 1) := by decide +kernel
theorem d_Mo_isText_3 : decode prog_10_method_13_code 3 = .ok (.iload 5, 2) := by decide +kernel
theorem d_Mo_isText_5 : decode prog_10_method_13_code 5 = .ok (.if_icmp .ne 7, 3) := by decide +kernel
theorem d_Mo_isText_8 : decode prog_10_method_13_code 8 = .ok (.iconst 1, 1) := by decide +kernel
theorem d_Mo_isText_9 : decode prog_10_method_13_code 9 = .ok (.goto 4, 3) := by decide +kernel
theorem d_Mo_isText_12 : decode prog_10_method_13_code 12 = .ok (.iconst 0, 1) := by decide +kernel
theorem d_Mo_isText_13 : decode prog_10_method_13_code 13 = .ok (.istore 6, 2) := by decide +kernel
theorem d_Mo_isText_15 : decode prog_10_method_13_code 15 = .ok (.iconst 0, 1) := by decide +kernel
theorem d_Mo_isText_16 : decode prog_10_method_13_code 16 = .ok (.istore 7, 2) := by decide +kernel
theorem d_Mo_isText_18 : decode prog_10_method_13_code 18 = .ok (.iload 7, 2) := by decide +kernel
theorem d_Mo_isText_20 : decode prog_10_method_13_code 20 = .ok (.iload 5, 2) := by decide +kernel
theorem d_Mo_isText_22 : decode prog_10_method_13_code 22 = .ok (.if_icmp .ge 49, 3) := by decide +kernel
theorem d_Mo_isText_25 : decode prog_10_method_13_code 25 = .ok (.iload 6, 2) := by decide +kernel
theorem d_Mo_isText_27 : decode prog_10_method_13_code 27 = .ok (.ifCond .eq 44, 3) := by decide +kernel
theorem d_Mo_isText_30 : decode prog_10_method_13_code 30 = .ok (.aload_n 0, 1) := by decide +kernel
theorem d_Mo_isText_31 : decode prog_10_method_13_code 31 = .ok (.iload_n 1, 1) := by decide +kernel
theorem d_Mo_isText_32 : decode prog_10_method_13_code 32 = .ok (.iload 7, 2) := by decide +kernel
theorem d_Mo_isText_34 : decode prog_10_method_13_code 34 = .ok (.iadd, 1) := by decide +kernel
theorem d_Mo_isText_35 : decode prog_10_method_13_code 35 = .ok (.invokevirtual 160, 3) := by decide +kernel
theorem d_Mo_isText_38 : decode prog_10_method_13_code 38 = .ok (.lload_n 3, 1) := by decide +kernel
theorem d_Mo_isText_39 : decode prog_10_method_13_code 39 = .ok (.bipush 8, 2) := by decide +kernel
theorem d_Mo_isText_41 : decode prog_10_method_13_code 41 = .ok (.iload 5, 2) := by decide +kernel
theorem d_Mo_isText_43 : decode prog_10_method_13_code 43 = .ok (.iconst 1, 1) := by decide +kernel
theorem d_Mo_isText_44 : decode prog_10_method_13_code 44 = .ok (.isub, 1) := by decide +kernel
theorem d_Mo_isText_45 : decode prog_10_method_13_code 45 = .ok (.iload 7, 2) := by decide +kernel
theorem d_Mo_isText_47 : decode prog_10_method_13_code 47 = .ok (.isub, 1) := by decide +kernel
theorem d_Mo_isText_48 : decode prog_10_method_13_code 48 = .ok (.imul, 1) := by decide +kernel
theorem d_Mo_isText_49 : decode prog_10_method_13_code 49 = .ok (.lshr, 1) := by decide +kernel
theorem d_Mo_isText_50 : decode prog_10_method_13_code 50 = .ok (.ldc2_w 171, 3) := by decide +kernel
theorem d_Mo_isText_53 : decode prog_10_method_13_code 53 = .ok (.land, 1) := by decide +kernel
theorem d_Mo_isText_54 : decode prog_10_method_13_code 54 = .ok (.l2i, 1) := by decide +kernel
theorem d_Mo_isText_55 : decode prog_10_method_13_code 55 = .ok (.if_icmp .ne 7, 3) := by decide +kernel
theorem d_Mo_isText_58 : decode prog_10_method_13_code 58 = .ok (.iconst 1, 1) := by decide +kernel
theorem d_Mo_isText_59 : decode prog_10_method_13_code 59 = .ok (.goto 4, 3) := by decide +kernel
theorem d_Mo_isText_62 : decode prog_10_method_13_code 62 = .ok (.iconst 0, 1) := by decide +kernel
theorem d_Mo_isText_63 : decode prog_10_method_13_code 63 = .ok (.istore 6, 2) := by decide +kernel
theorem d_Mo_isText_65 : decode prog_10_method_13_code 65 = .ok (.iinc 7 1, 3) := by decide +kernel
theorem d_Mo_isText_68 : decode prog_10_method_13_code 68 = .ok (.goto (-50), 3) := by decide +kernel
theorem d_Mo_isText_71 : decode prog_10_method_13_code 71 = .ok (.iload 6, 2) := by decide +kernel
theorem d_Mo_isText_73 : decode prog_10_method_13_code 73 = .ok (.ireturn, 1) := by decide +kernel
def y_Mo_operator : MethodName := ⟨"MailQueriesModel", "operator", "(II)I"⟩
def rm_Mo_operator : Room := { frames := 2, cells := 0, slots := 0, locals := 48 }
theorem d_Mo_operator_0 : decode prog_10_method_14_code 0 = .ok (.aload_n 0, 1) := by decide +kernel
theorem d_Mo_operator_1 : decode prog_10_method_14_code 1 = .ok (.iload_n 1, 1) := by decide +kernel
theorem d_Mo_operator_2 : decode prog_10_method_14_code 2 = .ok (.iload_n 2, 1) := by decide +kernel
theorem d_Mo_operator_3 : decode prog_10_method_14_code 3 = .ok (.ldc2_w 173, 3) := by decide +kernel
theorem d_Mo_operator_6 : decode prog_10_method_14_code 6 = .ok (.iconst 3, 1) := by decide +kernel
theorem d_Mo_operator_7 : decode prog_10_method_14_code 7 = .ok (.invokevirtual 175, 3) := by decide +kernel
theorem d_Mo_operator_10 : decode prog_10_method_14_code 10 = .ok (.ifCond .eq 7, 3) := by decide +kernel
theorem d_Mo_operator_13 : decode prog_10_method_14_code 13 = .ok (.iconst 3, 1) := by decide +kernel
theorem d_Mo_operator_14 : decode prog_10_method_14_code 14 = .ok (.goto 55, 3) := by decide +kernel
theorem d_Mo_operator_17 : decode prog_10_method_14_code 17 = .ok (.aload_n 0, 1) := by decide +kernel
theorem d_Mo_operator_18 : decode prog_10_method_14_code 18 = .ok (.iload_n 1, 1) := by decide +kernel
theorem d_Mo_operator_19 : decode prog_10_method_14_code 19 = .ok (.iload_n 2, 1) := by decide +kernel
theorem d_Mo_operator_20 : decode prog_10_method_14_code 20 = .ok (.ldc2_w 179, 3) := by decide +kernel
theorem d_Mo_operator_23 : decode prog_10_method_14_code 23 = .ok (.iconst 2, 1) := by decide +kernel
theorem d_Mo_operator_24 : decode prog_10_method_14_code 24 = .ok (.invokevirtual 175, 3) := by decide +kernel
theorem d_Mo_operator_27 : decode prog_10_method_14_code 27 = .ok (.ifCond .eq 7, 3) := by decide +kernel
theorem d_Mo_operator_30 : decode prog_10_method_14_code 30 = .ok (.iconst 1, 1) := by decide +kernel
theorem d_Mo_operator_31 : decode prog_10_method_14_code 31 = .ok (.goto 38, 3) := by decide +kernel
theorem d_Mo_operator_34 : decode prog_10_method_14_code 34 = .ok (.aload_n 0, 1) := by decide +kernel
theorem d_Mo_operator_35 : decode prog_10_method_14_code 35 = .ok (.iload_n 1, 1) := by decide +kernel
theorem d_Mo_operator_36 : decode prog_10_method_14_code 36 = .ok (.iload_n 2, 1) := by decide +kernel
theorem d_Mo_operator_37 : decode prog_10_method_14_code 37 = .ok (.ldc2_w 181, 3) := by decide +kernel
theorem d_Mo_operator_40 : decode prog_10_method_14_code 40 = .ok (.iconst 3, 1) := by decide +kernel
theorem d_Mo_operator_41 : decode prog_10_method_14_code 41 = .ok (.invokevirtual 175, 3) := by decide +kernel
theorem d_Mo_operator_44 : decode prog_10_method_14_code 44 = .ok (.ifCond .eq 7, 3) := by decide +kernel
theorem d_Mo_operator_47 : decode prog_10_method_14_code 47 = .ok (.iconst 2, 1) := by decide +kernel
theorem d_Mo_operator_48 : decode prog_10_method_14_code 48 = .ok (.goto 21, 3) := by decide +kernel
theorem d_Mo_operator_51 : decode prog_10_method_14_code 51 = .ok (.aload_n 0, 1) := by decide +kernel
theorem d_Mo_operator_52 : decode prog_10_method_14_code 52 = .ok (.iload_n 1, 1) := by decide +kernel
theorem d_Mo_operator_53 : decode prog_10_method_14_code 53 = .ok (.iload_n 2, 1) := by decide +kernel
theorem d_Mo_operator_54 : decode prog_10_method_14_code 54 = .ok (.ldc2_w 183, 3) := by decide +kernel
theorem d_Mo_operator_57 : decode prog_10_method_14_code 57 = .ok (.iconst 3, 1) := by decide +kernel
theorem d_Mo_operator_58 : decode prog_10_method_14_code 58 = .ok (.invokevirtual 175, 3) := by decide +kernel
theorem d_Mo_operator_61 : decode prog_10_method_14_code 61 = .ok (.ifCond .eq 7, 3) := by decide +kernel
theorem d_Mo_operator_64 : decode prog_10_method_14_code 64 = .ok (.iconst 4, 1) := by decide +kernel
theorem d_Mo_operator_65 : decode prog_10_method_14_code 65 = .ok (.goto 4, 3) := by decide +kernel
theorem d_Mo_operator_68 : decode prog_10_method_14_code 68 = .ok (.iconst (-1), 1) := by decide +kernel
theorem d_Mo_operator_69 : decode prog_10_method_14_code 69 = .ok (.ireturn, 1) := by decide +kernel
def y_Mo_fieldOf : MethodName := ⟨"MailQueriesModel", "fieldOf", "(II)I"⟩
def rm_Mo_fieldOf : Room := { frames := 1, cells := 0, slots := 0, locals := 21 }
theorem d_Mo_fieldOf_0 : decode prog_10_method_15_code 0 = .ok (.iload_n 2, 1) := by decide +kernel
theorem d_Mo_fieldOf_1 : decode prog_10_method_15_code 1 = .ok (.iload_n 1, 1) := by decide +kernel
theorem d_Mo_fieldOf_2 : decode prog_10_method_15_code 2 = .ok (.isub, 1) := by decide +kernel
theorem d_Mo_fieldOf_3 : decode prog_10_method_15_code 3 = .ok (.bipush 10, 2) := by decide +kernel
theorem d_Mo_fieldOf_5 : decode prog_10_method_15_code 5 = .ok (.if_icmp .le 5, 3) := by decide +kernel
theorem d_Mo_fieldOf_8 : decode prog_10_method_15_code 8 = .ok (.iconst (-1), 1) := by decide +kernel
theorem d_Mo_fieldOf_9 : decode prog_10_method_15_code 9 = .ok (.ireturn, 1) := by decide +kernel
theorem d_Mo_fieldOf_10 : decode prog_10_method_15_code 10 = .ok (.lconst 0, 1) := by decide +kernel
theorem d_Mo_fieldOf_11 : decode prog_10_method_15_code 11 = .ok (.lstore_n 3, 1) := by decide +kernel
theorem d_Mo_fieldOf_12 : decode prog_10_method_15_code 12 = .ok (.iload_n 1, 1) := by decide +kernel
theorem d_Mo_fieldOf_13 : decode prog_10_method_15_code 13 = .ok (.istore 5, 2) := by decide +kernel
theorem d_Mo_fieldOf_15 : decode prog_10_method_15_code 15 = .ok (.iload 5, 2) := by decide +kernel
theorem d_Mo_fieldOf_17 : decode prog_10_method_15_code 17 = .ok (.iload_n 2, 1) := by decide +kernel
theorem d_Mo_fieldOf_18 : decode prog_10_method_15_code 18 = .ok (.if_icmp .ge 27, 3) := by decide +kernel
theorem d_Mo_fieldOf_21 : decode prog_10_method_15_code 21 = .ok (.ldc2_w 185, 3) := by decide +kernel
theorem d_Mo_fieldOf_24 : decode prog_10_method_15_code 24 = .ok (.lload_n 3, 1) := by decide +kernel
theorem d_Mo_fieldOf_25 : decode prog_10_method_15_code 25 = .ok (.lmul, 1) := by decide +kernel
theorem d_Mo_fieldOf_26 : decode prog_10_method_15_code 26 = .ok (.aload_n 0, 1) := by decide +kernel
theorem d_Mo_fieldOf_27 : decode prog_10_method_15_code 27 = .ok (.iload 5, 2) := by decide +kernel
theorem d_Mo_fieldOf_29 : decode prog_10_method_15_code 29 = .ok (.invokevirtual 160, 3) := by decide +kernel
theorem d_Mo_fieldOf_32 : decode prog_10_method_15_code 32 = .ok (.i2l, 1) := by decide +kernel
theorem d_Mo_fieldOf_33 : decode prog_10_method_15_code 33 = .ok (.ladd, 1) := by decide +kernel
theorem d_Mo_fieldOf_34 : decode prog_10_method_15_code 34 = .ok (.ldc2_w 187, 3) := by decide +kernel
theorem d_Mo_fieldOf_37 : decode prog_10_method_15_code 37 = .ok (.lsub, 1) := by decide +kernel
theorem d_Mo_fieldOf_38 : decode prog_10_method_15_code 38 = .ok (.lstore_n 3, 1) := by decide +kernel
theorem d_Mo_fieldOf_39 : decode prog_10_method_15_code 39 = .ok (.iinc 5 1, 3) := by decide +kernel
theorem d_Mo_fieldOf_42 : decode prog_10_method_15_code 42 = .ok (.goto (-27), 3) := by decide +kernel
theorem d_Mo_fieldOf_45 : decode prog_10_method_15_code 45 = .ok (.iconst 0, 1) := by decide +kernel
theorem d_Mo_fieldOf_46 : decode prog_10_method_15_code 46 = .ok (.istore 5, 2) := by decide +kernel
theorem d_Mo_fieldOf_48 : decode prog_10_method_15_code 48 = .ok (.iload 5, 2) := by decide +kernel
theorem d_Mo_fieldOf_50 : decode prog_10_method_15_code 50 = .ok (.bipush 12, 2) := by decide +kernel
theorem d_Mo_fieldOf_52 : decode prog_10_method_15_code 52 = .ok (.if_icmp .ge 26, 3) := by decide +kernel
theorem d_Mo_fieldOf_55 : decode prog_10_method_15_code 55 = .ok (.aload_n 0, 1) := by decide +kernel
theorem d_Mo_fieldOf_56 : decode prog_10_method_15_code 56 = .ok (.getfield 53, 3) := by decide +kernel
theorem d_Mo_fieldOf_59 : decode prog_10_method_15_code 59 = .ok (.iload 5, 2) := by decide +kernel
theorem d_Mo_fieldOf_61 : decode prog_10_method_15_code 61 = .ok (.laload, 1) := by decide +kernel
theorem d_Mo_fieldOf_62 : decode prog_10_method_15_code 62 = .ok (.lload_n 3, 1) := by decide +kernel
theorem d_Mo_fieldOf_63 : decode prog_10_method_15_code 63 = .ok (.lcmp, 1) := by decide +kernel
theorem d_Mo_fieldOf_64 : decode prog_10_method_15_code 64 = .ok (.ifCond .ne 8, 3) := by decide +kernel
theorem d_Mo_fieldOf_67 : decode prog_10_method_15_code 67 = .ok (.iload 5, 2) := by decide +kernel
theorem d_Mo_fieldOf_69 : decode prog_10_method_15_code 69 = .ok (.iconst 1, 1) := by decide +kernel
theorem d_Mo_fieldOf_70 : decode prog_10_method_15_code 70 = .ok (.iadd, 1) := by decide +kernel
theorem d_Mo_fieldOf_71 : decode prog_10_method_15_code 71 = .ok (.ireturn, 1) := by decide +kernel
theorem d_Mo_fieldOf_72 : decode prog_10_method_15_code 72 = .ok (.iinc 5 1, 3) := by decide +kernel
theorem d_Mo_fieldOf_75 : decode prog_10_method_15_code 75 = .ok (.goto (-27), 3) := by decide +kernel
theorem d_Mo_fieldOf_78 : decode prog_10_method_15_code 78 = .ok (.iconst (-1), 1) := by decide +kernel
theorem d_Mo_fieldOf_79 : decode prog_10_method_15_code 79 = .ok (.ireturn, 1) := by decide +kernel
def y_Mo_takePhrase : MethodName := ⟨"MailQueriesModel", "takePhrase", "(I)Z"⟩
def rm_Mo_takePhrase : Room := { frames := 1, cells := 0, slots := 0, locals := 21 }
theorem d_Mo_takePhrase_0 : decode prog_10_method_16_code 0 = .ok (.iload_n 1, 1) := by decide +kernel
theorem d_Mo_takePhrase_1 : decode prog_10_method_16_code 1 = .ok (.iconst 1, 1) := by decide +kernel
theorem d_Mo_takePhrase_2 : decode prog_10_method_16_code 2 = .ok (.iadd, 1) := by decide +kernel
theorem d_Mo_takePhrase_3 : decode prog_10_method_16_code 3 = .ok (.istore_n 2, 1) := by decide +kernel
theorem d_Mo_takePhrase_4 : decode prog_10_method_16_code 4 = .ok (.aload_n 0, 1) := by decide +kernel
theorem d_Mo_takePhrase_5 : decode prog_10_method_16_code 5 = .ok (.iload_n 2, 1) := by decide +kernel
theorem d_Mo_takePhrase_6 : decode prog_10_method_16_code 6 = .ok (.invokevirtual 160, 3) := by decide +kernel
theorem d_Mo_takePhrase_9 : decode prog_10_method_16_code 9 = .ok (.iconst (-1), 1) := by decide +kernel
theorem d_Mo_takePhrase_10 : decode prog_10_method_16_code 10 = .ok (.if_icmp .eq 19, 3) := by decide +kernel
theorem d_Mo_takePhrase_13 : decode prog_10_method_16_code 13 = .ok (.aload_n 0, 1) := by decide +kernel
theorem d_Mo_takePhrase_14 : decode prog_10_method_16_code 14 = .ok (.iload_n 2, 1) := by decide +kernel
theorem d_Mo_takePhrase_15 : decode prog_10_method_16_code 15 = .ok (.invokevirtual 160, 3) := by decide +kernel
theorem d_Mo_takePhrase_18 : decode prog_10_method_16_code 18 = .ok (.bipush 34, 2) := by decide +kernel
theorem d_Mo_takePhrase_20 : decode prog_10_method_16_code 20 = .ok (.if_icmp .eq 9, 3) := by decide +kernel
theorem d_Mo_takePhrase_23 : decode prog_10_method_16_code 23 = .ok (.iinc 2 1, 3) := by decide +kernel
theorem d_Mo_takePhrase_26 : decode prog_10_method_16_code 26 = .ok (.goto (-22), 3) := by decide +kernel
theorem d_Mo_takePhrase_29 : decode prog_10_method_16_code 29 = .ok (.aload_n 0, 1) := by decide +kernel
theorem d_Mo_takePhrase_30 : decode prog_10_method_16_code 30 = .ok (.iconst 1, 1) := by decide +kernel
theorem d_Mo_takePhrase_31 : decode prog_10_method_16_code 31 = .ok (.putfield 189, 3) := by decide +kernel
theorem d_Mo_takePhrase_34 : decode prog_10_method_16_code 34 = .ok (.aload_n 0, 1) := by decide +kernel
theorem d_Mo_takePhrase_35 : decode prog_10_method_16_code 35 = .ok (.iload_n 1, 1) := by decide +kernel
theorem d_Mo_takePhrase_36 : decode prog_10_method_16_code 36 = .ok (.iconst 1, 1) := by decide +kernel
theorem d_Mo_takePhrase_37 : decode prog_10_method_16_code 37 = .ok (.iadd, 1) := by decide +kernel
theorem d_Mo_takePhrase_38 : decode prog_10_method_16_code 38 = .ok (.putfield 193, 3) := by decide +kernel
theorem d_Mo_takePhrase_41 : decode prog_10_method_16_code 41 = .ok (.aload_n 0, 1) := by decide +kernel
theorem d_Mo_takePhrase_42 : decode prog_10_method_16_code 42 = .ok (.iload_n 2, 1) := by decide +kernel
theorem d_Mo_takePhrase_43 : decode prog_10_method_16_code 43 = .ok (.putfield 196, 3) := by decide +kernel
theorem d_Mo_takePhrase_46 : decode prog_10_method_16_code 46 = .ok (.aload_n 0, 1) := by decide +kernel
theorem d_Mo_takePhrase_47 : decode prog_10_method_16_code 47 = .ok (.iload_n 2, 1) := by decide +kernel
theorem d_Mo_takePhrase_48 : decode prog_10_method_16_code 48 = .ok (.iconst 1, 1) := by decide +kernel
theorem d_Mo_takePhrase_49 : decode prog_10_method_16_code 49 = .ok (.iadd, 1) := by decide +kernel
theorem d_Mo_takePhrase_50 : decode prog_10_method_16_code 50 = .ok (.putfield 199, 3) := by decide +kernel
theorem d_Mo_takePhrase_53 : decode prog_10_method_16_code 53 = .ok (.aload_n 0, 1) := by decide +kernel
theorem d_Mo_takePhrase_54 : decode prog_10_method_16_code 54 = .ok (.iload_n 2, 1) := by decide +kernel
theorem d_Mo_takePhrase_55 : decode prog_10_method_16_code 55 = .ok (.invokevirtual 160, 3) := by decide +kernel
theorem d_Mo_takePhrase_58 : decode prog_10_method_16_code 58 = .ok (.bipush 34, 2) := by decide +kernel
theorem d_Mo_takePhrase_60 : decode prog_10_method_16_code 60 = .ok (.if_icmp .ne 14, 3) := by decide +kernel
theorem d_Mo_takePhrase_63 : decode prog_10_method_16_code 63 = .ok (.iload_n 2, 1) := by decide +kernel
theorem d_Mo_takePhrase_64 : decode prog_10_method_16_code 64 = .ok (.iload_n 1, 1) := by decide +kernel
theorem d_Mo_takePhrase_65 : decode prog_10_method_16_code 65 = .ok (.iconst 1, 1) := by decide +kernel
theorem d_Mo_takePhrase_66 : decode prog_10_method_16_code 66 = .ok (.iadd, 1) := by decide +kernel
theorem d_Mo_takePhrase_67 : decode prog_10_method_16_code 67 = .ok (.if_icmp .le 7, 3) := by decide +kernel
theorem d_Mo_takePhrase_70 : decode prog_10_method_16_code 70 = .ok (.iconst 1, 1) := by decide +kernel
theorem d_Mo_takePhrase_71 : decode prog_10_method_16_code 71 = .ok (.goto 4, 3) := by decide +kernel
theorem d_Mo_takePhrase_74 : decode prog_10_method_16_code 74 = .ok (.iconst 0, 1) := by decide +kernel
theorem d_Mo_takePhrase_75 : decode prog_10_method_16_code 75 = .ok (.ireturn, 1) := by decide +kernel
def y_Mo_takeRun : MethodName := ⟨"MailQueriesModel", "takeRun", "(I)V"⟩
def rm_Mo_takeRun : Room := { frames := 2, cells := 0, slots := 0, locals := 43 }
theorem d_Mo_takeRun_0 : decode prog_10_method_17_code 0 = .ok (.aload_n 0, 1) := by decide +kernel
theorem d_Mo_takeRun_1 : decode prog_10_method_17_code 1 = .ok (.iconst 0, 1) := by decide +kernel
theorem d_Mo_takeRun_2 : decode prog_10_method_17_code 2 = .ok (.putfield 189, 3) := by decide +kernel
theorem d_Mo_takeRun_5 : decode prog_10_method_17_code 5 = .ok (.aload_n 0, 1) := by decide +kernel
theorem d_Mo_takeRun_6 : decode prog_10_method_17_code 6 = .ok (.iload_n 1, 1) := by decide +kernel
theorem d_Mo_takeRun_7 : decode prog_10_method_17_code 7 = .ok (.putfield 193, 3) := by decide +kernel
theorem d_Mo_takeRun_10 : decode prog_10_method_17_code 10 = .ok (.aload_n 0, 1) := by decide +kernel
theorem d_Mo_takeRun_11 : decode prog_10_method_17_code 11 = .ok (.aload_n 0, 1) := by decide +kernel
theorem d_Mo_takeRun_12 : decode prog_10_method_17_code 12 = .ok (.iload_n 1, 1) := by decide +kernel
theorem d_Mo_takeRun_13 : decode prog_10_method_17_code 13 = .ok (.invokevirtual 202, 3) := by decide +kernel
theorem d_Mo_takeRun_16 : decode prog_10_method_17_code 16 = .ok (.putfield 196, 3) := by decide +kernel
theorem d_Mo_takeRun_19 : decode prog_10_method_17_code 19 = .ok (.aload_n 0, 1) := by decide +kernel
theorem d_Mo_takeRun_20 : decode prog_10_method_17_code 20 = .ok (.aload_n 0, 1) := by decide +kernel
theorem d_Mo_takeRun_21 : decode prog_10_method_17_code 21 = .ok (.getfield 196, 3) := by decide +kernel
theorem d_Mo_takeRun_24 : decode prog_10_method_17_code 24 = .ok (.putfield 199, 3) := by decide +kernel
theorem d_Mo_takeRun_27 : decode prog_10_method_17_code 27 = .ok (.return_, 1) := by decide +kernel
def y_Mo_isSpace : MethodName := ⟨"MailQueriesModel", "isSpace", "(I)Z"⟩
def rm_Mo_isSpace : Room := { frames := 0, cells := 0, slots := 0, locals := 0 }
theorem d_Mo_isSpace_0 : decode prog_10_method_18_code 0 = .ok (.iload_n 1, 1) := by decide +kernel
theorem d_Mo_isSpace_1 : decode prog_10_method_18_code 1 = .ok (.bipush 32, 2) := by decide +kernel
theorem d_Mo_isSpace_3 : decode prog_10_method_18_code 3 = .ok (.if_icmp .eq 9, 3) := by decide +kernel
theorem d_Mo_isSpace_6 : decode prog_10_method_18_code 6 = .ok (.iload_n 1, 1) := by decide +kernel
theorem d_Mo_isSpace_7 : decode prog_10_method_18_code 7 = .ok (.bipush 9, 2) := by decide +kernel
theorem d_Mo_isSpace_9 : decode prog_10_method_18_code 9 = .ok (.if_icmp .ne 7, 3) := by decide +kernel
theorem d_Mo_isSpace_12 : decode prog_10_method_18_code 12 = .ok (.iconst 1, 1) := by decide +kernel
theorem d_Mo_isSpace_13 : decode prog_10_method_18_code 13 = .ok (.goto 4, 3) := by decide +kernel
theorem d_Mo_isSpace_16 : decode prog_10_method_18_code 16 = .ok (.iconst 0, 1) := by decide +kernel
theorem d_Mo_isSpace_17 : decode prog_10_method_18_code 17 = .ok (.ireturn, 1) := by decide +kernel
theorem mb_Mo_runEnd : Mb y_Mo_runEnd prog_10_method_11_code 3 (some .int) 1 := ⟨W_Mo_runEnd_code, W_Mo_runEnd_in, sel_55, I_Mo, by decide +kernel, by decide +kernel, by decide +kernel⟩
theorem mb_Mo_isLetters : Mb y_Mo_isLetters prog_10_method_12_code 5 (some .boolean) 2 := ⟨W_Mo_isLetters_code, W_Mo_isLetters_in, sel_56, I_Mo, by decide +kernel, by decide +kernel, by decide +kernel⟩
theorem mb_Mo_isText : Mb y_Mo_isText prog_10_method_13_code 8 (some .boolean) 4 := ⟨W_Mo_isText_code, W_Mo_isText_in, sel_58, I_Mo, by decide +kernel, by decide +kernel, by decide +kernel⟩
theorem mb_Mo_operator : Mb y_Mo_operator prog_10_method_14_code 3 (some .int) 2 := ⟨W_Mo_operator_code, W_Mo_operator_in, sel_57, I_Mo, by decide +kernel, by decide +kernel, by decide +kernel⟩
theorem mb_Mo_fieldOf : Mb y_Mo_fieldOf prog_10_method_15_code 6 (some .int) 2 := ⟨W_Mo_fieldOf_code, W_Mo_fieldOf_in, sel_59, I_Mo, by decide +kernel, by decide +kernel, by decide +kernel⟩
theorem mb_Mo_takePhrase : Mb y_Mo_takePhrase prog_10_method_16_code 3 (some .boolean) 1 := ⟨W_Mo_takePhrase_code, W_Mo_takePhrase_in, sel_68, I_Mo, by decide +kernel, by decide +kernel, by decide +kernel⟩
theorem mb_Mo_takeRun : Mb y_Mo_takeRun prog_10_method_17_code 2 none 1 := ⟨W_Mo_takeRun_code, W_Mo_takeRun_in, sel_69, I_Mo, by decide +kernel, by decide +kernel, by decide +kernel⟩
theorem mb_Mo_isSpace : Mb y_Mo_isSpace prog_10_method_18_code 2 (some .boolean) 1 := ⟨W_Mo_isSpace_code, W_Mo_isSpace_in, sel_53, I_Mo, by decide +kernel, by decide +kernel, by decide +kernel⟩
def Mo_runEnd_2 (F : Nat) : Nat → StI → StL → Int32 → Option (Int32)
  | 0, _, _, _ => none
  | n + 1, t, tL, x2 => (Mo_see F t tL x2).bind fun r4 => (Mo_isPart F r4).bind fun r5 => if r5 = 0 then some x2 else Mo_runEnd_2 F n t tL (x2 + (1 : Int32))
def Mo_runEnd (F : Nat) (t : StI) (tL : StL) (x1 : Int32) : Option (Int32) := Mo_runEnd_2 F F t tL x1
set_option maxHeartbeats 4000000 in
set_option maxRecDepth 100000 in
theorem k_Mo_runEnd_2 {p : Program} {l : Launch} {e : Env} {s : State} {m : MethodId} {args : Array Value} {below : List Frame} {meth : Method} {c : Code} {g : Gz} {A2 A : Nat → Prop} {F : Nat} {a_t : Nat → Nat} (hC : Cx prog_10_method_11_code 3 (some .int) R_Mo p s m args meth c g A2 A) : ∀ (n : Nat) (t : StI) (tL : StL) (x2 : Int32) (res : Int32), Mo_runEnd_2 F n t tL x2 = some res → Go p l e rm_Mo_runEnd s m args below meth c g A2 A 3 (MQ below (RI res A) args s 0 0 A) ((pic_Mo g a_t t tL)) [(0, .ref (a_t 0)), (2, .int x2)] 2 [] := by
  obtain ⟨hx, hb, hr, hml, hown, htb, hlocks, hA, hAA, hG⟩ := id hC
  have hK := hG.1
  intro n
  induction n with
  | zero => intro t tL x2 res h; rw [Mo_runEnd_2] at h; cases h
  | succ n ih =>
    intro t tL x2 res h H locs ls hP hD hS hl
    rw [Mo_runEnd_2] at h
    refine lv_aload_n hx hb d_Mo_runEnd_2 rfl (lv_at hl 0 rfl) ?_
    refine lv_iload_n hx hb d_Mo_runEnd_3 rfl (lv_at hl 1 rfl) ?_
    obtain ⟨r4, hr4, h⟩ := Option.bind_eq_some_iff.mp h
    refine cl_Ir hP hS hA (va_runV (As := [.int x2]) (rest := []) ⟨hx, hb, hml, hown, htb⟩ (c_Mo_see l g F a_t t tL x2 _ hr4 H.size) (cw_V htb mb_Mo_see (htb _ L_Mo_160) rfl rfl ⟨Nat.le_of_ble_eq_true rfl, Nat.le_of_ble_eq_true rfl⟩) (pre_V (va_recv hK hP (ci := 8) (q0 := 0) rfl rfl) (pre_S [0, 1, 2, 3, 4, 5, 6, 7, 8, 9, 10, 11, 12, 13, 14, 15, 16, 17, 18, 19, 20, 21, 22, 23, 24, 25, 26, 27, 28, 29, 30, 31, 32] rfl rfl hP hD hS hA hAA hG)) rfl rfl hl.1 rfl (lv_room (Nat.le_of_ble_eq_true rfl)) d_Mo_runEnd_4 ⟨Nat.zero_le _, Nat.zero_le _⟩) (fun H locs hP hS => ?_)
    obtain ⟨r5, hr5, h⟩ := Option.bind_eq_some_iff.mp h
    refine cl_Ir hP hS hA (va_runS (As := [.int r4]) (rest := []) ⟨hx, hb, hml, hown, htb⟩ (c_Mo_isPart l g F r4 _ hr5 H.size) (cw_S htb mb_Mo_isPart (htb _ L_Mo_164) rfl rfl ⟨Nat.le_of_ble_eq_true rfl, Nat.le_of_ble_eq_true rfl⟩) (pre_S [] rfl rfl hP hD hS hA hAA hG) rfl rfl hl.1 rfl (lv_room (Nat.le_of_ble_eq_true rfl)) d_Mo_runEnd_7 ⟨Nat.zero_le _, Nat.zero_le _⟩) (fun H locs hP hS => ?_)
    refine lv_if_eq (tgt := 19) hx hb d_Mo_runEnd_10 (by decide) (fun c6 => ?_) (fun c6 => ?_)
    · replace h := (if_pos c6).symm.trans h
      refine lv_iload_n hx hb d_Mo_runEnd_19 rfl (lv_at hl 1 rfl) ?_
      cases h
      exact W.iret hx hb hr (fun t ht hW => ⟨⟨_, (), rfl, rfl, trivial⟩, hS.F ht⟩) hS.2.2 d_Mo_runEnd_20
    · replace h := (if_neg c6).symm.trans h
      refine lv_iinc (v := (x2 + (1 : Int32))) (lv' := [(2, .int (x2 + (1 : Int32))), (0, .ref (a_t 0))]) hx hb d_Mo_runEnd_13 hl (k := 1) rfl rfl (by decide) rfl (fun ls hl => ?_)
      refine lv_goto (tgt := 2) hx hb d_Mo_runEnd_16 (by decide) ?_
      exact ih _ _ _ _ h _ _ _ hP hD hS (lv_sub hl [1, 0] rfl)
set_option maxHeartbeats 4000000 in
set_option maxRecDepth 100000 in
theorem k_Mo_runEnd {p : Program} {l : Launch} {e : Env} {s : State} {m : MethodId} {args : Array Value} {below : List Frame} {meth : Method} {c : Code} {g : Gz} {A2 A : Nat → Prop} {F : Nat} {a_t : Nat → Nat} (hC : Cx prog_10_method_11_code 3 (some .int) R_Mo p s m args meth c g A2 A) : ∀ (t : StI) (tL : StL) (x1 : Int32) (res : Int32), Mo_runEnd F t tL x1 = some res → Go p l e rm_Mo_runEnd s m args below meth c g A2 A 3 (MQ below (RI res A) args s 0 0 A) ((pic_Mo g a_t t tL)) [(0, .ref (a_t 0)), (1, .int x1)] 0 [] := by
  obtain ⟨hx, hb, hr, hml, hown, htb, hlocks, hA, hAA, hG⟩ := id hC
  have hK := hG.1
  intro t tL x1 res h H locs ls hP hD hS hl
  rw [Mo_runEnd] at h
  refine lv_iload_n hx hb d_Mo_runEnd_0 rfl (lv_at hl 1 rfl) ?_
  refine lv_istore_n (lv' := [(2, .int x1), (0, .ref (a_t 0)), (1, .int x1)]) hx hb d_Mo_runEnd_1 rfl hl (by decide) rfl (fun ls hl => ?_)
  exact k_Mo_runEnd_2 hC F _ _ _ _ h _ _ _ hP hD hS (lv_sub hl [1, 0] rfl)
theorem c_Mo_runEnd (l : Launch) (g : Gz) (F : Nat) (a_t : Nat → Nat) (t : StI) (tL : StL) (x1 : Int32) (res : Int32) (h : Mo_runEnd F t tL x1 = some res) : ∀ sz : Nat, Met l y_Mo_runEnd (.code y_Mo_runEnd prog_10_method_11_code 3 (some .int) :: TBL) rm_Mo_runEnd (va_Pc [.ref (a_t 0), .int x1] (Pre0 g ((pic_Mo g a_t t tL)) sz)) (RI res (fun q => sz ≤ q)) 0 0 (fun q => sz ≤ q) :=
  ct_r (Qc := fun A => RI res A) (by decide) (Nat.le_of_ble_eq_true rfl) (fun p e s m args below meth c A2 A hC => k_Mo_runEnd hC t tL x1 res h)
def Mo_isLetters_41 (F : Nat) (k14 : StI → StL → Int32 → Int32 → Int32 → Option (Int32)) (t : StI) (tL : StL) (x2 : Int32) (x4 : Int32) (y0 : Int32) : Option (Int32) := k14 t tL x2 y0 (x4 + (1 : Int32))
def Mo_isLetters_40 (F : Nat) (k14 : StI → StL → Int32 → Int32 → Int32 → Option (Int32)) (t : StI) (tL : StL) (x2 : Int32) (x4 : Int32) : Option (Int32) := Mo_isLetters_41 F k14 t tL x2 x4 (0 : Int32)
def Mo_isLetters_14 (F : Nat) : Nat → StI → StL → Int32 → Int32 → Int32 → Option (Int32)
  | 0, _, _, _, _, _ => none
  | n + 1, t, tL, x2, x3, x4 => if x2 ≤ x4 then if x3 = 0 ∨ x3 = 1 then some x3 else none else if x3 = 0 then Mo_isLetters_40 F (Mo_isLetters_14 F n) t tL x2 x4 else (Mo_see F t tL x4).bind fun r11 => (Mo_isSmall F r11).bind fun r12 => if r12 = 0 then Mo_isLetters_40 F (Mo_isLetters_14 F n) t tL x2 x4 else Mo_isLetters_41 F (Mo_isLetters_14 F n) t tL x2 x4 (1 : Int32)
def Mo_isLetters_10 (F : Nat) (t : StI) (tL : StL) (x1 : Int32) (x2 : Int32) (y0 : Int32) : Option (Int32) := Mo_isLetters_14 F F t tL x2 y0 x1
def Mo_isLetters (F : Nat) (t : StI) (tL : StL) (x1 : Int32) (x2 : Int32) : Option (Int32) := if x2 ≤ x1 then Mo_isLetters_10 F t tL x1 x2 (0 : Int32) else Mo_isLetters_10 F t tL x1 x2 (1 : Int32)
set_option maxHeartbeats 4000000 in
set_option maxRecDepth 100000 in
theorem k_Mo_isLetters_41 {p : Program} {l : Launch} {e : Env} {s : State} {m : MethodId} {args : Array Value} {below : List Frame} {meth : Method} {c : Code} {g : Gz} {A2 A : Nat → Prop} {F : Nat} {a_t : Nat → Nat} {k14 : StI → StL → Int32 → Int32 → Int32 → Option (Int32)} (hC : Cx prog_10_method_12_code 5 (some .boolean) R_Mo p s m args meth c g A2 A) : ∀ (t : StI) (tL : StL) (x2 : Int32) (x4 : Int32) (y0 : Int32) (res : Int32), Mo_isLetters_41 F k14 t tL x2 x4 y0 = some res → (∀ (t : StI) (tL : StL) (x2 : Int32) (x3 : Int32) (x4 : Int32), k14 t tL x2 x3 x4 = some res → Go p l e rm_Mo_isLetters s m args below meth c g A2 A 5 (MQ below (RI res A) args s 0 0 A) ((pic_Mo g a_t t tL)) [(0, .ref (a_t 0)), (2, .int x2), (3, .int x3), (4, .int x4)] 14 []) → Go p l e rm_Mo_isLetters s m args below meth c g A2 A 5 (MQ below (RI res A) args s 0 0 A) ((pic_Mo g a_t t tL)) [(0, .ref (a_t 0)), (2, .int x2), (4, .int x4)] 41 [.int y0] := by
  obtain ⟨hx, hb, hr, hml, hown, htb, hlocks, hA, hAA, hG⟩ := id hC
  have hK := hG.1
  intro t tL x2 x4 y0 res h hk14 H locs ls hP hD hS hl
  rw [Mo_isLetters_41] at h
  refine lv_istore_n (lv' := [(3, .int y0), (0, .ref (a_t 0)), (2, .int x2), (4, .int x4)]) hx hb d_Mo_isLetters_41 rfl hl (by decide) rfl (fun ls hl => ?_)
  refine lv_iinc (v := (x4 + (1 : Int32))) (lv' := [(4, .int (x4 + (1 : Int32))), (3, .int y0), (0, .ref (a_t 0)), (2, .int x2)]) hx hb d_Mo_isLetters_42 hl (k := 3) rfl rfl (by decide) rfl (fun ls hl => ?_)
  refine lv_goto (tgt := 14) hx hb d_Mo_isLetters_45 (by decide) ?_
  exact hk14 _ _ _ _ _ h _ _ _ hP hD hS (lv_sub hl [2, 3, 1, 0] rfl)
set_option maxHeartbeats 4000000 in
set_option maxRecDepth 100000 in
theorem k_Mo_isLetters_40 {p : Program} {l : Launch} {e : Env} {s : State} {m : MethodId} {args : Array Value} {below : List Frame} {meth : Method} {c : Code} {g : Gz} {A2 A : Nat → Prop} {F : Nat} {a_t : Nat → Nat} {k14 : StI → StL → Int32 → Int32 → Int32 → Option (Int32)} (hC : Cx prog_10_method_12_code 5 (some .boolean) R_Mo p s m args meth c g A2 A) : ∀ (t : StI) (tL : StL) (x2 : Int32) (x4 : Int32) (res : Int32), Mo_isLetters_40 F k14 t tL x2 x4 = some res → (∀ (t : StI) (tL : StL) (x2 : Int32) (x3 : Int32) (x4 : Int32), k14 t tL x2 x3 x4 = some res → Go p l e rm_Mo_isLetters s m args below meth c g A2 A 5 (MQ below (RI res A) args s 0 0 A) ((pic_Mo g a_t t tL)) [(0, .ref (a_t 0)), (2, .int x2), (3, .int x3), (4, .int x4)] 14 []) → Go p l e rm_Mo_isLetters s m args below meth c g A2 A 5 (MQ below (RI res A) args s 0 0 A) ((pic_Mo g a_t t tL)) [(0, .ref (a_t 0)), (2, .int x2), (4, .int x4)] 40 [] := by
  obtain ⟨hx, hb, hr, hml, hown, htb, hlocks, hA, hAA, hG⟩ := id hC
  have hK := hG.1
  intro t tL x2 x4 res h hk14 H locs ls hP hD hS hl
  rw [Mo_isLetters_40] at h
  refine lv_iconst (v := 0) hx hb d_Mo_isLetters_40 (by decide) ?_
  exact k_Mo_isLetters_41 hC _ _ _ _ _ _ h hk14 _ _ _ hP hD hS (lv_sub hl [0, 1, 2] rfl)
set_option maxHeartbeats 4000000 in
set_option maxRecDepth 100000 in
theorem k_Mo_isLetters_14 {p : Program} {l : Launch} {e : Env} {s : State} {m : MethodId} {args : Array Value} {below : List Frame} {meth : Method} {c : Code} {g : Gz} {A2 A : Nat → Prop} {F : Nat} {a_t : Nat → Nat} (hC : Cx prog_10_method_12_code 5 (some .boolean) R_Mo p s m args meth c g A2 A) : ∀ (n : Nat) (t : StI) (tL : StL) (x2 : Int32) (x3 : Int32) (x4 : Int32) (res : Int32), Mo_isLetters_14 F n t tL x2 x3 x4 = some res → Go p l e rm_Mo_isLetters s m args below meth c g A2 A 5 (MQ below (RI res A) args s 0 0 A) ((pic_Mo g a_t t tL)) [(0, .ref (a_t 0)), (2, .int x2), (3, .int x3), (4, .int x4)] 14 [] := by
  obtain ⟨hx, hb, hr, hml, hown, htb, hlocks, hA, hAA, hG⟩ := id hC
  have hK := hG.1
  intro n
  induction n with
  | zero => intro t tL x2 x3 x4 res h; rw [Mo_isLetters_14] at h; cases h
  | succ n ih =>
    intro t tL x2 x3 x4 res h H locs ls hP hD hS hl
    rw [Mo_isLetters_14] at h
    refine lv_iload hx hb d_Mo_isLetters_14 (lv_at hl 3 rfl) ?_
    refine lv_iload_n hx hb d_Mo_isLetters_16 rfl (lv_at hl 1 rfl) ?_
    refine lv_icmp_ge (tgt := 48) hx hb d_Mo_isLetters_17 (by decide) (fun c8 => ?_) (fun c8 => ?_)
    · replace h := (if_pos c8).symm.trans h
      refine lv_iload_n hx hb d_Mo_isLetters_48 rfl (lv_at hl 2 rfl) ?_
      by_cases c9 : (x3 = 0 ∨ x3 = 1)
      rotate_left
      · replace h := (if_neg c9).symm.trans h
        cases h
      replace h := (if_pos c9).symm.trans h
      cases h
      exact W.zret hx hb hr (by rcases c9 with c9 | c9 <;> rw [c9] <;> rfl) (fun t ht hW => ⟨⟨_, (), rfl, rfl, trivial⟩, hS.F ht⟩) hS.2.2 d_Mo_isLetters_49
    · replace h := (if_neg c8).symm.trans h
      refine lv_iload_n hx hb d_Mo_isLetters_20 rfl (lv_at hl 2 rfl) ?_
      refine lv_if_eq (tgt := 40) hx hb d_Mo_isLetters_21 (by decide) (fun c10 => ?_) (fun c10 => ?_)
      · replace h := (if_pos c10).symm.trans h
        exact k_Mo_isLetters_40 hC _ _ _ _ _ h (fun z0 z1 z2 z3 z4 hz => ih z0 z1 z2 z3 z4 _ hz) _ _ _ hP hD hS (lv_sub hl [0, 1, 3] rfl)
      · replace h := (if_neg c10).symm.trans h
        refine lv_aload_n hx hb d_Mo_isLetters_24 rfl (lv_at hl 0 rfl) ?_
        refine lv_iload hx hb d_Mo_isLetters_25 (lv_at hl 3 rfl) ?_
        obtain ⟨r11, hr11, h⟩ := Option.bind_eq_some_iff.mp h
        refine cl_Ir hP hS hA (va_runV (As := [.int x4]) (rest := []) ⟨hx, hb, hml, hown, htb⟩ (c_Mo_see l g F a_t t tL x4 _ hr11 H.size) (cw_V htb mb_Mo_see (htb _ L_Mo_160) rfl rfl ⟨Nat.le_of_ble_eq_true rfl, Nat.le_of_ble_eq_true rfl⟩) (pre_V (va_recv hK hP (ci := 8) (q0 := 0) rfl rfl) (pre_S [0, 1, 2, 3, 4, 5, 6, 7, 8, 9, 10, 11, 12, 13, 14, 15, 16, 17, 18, 19, 20, 21, 22, 23, 24, 25, 26, 27, 28, 29, 30, 31, 32] rfl rfl hP hD hS hA hAA hG)) rfl rfl hl.1 rfl (lv_room (Nat.le_of_ble_eq_true rfl)) d_Mo_isLetters_27 ⟨Nat.zero_le _, Nat.zero_le _⟩) (fun H locs hP hS => ?_)
        obtain ⟨r12, hr12, h⟩ := Option.bind_eq_some_iff.mp h
        refine cl_Ir hP hS hA (va_runS (As := [.int r11]) (rest := []) ⟨hx, hb, hml, hown, htb⟩ (c_Mo_isSmall l g F r11 _ hr12 H.size) (cw_S htb mb_Mo_isSmall (htb _ L_Mo_168) rfl rfl ⟨Nat.le_of_ble_eq_true rfl, Nat.le_of_ble_eq_true rfl⟩) (pre_S [] rfl rfl hP hD hS hA hAA hG) rfl rfl hl.1 rfl (lv_room (Nat.le_of_ble_eq_true rfl)) d_Mo_isLetters_30 ⟨Nat.zero_le _, Nat.zero_le _⟩) (fun H locs hP hS => ?_)
        refine lv_if_eq (tgt := 40) hx hb d_Mo_isLetters_33 (by decide) (fun c13 => ?_) (fun c13 => ?_)
        · replace h := (if_pos c13).symm.trans h
          exact k_Mo_isLetters_40 hC _ _ _ _ _ h (fun z0 z1 z2 z3 z4 hz => ih z0 z1 z2 z3 z4 _ hz) _ _ _ hP hD hS (lv_sub hl [0, 1, 3] rfl)
        · replace h := (if_neg c13).symm.trans h
          refine lv_iconst (v := 1) hx hb d_Mo_isLetters_36 (by decide) ?_
          refine lv_goto (tgt := 41) hx hb d_Mo_isLetters_37 (by decide) ?_
          exact k_Mo_isLetters_41 hC _ _ _ _ _ _ h (fun z0 z1 z2 z3 z4 hz => ih z0 z1 z2 z3 z4 _ hz) _ _ _ hP hD hS (lv_sub hl [0, 1, 3] rfl)
set_option maxHeartbeats 4000000 in
set_option maxRecDepth 100000 in
theorem k_Mo_isLetters_10 {p : Program} {l : Launch} {e : Env} {s : State} {m : MethodId} {args : Array Value} {below : List Frame} {meth : Method} {c : Code} {g : Gz} {A2 A : Nat → Prop} {F : Nat} {a_t : Nat → Nat} (hC : Cx prog_10_method_12_code 5 (some .boolean) R_Mo p s m args meth c g A2 A) : ∀ (t : StI) (tL : StL) (x1 : Int32) (x2 : Int32) (y0 : Int32) (res : Int32), Mo_isLetters_10 F t tL x1 x2 y0 = some res → Go p l e rm_Mo_isLetters s m args below meth c g A2 A 5 (MQ below (RI res A) args s 0 0 A) ((pic_Mo g a_t t tL)) [(0, .ref (a_t 0)), (1, .int x1), (2, .int x2)] 10 [.int y0] := by
  obtain ⟨hx, hb, hr, hml, hown, htb, hlocks, hA, hAA, hG⟩ := id hC
  have hK := hG.1
  intro t tL x1 x2 y0 res h H locs ls hP hD hS hl
  rw [Mo_isLetters_10] at h
  refine lv_istore_n (lv' := [(3, .int y0), (0, .ref (a_t 0)), (1, .int x1), (2, .int x2)]) hx hb d_Mo_isLetters_10 rfl hl (by decide) rfl (fun ls hl => ?_)
  refine lv_iload_n hx hb d_Mo_isLetters_11 rfl (lv_at hl 2 rfl) ?_
  refine lv_istore (lv' := [(4, .int x1), (3, .int y0), (0, .ref (a_t 0)), (1, .int x1), (2, .int x2)]) hx hb d_Mo_isLetters_12 hl (by decide) rfl (fun ls hl => ?_)
  exact k_Mo_isLetters_14 hC F _ _ _ _ _ _ h _ _ _ hP hD hS (lv_sub hl [2, 4, 1, 0] rfl)
set_option maxHeartbeats 4000000 in
set_option maxRecDepth 100000 in
theorem k_Mo_isLetters {p : Program} {l : Launch} {e : Env} {s : State} {m : MethodId} {args : Array Value} {below : List Frame} {meth : Method} {c : Code} {g : Gz} {A2 A : Nat → Prop} {F : Nat} {a_t : Nat → Nat} (hC : Cx prog_10_method_12_code 5 (some .boolean) R_Mo p s m args meth c g A2 A) : ∀ (t : StI) (tL : StL) (x1 : Int32) (x2 : Int32) (res : Int32), Mo_isLetters F t tL x1 x2 = some res → Go p l e rm_Mo_isLetters s m args below meth c g A2 A 5 (MQ below (RI res A) args s 0 0 A) ((pic_Mo g a_t t tL)) [(0, .ref (a_t 0)), (1, .int x1), (2, .int x2)] 0 [] := by
  obtain ⟨hx, hb, hr, hml, hown, htb, hlocks, hA, hAA, hG⟩ := id hC
  have hK := hG.1
  intro t tL x1 x2 res h H locs ls hP hD hS hl
  rw [Mo_isLetters] at h
  refine lv_iload_n hx hb d_Mo_isLetters_0 rfl (lv_at hl 2 rfl) ?_
  refine lv_iload_n hx hb d_Mo_isLetters_1 rfl (lv_at hl 1 rfl) ?_
  refine lv_icmp_le (tgt := 9) hx hb d_Mo_isLetters_2 (by decide) (fun c14 => ?_) (fun c14 => ?_)
  · replace h := (if_pos c14).symm.trans h
    refine lv_iconst (v := 0) hx hb d_Mo_isLetters_9 (by decide) ?_
    exact k_Mo_isLetters_10 hC _ _ _ _ _ _ h _ _ _ hP hD hS (lv_sub hl [0, 1, 2] rfl)
  · replace h := (if_neg c14).symm.trans h
    refine lv_iconst (v := 1) hx hb d_Mo_isLetters_5 (by decide) ?_
    refine lv_goto (tgt := 10) hx hb d_Mo_isLetters_6 (by decide) ?_
    exact k_Mo_isLetters_10 hC _ _ _ _ _ _ h _ _ _ hP hD hS (lv_sub hl [0, 1, 2] rfl)
theorem c_Mo_isLetters (l : Launch) (g : Gz) (F : Nat) (a_t : Nat → Nat) (t : StI) (tL : StL) (x1 : Int32) (x2 : Int32) (res : Int32) (h : Mo_isLetters F t tL x1 x2 = some res) : ∀ sz : Nat, Met l y_Mo_isLetters (.code y_Mo_isLetters prog_10_method_12_code 5 (some .boolean) :: TBL) rm_Mo_isLetters (va_Pc [.ref (a_t 0), .int x1, .int x2] (Pre0 g ((pic_Mo g a_t t tL)) sz)) (RI res (fun q => sz ≤ q)) 0 0 (fun q => sz ≤ q) :=
  ct_r (Qc := fun A => RI res A) (by decide) (Nat.le_of_ble_eq_true rfl) (fun p e s m args below meth c A2 A hC => k_Mo_isLetters hC t tL x1 x2 res h)
def Mo_isText_63 (F : Nat) (k18 : StI → StL → Int32 → Int64 → Int32 → Int32 → Int32 → Option (Int32)) (t : StI) (tL : StL) (x1 : Int32) (x3 : Int64) (x5 : Int32) (x7 : Int32) (y0 : Int32) : Option (Int32) := k18 t tL x1 x3 x5 y0 (x7 + (1 : Int32))
def Mo_isText_18 (F : Nat) : Nat → StI → StL → Int32 → Int64 → Int32 → Int32 → Int32 → Option (Int32)
  | 0, _, _, _, _, _, _, _ => none
  | n + 1, t, tL, x1, x3, x5, x6, x7 => if x5 ≤ x7 then if x6 = 0 ∨ x6 = 1 then some x6 else none else if x6 = 0 then if x6 = 0 ∨ x6 = 1 then some x6 else none else (Mo_see F t tL (x1 + x7)).bind fun r12 => if r12 = ((x3 >>> (((8 : Int32) * ((x5 - (1 : Int32)) - x7)).toInt64 &&& 63)) &&& (255 : Int64)).toInt32 then Mo_isText_63 F (Mo_isText_18 F n) t tL x1 x3 x5 x7 (1 : Int32) else Mo_isText_63 F (Mo_isText_18 F n) t tL x1 x3 x5 x7 (0 : Int32)
def Mo_isText_13 (F : Nat) (t : StI) (tL : StL) (x1 : Int32) (x3 : Int64) (x5 : Int32) (y0 : Int32) : Option (Int32) := Mo_isText_18 F F t tL x1 x3 x5 y0 (0 : Int32)
def Mo_isText (F : Nat) (t : StI) (tL : StL) (x1 : Int32) (x2 : Int32) (x3 : Int64) (x5 : Int32) : Option (Int32) := if (x2 - x1) = x5 then Mo_isText_13 F t tL x1 x3 x5 (1 : Int32) else Mo_isText_13 F t tL x1 x3 x5 (0 : Int32)
set_option maxHeartbeats 4000000 in
set_option maxRecDepth 100000 in
theorem k_Mo_isText_63 {p : Program} {l : Launch} {e : Env} {s : State} {m : MethodId} {args : Array Value} {below : List Frame} {meth : Method} {c : Code} {g : Gz} {A2 A : Nat → Prop} {F : Nat} {a_t : Nat → Nat} {k18 : StI → StL → Int32 → Int64 → Int32 → Int32 → Int32 → Option (Int32)} (hC : Cx prog_10_method_13_code 8 (some .boolean) R_Mo p s m args meth c g A2 A) : ∀ (t : StI) (tL : StL) (x1 : Int32) (x3 : Int64) (x5 : Int32) (x7 : Int32) (y0 : Int32) (res : Int32), Mo_isText_63 F k18 t tL x1 x3 x5 x7 y0 = some res → (∀ (t : StI) (tL : StL) (x1 : Int32) (x3 : Int64) (x5 : Int32) (x6 : Int32) (x7 : Int32), k18 t tL x1 x3 x5 x6 x7 = some res → Go p l e rm_Mo_isText s m args below meth c g A2 A 8 (MQ below (RI res A) args s 0 0 A) ((pic_Mo g a_t t tL)) [(0, .ref (a_t 0)), (1, .int x1), (3, .long x3), (5, .int x5), (6, .int x6), (7, .int x7)] 18 []) → Go p l e rm_Mo_isText s m args below meth c g A2 A 8 (MQ below (RI res A) args s 0 0 A) ((pic_Mo g a_t t tL)) [(0, .ref (a_t 0)), (1, .int x1), (3, .long x3), (5, .int x5), (7, .int x7)] 63 [.int y0] := by
  obtain ⟨hx, hb, hr, hml, hown, htb, hlocks, hA, hAA, hG⟩ := id hC
  have hK := hG.1
  intro t tL x1 x3 x5 x7 y0 res h hk18 H locs ls hP hD hS hl
  rw [Mo_isText_63] at h
  refine lv_istore (lv' := [(6, .int y0), (0, .ref (a_t 0)), (1, .int x1), (3, .long x3), (5, .int x5), (7, .int x7)]) hx hb d_Mo_isText_63 hl (by decide) rfl (fun ls hl => ?_)
  refine lv_iinc (v := (x7 + (1 : Int32))) (lv' := [(7, .int (x7 + (1 : Int32))), (6, .int y0), (0, .ref (a_t 0)), (1, .int x1), (3, .long x3), (5, .int x5)]) hx hb d_Mo_isText_65 hl (k := 5) rfl rfl (by decide) rfl (fun ls hl => ?_)
  refine lv_goto (tgt := 18) hx hb d_Mo_isText_68 (by decide) ?_
  exact hk18 _ _ _ _ _ _ _ h _ _ _ hP hD hS (lv_sub hl [2, 3, 4, 5, 1, 0] rfl)
set_option maxHeartbeats 4000000 in
set_option maxRecDepth 100000 in
theorem k_Mo_isText_18 {p : Program} {l : Launch} {e : Env} {s : State} {m : MethodId} {args : Array Value} {below : List Frame} {meth : Method} {c : Code} {g : Gz} {A2 A : Nat → Prop} {F : Nat} {a_t : Nat → Nat} (hC : Cx prog_10_method_13_code 8 (some .boolean) R_Mo p s m args meth c g A2 A) : ∀ (n : Nat) (t : StI) (tL : StL) (x1 : Int32) (x3 : Int64) (x5 : Int32) (x6 : Int32) (x7 : Int32) (res : Int32), Mo_isText_18 F n t tL x1 x3 x5 x6 x7 = some res → Go p l e rm_Mo_isText s m args below meth c g A2 A 8 (MQ below (RI res A) args s 0 0 A) ((pic_Mo g a_t t tL)) [(0, .ref (a_t 0)), (1, .int x1), (3, .long x3), (5, .int x5), (6, .int x6), (7, .int x7)] 18 [] := by
  obtain ⟨hx, hb, hr, hml, hown, htb, hlocks, hA, hAA, hG⟩ := id hC
  have hK := hG.1
  intro n
  induction n with
  | zero => intro t tL x1 x3 x5 x6 x7 res h; rw [Mo_isText_18] at h; cases h
  | succ n ih =>
    intro t tL x1 x3 x5 x6 x7 res h H locs ls hP hD hS hl
    rw [Mo_isText_18] at h
    refine lv_iload hx hb d_Mo_isText_18 (lv_at hl 5 rfl) ?_
    refine lv_iload hx hb d_Mo_isText_20 (lv_at hl 3 rfl) ?_
    refine lv_icmp_ge (tgt := 71) hx hb d_Mo_isText_22 (by decide) (fun c8 => ?_) (fun c8 => ?_)
    · replace h := (if_pos c8).symm.trans h
      refine lv_iload hx hb d_Mo_isText_71 (lv_at hl 4 rfl) ?_
      by_cases c9 : (x6 = 0 ∨ x6 = 1)
      rotate_left
      · replace h := (if_neg c9).symm.trans h
        cases h
      replace h := (if_pos c9).symm.trans h
      cases h
      exact W.zret hx hb hr (by rcases c9 with c9 | c9 <;> rw [c9] <;> rfl) (fun t ht hW => ⟨⟨_, (), rfl, rfl, trivial⟩, hS.F ht⟩) hS.2.2 d_Mo_isText_73
    · replace h := (if_neg c8).symm.trans h
      refine lv_iload hx hb d_Mo_isText_25 (lv_at hl 4 rfl) ?_
      refine lv_if_eq (tgt := 71) hx hb d_Mo_isText_27 (by decide) (fun c10 => ?_) (fun c10 => ?_)
      · replace h := (if_pos c10).symm.trans h
        refine lv_iload hx hb d_Mo_isText_71 (lv_at hl 4 rfl) ?_
        by_cases c11 : (x6 = 0 ∨ x6 = 1)
        rotate_left
        · replace h := (if_neg c11).symm.trans h
          cases h
        replace h := (if_pos c11).symm.trans h
        cases h
        exact W.zret hx hb hr (by rcases c11 with c11 | c11 <;> rw [c11] <;> rfl) (fun t ht hW => ⟨⟨_, (), rfl, rfl, trivial⟩, hS.F ht⟩) hS.2.2 d_Mo_isText_73
      · replace h := (if_neg c10).symm.trans h
        refine lv_aload_n hx hb d_Mo_isText_30 rfl (lv_at hl 0 rfl) ?_
        refine lv_iload_n hx hb d_Mo_isText_31 rfl (lv_at hl 1 rfl) ?_
        refine lv_iload hx hb d_Mo_isText_32 (lv_at hl 5 rfl) ?_
        refine lv_iadd hx hb d_Mo_isText_34 ?_
        obtain ⟨r12, hr12, h⟩ := Option.bind_eq_some_iff.mp h
        refine cl_Ir hP hS hA (va_runV (As := [.int (x1 + x7)]) (rest := []) ⟨hx, hb, hml, hown, htb⟩ (c_Mo_see l g F a_t t tL (x1 + x7) _ hr12 H.size) (cw_V htb mb_Mo_see (htb _ L_Mo_160) rfl rfl ⟨Nat.le_of_ble_eq_true rfl, Nat.le_of_ble_eq_true rfl⟩) (pre_V (va_recv hK hP (ci := 8) (q0 := 0) rfl rfl) (pre_S [0, 1, 2, 3, 4, 5, 6, 7, 8, 9, 10, 11, 12, 13, 14, 15, 16, 17, 18, 19, 20, 21, 22, 23, 24, 25, 26, 27, 28, 29, 30, 31, 32] rfl rfl hP hD hS hA hAA hG)) rfl rfl hl.1 rfl (lv_room (Nat.le_of_ble_eq_true rfl)) d_Mo_isText_35 ⟨Nat.zero_le _, Nat.zero_le _⟩) (fun H locs hP hS => ?_)
        refine lv_lload_n hx hb d_Mo_isText_38 rfl (lv_at hl 2 rfl) ?_
        refine lv_bipush (v := 8) hx hb d_Mo_isText_39 (by decide) ?_
        refine lv_iload hx hb d_Mo_isText_41 (lv_at hl 3 rfl) ?_
        refine lv_iconst (v := 1) hx hb d_Mo_isText_43 (by decide) ?_
        refine lv_isub hx hb d_Mo_isText_44 ?_
        refine lv_iload hx hb d_Mo_isText_45 (lv_at hl 5 rfl) ?_
        refine lv_isub hx hb d_Mo_isText_47 ?_
        refine lv_imul hx hb d_Mo_isText_48 ?_
        refine lv_lshr hx hb d_Mo_isText_49 rfl ?_
        refine lv_ldc2 (v := 255) hx hb hown (htb _ K_Mo_171) d_Mo_isText_50 ?_
        refine lv_land hx hb d_Mo_isText_53 ?_
        refine lv_l2i hx hb d_Mo_isText_54 rfl ?_
        refine lv_icmp_ne (tgt := 62) hx hb d_Mo_isText_55 (by decide) (fun c13 => ?_) (fun c13 => ?_)
        · replace h := (if_neg c13).symm.trans h
          refine lv_iconst (v := 0) hx hb d_Mo_isText_62 (by decide) ?_
          exact k_Mo_isText_63 hC _ _ _ _ _ _ _ _ h (fun z0 z1 z2 z3 z4 z5 z6 hz => ih z0 z1 z2 z3 z4 z5 z6 _ hz) _ _ _ hP hD hS (lv_sub hl [0, 1, 2, 3, 5] rfl)
        · replace h := (if_pos c13).symm.trans h
          refine lv_iconst (v := 1) hx hb d_Mo_isText_58 (by decide) ?_
          refine lv_goto (tgt := 63) hx hb d_Mo_isText_59 (by decide) ?_
          exact k_Mo_isText_63 hC _ _ _ _ _ _ _ _ h (fun z0 z1 z2 z3 z4 z5 z6 hz => ih z0 z1 z2 z3 z4 z5 z6 _ hz) _ _ _ hP hD hS (lv_sub hl [0, 1, 2, 3, 5] rfl)
set_option maxHeartbeats 4000000 in
set_option maxRecDepth 100000 in
theorem k_Mo_isText_13 {p : Program} {l : Launch} {e : Env} {s : State} {m : MethodId} {args : Array Value} {below : List Frame} {meth : Method} {c : Code} {g : Gz} {A2 A : Nat → Prop} {F : Nat} {a_t : Nat → Nat} (hC : Cx prog_10_method_13_code 8 (some .boolean) R_Mo p s m args meth c g A2 A) : ∀ (t : StI) (tL : StL) (x1 : Int32) (x3 : Int64) (x5 : Int32) (y0 : Int32) (res : Int32), Mo_isText_13 F t tL x1 x3 x5 y0 = some res → Go p l e rm_Mo_isText s m args below meth c g A2 A 8 (MQ below (RI res A) args s 0 0 A) ((pic_Mo g a_t t tL)) [(0, .ref (a_t 0)), (1, .int x1), (3, .long x3), (5, .int x5)] 13 [.int y0] := by
  obtain ⟨hx, hb, hr, hml, hown, htb, hlocks, hA, hAA, hG⟩ := id hC
  have hK := hG.1
  intro t tL x1 x3 x5 y0 res h H locs ls hP hD hS hl
  rw [Mo_isText_13] at h
  refine lv_istore (lv' := [(6, .int y0), (0, .ref (a_t 0)), (1, .int x1), (3, .long x3), (5, .int x5)]) hx hb d_Mo_isText_13 hl (by decide) rfl (fun ls hl => ?_)
  refine lv_iconst (v := 0) hx hb d_Mo_isText_15 (by decide) ?_
  refine lv_istore (lv' := [(7, .int (0 : Int32)), (6, .int y0), (0, .ref (a_t 0)), (1, .int x1), (3, .long x3), (5, .int x5)]) hx hb d_Mo_isText_16 hl (by decide) rfl (fun ls hl => ?_)
  exact k_Mo_isText_18 hC F _ _ _ _ _ _ _ _ h _ _ _ hP hD hS (lv_sub hl [2, 3, 4, 5, 1, 0] rfl)
set_option maxHeartbeats 4000000 in
set_option maxRecDepth 100000 in
theorem k_Mo_isText {p : Program} {l : Launch} {e : Env} {s : State} {m : MethodId} {args : Array Value} {below : List Frame} {meth : Method} {c : Code} {g : Gz} {A2 A : Nat → Prop} {F : Nat} {a_t : Nat → Nat} (hC : Cx prog_10_method_13_code 8 (some .boolean) R_Mo p s m args meth c g A2 A) : ∀ (t : StI) (tL : StL) (x1 : Int32) (x2 : Int32) (x3 : Int64) (x5 : Int32) (res : Int32), Mo_isText F t tL x1 x2 x3 x5 = some res → Go p l e rm_Mo_isText s m args below meth c g A2 A 8 (MQ below (RI res A) args s 0 0 A) ((pic_Mo g a_t t tL)) [(0, .ref (a_t 0)), (1, .int x1), (2, .int x2), (3, .long x3), (5, .int x5)] 0 [] := by
  obtain ⟨hx, hb, hr, hml, hown, htb, hlocks, hA, hAA, hG⟩ := id hC
  have hK := hG.1
  intro t tL x1 x2 x3 x5 res h H locs ls hP hD hS hl
  rw [Mo_isText] at h
  refine lv_iload_n hx hb d_Mo_isText_0 rfl (lv_at hl 2 rfl) ?_
  refine lv_iload_n hx hb d_Mo_isText_1 rfl (lv_at hl 1 rfl) ?_
  refine lv_isub hx hb d_Mo_isText_2 ?_
  refine lv_iload hx hb d_Mo_isText_3 (lv_at hl 4 rfl) ?_
  refine lv_icmp_ne (tgt := 12) hx hb d_Mo_isText_5 (by decide) (fun c14 => ?_) (fun c14 => ?_)
  · replace h := (if_neg c14).symm.trans h
    refine lv_iconst (v := 0) hx hb d_Mo_isText_12 (by decide) ?_
    exact k_Mo_isText_13 hC _ _ _ _ _ _ _ h _ _ _ hP hD hS (lv_sub hl [0, 1, 3, 4] rfl)
  · replace h := (if_pos c14).symm.trans h
    refine lv_iconst (v := 1) hx hb d_Mo_isText_8 (by decide) ?_
    refine lv_goto (tgt := 13) hx hb d_Mo_isText_9 (by decide) ?_
    exact k_Mo_isText_13 hC _ _ _ _ _ _ _ h _ _ _ hP hD hS (lv_sub hl [0, 1, 3, 4] rfl)
theorem c_Mo_isText (l : Launch) (g : Gz) (F : Nat) (a_t : Nat → Nat) (t : StI) (tL : StL) (x1 : Int32) (x2 : Int32) (x3 : Int64) (x5 : Int32) (res : Int32) (h : Mo_isText F t tL x1 x2 x3 x5 = some res) : ∀ sz : Nat, Met l y_Mo_isText (.code y_Mo_isText prog_10_method_13_code 8 (some .boolean) :: TBL) rm_Mo_isText (va_Pc [.ref (a_t 0), .int x1, .int x2, .long x3, .int x5] (Pre0 g ((pic_Mo g a_t t tL)) sz)) (RI res (fun q => sz ≤ q)) 0 0 (fun q => sz ≤ q) :=
  ct_r (Qc := fun A => RI res A) (by decide) (Nat.le_of_ble_eq_true rfl) (fun p e s m args below meth c A2 A hC => k_Mo_isText hC t tL x1 x2 x3 x5 res h)
def Mo_operator (F : Nat) (t : StI) (tL : StL) (x1 : Int32) (x2 : Int32) : Option (Int32) := (Mo_isText F t tL x1 x2 (6385252 : Int64) (3 : Int32)).bind fun r9 => if r9 = 0 then (Mo_isText F t tL x1 x2 (28530 : Int64) (2 : Int32)).bind fun r11 => if r11 = 0 then (Mo_isText F t tL x1 x2 (7892850 : Int64) (3 : Int32)).bind fun r13 => if r13 = 0 then (Mo_isText F t tL x1 x2 (7237492 : Int64) (3 : Int32)).bind fun r15 => if r15 = 0 then some (-1 : Int32) else some (4 : Int32) else some (2 : Int32) else some (1 : Int32) else some (3 : Int32)
set_option maxHeartbeats 4000000 in
set_option maxRecDepth 100000 in
theorem k_Mo_operator {p : Program} {l : Launch} {e : Env} {s : State} {m : MethodId} {args : Array Value} {below : List Frame} {meth : Method} {c : Code} {g : Gz} {A2 A : Nat → Prop} {F : Nat} {a_t : Nat → Nat} (hC : Cx prog_10_method_14_code 3 (some .int) R_Mo p s m args meth c g A2 A) : ∀ (t : StI) (tL : StL) (x1 : Int32) (x2 : Int32) (res : Int32), Mo_operator F t tL x1 x2 = some res → Go p l e rm_Mo_operator s m args below meth c g A2 A 3 (MQ below (RI res A) args s 0 0 A) ((pic_Mo g a_t t tL)) [(0, .ref (a_t 0)), (1, .int x1), (2, .int x2)] 0 [] := by
  obtain ⟨hx, hb, hr, hml, hown, htb, hlocks, hA, hAA, hG⟩ := id hC
  have hK := hG.1
  intro t tL x1 x2 res h H locs ls hP hD hS hl
  rw [Mo_operator] at h
  refine lv_aload_n hx hb d_Mo_operator_0 rfl (lv_at hl 0 rfl) ?_
  refine lv_iload_n hx hb d_Mo_operator_1 rfl (lv_at hl 1 rfl) ?_
  refine lv_iload_n hx hb d_Mo_operator_2 rfl (lv_at hl 2 rfl) ?_
  refine lv_ldc2 (v := 6385252) hx hb hown (htb _ K_Mo_173) d_Mo_operator_3 ?_
  refine lv_iconst (v := 3) hx hb d_Mo_operator_6 (by decide) ?_
  obtain ⟨r9, hr9, h⟩ := Option.bind_eq_some_iff.mp h
  refine cl_Ir hP hS hA (va_runV (As := [.int x1, .int x2, .long (6385252 : Int64), .int (3 : Int32)]) (rest := []) ⟨hx, hb, hml, hown, htb⟩ (c_Mo_isText l g F a_t t tL x1 x2 (6385252 : Int64) (3 : Int32) _ hr9 H.size) (cw_V htb mb_Mo_isText (htb _ L_Mo_175) rfl rfl ⟨Nat.le_of_ble_eq_true rfl, Nat.le_of_ble_eq_true rfl⟩) (pre_V (va_recv hK hP (ci := 8) (q0 := 0) rfl rfl) (pre_S [0, 1, 2, 3, 4, 5, 6, 7, 8, 9, 10, 11, 12, 13, 14, 15, 16, 17, 18, 19, 20, 21, 22, 23, 24, 25, 26, 27, 28, 29, 30, 31, 32] rfl rfl hP hD hS hA hAA hG)) rfl rfl hl.1 rfl (lv_room (Nat.le_of_ble_eq_true rfl)) d_Mo_operator_7 ⟨Nat.zero_le _, Nat.zero_le _⟩) (fun H locs hP hS => ?_)
  refine lv_if_eq (tgt := 17) hx hb d_Mo_operator_10 (by decide) (fun c10 => ?_) (fun c10 => ?_)
  · replace h := (if_pos c10).symm.trans h
    refine lv_aload_n hx hb d_Mo_operator_17 rfl (lv_at hl 0 rfl) ?_
    refine lv_iload_n hx hb d_Mo_operator_18 rfl (lv_at hl 1 rfl) ?_
    refine lv_iload_n hx hb d_Mo_operator_19 rfl (lv_at hl 2 rfl) ?_
    refine lv_ldc2 (v := 28530) hx hb hown (htb _ K_Mo_179) d_Mo_operator_20 ?_
    refine lv_iconst (v := 2) hx hb d_Mo_operator_23 (by decide) ?_
    obtain ⟨r11, hr11, h⟩ := Option.bind_eq_some_iff.mp h
    refine cl_Ir hP hS hA (va_runV (As := [.int x1, .int x2, .long (28530 : Int64), .int (2 : Int32)]) (rest := []) ⟨hx, hb, hml, hown, htb⟩ (c_Mo_isText l g F a_t t tL x1 x2 (28530 : Int64) (2 : Int32) _ hr11 H.size) (cw_V htb mb_Mo_isText (htb _ L_Mo_175) rfl rfl ⟨Nat.le_of_ble_eq_true rfl, Nat.le_of_ble_eq_true rfl⟩) (pre_V (va_recv hK hP (ci := 8) (q0 := 0) rfl rfl) (pre_S [0, 1, 2, 3, 4, 5, 6, 7, 8, 9, 10, 11, 12, 13, 14, 15, 16, 17, 18, 19, 20, 21, 22, 23, 24, 25, 26, 27, 28, 29, 30, 31, 32] rfl rfl hP hD hS hA hAA hG)) rfl rfl hl.1 rfl (lv_room (Nat.le_of_ble_eq_true rfl)) d_Mo_operator_24 ⟨Nat.zero_le _, Nat.zero_le _⟩) (fun H locs hP hS => ?_)
    refine lv_if_eq (tgt := 34) hx hb d_Mo_operator_27 (by decide) (fun c12 => ?_) (fun c12 => ?_)
    · replace h := (if_pos c12).symm.trans h
      refine lv_aload_n hx hb d_Mo_operator_34 rfl (lv_at hl 0 rfl) ?_
      refine lv_iload_n hx hb d_Mo_operator_35 rfl (lv_at hl 1 rfl) ?_
      refine lv_iload_n hx hb d_Mo_operator_36 rfl (lv_at hl 2 rfl) ?_
      refine lv_ldc2 (v := 7892850) hx hb hown (htb _ K_Mo_181) d_Mo_operator_37 ?_
      refine lv_iconst (v := 3) hx hb d_Mo_operator_40 (by decide) ?_
      obtain ⟨r13, hr13, h⟩ := Option.bind_eq_some_iff.mp h
      refine cl_Ir hP hS hA (va_runV (As := [.int x1, .int x2, .long (7892850 : Int64), .int (3 : Int32)]) (rest := []) ⟨hx, hb, hml, hown, htb⟩ (c_Mo_isText l g F a_t t tL x1 x2 (7892850 : Int64) (3 : Int32) _ hr13 H.size) (cw_V htb mb_Mo_isText (htb _ L_Mo_175) rfl rfl ⟨Nat.le_of_ble_eq_true rfl, Nat.le_of_ble_eq_true rfl⟩) (pre_V (va_recv hK hP (ci := 8) (q0 := 0) rfl rfl) (pre_S [0, 1, 2, 3, 4, 5, 6, 7, 8, 9, 10, 11, 12, 13, 14, 15, 16, 17, 18, 19, 20, 21, 22, 23, 24, 25, 26, 27, 28, 29, 30, 31, 32] rfl rfl hP hD hS hA hAA hG)) rfl rfl hl.1 rfl (lv_room (Nat.le_of_ble_eq_true rfl)) d_Mo_operator_41 ⟨Nat.zero_le _, Nat.zero_le _⟩) (fun H locs hP hS => ?_)
      refine lv_if_eq (tgt := 51) hx hb d_Mo_operator_44 (by decide) (fun c14 => ?_) (fun c14 => ?_)
      · replace h := (if_pos c14).symm.trans h
        refine lv_aload_n hx hb d_Mo_operator_51 rfl (lv_at hl 0 rfl) ?_
        refine lv_iload_n hx hb d_Mo_operator_52 rfl (lv_at hl 1 rfl) ?_
        refine lv_iload_n hx hb d_Mo_operator_53 rfl (lv_at hl 2 rfl) ?_
        refine lv_ldc2 (v := 7237492) hx hb hown (htb _ K_Mo_183) d_Mo_operator_54 ?_
        refine lv_iconst (v := 3) hx hb d_Mo_operator_57 (by decide) ?_
        obtain ⟨r15, hr15, h⟩ := Option.bind_eq_some_iff.mp h
        refine cl_Ir hP hS hA (va_runV (As := [.int x1, .int x2, .long (7237492 : Int64), .int (3 : Int32)]) (rest := []) ⟨hx, hb, hml, hown, htb⟩ (c_Mo_isText l g F a_t t tL x1 x2 (7237492 : Int64) (3 : Int32) _ hr15 H.size) (cw_V htb mb_Mo_isText (htb _ L_Mo_175) rfl rfl ⟨Nat.le_of_ble_eq_true rfl, Nat.le_of_ble_eq_true rfl⟩) (pre_V (va_recv hK hP (ci := 8) (q0 := 0) rfl rfl) (pre_S [0, 1, 2, 3, 4, 5, 6, 7, 8, 9, 10, 11, 12, 13, 14, 15, 16, 17, 18, 19, 20, 21, 22, 23, 24, 25, 26, 27, 28, 29, 30, 31, 32] rfl rfl hP hD hS hA hAA hG)) rfl rfl hl.1 rfl (lv_room (Nat.le_of_ble_eq_true rfl)) d_Mo_operator_58 ⟨Nat.zero_le _, Nat.zero_le _⟩) (fun H locs hP hS => ?_)
        refine lv_if_eq (tgt := 68) hx hb d_Mo_operator_61 (by decide) (fun c16 => ?_) (fun c16 => ?_)
        · replace h := (if_pos c16).symm.trans h
          refine lv_iconst (v := -1) hx hb d_Mo_operator_68 (by decide) ?_
          cases h
          exact W.iret hx hb hr (fun t ht hW => ⟨⟨_, (), rfl, rfl, trivial⟩, hS.F ht⟩) hS.2.2 d_Mo_operator_69
        · replace h := (if_neg c16).symm.trans h
          refine lv_iconst (v := 4) hx hb d_Mo_operator_64 (by decide) ?_
          refine lv_goto (tgt := 69) hx hb d_Mo_operator_65 (by decide) ?_
          cases h
          exact W.iret hx hb hr (fun t ht hW => ⟨⟨_, (), rfl, rfl, trivial⟩, hS.F ht⟩) hS.2.2 d_Mo_operator_69
      · replace h := (if_neg c14).symm.trans h
        refine lv_iconst (v := 2) hx hb d_Mo_operator_47 (by decide) ?_
        refine lv_goto (tgt := 69) hx hb d_Mo_operator_48 (by decide) ?_
        cases h
        exact W.iret hx hb hr (fun t ht hW => ⟨⟨_, (), rfl, rfl, trivial⟩, hS.F ht⟩) hS.2.2 d_Mo_operator_69
    · replace h := (if_neg c12).symm.trans h
      refine lv_iconst (v := 1) hx hb d_Mo_operator_30 (by decide) ?_
      refine lv_goto (tgt := 69) hx hb d_Mo_operator_31 (by decide) ?_
      cases h
      exact W.iret hx hb hr (fun t ht hW => ⟨⟨_, (), rfl, rfl, trivial⟩, hS.F ht⟩) hS.2.2 d_Mo_operator_69
  · replace h := (if_neg c10).symm.trans h
    refine lv_iconst (v := 3) hx hb d_Mo_operator_13 (by decide) ?_
    refine lv_goto (tgt := 69) hx hb d_Mo_operator_14 (by decide) ?_
    cases h
    exact W.iret hx hb hr (fun t ht hW => ⟨⟨_, (), rfl, rfl, trivial⟩, hS.F ht⟩) hS.2.2 d_Mo_operator_69
theorem c_Mo_operator (l : Launch) (g : Gz) (F : Nat) (a_t : Nat → Nat) (t : StI) (tL : StL) (x1 : Int32) (x2 : Int32) (res : Int32) (h : Mo_operator F t tL x1 x2 = some res) : ∀ sz : Nat, Met l y_Mo_operator (.code y_Mo_operator prog_10_method_14_code 3 (some .int) :: TBL) rm_Mo_operator (va_Pc [.ref (a_t 0), .int x1, .int x2] (Pre0 g ((pic_Mo g a_t t tL)) sz)) (RI res (fun q => sz ≤ q)) 0 0 (fun q => sz ≤ q) :=
  ct_r (Qc := fun A => RI res A) (by decide) (Nat.le_of_ble_eq_true rfl) (fun p e s m args below meth c A2 A hC => k_Mo_operator hC t tL x1 x2 res h)
def Mo_fieldOf_48 (F : Nat) : Nat → StI → StL → Int64 → Int32 → Option (Int32)
  | 0, _, _, _, _ => none
  | n + 1, t, tL, x3, x5 => if (12 : Int32) ≤ x5 then some (-1 : Int32) else if x5 < 0 ∨ 12 ≤ x5.toNatClampNeg then none else if (lg_cmp ((tL 13) x5.toNatClampNeg) x3) = 0 then some (x5 + (1 : Int32)) else Mo_fieldOf_48 F n t tL x3 (x5 + (1 : Int32))
def Mo_fieldOf_15 (F : Nat) : Nat → StI → StL → Int32 → Int64 → Int32 → Option (Int32)
  | 0, _, _, _, _, _ => none
  | n + 1, t, tL, x2, x3, x5 => if x2 ≤ x5 then Mo_fieldOf_48 F F t tL x3 (0 : Int32) else (Mo_see F t tL x5).bind fun r11 => Mo_fieldOf_15 F n t tL x2 ((((27 : Int64) * x3) + r11.toInt64) - (96 : Int64)) (x5 + (1 : Int32))
def Mo_fieldOf (F : Nat) (t : StI) (tL : StL) (x1 : Int32) (x2 : Int32) : Option (Int32) := if (x2 - x1) ≤ (10 : Int32) then Mo_fieldOf_15 F F t tL x2 (0 : Int64) x1 else some (-1 : Int32)
set_option maxHeartbeats 4000000 in
set_option maxRecDepth 100000 in
theorem k_Mo_fieldOf_48 {p : Program} {l : Launch} {e : Env} {s : State} {m : MethodId} {args : Array Value} {below : List Frame} {meth : Method} {c : Code} {g : Gz} {A2 A : Nat → Prop} {F : Nat} {a_t : Nat → Nat} (hC : Cx prog_10_method_15_code 6 (some .int) R_Mo p s m args meth c g A2 A) : ∀ (n : Nat) (t : StI) (tL : StL) (x3 : Int64) (x5 : Int32) (res : Int32), Mo_fieldOf_48 F n t tL x3 x5 = some res → Go p l e rm_Mo_fieldOf s m args below meth c g A2 A 6 (MQ below (RI res A) args s 0 0 A) ((pic_Mo g a_t t tL)) [(0, .ref (a_t 0)), (3, .long x3), (5, .int x5)] 48 [] := by
  obtain ⟨hx, hb, hr, hml, hown, htb, hlocks, hA, hAA, hG⟩ := id hC
  have hK := hG.1
  intro n
  induction n with
  | zero => intro t tL x3 x5 res h; rw [Mo_fieldOf_48] at h; cases h
  | succ n ih =>
    intro t tL x3 x5 res h H locs ls hP hD hS hl
    rw [Mo_fieldOf_48] at h
    refine lv_iload hx hb d_Mo_fieldOf_48 (lv_at hl 2 rfl) ?_
    refine lv_bipush (v := 12) hx hb d_Mo_fieldOf_50 (by decide) ?_
    refine lv_icmp_ge (tgt := 78) hx hb d_Mo_fieldOf_52 (by decide) (fun c7 => ?_) (fun c7 => ?_)
    · replace h := (if_pos c7).symm.trans h
      refine lv_iconst (v := -1) hx hb d_Mo_fieldOf_78 (by decide) ?_
      cases h
      exact W.iret hx hb hr (fun t ht hW => ⟨⟨_, (), rfl, rfl, trivial⟩, hS.F ht⟩) hS.2.2 d_Mo_fieldOf_79
    · replace h := (if_neg c7).symm.trans h
      refine lv_aload_n hx hb d_Mo_fieldOf_55 rfl (lv_at hl 0 rfl) ?_
      refine va_get (D := gD g) (ci := 8) (v := .ref (a_t 14)) (C := R_Mo) (T := T_Mo) (N := 64) hx hb htb in_Mo hown hK hP 0 rfl rfl 13 (by decide) (htb _ L_Mo_53) (fun _ h9 => h9) rfl d_Mo_fieldOf_56 ?_
      refine lv_iload hx hb d_Mo_fieldOf_59 (lv_at hl 2 rfl) ?_
      by_cases c8 : (x5 < 0 ∨ 12 ≤ x5.toNatClampNeg)
      · replace h := (if_pos c8).symm.trans h
        cases h
      replace h := (if_neg c8).symm.trans h
      refine va_lald hx hb hK hP 5 3 rfl rfl c8 d_Mo_fieldOf_61 ?_
      refine lv_lload_n hx hb d_Mo_fieldOf_62 rfl (lv_at hl 1 rfl) ?_
      refine W.lcmp hx hb d_Mo_fieldOf_63 ?_
      refine lv_if_ne (tgt := 72) hx hb d_Mo_fieldOf_64 (by decide) (fun c9 => ?_) (fun c9 => ?_)
      · replace h := (if_neg c9).symm.trans h
        refine lv_iinc (v := (x5 + (1 : Int32))) (lv' := [(5, .int (x5 + (1 : Int32))), (0, .ref (a_t 0)), (3, .long x3)]) hx hb d_Mo_fieldOf_72 hl (k := 2) rfl rfl (by decide) rfl (fun ls hl => ?_)
        refine lv_goto (tgt := 48) hx hb d_Mo_fieldOf_75 (by decide) ?_
        exact ih _ _ _ _ _ h _ _ _ hP hD hS (lv_sub hl [1, 2, 0] rfl)
      · replace h := (if_pos c9).symm.trans h
        refine lv_iload hx hb d_Mo_fieldOf_67 (lv_at hl 2 rfl) ?_
        refine lv_iconst (v := 1) hx hb d_Mo_fieldOf_69 (by decide) ?_
        refine lv_iadd hx hb d_Mo_fieldOf_70 ?_
        cases h
        exact W.iret hx hb hr (fun t ht hW => ⟨⟨_, (), rfl, rfl, trivial⟩, hS.F ht⟩) hS.2.2 d_Mo_fieldOf_71
set_option maxHeartbeats 4000000 in
set_option maxRecDepth 100000 in
theorem k_Mo_fieldOf_15 {p : Program} {l : Launch} {e : Env} {s : State} {m : MethodId} {args : Array Value} {below : List Frame} {meth : Method} {c : Code} {g : Gz} {A2 A : Nat → Prop} {F : Nat} {a_t : Nat → Nat} (hC : Cx prog_10_method_15_code 6 (some .int) R_Mo p s m args meth c g A2 A) : ∀ (n : Nat) (t : StI) (tL : StL) (x2 : Int32) (x3 : Int64) (x5 : Int32) (res : Int32), Mo_fieldOf_15 F n t tL x2 x3 x5 = some res → Go p l e rm_Mo_fieldOf s m args below meth c g A2 A 6 (MQ below (RI res A) args s 0 0 A) ((pic_Mo g a_t t tL)) [(0, .ref (a_t 0)), (2, .int x2), (3, .long x3), (5, .int x5)] 15 [] := by
  obtain ⟨hx, hb, hr, hml, hown, htb, hlocks, hA, hAA, hG⟩ := id hC
  have hK := hG.1
  intro n
  induction n with
  | zero => intro t tL x2 x3 x5 res h; rw [Mo_fieldOf_15] at h; cases h
  | succ n ih =>
    intro t tL x2 x3 x5 res h H locs ls hP hD hS hl
    rw [Mo_fieldOf_15] at h
    refine lv_iload hx hb d_Mo_fieldOf_15 (lv_at hl 3 rfl) ?_
    refine lv_iload_n hx hb d_Mo_fieldOf_17 rfl (lv_at hl 1 rfl) ?_
    refine lv_icmp_ge (tgt := 45) hx hb d_Mo_fieldOf_18 (by decide) (fun c10 => ?_) (fun c10 => ?_)
    · replace h := (if_pos c10).symm.trans h
      refine lv_iconst (v := 0) hx hb d_Mo_fieldOf_45 (by decide) ?_
      refine lv_istore (lv' := [(5, .int (0 : Int32)), (0, .ref (a_t 0)), (2, .int x2), (3, .long x3)]) hx hb d_Mo_fieldOf_46 hl (by decide) rfl (fun ls hl => ?_)
      exact k_Mo_fieldOf_48 hC F _ _ _ _ _ h _ _ _ hP hD hS (lv_sub hl [1, 3, 0] rfl)
    · replace h := (if_neg c10).symm.trans h
      refine lv_ldc2 (v := 27) hx hb hown (htb _ K_Mo_185) d_Mo_fieldOf_21 ?_
      refine lv_lload_n hx hb d_Mo_fieldOf_24 rfl (lv_at hl 2 rfl) ?_
      refine lv_lmul hx hb d_Mo_fieldOf_25 ?_
      refine lv_aload_n hx hb d_Mo_fieldOf_26 rfl (lv_at hl 0 rfl) ?_
      refine lv_iload hx hb d_Mo_fieldOf_27 (lv_at hl 3 rfl) ?_
      obtain ⟨r11, hr11, h⟩ := Option.bind_eq_some_iff.mp h
      refine cl_Ir hP hS hA (va_runV (As := [.int x5]) (rest := [.long ((27 : Int64) * x3)]) ⟨hx, hb, hml, hown, htb⟩ (c_Mo_see l g F a_t t tL x5 _ hr11 H.size) (cw_V htb mb_Mo_see (htb _ L_Mo_160) rfl rfl ⟨Nat.le_of_ble_eq_true rfl, Nat.le_of_ble_eq_true rfl⟩) (pre_V (va_recv hK hP (ci := 8) (q0 := 0) rfl rfl) (pre_S [0, 1, 2, 3, 4, 5, 6, 7, 8, 9, 10, 11, 12, 13, 14, 15, 16, 17, 18, 19, 20, 21, 22, 23, 24, 25, 26, 27, 28, 29, 30, 31, 32] rfl rfl hP hD hS hA hAA hG)) rfl rfl hl.1 rfl (lv_room (Nat.le_of_ble_eq_true rfl)) d_Mo_fieldOf_29 ⟨Nat.zero_le _, Nat.zero_le _⟩) (fun H locs hP hS => ?_)
      refine lv_i2l hx hb d_Mo_fieldOf_32 rfl ?_
      refine lv_ladd hx hb d_Mo_fieldOf_33 ?_
      refine lv_ldc2 (v := 96) hx hb hown (htb _ K_Mo_187) d_Mo_fieldOf_34 ?_
      refine lv_lsub hx hb d_Mo_fieldOf_37 ?_
      refine lv_lstore_n (lv' := [(3, .long ((((27 : Int64) * x3) + r11.toInt64) - (96 : Int64))), (0, .ref (a_t 0)), (2, .int x2), (5, .int x5)]) hx hb d_Mo_fieldOf_38 rfl hl (by decide) rfl (fun ls hl => ?_)
      refine lv_iinc (v := (x5 + (1 : Int32))) (lv' := [(5, .int (x5 + (1 : Int32))), (3, .long ((((27 : Int64) * x3) + r11.toInt64) - (96 : Int64))), (0, .ref (a_t 0)), (2, .int x2)]) hx hb d_Mo_fieldOf_39 hl (k := 3) rfl rfl (by decide) rfl (fun ls hl => ?_)
      refine lv_goto (tgt := 15) hx hb d_Mo_fieldOf_42 (by decide) ?_
      exact ih _ _ _ _ _ _ h _ _ _ hP hD hS (lv_sub hl [2, 3, 1, 0] rfl)
set_option maxHeartbeats 4000000 in
set_option maxRecDepth 100000 in
theorem k_Mo_fieldOf {p : Program} {l : Launch} {e : Env} {s : State} {m : MethodId} {args : Array Value} {below : List Frame} {meth : Method} {c : Code} {g : Gz} {A2 A : Nat → Prop} {F : Nat} {a_t : Nat → Nat} (hC : Cx prog_10_method_15_code 6 (some .int) R_Mo p s m args meth c g A2 A) : ∀ (t : StI) (tL : StL) (x1 : Int32) (x2 : Int32) (res : Int32), Mo_fieldOf F t tL x1 x2 = some res → Go p l e rm_Mo_fieldOf s m args below meth c g A2 A 6 (MQ below (RI res A) args s 0 0 A) ((pic_Mo g a_t t tL)) [(0, .ref (a_t 0)), (1, .int x1), (2, .int x2)] 0 [] := by
  obtain ⟨hx, hb, hr, hml, hown, htb, hlocks, hA, hAA, hG⟩ := id hC
  have hK := hG.1
  intro t tL x1 x2 res h H locs ls hP hD hS hl
  rw [Mo_fieldOf] at h
  refine lv_iload_n hx hb d_Mo_fieldOf_0 rfl (lv_at hl 2 rfl) ?_
  refine lv_iload_n hx hb d_Mo_fieldOf_1 rfl (lv_at hl 1 rfl) ?_
  refine lv_isub hx hb d_Mo_fieldOf_2 ?_
  refine lv_bipush (v := 10) hx hb d_Mo_fieldOf_3 (by decide) ?_
  refine lv_icmp_le (tgt := 10) hx hb d_Mo_fieldOf_5 (by decide) (fun c12 => ?_) (fun c12 => ?_)
  · replace h := (if_pos c12).symm.trans h
    refine lv_lconst (v := 0) hx hb d_Mo_fieldOf_10 (by decide) ?_
    refine lv_lstore_n (lv' := [(3, .long (0 : Int64)), (0, .ref (a_t 0)), (1, .int x1), (2, .int x2)]) hx hb d_Mo_fieldOf_11 rfl hl (by decide) rfl (fun ls hl => ?_)
    refine lv_iload_n hx hb d_Mo_fieldOf_12 rfl (lv_at hl 2 rfl) ?_
    refine lv_istore (lv' := [(5, .int x1), (3, .long (0 : Int64)), (0, .ref (a_t 0)), (1, .int x1), (2, .int x2)]) hx hb d_Mo_fieldOf_13 hl (by decide) rfl (fun ls hl => ?_)
    exact k_Mo_fieldOf_15 hC F _ _ _ _ _ _ h _ _ _ hP hD hS (lv_sub hl [2, 4, 1, 0] rfl)
  · replace h := (if_neg c12).symm.trans h
    refine lv_iconst (v := -1) hx hb d_Mo_fieldOf_8 (by decide) ?_
    cases h
    exact W.iret hx hb hr (fun t ht hW => ⟨⟨_, (), rfl, rfl, trivial⟩, hS.F ht⟩) hS.2.2 d_Mo_fieldOf_9
theorem c_Mo_fieldOf (l : Launch) (g : Gz) (F : Nat) (a_t : Nat → Nat) (t : StI) (tL : StL) (x1 : Int32) (x2 : Int32) (res : Int32) (h : Mo_fieldOf F t tL x1 x2 = some res) : ∀ sz : Nat, Met l y_Mo_fieldOf (.code y_Mo_fieldOf prog_10_method_15_code 6 (some .int) :: TBL) rm_Mo_fieldOf (va_Pc [.ref (a_t 0), .int x1, .int x2] (Pre0 g ((pic_Mo g a_t t tL)) sz)) (RI res (fun q => sz ≤ q)) 0 0 (fun q => sz ≤ q) :=
  ct_r (Qc := fun A => RI res A) (by decide) (Nat.le_of_ble_eq_true rfl) (fun p e s m args below meth c A2 A hC => k_Mo_fieldOf hC t tL x1 x2 res h)
def Mo_takePhrase_29 (F : Nat) (t : StI) (tL : StL) (x1 : Int32) (x2 : Int32) : Option (Int32 × StI × StL) := letS (va_up t 19 (fun _ => (1 : Int32))) fun t_12 => letS (va_up t_12 17 (fun _ => (x1 + (1 : Int32)))) fun t_13 => letS (va_up t_13 18 (fun _ => x2)) fun t_14 => letS (va_up t_14 8 (fun _ => (x2 + (1 : Int32)))) fun t_15 => (Mo_see F t_15 tL x2).bind fun r16 => if r16 = (34 : Int32) then if x2 ≤ (x1 + (1 : Int32)) then some ((0 : Int32), t_15, tL) else some ((1 : Int32), t_15, tL) else some ((0 : Int32), t_15, tL)
def Mo_takePhrase_4 (F : Nat) : Nat → StI → StL → Int32 → Int32 → Option (Int32 × StI × StL)
  | 0, _, _, _, _ => none
  | n + 1, t, tL, x1, x2 => (Mo_see F t tL x2).bind fun r19 => if r19 = (-1 : Int32) then Mo_takePhrase_29 F t tL x1 x2 else (Mo_see F t tL x2).bind fun r21 => if r21 = (34 : Int32) then Mo_takePhrase_29 F t tL x1 x2 else Mo_takePhrase_4 F n t tL x1 (x2 + (1 : Int32))
def Mo_takePhrase (F : Nat) (t : StI) (tL : StL) (x1 : Int32) : Option (Int32 × StI × StL) := Mo_takePhrase_4 F F t tL x1 (x1 + (1 : Int32))
set_option maxHeartbeats 4000000 in
set_option maxRecDepth 100000 in
theorem k_Mo_takePhrase_29 {p : Program} {l : Launch} {e : Env} {s : State} {m : MethodId} {args : Array Value} {below : List Frame} {meth : Method} {c : Code} {g : Gz} {A : Nat → Prop} {F : Nat} {a_t : Nat → Nat} (hC : Cx prog_10_method_16_code 3 (some .boolean) R_Mo p s m args meth c g A A) : ∀ (t : StI) (tL : StL) (x1 : Int32) (x2 : Int32) (res : Int32 × StI × StL), Mo_takePhrase_29 F t tL x1 x2 = some res → Go p l e rm_Mo_takePhrase s m args below meth c g A A 3 (MQ below (EI g ((pic_Mo g a_t res.2.1 res.2.2)) res.1 A) args s 0 0 A) ((pic_Mo g a_t t tL)) [(0, .ref (a_t 0)), (1, .int x1), (2, .int x2)] 29 [] := by
  obtain ⟨hx, hb, hr, hml, hown, htb, hlocks, hA, hAA, hG⟩ := id hC
  have hK := hG.1
  intro t tL x1 x2 res h H locs ls hP hD hS hl
  rw [Mo_takePhrase_29] at h
  refine lv_aload_n hx hb d_Mo_takePhrase_29 rfl (lv_at hl 0 rfl) ?_
  refine lv_iconst (v := 1) hx hb d_Mo_takePhrase_30 (by decide) ?_
  refine va_put (D := gD g) (ci := 8) (v := .int (1 : Int32)) (ty := .boolean) (C := R_Mo) (T := T_Mo) (N := 64) hx hb htb in_Mo ty_Mo ty_Mo_ok nm_Mo hown hK hP hD hS 0 rfl rfl 19 (by decide) (htb _ L_Mo_189) (fun _ h9 => h9) rfl (by decide +kernel) rfl rfl (Nat.le_of_ble_eq_true rfl) d_Mo_takePhrase_31 (fun H locs hP hD hS => ?_)
  obtain ⟨t_12, et_12, h⟩ := letS_el h
  have hP : va_P (gD g) vwCl ((pic_Mo g a_t t_12 tL)) H := by rw [et_12]; exact hP
  have hD : va_D A ((pic_Mo g a_t t_12 tL)) := by rw [et_12]; exact hD
  refine lv_aload_n hx hb d_Mo_takePhrase_34 rfl (lv_at hl 0 rfl) ?_
  refine lv_iload_n hx hb d_Mo_takePhrase_35 rfl (lv_at hl 1 rfl) ?_
  refine lv_iconst (v := 1) hx hb d_Mo_takePhrase_36 (by decide) ?_
  refine lv_iadd hx hb d_Mo_takePhrase_37 ?_
  refine va_put (D := gD g) (ci := 8) (v := .int (x1 + (1 : Int32))) (ty := .int) (C := R_Mo) (T := T_Mo) (N := 64) hx hb htb in_Mo ty_Mo ty_Mo_ok nm_Mo hown hK hP hD hS 0 rfl rfl 17 (by decide) (htb _ L_Mo_193) (fun _ h9 => h9) rfl (by decide +kernel) rfl rfl (Nat.le_of_ble_eq_true rfl) d_Mo_takePhrase_38 (fun H locs hP hD hS => ?_)
  obtain ⟨t_13, et_13, h⟩ := letS_el h
  have hP : va_P (gD g) vwCl ((pic_Mo g a_t t_13 tL)) H := by rw [et_13]; exact hP
  have hD : va_D A ((pic_Mo g a_t t_13 tL)) := by rw [et_13]; exact hD
  refine lv_aload_n hx hb d_Mo_takePhrase_41 rfl (lv_at hl 0 rfl) ?_
  refine lv_iload_n hx hb d_Mo_takePhrase_42 rfl (lv_at hl 2 rfl) ?_
  refine va_put (D := gD g) (ci := 8) (v := .int x2) (ty := .int) (C := R_Mo) (T := T_Mo) (N := 64) hx hb htb in_Mo ty_Mo ty_Mo_ok nm_Mo hown hK hP hD hS 0 rfl rfl 18 (by decide) (htb _ L_Mo_196) (fun _ h9 => h9) rfl (by decide +kernel) rfl rfl (Nat.le_of_ble_eq_true rfl) d_Mo_takePhrase_43 (fun H locs hP hD hS => ?_)
  obtain ⟨t_14, et_14, h⟩ := letS_el h
  have hP : va_P (gD g) vwCl ((pic_Mo g a_t t_14 tL)) H := by rw [et_14]; exact hP
  have hD : va_D A ((pic_Mo g a_t t_14 tL)) := by rw [et_14]; exact hD
  refine lv_aload_n hx hb d_Mo_takePhrase_46 rfl (lv_at hl 0 rfl) ?_
  refine lv_iload_n hx hb d_Mo_takePhrase_47 rfl (lv_at hl 2 rfl) ?_
  refine lv_iconst (v := 1) hx hb d_Mo_takePhrase_48 (by decide) ?_
  refine lv_iadd hx hb d_Mo_takePhrase_49 ?_
  refine va_put (D := gD g) (ci := 8) (v := .int (x2 + (1 : Int32))) (ty := .int) (C := R_Mo) (T := T_Mo) (N := 64) hx hb htb in_Mo ty_Mo ty_Mo_ok nm_Mo hown hK hP hD hS 0 rfl rfl 8 (by decide) (htb _ L_Mo_199) (fun _ h9 => h9) rfl (by decide +kernel) rfl rfl (Nat.le_of_ble_eq_true rfl) d_Mo_takePhrase_50 (fun H locs hP hD hS => ?_)
  obtain ⟨t_15, et_15, h⟩ := letS_el h
  have hP : va_P (gD g) vwCl ((pic_Mo g a_t t_15 tL)) H := by rw [et_15]; exact hP
  have hD : va_D A ((pic_Mo g a_t t_15 tL)) := by rw [et_15]; exact hD
  refine lv_aload_n hx hb d_Mo_takePhrase_53 rfl (lv_at hl 0 rfl) ?_
  refine lv_iload_n hx hb d_Mo_takePhrase_54 rfl (lv_at hl 2 rfl) ?_
  obtain ⟨r16, hr16, h⟩ := Option.bind_eq_some_iff.mp h
  refine cl_Ir hP hS hA (va_runV (As := [.int x2]) (rest := []) ⟨hx, hb, hml, hown, htb⟩ (c_Mo_see l g F a_t t_15 tL x2 _ hr16 H.size) (cw_V htb mb_Mo_see (htb _ L_Mo_160) rfl rfl ⟨Nat.le_of_ble_eq_true rfl, Nat.le_of_ble_eq_true rfl⟩) (pre_V (va_recv hK hP (ci := 8) (q0 := 0) rfl rfl) (pre_S [0, 1, 2, 3, 4, 5, 6, 7, 8, 9, 10, 11, 12, 13, 14, 15, 16, 17, 18, 19, 20, 21, 22, 23, 24, 25, 26, 27, 28, 29, 30, 31, 32] rfl rfl hP hD hS hA hAA hG)) rfl rfl hl.1 rfl (lv_room (Nat.le_of_ble_eq_true rfl)) d_Mo_takePhrase_55 ⟨Nat.zero_le _, Nat.zero_le _⟩) (fun H locs hP hS => ?_)
  refine lv_bipush (v := 34) hx hb d_Mo_takePhrase_58 (by decide) ?_
  refine lv_icmp_ne (tgt := 74) hx hb d_Mo_takePhrase_60 (by decide) (fun c17 => ?_) (fun c17 => ?_)
  · replace h := (if_neg c17).symm.trans h
    refine lv_iconst (v := 0) hx hb d_Mo_takePhrase_74 (by decide) ?_
    cases h
    exact W.zret hx hb hr rfl (fun t ht hW => ⟨⟨_, (), rfl, rfl, by rw [ht]; exact hP, hD⟩, hS.F ht⟩) hS.2.2 d_Mo_takePhrase_75
  · replace h := (if_pos c17).symm.trans h
    refine lv_iload_n hx hb d_Mo_takePhrase_63 rfl (lv_at hl 2 rfl) ?_
    refine lv_iload_n hx hb d_Mo_takePhrase_64 rfl (lv_at hl 1 rfl) ?_
    refine lv_iconst (v := 1) hx hb d_Mo_takePhrase_65 (by decide) ?_
    refine lv_iadd hx hb d_Mo_takePhrase_66 ?_
    refine lv_icmp_le (tgt := 74) hx hb d_Mo_takePhrase_67 (by decide) (fun c18 => ?_) (fun c18 => ?_)
    · replace h := (if_pos c18).symm.trans h
      refine lv_iconst (v := 0) hx hb d_Mo_takePhrase_74 (by decide) ?_
      cases h
      exact W.zret hx hb hr rfl (fun t ht hW => ⟨⟨_, (), rfl, rfl, by rw [ht]; exact hP, hD⟩, hS.F ht⟩) hS.2.2 d_Mo_takePhrase_75
    · replace h := (if_neg c18).symm.trans h
      refine lv_iconst (v := 1) hx hb d_Mo_takePhrase_70 (by decide) ?_
      refine lv_goto (tgt := 75) hx hb d_Mo_takePhrase_71 (by decide) ?_
      cases h
      exact W.zret hx hb hr rfl (fun t ht hW => ⟨⟨_, (), rfl, rfl, by rw [ht]; exact hP, hD⟩, hS.F ht⟩) hS.2.2 d_Mo_takePhrase_75
set_option maxHeartbeats 4000000 in
set_option maxRecDepth 100000 in
theorem k_Mo_takePhrase_4 {p : Program} {l : Launch} {e : Env} {s : State} {m : MethodId} {args : Array Value} {below : List Frame} {meth : Method} {c : Code} {g : Gz} {A : Nat → Prop} {F : Nat} {a_t : Nat → Nat} (hC : Cx prog_10_method_16_code 3 (some .boolean) R_Mo p s m args meth c g A A) : ∀ (n : Nat) (t : StI) (tL : StL) (x1 : Int32) (x2 : Int32) (res : Int32 × StI × StL), Mo_takePhrase_4 F n t tL x1 x2 = some res → Go p l e rm_Mo_takePhrase s m args below meth c g A A 3 (MQ below (EI g ((pic_Mo g a_t res.2.1 res.2.2)) res.1 A) args s 0 0 A) ((pic_Mo g a_t t tL)) [(0, .ref (a_t 0)), (1, .int x1), (2, .int x2)] 4 [] := by
  obtain ⟨hx, hb, hr, hml, hown, htb, hlocks, hA, hAA, hG⟩ := id hC
  have hK := hG.1
  intro n
  induction n with
  | zero => intro t tL x1 x2 res h; rw [Mo_takePhrase_4] at h; cases h
  | succ n ih =>
    intro t tL x1 x2 res h H locs ls hP hD hS hl
    rw [Mo_takePhrase_4] at h
    refine lv_aload_n hx hb d_Mo_takePhrase_4 rfl (lv_at hl 0 rfl) ?_
    refine lv_iload_n hx hb d_Mo_takePhrase_5 rfl (lv_at hl 2 rfl) ?_
    obtain ⟨r19, hr19, h⟩ := Option.bind_eq_some_iff.mp h
    refine cl_Ir hP hS hA (va_runV (As := [.int x2]) (rest := []) ⟨hx, hb, hml, hown, htb⟩ (c_Mo_see l g F a_t t tL x2 _ hr19 H.size) (cw_V htb mb_Mo_see (htb _ L_Mo_160) rfl rfl ⟨Nat.le_of_ble_eq_true rfl, Nat.le_of_ble_eq_true rfl⟩) (pre_V (va_recv hK hP (ci := 8) (q0 := 0) rfl rfl) (pre_S [0, 1, 2, 3, 4, 5, 6, 7, 8, 9, 10, 11, 12, 13, 14, 15, 16, 17, 18, 19, 20, 21, 22, 23, 24, 25, 26, 27, 28, 29, 30, 31, 32] rfl rfl hP hD hS hA hAA hG)) rfl rfl hl.1 rfl (lv_room (Nat.le_of_ble_eq_true rfl)) d_Mo_takePhrase_6 ⟨Nat.zero_le _, Nat.zero_le _⟩) (fun H locs hP hS => ?_)
    refine lv_iconst (v := -1) hx hb d_Mo_takePhrase_9 (by decide) ?_
    refine lv_icmp_eq (tgt := 29) hx hb d_Mo_takePhrase_10 (by decide) (fun c20 => ?_) (fun c20 => ?_)
    · replace h := (if_pos c20).symm.trans h
      exact k_Mo_takePhrase_29 hC _ _ _ _ _ h _ _ _ hP hD hS (lv_sub hl [0, 1, 2] rfl)
    · replace h := (if_neg c20).symm.trans h
      refine lv_aload_n hx hb d_Mo_takePhrase_13 rfl (lv_at hl 0 rfl) ?_
      refine lv_iload_n hx hb d_Mo_takePhrase_14 rfl (lv_at hl 2 rfl) ?_
      obtain ⟨r21, hr21, h⟩ := Option.bind_eq_some_iff.mp h
      refine cl_Ir hP hS hA (va_runV (As := [.int x2]) (rest := []) ⟨hx, hb, hml, hown, htb⟩ (c_Mo_see l g F a_t t tL x2 _ hr21 H.size) (cw_V htb mb_Mo_see (htb _ L_Mo_160) rfl rfl ⟨Nat.le_of_ble_eq_true rfl, Nat.le_of_ble_eq_true rfl⟩) (pre_V (va_recv hK hP (ci := 8) (q0 := 0) rfl rfl) (pre_S [0, 1, 2, 3, 4, 5, 6, 7, 8, 9, 10, 11, 12, 13, 14, 15, 16, 17, 18, 19, 20, 21, 22, 23, 24, 25, 26, 27, 28, 29, 30, 31, 32] rfl rfl hP hD hS hA hAA hG)) rfl rfl hl.1 rfl (lv_room (Nat.le_of_ble_eq_true rfl)) d_Mo_takePhrase_15 ⟨Nat.zero_le _, Nat.zero_le _⟩) (fun H locs hP hS => ?_)
      refine lv_bipush (v := 34) hx hb d_Mo_takePhrase_18 (by decide) ?_
      refine lv_icmp_eq (tgt := 29) hx hb d_Mo_takePhrase_20 (by decide) (fun c22 => ?_) (fun c22 => ?_)
      · replace h := (if_pos c22).symm.trans h
        exact k_Mo_takePhrase_29 hC _ _ _ _ _ h _ _ _ hP hD hS (lv_sub hl [0, 1, 2] rfl)
      · replace h := (if_neg c22).symm.trans h
        refine lv_iinc (v := (x2 + (1 : Int32))) (lv' := [(2, .int (x2 + (1 : Int32))), (0, .ref (a_t 0)), (1, .int x1)]) hx hb d_Mo_takePhrase_23 hl (k := 2) rfl rfl (by decide) rfl (fun ls hl => ?_)
        refine lv_goto (tgt := 4) hx hb d_Mo_takePhrase_26 (by decide) ?_
        exact ih _ _ _ _ _ h _ _ _ hP hD hS (lv_sub hl [1, 2, 0] rfl)
set_option maxHeartbeats 4000000 in
set_option maxRecDepth 100000 in
theorem k_Mo_takePhrase {p : Program} {l : Launch} {e : Env} {s : State} {m : MethodId} {args : Array Value} {below : List Frame} {meth : Method} {c : Code} {g : Gz} {A : Nat → Prop} {F : Nat} {a_t : Nat → Nat} (hC : Cx prog_10_method_16_code 3 (some .boolean) R_Mo p s m args meth c g A A) : ∀ (t : StI) (tL : StL) (x1 : Int32) (res : Int32 × StI × StL), Mo_takePhrase F t tL x1 = some res → Go p l e rm_Mo_takePhrase s m args below meth c g A A 3 (MQ below (EI g ((pic_Mo g a_t res.2.1 res.2.2)) res.1 A) args s 0 0 A) ((pic_Mo g a_t t tL)) [(0, .ref (a_t 0)), (1, .int x1)] 0 [] := by
  obtain ⟨hx, hb, hr, hml, hown, htb, hlocks, hA, hAA, hG⟩ := id hC
  have hK := hG.1
  intro t tL x1 res h H locs ls hP hD hS hl
  rw [Mo_takePhrase] at h
  refine lv_iload_n hx hb d_Mo_takePhrase_0 rfl (lv_at hl 1 rfl) ?_
  refine lv_iconst (v := 1) hx hb d_Mo_takePhrase_1 (by decide) ?_
  refine lv_iadd hx hb d_Mo_takePhrase_2 ?_
  refine lv_istore_n (lv' := [(2, .int (x1 + (1 : Int32))), (0, .ref (a_t 0)), (1, .int x1)]) hx hb d_Mo_takePhrase_3 rfl hl (by decide) rfl (fun ls hl => ?_)
  exact k_Mo_takePhrase_4 hC F _ _ _ _ _ h _ _ _ hP hD hS (lv_sub hl [1, 2, 0] rfl)
theorem c_Mo_takePhrase (l : Launch) (g : Gz) (F : Nat) (a_t : Nat → Nat) (t : StI) (tL : StL) (x1 : Int32) (res : Int32 × StI × StL) (h : Mo_takePhrase F t tL x1 = some res) : ∀ sz : Nat, Met l y_Mo_takePhrase (.code y_Mo_takePhrase prog_10_method_16_code 3 (some .boolean) :: TBL) rm_Mo_takePhrase (va_Pc [.ref (a_t 0), .int x1] (Pre0 g ((pic_Mo g a_t t tL)) sz)) (EI g ((pic_Mo g a_t res.2.1 res.2.2)) res.1 (va_A ((pic_Mo g a_t t tL)) sz)) 0 0 (va_A ((pic_Mo g a_t t tL)) sz) :=
  ct_w (Qc := fun A => EI g ((pic_Mo g a_t res.2.1 res.2.2)) res.1 A) (by decide) (Nat.le_of_ble_eq_true rfl) (fun p e s m args below meth c A hC => k_Mo_takePhrase hC t tL x1 res h)
def Mo_takeRun (F : Nat) (t : StI) (tL : StL) (x1 : Int32) : Option (StI × StL) := letS (va_up t 19 (fun _ => (0 : Int32))) fun t_6 => letS (va_up t_6 17 (fun _ => x1)) fun t_7 => (Mo_runEnd F t_7 tL x1).bind fun r8 => letS (va_up t_7 18 (fun _ => r8)) fun t_9 => letS (va_up t_9 8 (fun _ => (t_9 18 0))) fun t_10 => some (t_10, tL)
set_option maxHeartbeats 4000000 in
set_option maxRecDepth 100000 in
theorem k_Mo_takeRun {p : Program} {l : Launch} {e : Env} {s : State} {m : MethodId} {args : Array Value} {below : List Frame} {meth : Method} {c : Code} {g : Gz} {A : Nat → Prop} {F : Nat} {a_t : Nat → Nat} (hC : Cx prog_10_method_17_code 2 none R_Mo p s m args meth c g A A) : ∀ (t : StI) (tL : StL) (x1 : Int32) (res : StI × StL), Mo_takeRun F t tL x1 = some res → Go p l e rm_Mo_takeRun s m args below meth c g A A 2 (MQ below (EV g ((pic_Mo g a_t res.1 res.2)) A) args s 0 0 A) ((pic_Mo g a_t t tL)) [(0, .ref (a_t 0)), (1, .int x1)] 0 [] := by
  obtain ⟨hx, hb, hr, hml, hown, htb, hlocks, hA, hAA, hG⟩ := id hC
  have hK := hG.1
  intro t tL x1 res h H locs ls hP hD hS hl
  rw [Mo_takeRun] at h
  refine lv_aload_n hx hb d_Mo_takeRun_0 rfl (lv_at hl 0 rfl) ?_
  refine lv_iconst (v := 0) hx hb d_Mo_takeRun_1 (by decide) ?_
  refine va_put (D := gD g) (ci := 8) (v := .int (0 : Int32)) (ty := .boolean) (C := R_Mo) (T := T_Mo) (N := 64) hx hb htb in_Mo ty_Mo ty_Mo_ok nm_Mo hown hK hP hD hS 0 rfl rfl 19 (by decide) (htb _ L_Mo_189) (fun _ h9 => h9) rfl (by decide +kernel) rfl rfl (Nat.le_of_ble_eq_true rfl) d_Mo_takeRun_2 (fun H locs hP hD hS => ?_)
  obtain ⟨t_6, et_6, h⟩ := letS_el h
  have hP : va_P (gD g) vwCl ((pic_Mo g a_t t_6 tL)) H := by rw [et_6]; exact hP
  have hD : va_D A ((pic_Mo g a_t t_6 tL)) := by rw [et_6]; exact hD
  refine lv_aload_n hx hb d_Mo_takeRun_5 rfl (lv_at hl 0 rfl) ?_
  refine lv_iload_n hx hb d_Mo_takeRun_6 rfl (lv_at hl 1 rfl) ?_
  refine va_put (D := gD g) (ci := 8) (v := .int x1) (ty := .int) (C := R_Mo) (T := T_Mo) (N := 64) hx hb htb in_Mo ty_Mo ty_Mo_ok nm_Mo hown hK hP hD hS 0 rfl rfl 17 (by decide) (htb _ L_Mo_193) (fun _ h9 => h9) rfl (by decide +kernel) rfl rfl (Nat.le_of_ble_eq_true rfl) d_Mo_takeRun_7 (fun H locs hP hD hS => ?_)
  obtain ⟨t_7, et_7, h⟩ := letS_el h
  have hP : va_P (gD g) vwCl ((pic_Mo g a_t t_7 tL)) H := by rw [et_7]; exact hP
  have hD : va_D A ((pic_Mo g a_t t_7 tL)) := by rw [et_7]; exact hD
  refine lv_aload_n hx hb d_Mo_takeRun_10 rfl (lv_at hl 0 rfl) ?_
  refine lv_aload_n hx hb d_Mo_takeRun_11 rfl (lv_at hl 0 rfl) ?_
  refine lv_iload_n hx hb d_Mo_takeRun_12 rfl (lv_at hl 1 rfl) ?_
  obtain ⟨r8, hr8, h⟩ := Option.bind_eq_some_iff.mp h
  refine cl_Ir hP hS hA (va_runV (As := [.int x1]) (rest := [.ref (a_t 0)]) ⟨hx, hb, hml, hown, htb⟩ (c_Mo_runEnd l g F a_t t_7 tL x1 _ hr8 H.size) (cw_V htb mb_Mo_runEnd (htb _ L_Mo_202) rfl rfl ⟨Nat.le_of_ble_eq_true rfl, Nat.le_of_ble_eq_true rfl⟩) (pre_V (va_recv hK hP (ci := 8) (q0 := 0) rfl rfl) (pre_S [0, 1, 2, 3, 4, 5, 6, 7, 8, 9, 10, 11, 12, 13, 14, 15, 16, 17, 18, 19, 20, 21, 22, 23, 24, 25, 26, 27, 28, 29, 30, 31, 32] rfl rfl hP hD hS hA hAA hG)) rfl rfl hl.1 rfl (lv_room (Nat.le_of_ble_eq_true rfl)) d_Mo_takeRun_13 ⟨Nat.zero_le _, Nat.zero_le _⟩) (fun H locs hP hS => ?_)
  refine va_put (D := gD g) (ci := 8) (v := .int r8) (ty := .int) (C := R_Mo) (T := T_Mo) (N := 64) hx hb htb in_Mo ty_Mo ty_Mo_ok nm_Mo hown hK hP hD hS 0 rfl rfl 18 (by decide) (htb _ L_Mo_196) (fun _ h9 => h9) rfl (by decide +kernel) rfl rfl (Nat.le_of_ble_eq_true rfl) d_Mo_takeRun_16 (fun H locs hP hD hS => ?_)
  obtain ⟨t_9, et_9, h⟩ := letS_el h
  have hP : va_P (gD g) vwCl ((pic_Mo g a_t t_9 tL)) H := by rw [et_9]; exact hP
  have hD : va_D A ((pic_Mo g a_t t_9 tL)) := by rw [et_9]; exact hD
  refine lv_aload_n hx hb d_Mo_takeRun_19 rfl (lv_at hl 0 rfl) ?_
  refine lv_aload_n hx hb d_Mo_takeRun_20 rfl (lv_at hl 0 rfl) ?_
  refine va_get (D := gD g) (ci := 8) (v := .int (t_9 18 0)) (C := R_Mo) (T := T_Mo) (N := 64) hx hb htb in_Mo hown hK hP 0 rfl rfl 18 (by decide) (htb _ L_Mo_196) (fun _ h9 => h9) rfl d_Mo_takeRun_21 ?_
  refine va_put (D := gD g) (ci := 8) (v := .int (t_9 18 0)) (ty := .int) (C := R_Mo) (T := T_Mo) (N := 64) hx hb htb in_Mo ty_Mo ty_Mo_ok nm_Mo hown hK hP hD hS 0 rfl rfl 8 (by decide) (htb _ L_Mo_199) (fun _ h9 => h9) rfl (by decide +kernel) rfl rfl (Nat.le_of_ble_eq_true rfl) d_Mo_takeRun_24 (fun H locs hP hD hS => ?_)
  obtain ⟨t_10, et_10, h⟩ := letS_el h
  have hP : va_P (gD g) vwCl ((pic_Mo g a_t t_10 tL)) H := by rw [et_10]; exact hP
  have hD : va_D A ((pic_Mo g a_t t_10 tL)) := by rw [et_10]; exact hD
  cases h
  exact W.vret hx hb hr (fun t ht hW => ⟨⟨(), rfl, trivial, by rw [ht]; exact hP, hD⟩, hS.F ht⟩) hS.2.2 d_Mo_takeRun_27
theorem c_Mo_takeRun (l : Launch) (g : Gz) (F : Nat) (a_t : Nat → Nat) (t : StI) (tL : StL) (x1 : Int32) (res : StI × StL) (h : Mo_takeRun F t tL x1 = some res) : ∀ sz : Nat, Met l y_Mo_takeRun (.code y_Mo_takeRun prog_10_method_17_code 2 none :: TBL) rm_Mo_takeRun (va_Pc [.ref (a_t 0), .int x1] (Pre0 g ((pic_Mo g a_t t tL)) sz)) (EV g ((pic_Mo g a_t res.1 res.2)) (va_A ((pic_Mo g a_t t tL)) sz)) 0 0 (va_A ((pic_Mo g a_t t tL)) sz) :=
  ct_w (Qc := fun A => EV g ((pic_Mo g a_t res.1 res.2)) A) (by decide) (Nat.le_of_ble_eq_true rfl) (fun p e s m args below meth c A hC => k_Mo_takeRun hC t tL x1 res h)
def Mo_isSpace (F : Nat) (t : StI) (tL : StL) (x1 : Int32) : Option (Int32) := if x1 = (32 : Int32) then some (1 : Int32) else if x1 = (9 : Int32) then some (1 : Int32) else some (0 : Int32)
set_option maxHeartbeats 4000000 in
set_option maxRecDepth 100000 in
theorem k_Mo_isSpace {p : Program} {l : Launch} {e : Env} {s : State} {m : MethodId} {args : Array Value} {below : List Frame} {meth : Method} {c : Code} {g : Gz} {A2 A : Nat → Prop} {F : Nat} {a_t : Nat → Nat} (hC : Cx prog_10_method_18_code 2 (some .boolean) R_Mo p s m args meth c g A2 A) : ∀ (t : StI) (tL : StL) (x1 : Int32) (res : Int32), Mo_isSpace F t tL x1 = some res → Go p l e rm_Mo_isSpace s m args below meth c g A2 A 2 (MQ below (RI res A) args s 0 0 A) ((pic_Mo g a_t t tL)) [(0, .ref (a_t 0)), (1, .int x1)] 0 [] := by
  obtain ⟨hx, hb, hr, hml, hown, htb, hlocks, hA, hAA, hG⟩ := id hC
  have hK := hG.1
  intro t tL x1 res h H locs ls hP hD hS hl
  rw [Mo_isSpace] at h
  refine lv_iload_n hx hb d_Mo_isSpace_0 rfl (lv_at hl 1 rfl) ?_
  refine lv_bipush (v := 32) hx hb d_Mo_isSpace_1 (by decide) ?_
  refine lv_icmp_eq (tgt := 12) hx hb d_Mo_isSpace_3 (by decide) (fun c3 => ?_) (fun c3 => ?_)
  · replace h := (if_pos c3).symm.trans h
    refine lv_iconst (v := 1) hx hb d_Mo_isSpace_12 (by decide) ?_
    refine lv_goto (tgt := 17) hx hb d_Mo_isSpace_13 (by decide) ?_
    cases h
    exact W.zret hx hb hr rfl (fun t ht hW => ⟨⟨_, (), rfl, rfl, trivial⟩, hS.F ht⟩) hS.2.2 d_Mo_isSpace_17
  · replace h := (if_neg c3).symm.trans h
    refine lv_iload_n hx hb d_Mo_isSpace_6 rfl (lv_at hl 1 rfl) ?_
    refine lv_bipush (v := 9) hx hb d_Mo_isSpace_7 (by decide) ?_
    refine lv_icmp_ne (tgt := 16) hx hb d_Mo_isSpace_9 (by decide) (fun c4 => ?_) (fun c4 => ?_)
    · replace h := (if_neg c4).symm.trans h
      refine lv_iconst (v := 0) hx hb d_Mo_isSpace_16 (by decide) ?_
      cases h
      exact W.zret hx hb hr rfl (fun t ht hW => ⟨⟨_, (), rfl, rfl, trivial⟩, hS.F ht⟩) hS.2.2 d_Mo_isSpace_17
    · replace h := (if_pos c4).symm.trans h
      refine lv_iconst (v := 1) hx hb d_Mo_isSpace_12 (by decide) ?_
      refine lv_goto (tgt := 17) hx hb d_Mo_isSpace_13 (by decide) ?_
      cases h
      exact W.zret hx hb hr rfl (fun t ht hW => ⟨⟨_, (), rfl, rfl, trivial⟩, hS.F ht⟩) hS.2.2 d_Mo_isSpace_17
theorem c_Mo_isSpace (l : Launch) (g : Gz) (F : Nat) (a_t : Nat → Nat) (t : StI) (tL : StL) (x1 : Int32) (res : Int32) (h : Mo_isSpace F t tL x1 = some res) : ∀ sz : Nat, Met l y_Mo_isSpace (.code y_Mo_isSpace prog_10_method_18_code 2 (some .boolean) :: TBL) rm_Mo_isSpace (va_Pc [.ref (a_t 0), .int x1] (Pre0 g ((pic_Mo g a_t t tL)) sz)) (RI res (fun q => sz ≤ q)) 0 0 (fun q => sz ≤ q) :=
  ct_r (Qc := fun A => RI res A) (by decide) (Nat.le_of_ble_eq_true rfl) (fun p e s m args below meth c A2 A hC => k_Mo_isSpace hC t tL x1 res h)
