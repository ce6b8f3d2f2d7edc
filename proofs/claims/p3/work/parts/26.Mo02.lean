theorem L_Mo_214 : (Jvm.Cond.fieldLink "MailQueriesModel" (214 : Nat) "MailQueriesModel" "field" "I") ∈ TBL := TBL_in (List.mem_of_getElem? (i := 983) (by decide +kernel)) (by decide +kernel)
theorem L_Mo_211 : (Jvm.Cond.fieldLink "MailQueriesModel" (211 : Nat) "MailQueriesModel" "word" "I") ∈ TBL := TBL_in (List.mem_of_getElem? (i := 981) (by decide +kernel)) (by decide +kernel)
theorem L_Mo_228 : (Jvm.Cond.methodLink "MailQueriesModel" (228 : Nat) ({ cls := "MailQueriesModel", name := "fieldOf", desc := "(II)I" } : Jvm.MethodName)) ∈ TBL := TBL_in (List.mem_of_getElem? (i := 1227) (by decide +kernel)) (by decide +kernel)
theorem L_Mo_224 : (Jvm.Cond.methodLink "MailQueriesModel" (224 : Nat) ({ cls := "MailQueriesModel", name := "operator", desc := "(II)I" } : Jvm.MethodName)) ∈ TBL := TBL_in (List.mem_of_getElem? (i := 1214) (by decide +kernel)) (by decide +kernel)
theorem L_Mo_205 : (Jvm.Cond.methodLink "MailQueriesModel" (205 : Nat) ({ cls := "MailQueriesModel", name := "isSpace", desc := "(I)Z" } : Jvm.MethodName)) ∈ TBL := TBL_in (List.mem_of_getElem? (i := 1192) (by decide +kernel)) (by decide +kernel)
theorem L_Mo_208 : (Jvm.Cond.fieldLink "MailQueriesModel" (208 : Nat) "MailQueriesModel" "from" "I") ∈ TBL := TBL_in (List.mem_of_getElem? (i := 982) (by decide +kernel)) (by decide +kernel)
theorem L_Mo_220 : (Jvm.Cond.methodLink "MailQueriesModel" (220 : Nat) ({ cls := "MailQueriesModel", name := "isLetters", desc := "(II)Z" } : Jvm.MethodName)) ∈ TBL := TBL_in (List.mem_of_getElem? (i := 1207) (by decide +kernel)) (by decide +kernel)
theorem L_Mo_217 : (Jvm.Cond.methodLink "MailQueriesModel" (217 : Nat) ({ cls := "MailQueriesModel", name := "fail", desc := "(II)V" } : Jvm.MethodName)) ∈ TBL := TBL_in (List.mem_of_getElem? (i := 1199) (by decide +kernel)) (by decide +kernel)
set_option maxRecDepth 100000 in
theorem W_Mo_next_code : (Jvm.Cond.code ({ cls := "MailQueriesModel", name := "next", desc := "()V" } : Jvm.MethodName) prog_10_method_19_code (5 : Nat) (Option.none : Option Jvm.ClassFile.FieldType)) ∈ TBL := TBL_in (List.mem_of_getElem? (i := 1187) rfl) rfl
theorem W_Mo_next_in : (Jvm.Cond.instanceMethod ({ cls := "MailQueriesModel", name := "next", desc := "()V" } : Jvm.MethodName)) ∈ TBL := TBL_in (List.mem_of_getElem? (i := 1186) (by decide +kernel)) (by decide +kernel)
theorem sel_51 : Cond.selects "MailQueriesModel" ⟨"MailQueriesModel", "next", "()V"⟩ ⟨"MailQueriesModel", "next", "()V"⟩ ∈ TBL := TBL_in (List.mem_of_getElem? (i := 51) (by decide +kernel)) (by decide +kernel)
theorem L_Mo_231 : (Jvm.Cond.methodLink "MailQueriesModel" (231 : Nat) ({ cls := "MailQueriesModel", name := "isDigit", desc := "(I)Z" } : Jvm.MethodName)) ∈ TBL := TBL_in (List.mem_of_getElem? (i := 1281) (by decide +kernel)) (by decide +kernel)
set_option maxRecDepth 100000 in
theorem W_Mo_isTag_code : (Jvm.Cond.code ({ cls := "MailQueriesModel", name := "isTag", desc := "(II)Z" } : Jvm.MethodName) prog_10_method_20_code (5 : Nat) (Option.some Jvm.ClassFile.FieldType.boolean)) ∈ TBL := TBL_in (List.mem_of_getElem? (i := 1280) rfl) rfl
theorem W_Mo_isTag_in : (Jvm.Cond.instanceMethod ({ cls := "MailQueriesModel", name := "isTag", desc := "(II)Z" } : Jvm.MethodName)) ∈ TBL := TBL_in (List.mem_of_getElem? (i := 1279) (by decide +kernel)) (by decide +kernel)
theorem sel_71 : Cond.selects "MailQueriesModel" ⟨"MailQueriesModel", "isTag", "(II)Z"⟩ ⟨"MailQueriesModel", "isTag", "(II)Z"⟩ ∈ TBL := TBL_in (List.mem_of_getElem? (i := 71) (by decide +kernel)) (by decide +kernel)
set_option maxRecDepth 100000 in
theorem W_Mo_digits_code : (Jvm.Cond.code ({ cls := "MailQueriesModel", name := "digits", desc := "(II)I" } : Jvm.MethodName) prog_10_method_21_code (4 : Nat) (Option.some Jvm.ClassFile.FieldType.int)) ∈ TBL := TBL_in (List.mem_of_getElem? (i := 1311) rfl) rfl
theorem W_Mo_digits_in : (Jvm.Cond.instanceMethod ({ cls := "MailQueriesModel", name := "digits", desc := "(II)I" } : Jvm.MethodName)) ∈ TBL := TBL_in (List.mem_of_getElem? (i := 1310) (by decide +kernel)) (by decide +kernel)
theorem sel_77 : Cond.selects "MailQueriesModel" ⟨"MailQueriesModel", "digits", "(II)I"⟩ ⟨"MailQueriesModel", "digits", "(II)I"⟩ ∈ TBL := TBL_in (List.mem_of_getElem? (i := 77) (by decide +kernel)) (by decide +kernel)
set_option maxRecDepth 100000 in
theorem W_Mo_number_code : (Jvm.Cond.code ({ cls := "MailQueriesModel", name := "number", desc := "(II)I" } : Jvm.MethodName) prog_10_method_22_code (5 : Nat) (Option.some Jvm.ClassFile.FieldType.int)) ∈ TBL := TBL_in (List.mem_of_getElem? (i := 1315) rfl) rfl
theorem W_Mo_number_in : (Jvm.Cond.instanceMethod ({ cls := "MailQueriesModel", name := "number", desc := "(II)I" } : Jvm.MethodName)) ∈ TBL := TBL_in (List.mem_of_getElem? (i := 1314) (by decide +kernel)) (by decide +kernel)
theorem sel_78 : Cond.selects "MailQueriesModel" ⟨"MailQueriesModel", "number", "(II)I"⟩ ⟨"MailQueriesModel", "number", "(II)I"⟩ ∈ TBL := TBL_in (List.mem_of_getElem? (i := 78) (by decide +kernel)) (by decide +kernel)
set_option maxRecDepth 100000 in
theorem W_Mo_isLeap_code : (Jvm.Cond.code ({ cls := "MailQueriesModel", name := "isLeap", desc := "(I)Z" } : Jvm.MethodName) prog_10_method_23_code (1 : Nat) (Option.some Jvm.ClassFile.FieldType.boolean)) ∈ TBL := TBL_in (List.mem_of_getElem? (i := 1321) rfl) rfl
theorem W_Mo_isLeap_st : (Jvm.Cond.static ({ cls := "MailQueriesModel", name := "isLeap", desc := "(I)Z" } : Jvm.MethodName)) ∈ TBL := TBL_in (List.mem_of_getElem? (i := 1320) (by decide +kernel)) (by decide +kernel)
theorem L_Mo_234 : (Jvm.Cond.methodLink "MailQueriesModel" (234 : Nat) ({ cls := "MailQueriesModel", name := "isLeap", desc := "(I)Z" } : Jvm.MethodName)) ∈ TBL := TBL_in (List.mem_of_getElem? (i := 1319) (by decide +kernel)) (by decide +kernel)
set_option maxRecDepth 100000 in
theorem W_Mo_monthDays_code : (Jvm.Cond.code ({ cls := "MailQueriesModel", name := "monthDays", desc := "(II)I" } : Jvm.MethodName) prog_10_method_24_code (2 : Nat) (Option.some Jvm.ClassFile.FieldType.int)) ∈ TBL := TBL_in (List.mem_of_getElem? (i := 1318) rfl) rfl
theorem W_Mo_monthDays_st : (Jvm.Cond.static ({ cls := "MailQueriesModel", name := "monthDays", desc := "(II)I" } : Jvm.MethodName)) ∈ TBL := TBL_in (List.mem_of_getElem? (i := 1317) (by decide +kernel)) (by decide +kernel)
theorem L_Mo_240 : (Jvm.Cond.methodLink "MailQueriesModel" (240 : Nat) ({ cls := "MailQueriesModel", name := "number", desc := "(II)I" } : Jvm.MethodName)) ∈ TBL := TBL_in (List.mem_of_getElem? (i := 1312) (by decide +kernel)) (by decide +kernel)
theorem L_Mo_246 : (Jvm.Cond.fieldLink "MailQueriesModel" (246 : Nat) "MailQueriesModel" "bound" "I") ∈ TBL := TBL_in (List.mem_of_getElem? (i := 1023) (by decide +kernel)) (by decide +kernel)
theorem L_Mo_243 : (Jvm.Cond.methodLink "MailQueriesModel" (243 : Nat) ({ cls := "MailQueriesModel", name := "monthDays", desc := "(II)I" } : Jvm.MethodName)) ∈ TBL := TBL_in (List.mem_of_getElem? (i := 1316) (by decide +kernel)) (by decide +kernel)
theorem L_Mo_237 : (Jvm.Cond.methodLink "MailQueriesModel" (237 : Nat) ({ cls := "MailQueriesModel", name := "digits", desc := "(II)I" } : Jvm.MethodName)) ∈ TBL := TBL_in (List.mem_of_getElem? (i := 1308) (by decide +kernel)) (by decide +kernel)
set_option maxRecDepth 100000 in
theorem W_Mo_isDay_code : (Jvm.Cond.code ({ cls := "MailQueriesModel", name := "isDay", desc := "(II)Z" } : Jvm.MethodName) prog_10_method_25_code (8 : Nat) (Option.some Jvm.ClassFile.FieldType.boolean)) ∈ TBL := TBL_in (List.mem_of_getElem? (i := 1307) rfl) rfl
theorem W_Mo_isDay_in : (Jvm.Cond.instanceMethod ({ cls := "MailQueriesModel", name := "isDay", desc := "(II)Z" } : Jvm.MethodName)) ∈ TBL := TBL_in (List.mem_of_getElem? (i := 1306) (by decide +kernel)) (by decide +kernel)
theorem sel_76 : Cond.selects "MailQueriesModel" ⟨"MailQueriesModel", "isDay", "(II)Z"⟩ ⟨"MailQueriesModel", "isDay", "(II)Z"⟩ ∈ TBL := TBL_in (List.mem_of_getElem? (i := 76) (by decide +kernel)) (by decide +kernel)
theorem K_Mo_251 : (Jvm.Cond.constantLong "MailQueriesModel" (251 : Nat) (1048576 : Int64)) ∈ TBL := TBL_in (List.mem_of_getElem? (i := 1327) (by decide +kernel)) (by decide +kernel)
theorem K_Mo_249 : (Jvm.Cond.constantLong "MailQueriesModel" (249 : Nat) (1024 : Int64)) ∈ TBL := TBL_in (List.mem_of_getElem? (i := 1326) (by decide +kernel)) (by decide +kernel)
theorem K_Mo_257 : (Jvm.Cond.constantLong "MailQueriesModel" (257 : Nat) (2147483647 : Int64)) ∈ TBL := TBL_in (List.mem_of_getElem? (i := 1328) (by decide +kernel)) (by decide +kernel)
theorem K_Mo_259 : (Jvm.Cond.constant "MailQueriesModel" (259 : Nat) (2147483647 : Int32)) ∈ TBL := TBL_in (List.mem_of_getElem? (i := 1329) (by decide +kernel)) (by decide +kernel)
theorem L_Mo_253 : (Jvm.Cond.fieldLink "MailQueriesModel" (253 : Nat) "MailQueriesModel" "wide" "J") ∈ TBL := TBL_in (List.mem_of_getElem? (i := 1024) (by decide +kernel)) (by decide +kernel)
set_option maxRecDepth 100000 in
theorem W_Mo_isBytes_code : (Jvm.Cond.code ({ cls := "MailQueriesModel", name := "isBytes", desc := "(II)Z" } : Jvm.MethodName) prog_10_method_26_code (7 : Nat) (Option.some Jvm.ClassFile.FieldType.boolean)) ∈ TBL := TBL_in (List.mem_of_getElem? (i := 1325) rfl) rfl
theorem W_Mo_isBytes_in : (Jvm.Cond.instanceMethod ({ cls := "MailQueriesModel", name := "isBytes", desc := "(II)Z" } : Jvm.MethodName)) ∈ TBL := TBL_in (List.mem_of_getElem? (i := 1324) (by decide +kernel)) (by decide +kernel)
theorem sel_79 : Cond.selects "MailQueriesModel" ⟨"MailQueriesModel", "isBytes", "(II)Z"⟩ ⟨"MailQueriesModel", "isBytes", "(II)Z"⟩ ∈ TBL := TBL_in (List.mem_of_getElem? (i := 79) (by decide +kernel)) (by decide +kernel)
def y_Mo_next : MethodName := ⟨"MailQueriesModel", "next", "()V"⟩
def rm_Mo_next : Room := { frames := 3, cells := 0, slots := 0, locals := 70 }
theorem d_Mo_next_0 : decode prog_10_method_19_code 0 = .ok (.aload_n 0, 1) := by decide +kernel
theorem d_Mo_next_1 : decode prog_10_method_19_code 1 = .ok (.aload_n 0, 1) := by decide +kernel
theorem d_Mo_next_2 : decode prog_10_method_19_code 2 = .ok (.aload_n 0, 1) := by decide +kernel
theorem d_Mo_next_3 : decode prog_10_method_19_code 3 = .ok (.getfield 199, 3) := by decide +kernel
theorem d_Mo_next_6 : decode prog_10_method_19_code 6 = .ok (.invokevirtual 160, 3) := by decide +kernel
theorem d_Mo_next_9 : decode prog_10_method_19_code 9 = .ok (.invokevirtual 205, 3) := by decide +kernel
theorem d_Mo_next_12 : decode prog_10_method_19_code 12 = .ok (.ifCond .eq 16, 3) := by decide +kernel
theorem d_Mo_next_15 : decode prog_10_method_19_code 15 = .ok (.aload_n 0, 1) := by decide +kernel
theorem d_Mo_next_16 : decode prog_10_method_19_code 16 = .ok (.dup, 1) := by decide +kernel
theorem d_Mo_next_17 : decode prog_10_method_19_code 17 = .ok (.getfield 199, 3) := by decide +kernel
theorem d_Mo_next_20 : decode prog_10_method_19_code 20 = .ok (.iconst 1, 1) := by decide +kernel
theorem d_Mo_next_21 : decode prog_10_method_19_code 21 = .ok (.iadd, 1) := by decide +kernel
theorem d_Mo_next_22 : decode prog_10_method_19_code 22 = .ok (.putfield 199, 3) := by decide +kernel
theorem d_Mo_next_25 : decode prog_10_method_19_code 25 = .ok (.goto (-25), 3) := by decide +kernel
theorem d_Mo_next_28 : decode prog_10_method_19_code 28 = .ok (.aload_n 0, 1) := by decide +kernel
theorem d_Mo_next_29 : decode prog_10_method_19_code 29 = .ok (.aload_n 0, 1) := by decide +kernel
theorem d_Mo_next_30 : decode prog_10_method_19_code 30 = .ok (.getfield 199, 3) := by decide +kernel
theorem d_Mo_next_33 : decode prog_10_method_19_code 33 = .ok (.putfield 208, 3) := by decide +kernel
theorem d_Mo_next_36 : decode prog_10_method_19_code 36 = .ok (.aload_n 0, 1) := by decide +kernel
theorem d_Mo_next_37 : decode prog_10_method_19_code 37 = .ok (.aload_n 0, 1) := by decide +kernel
theorem d_Mo_next_38 : decode prog_10_method_19_code 38 = .ok (.getfield 199, 3) := by decide +kernel
theorem d_Mo_next_41 : decode prog_10_method_19_code 41 = .ok (.invokevirtual 160, 3) := by decide +kernel
theorem d_Mo_next_44 : decode prog_10_method_19_code 44 = .ok (.istore_n 1, 1) := by decide +kernel
theorem d_Mo_next_45 : decode prog_10_method_19_code 45 = .ok (.iload_n 1, 1) := by decide +kernel
theorem d_Mo_next_46 : decode prog_10_method_19_code 46 = .ok (.iconst (-1), 1) := by decide +kernel
theorem d_Mo_next_47 : decode prog_10_method_19_code 47 = .ok (.if_icmp .ne 11, 3) := by decide +kernel
theorem d_Mo_next_50 : decode prog_10_method_19_code 50 = .ok (.aload_n 0, 1) := by decide +kernel
theorem d_Mo_next_51 : decode prog_10_method_19_code 51 = .ok (.iconst 0, 1) := by decide +kernel
theorem d_Mo_next_52 : decode prog_10_method_19_code 52 = .ok (.putfield 211, 3) := by decide +kernel
theorem d_Mo_next_55 : decode prog_10_method_19_code 55 = .ok (.goto 205, 3) := by decide +kernel
theorem d_Mo_next_58 : decode prog_10_method_19_code 58 = .ok (.iload_n 1, 1) := by decide +kernel
theorem d_Mo_next_59 : decode prog_10_method_19_code 59 = .ok (.bipush 40, 2) := by decide +kernel
theorem d_Mo_next_61 : decode prog_10_method_19_code 61 = .ok (.if_icmp .eq 9, 3) := by decide +kernel
theorem d_Mo_next_64 : decode prog_10_method_19_code 64 = .ok (.iload_n 1, 1) := by decide +kernel
theorem d_Mo_next_65 : decode prog_10_method_19_code 65 = .ok (.bipush 41, 2) := by decide +kernel
theorem d_Mo_next_67 : decode prog_10_method_19_code 67 = .ok (.if_icmp .ne 32, 3) := by decide +kernel
theorem d_Mo_next_70 : decode prog_10_method_19_code 70 = .ok (.aload_n 0, 1) := by decide +kernel
theorem d_Mo_next_71 : decode prog_10_method_19_code 71 = .ok (.iload_n 1, 1) := by decide +kernel
theorem d_Mo_next_72 : decode prog_10_method_19_code 72 = .ok (.bipush 40, 2) := by decide +kernel
theorem d_Mo_next_74 : decode prog_10_method_19_code 74 = .ok (.if_icmp .ne 7, 3) := by decide +kernel
theorem d_Mo_next_77 : decode prog_10_method_19_code 77 = .ok (.iconst 5, 1) := by decide +kernel
theorem d_Mo_next_78 : decode prog_10_method_19_code 78 = .ok (.goto 5, 3) := by decide +kernel
theorem d_Mo_next_81 : decode prog_10_method_19_code 81 = .ok (.bipush 6, 2) := by decide +kernel
theorem d_Mo_next_83 : decode prog_10_method_19_code 83 = .ok (.putfield 211, 3) := by decide +kernel
theorem d_Mo_next_86 : decode prog_10_method_19_code 86 = .ok (.aload_n 0, 1) := by decide +kernel
theorem d_Mo_next_87 : decode prog_10_method_19_code 87 = .ok (.dup, 1) := by decide +kernel
theorem d_Mo_next_88 : decode prog_10_method_19_code 88 = .ok (.getfield 199, 3) := by decide +kernel
theorem d_Mo_next_91 : decode prog_10_method_19_code 91 = .ok (.iconst 1, 1) := by decide +kernel
theorem d_Mo_next_92 : decode prog_10_method_19_code 92 = .ok (.iadd, 1) := by decide +kernel
theorem d_Mo_next_93 : decode prog_10_method_19_code 93 = .ok (.putfield 199, 3) := by decide +kernel
theorem d_Mo_next_96 : decode prog_10_method_19_code 96 = .ok (.goto 164, 3) := by decide +kernel
theorem d_Mo_next_99 : decode prog_10_method_19_code 99 = .ok (.iload_n 1, 1) := by decide +kernel
theorem d_Mo_next_100 : decode prog_10_method_19_code 100 = .ok (.bipush 34, 2) := by decide +kernel
theorem d_Mo_next_102 : decode prog_10_method_19_code 102 = .ok (.if_icmp .ne 17, 3) := by decide +kernel
theorem d_Mo_next_105 : decode prog_10_method_19_code 105 = .ok (.aload_n 0, 1) := by decide +kernel
theorem d_Mo_next_106 : decode prog_10_method_19_code 106 = .ok (.bipush 7, 2) := by decide +kernel
theorem d_Mo_next_108 : decode prog_10_method_19_code 108 = .ok (.putfield 211, 3) := by decide +kernel
theorem d_Mo_next_111 : decode prog_10_method_19_code 111 = .ok (.aload_n 0, 1) := by decide +kernel
theorem d_Mo_next_112 : decode prog_10_method_19_code 112 = .ok (.iconst 0, 1) := by decide +kernel
theorem d_Mo_next_113 : decode prog_10_method_19_code 113 = .ok (.putfield 214, 3) := by decide +kernel
theorem d_Mo_next_116 : decode prog_10_method_19_code 116 = .ok (.goto 144, 3) := by decide +kernel
theorem d_Mo_next_119 : decode prog_10_method_19_code 119 = .ok (.iload_n 1, 1) := by decide +kernel
theorem d_Mo_next_120 : decode prog_10_method_19_code 120 = .ok (.invokestatic 164, 3) := by decide +kernel
theorem d_Mo_next_123 : decode prog_10_method_19_code 123 = .ok (.ifCond .ne 15, 3) := by decide +kernel
theorem d_Mo_next_126 : decode prog_10_method_19_code 126 = .ok (.aload_n 0, 1) := by decide +kernel
theorem d_Mo_next_127 : decode prog_10_method_19_code 127 = .ok (.iconst 2, 1) := by decide +kernel
theorem d_Mo_next_128 : decode prog_10_method_19_code 128 = .ok (.aload_n 0, 1) := by decide +kernel
theorem d_Mo_next_129 : decode prog_10_method_19_code 129 = .ok (.getfield 199, 3) := by decide +kernel
theorem d_Mo_next_132 : decode prog_10_method_19_code 132 = .ok (.invokevirtual 217, 3) := by decide +kernel
theorem d_Mo_next_135 : decode prog_10_method_19_code 135 = .ok (.goto 125, 3) := by decide +kernel
theorem d_Mo_next_138 : decode prog_10_method_19_code 138 = .ok (.aload_n 0, 1) := by decide +kernel
theorem d_Mo_next_139 : decode prog_10_method_19_code 139 = .ok (.aload_n 0, 1) := by decide +kernel
theorem d_Mo_next_140 : decode prog_10_method_19_code 140 = .ok (.getfield 199, 3) := by decide +kernel
theorem d_Mo_next_143 : decode prog_10_method_19_code 143 = .ok (.invokevirtual 202, 3) := by decide +kernel
theorem d_Mo_next_146 : decode prog_10_method_19_code 146 = .ok (.istore_n 2, 1) := by decide +kernel
theorem d_Mo_next_147 : decode prog_10_method_19_code 147 = .ok (.aload_n 0, 1) := by decide +kernel
theorem d_Mo_next_148 : decode prog_10_method_19_code 148 = .ok (.aload_n 0, 1) := by decide +kernel
theorem d_Mo_next_149 : decode prog_10_method_19_code 149 = .ok (.getfield 199, 3) := by decide +kernel
theorem d_Mo_next_152 : decode prog_10_method_19_code 152 = .ok (.iload_n 2, 1) := by decide +kernel
theorem d_Mo_next_153 : decode prog_10_method_19_code 153 = .ok (.invokevirtual 220, 3) := by decide +kernel
theorem d_Mo_next_156 : decode prog_10_method_19_code 156 = .ok (.ifCond .eq 17, 3) := by decide +kernel
theorem d_Mo_next_159 : decode prog_10_method_19_code 159 = .ok (.aload_n 0, 1) := by decide +kernel
theorem d_Mo_next_160 : decode prog_10_method_19_code 160 = .ok (.iload_n 2, 1) := by decide +kernel
theorem d_Mo_next_161 : decode prog_10_method_19_code 161 = .ok (.invokevirtual 160, 3) := by decide +kernel
theorem d_Mo_next_164 : decode prog_10_method_19_code 164 = .ok (.bipush 58, 2) := by decide +kernel
theorem d_Mo_next_166 : decode prog_10_method_19_code 166 = .ok (.if_icmp .ne 7, 3) := by decide +kernel
theorem d_Mo_next_169 : decode prog_10_method_19_code 169 = .ok (.iconst 1, 1) := by decide +kernel
theorem d_Mo_next_170 : decode prog_10_method_19_code 170 = .ok (.goto 4, 3) := by decide +kernel
theorem d_Mo_next_173 : decode prog_10_method_19_code 173 = .ok (.iconst 0, 1) := by decide +kernel
theorem d_Mo_next_174 : decode prog_10_method_19_code 174 = .ok (.istore_n 3, 1) := by decide +kernel
theorem d_Mo_next_175 : decode prog_10_method_19_code 175 = .ok (.iload_n 3, 1) := by decide +kernel
theorem d_Mo_next_176 : decode prog_10_method_19_code 176 = .ok (.ifCond .eq 7, 3) := by decide +kernel
theorem d_Mo_next_179 : decode prog_10_method_19_code 179 = .ok (.iconst (-1), 1) := by decide +kernel
theorem d_Mo_next_180 : decode prog_10_method_19_code 180 = .ok (.goto 12, 3) := by decide +kernel
theorem d_Mo_next_183 : decode prog_10_method_19_code 183 = .ok (.aload_n 0, 1) := by decide +kernel
theorem d_Mo_next_184 : decode prog_10_method_19_code 184 = .ok (.aload_n 0, 1) := by decide +kernel
theorem d_Mo_next_185 : decode prog_10_method_19_code 185 = .ok (.getfield 199, 3) := by decide +kernel
theorem d_Mo_next_188 : decode prog_10_method_19_code 188 = .ok (.iload_n 2, 1) := by decide +kernel
theorem d_Mo_next_189 : decode prog_10_method_19_code 189 = .ok (.invokevirtual 224, 3) := by decide +kernel
theorem d_Mo_next_192 : decode prog_10_method_19_code 192 = .ok (.istore 4, 2) := by decide +kernel
theorem d_Mo_next_194 : decode prog_10_method_19_code 194 = .ok (.aload_n 0, 1) := by decide +kernel
theorem d_Mo_next_195 : decode prog_10_method_19_code 195 = .ok (.iload 4, 2) := by decide +kernel
theorem d_Mo_next_197 : decode prog_10_method_19_code 197 = .ok (.iconst (-1), 1) := by decide +kernel
theorem d_Mo_next_198 : decode prog_10_method_19_code 198 = .ok (.if_icmp .ne 8, 3) := by decide +kernel
theorem d_Mo_next_201 : decode prog_10_method_19_code 201 = .ok (.bipush 7, 2) := by decide +kernel
theorem d_Mo_next_203 : decode prog_10_method_19_code 203 = .ok (.goto 5, 3) := by decide +kernel
theorem d_Mo_next_206 : decode prog_10_method_19_code 206 = .ok (.iload 4, 2) := by decide +kernel
theorem d_Mo_next_208 : decode prog_10_method_19_code 208 = .ok (.putfield 211, 3) := by decide +kernel
theorem d_Mo_next_211 : decode prog_10_method_19_code 211 = .ok (.aload_n 0, 1) := by decide +kernel
theorem d_Mo_next_212 : decode prog_10_method_19_code 212 = .ok (.iload_n 3, 1) := by decide +kernel
theorem d_Mo_next_213 : decode prog_10_method_19_code 213 = .ok (.ifCond .eq 15, 3) := by decide +kernel
theorem d_Mo_next_216 : decode prog_10_method_19_code 216 = .ok (.aload_n 0, 1) := by decide +kernel
theorem d_Mo_next_217 : decode prog_10_method_19_code 217 = .ok (.aload_n 0, 1) := by decide +kernel
theorem d_Mo_next_218 : decode prog_10_method_19_code 218 = .ok (.getfield 199, 3) := by decide +kernel
theorem d_Mo_next_221 : decode prog_10_method_19_code 221 = .ok (.iload_n 2, 1) := by decide +kernel
theorem d_Mo_next_222 : decode prog_10_method_19_code 222 = .ok (.invokevirtual 228, 3) := by decide +kernel
theorem d_Mo_next_225 : decode prog_10_method_19_code 225 = .ok (.goto 4, 3) := by decide +kernel
theorem d_Mo_next_228 : decode prog_10_method_19_code 228 = .ok (.iconst 0, 1) := by decide +kernel
theorem d_Mo_next_229 : decode prog_10_method_19_code 229 = .ok (.putfield 214, 3) := by decide +kernel
theorem d_Mo_next_232 : decode prog_10_method_19_code 232 = .ok (.aload_n 0, 1) := by decide +kernel
theorem d_Mo_next_233 : decode prog_10_method_19_code 233 = .ok (.iload_n 3, 1) := by decide +kernel
theorem d_Mo_next_234 : decode prog_10_method_19_code 234 = .ok (.ifCond .eq 9, 3) := by decide +kernel
theorem d_Mo_next_237 : decode prog_10_method_19_code 237 = .ok (.iload_n 2, 1) := by decide +kernel
theorem d_Mo_next_238 : decode prog_10_method_19_code 238 = .ok (.iconst 1, 1) := by decide +kernel
theorem d_Mo_next_239 : decode prog_10_method_19_code 239 = .ok (.iadd, 1) := by decide +kernel
theorem d_Mo_next_240 : decode prog_10_method_19_code 240 = .ok (.goto 17, 3) := by decide +kernel
theorem d_Mo_next_243 : decode prog_10_method_19_code 243 = .ok (.iload 4, 2) := by decide +kernel
theorem d_Mo_next_245 : decode prog_10_method_19_code 245 = .ok (.iconst (-1), 1) := by decide +kernel
theorem d_Mo_next_246 : decode prog_10_method_19_code 246 = .ok (.if_icmp .ne 10, 3) := by decide +kernel
theorem d_Mo_next_249 : decode prog_10_method_19_code 249 = .ok (.aload_n 0, 1) := by decide +kernel
theorem d_Mo_next_250 : decode prog_10_method_19_code 250 = .ok (.getfield 199, 3) := by decide +kernel
theorem d_Mo_next_253 : decode prog_10_method_19_code 253 = .ok (.goto 4, 3) := by decide +kernel
theorem d_Mo_next_256 : decode prog_10_method_19_code 256 = .ok (.iload_n 2, 1) := by decide +kernel
theorem d_Mo_next_257 : decode prog_10_method_19_code 257 = .ok (.putfield 199, 3) := by decide +kernel
theorem d_Mo_next_260 : decode prog_10_method_19_code 260 = .ok (.return_, 1) := by decide +kernel
def y_Mo_isTag : MethodName := ⟨"MailQueriesModel", "isTag", "(II)Z"⟩
def rm_Mo_isTag : Room := { frames := 1, cells := 0, slots := 0, locals := 21 }
theorem d_Mo_isTag_0 : decode prog_10_method_20_code 0 = .ok (.iload_n 2, 1) := by decide +kernel
theorem d_Mo_isTag_1 : decode prog_10_method_20_code 1 = .ok (.iload_n 1, 1) := by decide +kernel
theorem d_Mo_isTag_2 : decode prog_10_method_20_code 2 = .ok (.isub, 1) := by decide +kernel
theorem d_Mo_isTag_3 : decode prog_10_method_20_code 3 = .ok (.bipush 17, 2) := by decide +kernel
theorem d_Mo_isTag_5 : decode prog_10_method_20_code 5 = .ok (.if_icmp .ge 7, 3) := by decide +kernel
theorem d_Mo_isTag_8 : decode prog_10_method_20_code 8 = .ok (.iconst 1, 1) := by decide +kernel
theorem d_Mo_isTag_9 : decode prog_10_method_20_code 9 = .ok (.goto 4, 3) := by decide +kernel
theorem d_Mo_isTag_12 : decode prog_10_method_20_code 12 = .ok (.iconst 0, 1) := by decide +kernel
theorem d_Mo_isTag_13 : decode prog_10_method_20_code 13 = .ok (.istore_n 3, 1) := by decide +kernel
theorem d_Mo_isTag_14 : decode prog_10_method_20_code 14 = .ok (.iload_n 1, 1) := by decide +kernel
theorem d_Mo_isTag_15 : decode prog_10_method_20_code 15 = .ok (.istore 4, 2) := by decide +kernel
theorem d_Mo_isTag_17 : decode prog_10_method_20_code 17 = .ok (.iload 4, 2) := by decide +kernel
theorem d_Mo_isTag_19 : decode prog_10_method_20_code 19 = .ok (.iload_n 2, 1) := by decide +kernel
theorem d_Mo_isTag_20 : decode prog_10_method_20_code 20 = .ok (.if_icmp .ge 54, 3) := by decide +kernel
theorem d_Mo_isTag_23 : decode prog_10_method_20_code 23 = .ok (.iload_n 3, 1) := by decide +kernel
theorem d_Mo_isTag_24 : decode prog_10_method_20_code 24 = .ok (.ifCond .eq 42, 3) := by decide +kernel
theorem d_Mo_isTag_27 : decode prog_10_method_20_code 27 = .ok (.aload_n 0, 1) := by decide +kernel
theorem d_Mo_isTag_28 : decode prog_10_method_20_code 28 = .ok (.iload 4, 2) := by decide +kernel
theorem d_Mo_isTag_30 : decode prog_10_method_20_code 30 = .ok (.invokevirtual 160, 3) := by decide +kernel
theorem d_Mo_isTag_33 : decode prog_10_method_20_code 33 = .ok (.invokestatic 168, 3) := by decide +kernel
theorem d_Mo_isTag_36 : decode prog_10_method_20_code 36 = .ok (.ifCond .ne 26, 3) := by decide +kernel
theorem d_Mo_isTag_39 : decode prog_10_method_20_code 39 = .ok (.aload_n 0, 1) := by decide +kernel
theorem d_Mo_isTag_40 : decode prog_10_method_20_code 40 = .ok (.iload 4, 2) := by decide +kernel
theorem d_Mo_isTag_42 : decode prog_10_method_20_code 42 = .ok (.invokevirtual 160, 3) := by decide +kernel
theorem d_Mo_isTag_45 : decode prog_10_method_20_code 45 = .ok (.invokestatic 231, 3) := by decide +kernel
theorem d_Mo_isTag_48 : decode prog_10_method_20_code 48 = .ok (.ifCond .ne 14, 3) := by decide +kernel
theorem d_Mo_isTag_51 : decode prog_10_method_20_code 51 = .ok (.aload_n 0, 1) := by decide +kernel
theorem d_Mo_isTag_52 : decode prog_10_method_20_code 52 = .ok (.iload 4, 2) := by decide +kernel
theorem d_Mo_isTag_54 : decode prog_10_method_20_code 54 = .ok (.invokevirtual 160, 3) := by decide +kernel
theorem d_Mo_isTag_57 : decode prog_10_method_20_code 57 = .ok (.bipush 45, 2) := by decide +kernel
theorem d_Mo_isTag_59 : decode prog_10_method_20_code 59 = .ok (.if_icmp .ne 7, 3) := by decide +kernel
theorem d_Mo_isTag_62 : decode prog_10_method_20_code 62 = .ok (.iconst 1, 1) := by decide +kernel
theorem d_Mo_isTag_63 : decode prog_10_method_20_code 63 = .ok (.goto 4, 3) := by decide +kernel
theorem d_Mo_isTag_66 : decode prog_10_method_20_code 66 = .ok (.iconst 0, 1) := by decide +kernel
theorem d_Mo_isTag_67 : decode prog_10_method_20_code 67 = .ok (.istore_n 3, 1) := by decide +kernel
theorem d_Mo_isTag_68 : decode prog_10_method_20_code 68 = .ok (.iinc 4 1, 3) := by decide +kernel
theorem d_Mo_isTag_71 : decode prog_10_method_20_code 71 = .ok (.goto (-54), 3) := by decide +kernel
theorem d_Mo_isTag_74 : decode prog_10_method_20_code 74 = .ok (.iload_n 3, 1) := by decide +kernel
theorem d_Mo_isTag_75 : decode prog_10_method_20_code 75 = .ok (.ireturn, 1) := by decide +kernel
def y_Mo_digits : MethodName := ⟨"MailQueriesModel", "digits", "(II)I"⟩
def rm_Mo_digits : Room := { frames := 1, cells := 0, slots := 0, locals := 21 }
theorem d_Mo_digits_0 : decode prog_10_method_21_code 0 = .ok (.iconst 0, 1) := by decide +kernel
theorem d_Mo_digits_1 : decode prog_10_method_21_code 1 = .ok (.istore_n 3, 1) := by decide +kernel
theorem d_Mo_digits_2 : decode prog_10_method_21_code 2 = .ok (.iload_n 1, 1) := by decide +kernel
theorem d_Mo_digits_3 : decode prog_10_method_21_code 3 = .ok (.iload_n 3, 1) := by decide +kernel
theorem d_Mo_digits_4 : decode prog_10_method_21_code 4 = .ok (.iadd, 1) := by decide +kernel
theorem d_Mo_digits_5 : decode prog_10_method_21_code 5 = .ok (.iload_n 2, 1) := by decide +kernel
theorem d_Mo_digits_6 : decode prog_10_method_21_code 6 = .ok (.if_icmp .ge 22, 3) := by decide +kernel
theorem d_Mo_digits_9 : decode prog_10_method_21_code 9 = .ok (.aload_n 0, 1) := by decide +kernel
theorem d_Mo_digits_10 : decode prog_10_method_21_code 10 = .ok (.iload_n 1, 1) := by decide +kernel
theorem d_Mo_digits_11 : decode prog_10_method_21_code 11 = .ok (.iload_n 3, 1) := by decide +kernel
theorem d_Mo_digits_12 : decode prog_10_method_21_code 12 = .ok (.iadd, 1) := by decide +kernel
theorem d_Mo_digits_13 : decode prog_10_method_21_code 13 = .ok (.invokevirtual 160, 3) := by decide +kernel
theorem d_Mo_digits_16 : decode prog_10_method_21_code 16 = .ok (.invokestatic 231, 3) := by decide +kernel
theorem d_Mo_digits_19 : decode prog_10_method_21_code 19 = .ok (.ifCond .eq 9, 3) := by decide +kernel
theorem d_Mo_digits_22 : decode prog_10_method_21_code 22 = .ok (.iinc 3 1, 3) := by decide +kernel
theorem d_Mo_digits_25 : decode prog_10_method_21_code 25 = .ok (.goto (-23), 3) := by decide +kernel
theorem d_Mo_digits_28 : decode prog_10_method_21_code 28 = .ok (.iload_n 3, 1) := by decide +kernel
theorem d_Mo_digits_29 : decode prog_10_method_21_code 29 = .ok (.ireturn, 1) := by decide +kernel
def y_Mo_number : MethodName := ⟨"MailQueriesModel", "number", "(II)I"⟩
def rm_Mo_number : Room := { frames := 1, cells := 0, slots := 0, locals := 21 }
theorem d_Mo_number_0 : decode prog_10_method_22_code 0 = .ok (.iconst 0, 1) := by decide +kernel
theorem d_Mo_number_1 : decode prog_10_method_22_code 1 = .ok (.istore_n 3, 1) := by decide +kernel
theorem d_Mo_number_2 : decode prog_10_method_22_code 2 = .ok (.iconst 0, 1) := by decide +kernel
theorem d_Mo_number_3 : decode prog_10_method_22_code 3 = .ok (.istore 4, 2) := by decide +kernel
theorem d_Mo_number_5 : decode prog_10_method_22_code 5 = .ok (.iload 4, 2) := by decide +kernel
theorem d_Mo_number_7 : decode prog_10_method_22_code 7 = .ok (.iload_n 2, 1) := by decide +kernel
theorem d_Mo_number_8 : decode prog_10_method_22_code 8 = .ok (.if_icmp .ge 26, 3) := by decide +kernel
theorem d_Mo_number_11 : decode prog_10_method_22_code 11 = .ok (.bipush 10, 2) := by decide +kernel
theorem d_Mo_number_13 : decode prog_10_method_22_code 13 = .ok (.iload_n 3, 1) := by decide +kernel
theorem d_Mo_number_14 : decode prog_10_method_22_code 14 = .ok (.imul, 1) := by decide +kernel
theorem d_Mo_number_15 : decode prog_10_method_22_code 15 = .ok (.aload_n 0, 1) := by decide +kernel
theorem d_Mo_number_16 : decode prog_10_method_22_code 16 = .ok (.iload_n 1, 1) := by decide +kernel
theorem d_Mo_number_17 : decode prog_10_method_22_code 17 = .ok (.iload 4, 2) := by decide +kernel
theorem d_Mo_number_19 : decode prog_10_method_22_code 19 = .ok (.iadd, 1) := by decide +kernel
theorem d_Mo_number_20 : decode prog_10_method_22_code 20 = .ok (.invokevirtual 160, 3) := by decide +kernel
theorem d_Mo_number_23 : decode prog_10_method_22_code 23 = .ok (.iadd, 1) := by decide +kernel
theorem d_Mo_number_24 : decode prog_10_method_22_code 24 = .ok (.bipush 48, 2) := by decide +kernel
theorem d_Mo_number_26 : decode prog_10_method_22_code 26 = .ok (.isub, 1) := by decide +kernel
theorem d_Mo_number_27 : decode prog_10_method_22_code 27 = .ok (.istore_n 3, 1) := by decide +kernel
theorem d_Mo_number_28 : decode prog_10_method_22_code 28 = .ok (.iinc 4 1, 3) := by decide +kernel
theorem d_Mo_number_31 : decode prog_10_method_22_code 31 = .ok (.goto (-26), 3) := by decide +kernel
theorem d_Mo_number_34 : decode prog_10_method_22_code 34 = .ok (.iload_n 3, 1) := by decide +kernel
theorem d_Mo_number_35 : decode prog_10_method_22_code 35 = .ok (.ireturn, 1) := by decide +kernel
def y_Mo_isLeap : MethodName := ⟨"MailQueriesModel", "isLeap", "(I)Z"⟩
def rm_Mo_isLeap : Room := { frames := 0, cells := 0, slots := 0, locals := 0 }
theorem d_Mo_isLeap_0 : decode prog_10_method_23_code 0 = .ok (.iload_n 0, 1) := by decide +kernel
theorem d_Mo_isLeap_1 : decode prog_10_method_23_code 1 = .ok (.iconst 4, 1) := by decide +kernel
theorem d_Mo_isLeap_2 : decode prog_10_method_23_code 2 = .ok (.irem, 1) := by decide +kernel
theorem d_Mo_isLeap_3 : decode prog_10_method_23_code 3 = .ok (.ifCond .ne 22, 3) := by decide +kernel
theorem d_Mo_isLeap_6 : decode prog_10_method_23_code 6 = .ok (.iload_n 0, 1) := by decide +kernel
theorem d_Mo_isLeap_7 : decode prog_10_method_23_code 7 = .ok (.bipush 100, 2) := by decide +kernel
theorem d_Mo_isLeap_9 : decode prog_10_method_23_code 9 = .ok (.irem, 1) := by decide +kernel
theorem d_Mo_isLeap_10 : decode prog_10_method_23_code 10 = .ok (.ifCond .ne 11, 3) := by decide +kernel
theorem d_Mo_isLeap_13 : decode prog_10_method_23_code 13 = .ok (.iload_n 0, 1) := by decide +kernel
theorem d_Mo_isLeap_14 : decode prog_10_method_23_code 14 = .ok (.sipush 400, 3) := by decide +kernel
theorem d_Mo_isLeap_17 : decode prog_10_method_23_code 17 = .ok (.irem, 1) := by decide +kernel
theorem d_Mo_isLeap_18 : decode prog_10_method_23_code 18 = .ok (.ifCond .ne 7, 3) := by decide +kernel
theorem d_Mo_isLeap_21 : decode prog_10_method_23_code 21 = .ok (.iconst 1, 1) := by decide +kernel
theorem d_Mo_isLeap_22 : decode prog_10_method_23_code 22 = .ok (.goto 4, 3) := by decide +kernel
theorem d_Mo_isLeap_25 : decode prog_10_method_23_code 25 = .ok (.iconst 0, 1) := by decide +kernel
theorem d_Mo_isLeap_26 : decode prog_10_method_23_code 26 = .ok (.ireturn, 1) := by decide +kernel
def y_Mo_monthDays : MethodName := ⟨"MailQueriesModel", "monthDays", "(II)I"⟩
def rm_Mo_monthDays : Room := { frames := 1, cells := 0, slots := 0, locals := 20 }
theorem d_Mo_monthDays_0 : decode prog_10_method_24_code 0 = .ok (.iload_n 1, 1) := by decide +kernel
theorem d_Mo_monthDays_1 : decode prog_10_method_24_code 1 = .ok (.iconst 2, 1) := by decide +kernel
theorem d_Mo_monthDays_2 : decode prog_10_method_24_code 2 = .ok (.if_icmp .ne 20, 3) := by decide +kernel
theorem d_Mo_monthDays_5 : decode prog_10_method_24_code 5 = .ok (.iload_n 0, 1) := by decide +kernel
theorem d_Mo_monthDays_6 : decode prog_10_method_24_code 6 = .ok (.invokestatic 234, 3) := by decide +kernel
theorem d_Mo_monthDays_9 : decode prog_10_method_24_code 9 = .ok (.ifCond .eq 8, 3) := by decide +kernel
theorem d_Mo_monthDays_12 : decode prog_10_method_24_code 12 = .ok (.bipush 29, 2) := by decide +kernel
theorem d_Mo_monthDays_14 : decode prog_10_method_24_code 14 = .ok (.goto 38, 3) := by decide +kernel
theorem d_Mo_monthDays_17 : decode prog_10_method_24_code 17 = .ok (.bipush 28, 2) := by decide +kernel
theorem d_Mo_monthDays_19 : decode prog_10_method_24_code 19 = .ok (.goto 33, 3) := by decide +kernel
theorem d_Mo_monthDays_22 : decode prog_10_method_24_code 22 = .ok (.iload_n 1, 1) := by decide +kernel
theorem d_Mo_monthDays_23 : decode prog_10_method_24_code 23 = .ok (.iconst 4, 1) := by decide +kernel
theorem d_Mo_monthDays_24 : decode prog_10_method_24_code 24 = .ok (.if_icmp .eq 21, 3) := by decide +kernel
theorem d_Mo_monthDays_27 : decode prog_10_method_24_code 27 = .ok (.iload_n 1, 1) := by decide +kernel
theorem d_Mo_monthDays_28 : decode prog_10_method_24_code 28 = .ok (.bipush 6, 2) := by decide +kernel
theorem d_Mo_monthDays_30 : decode prog_10_method_24_code 30 = .ok (.if_icmp .eq 15, 3) := by decide +kernel
theorem d_Mo_monthDays_33 : decode prog_10_method_24_code 33 = .ok (.iload_n 1, 1) := by decide +kernel
theorem d_Mo_monthDays_34 : decode prog_10_method_24_code 34 = .ok (.bipush 9, 2) := by decide +kernel
theorem d_Mo_monthDays_36 : decode prog_10_method_24_code 36 = .ok (.if_icmp .eq 9, 3) := by decide +kernel
theorem d_Mo_monthDays_39 : decode prog_10_method_24_code 39 = .ok (.iload_n 1, 1) := by decide +kernel
theorem d_Mo_monthDays_40 : decode prog_10_method_24_code 40 = .ok (.bipush 11, 2) := by decide +kernel
theorem d_Mo_monthDays_42 : decode prog_10_method_24_code 42 = .ok (.if_icmp .ne 8, 3) := by decide +kernel
theorem d_Mo_monthDays_45 : decode prog_10_method_24_code 45 = .ok (.bipush 30, 2) := by decide +kernel
theorem d_Mo_monthDays_47 : decode prog_10_method_24_code 47 = .ok (.goto 5, 3) := by decide +kernel
theorem d_Mo_monthDays_50 : decode prog_10_method_24_code 50 = .ok (.bipush 31, 2) := by decide +kernel
theorem d_Mo_monthDays_52 : decode prog_10_method_24_code 52 = .ok (.ireturn, 1) := by decide +kernel
def y_Mo_isDay : MethodName := ⟨"MailQueriesModel", "isDay", "(II)Z"⟩
def rm_Mo_isDay : Room := { frames := 2, cells := 0, slots := 0, locals := 45 }
theorem d_Mo_isDay_0 : decode prog_10_method_25_code 0 = .ok (.aload_n 0, 1) := by decide +kernel
theorem d_Mo_isDay_1 : decode prog_10_method_25_code 1 = .ok (.iload_n 1, 1) := by decide +kernel
theorem d_Mo_isDay_2 : decode prog_10_method_25_code 2 = .ok (.iload_n 2, 1) := by decide +kernel
theorem d_Mo_isDay_3 : decode prog_10_method_25_code 3 = .ok (.invokevirtual 237, 3) := by decide +kernel
theorem d_Mo_isDay_6 : decode prog_10_method_25_code 6 = .ok (.istore_n 3, 1) := by decide +kernel
theorem d_Mo_isDay_7 : decode prog_10_method_25_code 7 = .ok (.iload_n 3, 1) := by decide +kernel
theorem d_Mo_isDay_8 : decode prog_10_method_25_code 8 = .ok (.bipush 8, 2) := by decide +kernel
theorem d_Mo_isDay_10 : decode prog_10_method_25_code 10 = .ok (.if_icmp .ne 175, 3) := by decide +kernel
theorem d_Mo_isDay_13 : decode prog_10_method_25_code 13 = .ok (.iload_n 2, 1) := by decide +kernel
theorem d_Mo_isDay_14 : decode prog_10_method_25_code 14 = .ok (.iload_n 1, 1) := by decide +kernel
theorem d_Mo_isDay_15 : decode prog_10_method_25_code 15 = .ok (.isub, 1) := by decide +kernel
theorem d_Mo_isDay_16 : decode prog_10_method_25_code 16 = .ok (.bipush 8, 2) := by decide +kernel
theorem d_Mo_isDay_18 : decode prog_10_method_25_code 18 = .ok (.if_icmp .ne 167, 3) := by decide +kernel
theorem d_Mo_isDay_21 : decode prog_10_method_25_code 21 = .ok (.aload_n 0, 1) := by decide +kernel
theorem d_Mo_isDay_22 : decode prog_10_method_25_code 22 = .ok (.iload_n 1, 1) := by decide +kernel
theorem d_Mo_isDay_23 : decode prog_10_method_25_code 23 = .ok (.iconst 4, 1) := by decide +kernel
theorem d_Mo_isDay_24 : decode prog_10_method_25_code 24 = .ok (.invokevirtual 240, 3) := by decide +kernel
theorem d_Mo_isDay_27 : decode prog_10_method_25_code 27 = .ok (.istore 4, 2) := by decide +kernel
theorem d_Mo_isDay_29 : decode prog_10_method_25_code 29 = .ok (.aload_n 0, 1) := by decide +kernel
theorem d_Mo_isDay_30 : decode prog_10_method_25_code 30 = .ok (.iload_n 1, 1) := by decide +kernel
theorem d_Mo_isDay_31 : decode prog_10_method_25_code 31 = .ok (.iconst 4, 1) := by decide +kernel
theorem d_Mo_isDay_32 : decode prog_10_method_25_code 32 = .ok (.iadd, 1) := by decide +kernel
theorem d_Mo_isDay_33 : decode prog_10_method_25_code 33 = .ok (.iconst 2, 1) := by decide +kernel
theorem d_Mo_isDay_34 : decode prog_10_method_25_code 34 = .ok (.invokevirtual 240, 3) := by decide +kernel
theorem d_Mo_isDay_37 : decode prog_10_method_25_code 37 = .ok (.istore 5, 2) := by decide +kernel
theorem d_Mo_isDay_39 : decode prog_10_method_25_code 39 = .ok (.aload_n 0, 1) := by decide +kernel
theorem d_Mo_isDay_40 : decode prog_10_method_25_code 40 = .ok (.iload_n 1, 1) := by decide +kernel
theorem d_Mo_isDay_41 : decode prog_10_method_25_code 41 = .ok (.bipush 6, 2) := by decide +kernel
theorem d_Mo_isDay_43 : decode prog_10_method_25_code 43 = .ok (.iadd, 1) := by decide +kernel
theorem d_Mo_isDay_44 : decode prog_10_method_25_code 44 = .ok (.iconst 2, 1) := by decide +kernel
theorem d_Mo_isDay_45 : decode prog_10_method_25_code 45 = .ok (.invokevirtual 240, 3) := by decide +kernel
theorem d_Mo_isDay_48 : decode prog_10_method_25_code 48 = .ok (.istore 6, 2) := by decide +kernel
theorem d_Mo_isDay_50 : decode prog_10_method_25_code 50 = .ok (.iload 4, 2) := by decide +kernel
theorem d_Mo_isDay_52 : decode prog_10_method_25_code 52 = .ok (.sipush 1970, 3) := by decide +kernel
theorem d_Mo_isDay_55 : decode prog_10_method_25_code 55 = .ok (.if_icmp .lt 42, 3) := by decide +kernel
theorem d_Mo_isDay_58 : decode prog_10_method_25_code 58 = .ok (.iload 4, 2) := by decide +kernel
theorem d_Mo_isDay_60 : decode prog_10_method_25_code 60 = .ok (.sipush 2999, 3) := by decide +kernel
theorem d_Mo_isDay_63 : decode prog_10_method_25_code 63 = .ok (.if_icmp .gt 34, 3) := by decide +kernel
theorem d_Mo_isDay_66 : decode prog_10_method_25_code 66 = .ok (.iload 5, 2) := by decide +kernel
theorem d_Mo_isDay_68 : decode prog_10_method_25_code 68 = .ok (.iconst 1, 1) := by decide +kernel
theorem d_Mo_isDay_69 : decode prog_10_method_25_code 69 = .ok (.if_icmp .lt 28, 3) := by decide +kernel
theorem d_Mo_isDay_72 : decode prog_10_method_25_code 72 = .ok (.iload 5, 2) := by decide +kernel
theorem d_Mo_isDay_74 : decode prog_10_method_25_code 74 = .ok (.bipush 12, 2) := by decide +kernel
theorem d_Mo_isDay_76 : decode prog_10_method_25_code 76 = .ok (.if_icmp .gt 21, 3) := by decide +kernel
theorem d_Mo_isDay_79 : decode prog_10_method_25_code 79 = .ok (.iload 6, 2) := by decide +kernel
theorem d_Mo_isDay_81 : decode prog_10_method_25_code 81 = .ok (.iconst 1, 1) := by decide +kernel
theorem d_Mo_isDay_82 : decode prog_10_method_25_code 82 = .ok (.if_icmp .lt 15, 3) := by decide +kernel
theorem d_Mo_isDay_85 : decode prog_10_method_25_code 85 = .ok (.iload 6, 2) := by decide +kernel
theorem d_Mo_isDay_87 : decode prog_10_method_25_code 87 = .ok (.iload 4, 2) := by decide +kernel
theorem d_Mo_isDay_89 : decode prog_10_method_25_code 89 = .ok (.iload 5, 2) := by decide +kernel
theorem d_Mo_isDay_91 : decode prog_10_method_25_code 91 = .ok (.invokestatic 243, 3) := by decide +kernel
theorem d_Mo_isDay_94 : decode prog_10_method_25_code 94 = .ok (.if_icmp .le 5, 3) := by decide +kernel
theorem d_Mo_isDay_97 : decode prog_10_method_25_code 97 = .ok (.iconst 0, 1) := by decide +kernel
theorem d_Mo_isDay_98 : decode prog_10_method_25_code 98 = .ok (.ireturn, 1) := by decide +kernel
theorem d_Mo_isDay_99 : decode prog_10_method_25_code 99 = .ok (.aload_n 0, 1) := by decide +kernel
theorem d_Mo_isDay_100 : decode prog_10_method_25_code 100 = .ok (.iload 6, 2) := by decide +kernel
theorem d_Mo_isDay_102 : decode prog_10_method_25_code 102 = .ok (.iconst 1, 1) := by decide +kernel
theorem d_Mo_isDay_103 : decode prog_10_method_25_code 103 = .ok (.isub, 1) := by decide +kernel
theorem d_Mo_isDay_104 : decode prog_10_method_25_code 104 = .ok (.putfield 246, 3) := by decide +kernel
theorem d_Mo_isDay_107 : decode prog_10_method_25_code 107 = .ok (.sipush 1970, 3) := by decide +kernel
theorem d_Mo_isDay_110 : decode prog_10_method_25_code 110 = .ok (.istore 7, 2) := by decide +kernel
theorem d_Mo_isDay_112 : decode prog_10_method_25_code 112 = .ok (.iload 7, 2) := by decide +kernel
theorem d_Mo_isDay_114 : decode prog_10_method_25_code 114 = .ok (.iload 4, 2) := by decide +kernel
theorem d_Mo_isDay_116 : decode prog_10_method_25_code 116 = .ok (.if_icmp .ge 35, 3) := by decide +kernel
theorem d_Mo_isDay_119 : decode prog_10_method_25_code 119 = .ok (.aload_n 0, 1) := by decide +kernel
theorem d_Mo_isDay_120 : decode prog_10_method_25_code 120 = .ok (.dup, 1) := by decide +kernel
theorem d_Mo_isDay_121 : decode prog_10_method_25_code 121 = .ok (.getfield 246, 3) := by decide +kernel
theorem d_Mo_isDay_124 : decode prog_10_method_25_code 124 = .ok (.iload 7, 2) := by decide +kernel
theorem d_Mo_isDay_126 : decode prog_10_method_25_code 126 = .ok (.invokestatic 234, 3) := by decide +kernel
theorem d_Mo_isDay_129 : decode prog_10_method_25_code 129 = .ok (.ifCond .eq 9, 3) := by decide +kernel
theorem d_Mo_isDay_132 : decode prog_10_method_25_code 132 = .ok (.sipush 366, 3) := by decide +kernel
theorem d_Mo_isDay_135 : decode prog_10_method_25_code 135 = .ok (.goto 6, 3) := by decide +kernel
theorem d_Mo_isDay_138 : decode prog_10_method_25_code 138 = .ok (.sipush 365, 3) := by decide +kernel
theorem d_Mo_isDay_141 : decode prog_10_method_25_code 141 = .ok (.iadd, 1) := by decide +kernel
theorem d_Mo_isDay_142 : decode prog_10_method_25_code 142 = .ok (.putfield 246, 3) := by decide +kernel
theorem d_Mo_isDay_145 : decode prog_10_method_25_code 145 = .ok (.iinc 7 1, 3) := by decide +kernel
theorem d_Mo_isDay_148 : decode prog_10_method_25_code 148 = .ok (.goto (-36), 3) := by decide +kernel
theorem d_Mo_isDay_151 : decode prog_10_method_25_code 151 = .ok (.iconst 1, 1) := by decide +kernel
theorem d_Mo_isDay_152 : decode prog_10_method_25_code 152 = .ok (.istore 7, 2) := by decide +kernel
theorem d_Mo_isDay_154 : decode prog_10_method_25_code 154 = .ok (.iload 7, 2) := by decide +kernel
theorem d_Mo_isDay_156 : decode prog_10_method_25_code 156 = .ok (.iload 5, 2) := by decide +kernel
theorem d_Mo_isDay_158 : decode prog_10_method_25_code 158 = .ok (.if_icmp .ge 25, 3) := by decide +kernel
theorem d_Mo_isDay_161 : decode prog_10_method_25_code 161 = .ok (.aload_n 0, 1) := by decide +kernel
theorem d_Mo_isDay_162 : decode prog_10_method_25_code 162 = .ok (.dup, 1) := by decide +kernel
theorem d_Mo_isDay_163 : decode prog_10_method_25_code 163 = .ok (.getfield 246, 3) := by decide +kernel
theorem d_Mo_isDay_166 : decode prog_10_method_25_code 166 = .ok (.iload 4, 2) := by decide +kernel
theorem d_Mo_isDay_168 : decode prog_10_method_25_code 168 = .ok (.iload 7, 2) := by decide +kernel
theorem d_Mo_isDay_170 : decode prog_10_method_25_code 170 = .ok (.invokestatic 243, 3) := by decide +kernel
theorem d_Mo_isDay_173 : decode prog_10_method_25_code 173 = .ok (.iadd, 1) := by decide +kernel
theorem d_Mo_isDay_174 : decode prog_10_method_25_code 174 = .ok (.putfield 246, 3) := by decide +kernel
theorem d_Mo_isDay_177 : decode prog_10_method_25_code 177 = .ok (.iinc 7 1, 3) := by decide +kernel
theorem d_Mo_isDay_180 : decode prog_10_method_25_code 180 = .ok (.goto (-26), 3) := by decide +kernel
theorem d_Mo_isDay_183 : decode prog_10_method_25_code 183 = .ok (.iconst 1, 1) := by decide +kernel
theorem d_Mo_isDay_184 : decode prog_10_method_25_code 184 = .ok (.ireturn, 1) := by decide +kernel
theorem d_Mo_isDay_185 : decode prog_10_method_25_code 185 = .ok (.aload_n 0, 1) := by decide +kernel
theorem d_Mo_isDay_186 : decode prog_10_method_25_code 186 = .ok (.iload_n 1, 1) := by decide +kernel
theorem d_Mo_isDay_187 : decode prog_10_method_25_code 187 = .ok (.iload_n 3, 1) := by decide +kernel
theorem d_Mo_isDay_188 : decode prog_10_method_25_code 188 = .ok (.iadd, 1) := by decide +kernel
theorem d_Mo_isDay_189 : decode prog_10_method_25_code 189 = .ok (.invokevirtual 160, 3) := by decide +kernel
theorem d_Mo_isDay_192 : decode prog_10_method_25_code 192 = .ok (.istore 4, 2) := by decide +kernel
theorem d_Mo_isDay_194 : decode prog_10_method_25_code 194 = .ok (.iload 4, 2) := by decide +kernel
theorem d_Mo_isDay_196 : decode prog_10_method_25_code 196 = .ok (.bipush 100, 2) := by decide +kernel
theorem d_Mo_isDay_198 : decode prog_10_method_25_code 198 = .ok (.if_icmp .ne 7, 3) := by decide +kernel
theorem d_Mo_isDay_201 : decode prog_10_method_25_code 201 = .ok (.iconst 1, 1) := by decide +kernel
theorem d_Mo_isDay_202 : decode prog_10_method_25_code 202 = .ok (.goto 41, 3) := by decide +kernel
theorem d_Mo_isDay_205 : decode prog_10_method_25_code 205 = .ok (.iload 4, 2) := by decide +kernel
theorem d_Mo_isDay_207 : decode prog_10_method_25_code 207 = .ok (.bipush 119, 2) := by decide +kernel
theorem d_Mo_isDay_209 : decode prog_10_method_25_code 209 = .ok (.if_icmp .ne 8, 3) := by decide +kernel
theorem d_Mo_isDay_212 : decode prog_10_method_25_code 212 = .ok (.bipush 7, 2) := by decide +kernel
theorem d_Mo_isDay_214 : decode prog_10_method_25_code 214 = .ok (.goto 29, 3) := by decide +kernel
theorem d_Mo_isDay_217 : decode prog_10_method_25_code 217 = .ok (.iload 4, 2) := by decide +kernel
theorem d_Mo_isDay_219 : decode prog_10_method_25_code 219 = .ok (.bipush 109, 2) := by decide +kernel
theorem d_Mo_isDay_221 : decode prog_10_method_25_code 221 = .ok (.if_icmp .ne 8, 3) := by decide +kernel
theorem d_Mo_isDay_224 : decode prog_10_method_25_code 224 = .ok (.bipush 30, 2) := by decide +kernel
theorem d_Mo_isDay_226 : decode prog_10_method_25_code 226 = .ok (.goto 17, 3) := by decide +kernel
theorem d_Mo_isDay_229 : decode prog_10_method_25_code 229 = .ok (.iload 4, 2) := by decide +kernel
theorem d_Mo_isDay_231 : decode prog_10_method_25_code 231 = .ok (.bipush 121, 2) := by decide +kernel
theorem d_Mo_isDay_233 : decode prog_10_method_25_code 233 = .ok (.if_icmp .ne 9, 3) := by decide +kernel
theorem d_Mo_isDay_236 : decode prog_10_method_25_code 236 = .ok (.sipush 365, 3) := by decide +kernel
theorem d_Mo_isDay_239 : decode prog_10_method_25_code 239 = .ok (.goto 4, 3) := by decide +kernel
theorem d_Mo_isDay_242 : decode prog_10_method_25_code 242 = .ok (.iconst 0, 1) := by decide +kernel
theorem d_Mo_isDay_243 : decode prog_10_method_25_code 243 = .ok (.istore 5, 2) := by decide +kernel
theorem d_Mo_isDay_245 : decode prog_10_method_25_code 245 = .ok (.iload_n 3, 1) := by decide +kernel
theorem d_Mo_isDay_246 : decode prog_10_method_25_code 246 = .ok (.iconst 1, 1) := by decide +kernel
theorem d_Mo_isDay_247 : decode prog_10_method_25_code 247 = .ok (.if_icmp .lt 31, 3) := by decide +kernel
theorem d_Mo_isDay_250 : decode prog_10_method_25_code 250 = .ok (.iload_n 3, 1) := by decide +kernel
theorem d_Mo_isDay_251 : decode prog_10_method_25_code 251 = .ok (.iconst 3, 1) := by decide +kernel
theorem d_Mo_isDay_252 : decode prog_10_method_25_code 252 = .ok (.if_icmp .gt 26, 3) := by decide +kernel
theorem d_Mo_isDay_255 : decode prog_10_method_25_code 255 = .ok (.iload_n 2, 1) := by decide +kernel
theorem d_Mo_isDay_256 : decode prog_10_method_25_code 256 = .ok (.iload_n 1, 1) := by decide +kernel
theorem d_Mo_isDay_257 : decode prog_10_method_25_code 257 = .ok (.isub, 1) := by decide +kernel
theorem d_Mo_isDay_258 : decode prog_10_method_25_code 258 = .ok (.iload_n 3, 1) := by decide +kernel
theorem d_Mo_isDay_259 : decode prog_10_method_25_code 259 = .ok (.iconst 1, 1) := by decide +kernel
theorem d_Mo_isDay_260 : decode prog_10_method_25_code 260 = .ok (.iadd, 1) := by decide +kernel
theorem d_Mo_isDay_261 : decode prog_10_method_25_code 261 = .ok (.if_icmp .ne 17, 3) := by decide +kernel
theorem d_Mo_isDay_264 : decode prog_10_method_25_code 264 = .ok (.iload 5, 2) := by decide +kernel
theorem d_Mo_isDay_266 : decode prog_10_method_25_code 266 = .ok (.ifCond .eq 12, 3) := by decide +kernel
theorem d_Mo_isDay_269 : decode prog_10_method_25_code 269 = .ok (.aload_n 0, 1) := by decide +kernel
theorem d_Mo_isDay_270 : decode prog_10_method_25_code 270 = .ok (.iload_n 1, 1) := by decide +kernel
theorem d_Mo_isDay_271 : decode prog_10_method_25_code 271 = .ok (.iload_n 3, 1) := by decide +kernel
theorem d_Mo_isDay_272 : decode prog_10_method_25_code 272 = .ok (.invokevirtual 240, 3) := by decide +kernel
theorem d_Mo_isDay_275 : decode prog_10_method_25_code 275 = .ok (.ifCond .ne 5, 3) := by decide +kernel
theorem d_Mo_isDay_278 : decode prog_10_method_25_code 278 = .ok (.iconst 0, 1) := by decide +kernel
theorem d_Mo_isDay_279 : decode prog_10_method_25_code 279 = .ok (.ireturn, 1) := by decide +kernel
theorem d_Mo_isDay_280 : decode prog_10_method_25_code 280 = .ok (.aload_n 0, 1) := by decide +kernel
theorem d_Mo_isDay_281 : decode prog_10_method_25_code 281 = .ok (.iload 5, 2) := by decide +kernel
theorem d_Mo_isDay_283 : decode prog_10_method_25_code 283 = .ok (.ineg, 1) := by decide +kernel
theorem d_Mo_isDay_284 : decode prog_10_method_25_code 284 = .ok (.aload_n 0, 1) := by decide +kernel
theorem d_Mo_isDay_285 : decode prog_10_method_25_code 285 = .ok (.iload_n 1, 1) := by decide +kernel
theorem d_Mo_isDay_286 : decode prog_10_method_25_code 286 = .ok (.iload_n 3, 1) := by decide +kernel
theorem d_Mo_isDay_287 : decode prog_10_method_25_code 287 = .ok (.invokevirtual 240, 3) := by decide +kernel
theorem d_Mo_isDay_290 : decode prog_10_method_25_code 290 = .ok (.imul, 1) := by decide +kernel
theorem d_Mo_isDay_291 : decode prog_10_method_25_code 291 = .ok (.putfield 246, 3) := by decide +kernel
theorem d_Mo_isDay_294 : decode prog_10_method_25_code 294 = .ok (.iconst 1, 1) := by decide +kernel
theorem d_Mo_isDay_295 : decode prog_10_method_25_code 295 = .ok (.ireturn, 1) := by decide +kernel
def y_Mo_isBytes : MethodName := ⟨"MailQueriesModel", "isBytes", "(II)Z"⟩
def rm_Mo_isBytes : Room := { frames := 2, cells := 0, slots := 0, locals := 45 }
theorem d_Mo_isBytes_0 : decode prog_10_method_26_code 0 = .ok (.aload_n 0, 1) := by decide +kernel
theorem d_Mo_isBytes_1 : decode prog_10_method_26_code 1 = .ok (.iload_n 1, 1) := by decide +kernel
theorem d_Mo_isBytes_2 : decode prog_10_method_26_code 2 = .ok (.iload_n 2, 1) := by decide +kernel
theorem d_Mo_isBytes_3 : decode prog_10_method_26_code 3 = .ok (.invokevirtual 237, 3) := by decide +kernel
theorem d_Mo_isBytes_6 : decode prog_10_method_26_code 6 = .ok (.istore_n 3, 1) := by decide +kernel
theorem d_Mo_isBytes_7 : decode prog_10_method_26_code 7 = .ok (.iload_n 3, 1) := by decide +kernel
theorem d_Mo_isBytes_8 : decode prog_10_method_26_code 8 = .ok (.iconst 1, 1) := by decide +kernel
theorem d_Mo_isBytes_9 : decode prog_10_method_26_code 9 = .ok (.if_icmp .lt 18, 3) := by decide +kernel
theorem d_Mo_isBytes_12 : decode prog_10_method_26_code 12 = .ok (.iload_n 3, 1) := by decide +kernel
theorem d_Mo_isBytes_13 : decode prog_10_method_26_code 13 = .ok (.bipush 7, 2) := by decide +kernel
theorem d_Mo_isBytes_15 : decode prog_10_method_26_code 15 = .ok (.if_icmp .gt 12, 3) := by decide +kernel
theorem d_Mo_isBytes_18 : decode prog_10_method_26_code 18 = .ok (.iload_n 2, 1) := by decide +kernel
theorem d_Mo_isBytes_19 : decode prog_10_method_26_code 19 = .ok (.iload_n 1, 1) := by decide +kernel
theorem d_Mo_isBytes_20 : decode prog_10_method_26_code 20 = .ok (.isub, 1) := by decide +kernel
theorem d_Mo_isBytes_21 : decode prog_10_method_26_code 21 = .ok (.iload_n 3, 1) := by decide +kernel
theorem d_Mo_isBytes_22 : decode prog_10_method_26_code 22 = .ok (.iconst 1, 1) := by decide +kernel
theorem d_Mo_isBytes_23 : decode prog_10_method_26_code 23 = .ok (.iadd, 1) := by decide +kernel
theorem d_Mo_isBytes_24 : decode prog_10_method_26_code 24 = .ok (.if_icmp .le 5, 3) := by decide +kernel
theorem d_Mo_isBytes_27 : decode prog_10_method_26_code 27 = .ok (.iconst 0, 1) := by decide +kernel
theorem d_Mo_isBytes_28 : decode prog_10_method_26_code 28 = .ok (.ireturn, 1) := by decide +kernel
theorem d_Mo_isBytes_29 : decode prog_10_method_26_code 29 = .ok (.iload_n 2, 1) := by decide +kernel
theorem d_Mo_isBytes_30 : decode prog_10_method_26_code 30 = .ok (.iload_n 1, 1) := by decide +kernel
theorem d_Mo_isBytes_31 : decode prog_10_method_26_code 31 = .ok (.isub, 1) := by decide +kernel
theorem d_Mo_isBytes_32 : decode prog_10_method_26_code 32 = .ok (.iload_n 3, 1) := by decide +kernel
theorem d_Mo_isBytes_33 : decode prog_10_method_26_code 33 = .ok (.if_icmp .ne 7, 3) := by decide +kernel
theorem d_Mo_isBytes_36 : decode prog_10_method_26_code 36 = .ok (.iconst 0, 1) := by decide +kernel
theorem d_Mo_isBytes_37 : decode prog_10_method_26_code 37 = .ok (.goto 10, 3) := by decide +kernel
theorem d_Mo_isBytes_40 : decode prog_10_method_26_code 40 = .ok (.aload_n 0, 1) := by decide +kernel
theorem d_Mo_isBytes_41 : decode prog_10_method_26_code 41 = .ok (.iload_n 1, 1) := by decide +kernel
theorem d_Mo_isBytes_42 : decode prog_10_method_26_code 42 = .ok (.iload_n 3, 1) := by decide +kernel
theorem d_Mo_isBytes_43 : decode prog_10_method_26_code 43 = .ok (.iadd, 1) := by decide +kernel
theorem d_Mo_isBytes_44 : decode prog_10_method_26_code 44 = .ok (.invokevirtual 160, 3) := by decide +kernel
theorem d_Mo_isBytes_47 : decode prog_10_method_26_code 47 = .ok (.istore 4, 2) := by decide +kernel
theorem d_Mo_isBytes_49 : decode prog_10_method_26_code 49 = .ok (.iload 4, 2) := by decide +kernel
theorem d_Mo_isBytes_51 : decode prog_10_method_26_code 51 = .ok (.ifCond .eq 19, 3) := by decide +kernel
theorem d_Mo_isBytes_54 : decode prog_10_method_26_code 54 = .ok (.iload 4, 2) := by decide +kernel
theorem d_Mo_isBytes_56 : decode prog_10_method_26_code 56 = .ok (.bipush 107, 2) := by decide +kernel
theorem d_Mo_isBytes_58 : decode prog_10_method_26_code 58 = .ok (.if_icmp .eq 12, 3) := by decide +kernel
theorem d_Mo_isBytes_61 : decode prog_10_method_26_code 61 = .ok (.iload 4, 2) := by decide +kernel
theorem d_Mo_isBytes_63 : decode prog_10_method_26_code 63 = .ok (.bipush 109, 2) := by decide +kernel
theorem d_Mo_isBytes_65 : decode prog_10_method_26_code 65 = .ok (.if_icmp .eq 5, 3) := by decide +kernel
theorem d_Mo_isBytes_68 : decode prog_10_method_26_code 68 = .ok (.iconst 0, 1) := by decide +kernel
theorem d_Mo_isBytes_69 : decode prog_10_method_26_code 69 = .ok (.ireturn, 1) := by decide +kernel
theorem d_Mo_isBytes_70 : decode prog_10_method_26_code 70 = .ok (.aload_n 0, 1) := by decide +kernel
theorem d_Mo_isBytes_71 : decode prog_10_method_26_code 71 = .ok (.iload_n 1, 1) := by decide +kernel
theorem d_Mo_isBytes_72 : decode prog_10_method_26_code 72 = .ok (.iload_n 3, 1) := by decide +kernel
theorem d_Mo_isBytes_73 : decode prog_10_method_26_code 73 = .ok (.invokevirtual 240, 3) := by decide +kernel
theorem d_Mo_isBytes_76 : decode prog_10_method_26_code 76 = .ok (.i2l, 1) := by decide +kernel
theorem d_Mo_isBytes_77 : decode prog_10_method_26_code 77 = .ok (.iload 4, 2) := by decide +kernel
theorem d_Mo_isBytes_79 : decode prog_10_method_26_code 79 = .ok (.bipush 107, 2) := by decide +kernel
theorem d_Mo_isBytes_81 : decode prog_10_method_26_code 81 = .ok (.if_icmp .ne 9, 3) := by decide +kernel
theorem d_Mo_isBytes_84 : decode prog_10_method_26_code 84 = .ok (.ldc2_w 249, 3) := by decide +kernel
theorem d_Mo_isBytes_87 : decode prog_10_method_26_code 87 = .ok (.goto 17, 3) := by decide +kernel
theorem d_Mo_isBytes_90 : decode prog_10_method_26_code 90 = .ok (.iload 4, 2) := by decide +kernel
theorem d_Mo_isBytes_92 : decode prog_10_method_26_code 92 = .ok (.bipush 109, 2) := by decide +kernel
theorem d_Mo_isBytes_94 : decode prog_10_method_26_code 94 = .ok (.if_icmp .ne 9, 3) := by decide +kernel
theorem d_Mo_isBytes_97 : decode prog_10_method_26_code 97 = .ok (.ldc2_w 251, 3) := by decide +kernel
theorem d_Mo_isBytes_100 : decode prog_10_method_26_code 100 = .ok (.goto 4, 3) := by decide +kernel
theorem d_Mo_isBytes_103 : decode prog_10_method_26_code 103 = .ok (.lconst 1, 1) := by decide +kernel
theorem d_Mo_isBytes_104 : decode prog_10_method_26_code 104 = .ok (.lmul, 1) := by decide +kernel
theorem d_Mo_isBytes_105 : decode prog_10_method_26_code 105 = .ok (.lstore 5, 2) := by decide +kernel
theorem d_Mo_isBytes_107 : decode prog_10_method_26_code 107 = .ok (.aload_n 0, 1) := by decide +kernel
theorem d_Mo_isBytes_108 : decode prog_10_method_26_code 108 = .ok (.lload 5, 2) := by decide +kernel
theorem d_Mo_isBytes_110 : decode prog_10_method_26_code 110 = .ok (.putfield 253, 3) := by decide +kernel
theorem d_Mo_isBytes_113 : decode prog_10_method_26_code 113 = .ok (.aload_n 0, 1) := by decide +kernel
theorem d_Mo_isBytes_114 : decode prog_10_method_26_code 114 = .ok (.lload 5, 2) := by decide +kernel
theorem d_Mo_isBytes_116 : decode prog_10_method_26_code 116 = .ok (.ldc2_w 257, 3) := by decide +kernel
theorem d_Mo_isBytes_119 : decode prog_10_method_26_code 119 = .ok (.lcmp, 1) := by decide +kernel
theorem d_Mo_isBytes_120 : decode prog_10_method_26_code 120 = .ok (.ifCond .le 9, 3) := by decide +kernel
theorem d_Mo_isBytes_123 : decode prog_10_method_26_code 123 = .ok (.ldc_w 259, 3) := by decide +kernel
theorem d_Mo_isBytes_126 : decode prog_10_method_26_code 126 = .ok (.goto 6, 3) := by decide +kernel
theorem d_Mo_isBytes_129 : decode prog_10_method_26_code 129 = .ok (.lload 5, 2) := by decide +kernel
theorem d_Mo_isBytes_131 : decode prog_10_method_26_code 131 = .ok (.l2i, 1) := by decide +kernel
theorem d_Mo_isBytes_132 : decode prog_10_method_26_code 132 = .ok (.putfield 246, 3) := by decide +kernel
theorem d_Mo_isBytes_135 : decode prog_10_method_26_code 135 = .ok (.iconst 1, 1) := by decide +kernel
theorem d_Mo_isBytes_136 : decode prog_10_method_26_code 136 = .ok (.ireturn, 1) := by decide +kernel
theorem mb_Mo_next : Mb y_Mo_next prog_10_method_19_code 5 none 0 := ⟨W_Mo_next_code, W_Mo_next_in, sel_51, I_Mo, by decide +kernel, by decide +kernel, by decide +kernel⟩
theorem mb_Mo_isTag : Mb y_Mo_isTag prog_10_method_20_code 5 (some .boolean) 2 := ⟨W_Mo_isTag_code, W_Mo_isTag_in, sel_71, I_Mo, by decide +kernel, by decide +kernel, by decide +kernel⟩
theorem mb_Mo_digits : Mb y_Mo_digits prog_10_method_21_code 4 (some .int) 2 := ⟨W_Mo_digits_code, W_Mo_digits_in, sel_77, I_Mo, by decide +kernel, by decide +kernel, by decide +kernel⟩
theorem mb_Mo_number : Mb y_Mo_number prog_10_method_22_code 5 (some .int) 2 := ⟨W_Mo_number_code, W_Mo_number_in, sel_78, I_Mo, by decide +kernel, by decide +kernel, by decide +kernel⟩
theorem mb_Mo_isLeap : MbS y_Mo_isLeap prog_10_method_23_code 1 (some .boolean) 1 := ⟨W_Mo_isLeap_code, W_Mo_isLeap_st, I_Mo, by decide +kernel, by decide +kernel, by decide +kernel⟩
theorem mb_Mo_monthDays : MbS y_Mo_monthDays prog_10_method_24_code 2 (some .int) 2 := ⟨W_Mo_monthDays_code, W_Mo_monthDays_st, I_Mo, by decide +kernel, by decide +kernel, by decide +kernel⟩
theorem mb_Mo_isDay : Mb y_Mo_isDay prog_10_method_25_code 8 (some .boolean) 2 := ⟨W_Mo_isDay_code, W_Mo_isDay_in, sel_76, I_Mo, by decide +kernel, by decide +kernel, by decide +kernel⟩
theorem mb_Mo_isBytes : Mb y_Mo_isBytes prog_10_method_26_code 7 (some .boolean) 2 := ⟨W_Mo_isBytes_code, W_Mo_isBytes_in, sel_79, I_Mo, by decide +kernel, by decide +kernel, by decide +kernel⟩
def Mo_next_229 (F : Nat) (t : StI) (tL : StL) (x2 : Int32) (x3 : Int32) (x4 : Int32) (y0 : Int32) : Option (StI × StL) := letS (va_up t 16 (fun _ => y0)) fun t_37 => if x3 = 0 then if x4 = (-1 : Int32) then letS (va_up t_37 8 (fun _ => (t_37 8 0))) fun t_41 => some (t_41, tL) else letS (va_up t_37 8 (fun _ => x2)) fun t_40 => some (t_40, tL) else letS (va_up t_37 8 (fun _ => (x2 + (1 : Int32)))) fun t_42 => some (t_42, tL)
def Mo_next_208 (F : Nat) (t : StI) (tL : StL) (x2 : Int32) (x3 : Int32) (x4 : Int32) (y0 : Int32) : Option (StI × StL) := letS (va_up t 14 (fun _ => y0)) fun t_43 => if x3 = 0 then Mo_next_229 F t_43 tL x2 x3 x4 (0 : Int32) else (Mo_fieldOf F t_43 tL (t_43 8 0) x2).bind fun r45 => Mo_next_229 F t_43 tL x2 x3 x4 r45
def Mo_next_192 (F : Nat) (t : StI) (tL : StL) (x2 : Int32) (x3 : Int32) (y0 : Int32) : Option (StI × StL) := if y0 = (-1 : Int32) then Mo_next_208 F t tL x2 x3 y0 (7 : Int32) else Mo_next_208 F t tL x2 x3 y0 y0
def Mo_next_174 (F : Nat) (t : StI) (tL : StL) (x2 : Int32) (y0 : Int32) : Option (StI × StL) := if y0 = 0 then (Mo_operator F t tL (t 8 0) x2).bind fun r48 => Mo_next_192 F t tL x2 y0 r48 else Mo_next_192 F t tL x2 y0 (-1 : Int32)
def Mo_next_173 (F : Nat) (t : StI) (tL : StL) (x2 : Int32) : Option (StI × StL) := Mo_next_174 F t tL x2 (0 : Int32)
def Mo_next_83 (F : Nat) (t : StI) (tL : StL) (y0 : Int32) : Option (StI × StL) := letS (va_up t 14 (fun _ => y0)) fun t_49 => letS (va_up t_49 8 (fun _ => ((t_49 8 0) + (1 : Int32)))) fun t_50 => some (t_50, tL)
def Mo_next_70 (F : Nat) (t : StI) (tL : StL) (x1 : Int32) : Option (StI × StL) := if x1 = (40 : Int32) then Mo_next_83 F t tL (5 : Int32) else Mo_next_83 F t tL (6 : Int32)
def Mo_next_0 (F : Nat) : Nat → StI → StL → Option (StI × StL)
  | 0, _, _ => none
  | n + 1, t, tL => (Mo_see F t tL (t 8 0)).bind fun r52 => (Mo_isSpace F t tL r52).bind fun r53 => if r53 = 0 then letS (va_up t 15 (fun _ => (t 8 0))) fun t_55 => (Mo_see F t_55 tL (t_55 8 0)).bind fun r56 => if r56 = (-1 : Int32) then letS (va_up t_55 14 (fun _ => (0 : Int32))) fun t_71 => some (t_71, tL) else if r56 = (40 : Int32) then Mo_next_70 F t_55 tL r56 else if r56 = (41 : Int32) then Mo_next_70 F t_55 tL r56 else if r56 = (34 : Int32) then letS (va_up t_55 14 (fun _ => (7 : Int32))) fun t_69 => letS (va_up t_69 16 (fun _ => (0 : Int32))) fun t_70 => some (t_70, tL) else (Mo_isPart F r56).bind fun r61 => if r61 = 0 then (Mo_fail F t_55 tL (2 : Int32) (t_55 8 0)).bind fun r68 => some (r68.1, r68.2) else (Mo_runEnd F t_55 tL (t_55 8 0)).bind fun r63 => (Mo_isLetters F t_55 tL (t_55 8 0) r63).bind fun r64 => if r64 = 0 then Mo_next_173 F t_55 tL r63 else (Mo_see F t_55 tL r63).bind fun r66 => if r66 = (58 : Int32) then Mo_next_174 F t_55 tL r63 (1 : Int32) else Mo_next_173 F t_55 tL r63 else letS (va_up t 8 (fun _ => ((t 8 0) + (1 : Int32)))) fun t_72 => Mo_next_0 F n t_72 tL
def Mo_next (F : Nat) (t : StI) (tL : StL) : Option (StI × StL) := Mo_next_0 F F t tL
set_option maxHeartbeats 4000000 in
set_option maxRecDepth 100000 in
theorem k_Mo_next_229 {p : Program} {l : Launch} {e : Env} {s : State} {m : MethodId} {args : Array Value} {below : List Frame} {meth : Method} {c : Code} {g : Gz} {A : Nat → Prop} {F : Nat} {a_t : Nat → Nat} (hC : Cx prog_10_method_19_code 5 none R_Mo p s m args meth c g A A) : ∀ (t : StI) (tL : StL) (x2 : Int32) (x3 : Int32) (x4 : Int32) (y0 : Int32) (res : StI × StL), Mo_next_229 F t tL x2 x3 x4 y0 = some res → Go p l e rm_Mo_next s m args below meth c g A A 5 (MQ below (EV g ((pic_Mo g a_t res.1 res.2)) A) args s 0 0 A) ((pic_Mo g a_t t tL)) [(0, .ref (a_t 0)), (2, .int x2), (3, .int x3), (4, .int x4)] 229 [.int y0, .ref (a_t 0)] := by
  obtain ⟨hx, hb, hr, hml, hown, htb, hlocks, hA, hAA, hG⟩ := id hC
  have hK := hG.1
  intro t tL x2 x3 x4 y0 res h H locs ls hP hD hS hl
  rw [Mo_next_229] at h
  refine va_put (D := gD g) (ci := 8) (v := .int y0) (ty := .int) (C := R_Mo) (T := T_Mo) (N := 64) hx hb htb in_Mo ty_Mo ty_Mo_ok nm_Mo hown hK hP hD hS 0 rfl rfl 16 (by decide) (htb _ L_Mo_214) (fun _ h9 => h9) rfl (by decide +kernel) rfl rfl (Nat.le_of_ble_eq_true rfl) d_Mo_next_229 (fun H locs hP hD hS => ?_)
  obtain ⟨t_37, et_37, h⟩ := letS_el h
  have hP : va_P (gD g) vwCl ((pic_Mo g a_t t_37 tL)) H := by rw [et_37]; exact hP
  have hD : va_D A ((pic_Mo g a_t t_37 tL)) := by rw [et_37]; exact hD
  refine lv_aload_n hx hb d_Mo_next_232 rfl (lv_at hl 0 rfl) ?_
  refine lv_iload_n hx hb d_Mo_next_233 rfl (lv_at hl 2 rfl) ?_
  refine lv_if_eq (tgt := 243) hx hb d_Mo_next_234 (by decide) (fun c38 => ?_) (fun c38 => ?_)
  · replace h := (if_pos c38).symm.trans h
    refine lv_iload hx hb d_Mo_next_243 (lv_at hl 3 rfl) ?_
    refine lv_iconst (v := -1) hx hb d_Mo_next_245 (by decide) ?_
    refine lv_icmp_ne (tgt := 256) hx hb d_Mo_next_246 (by decide) (fun c39 => ?_) (fun c39 => ?_)
    · replace h := (if_neg c39).symm.trans h
      refine lv_iload_n hx hb d_Mo_next_256 rfl (lv_at hl 1 rfl) ?_
      refine va_put (D := gD g) (ci := 8) (v := .int x2) (ty := .int) (C := R_Mo) (T := T_Mo) (N := 64) hx hb htb in_Mo ty_Mo ty_Mo_ok nm_Mo hown hK hP hD hS 0 rfl rfl 8 (by decide) (htb _ L_Mo_199) (fun _ h9 => h9) rfl (by decide +kernel) rfl rfl (Nat.le_of_ble_eq_true rfl) d_Mo_next_257 (fun H locs hP hD hS => ?_)
      obtain ⟨t_40, et_40, h⟩ := letS_el h
      have hP : va_P (gD g) vwCl ((pic_Mo g a_t t_40 tL)) H := by rw [et_40]; exact hP
      have hD : va_D A ((pic_Mo g a_t t_40 tL)) := by rw [et_40]; exact hD
      cases h
      exact W.vret hx hb hr (fun t ht hW => ⟨⟨(), rfl, trivial, by rw [ht]; exact hP, hD⟩, hS.F ht⟩) hS.2.2 d_Mo_next_260
    · replace h := (if_pos c39).symm.trans h
      refine lv_aload_n hx hb d_Mo_next_249 rfl (lv_at hl 0 rfl) ?_
      refine va_get (D := gD g) (ci := 8) (v := .int (t_37 8 0)) (C := R_Mo) (T := T_Mo) (N := 64) hx hb htb in_Mo hown hK hP 0 rfl rfl 8 (by decide) (htb _ L_Mo_199) (fun _ h9 => h9) rfl d_Mo_next_250 ?_
      refine lv_goto (tgt := 257) hx hb d_Mo_next_253 (by decide) ?_
      refine va_put (D := gD g) (ci := 8) (v := .int (t_37 8 0)) (ty := .int) (C := R_Mo) (T := T_Mo) (N := 64) hx hb htb in_Mo ty_Mo ty_Mo_ok nm_Mo hown hK hP hD hS 0 rfl rfl 8 (by decide) (htb _ L_Mo_199) (fun _ h9 => h9) rfl (by decide +kernel) rfl rfl (Nat.le_of_ble_eq_true rfl) d_Mo_next_257 (fun H locs hP hD hS => ?_)
      obtain ⟨t_41, et_41, h⟩ := letS_el h
      have hP : va_P (gD g) vwCl ((pic_Mo g a_t t_41 tL)) H := by rw [et_41]; exact hP
      have hD : va_D A ((pic_Mo g a_t t_41 tL)) := by rw [et_41]; exact hD
      cases h
      exact W.vret hx hb hr (fun t ht hW => ⟨⟨(), rfl, trivial, by rw [ht]; exact hP, hD⟩, hS.F ht⟩) hS.2.2 d_Mo_next_260
  · replace h := (if_neg c38).symm.trans h
    refine lv_iload_n hx hb d_Mo_next_237 rfl (lv_at hl 1 rfl) ?_
    refine lv_iconst (v := 1) hx hb d_Mo_next_238 (by decide) ?_
    refine lv_iadd hx hb d_Mo_next_239 ?_
    refine lv_goto (tgt := 257) hx hb d_Mo_next_240 (by decide) ?_
    refine va_put (D := gD g) (ci := 8) (v := .int (x2 + (1 : Int32))) (ty := .int) (C := R_Mo) (T := T_Mo) (N := 64) hx hb htb in_Mo ty_Mo ty_Mo_ok nm_Mo hown hK hP hD hS 0 rfl rfl 8 (by decide) (htb _ L_Mo_199) (fun _ h9 => h9) rfl (by decide +kernel) rfl rfl (Nat.le_of_ble_eq_true rfl) d_Mo_next_257 (fun H locs hP hD hS => ?_)
    obtain ⟨t_42, et_42, h⟩ := letS_el h
    have hP : va_P (gD g) vwCl ((pic_Mo g a_t t_42 tL)) H := by rw [et_42]; exact hP
    have hD : va_D A ((pic_Mo g a_t t_42 tL)) := by rw [et_42]; exact hD
    cases h
    exact W.vret hx hb hr (fun t ht hW => ⟨⟨(), rfl, trivial, by rw [ht]; exact hP, hD⟩, hS.F ht⟩) hS.2.2 d_Mo_next_260
set_option maxHeartbeats 4000000 in
set_option maxRecDepth 100000 in
theorem k_Mo_next_208 {p : Program} {l : Launch} {e : Env} {s : State} {m : MethodId} {args : Array Value} {below : List Frame} {meth : Method} {c : Code} {g : Gz} {A : Nat → Prop} {F : Nat} {a_t : Nat → Nat} (hC : Cx prog_10_method_19_code 5 none R_Mo p s m args meth c g A A) : ∀ (t : StI) (tL : StL) (x2 : Int32) (x3 : Int32) (x4 : Int32) (y0 : Int32) (res : StI × StL), Mo_next_208 F t tL x2 x3 x4 y0 = some res → Go p l e rm_Mo_next s m args below meth c g A A 5 (MQ below (EV g ((pic_Mo g a_t res.1 res.2)) A) args s 0 0 A) ((pic_Mo g a_t t tL)) [(0, .ref (a_t 0)), (2, .int x2), (3, .int x3), (4, .int x4)] 208 [.int y0, .ref (a_t 0)] := by
  obtain ⟨hx, hb, hr, hml, hown, htb, hlocks, hA, hAA, hG⟩ := id hC
  have hK := hG.1
  intro t tL x2 x3 x4 y0 res h H locs ls hP hD hS hl
  rw [Mo_next_208] at h
  refine va_put (D := gD g) (ci := 8) (v := .int y0) (ty := .int) (C := R_Mo) (T := T_Mo) (N := 64) hx hb htb in_Mo ty_Mo ty_Mo_ok nm_Mo hown hK hP hD hS 0 rfl rfl 14 (by decide) (htb _ L_Mo_211) (fun _ h9 => h9) rfl (by decide +kernel) rfl rfl (Nat.le_of_ble_eq_true rfl) d_Mo_next_208 (fun H locs hP hD hS => ?_)
  obtain ⟨t_43, et_43, h⟩ := letS_el h
  have hP : va_P (gD g) vwCl ((pic_Mo g a_t t_43 tL)) H := by rw [et_43]; exact hP
  have hD : va_D A ((pic_Mo g a_t t_43 tL)) := by rw [et_43]; exact hD
  refine lv_aload_n hx hb d_Mo_next_211 rfl (lv_at hl 0 rfl) ?_
  refine lv_iload_n hx hb d_Mo_next_212 rfl (lv_at hl 2 rfl) ?_
  refine lv_if_eq (tgt := 228) hx hb d_Mo_next_213 (by decide) (fun c44 => ?_) (fun c44 => ?_)
  · replace h := (if_pos c44).symm.trans h
    refine lv_iconst (v := 0) hx hb d_Mo_next_228 (by decide) ?_
    exact k_Mo_next_229 hC _ _ _ _ _ _ _ h _ _ _ hP hD hS (lv_sub hl [0, 1, 2, 3] rfl)
  · replace h := (if_neg c44).symm.trans h
    refine lv_aload_n hx hb d_Mo_next_216 rfl (lv_at hl 0 rfl) ?_
    refine lv_aload_n hx hb d_Mo_next_217 rfl (lv_at hl 0 rfl) ?_
    refine va_get (D := gD g) (ci := 8) (v := .int (t_43 8 0)) (C := R_Mo) (T := T_Mo) (N := 64) hx hb htb in_Mo hown hK hP 0 rfl rfl 8 (by decide) (htb _ L_Mo_199) (fun _ h9 => h9) rfl d_Mo_next_218 ?_
    refine lv_iload_n hx hb d_Mo_next_221 rfl (lv_at hl 1 rfl) ?_
    obtain ⟨r45, hr45, h⟩ := Option.bind_eq_some_iff.mp h
    refine cl_Ir hP hS hA (va_runV (As := [.int (t_43 8 0), .int x2]) (rest := [.ref (a_t 0)]) ⟨hx, hb, hml, hown, htb⟩ (c_Mo_fieldOf l g F a_t t_43 tL (t_43 8 0) x2 _ hr45 H.size) (cw_V htb mb_Mo_fieldOf (htb _ L_Mo_228) rfl rfl ⟨Nat.le_of_ble_eq_true rfl, Nat.le_of_ble_eq_true rfl⟩) (pre_V (va_recv hK hP (ci := 8) (q0 := 0) rfl rfl) (pre_S [0, 1, 2, 3, 4, 5, 6, 7, 8, 9, 10, 11, 12, 13, 14, 15, 16, 17, 18, 19, 20, 21, 22, 23, 24, 25, 26, 27, 28, 29, 30, 31, 32] rfl rfl hP hD hS hA hAA hG)) rfl rfl hl.1 rfl (lv_room (Nat.le_of_ble_eq_true rfl)) d_Mo_next_222 ⟨Nat.zero_le _, Nat.zero_le _⟩) (fun H locs hP hS => ?_)
    refine lv_goto (tgt := 229) hx hb d_Mo_next_225 (by decide) ?_
    exact k_Mo_next_229 hC _ _ _ _ _ _ _ h _ _ _ hP hD hS (lv_sub hl [0, 1, 2, 3] rfl)
set_option maxHeartbeats 4000000 in
set_option maxRecDepth 100000 in
theorem k_Mo_next_192 {p : Program} {l : Launch} {e : Env} {s : State} {m : MethodId} {args : Array Value} {below : List Frame} {meth : Method} {c : Code} {g : Gz} {A : Nat → Prop} {F : Nat} {a_t : Nat → Nat} (hC : Cx prog_10_method_19_code 5 none R_Mo p s m args meth c g A A) : ∀ (t : StI) (tL : StL) (x2 : Int32) (x3 : Int32) (y0 : Int32) (res : StI × StL), Mo_next_192 F t tL x2 x3 y0 = some res → Go p l e rm_Mo_next s m args below meth c g A A 5 (MQ below (EV g ((pic_Mo g a_t res.1 res.2)) A) args s 0 0 A) ((pic_Mo g a_t t tL)) [(0, .ref (a_t 0)), (2, .int x2), (3, .int x3)] 192 [.int y0] := by
  obtain ⟨hx, hb, hr, hml, hown, htb, hlocks, hA, hAA, hG⟩ := id hC
  have hK := hG.1
  intro t tL x2 x3 y0 res h H locs ls hP hD hS hl
  rw [Mo_next_192] at h
  refine lv_istore (lv' := [(4, .int y0), (0, .ref (a_t 0)), (2, .int x2), (3, .int x3)]) hx hb d_Mo_next_192 hl (by decide) rfl (fun ls hl => ?_)
  refine lv_aload_n hx hb d_Mo_next_194 rfl (lv_at hl 1 rfl) ?_
  refine lv_iload hx hb d_Mo_next_195 (lv_at hl 0 rfl) ?_
  refine lv_iconst (v := -1) hx hb d_Mo_next_197 (by decide) ?_
  refine lv_icmp_ne (tgt := 206) hx hb d_Mo_next_198 (by decide) (fun c46 => ?_) (fun c46 => ?_)
  · replace h := (if_neg c46).symm.trans h
    refine lv_iload hx hb d_Mo_next_206 (lv_at hl 0 rfl) ?_
    exact k_Mo_next_208 hC _ _ _ _ _ _ _ h _ _ _ hP hD hS (lv_sub hl [1, 2, 3, 0] rfl)
  · replace h := (if_pos c46).symm.trans h
    refine lv_bipush (v := 7) hx hb d_Mo_next_201 (by decide) ?_
    refine lv_goto (tgt := 208) hx hb d_Mo_next_203 (by decide) ?_
    exact k_Mo_next_208 hC _ _ _ _ _ _ _ h _ _ _ hP hD hS (lv_sub hl [1, 2, 3, 0] rfl)
set_option maxHeartbeats 4000000 in
set_option maxRecDepth 100000 in
theorem k_Mo_next_174 {p : Program} {l : Launch} {e : Env} {s : State} {m : MethodId} {args : Array Value} {below : List Frame} {meth : Method} {c : Code} {g : Gz} {A : Nat → Prop} {F : Nat} {a_t : Nat → Nat} (hC : Cx prog_10_method_19_code 5 none R_Mo p s m args meth c g A A) : ∀ (t : StI) (tL : StL) (x2 : Int32) (y0 : Int32) (res : StI × StL), Mo_next_174 F t tL x2 y0 = some res → Go p l e rm_Mo_next s m args below meth c g A A 5 (MQ below (EV g ((pic_Mo g a_t res.1 res.2)) A) args s 0 0 A) ((pic_Mo g a_t t tL)) [(0, .ref (a_t 0)), (2, .int x2)] 174 [.int y0] := by
  obtain ⟨hx, hb, hr, hml, hown, htb, hlocks, hA, hAA, hG⟩ := id hC
  have hK := hG.1
  intro t tL x2 y0 res h H locs ls hP hD hS hl
  rw [Mo_next_174] at h
  refine lv_istore_n (lv' := [(3, .int y0), (0, .ref (a_t 0)), (2, .int x2)]) hx hb d_Mo_next_174 rfl hl (by decide) rfl (fun ls hl => ?_)
  refine lv_iload_n hx hb d_Mo_next_175 rfl (lv_at hl 0 rfl) ?_
  refine lv_if_eq (tgt := 183) hx hb d_Mo_next_176 (by decide) (fun c47 => ?_) (fun c47 => ?_)
  · replace h := (if_pos c47).symm.trans h
    refine lv_aload_n hx hb d_Mo_next_183 rfl (lv_at hl 1 rfl) ?_
    refine lv_aload_n hx hb d_Mo_next_184 rfl (lv_at hl 1 rfl) ?_
    refine va_get (D := gD g) (ci := 8) (v := .int (t 8 0)) (C := R_Mo) (T := T_Mo) (N := 64) hx hb htb in_Mo hown hK hP 0 rfl rfl 8 (by decide) (htb _ L_Mo_199) (fun _ h9 => h9) rfl d_Mo_next_185 ?_
    refine lv_iload_n hx hb d_Mo_next_188 rfl (lv_at hl 2 rfl) ?_
    obtain ⟨r48, hr48, h⟩ := Option.bind_eq_some_iff.mp h
    refine cl_Ir hP hS hA (va_runV (As := [.int (t 8 0), .int x2]) (rest := []) ⟨hx, hb, hml, hown, htb⟩ (c_Mo_operator l g F a_t t tL (t 8 0) x2 _ hr48 H.size) (cw_V htb mb_Mo_operator (htb _ L_Mo_224) rfl rfl ⟨Nat.le_of_ble_eq_true rfl, Nat.le_of_ble_eq_true rfl⟩) (pre_V (va_recv hK hP (ci := 8) (q0 := 0) rfl rfl) (pre_S [0, 1, 2, 3, 4, 5, 6, 7, 8, 9, 10, 11, 12, 13, 14, 15, 16, 17, 18, 19, 20, 21, 22, 23, 24, 25, 26, 27, 28, 29, 30, 31, 32] rfl rfl hP hD hS hA hAA hG)) rfl rfl hl.1 rfl (lv_room (Nat.le_of_ble_eq_true rfl)) d_Mo_next_189 ⟨Nat.zero_le _, Nat.zero_le _⟩) (fun H locs hP hS => ?_)
    exact k_Mo_next_192 hC _ _ _ _ _ _ h _ _ _ hP hD hS (lv_sub hl [1, 2, 0] rfl)
  · replace h := (if_neg c47).symm.trans h
    refine lv_iconst (v := -1) hx hb d_Mo_next_179 (by decide) ?_
    refine lv_goto (tgt := 192) hx hb d_Mo_next_180 (by decide) ?_
    exact k_Mo_next_192 hC _ _ _ _ _ _ h _ _ _ hP hD hS (lv_sub hl [1, 2, 0] rfl)
set_option maxHeartbeats 4000000 in
set_option maxRecDepth 100000 in
theorem k_Mo_next_173 {p : Program} {l : Launch} {e : Env} {s : State} {m : MethodId} {args : Array Value} {below : List Frame} {meth : Method} {c : Code} {g : Gz} {A : Nat → Prop} {F : Nat} {a_t : Nat → Nat} (hC : Cx prog_10_method_19_code 5 none R_Mo p s m args meth c g A A) : ∀ (t : StI) (tL : StL) (x2 : Int32) (res : StI × StL), Mo_next_173 F t tL x2 = some res → Go p l e rm_Mo_next s m args below meth c g A A 5 (MQ below (EV g ((pic_Mo g a_t res.1 res.2)) A) args s 0 0 A) ((pic_Mo g a_t t tL)) [(0, .ref (a_t 0)), (2, .int x2)] 173 [] := by
  obtain ⟨hx, hb, hr, hml, hown, htb, hlocks, hA, hAA, hG⟩ := id hC
  have hK := hG.1
  intro t tL x2 res h H locs ls hP hD hS hl
  rw [Mo_next_173] at h
  refine lv_iconst (v := 0) hx hb d_Mo_next_173 (by decide) ?_
  exact k_Mo_next_174 hC _ _ _ _ _ h _ _ _ hP hD hS (lv_sub hl [0, 1] rfl)
set_option maxHeartbeats 4000000 in
set_option maxRecDepth 100000 in
theorem k_Mo_next_83 {p : Program} {l : Launch} {e : Env} {s : State} {m : MethodId} {args : Array Value} {below : List Frame} {meth : Method} {c : Code} {g : Gz} {A : Nat → Prop} {F : Nat} {a_t : Nat → Nat} (hC : Cx prog_10_method_19_code 5 none R_Mo p s m args meth c g A A) : ∀ (t : StI) (tL : StL) (y0 : Int32) (res : StI × StL), Mo_next_83 F t tL y0 = some res → Go p l e rm_Mo_next s m args below meth c g A A 5 (MQ below (EV g ((pic_Mo g a_t res.1 res.2)) A) args s 0 0 A) ((pic_Mo g a_t t tL)) [(0, .ref (a_t 0))] 83 [.int y0, .ref (a_t 0)] := by
  obtain ⟨hx, hb, hr, hml, hown, htb, hlocks, hA, hAA, hG⟩ := id hC
  have hK := hG.1
  intro t tL y0 res h H locs ls hP hD hS hl
  rw [Mo_next_83] at h
  refine va_put (D := gD g) (ci := 8) (v := .int y0) (ty := .int) (C := R_Mo) (T := T_Mo) (N := 64) hx hb htb in_Mo ty_Mo ty_Mo_ok nm_Mo hown hK hP hD hS 0 rfl rfl 14 (by decide) (htb _ L_Mo_211) (fun _ h9 => h9) rfl (by decide +kernel) rfl rfl (Nat.le_of_ble_eq_true rfl) d_Mo_next_83 (fun H locs hP hD hS => ?_)
  obtain ⟨t_49, et_49, h⟩ := letS_el h
  have hP : va_P (gD g) vwCl ((pic_Mo g a_t t_49 tL)) H := by rw [et_49]; exact hP
  have hD : va_D A ((pic_Mo g a_t t_49 tL)) := by rw [et_49]; exact hD
  refine lv_aload_n hx hb d_Mo_next_86 rfl (lv_at hl 0 rfl) ?_
  refine lv_dup hx hb d_Mo_next_87 rfl ?_
  refine va_get (D := gD g) (ci := 8) (v := .int (t_49 8 0)) (C := R_Mo) (T := T_Mo) (N := 64) hx hb htb in_Mo hown hK hP 0 rfl rfl 8 (by decide) (htb _ L_Mo_199) (fun _ h9 => h9) rfl d_Mo_next_88 ?_
  refine lv_iconst (v := 1) hx hb d_Mo_next_91 (by decide) ?_
  refine lv_iadd hx hb d_Mo_next_92 ?_
  refine va_put (D := gD g) (ci := 8) (v := .int ((t_49 8 0) + (1 : Int32))) (ty := .int) (C := R_Mo) (T := T_Mo) (N := 64) hx hb htb in_Mo ty_Mo ty_Mo_ok nm_Mo hown hK hP hD hS 0 rfl rfl 8 (by decide) (htb _ L_Mo_199) (fun _ h9 => h9) rfl (by decide +kernel) rfl rfl (Nat.le_of_ble_eq_true rfl) d_Mo_next_93 (fun H locs hP hD hS => ?_)
  obtain ⟨t_50, et_50, h⟩ := letS_el h
  have hP : va_P (gD g) vwCl ((pic_Mo g a_t t_50 tL)) H := by rw [et_50]; exact hP
  have hD : va_D A ((pic_Mo g a_t t_50 tL)) := by rw [et_50]; exact hD
  refine lv_goto (tgt := 260) hx hb d_Mo_next_96 (by decide) ?_
  cases h
  exact W.vret hx hb hr (fun t ht hW => ⟨⟨(), rfl, trivial, by rw [ht]; exact hP, hD⟩, hS.F ht⟩) hS.2.2 d_Mo_next_260
set_option maxHeartbeats 4000000 in
set_option maxRecDepth 100000 in
theorem k_Mo_next_70 {p : Program} {l : Launch} {e : Env} {s : State} {m : MethodId} {args : Array Value} {below : List Frame} {meth : Method} {c : Code} {g : Gz} {A : Nat → Prop} {F : Nat} {a_t : Nat → Nat} (hC : Cx prog_10_method_19_code 5 none R_Mo p s m args meth c g A A) : ∀ (t : StI) (tL : StL) (x1 : Int32) (res : StI × StL), Mo_next_70 F t tL x1 = some res → Go p l e rm_Mo_next s m args below meth c g A A 5 (MQ below (EV g ((pic_Mo g a_t res.1 res.2)) A) args s 0 0 A) ((pic_Mo g a_t t tL)) [(0, .ref (a_t 0)), (1, .int x1)] 70 [] := by
  obtain ⟨hx, hb, hr, hml, hown, htb, hlocks, hA, hAA, hG⟩ := id hC
  have hK := hG.1
  intro t tL x1 res h H locs ls hP hD hS hl
  rw [Mo_next_70] at h
  refine lv_aload_n hx hb d_Mo_next_70 rfl (lv_at hl 0 rfl) ?_
  refine lv_iload_n hx hb d_Mo_next_71 rfl (lv_at hl 1 rfl) ?_
  refine lv_bipush (v := 40) hx hb d_Mo_next_72 (by decide) ?_
  refine lv_icmp_ne (tgt := 81) hx hb d_Mo_next_74 (by decide) (fun c51 => ?_) (fun c51 => ?_)
  · replace h := (if_neg c51).symm.trans h
    refine lv_bipush (v := 6) hx hb d_Mo_next_81 (by decide) ?_
    exact k_Mo_next_83 hC _ _ _ _ h _ _ _ hP hD hS (lv_sub hl [0] rfl)
  · replace h := (if_pos c51).symm.trans h
    refine lv_iconst (v := 5) hx hb d_Mo_next_77 (by decide) ?_
    refine lv_goto (tgt := 83) hx hb d_Mo_next_78 (by decide) ?_
    exact k_Mo_next_83 hC _ _ _ _ h _ _ _ hP hD hS (lv_sub hl [0] rfl)
set_option maxHeartbeats 4000000 in
set_option maxRecDepth 100000 in
theorem k_Mo_next_0 {p : Program} {l : Launch} {e : Env} {s : State} {m : MethodId} {args : Array Value} {below : List Frame} {meth : Method} {c : Code} {g : Gz} {A : Nat → Prop} {F : Nat} {a_t : Nat → Nat} (hC : Cx prog_10_method_19_code 5 none R_Mo p s m args meth c g A A) : ∀ (n : Nat) (t : StI) (tL : StL) (res : StI × StL), Mo_next_0 F n t tL = some res → Go p l e rm_Mo_next s m args below meth c g A A 5 (MQ below (EV g ((pic_Mo g a_t res.1 res.2)) A) args s 0 0 A) ((pic_Mo g a_t t tL)) [(0, .ref (a_t 0))] 0 [] := by
  obtain ⟨hx, hb, hr, hml, hown, htb, hlocks, hA, hAA, hG⟩ := id hC
  have hK := hG.1
  intro n
  induction n with
  | zero => intro t tL res h; rw [Mo_next_0] at h; cases h
  | succ n ih =>
    intro t tL res h H locs ls hP hD hS hl
    rw [Mo_next_0] at h
    refine lv_aload_n hx hb d_Mo_next_0 rfl (lv_at hl 0 rfl) ?_
    refine lv_aload_n hx hb d_Mo_next_1 rfl (lv_at hl 0 rfl) ?_
    refine lv_aload_n hx hb d_Mo_next_2 rfl (lv_at hl 0 rfl) ?_
    refine va_get (D := gD g) (ci := 8) (v := .int (t 8 0)) (C := R_Mo) (T := T_Mo) (N := 64) hx hb htb in_Mo hown hK hP 0 rfl rfl 8 (by decide) (htb _ L_Mo_199) (fun _ h9 => h9) rfl d_Mo_next_3 ?_
    obtain ⟨r52, hr52, h⟩ := Option.bind_eq_some_iff.mp h
    refine cl_Ir hP hS hA (va_runV (As := [.int (t 8 0)]) (rest := [.ref (a_t 0)]) ⟨hx, hb, hml, hown, htb⟩ (c_Mo_see l g F a_t t tL (t 8 0) _ hr52 H.size) (cw_V htb mb_Mo_see (htb _ L_Mo_160) rfl rfl ⟨Nat.le_of_ble_eq_true rfl, Nat.le_of_ble_eq_true rfl⟩) (pre_V (va_recv hK hP (ci := 8) (q0 := 0) rfl rfl) (pre_S [0, 1, 2, 3, 4, 5, 6, 7, 8, 9, 10, 11, 12, 13, 14, 15, 16, 17, 18, 19, 20, 21, 22, 23, 24, 25, 26, 27, 28, 29, 30, 31, 32] rfl rfl hP hD hS hA hAA hG)) rfl rfl hl.1 rfl (lv_room (Nat.le_of_ble_eq_true rfl)) d_Mo_next_6 ⟨Nat.zero_le _, Nat.zero_le _⟩) (fun H locs hP hS => ?_)
    obtain ⟨r53, hr53, h⟩ := Option.bind_eq_some_iff.mp h
    refine cl_Ir hP hS hA (va_runV (As := [.int r52]) (rest := []) ⟨hx, hb, hml, hown, htb⟩ (c_Mo_isSpace l g F a_t t tL r52 _ hr53 H.size) (cw_V htb mb_Mo_isSpace (htb _ L_Mo_205) rfl rfl ⟨Nat.le_of_ble_eq_true rfl, Nat.le_of_ble_eq_true rfl⟩) (pre_V (va_recv hK hP (ci := 8) (q0 := 0) rfl rfl) (pre_S [0, 1, 2, 3, 4, 5, 6, 7, 8, 9, 10, 11, 12, 13, 14, 15, 16, 17, 18, 19, 20, 21, 22, 23, 24, 25, 26, 27, 28, 29, 30, 31, 32] rfl rfl hP hD hS hA hAA hG)) rfl rfl hl.1 rfl (lv_room (Nat.le_of_ble_eq_true rfl)) d_Mo_next_9 ⟨Nat.zero_le _, Nat.zero_le _⟩) (fun H locs hP hS => ?_)
    refine lv_if_eq (tgt := 28) hx hb d_Mo_next_12 (by decide) (fun c54 => ?_) (fun c54 => ?_)
    · replace h := (if_pos c54).symm.trans h
      refine lv_aload_n hx hb d_Mo_next_28 rfl (lv_at hl 0 rfl) ?_
      refine lv_aload_n hx hb d_Mo_next_29 rfl (lv_at hl 0 rfl) ?_
      refine va_get (D := gD g) (ci := 8) (v := .int (t 8 0)) (C := R_Mo) (T := T_Mo) (N := 64) hx hb htb in_Mo hown hK hP 0 rfl rfl 8 (by decide) (htb _ L_Mo_199) (fun _ h9 => h9) rfl d_Mo_next_30 ?_
      refine va_put (D := gD g) (ci := 8) (v := .int (t 8 0)) (ty := .int) (C := R_Mo) (T := T_Mo) (N := 64) hx hb htb in_Mo ty_Mo ty_Mo_ok nm_Mo hown hK hP hD hS 0 rfl rfl 15 (by decide) (htb _ L_Mo_208) (fun _ h9 => h9) rfl (by decide +kernel) rfl rfl (Nat.le_of_ble_eq_true rfl) d_Mo_next_33 (fun H locs hP hD hS => ?_)
      obtain ⟨t_55, et_55, h⟩ := letS_el h
      have hP : va_P (gD g) vwCl ((pic_Mo g a_t t_55 tL)) H := by rw [et_55]; exact hP
      have hD : va_D A ((pic_Mo g a_t t_55 tL)) := by rw [et_55]; exact hD
      refine lv_aload_n hx hb d_Mo_next_36 rfl (lv_at hl 0 rfl) ?_
      refine lv_aload_n hx hb d_Mo_next_37 rfl (lv_at hl 0 rfl) ?_
      refine va_get (D := gD g) (ci := 8) (v := .int (t_55 8 0)) (C := R_Mo) (T := T_Mo) (N := 64) hx hb htb in_Mo hown hK hP 0 rfl rfl 8 (by decide) (htb _ L_Mo_199) (fun _ h9 => h9) rfl d_Mo_next_38 ?_
      obtain ⟨r56, hr56, h⟩ := Option.bind_eq_some_iff.mp h
      refine cl_Ir hP hS hA (va_runV (As := [.int (t_55 8 0)]) (rest := []) ⟨hx, hb, hml, hown, htb⟩ (c_Mo_see l g F a_t t_55 tL (t_55 8 0) _ hr56 H.size) (cw_V htb mb_Mo_see (htb _ L_Mo_160) rfl rfl ⟨Nat.le_of_ble_eq_true rfl, Nat.le_of_ble_eq_true rfl⟩) (pre_V (va_recv hK hP (ci := 8) (q0 := 0) rfl rfl) (pre_S [0, 1, 2, 3, 4, 5, 6, 7, 8, 9, 10, 11, 12, 13, 14, 15, 16, 17, 18, 19, 20, 21, 22, 23, 24, 25, 26, 27, 28, 29, 30, 31, 32] rfl rfl hP hD hS hA hAA hG)) rfl rfl hl.1 rfl (lv_room (Nat.le_of_ble_eq_true rfl)) d_Mo_next_41 ⟨Nat.zero_le _, Nat.zero_le _⟩) (fun H locs hP hS => ?_)
      refine lv_istore_n (lv' := [(1, .int r56), (0, .ref (a_t 0))]) hx hb d_Mo_next_44 rfl hl (by decide) rfl (fun ls hl => ?_)
      refine lv_iload_n hx hb d_Mo_next_45 rfl (lv_at hl 0 rfl) ?_
      refine lv_iconst (v := -1) hx hb d_Mo_next_46 (by decide) ?_
      refine lv_icmp_ne (tgt := 58) hx hb d_Mo_next_47 (by decide) (fun c57 => ?_) (fun c57 => ?_)
      · replace h := (if_neg c57).symm.trans h
        refine lv_iload_n hx hb d_Mo_next_58 rfl (lv_at hl 0 rfl) ?_
        refine lv_bipush (v := 40) hx hb d_Mo_next_59 (by decide) ?_
        refine lv_icmp_eq (tgt := 70) hx hb d_Mo_next_61 (by decide) (fun c58 => ?_) (fun c58 => ?_)
        · replace h := (if_pos c58).symm.trans h
          exact k_Mo_next_70 hC _ _ _ _ h _ _ _ hP hD hS (lv_sub hl [1, 0] rfl)
        · replace h := (if_neg c58).symm.trans h
          refine lv_iload_n hx hb d_Mo_next_64 rfl (lv_at hl 0 rfl) ?_
          refine lv_bipush (v := 41) hx hb d_Mo_next_65 (by decide) ?_
          refine lv_icmp_ne (tgt := 99) hx hb d_Mo_next_67 (by decide) (fun c59 => ?_) (fun c59 => ?_)
          · replace h := (if_neg c59).symm.trans h
            refine lv_iload_n hx hb d_Mo_next_99 rfl (lv_at hl 0 rfl) ?_
            refine lv_bipush (v := 34) hx hb d_Mo_next_100 (by decide) ?_
            refine lv_icmp_ne (tgt := 119) hx hb d_Mo_next_102 (by decide) (fun c60 => ?_) (fun c60 => ?_)
            · replace h := (if_neg c60).symm.trans h
              refine lv_iload_n hx hb d_Mo_next_119 rfl (lv_at hl 0 rfl) ?_
              obtain ⟨r61, hr61, h⟩ := Option.bind_eq_some_iff.mp h
              refine cl_Ir hP hS hA (va_runS (As := [.int r56]) (rest := []) ⟨hx, hb, hml, hown, htb⟩ (c_Mo_isPart l g F r56 _ hr61 H.size) (cw_S htb mb_Mo_isPart (htb _ L_Mo_164) rfl rfl ⟨Nat.le_of_ble_eq_true rfl, Nat.le_of_ble_eq_true rfl⟩) (pre_S [] rfl rfl hP hD hS hA hAA hG) rfl rfl hl.1 rfl (lv_room (Nat.le_of_ble_eq_true rfl)) d_Mo_next_120 ⟨Nat.zero_le _, Nat.zero_le _⟩) (fun H locs hP hS => ?_)
              refine lv_if_ne (tgt := 138) hx hb d_Mo_next_123 (by decide) (fun c62 => ?_) (fun c62 => ?_)
              · replace h := (if_neg c62).symm.trans h
                refine lv_aload_n hx hb d_Mo_next_138 rfl (lv_at hl 1 rfl) ?_
                refine lv_aload_n hx hb d_Mo_next_139 rfl (lv_at hl 1 rfl) ?_
                refine va_get (D := gD g) (ci := 8) (v := .int (t_55 8 0)) (C := R_Mo) (T := T_Mo) (N := 64) hx hb htb in_Mo hown hK hP 0 rfl rfl 8 (by decide) (htb _ L_Mo_199) (fun _ h9 => h9) rfl d_Mo_next_140 ?_
                obtain ⟨r63, hr63, h⟩ := Option.bind_eq_some_iff.mp h
                refine cl_Ir hP hS hA (va_runV (As := [.int (t_55 8 0)]) (rest := []) ⟨hx, hb, hml, hown, htb⟩ (c_Mo_runEnd l g F a_t t_55 tL (t_55 8 0) _ hr63 H.size) (cw_V htb mb_Mo_runEnd (htb _ L_Mo_202) rfl rfl ⟨Nat.le_of_ble_eq_true rfl, Nat.le_of_ble_eq_true rfl⟩) (pre_V (va_recv hK hP (ci := 8) (q0 := 0) rfl rfl) (pre_S [0, 1, 2, 3, 4, 5, 6, 7, 8, 9, 10, 11, 12, 13, 14, 15, 16, 17, 18, 19, 20, 21, 22, 23, 24, 25, 26, 27, 28, 29, 30, 31, 32] rfl rfl hP hD hS hA hAA hG)) rfl rfl hl.1 rfl (lv_room (Nat.le_of_ble_eq_true rfl)) d_Mo_next_143 ⟨Nat.zero_le _, Nat.zero_le _⟩) (fun H locs hP hS => ?_)
                refine lv_istore_n (lv' := [(2, .int r63), (1, .int r56), (0, .ref (a_t 0))]) hx hb d_Mo_next_146 rfl hl (by decide) rfl (fun ls hl => ?_)
                refine lv_aload_n hx hb d_Mo_next_147 rfl (lv_at hl 2 rfl) ?_
                refine lv_aload_n hx hb d_Mo_next_148 rfl (lv_at hl 2 rfl) ?_
                refine va_get (D := gD g) (ci := 8) (v := .int (t_55 8 0)) (C := R_Mo) (T := T_Mo) (N := 64) hx hb htb in_Mo hown hK hP 0 rfl rfl 8 (by decide) (htb _ L_Mo_199) (fun _ h9 => h9) rfl d_Mo_next_149 ?_
                refine lv_iload_n hx hb d_Mo_next_152 rfl (lv_at hl 0 rfl) ?_
                obtain ⟨r64, hr64, h⟩ := Option.bind_eq_some_iff.mp h
                refine cl_Ir hP hS hA (va_runV (As := [.int (t_55 8 0), .int r63]) (rest := []) ⟨hx, hb, hml, hown, htb⟩ (c_Mo_isLetters l g F a_t t_55 tL (t_55 8 0) r63 _ hr64 H.size) (cw_V htb mb_Mo_isLetters (htb _ L_Mo_220) rfl rfl ⟨Nat.le_of_ble_eq_true rfl, Nat.le_of_ble_eq_true rfl⟩) (pre_V (va_recv hK hP (ci := 8) (q0 := 0) rfl rfl) (pre_S [0, 1, 2, 3, 4, 5, 6, 7, 8, 9, 10, 11, 12, 13, 14, 15, 16, 17, 18, 19, 20, 21, 22, 23, 24, 25, 26, 27, 28, 29, 30, 31, 32] rfl rfl hP hD hS hA hAA hG)) rfl rfl hl.1 rfl (lv_room (Nat.le_of_ble_eq_true rfl)) d_Mo_next_153 ⟨Nat.zero_le _, Nat.zero_le _⟩) (fun H locs hP hS => ?_)
                refine lv_if_eq (tgt := 173) hx hb d_Mo_next_156 (by decide) (fun c65 => ?_) (fun c65 => ?_)
                · replace h := (if_pos c65).symm.trans h
                  exact k_Mo_next_173 hC _ _ _ _ h _ _ _ hP hD hS (lv_sub hl [2, 0] rfl)
                · replace h := (if_neg c65).symm.trans h
                  refine lv_aload_n hx hb d_Mo_next_159 rfl (lv_at hl 2 rfl) ?_
                  refine lv_iload_n hx hb d_Mo_next_160 rfl (lv_at hl 0 rfl) ?_
                  obtain ⟨r66, hr66, h⟩ := Option.bind_eq_some_iff.mp h
                  refine cl_Ir hP hS hA (va_runV (As := [.int r63]) (rest := []) ⟨hx, hb, hml, hown, htb⟩ (c_Mo_see l g F a_t t_55 tL r63 _ hr66 H.size) (cw_V htb mb_Mo_see (htb _ L_Mo_160) rfl rfl ⟨Nat.le_of_ble_eq_true rfl, Nat.le_of_ble_eq_true rfl⟩) (pre_V (va_recv hK hP (ci := 8) (q0 := 0) rfl rfl) (pre_S [0, 1, 2, 3, 4, 5, 6, 7, 8, 9, 10, 11, 12, 13, 14, 15, 16, 17, 18, 19, 20, 21, 22, 23, 24, 25, 26, 27, 28, 29, 30, 31, 32] rfl rfl hP hD hS hA hAA hG)) rfl rfl hl.1 rfl (lv_room (Nat.le_of_ble_eq_true rfl)) d_Mo_next_161 ⟨Nat.zero_le _, Nat.zero_le _⟩) (fun H locs hP hS => ?_)
                  refine lv_bipush (v := 58) hx hb d_Mo_next_164 (by decide) ?_
                  refine lv_icmp_ne (tgt := 173) hx hb d_Mo_next_166 (by decide) (fun c67 => ?_) (fun c67 => ?_)
                  · replace h := (if_neg c67).symm.trans h
                    exact k_Mo_next_173 hC _ _ _ _ h _ _ _ hP hD hS (lv_sub hl [2, 0] rfl)
                  · replace h := (if_pos c67).symm.trans h
                    refine lv_iconst (v := 1) hx hb d_Mo_next_169 (by decide) ?_
                    refine lv_goto (tgt := 174) hx hb d_Mo_next_170 (by decide) ?_
                    exact k_Mo_next_174 hC _ _ _ _ _ h _ _ _ hP hD hS (lv_sub hl [2, 0] rfl)
              · replace h := (if_pos c62).symm.trans h
                refine lv_aload_n hx hb d_Mo_next_126 rfl (lv_at hl 1 rfl) ?_
                refine lv_iconst (v := 2) hx hb d_Mo_next_127 (by decide) ?_
                refine lv_aload_n hx hb d_Mo_next_128 rfl (lv_at hl 1 rfl) ?_
                refine va_get (D := gD g) (ci := 8) (v := .int (t_55 8 0)) (C := R_Mo) (T := T_Mo) (N := 64) hx hb htb in_Mo hown hK hP 0 rfl rfl 8 (by decide) (htb _ L_Mo_199) (fun _ h9 => h9) rfl d_Mo_next_129 ?_
                obtain ⟨r68, hr68, h⟩ := Option.bind_eq_some_iff.mp h
                refine cl_V (wr := []) [0, 1, 2, 3, 4, 5, 6, 7, 8, 9, 10, 11, 12, 13, 14, 15, 16, 17, 18, 19, 20, 21, 22, 23, 24, 25, 26, 27, 28, 29, 30, 31, 32] [] rfl rfl rfl (by decide) hP hD hS hA (va_runV (As := [.int (2 : Int32), .int (t_55 8 0)]) (rest := []) ⟨hx, hb, hml, hown, htb⟩ (c_Mo_fail l g F a_t t_55 tL (2 : Int32) (t_55 8 0) _ hr68 H.size) (cw_V htb mb_Mo_fail (htb _ L_Mo_217) rfl rfl ⟨Nat.le_of_ble_eq_true rfl, Nat.le_of_ble_eq_true rfl⟩) (pre_V (va_recv hK hP (ci := 8) (q0 := 0) rfl rfl) (pre_S [0, 1, 2, 3, 4, 5, 6, 7, 8, 9, 10, 11, 12, 13, 14, 15, 16, 17, 18, 19, 20, 21, 22, 23, 24, 25, 26, 27, 28, 29, 30, 31, 32] rfl rfl hP hD hS hA hAA hG)) rfl rfl hl.1 rfl (lv_room (Nat.le_of_ble_eq_true rfl)) d_Mo_next_132 ⟨Nat.zero_le _, Nat.zero_le _⟩) (fun H locs hP hD hS => ?_)
                have hP : va_P (gD g) vwCl ((pic_Mo g a_t r68.1 r68.2)) H := hP.sub [0, 1, 2, 3, 4, 5, 6, 7, 8, 9, 10, 11, 12, 13, 14, 15, 16, 17, 18, 19, 20, 21, 22, 23, 24, 25, 26, 27, 28, 29, 30, 31, 32] rfl
                have hD : va_D A ((pic_Mo g a_t r68.1 r68.2)) := hD.sub [0, 1, 2, 3, 4, 5, 6, 7, 8, 9, 10, 11, 12, 13, 14, 15, 16, 17, 18, 19, 20, 21, 22, 23, 24, 25, 26, 27, 28, 29, 30, 31, 32] rfl rfl
                refine lv_goto (tgt := 260) hx hb d_Mo_next_135 (by decide) ?_
                cases h
                exact W.vret hx hb hr (fun t ht hW => ⟨⟨(), rfl, trivial, by rw [ht]; exact hP, hD⟩, hS.F ht⟩) hS.2.2 d_Mo_next_260
            · replace h := (if_pos c60).symm.trans h
              refine lv_aload_n hx hb d_Mo_next_105 rfl (lv_at hl 1 rfl) ?_
              refine lv_bipush (v := 7) hx hb d_Mo_next_106 (by decide) ?_
              refine va_put (D := gD g) (ci := 8) (v := .int (7 : Int32)) (ty := .int) (C := R_Mo) (T := T_Mo) (N := 64) hx hb htb in_Mo ty_Mo ty_Mo_ok nm_Mo hown hK hP hD hS 0 rfl rfl 14 (by decide) (htb _ L_Mo_211) (fun _ h9 => h9) rfl (by decide +kernel) rfl rfl (Nat.le_of_ble_eq_true rfl) d_Mo_next_108 (fun H locs hP hD hS => ?_)
              obtain ⟨t_69, et_69, h⟩ := letS_el h
              have hP : va_P (gD g) vwCl ((pic_Mo g a_t t_69 tL)) H := by rw [et_69]; exact hP
              have hD : va_D A ((pic_Mo g a_t t_69 tL)) := by rw [et_69]; exact hD
              refine lv_aload_n hx hb d_Mo_next_111 rfl (lv_at hl 1 rfl) ?_
              refine lv_iconst (v := 0) hx hb d_Mo_next_112 (by decide) ?_
              refine va_put (D := gD g) (ci := 8) (v := .int (0 : Int32)) (ty := .int) (C := R_Mo) (T := T_Mo) (N := 64) hx hb htb in_Mo ty_Mo ty_Mo_ok nm_Mo hown hK hP hD hS 0 rfl rfl 16 (by decide) (htb _ L_Mo_214) (fun _ h9 => h9) rfl (by decide +kernel) rfl rfl (Nat.le_of_ble_eq_true rfl) d_Mo_next_113 (fun H locs hP hD hS => ?_)
              obtain ⟨t_70, et_70, h⟩ := letS_el h
              have hP : va_P (gD g) vwCl ((pic_Mo g a_t t_70 tL)) H := by rw [et_70]; exact hP
              have hD : va_D A ((pic_Mo g a_t t_70 tL)) := by rw [et_70]; exact hD
              refine lv_goto (tgt := 260) hx hb d_Mo_next_116 (by decide) ?_
              cases h
              exact W.vret hx hb hr (fun t ht hW => ⟨⟨(), rfl, trivial, by rw [ht]; exact hP, hD⟩, hS.F ht⟩) hS.2.2 d_Mo_next_260
          · replace h := (if_pos c59).symm.trans h
            exact k_Mo_next_70 hC _ _ _ _ h _ _ _ hP hD hS (lv_sub hl [1, 0] rfl)
      · replace h := (if_pos c57).symm.trans h
        refine lv_aload_n hx hb d_Mo_next_50 rfl (lv_at hl 1 rfl) ?_
        refine lv_iconst (v := 0) hx hb d_Mo_next_51 (by decide) ?_
        refine va_put (D := gD g) (ci := 8) (v := .int (0 : Int32)) (ty := .int) (C := R_Mo) (T := T_Mo) (N := 64) hx hb htb in_Mo ty_Mo ty_Mo_ok nm_Mo hown hK hP hD hS 0 rfl rfl 14 (by decide) (htb _ L_Mo_211) (fun _ h9 => h9) rfl (by decide +kernel) rfl rfl (Nat.le_of_ble_eq_true rfl) d_Mo_next_52 (fun H locs hP hD hS => ?_)
        obtain ⟨t_71, et_71, h⟩ := letS_el h
        have hP : va_P (gD g) vwCl ((pic_Mo g a_t t_71 tL)) H := by rw [et_71]; exact hP
        have hD : va_D A ((pic_Mo g a_t t_71 tL)) := by rw [et_71]; exact hD
        refine lv_goto (tgt := 260) hx hb d_Mo_next_55 (by decide) ?_
        cases h
        exact W.vret hx hb hr (fun t ht hW => ⟨⟨(), rfl, trivial, by rw [ht]; exact hP, hD⟩, hS.F ht⟩) hS.2.2 d_Mo_next_260
    · replace h := (if_neg c54).symm.trans h
      refine lv_aload_n hx hb d_Mo_next_15 rfl (lv_at hl 0 rfl) ?_
      refine lv_dup hx hb d_Mo_next_16 rfl ?_
      refine va_get (D := gD g) (ci := 8) (v := .int (t 8 0)) (C := R_Mo) (T := T_Mo) (N := 64) hx hb htb in_Mo hown hK hP 0 rfl rfl 8 (by decide) (htb _ L_Mo_199) (fun _ h9 => h9) rfl d_Mo_next_17 ?_
      refine lv_iconst (v := 1) hx hb d_Mo_next_20 (by decide) ?_
      refine lv_iadd hx hb d_Mo_next_21 ?_
      refine va_put (D := gD g) (ci := 8) (v := .int ((t 8 0) + (1 : Int32))) (ty := .int) (C := R_Mo) (T := T_Mo) (N := 64) hx hb htb in_Mo ty_Mo ty_Mo_ok nm_Mo hown hK hP hD hS 0 rfl rfl 8 (by decide) (htb _ L_Mo_199) (fun _ h9 => h9) rfl (by decide +kernel) rfl rfl (Nat.le_of_ble_eq_true rfl) d_Mo_next_22 (fun H locs hP hD hS => ?_)
      obtain ⟨t_72, et_72, h⟩ := letS_el h
      have hP : va_P (gD g) vwCl ((pic_Mo g a_t t_72 tL)) H := by rw [et_72]; exact hP
      have hD : va_D A ((pic_Mo g a_t t_72 tL)) := by rw [et_72]; exact hD
      refine lv_goto (tgt := 0) hx hb d_Mo_next_25 (by decide) ?_
      exact ih _ _ _ h _ _ _ hP hD hS (lv_sub hl [0] rfl)
set_option maxHeartbeats 4000000 in
set_option maxRecDepth 100000 in
theorem k_Mo_next {p : Program} {l : Launch} {e : Env} {s : State} {m : MethodId} {args : Array Value} {below : List Frame} {meth : Method} {c : Code} {g : Gz} {A : Nat → Prop} {F : Nat} {a_t : Nat → Nat} (hC : Cx prog_10_method_19_code 5 none R_Mo p s m args meth c g A A) : ∀ (t : StI) (tL : StL) (res : StI × StL), Mo_next F t tL = some res → Go p l e rm_Mo_next s m args below meth c g A A 5 (MQ below (EV g ((pic_Mo g a_t res.1 res.2)) A) args s 0 0 A) ((pic_Mo g a_t t tL)) [(0, .ref (a_t 0))] 0 [] := by
  obtain ⟨hx, hb, hr, hml, hown, htb, hlocks, hA, hAA, hG⟩ := id hC
  have hK := hG.1
  intro t tL res h H locs ls hP hD hS hl
  rw [Mo_next] at h
  exact k_Mo_next_0 hC F _ _ _ h _ _ _ hP hD hS (lv_sub hl [0] rfl)
theorem c_Mo_next (l : Launch) (g : Gz) (F : Nat) (a_t : Nat → Nat) (t : StI) (tL : StL) (res : StI × StL) (h : Mo_next F t tL = some res) : ∀ sz : Nat, Met l y_Mo_next (.code y_Mo_next prog_10_method_19_code 5 none :: TBL) rm_Mo_next (va_Pc [.ref (a_t 0)] (Pre0 g ((pic_Mo g a_t t tL)) sz)) (EV g ((pic_Mo g a_t res.1 res.2)) (va_A ((pic_Mo g a_t t tL)) sz)) 0 0 (va_A ((pic_Mo g a_t t tL)) sz) :=
  ct_w (Qc := fun A => EV g ((pic_Mo g a_t res.1 res.2)) A) (by decide) (Nat.le_of_ble_eq_true rfl) (fun p e s m args below meth c A hC => k_Mo_next hC t tL res h)
def Mo_isTag_67 (F : Nat) (k17 : StI → StL → Int32 → Int32 → Int32 → Option (Int32)) (t : StI) (tL : StL) (x2 : Int32) (x4 : Int32) (y0 : Int32) : Option (Int32) := k17 t tL x2 y0 (x4 + (1 : Int32))
def Mo_isTag_66 (F : Nat) (k17 : StI → StL → Int32 → Int32 → Int32 → Option (Int32)) (t : StI) (tL : StL) (x2 : Int32) (x4 : Int32) : Option (Int32) := Mo_isTag_67 F k17 t tL x2 x4 (0 : Int32)
def Mo_isTag_62 (F : Nat) (k17 : StI → StL → Int32 → Int32 → Int32 → Option (Int32)) (t : StI) (tL : StL) (x2 : Int32) (x4 : Int32) : Option (Int32) := Mo_isTag_67 F k17 t tL x2 x4 (1 : Int32)
def Mo_isTag_17 (F : Nat) : Nat → StI → StL → Int32 → Int32 → Int32 → Option (Int32)
  | 0, _, _, _, _, _ => none
  | n + 1, t, tL, x2, x3, x4 => if x2 ≤ x4 then if x3 = 0 ∨ x3 = 1 then some x3 else none else if x3 = 0 then Mo_isTag_66 F (Mo_isTag_17 F n) t tL x2 x4 else (Mo_see F t tL x4).bind fun r16 => (Mo_isSmall F r16).bind fun r17 => if r17 = 0 then (Mo_see F t tL x4).bind fun r19 => (Mo_isDigit F r19).bind fun r20 => if r20 = 0 then (Mo_see F t tL x4).bind fun r22 => if r22 = (45 : Int32) then Mo_isTag_62 F (Mo_isTag_17 F n) t tL x2 x4 else Mo_isTag_66 F (Mo_isTag_17 F n) t tL x2 x4 else Mo_isTag_62 F (Mo_isTag_17 F n) t tL x2 x4 else Mo_isTag_62 F (Mo_isTag_17 F n) t tL x2 x4
def Mo_isTag_13 (F : Nat) (t : StI) (tL : StL) (x1 : Int32) (x2 : Int32) (y0 : Int32) : Option (Int32) := Mo_isTag_17 F F t tL x2 y0 x1
def Mo_isTag (F : Nat) (t : StI) (tL : StL) (x1 : Int32) (x2 : Int32) : Option (Int32) := if (17 : Int32) ≤ (x2 - x1) then Mo_isTag_13 F t tL x1 x2 (0 : Int32) else Mo_isTag_13 F t tL x1 x2 (1 : Int32)
set_option maxHeartbeats 4000000 in
set_option maxRecDepth 100000 in
theorem k_Mo_isTag_67 {p : Program} {l : Launch} {e : Env} {s : State} {m : MethodId} {args : Array Value} {below : List Frame} {meth : Method} {c : Code} {g : Gz} {A2 A : Nat → Prop} {F : Nat} {a_t : Nat → Nat} {k17 : StI → StL → Int32 → Int32 → Int32 → Option (Int32)} (hC : Cx prog_10_method_20_code 5 (some .boolean) R_Mo p s m args meth c g A2 A) : ∀ (t : StI) (tL : StL) (x2 : Int32) (x4 : Int32) (y0 : Int32) (res : Int32), Mo_isTag_67 F k17 t tL x2 x4 y0 = some res → (∀ (t : StI) (tL : StL) (x2 : Int32) (x3 : Int32) (x4 : Int32), k17 t tL x2 x3 x4 = some res → Go p l e rm_Mo_isTag s m args below meth c g A2 A 5 (MQ below (RI res A) args s 0 0 A) ((pic_Mo g a_t t tL)) [(0, .ref (a_t 0)), (2, .int x2), (3, .int x3), (4, .int x4)] 17 []) → Go p l e rm_Mo_isTag s m args below meth c g A2 A 5 (MQ below (RI res A) args s 0 0 A) ((pic_Mo g a_t t tL)) [(0, .ref (a_t 0)), (2, .int x2), (4, .int x4)] 67 [.int y0] := by
  obtain ⟨hx, hb, hr, hml, hown, htb, hlocks, hA, hAA, hG⟩ := id hC
  have hK := hG.1
  intro t tL x2 x4 y0 res h hk17 H locs ls hP hD hS hl
  rw [Mo_isTag_67] at h
  refine lv_istore_n (lv' := [(3, .int y0), (0, .ref (a_t 0)), (2, .int x2), (4, .int x4)]) hx hb d_Mo_isTag_67 rfl hl (by decide) rfl (fun ls hl => ?_)
  refine lv_iinc (v := (x4 + (1 : Int32))) (lv' := [(4, .int (x4 + (1 : Int32))), (3, .int y0), (0, .ref (a_t 0)), (2, .int x2)]) hx hb d_Mo_isTag_68 hl (k := 3) rfl rfl (by decide) rfl (fun ls hl => ?_)
  refine lv_goto (tgt := 17) hx hb d_Mo_isTag_71 (by decide) ?_
  exact hk17 _ _ _ _ _ h _ _ _ hP hD hS (lv_sub hl [2, 3, 1, 0] rfl)
set_option maxHeartbeats 4000000 in
set_option maxRecDepth 100000 in
theorem k_Mo_isTag_66 {p : Program} {l : Launch} {e : Env} {s : State} {m : MethodId} {args : Array Value} {below : List Frame} {meth : Method} {c : Code} {g : Gz} {A2 A : Nat → Prop} {F : Nat} {a_t : Nat → Nat} {k17 : StI → StL → Int32 → Int32 → Int32 → Option (Int32)} (hC : Cx prog_10_method_20_code 5 (some .boolean) R_Mo p s m args meth c g A2 A) : ∀ (t : StI) (tL : StL) (x2 : Int32) (x4 : Int32) (res : Int32), Mo_isTag_66 F k17 t tL x2 x4 = some res → (∀ (t : StI) (tL : StL) (x2 : Int32) (x3 : Int32) (x4 : Int32), k17 t tL x2 x3 x4 = some res → Go p l e rm_Mo_isTag s m args below meth c g A2 A 5 (MQ below (RI res A) args s 0 0 A) ((pic_Mo g a_t t tL)) [(0, .ref (a_t 0)), (2, .int x2), (3, .int x3), (4, .int x4)] 17 []) → Go p l e rm_Mo_isTag s m args below meth c g A2 A 5 (MQ below (RI res A) args s 0 0 A) ((pic_Mo g a_t t tL)) [(0, .ref (a_t 0)), (2, .int x2), (4, .int x4)] 66 [] := by
  obtain ⟨hx, hb, hr, hml, hown, htb, hlocks, hA, hAA, hG⟩ := id hC
  have hK := hG.1
  intro t tL x2 x4 res h hk17 H locs ls hP hD hS hl
  rw [Mo_isTag_66] at h
  refine lv_iconst (v := 0) hx hb d_Mo_isTag_66 (by decide) ?_
  exact k_Mo_isTag_67 hC _ _ _ _ _ _ h hk17 _ _ _ hP hD hS (lv_sub hl [0, 1, 2] rfl)
set_option maxHeartbeats 4000000 in
set_option maxRecDepth 100000 in
theorem k_Mo_isTag_62 {p : Program} {l : Launch} {e : Env} {s : State} {m : MethodId} {args : Array Value} {below : List Frame} {meth : Method} {c : Code} {g : Gz} {A2 A : Nat → Prop} {F : Nat} {a_t : Nat → Nat} {k17 : StI → StL → Int32 → Int32 → Int32 → Option (Int32)} (hC : Cx prog_10_method_20_code 5 (some .boolean) R_Mo p s m args meth c g A2 A) : ∀ (t : StI) (tL : StL) (x2 : Int32) (x4 : Int32) (res : Int32), Mo_isTag_62 F k17 t tL x2 x4 = some res → (∀ (t : StI) (tL : StL) (x2 : Int32) (x3 : Int32) (x4 : Int32), k17 t tL x2 x3 x4 = some res → Go p l e rm_Mo_isTag s m args below meth c g A2 A 5 (MQ below (RI res A) args s 0 0 A) ((pic_Mo g a_t t tL)) [(0, .ref (a_t 0)), (2, .int x2), (3, .int x3), (4, .int x4)] 17 []) → Go p l e rm_Mo_isTag s m args below meth c g A2 A 5 (MQ below (RI res A) args s 0 0 A) ((pic_Mo g a_t t tL)) [(0, .ref (a_t 0)), (2, .int x2), (4, .int x4)] 62 [] := by
  obtain ⟨hx, hb, hr, hml, hown, htb, hlocks, hA, hAA, hG⟩ := id hC
  have hK := hG.1
  intro t tL x2 x4 res h hk17 H locs ls hP hD hS hl
  rw [Mo_isTag_62] at h
  refine lv_iconst (v := 1) hx hb d_Mo_isTag_62 (by decide) ?_
  refine lv_goto (tgt := 67) hx hb d_Mo_isTag_63 (by decide) ?_
  exact k_Mo_isTag_67 hC _ _ _ _ _ _ h hk17 _ _ _ hP hD hS (lv_sub hl [0, 1, 2] rfl)
set_option maxHeartbeats 4000000 in
set_option maxRecDepth 100000 in
theorem k_Mo_isTag_17 {p : Program} {l : Launch} {e : Env} {s : State} {m : MethodId} {args : Array Value} {below : List Frame} {meth : Method} {c : Code} {g : Gz} {A2 A : Nat → Prop} {F : Nat} {a_t : Nat → Nat} (hC : Cx prog_10_method_20_code 5 (some .boolean) R_Mo p s m args meth c g A2 A) : ∀ (n : Nat) (t : StI) (tL : StL) (x2 : Int32) (x3 : Int32) (x4 : Int32) (res : Int32), Mo_isTag_17 F n t tL x2 x3 x4 = some res → Go p l e rm_Mo_isTag s m args below meth c g A2 A 5 (MQ below (RI res A) args s 0 0 A) ((pic_Mo g a_t t tL)) [(0, .ref (a_t 0)), (2, .int x2), (3, .int x3), (4, .int x4)] 17 [] := by
  obtain ⟨hx, hb, hr, hml, hown, htb, hlocks, hA, hAA, hG⟩ := id hC
  have hK := hG.1
  intro n
  induction n with
  | zero => intro t tL x2 x3 x4 res h; rw [Mo_isTag_17] at h; cases h
  | succ n ih =>
    intro t tL x2 x3 x4 res h H locs ls hP hD hS hl
    rw [Mo_isTag_17] at h
    refine lv_iload hx hb d_Mo_isTag_17 (lv_at hl 3 rfl) ?_
    refine lv_iload_n hx hb d_Mo_isTag_19 rfl (lv_at hl 1 rfl) ?_
    refine lv_icmp_ge (tgt := 74) hx hb d_Mo_isTag_20 (by decide) (fun c13 => ?_) (fun c13 => ?_)
    · replace h := (if_pos c13).symm.trans h
      refine lv_iload_n hx hb d_Mo_isTag_74 rfl (lv_at hl 2 rfl) ?_
      by_cases c14 : (x3 = 0 ∨ x3 = 1)
      rotate_left
      · replace h := (if_neg c14).symm.trans h
        cases h
      replace h := (if_pos c14).symm.trans h
      cases h
      exact W.zret hx hb hr (by rcases c14 with c14 | c14 <;> rw [c14] <;> rfl) (fun t ht hW => ⟨⟨_, (), rfl, rfl, trivial⟩, hS.F ht⟩) hS.2.2 d_Mo_isTag_75
    · replace h := (if_neg c13).symm.trans h
      refine lv_iload_n hx hb d_Mo_isTag_23 rfl (lv_at hl 2 rfl) ?_
      refine lv_if_eq (tgt := 66) hx hb d_Mo_isTag_24 (by decide) (fun c15 => ?_) (fun c15 => ?_)
      · replace h := (if_pos c15).symm.trans h
        exact k_Mo_isTag_66 hC _ _ _ _ _ h (fun z0 z1 z2 z3 z4 hz => ih z0 z1 z2 z3 z4 _ hz) _ _ _ hP hD hS (lv_sub hl [0, 1, 3] rfl)
      · replace h := (if_neg c15).symm.trans h
        refine lv_aload_n hx hb d_Mo_isTag_27 rfl (lv_at hl 0 rfl) ?_
        refine lv_iload hx hb d_Mo_isTag_28 (lv_at hl 3 rfl) ?_
        obtain ⟨r16, hr16, h⟩ := Option.bind_eq_some_iff.mp h
        refine cl_Ir hP hS hA (va_runV (As := [.int x4]) (rest := []) ⟨hx, hb, hml, hown, htb⟩ (c_Mo_see l g F a_t t tL x4 _ hr16 H.size) (cw_V htb mb_Mo_see (htb _ L_Mo_160) rfl rfl ⟨Nat.le_of_ble_eq_true rfl, Nat.le_of_ble_eq_true rfl⟩) (pre_V (va_recv hK hP (ci := 8) (q0 := 0) rfl rfl) (pre_S [0, 1, 2, 3, 4, 5, 6, 7, 8, 9, 10, 11, 12, 13, 14, 15, 16, 17, 18, 19, 20, 21, 22, 23, 24, 25, 26, 27, 28, 29, 30, 31, 32] rfl rfl hP hD hS hA hAA hG)) rfl rfl hl.1 rfl (lv_room (Nat.le_of_ble_eq_true rfl)) d_Mo_isTag_30 ⟨Nat.zero_le _, Nat.zero_le _⟩) (fun H locs hP hS => ?_)
        obtain ⟨r17, hr17, h⟩ := Option.bind_eq_some_iff.mp h
        refine cl_Ir hP hS hA (va_runS (As := [.int r16]) (rest := []) ⟨hx, hb, hml, hown, htb⟩ (c_Mo_isSmall l g F r16 _ hr17 H.size) (cw_S htb mb_Mo_isSmall (htb _ L_Mo_168) rfl rfl ⟨Nat.le_of_ble_eq_true rfl, Nat.le_of_ble_eq_true rfl⟩) (pre_S [] rfl rfl hP hD hS hA hAA hG) rfl rfl hl.1 rfl (lv_room (Nat.le_of_ble_eq_true rfl)) d_Mo_isTag_33 ⟨Nat.zero_le _, Nat.zero_le _⟩) (fun H locs hP hS => ?_)
        refine lv_if_ne (tgt := 62) hx hb d_Mo_isTag_36 (by decide) (fun c18 => ?_) (fun c18 => ?_)
        · replace h := (if_neg c18).symm.trans h
          exact k_Mo_isTag_62 hC _ _ _ _ _ h (fun z0 z1 z2 z3 z4 hz => ih z0 z1 z2 z3 z4 _ hz) _ _ _ hP hD hS (lv_sub hl [0, 1, 3] rfl)
        · replace h := (if_pos c18).symm.trans h
          refine lv_aload_n hx hb d_Mo_isTag_39 rfl (lv_at hl 0 rfl) ?_
          refine lv_iload hx hb d_Mo_isTag_40 (lv_at hl 3 rfl) ?_
          obtain ⟨r19, hr19, h⟩ := Option.bind_eq_some_iff.mp h
          refine cl_Ir hP hS hA (va_runV (As := [.int x4]) (rest := []) ⟨hx, hb, hml, hown, htb⟩ (c_Mo_see l g F a_t t tL x4 _ hr19 H.size) (cw_V htb mb_Mo_see (htb _ L_Mo_160) rfl rfl ⟨Nat.le_of_ble_eq_true rfl, Nat.le_of_ble_eq_true rfl⟩) (pre_V (va_recv hK hP (ci := 8) (q0 := 0) rfl rfl) (pre_S [0, 1, 2, 3, 4, 5, 6, 7, 8, 9, 10, 11, 12, 13, 14, 15, 16, 17, 18, 19, 20, 21, 22, 23, 24, 25, 26, 27, 28, 29, 30, 31, 32] rfl rfl hP hD hS hA hAA hG)) rfl rfl hl.1 rfl (lv_room (Nat.le_of_ble_eq_true rfl)) d_Mo_isTag_42 ⟨Nat.zero_le _, Nat.zero_le _⟩) (fun H locs hP hS => ?_)
          obtain ⟨r20, hr20, h⟩ := Option.bind_eq_some_iff.mp h
          refine cl_Ir hP hS hA (va_runS (As := [.int r19]) (rest := []) ⟨hx, hb, hml, hown, htb⟩ (c_Mo_isDigit l g F r19 _ hr20 H.size) (cw_S htb mb_Mo_isDigit (htb _ L_Mo_231) rfl rfl ⟨Nat.le_of_ble_eq_true rfl, Nat.le_of_ble_eq_true rfl⟩) (pre_S [] rfl rfl hP hD hS hA hAA hG) rfl rfl hl.1 rfl (lv_room (Nat.le_of_ble_eq_true rfl)) d_Mo_isTag_45 ⟨Nat.zero_le _, Nat.zero_le _⟩) (fun H locs hP hS => ?_)
          refine lv_if_ne (tgt := 62) hx hb d_Mo_isTag_48 (by decide) (fun c21 => ?_) (fun c21 => ?_)
          · replace h := (if_neg c21).symm.trans h
            exact k_Mo_isTag_62 hC _ _ _ _ _ h (fun z0 z1 z2 z3 z4 hz => ih z0 z1 z2 z3 z4 _ hz) _ _ _ hP hD hS (lv_sub hl [0, 1, 3] rfl)
          · replace h := (if_pos c21).symm.trans h
            refine lv_aload_n hx hb d_Mo_isTag_51 rfl (lv_at hl 0 rfl) ?_
            refine lv_iload hx hb d_Mo_isTag_52 (lv_at hl 3 rfl) ?_
            obtain ⟨r22, hr22, h⟩ := Option.bind_eq_some_iff.mp h
            refine cl_Ir hP hS hA (va_runV (As := [.int x4]) (rest := []) ⟨hx, hb, hml, hown, htb⟩ (c_Mo_see l g F a_t t tL x4 _ hr22 H.size) (cw_V htb mb_Mo_see (htb _ L_Mo_160) rfl rfl ⟨Nat.le_of_ble_eq_true rfl, Nat.le_of_ble_eq_true rfl⟩) (pre_V (va_recv hK hP (ci := 8) (q0 := 0) rfl rfl) (pre_S [0, 1, 2, 3, 4, 5, 6, 7, 8, 9, 10, 11, 12, 13, 14, 15, 16, 17, 18, 19, 20, 21, 22, 23, 24, 25, 26, 27, 28, 29, 30, 31, 32] rfl rfl hP hD hS hA hAA hG)) rfl rfl hl.1 rfl (lv_room (Nat.le_of_ble_eq_true rfl)) d_Mo_isTag_54 ⟨Nat.zero_le _, Nat.zero_le _⟩) (fun H locs hP hS => ?_)
            refine lv_bipush (v := 45) hx hb d_Mo_isTag_57 (by decide) ?_
            refine lv_icmp_ne (tgt := 66) hx hb d_Mo_isTag_59 (by decide) (fun c23 => ?_) (fun c23 => ?_)
            · replace h := (if_neg c23).symm.trans h
              exact k_Mo_isTag_66 hC _ _ _ _ _ h (fun z0 z1 z2 z3 z4 hz => ih z0 z1 z2 z3 z4 _ hz) _ _ _ hP hD hS (lv_sub hl [0, 1, 3] rfl)
            · replace h := (if_pos c23).symm.trans h
              exact k_Mo_isTag_62 hC _ _ _ _ _ h (fun z0 z1 z2 z3 z4 hz => ih z0 z1 z2 z3 z4 _ hz) _ _ _ hP hD hS (lv_sub hl [0, 1, 3] rfl)
set_option maxHeartbeats 4000000 in
set_option maxRecDepth 100000 in
theorem k_Mo_isTag_13 {p : Program} {l : Launch} {e : Env} {s : State} {m : MethodId} {args : Array Value} {below : List Frame} {meth : Method} {c : Code} {g : Gz} {A2 A : Nat → Prop} {F : Nat} {a_t : Nat → Nat} (hC : Cx prog_10_method_20_code 5 (some .boolean) R_Mo p s m args meth c g A2 A) : ∀ (t : StI) (tL : StL) (x1 : Int32) (x2 : Int32) (y0 : Int32) (res : Int32), Mo_isTag_13 F t tL x1 x2 y0 = some res → Go p l e rm_Mo_isTag s m args below meth c g A2 A 5 (MQ below (RI res A) args s 0 0 A) ((pic_Mo g a_t t tL)) [(0, .ref (a_t 0)), (1, .int x1), (2, .int x2)] 13 [.int y0] := by
  obtain ⟨hx, hb, hr, hml, hown, htb, hlocks, hA, hAA, hG⟩ := id hC
  have hK := hG.1
  intro t tL x1 x2 y0 res h H locs ls hP hD hS hl
  rw [Mo_isTag_13] at h
  refine lv_istore_n (lv' := [(3, .int y0), (0, .ref (a_t 0)), (1, .int x1), (2, .int x2)]) hx hb d_Mo_isTag_13 rfl hl (by decide) rfl (fun ls hl => ?_)
  refine lv_iload_n hx hb d_Mo_isTag_14 rfl (lv_at hl 2 rfl) ?_
  refine lv_istore (lv' := [(4, .int x1), (3, .int y0), (0, .ref (a_t 0)), (1, .int x1), (2, .int x2)]) hx hb d_Mo_isTag_15 hl (by decide) rfl (fun ls hl => ?_)
  exact k_Mo_isTag_17 hC F _ _ _ _ _ _ h _ _ _ hP hD hS (lv_sub hl [2, 4, 1, 0] rfl)
set_option maxHeartbeats 4000000 in
set_option maxRecDepth 100000 in
theorem k_Mo_isTag {p : Program} {l : Launch} {e : Env} {s : State} {m : MethodId} {args : Array Value} {below : List Frame} {meth : Method} {c : Code} {g : Gz} {A2 A : Nat → Prop} {F : Nat} {a_t : Nat → Nat} (hC : Cx prog_10_method_20_code 5 (some .boolean) R_Mo p s m args meth c g A2 A) : ∀ (t : StI) (tL : StL) (x1 : Int32) (x2 : Int32) (res : Int32), Mo_isTag F t tL x1 x2 = some res → Go p l e rm_Mo_isTag s m args below meth c g A2 A 5 (MQ below (RI res A) args s 0 0 A) ((pic_Mo g a_t t tL)) [(0, .ref (a_t 0)), (1, .int x1), (2, .int x2)] 0 [] := by
  obtain ⟨hx, hb, hr, hml, hown, htb, hlocks, hA, hAA, hG⟩ := id hC
  have hK := hG.1
  intro t tL x1 x2 res h H locs ls hP hD hS hl
  rw [Mo_isTag] at h
  refine lv_iload_n hx hb d_Mo_isTag_0 rfl (lv_at hl 2 rfl) ?_
  refine lv_iload_n hx hb d_Mo_isTag_1 rfl (lv_at hl 1 rfl) ?_
  refine lv_isub hx hb d_Mo_isTag_2 ?_
  refine lv_bipush (v := 17) hx hb d_Mo_isTag_3 (by decide) ?_
  refine lv_icmp_ge (tgt := 12) hx hb d_Mo_isTag_5 (by decide) (fun c24 => ?_) (fun c24 => ?_)
  · replace h := (if_pos c24).symm.trans h
    refine lv_iconst (v := 0) hx hb d_Mo_isTag_12 (by decide) ?_
    exact k_Mo_isTag_13 hC _ _ _ _ _ _ h _ _ _ hP hD hS (lv_sub hl [0, 1, 2] rfl)
  · replace h := (if_neg c24).symm.trans h
    refine lv_iconst (v := 1) hx hb d_Mo_isTag_8 (by decide) ?_
    refine lv_goto (tgt := 13) hx hb d_Mo_isTag_9 (by decide) ?_
    exact k_Mo_isTag_13 hC _ _ _ _ _ _ h _ _ _ hP hD hS (lv_sub hl [0, 1, 2] rfl)
theorem c_Mo_isTag (l : Launch) (g : Gz) (F : Nat) (a_t : Nat → Nat) (t : StI) (tL : StL) (x1 : Int32) (x2 : Int32) (res : Int32) (h : Mo_isTag F t tL x1 x2 = some res) : ∀ sz : Nat, Met l y_Mo_isTag (.code y_Mo_isTag prog_10_method_20_code 5 (some .boolean) :: TBL) rm_Mo_isTag (va_Pc [.ref (a_t 0), .int x1, .int x2] (Pre0 g ((pic_Mo g a_t t tL)) sz)) (RI res (fun q => sz ≤ q)) 0 0 (fun q => sz ≤ q) :=
  ct_r (Qc := fun A => RI res A) (by decide) (Nat.le_of_ble_eq_true rfl) (fun p e s m args below meth c A2 A hC => k_Mo_isTag hC t tL x1 x2 res h)
def Mo_digits_2 (F : Nat) : Nat → StI → StL → Int32 → Int32 → Int32 → Option (Int32)
  | 0, _, _, _, _, _ => none
  | n + 1, t, tL, x1, x2, x3 => if x2 ≤ (x1 + x3) then some x3 else (Mo_see F t tL (x1 + x3)).bind fun r6 => (Mo_isDigit F r6).bind fun r7 => if r7 = 0 then some x3 else Mo_digits_2 F n t tL x1 x2 (x3 + (1 : Int32))
def Mo_digits (F : Nat) (t : StI) (tL : StL) (x1 : Int32) (x2 : Int32) : Option (Int32) := Mo_digits_2 F F t tL x1 x2 (0 : Int32)
set_option maxHeartbeats 4000000 in
set_option maxRecDepth 100000 in
theorem k_Mo_digits_2 {p : Program} {l : Launch} {e : Env} {s : State} {m : MethodId} {args : Array Value} {below : List Frame} {meth : Method} {c : Code} {g : Gz} {A2 A : Nat → Prop} {F : Nat} {a_t : Nat → Nat} (hC : Cx prog_10_method_21_code 4 (some .int) R_Mo p s m args meth c g A2 A) : ∀ (n : Nat) (t : StI) (tL : StL) (x1 : Int32) (x2 : Int32) (x3 : Int32) (res : Int32), Mo_digits_2 F n t tL x1 x2 x3 = some res → Go p l e rm_Mo_digits s m args below meth c g A2 A 4 (MQ below (RI res A) args s 0 0 A) ((pic_Mo g a_t t tL)) [(0, .ref (a_t 0)), (1, .int x1), (2, .int x2), (3, .int x3)] 2 [] := by
  obtain ⟨hx, hb, hr, hml, hown, htb, hlocks, hA, hAA, hG⟩ := id hC
  have hK := hG.1
  intro n
  induction n with
  | zero => intro t tL x1 x2 x3 res h; rw [Mo_digits_2] at h; cases h
  | succ n ih =>
    intro t tL x1 x2 x3 res h H locs ls hP hD hS hl
    rw [Mo_digits_2] at h
    refine lv_iload_n hx hb d_Mo_digits_2 rfl (lv_at hl 1 rfl) ?_
    refine lv_iload_n hx hb d_Mo_digits_3 rfl (lv_at hl 3 rfl) ?_
    refine lv_iadd hx hb d_Mo_digits_4 ?_
    refine lv_iload_n hx hb d_Mo_digits_5 rfl (lv_at hl 2 rfl) ?_
    refine lv_icmp_ge (tgt := 28) hx hb d_Mo_digits_6 (by decide) (fun c5 => ?_) (fun c5 => ?_)
    · replace h := (if_pos c5).symm.trans h
      refine lv_iload_n hx hb d_Mo_digits_28 rfl (lv_at hl 3 rfl) ?_
      cases h
      exact W.iret hx hb hr (fun t ht hW => ⟨⟨_, (), rfl, rfl, trivial⟩, hS.F ht⟩) hS.2.2 d_Mo_digits_29
    · replace h := (if_neg c5).symm.trans h
      refine lv_aload_n hx hb d_Mo_digits_9 rfl (lv_at hl 0 rfl) ?_
      refine lv_iload_n hx hb d_Mo_digits_10 rfl (lv_at hl 1 rfl) ?_
      refine lv_iload_n hx hb d_Mo_digits_11 rfl (lv_at hl 3 rfl) ?_
      refine lv_iadd hx hb d_Mo_digits_12 ?_
      obtain ⟨r6, hr6, h⟩ := Option.bind_eq_some_iff.mp h
      refine cl_Ir hP hS hA (va_runV (As := [.int (x1 + x3)]) (rest := []) ⟨hx, hb, hml, hown, htb⟩ (c_Mo_see l g F a_t t tL (x1 + x3) _ hr6 H.size) (cw_V htb mb_Mo_see (htb _ L_Mo_160) rfl rfl ⟨Nat.le_of_ble_eq_true rfl, Nat.le_of_ble_eq_true rfl⟩) (pre_V (va_recv hK hP (ci := 8) (q0 := 0) rfl rfl) (pre_S [0, 1, 2, 3, 4, 5, 6, 7, 8, 9, 10, 11, 12, 13, 14, 15, 16, 17, 18, 19, 20, 21, 22, 23, 24, 25, 26, 27, 28, 29, 30, 31, 32] rfl rfl hP hD hS hA hAA hG)) rfl rfl hl.1 rfl (lv_room (Nat.le_of_ble_eq_true rfl)) d_Mo_digits_13 ⟨Nat.zero_le _, Nat.zero_le _⟩) (fun H locs hP hS => ?_)
      obtain ⟨r7, hr7, h⟩ := Option.bind_eq_some_iff.mp h
      refine cl_Ir hP hS hA (va_runS (As := [.int r6]) (rest := []) ⟨hx, hb, hml, hown, htb⟩ (c_Mo_isDigit l g F r6 _ hr7 H.size) (cw_S htb mb_Mo_isDigit (htb _ L_Mo_231) rfl rfl ⟨Nat.le_of_ble_eq_true rfl, Nat.le_of_ble_eq_true rfl⟩) (pre_S [] rfl rfl hP hD hS hA hAA hG) rfl rfl hl.1 rfl (lv_room (Nat.le_of_ble_eq_true rfl)) d_Mo_digits_16 ⟨Nat.zero_le _, Nat.zero_le _⟩) (fun H locs hP hS => ?_)
      refine lv_if_eq (tgt := 28) hx hb d_Mo_digits_19 (by decide) (fun c8 => ?_) (fun c8 => ?_)
      · replace h := (if_pos c8).symm.trans h
        refine lv_iload_n hx hb d_Mo_digits_28 rfl (lv_at hl 3 rfl) ?_
        cases h
        exact W.iret hx hb hr (fun t ht hW => ⟨⟨_, (), rfl, rfl, trivial⟩, hS.F ht⟩) hS.2.2 d_Mo_digits_29
      · replace h := (if_neg c8).symm.trans h
        refine lv_iinc (v := (x3 + (1 : Int32))) (lv' := [(3, .int (x3 + (1 : Int32))), (0, .ref (a_t 0)), (1, .int x1), (2, .int x2)]) hx hb d_Mo_digits_22 hl (k := 3) rfl rfl (by decide) rfl (fun ls hl => ?_)
        refine lv_goto (tgt := 2) hx hb d_Mo_digits_25 (by decide) ?_
        exact ih _ _ _ _ _ _ h _ _ _ hP hD hS (lv_sub hl [1, 2, 3, 0] rfl)
set_option maxHeartbeats 4000000 in
set_option maxRecDepth 100000 in
theorem k_Mo_digits {p : Program} {l : Launch} {e : Env} {s : State} {m : MethodId} {args : Array Value} {below : List Frame} {meth : Method} {c : Code} {g : Gz} {A2 A : Nat → Prop} {F : Nat} {a_t : Nat → Nat} (hC : Cx prog_10_method_21_code 4 (some .int) R_Mo p s m args meth c g A2 A) : ∀ (t : StI) (tL : StL) (x1 : Int32) (x2 : Int32) (res : Int32), Mo_digits F t tL x1 x2 = some res → Go p l e rm_Mo_digits s m args below meth c g A2 A 4 (MQ below (RI res A) args s 0 0 A) ((pic_Mo g a_t t tL)) [(0, .ref (a_t 0)), (1, .int x1), (2, .int x2)] 0 [] := by
  obtain ⟨hx, hb, hr, hml, hown, htb, hlocks, hA, hAA, hG⟩ := id hC
  have hK := hG.1
  intro t tL x1 x2 res h H locs ls hP hD hS hl
  rw [Mo_digits] at h
  refine lv_iconst (v := 0) hx hb d_Mo_digits_0 (by decide) ?_
  refine lv_istore_n (lv' := [(3, .int (0 : Int32)), (0, .ref (a_t 0)), (1, .int x1), (2, .int x2)]) hx hb d_Mo_digits_1 rfl hl (by decide) rfl (fun ls hl => ?_)
  exact k_Mo_digits_2 hC F _ _ _ _ _ _ h _ _ _ hP hD hS (lv_sub hl [1, 2, 3, 0] rfl)
theorem c_Mo_digits (l : Launch) (g : Gz) (F : Nat) (a_t : Nat → Nat) (t : StI) (tL : StL) (x1 : Int32) (x2 : Int32) (res : Int32) (h : Mo_digits F t tL x1 x2 = some res) : ∀ sz : Nat, Met l y_Mo_digits (.code y_Mo_digits prog_10_method_21_code 4 (some .int) :: TBL) rm_Mo_digits (va_Pc [.ref (a_t 0), .int x1, .int x2] (Pre0 g ((pic_Mo g a_t t tL)) sz)) (RI res (fun q => sz ≤ q)) 0 0 (fun q => sz ≤ q) :=
  ct_r (Qc := fun A => RI res A) (by decide) (Nat.le_of_ble_eq_true rfl) (fun p e s m args below meth c A2 A hC => k_Mo_digits hC t tL x1 x2 res h)
def Mo_number_5 (F : Nat) : Nat → StI → StL → Int32 → Int32 → Int32 → Int32 → Option (Int32)
  | 0, _, _, _, _, _, _ => none
  | n + 1, t, tL, x1, x2, x3, x4 => if x2 ≤ x4 then some x3 else (Mo_see F t tL (x1 + x4)).bind fun r4 => Mo_number_5 F n t tL x1 x2 ((((10 : Int32) * x3) + r4) - (48 : Int32)) (x4 + (1 : Int32))
def Mo_number (F : Nat) (t : StI) (tL : StL) (x1 : Int32) (x2 : Int32) : Option (Int32) := Mo_number_5 F F t tL x1 x2 (0 : Int32) (0 : Int32)
set_option maxHeartbeats 4000000 in
set_option maxRecDepth 100000 in
theorem k_Mo_number_5 {p : Program} {l : Launch} {e : Env} {s : State} {m : MethodId} {args : Array Value} {below : List Frame} {meth : Method} {c : Code} {g : Gz} {A2 A : Nat → Prop} {F : Nat} {a_t : Nat → Nat} (hC : Cx prog_10_method_22_code 5 (some .int) R_Mo p s m args meth c g A2 A) : ∀ (n : Nat) (t : StI) (tL : StL) (x1 : Int32) (x2 : Int32) (x3 : Int32) (x4 : Int32) (res : Int32), Mo_number_5 F n t tL x1 x2 x3 x4 = some res → Go p l e rm_Mo_number s m args below meth c g A2 A 5 (MQ below (RI res A) args s 0 0 A) ((pic_Mo g a_t t tL)) [(0, .ref (a_t 0)), (1, .int x1), (2, .int x2), (3, .int x3), (4, .int x4)] 5 [] := by
  obtain ⟨hx, hb, hr, hml, hown, htb, hlocks, hA, hAA, hG⟩ := id hC
  have hK := hG.1
  intro n
  induction n with
  | zero => intro t tL x1 x2 x3 x4 res h; rw [Mo_number_5] at h; cases h
  | succ n ih =>
    intro t tL x1 x2 x3 x4 res h H locs ls hP hD hS hl
    rw [Mo_number_5] at h
    refine lv_iload hx hb d_Mo_number_5 (lv_at hl 4 rfl) ?_
    refine lv_iload_n hx hb d_Mo_number_7 rfl (lv_at hl 2 rfl) ?_
    refine lv_icmp_ge (tgt := 34) hx hb d_Mo_number_8 (by decide) (fun c3 => ?_) (fun c3 => ?_)
    · replace h := (if_pos c3).symm.trans h
      refine lv_iload_n hx hb d_Mo_number_34 rfl (lv_at hl 3 rfl) ?_
      cases h
      exact W.iret hx hb hr (fun t ht hW => ⟨⟨_, (), rfl, rfl, trivial⟩, hS.F ht⟩) hS.2.2 d_Mo_number_35
    · replace h := (if_neg c3).symm.trans h
      refine lv_bipush (v := 10) hx hb d_Mo_number_11 (by decide) ?_
      refine lv_iload_n hx hb d_Mo_number_13 rfl (lv_at hl 3 rfl) ?_
      refine lv_imul hx hb d_Mo_number_14 ?_
      refine lv_aload_n hx hb d_Mo_number_15 rfl (lv_at hl 0 rfl) ?_
      refine lv_iload_n hx hb d_Mo_number_16 rfl (lv_at hl 1 rfl) ?_
      refine lv_iload hx hb d_Mo_number_17 (lv_at hl 4 rfl) ?_
      refine lv_iadd hx hb d_Mo_number_19 ?_
      obtain ⟨r4, hr4, h⟩ := Option.bind_eq_some_iff.mp h
      refine cl_Ir hP hS hA (va_runV (As := [.int (x1 + x4)]) (rest := [.int ((10 : Int32) * x3)]) ⟨hx, hb, hml, hown, htb⟩ (c_Mo_see l g F a_t t tL (x1 + x4) _ hr4 H.size) (cw_V htb mb_Mo_see (htb _ L_Mo_160) rfl rfl ⟨Nat.le_of_ble_eq_true rfl, Nat.le_of_ble_eq_true rfl⟩) (pre_V (va_recv hK hP (ci := 8) (q0 := 0) rfl rfl) (pre_S [0, 1, 2, 3, 4, 5, 6, 7, 8, 9, 10, 11, 12, 13, 14, 15, 16, 17, 18, 19, 20, 21, 22, 23, 24, 25, 26, 27, 28, 29, 30, 31, 32] rfl rfl hP hD hS hA hAA hG)) rfl rfl hl.1 rfl (lv_room (Nat.le_of_ble_eq_true rfl)) d_Mo_number_20 ⟨Nat.zero_le _, Nat.zero_le _⟩) (fun H locs hP hS => ?_)
      refine lv_iadd hx hb d_Mo_number_23 ?_
      refine lv_bipush (v := 48) hx hb d_Mo_number_24 (by decide) ?_
      refine lv_isub hx hb d_Mo_number_26 ?_
      refine lv_istore_n (lv' := [(3, .int ((((10 : Int32) * x3) + r4) - (48 : Int32))), (0, .ref (a_t 0)), (1, .int x1), (2, .int x2), (4, .int x4)]) hx hb d_Mo_number_27 rfl hl (by decide) rfl (fun ls hl => ?_)
      refine lv_iinc (v := (x4 + (1 : Int32))) (lv' := [(4, .int (x4 + (1 : Int32))), (3, .int ((((10 : Int32) * x3) + r4) - (48 : Int32))), (0, .ref (a_t 0)), (1, .int x1), (2, .int x2)]) hx hb d_Mo_number_28 hl (k := 4) rfl rfl (by decide) rfl (fun ls hl => ?_)
      refine lv_goto (tgt := 5) hx hb d_Mo_number_31 (by decide) ?_
      exact ih _ _ _ _ _ _ _ h _ _ _ hP hD hS (lv_sub hl [2, 3, 4, 1, 0] rfl)
set_option maxHeartbeats 4000000 in
set_option maxRecDepth 100000 in
theorem k_Mo_number {p : Program} {l : Launch} {e : Env} {s : State} {m : MethodId} {args : Array Value} {below : List Frame} {meth : Method} {c : Code} {g : Gz} {A2 A : Nat → Prop} {F : Nat} {a_t : Nat → Nat} (hC : Cx prog_10_method_22_code 5 (some .int) R_Mo p s m args meth c g A2 A) : ∀ (t : StI) (tL : StL) (x1 : Int32) (x2 : Int32) (res : Int32), Mo_number F t tL x1 x2 = some res → Go p l e rm_Mo_number s m args below meth c g A2 A 5 (MQ below (RI res A) args s 0 0 A) ((pic_Mo g a_t t tL)) [(0, .ref (a_t 0)), (1, .int x1), (2, .int x2)] 0 [] := by
  obtain ⟨hx, hb, hr, hml, hown, htb, hlocks, hA, hAA, hG⟩ := id hC
  have hK := hG.1
  intro t tL x1 x2 res h H locs ls hP hD hS hl
  rw [Mo_number] at h
  refine lv_iconst (v := 0) hx hb d_Mo_number_0 (by decide) ?_
  refine lv_istore_n (lv' := [(3, .int (0 : Int32)), (0, .ref (a_t 0)), (1, .int x1), (2, .int x2)]) hx hb d_Mo_number_1 rfl hl (by decide) rfl (fun ls hl => ?_)
  refine lv_iconst (v := 0) hx hb d_Mo_number_2 (by decide) ?_
  refine lv_istore (lv' := [(4, .int (0 : Int32)), (3, .int (0 : Int32)), (0, .ref (a_t 0)), (1, .int x1), (2, .int x2)]) hx hb d_Mo_number_3 hl (by decide) rfl (fun ls hl => ?_)
  exact k_Mo_number_5 hC F _ _ _ _ _ _ _ h _ _ _ hP hD hS (lv_sub hl [2, 3, 4, 1, 0] rfl)
theorem c_Mo_number (l : Launch) (g : Gz) (F : Nat) (a_t : Nat → Nat) (t : StI) (tL : StL) (x1 : Int32) (x2 : Int32) (res : Int32) (h : Mo_number F t tL x1 x2 = some res) : ∀ sz : Nat, Met l y_Mo_number (.code y_Mo_number prog_10_method_22_code 5 (some .int) :: TBL) rm_Mo_number (va_Pc [.ref (a_t 0), .int x1, .int x2] (Pre0 g ((pic_Mo g a_t t tL)) sz)) (RI res (fun q => sz ≤ q)) 0 0 (fun q => sz ≤ q) :=
  ct_r (Qc := fun A => RI res A) (by decide) (Nat.le_of_ble_eq_true rfl) (fun p e s m args below meth c A2 A hC => k_Mo_number hC t tL x1 x2 res h)
def Mo_isLeap (F : Nat) (x0 : Int32) : Option (Int32) := if (x0 - x0 / (4 : Int32) * (4 : Int32)) = 0 then if (x0 - x0 / (100 : Int32) * (100 : Int32)) = 0 then if (x0 - x0 / (400 : Int32) * (400 : Int32)) = 0 then some (1 : Int32) else some (0 : Int32) else some (1 : Int32) else some (0 : Int32)
set_option maxHeartbeats 4000000 in
set_option maxRecDepth 100000 in
theorem k_Mo_isLeap {p : Program} {l : Launch} {e : Env} {s : State} {m : MethodId} {args : Array Value} {below : List Frame} {meth : Method} {c : Code} {g : Gz} {A2 A : Nat → Prop} {F : Nat} (hC : Cx prog_10_method_23_code 1 (some .boolean) R_Mo p s m args meth c g A2 A) : ∀ (x0 : Int32) (res : Int32), Mo_isLeap F x0 = some res → Go p l e rm_Mo_isLeap s m args below meth c g A2 A 1 (MQ below (RI res A) args s 0 0 A) ([]) [(0, .int x0)] 0 [] := by
  obtain ⟨hx, hb, hr, hml, hown, htb, hlocks, hA, hAA, hG⟩ := id hC
  have hK := hG.1
  intro x0 res h H locs ls hP hD hS hl
  rw [Mo_isLeap] at h
  refine lv_iload_n hx hb d_Mo_isLeap_0 rfl (lv_at hl 0 rfl) ?_
  refine lv_iconst (v := 4) hx hb d_Mo_isLeap_1 (by decide) ?_
  refine lv_irem hx hb d_Mo_isLeap_2 (by decide) ?_
  refine lv_if_ne (tgt := 25) hx hb d_Mo_isLeap_3 (by decide) (fun c4 => ?_) (fun c4 => ?_)
  · replace h := (if_neg c4).symm.trans h
    refine lv_iconst (v := 0) hx hb d_Mo_isLeap_25 (by decide) ?_
    cases h
    exact W.zret hx hb hr rfl (fun t ht hW => ⟨⟨_, (), rfl, rfl, trivial⟩, hS.F ht⟩) hS.2.2 d_Mo_isLeap_26
  · replace h := (if_pos c4).symm.trans h
    refine lv_iload_n hx hb d_Mo_isLeap_6 rfl (lv_at hl 0 rfl) ?_
    refine lv_bipush (v := 100) hx hb d_Mo_isLeap_7 (by decide) ?_
    refine lv_irem hx hb d_Mo_isLeap_9 (by decide) ?_
    refine lv_if_ne (tgt := 21) hx hb d_Mo_isLeap_10 (by decide) (fun c5 => ?_) (fun c5 => ?_)
    · replace h := (if_neg c5).symm.trans h
      refine lv_iconst (v := 1) hx hb d_Mo_isLeap_21 (by decide) ?_
      refine lv_goto (tgt := 26) hx hb d_Mo_isLeap_22 (by decide) ?_
      cases h
      exact W.zret hx hb hr rfl (fun t ht hW => ⟨⟨_, (), rfl, rfl, trivial⟩, hS.F ht⟩) hS.2.2 d_Mo_isLeap_26
    · replace h := (if_pos c5).symm.trans h
      refine lv_iload_n hx hb d_Mo_isLeap_13 rfl (lv_at hl 0 rfl) ?_
      refine lv_sipush (v := 400) hx hb d_Mo_isLeap_14 (by decide) ?_
      refine lv_irem hx hb d_Mo_isLeap_17 (by decide) ?_
      refine lv_if_ne (tgt := 25) hx hb d_Mo_isLeap_18 (by decide) (fun c6 => ?_) (fun c6 => ?_)
      · replace h := (if_neg c6).symm.trans h
        refine lv_iconst (v := 0) hx hb d_Mo_isLeap_25 (by decide) ?_
        cases h
        exact W.zret hx hb hr rfl (fun t ht hW => ⟨⟨_, (), rfl, rfl, trivial⟩, hS.F ht⟩) hS.2.2 d_Mo_isLeap_26
      · replace h := (if_pos c6).symm.trans h
        refine lv_iconst (v := 1) hx hb d_Mo_isLeap_21 (by decide) ?_
        refine lv_goto (tgt := 26) hx hb d_Mo_isLeap_22 (by decide) ?_
        cases h
        exact W.zret hx hb hr rfl (fun t ht hW => ⟨⟨_, (), rfl, rfl, trivial⟩, hS.F ht⟩) hS.2.2 d_Mo_isLeap_26
theorem c_Mo_isLeap (l : Launch) (g : Gz) (F : Nat) (x0 : Int32) (res : Int32) (h : Mo_isLeap F x0 = some res) : ∀ sz : Nat, Met l y_Mo_isLeap (.code y_Mo_isLeap prog_10_method_23_code 1 (some .boolean) :: TBL) rm_Mo_isLeap (va_Pc [.int x0] (Pre0 g ([]) sz)) (RI res (fun q => sz ≤ q)) 0 0 (fun q => sz ≤ q) :=
  ct_r (Qc := fun A => RI res A) (by decide) (Nat.le_of_ble_eq_true rfl) (fun p e s m args below meth c A2 A hC => k_Mo_isLeap hC x0 res h)
def Mo_monthDays (F : Nat) (x0 : Int32) (x1 : Int32) : Option (Int32) := if x1 = (2 : Int32) then (Mo_isLeap F x0).bind fun r13 => if r13 = 0 then some (28 : Int32) else some (29 : Int32) else if x1 = (4 : Int32) then some (30 : Int32) else if x1 = (6 : Int32) then some (30 : Int32) else if x1 = (9 : Int32) then some (30 : Int32) else if x1 = (11 : Int32) then some (30 : Int32) else some (31 : Int32)
set_option maxHeartbeats 4000000 in
set_option maxRecDepth 100000 in
theorem k_Mo_monthDays {p : Program} {l : Launch} {e : Env} {s : State} {m : MethodId} {args : Array Value} {below : List Frame} {meth : Method} {c : Code} {g : Gz} {A2 A : Nat → Prop} {F : Nat} (hC : Cx prog_10_method_24_code 2 (some .int) R_Mo p s m args meth c g A2 A) : ∀ (x0 : Int32) (x1 : Int32) (res : Int32), Mo_monthDays F x0 x1 = some res → Go p l e rm_Mo_monthDays s m args below meth c g A2 A 2 (MQ below (RI res A) args s 0 0 A) ([]) [(0, .int x0), (1, .int x1)] 0 [] := by
  obtain ⟨hx, hb, hr, hml, hown, htb, hlocks, hA, hAA, hG⟩ := id hC
  have hK := hG.1
  intro x0 x1 res h H locs ls hP hD hS hl
  rw [Mo_monthDays] at h
  refine lv_iload_n hx hb d_Mo_monthDays_0 rfl (lv_at hl 1 rfl) ?_
  refine lv_iconst (v := 2) hx hb d_Mo_monthDays_1 (by decide) ?_
  refine lv_icmp_ne (tgt := 22) hx hb d_Mo_monthDays_2 (by decide) (fun c8 => ?_) (fun c8 => ?_)
  · replace h := (if_neg c8).symm.trans h
    refine lv_iload_n hx hb d_Mo_monthDays_22 rfl (lv_at hl 1 rfl) ?_
    refine lv_iconst (v := 4) hx hb d_Mo_monthDays_23 (by decide) ?_
    refine lv_icmp_eq (tgt := 45) hx hb d_Mo_monthDays_24 (by decide) (fun c9 => ?_) (fun c9 => ?_)
    · replace h := (if_pos c9).symm.trans h
      refine lv_bipush (v := 30) hx hb d_Mo_monthDays_45 (by decide) ?_
      refine lv_goto (tgt := 52) hx hb d_Mo_monthDays_47 (by decide) ?_
      cases h
      exact W.iret hx hb hr (fun t ht hW => ⟨⟨_, (), rfl, rfl, trivial⟩, hS.F ht⟩) hS.2.2 d_Mo_monthDays_52
    · replace h := (if_neg c9).symm.trans h
      refine lv_iload_n hx hb d_Mo_monthDays_27 rfl (lv_at hl 1 rfl) ?_
      refine lv_bipush (v := 6) hx hb d_Mo_monthDays_28 (by decide) ?_
      refine lv_icmp_eq (tgt := 45) hx hb d_Mo_monthDays_30 (by decide) (fun c10 => ?_) (fun c10 => ?_)
      · replace h := (if_pos c10).symm.trans h
        refine lv_bipush (v := 30) hx hb d_Mo_monthDays_45 (by decide) ?_
        refine lv_goto (tgt := 52) hx hb d_Mo_monthDays_47 (by decide) ?_
        cases h
        exact W.iret hx hb hr (fun t ht hW => ⟨⟨_, (), rfl, rfl, trivial⟩, hS.F ht⟩) hS.2.2 d_Mo_monthDays_52
      · replace h := (if_neg c10).symm.trans h
        refine lv_iload_n hx hb d_Mo_monthDays_33 rfl (lv_at hl 1 rfl) ?_
        refine lv_bipush (v := 9) hx hb d_Mo_monthDays_34 (by decide) ?_
        refine lv_icmp_eq (tgt := 45) hx hb d_Mo_monthDays_36 (by decide) (fun c11 => ?_) (fun c11 => ?_)
        · replace h := (if_pos c11).symm.trans h
          refine lv_bipush (v := 30) hx hb d_Mo_monthDays_45 (by decide) ?_
          refine lv_goto (tgt := 52) hx hb d_Mo_monthDays_47 (by decide) ?_
          cases h
          exact W.iret hx hb hr (fun t ht hW => ⟨⟨_, (), rfl, rfl, trivial⟩, hS.F ht⟩) hS.2.2 d_Mo_monthDays_52
        · replace h := (if_neg c11).symm.trans h
          refine lv_iload_n hx hb d_Mo_monthDays_39 rfl (lv_at hl 1 rfl) ?_
          refine lv_bipush (v := 11) hx hb d_Mo_monthDays_40 (by decide) ?_
          refine lv_icmp_ne (tgt := 50) hx hb d_Mo_monthDays_42 (by decide) (fun c12 => ?_) (fun c12 => ?_)
          · replace h := (if_neg c12).symm.trans h
            refine lv_bipush (v := 31) hx hb d_Mo_monthDays_50 (by decide) ?_
            cases h
            exact W.iret hx hb hr (fun t ht hW => ⟨⟨_, (), rfl, rfl, trivial⟩, hS.F ht⟩) hS.2.2 d_Mo_monthDays_52
          · replace h := (if_pos c12).symm.trans h
            refine lv_bipush (v := 30) hx hb d_Mo_monthDays_45 (by decide) ?_
            refine lv_goto (tgt := 52) hx hb d_Mo_monthDays_47 (by decide) ?_
            cases h
            exact W.iret hx hb hr (fun t ht hW => ⟨⟨_, (), rfl, rfl, trivial⟩, hS.F ht⟩) hS.2.2 d_Mo_monthDays_52
  · replace h := (if_pos c8).symm.trans h
    refine lv_iload_n hx hb d_Mo_monthDays_5 rfl (lv_at hl 0 rfl) ?_
    obtain ⟨r13, hr13, h⟩ := Option.bind_eq_some_iff.mp h
    refine cl_Ir hP hS hA (va_runS (As := [.int x0]) (rest := []) ⟨hx, hb, hml, hown, htb⟩ (c_Mo_isLeap l g F x0 _ hr13 H.size) (cw_S htb mb_Mo_isLeap (htb _ L_Mo_234) rfl rfl ⟨Nat.le_of_ble_eq_true rfl, Nat.le_of_ble_eq_true rfl⟩) (pre_S [] rfl rfl hP hD hS hA hAA hG) rfl rfl hl.1 rfl (lv_room (Nat.le_of_ble_eq_true rfl)) d_Mo_monthDays_6 ⟨Nat.zero_le _, Nat.zero_le _⟩) (fun H locs hP hS => ?_)
    refine lv_if_eq (tgt := 17) hx hb d_Mo_monthDays_9 (by decide) (fun c14 => ?_) (fun c14 => ?_)
    · replace h := (if_pos c14).symm.trans h
      refine lv_bipush (v := 28) hx hb d_Mo_monthDays_17 (by decide) ?_
      refine lv_goto (tgt := 52) hx hb d_Mo_monthDays_19 (by decide) ?_
      cases h
      exact W.iret hx hb hr (fun t ht hW => ⟨⟨_, (), rfl, rfl, trivial⟩, hS.F ht⟩) hS.2.2 d_Mo_monthDays_52
    · replace h := (if_neg c14).symm.trans h
      refine lv_bipush (v := 29) hx hb d_Mo_monthDays_12 (by decide) ?_
      refine lv_goto (tgt := 52) hx hb d_Mo_monthDays_14 (by decide) ?_
      cases h
      exact W.iret hx hb hr (fun t ht hW => ⟨⟨_, (), rfl, rfl, trivial⟩, hS.F ht⟩) hS.2.2 d_Mo_monthDays_52
theorem c_Mo_monthDays (l : Launch) (g : Gz) (F : Nat) (x0 : Int32) (x1 : Int32) (res : Int32) (h : Mo_monthDays F x0 x1 = some res) : ∀ sz : Nat, Met l y_Mo_monthDays (.code y_Mo_monthDays prog_10_method_24_code 2 (some .int) :: TBL) rm_Mo_monthDays (va_Pc [.int x0, .int x1] (Pre0 g ([]) sz)) (RI res (fun q => sz ≤ q)) 0 0 (fun q => sz ≤ q) :=
  ct_r (Qc := fun A => RI res A) (by decide) (Nat.le_of_ble_eq_true rfl) (fun p e s m args below meth c A2 A hC => k_Mo_monthDays hC x0 x1 res h)
def Mo_isDay_243 (F : Nat) (t : StI) (tL : StL) (x1 : Int32) (x2 : Int32) (x3 : Int32) (y0 : Int32) : Option (Int32 × StI × StL) := if x3 < (1 : Int32) then some ((0 : Int32), t, tL) else if (3 : Int32) < x3 then some ((0 : Int32), t, tL) else if (x2 - x1) = (x3 + (1 : Int32)) then if y0 = 0 then some ((0 : Int32), t, tL) else (Mo_number F t tL x1 x3).bind fun r39 => if r39 = 0 then some ((0 : Int32), t, tL) else (Mo_number F t tL x1 x3).bind fun r41 => letS (va_up t 56 (fun _ => ((-y0) * r41))) fun t_42 => some ((1 : Int32), t_42, tL) else some ((0 : Int32), t, tL)
def Mo_isDay_185 (F : Nat) (t : StI) (tL : StL) (x1 : Int32) (x2 : Int32) (x3 : Int32) : Option (Int32 × StI × StL) := (Mo_see F t tL (x1 + x3)).bind fun r43 => if r43 = (100 : Int32) then Mo_isDay_243 F t tL x1 x2 x3 (1 : Int32) else if r43 = (119 : Int32) then Mo_isDay_243 F t tL x1 x2 x3 (7 : Int32) else if r43 = (109 : Int32) then Mo_isDay_243 F t tL x1 x2 x3 (30 : Int32) else if r43 = (121 : Int32) then Mo_isDay_243 F t tL x1 x2 x3 (365 : Int32) else Mo_isDay_243 F t tL x1 x2 x3 (0 : Int32)
def Mo_isDay_154 (F : Nat) : Nat → StI → StL → Int32 → Int32 → Int32 → Option (Int32 × StI × StL)
  | 0, _, _, _, _, _ => none
  | n + 1, t, tL, x4, x5, x7 => if x5 ≤ x7 then some ((1 : Int32), t, tL) else (Mo_monthDays F x4 x7).bind fun r49 => letS (va_up t 56 (fun _ => ((t 56 0) + r49))) fun t_50 => Mo_isDay_154 F n t_50 tL x4 x5 (x7 + (1 : Int32))
def Mo_isDay_141 (F : Nat) (k112 : StI → StL → Int32 → Int32 → Int32 → Option (Int32 × StI × StL)) (t : StI) (tL : StL) (x4 : Int32) (x5 : Int32) (x7 : Int32) (y0 : Int32) (y1 : Int32) : Option (Int32 × StI × StL) := letS (va_up t 56 (fun _ => (y1 + y0))) fun t_51 => k112 t_51 tL x4 x5 (x7 + (1 : Int32))
def Mo_isDay_112 (F : Nat) : Nat → StI → StL → Int32 → Int32 → Int32 → Option (Int32 × StI × StL)
  | 0, _, _, _, _, _ => none
  | n + 1, t, tL, x4, x5, x7 => if x4 ≤ x7 then Mo_isDay_154 F F t tL x4 x5 (1 : Int32) else (Mo_isLeap F x7).bind fun r53 => if r53 = 0 then Mo_isDay_141 F (Mo_isDay_112 F n) t tL x4 x5 x7 (365 : Int32) (t 56 0) else Mo_isDay_141 F (Mo_isDay_112 F n) t tL x4 x5 x7 (366 : Int32) (t 56 0)
def Mo_isDay (F : Nat) (t : StI) (tL : StL) (x1 : Int32) (x2 : Int32) : Option (Int32 × StI × StL) := (Mo_digits F t tL x1 x2).bind fun r55 => if r55 = (8 : Int32) then if (x2 - x1) = (8 : Int32) then (Mo_number F t tL x1 (4 : Int32)).bind fun r58 => (Mo_number F t tL (x1 + (4 : Int32)) (2 : Int32)).bind fun r59 => (Mo_number F t tL (x1 + (6 : Int32)) (2 : Int32)).bind fun r60 => if r58 < (1970 : Int32) then some ((0 : Int32), t, tL) else if (2999 : Int32) < r58 then some ((0 : Int32), t, tL) else if r59 < (1 : Int32) then some ((0 : Int32), t, tL) else if (12 : Int32) < r59 then some ((0 : Int32), t, tL) else if r60 < (1 : Int32) then some ((0 : Int32), t, tL) else (Mo_monthDays F r58 r59).bind fun r66 => if r60 ≤ r66 then letS (va_up t 56 (fun _ => (r60 - (1 : Int32)))) fun t_68 => Mo_isDay_112 F F t_68 tL r58 r59 (1970 : Int32) else some ((0 : Int32), t, tL) else Mo_isDay_185 F t tL x1 x2 r55 else Mo_isDay_185 F t tL x1 x2 r55
set_option maxHeartbeats 4000000 in
set_option maxRecDepth 100000 in
theorem k_Mo_isDay_243 {p : Program} {l : Launch} {e : Env} {s : State} {m : MethodId} {args : Array Value} {below : List Frame} {meth : Method} {c : Code} {g : Gz} {A : Nat → Prop} {F : Nat} {a_t : Nat → Nat} (hC : Cx prog_10_method_25_code 8 (some .boolean) R_Mo p s m args meth c g A A) : ∀ (t : StI) (tL : StL) (x1 : Int32) (x2 : Int32) (x3 : Int32) (y0 : Int32) (res : Int32 × StI × StL), Mo_isDay_243 F t tL x1 x2 x3 y0 = some res → Go p l e rm_Mo_isDay s m args below meth c g A A 8 (MQ below (EI g ((pic_Mo g a_t res.2.1 res.2.2)) res.1 A) args s 0 0 A) ((pic_Mo g a_t t tL)) [(0, .ref (a_t 0)), (1, .int x1), (2, .int x2), (3, .int x3)] 243 [.int y0] := by
  obtain ⟨hx, hb, hr, hml, hown, htb, hlocks, hA, hAA, hG⟩ := id hC
  have hK := hG.1
  intro t tL x1 x2 x3 y0 res h H locs ls hP hD hS hl
  rw [Mo_isDay_243] at h
  refine lv_istore (lv' := [(5, .int y0), (0, .ref (a_t 0)), (1, .int x1), (2, .int x2), (3, .int x3)]) hx hb d_Mo_isDay_243 hl (by decide) rfl (fun ls hl => ?_)
  refine lv_iload_n hx hb d_Mo_isDay_245 rfl (lv_at hl 4 rfl) ?_
  refine lv_iconst (v := 1) hx hb d_Mo_isDay_246 (by decide) ?_
  refine lv_icmp_lt (tgt := 278) hx hb d_Mo_isDay_247 (by decide) (fun c35 => ?_) (fun c35 => ?_)
  · replace h := (if_pos c35).symm.trans h
    refine lv_iconst (v := 0) hx hb d_Mo_isDay_278 (by decide) ?_
    cases h
    exact W.zret hx hb hr rfl (fun t ht hW => ⟨⟨_, (), rfl, rfl, by rw [ht]; exact hP, hD⟩, hS.F ht⟩) hS.2.2 d_Mo_isDay_279
  · replace h := (if_neg c35).symm.trans h
    refine lv_iload_n hx hb d_Mo_isDay_250 rfl (lv_at hl 4 rfl) ?_
    refine lv_iconst (v := 3) hx hb d_Mo_isDay_251 (by decide) ?_
    refine lv_icmp_gt (tgt := 278) hx hb d_Mo_isDay_252 (by decide) (fun c36 => ?_) (fun c36 => ?_)
    · replace h := (if_pos c36).symm.trans h
      refine lv_iconst (v := 0) hx hb d_Mo_isDay_278 (by decide) ?_
      cases h
      exact W.zret hx hb hr rfl (fun t ht hW => ⟨⟨_, (), rfl, rfl, by rw [ht]; exact hP, hD⟩, hS.F ht⟩) hS.2.2 d_Mo_isDay_279
    · replace h := (if_neg c36).symm.trans h
      refine lv_iload_n hx hb d_Mo_isDay_255 rfl (lv_at hl 3 rfl) ?_
      refine lv_iload_n hx hb d_Mo_isDay_256 rfl (lv_at hl 2 rfl) ?_
      refine lv_isub hx hb d_Mo_isDay_257 ?_
      refine lv_iload_n hx hb d_Mo_isDay_258 rfl (lv_at hl 4 rfl) ?_
      refine lv_iconst (v := 1) hx hb d_Mo_isDay_259 (by decide) ?_
      refine lv_iadd hx hb d_Mo_isDay_260 ?_
      refine lv_icmp_ne (tgt := 278) hx hb d_Mo_isDay_261 (by decide) (fun c37 => ?_) (fun c37 => ?_)
      · replace h := (if_neg c37).symm.trans h
        refine lv_iconst (v := 0) hx hb d_Mo_isDay_278 (by decide) ?_
        cases h
        exact W.zret hx hb hr rfl (fun t ht hW => ⟨⟨_, (), rfl, rfl, by rw [ht]; exact hP, hD⟩, hS.F ht⟩) hS.2.2 d_Mo_isDay_279
      · replace h := (if_pos c37).symm.trans h
        refine lv_iload hx hb d_Mo_isDay_264 (lv_at hl 0 rfl) ?_
        refine lv_if_eq (tgt := 278) hx hb d_Mo_isDay_266 (by decide) (fun c38 => ?_) (fun c38 => ?_)
        · replace h := (if_pos c38).symm.trans h
          refine lv_iconst (v := 0) hx hb d_Mo_isDay_278 (by decide) ?_
          cases h
          exact W.zret hx hb hr rfl (fun t ht hW => ⟨⟨_, (), rfl, rfl, by rw [ht]; exact hP, hD⟩, hS.F ht⟩) hS.2.2 d_Mo_isDay_279
        · replace h := (if_neg c38).symm.trans h
          refine lv_aload_n hx hb d_Mo_isDay_269 rfl (lv_at hl 1 rfl) ?_
          refine lv_iload_n hx hb d_Mo_isDay_270 rfl (lv_at hl 2 rfl) ?_
          refine lv_iload_n hx hb d_Mo_isDay_271 rfl (lv_at hl 4 rfl) ?_
          obtain ⟨r39, hr39, h⟩ := Option.bind_eq_some_iff.mp h
          refine cl_Ir hP hS hA (va_runV (As := [.int x1, .int x3]) (rest := []) ⟨hx, hb, hml, hown, htb⟩ (c_Mo_number l g F a_t t tL x1 x3 _ hr39 H.size) (cw_V htb mb_Mo_number (htb _ L_Mo_240) rfl rfl ⟨Nat.le_of_ble_eq_true rfl, Nat.le_of_ble_eq_true rfl⟩) (pre_V (va_recv hK hP (ci := 8) (q0 := 0) rfl rfl) (pre_S [0, 1, 2, 3, 4, 5, 6, 7, 8, 9, 10, 11, 12, 13, 14, 15, 16, 17, 18, 19, 20, 21, 22, 23, 24, 25, 26, 27, 28, 29, 30, 31, 32] rfl rfl hP hD hS hA hAA hG)) rfl rfl hl.1 rfl (lv_room (Nat.le_of_ble_eq_true rfl)) d_Mo_isDay_272 ⟨Nat.zero_le _, Nat.zero_le _⟩) (fun H locs hP hS => ?_)
          refine lv_if_ne (tgt := 280) hx hb d_Mo_isDay_275 (by decide) (fun c40 => ?_) (fun c40 => ?_)
          · replace h := (if_neg c40).symm.trans h
            refine lv_aload_n hx hb d_Mo_isDay_280 rfl (lv_at hl 1 rfl) ?_
            refine lv_iload hx hb d_Mo_isDay_281 (lv_at hl 0 rfl) ?_
            refine lv_ineg hx hb d_Mo_isDay_283 ?_
            refine lv_aload_n hx hb d_Mo_isDay_284 rfl (lv_at hl 1 rfl) ?_
            refine lv_iload_n hx hb d_Mo_isDay_285 rfl (lv_at hl 2 rfl) ?_
            refine lv_iload_n hx hb d_Mo_isDay_286 rfl (lv_at hl 4 rfl) ?_
            obtain ⟨r41, hr41, h⟩ := Option.bind_eq_some_iff.mp h
            refine cl_Ir hP hS hA (va_runV (As := [.int x1, .int x3]) (rest := [.int (-y0), .ref (a_t 0)]) ⟨hx, hb, hml, hown, htb⟩ (c_Mo_number l g F a_t t tL x1 x3 _ hr41 H.size) (cw_V htb mb_Mo_number (htb _ L_Mo_240) rfl rfl ⟨Nat.le_of_ble_eq_true rfl, Nat.le_of_ble_eq_true rfl⟩) (pre_V (va_recv hK hP (ci := 8) (q0 := 0) rfl rfl) (pre_S [0, 1, 2, 3, 4, 5, 6, 7, 8, 9, 10, 11, 12, 13, 14, 15, 16, 17, 18, 19, 20, 21, 22, 23, 24, 25, 26, 27, 28, 29, 30, 31, 32] rfl rfl hP hD hS hA hAA hG)) rfl rfl hl.1 rfl (lv_room (Nat.le_of_ble_eq_true rfl)) d_Mo_isDay_287 ⟨Nat.zero_le _, Nat.zero_le _⟩) (fun H locs hP hS => ?_)
            refine lv_imul hx hb d_Mo_isDay_290 ?_
            refine va_put (D := gD g) (ci := 8) (v := .int ((-y0) * r41)) (ty := .int) (C := R_Mo) (T := T_Mo) (N := 64) hx hb htb in_Mo ty_Mo ty_Mo_ok nm_Mo hown hK hP hD hS 0 rfl rfl 56 (by decide) (htb _ L_Mo_246) (fun _ h9 => h9) rfl (by decide +kernel) rfl rfl (Nat.le_of_ble_eq_true rfl) d_Mo_isDay_291 (fun H locs hP hD hS => ?_)
            obtain ⟨t_42, et_42, h⟩ := letS_el h
            have hP : va_P (gD g) vwCl ((pic_Mo g a_t t_42 tL)) H := by rw [et_42]; exact hP
            have hD : va_D A ((pic_Mo g a_t t_42 tL)) := by rw [et_42]; exact hD
            refine lv_iconst (v := 1) hx hb d_Mo_isDay_294 (by decide) ?_
            cases h
            exact W.zret hx hb hr rfl (fun t ht hW => ⟨⟨_, (), rfl, rfl, by rw [ht]; exact hP, hD⟩, hS.F ht⟩) hS.2.2 d_Mo_isDay_295
          · replace h := (if_pos c40).symm.trans h
            refine lv_iconst (v := 0) hx hb d_Mo_isDay_278 (by decide) ?_
            cases h
            exact W.zret hx hb hr rfl (fun t ht hW => ⟨⟨_, (), rfl, rfl, by rw [ht]; exact hP, hD⟩, hS.F ht⟩) hS.2.2 d_Mo_isDay_279
set_option maxHeartbeats 4000000 in
set_option maxRecDepth 100000 in
theorem k_Mo_isDay_185 {p : Program} {l : Launch} {e : Env} {s : State} {m : MethodId} {args : Array Value} {below : List Frame} {meth : Method} {c : Code} {g : Gz} {A : Nat → Prop} {F : Nat} {a_t : Nat → Nat} (hC : Cx prog_10_method_25_code 8 (some .boolean) R_Mo p s m args meth c g A A) : ∀ (t : StI) (tL : StL) (x1 : Int32) (x2 : Int32) (x3 : Int32) (res : Int32 × StI × StL), Mo_isDay_185 F t tL x1 x2 x3 = some res → Go p l e rm_Mo_isDay s m args below meth c g A A 8 (MQ below (EI g ((pic_Mo g a_t res.2.1 res.2.2)) res.1 A) args s 0 0 A) ((pic_Mo g a_t t tL)) [(0, .ref (a_t 0)), (1, .int x1), (2, .int x2), (3, .int x3)] 185 [] := by
  obtain ⟨hx, hb, hr, hml, hown, htb, hlocks, hA, hAA, hG⟩ := id hC
  have hK := hG.1
  intro t tL x1 x2 x3 res h H locs ls hP hD hS hl
  rw [Mo_isDay_185] at h
  refine lv_aload_n hx hb d_Mo_isDay_185 rfl (lv_at hl 0 rfl) ?_
  refine lv_iload_n hx hb d_Mo_isDay_186 rfl (lv_at hl 1 rfl) ?_
  refine lv_iload_n hx hb d_Mo_isDay_187 rfl (lv_at hl 3 rfl) ?_
  refine lv_iadd hx hb d_Mo_isDay_188 ?_
  obtain ⟨r43, hr43, h⟩ := Option.bind_eq_some_iff.mp h
  refine cl_Ir hP hS hA (va_runV (As := [.int (x1 + x3)]) (rest := []) ⟨hx, hb, hml, hown, htb⟩ (c_Mo_see l g F a_t t tL (x1 + x3) _ hr43 H.size) (cw_V htb mb_Mo_see (htb _ L_Mo_160) rfl rfl ⟨Nat.le_of_ble_eq_true rfl, Nat.le_of_ble_eq_true rfl⟩) (pre_V (va_recv hK hP (ci := 8) (q0 := 0) rfl rfl) (pre_S [0, 1, 2, 3, 4, 5, 6, 7, 8, 9, 10, 11, 12, 13, 14, 15, 16, 17, 18, 19, 20, 21, 22, 23, 24, 25, 26, 27, 28, 29, 30, 31, 32] rfl rfl hP hD hS hA hAA hG)) rfl rfl hl.1 rfl (lv_room (Nat.le_of_ble_eq_true rfl)) d_Mo_isDay_189 ⟨Nat.zero_le _, Nat.zero_le _⟩) (fun H locs hP hS => ?_)
  refine lv_istore (lv' := [(4, .int r43), (0, .ref (a_t 0)), (1, .int x1), (2, .int x2), (3, .int x3)]) hx hb d_Mo_isDay_192 hl (by decide) rfl (fun ls hl => ?_)
  refine lv_iload hx hb d_Mo_isDay_194 (lv_at hl 0 rfl) ?_
  refine lv_bipush (v := 100) hx hb d_Mo_isDay_196 (by decide) ?_
  refine lv_icmp_ne (tgt := 205) hx hb d_Mo_isDay_198 (by decide) (fun c44 => ?_) (fun c44 => ?_)
  · replace h := (if_neg c44).symm.trans h
    refine lv_iload hx hb d_Mo_isDay_205 (lv_at hl 0 rfl) ?_
    refine lv_bipush (v := 119) hx hb d_Mo_isDay_207 (by decide) ?_
    refine lv_icmp_ne (tgt := 217) hx hb d_Mo_isDay_209 (by decide) (fun c45 => ?_) (fun c45 => ?_)
    · replace h := (if_neg c45).symm.trans h
      refine lv_iload hx hb d_Mo_isDay_217 (lv_at hl 0 rfl) ?_
      refine lv_bipush (v := 109) hx hb d_Mo_isDay_219 (by decide) ?_
      refine lv_icmp_ne (tgt := 229) hx hb d_Mo_isDay_221 (by decide) (fun c46 => ?_) (fun c46 => ?_)
      · replace h := (if_neg c46).symm.trans h
        refine lv_iload hx hb d_Mo_isDay_229 (lv_at hl 0 rfl) ?_
        refine lv_bipush (v := 121) hx hb d_Mo_isDay_231 (by decide) ?_
        refine lv_icmp_ne (tgt := 242) hx hb d_Mo_isDay_233 (by decide) (fun c47 => ?_) (fun c47 => ?_)
        · replace h := (if_neg c47).symm.trans h
          refine lv_iconst (v := 0) hx hb d_Mo_isDay_242 (by decide) ?_
          exact k_Mo_isDay_243 hC _ _ _ _ _ _ _ h _ _ _ hP hD hS (lv_sub hl [1, 2, 3, 4] rfl)
        · replace h := (if_pos c47).symm.trans h
          refine lv_sipush (v := 365) hx hb d_Mo_isDay_236 (by decide) ?_
          refine lv_goto (tgt := 243) hx hb d_Mo_isDay_239 (by decide) ?_
          exact k_Mo_isDay_243 hC _ _ _ _ _ _ _ h _ _ _ hP hD hS (lv_sub hl [1, 2, 3, 4] rfl)
      · replace h := (if_pos c46).symm.trans h
        refine lv_bipush (v := 30) hx hb d_Mo_isDay_224 (by decide) ?_
        refine lv_goto (tgt := 243) hx hb d_Mo_isDay_226 (by decide) ?_
        exact k_Mo_isDay_243 hC _ _ _ _ _ _ _ h _ _ _ hP hD hS (lv_sub hl [1, 2, 3, 4] rfl)
    · replace h := (if_pos c45).symm.trans h
      refine lv_bipush (v := 7) hx hb d_Mo_isDay_212 (by decide) ?_
      refine lv_goto (tgt := 243) hx hb d_Mo_isDay_214 (by decide) ?_
      exact k_Mo_isDay_243 hC _ _ _ _ _ _ _ h _ _ _ hP hD hS (lv_sub hl [1, 2, 3, 4] rfl)
  · replace h := (if_pos c44).symm.trans h
    refine lv_iconst (v := 1) hx hb d_Mo_isDay_201 (by decide) ?_
    refine lv_goto (tgt := 243) hx hb d_Mo_isDay_202 (by decide) ?_
    exact k_Mo_isDay_243 hC _ _ _ _ _ _ _ h _ _ _ hP hD hS (lv_sub hl [1, 2, 3, 4] rfl)
set_option maxHeartbeats 4000000 in
set_option maxRecDepth 100000 in
theorem k_Mo_isDay_154 {p : Program} {l : Launch} {e : Env} {s : State} {m : MethodId} {args : Array Value} {below : List Frame} {meth : Method} {c : Code} {g : Gz} {A : Nat → Prop} {F : Nat} {a_t : Nat → Nat} (hC : Cx prog_10_method_25_code 8 (some .boolean) R_Mo p s m args meth c g A A) : ∀ (n : Nat) (t : StI) (tL : StL) (x4 : Int32) (x5 : Int32) (x7 : Int32) (res : Int32 × StI × StL), Mo_isDay_154 F n t tL x4 x5 x7 = some res → Go p l e rm_Mo_isDay s m args below meth c g A A 8 (MQ below (EI g ((pic_Mo g a_t res.2.1 res.2.2)) res.1 A) args s 0 0 A) ((pic_Mo g a_t t tL)) [(0, .ref (a_t 0)), (4, .int x4), (5, .int x5), (7, .int x7)] 154 [] := by
  obtain ⟨hx, hb, hr, hml, hown, htb, hlocks, hA, hAA, hG⟩ := id hC
  have hK := hG.1
  intro n
  induction n with
  | zero => intro t tL x4 x5 x7 res h; rw [Mo_isDay_154] at h; cases h
  | succ n ih =>
    intro t tL x4 x5 x7 res h H locs ls hP hD hS hl
    rw [Mo_isDay_154] at h
    refine lv_iload hx hb d_Mo_isDay_154 (lv_at hl 3 rfl) ?_
    refine lv_iload hx hb d_Mo_isDay_156 (lv_at hl 2 rfl) ?_
    refine lv_icmp_ge (tgt := 183) hx hb d_Mo_isDay_158 (by decide) (fun c48 => ?_) (fun c48 => ?_)
    · replace h := (if_pos c48).symm.trans h
      refine lv_iconst (v := 1) hx hb d_Mo_isDay_183 (by decide) ?_
      cases h
      exact W.zret hx hb hr rfl (fun t ht hW => ⟨⟨_, (), rfl, rfl, by rw [ht]; exact hP, hD⟩, hS.F ht⟩) hS.2.2 d_Mo_isDay_184
    · replace h := (if_neg c48).symm.trans h
      refine lv_aload_n hx hb d_Mo_isDay_161 rfl (lv_at hl 0 rfl) ?_
      refine lv_dup hx hb d_Mo_isDay_162 rfl ?_
      refine va_get (D := gD g) (ci := 8) (v := .int (t 56 0)) (C := R_Mo) (T := T_Mo) (N := 64) hx hb htb in_Mo hown hK hP 0 rfl rfl 56 (by decide) (htb _ L_Mo_246) (fun _ h9 => h9) rfl d_Mo_isDay_163 ?_
      refine lv_iload hx hb d_Mo_isDay_166 (lv_at hl 1 rfl) ?_
      refine lv_iload hx hb d_Mo_isDay_168 (lv_at hl 3 rfl) ?_
      obtain ⟨r49, hr49, h⟩ := Option.bind_eq_some_iff.mp h
      refine cl_Ir hP hS hA (va_runS (As := [.int x4, .int x7]) (rest := [.int (t 56 0), .ref (a_t 0)]) ⟨hx, hb, hml, hown, htb⟩ (c_Mo_monthDays l g F x4 x7 _ hr49 H.size) (cw_S htb mb_Mo_monthDays (htb _ L_Mo_243) rfl rfl ⟨Nat.le_of_ble_eq_true rfl, Nat.le_of_ble_eq_true rfl⟩) (pre_S [] rfl rfl hP hD hS hA hAA hG) rfl rfl hl.1 rfl (lv_room (Nat.le_of_ble_eq_true rfl)) d_Mo_isDay_170 ⟨Nat.zero_le _, Nat.zero_le _⟩) (fun H locs hP hS => ?_)
      refine lv_iadd hx hb d_Mo_isDay_173 ?_
      refine va_put (D := gD g) (ci := 8) (v := .int ((t 56 0) + r49)) (ty := .int) (C := R_Mo) (T := T_Mo) (N := 64) hx hb htb in_Mo ty_Mo ty_Mo_ok nm_Mo hown hK hP hD hS 0 rfl rfl 56 (by decide) (htb _ L_Mo_246) (fun _ h9 => h9) rfl (by decide +kernel) rfl rfl (Nat.le_of_ble_eq_true rfl) d_Mo_isDay_174 (fun H locs hP hD hS => ?_)
      obtain ⟨t_50, et_50, h⟩ := letS_el h
      have hP : va_P (gD g) vwCl ((pic_Mo g a_t t_50 tL)) H := by rw [et_50]; exact hP
      have hD : va_D A ((pic_Mo g a_t t_50 tL)) := by rw [et_50]; exact hD
      refine lv_iinc (v := (x7 + (1 : Int32))) (lv' := [(7, .int (x7 + (1 : Int32))), (0, .ref (a_t 0)), (4, .int x4), (5, .int x5)]) hx hb d_Mo_isDay_177 hl (k := 3) rfl rfl (by decide) rfl (fun ls hl => ?_)
      refine lv_goto (tgt := 154) hx hb d_Mo_isDay_180 (by decide) ?_
      exact ih _ _ _ _ _ _ h _ _ _ hP hD hS (lv_sub hl [1, 2, 3, 0] rfl)
set_option maxHeartbeats 4000000 in
set_option maxRecDepth 100000 in
theorem k_Mo_isDay_141 {p : Program} {l : Launch} {e : Env} {s : State} {m : MethodId} {args : Array Value} {below : List Frame} {meth : Method} {c : Code} {g : Gz} {A : Nat → Prop} {F : Nat} {a_t : Nat → Nat} {k112 : StI → StL → Int32 → Int32 → Int32 → Option (Int32 × StI × StL)} (hC : Cx prog_10_method_25_code 8 (some .boolean) R_Mo p s m args meth c g A A) : ∀ (t : StI) (tL : StL) (x4 : Int32) (x5 : Int32) (x7 : Int32) (y0 : Int32) (y1 : Int32) (res : Int32 × StI × StL), Mo_isDay_141 F k112 t tL x4 x5 x7 y0 y1 = some res → (∀ (t : StI) (tL : StL) (x4 : Int32) (x5 : Int32) (x7 : Int32), k112 t tL x4 x5 x7 = some res → Go p l e rm_Mo_isDay s m args below meth c g A A 8 (MQ below (EI g ((pic_Mo g a_t res.2.1 res.2.2)) res.1 A) args s 0 0 A) ((pic_Mo g a_t t tL)) [(0, .ref (a_t 0)), (4, .int x4), (5, .int x5), (7, .int x7)] 112 []) → Go p l e rm_Mo_isDay s m args below meth c g A A 8 (MQ below (EI g ((pic_Mo g a_t res.2.1 res.2.2)) res.1 A) args s 0 0 A) ((pic_Mo g a_t t tL)) [(0, .ref (a_t 0)), (4, .int x4), (5, .int x5), (7, .int x7)] 141 [.int y0, .int y1, .ref (a_t 0)] := by
  obtain ⟨hx, hb, hr, hml, hown, htb, hlocks, hA, hAA, hG⟩ := id hC
  have hK := hG.1
  intro t tL x4 x5 x7 y0 y1 res h hk112 H locs ls hP hD hS hl
  rw [Mo_isDay_141] at h
  refine lv_iadd hx hb d_Mo_isDay_141 ?_
  refine va_put (D := gD g) (ci := 8) (v := .int (y1 + y0)) (ty := .int) (C := R_Mo) (T := T_Mo) (N := 64) hx hb htb in_Mo ty_Mo ty_Mo_ok nm_Mo hown hK hP hD hS 0 rfl rfl 56 (by decide) (htb _ L_Mo_246) (fun _ h9 => h9) rfl (by decide +kernel) rfl rfl (Nat.le_of_ble_eq_true rfl) d_Mo_isDay_142 (fun H locs hP hD hS => ?_)
  obtain ⟨t_51, et_51, h⟩ := letS_el h
  have hP : va_P (gD g) vwCl ((pic_Mo g a_t t_51 tL)) H := by rw [et_51]; exact hP
  have hD : va_D A ((pic_Mo g a_t t_51 tL)) := by rw [et_51]; exact hD
  refine lv_iinc (v := (x7 + (1 : Int32))) (lv' := [(7, .int (x7 + (1 : Int32))), (0, .ref (a_t 0)), (4, .int x4), (5, .int x5)]) hx hb d_Mo_isDay_145 hl (k := 3) rfl rfl (by decide) rfl (fun ls hl => ?_)
  refine lv_goto (tgt := 112) hx hb d_Mo_isDay_148 (by decide) ?_
  exact hk112 _ _ _ _ _ h _ _ _ hP hD hS (lv_sub hl [1, 2, 3, 0] rfl)
set_option maxHeartbeats 4000000 in
set_option maxRecDepth 100000 in
theorem k_Mo_isDay_112 {p : Program} {l : Launch} {e : Env} {s : State} {m : MethodId} {args : Array Value} {below : List Frame} {meth : Method} {c : Code} {g : Gz} {A : Nat → Prop} {F : Nat} {a_t : Nat → Nat} (hC : Cx prog_10_method_25_code 8 (some .boolean) R_Mo p s m args meth c g A A) : ∀ (n : Nat) (t : StI) (tL : StL) (x4 : Int32) (x5 : Int32) (x7 : Int32) (res : Int32 × StI × StL), Mo_isDay_112 F n t tL x4 x5 x7 = some res → Go p l e rm_Mo_isDay s m args below meth c g A A 8 (MQ below (EI g ((pic_Mo g a_t res.2.1 res.2.2)) res.1 A) args s 0 0 A) ((pic_Mo g a_t t tL)) [(0, .ref (a_t 0)), (4, .int x4), (5, .int x5), (7, .int x7)] 112 [] := by
  obtain ⟨hx, hb, hr, hml, hown, htb, hlocks, hA, hAA, hG⟩ := id hC
  have hK := hG.1
  intro n
  induction n with
  | zero => intro t tL x4 x5 x7 res h; rw [Mo_isDay_112] at h; cases h
  | succ n ih =>
    intro t tL x4 x5 x7 res h H locs ls hP hD hS hl
    rw [Mo_isDay_112] at h
    refine lv_iload hx hb d_Mo_isDay_112 (lv_at hl 3 rfl) ?_
    refine lv_iload hx hb d_Mo_isDay_114 (lv_at hl 1 rfl) ?_
    refine lv_icmp_ge (tgt := 151) hx hb d_Mo_isDay_116 (by decide) (fun c52 => ?_) (fun c52 => ?_)
    · replace h := (if_pos c52).symm.trans h
      refine lv_iconst (v := 1) hx hb d_Mo_isDay_151 (by decide) ?_
      refine lv_istore (lv' := [(7, .int (1 : Int32)), (0, .ref (a_t 0)), (4, .int x4), (5, .int x5)]) hx hb d_Mo_isDay_152 hl (by decide) rfl (fun ls hl => ?_)
      exact k_Mo_isDay_154 hC F _ _ _ _ _ _ h _ _ _ hP hD hS (lv_sub hl [1, 2, 3, 0] rfl)
    · replace h := (if_neg c52).symm.trans h
      refine lv_aload_n hx hb d_Mo_isDay_119 rfl (lv_at hl 0 rfl) ?_
      refine lv_dup hx hb d_Mo_isDay_120 rfl ?_
      refine va_get (D := gD g) (ci := 8) (v := .int (t 56 0)) (C := R_Mo) (T := T_Mo) (N := 64) hx hb htb in_Mo hown hK hP 0 rfl rfl 56 (by decide) (htb _ L_Mo_246) (fun _ h9 => h9) rfl d_Mo_isDay_121 ?_
      refine lv_iload hx hb d_Mo_isDay_124 (lv_at hl 3 rfl) ?_
      obtain ⟨r53, hr53, h⟩ := Option.bind_eq_some_iff.mp h
      refine cl_Ir hP hS hA (va_runS (As := [.int x7]) (rest := [.int (t 56 0), .ref (a_t 0)]) ⟨hx, hb, hml, hown, htb⟩ (c_Mo_isLeap l g F x7 _ hr53 H.size) (cw_S htb mb_Mo_isLeap (htb _ L_Mo_234) rfl rfl ⟨Nat.le_of_ble_eq_true rfl, Nat.le_of_ble_eq_true rfl⟩) (pre_S [] rfl rfl hP hD hS hA hAA hG) rfl rfl hl.1 rfl (lv_room (Nat.le_of_ble_eq_true rfl)) d_Mo_isDay_126 ⟨Nat.zero_le _, Nat.zero_le _⟩) (fun H locs hP hS => ?_)
      refine lv_if_eq (tgt := 138) hx hb d_Mo_isDay_129 (by decide) (fun c54 => ?_) (fun c54 => ?_)
      · replace h := (if_pos c54).symm.trans h
        refine lv_sipush (v := 365) hx hb d_Mo_isDay_138 (by decide) ?_
        exact k_Mo_isDay_141 hC _ _ _ _ _ _ _ _ h (fun z0 z1 z2 z3 z4 hz => ih z0 z1 z2 z3 z4 _ hz) _ _ _ hP hD hS (lv_sub hl [0, 1, 2, 3] rfl)
      · replace h := (if_neg c54).symm.trans h
        refine lv_sipush (v := 366) hx hb d_Mo_isDay_132 (by decide) ?_
        refine lv_goto (tgt := 141) hx hb d_Mo_isDay_135 (by decide) ?_
        exact k_Mo_isDay_141 hC _ _ _ _ _ _ _ _ h (fun z0 z1 z2 z3 z4 hz => ih z0 z1 z2 z3 z4 _ hz) _ _ _ hP hD hS (lv_sub hl [0, 1, 2, 3] rfl)
set_option maxHeartbeats 4000000 in
set_option maxRecDepth 100000 in
theorem k_Mo_isDay {p : Program} {l : Launch} {e : Env} {s : State} {m : MethodId} {args : Array Value} {below : List Frame} {meth : Method} {c : Code} {g : Gz} {A : Nat → Prop} {F : Nat} {a_t : Nat → Nat} (hC : Cx prog_10_method_25_code 8 (some .boolean) R_Mo p s m args meth c g A A) : ∀ (t : StI) (tL : StL) (x1 : Int32) (x2 : Int32) (res : Int32 × StI × StL), Mo_isDay F t tL x1 x2 = some res → Go p l e rm_Mo_isDay s m args below meth c g A A 8 (MQ below (EI g ((pic_Mo g a_t res.2.1 res.2.2)) res.1 A) args s 0 0 A) ((pic_Mo g a_t t tL)) [(0, .ref (a_t 0)), (1, .int x1), (2, .int x2)] 0 [] := by
  obtain ⟨hx, hb, hr, hml, hown, htb, hlocks, hA, hAA, hG⟩ := id hC
  have hK := hG.1
  intro t tL x1 x2 res h H locs ls hP hD hS hl
  rw [Mo_isDay] at h
  refine lv_aload_n hx hb d_Mo_isDay_0 rfl (lv_at hl 0 rfl) ?_
  refine lv_iload_n hx hb d_Mo_isDay_1 rfl (lv_at hl 1 rfl) ?_
  refine lv_iload_n hx hb d_Mo_isDay_2 rfl (lv_at hl 2 rfl) ?_
  obtain ⟨r55, hr55, h⟩ := Option.bind_eq_some_iff.mp h
  refine cl_Ir hP hS hA (va_runV (As := [.int x1, .int x2]) (rest := []) ⟨hx, hb, hml, hown, htb⟩ (c_Mo_digits l g F a_t t tL x1 x2 _ hr55 H.size) (cw_V htb mb_Mo_digits (htb _ L_Mo_237) rfl rfl ⟨Nat.le_of_ble_eq_true rfl, Nat.le_of_ble_eq_true rfl⟩) (pre_V (va_recv hK hP (ci := 8) (q0 := 0) rfl rfl) (pre_S [0, 1, 2, 3, 4, 5, 6, 7, 8, 9, 10, 11, 12, 13, 14, 15, 16, 17, 18, 19, 20, 21, 22, 23, 24, 25, 26, 27, 28, 29, 30, 31, 32] rfl rfl hP hD hS hA hAA hG)) rfl rfl hl.1 rfl (lv_room (Nat.le_of_ble_eq_true rfl)) d_Mo_isDay_3 ⟨Nat.zero_le _, Nat.zero_le _⟩) (fun H locs hP hS => ?_)
  refine lv_istore_n (lv' := [(3, .int r55), (0, .ref (a_t 0)), (1, .int x1), (2, .int x2)]) hx hb d_Mo_isDay_6 rfl hl (by decide) rfl (fun ls hl => ?_)
  refine lv_iload_n hx hb d_Mo_isDay_7 rfl (lv_at hl 0 rfl) ?_
  refine lv_bipush (v := 8) hx hb d_Mo_isDay_8 (by decide) ?_
  refine lv_icmp_ne (tgt := 185) hx hb d_Mo_isDay_10 (by decide) (fun c56 => ?_) (fun c56 => ?_)
  · replace h := (if_neg c56).symm.trans h
    exact k_Mo_isDay_185 hC _ _ _ _ _ _ h _ _ _ hP hD hS (lv_sub hl [1, 2, 3, 0] rfl)
  · replace h := (if_pos c56).symm.trans h
    refine lv_iload_n hx hb d_Mo_isDay_13 rfl (lv_at hl 3 rfl) ?_
    refine lv_iload_n hx hb d_Mo_isDay_14 rfl (lv_at hl 2 rfl) ?_
    refine lv_isub hx hb d_Mo_isDay_15 ?_
    refine lv_bipush (v := 8) hx hb d_Mo_isDay_16 (by decide) ?_
    refine lv_icmp_ne (tgt := 185) hx hb d_Mo_isDay_18 (by decide) (fun c57 => ?_) (fun c57 => ?_)
    · replace h := (if_neg c57).symm.trans h
      exact k_Mo_isDay_185 hC _ _ _ _ _ _ h _ _ _ hP hD hS (lv_sub hl [1, 2, 3, 0] rfl)
    · replace h := (if_pos c57).symm.trans h
      refine lv_aload_n hx hb d_Mo_isDay_21 rfl (lv_at hl 1 rfl) ?_
      refine lv_iload_n hx hb d_Mo_isDay_22 rfl (lv_at hl 2 rfl) ?_
      refine lv_iconst (v := 4) hx hb d_Mo_isDay_23 (by decide) ?_
      obtain ⟨r58, hr58, h⟩ := Option.bind_eq_some_iff.mp h
      refine cl_Ir hP hS hA (va_runV (As := [.int x1, .int (4 : Int32)]) (rest := []) ⟨hx, hb, hml, hown, htb⟩ (c_Mo_number l g F a_t t tL x1 (4 : Int32) _ hr58 H.size) (cw_V htb mb_Mo_number (htb _ L_Mo_240) rfl rfl ⟨Nat.le_of_ble_eq_true rfl, Nat.le_of_ble_eq_true rfl⟩) (pre_V (va_recv hK hP (ci := 8) (q0 := 0) rfl rfl) (pre_S [0, 1, 2, 3, 4, 5, 6, 7, 8, 9, 10, 11, 12, 13, 14, 15, 16, 17, 18, 19, 20, 21, 22, 23, 24, 25, 26, 27, 28, 29, 30, 31, 32] rfl rfl hP hD hS hA hAA hG)) rfl rfl hl.1 rfl (lv_room (Nat.le_of_ble_eq_true rfl)) d_Mo_isDay_24 ⟨Nat.zero_le _, Nat.zero_le _⟩) (fun H locs hP hS => ?_)
      refine lv_istore (lv' := [(4, .int r58), (3, .int r55), (0, .ref (a_t 0)), (1, .int x1), (2, .int x2)]) hx hb d_Mo_isDay_27 hl (by decide) rfl (fun ls hl => ?_)
      refine lv_aload_n hx hb d_Mo_isDay_29 rfl (lv_at hl 2 rfl) ?_
      refine lv_iload_n hx hb d_Mo_isDay_30 rfl (lv_at hl 3 rfl) ?_
      refine lv_iconst (v := 4) hx hb d_Mo_isDay_31 (by decide) ?_
      refine lv_iadd hx hb d_Mo_isDay_32 ?_
      refine lv_iconst (v := 2) hx hb d_Mo_isDay_33 (by decide) ?_
      obtain ⟨r59, hr59, h⟩ := Option.bind_eq_some_iff.mp h
      refine cl_Ir hP hS hA (va_runV (As := [.int (x1 + (4 : Int32)), .int (2 : Int32)]) (rest := []) ⟨hx, hb, hml, hown, htb⟩ (c_Mo_number l g F a_t t tL (x1 + (4 : Int32)) (2 : Int32) _ hr59 H.size) (cw_V htb mb_Mo_number (htb _ L_Mo_240) rfl rfl ⟨Nat.le_of_ble_eq_true rfl, Nat.le_of_ble_eq_true rfl⟩) (pre_V (va_recv hK hP (ci := 8) (q0 := 0) rfl rfl) (pre_S [0, 1, 2, 3, 4, 5, 6, 7, 8, 9, 10, 11, 12, 13, 14, 15, 16, 17, 18, 19, 20, 21, 22, 23, 24, 25, 26, 27, 28, 29, 30, 31, 32] rfl rfl hP hD hS hA hAA hG)) rfl rfl hl.1 rfl (lv_room (Nat.le_of_ble_eq_true rfl)) d_Mo_isDay_34 ⟨Nat.zero_le _, Nat.zero_le _⟩) (fun H locs hP hS => ?_)
      refine lv_istore (lv' := [(5, .int r59), (4, .int r58), (3, .int r55), (0, .ref (a_t 0)), (1, .int x1), (2, .int x2)]) hx hb d_Mo_isDay_37 hl (by decide) rfl (fun ls hl => ?_)
      refine lv_aload_n hx hb d_Mo_isDay_39 rfl (lv_at hl 3 rfl) ?_
      refine lv_iload_n hx hb d_Mo_isDay_40 rfl (lv_at hl 4 rfl) ?_
      refine lv_bipush (v := 6) hx hb d_Mo_isDay_41 (by decide) ?_
      refine lv_iadd hx hb d_Mo_isDay_43 ?_
      refine lv_iconst (v := 2) hx hb d_Mo_isDay_44 (by decide) ?_
      obtain ⟨r60, hr60, h⟩ := Option.bind_eq_some_iff.mp h
      refine cl_Ir hP hS hA (va_runV (As := [.int (x1 + (6 : Int32)), .int (2 : Int32)]) (rest := []) ⟨hx, hb, hml, hown, htb⟩ (c_Mo_number l g F a_t t tL (x1 + (6 : Int32)) (2 : Int32) _ hr60 H.size) (cw_V htb mb_Mo_number (htb _ L_Mo_240) rfl rfl ⟨Nat.le_of_ble_eq_true rfl, Nat.le_of_ble_eq_true rfl⟩) (pre_V (va_recv hK hP (ci := 8) (q0 := 0) rfl rfl) (pre_S [0, 1, 2, 3, 4, 5, 6, 7, 8, 9, 10, 11, 12, 13, 14, 15, 16, 17, 18, 19, 20, 21, 22, 23, 24, 25, 26, 27, 28, 29, 30, 31, 32] rfl rfl hP hD hS hA hAA hG)) rfl rfl hl.1 rfl (lv_room (Nat.le_of_ble_eq_true rfl)) d_Mo_isDay_45 ⟨Nat.zero_le _, Nat.zero_le _⟩) (fun H locs hP hS => ?_)
      refine lv_istore (lv' := [(6, .int r60), (5, .int r59), (4, .int r58), (3, .int r55), (0, .ref (a_t 0)), (1, .int x1), (2, .int x2)]) hx hb d_Mo_isDay_48 hl (by decide) rfl (fun ls hl => ?_)
      refine lv_iload hx hb d_Mo_isDay_50 (lv_at hl 2 rfl) ?_
      refine lv_sipush (v := 1970) hx hb d_Mo_isDay_52 (by decide) ?_
      refine lv_icmp_lt (tgt := 97) hx hb d_Mo_isDay_55 (by decide) (fun c61 => ?_) (fun c61 => ?_)
      · replace h := (if_pos c61).symm.trans h
        refine lv_iconst (v := 0) hx hb d_Mo_isDay_97 (by decide) ?_
        cases h
        exact W.zret hx hb hr rfl (fun t ht hW => ⟨⟨_, (), rfl, rfl, by rw [ht]; exact hP, hD⟩, hS.F ht⟩) hS.2.2 d_Mo_isDay_98
      · replace h := (if_neg c61).symm.trans h
        refine lv_iload hx hb d_Mo_isDay_58 (lv_at hl 2 rfl) ?_
        refine lv_sipush (v := 2999) hx hb d_Mo_isDay_60 (by decide) ?_
        refine lv_icmp_gt (tgt := 97) hx hb d_Mo_isDay_63 (by decide) (fun c62 => ?_) (fun c62 => ?_)
        · replace h := (if_pos c62).symm.trans h
          refine lv_iconst (v := 0) hx hb d_Mo_isDay_97 (by decide) ?_
          cases h
          exact W.zret hx hb hr rfl (fun t ht hW => ⟨⟨_, (), rfl, rfl, by rw [ht]; exact hP, hD⟩, hS.F ht⟩) hS.2.2 d_Mo_isDay_98
        · replace h := (if_neg c62).symm.trans h
          refine lv_iload hx hb d_Mo_isDay_66 (lv_at hl 1 rfl) ?_
          refine lv_iconst (v := 1) hx hb d_Mo_isDay_68 (by decide) ?_
          refine lv_icmp_lt (tgt := 97) hx hb d_Mo_isDay_69 (by decide) (fun c63 => ?_) (fun c63 => ?_)
          · replace h := (if_pos c63).symm.trans h
            refine lv_iconst (v := 0) hx hb d_Mo_isDay_97 (by decide) ?_
            cases h
            exact W.zret hx hb hr rfl (fun t ht hW => ⟨⟨_, (), rfl, rfl, by rw [ht]; exact hP, hD⟩, hS.F ht⟩) hS.2.2 d_Mo_isDay_98
          · replace h := (if_neg c63).symm.trans h
            refine lv_iload hx hb d_Mo_isDay_72 (lv_at hl 1 rfl) ?_
            refine lv_bipush (v := 12) hx hb d_Mo_isDay_74 (by decide) ?_
            refine lv_icmp_gt (tgt := 97) hx hb d_Mo_isDay_76 (by decide) (fun c64 => ?_) (fun c64 => ?_)
            · replace h := (if_pos c64).symm.trans h
              refine lv_iconst (v := 0) hx hb d_Mo_isDay_97 (by decide) ?_
              cases h
              exact W.zret hx hb hr rfl (fun t ht hW => ⟨⟨_, (), rfl, rfl, by rw [ht]; exact hP, hD⟩, hS.F ht⟩) hS.2.2 d_Mo_isDay_98
            · replace h := (if_neg c64).symm.trans h
              refine lv_iload hx hb d_Mo_isDay_79 (lv_at hl 0 rfl) ?_
              refine lv_iconst (v := 1) hx hb d_Mo_isDay_81 (by decide) ?_
              refine lv_icmp_lt (tgt := 97) hx hb d_Mo_isDay_82 (by decide) (fun c65 => ?_) (fun c65 => ?_)
              · replace h := (if_pos c65).symm.trans h
                refine lv_iconst (v := 0) hx hb d_Mo_isDay_97 (by decide) ?_
                cases h
                exact W.zret hx hb hr rfl (fun t ht hW => ⟨⟨_, (), rfl, rfl, by rw [ht]; exact hP, hD⟩, hS.F ht⟩) hS.2.2 d_Mo_isDay_98
              · replace h := (if_neg c65).symm.trans h
                refine lv_iload hx hb d_Mo_isDay_85 (lv_at hl 0 rfl) ?_
                refine lv_iload hx hb d_Mo_isDay_87 (lv_at hl 2 rfl) ?_
                refine lv_iload hx hb d_Mo_isDay_89 (lv_at hl 1 rfl) ?_
                obtain ⟨r66, hr66, h⟩ := Option.bind_eq_some_iff.mp h
                refine cl_Ir hP hS hA (va_runS (As := [.int r58, .int r59]) (rest := [.int r60]) ⟨hx, hb, hml, hown, htb⟩ (c_Mo_monthDays l g F r58 r59 _ hr66 H.size) (cw_S htb mb_Mo_monthDays (htb _ L_Mo_243) rfl rfl ⟨Nat.le_of_ble_eq_true rfl, Nat.le_of_ble_eq_true rfl⟩) (pre_S [] rfl rfl hP hD hS hA hAA hG) rfl rfl hl.1 rfl (lv_room (Nat.le_of_ble_eq_true rfl)) d_Mo_isDay_91 ⟨Nat.zero_le _, Nat.zero_le _⟩) (fun H locs hP hS => ?_)
                refine lv_icmp_le (tgt := 99) hx hb d_Mo_isDay_94 (by decide) (fun c67 => ?_) (fun c67 => ?_)
                · replace h := (if_pos c67).symm.trans h
                  refine lv_aload_n hx hb d_Mo_isDay_99 rfl (lv_at hl 4 rfl) ?_
                  refine lv_iload hx hb d_Mo_isDay_100 (lv_at hl 0 rfl) ?_
                  refine lv_iconst (v := 1) hx hb d_Mo_isDay_102 (by decide) ?_
                  refine lv_isub hx hb d_Mo_isDay_103 ?_
                  refine va_put (D := gD g) (ci := 8) (v := .int (r60 - (1 : Int32))) (ty := .int) (C := R_Mo) (T := T_Mo) (N := 64) hx hb htb in_Mo ty_Mo ty_Mo_ok nm_Mo hown hK hP hD hS 0 rfl rfl 56 (by decide) (htb _ L_Mo_246) (fun _ h9 => h9) rfl (by decide +kernel) rfl rfl (Nat.le_of_ble_eq_true rfl) d_Mo_isDay_104 (fun H locs hP hD hS => ?_)
                  obtain ⟨t_68, et_68, h⟩ := letS_el h
                  have hP : va_P (gD g) vwCl ((pic_Mo g a_t t_68 tL)) H := by rw [et_68]; exact hP
                  have hD : va_D A ((pic_Mo g a_t t_68 tL)) := by rw [et_68]; exact hD
                  refine lv_sipush (v := 1970) hx hb d_Mo_isDay_107 (by decide) ?_
                  refine lv_istore (lv' := [(7, .int (1970 : Int32)), (6, .int r60), (5, .int r59), (4, .int r58), (3, .int r55), (0, .ref (a_t 0)), (1, .int x1), (2, .int x2)]) hx hb d_Mo_isDay_110 hl (by decide) rfl (fun ls hl => ?_)
                  exact k_Mo_isDay_112 hC F _ _ _ _ _ _ h _ _ _ hP hD hS (lv_sub hl [5, 3, 2, 0] rfl)
                · replace h := (if_neg c67).symm.trans h
                  refine lv_iconst (v := 0) hx hb d_Mo_isDay_97 (by decide) ?_
                  cases h
                  exact W.zret hx hb hr rfl (fun t ht hW => ⟨⟨_, (), rfl, rfl, by rw [ht]; exact hP, hD⟩, hS.F ht⟩) hS.2.2 d_Mo_isDay_98
theorem c_Mo_isDay (l : Launch) (g : Gz) (F : Nat) (a_t : Nat → Nat) (t : StI) (tL : StL) (x1 : Int32) (x2 : Int32) (res : Int32 × StI × StL) (h : Mo_isDay F t tL x1 x2 = some res) : ∀ sz : Nat, Met l y_Mo_isDay (.code y_Mo_isDay prog_10_method_25_code 8 (some .boolean) :: TBL) rm_Mo_isDay (va_Pc [.ref (a_t 0), .int x1, .int x2] (Pre0 g ((pic_Mo g a_t t tL)) sz)) (EI g ((pic_Mo g a_t res.2.1 res.2.2)) res.1 (va_A ((pic_Mo g a_t t tL)) sz)) 0 0 (va_A ((pic_Mo g a_t t tL)) sz) :=
  ct_w (Qc := fun A => EI g ((pic_Mo g a_t res.2.1 res.2.2)) res.1 A) (by decide) (Nat.le_of_ble_eq_true rfl) (fun p e s m args below meth c A hC => k_Mo_isDay hC t tL x1 x2 res h)
def Mo_isBytes_104 (F : Nat) (t : StI) (tL : StL) (y0 : Int64) (y1 : Int64) : Option (Int32 × StI × StL) := letS (va_up tL 57 (fun _ => (y1 * y0))) fun t_17 => if (lg_cmp (y1 * y0) (2147483647 : Int64)) ≤ 0 then letS (va_up t 56 (fun _ => (y1 * y0).toInt32)) fun t_19 => some ((1 : Int32), t_19, t_17) else letS (va_up t 56 (fun _ => (2147483647 : Int32))) fun t_20 => some ((1 : Int32), t_20, t_17)
def Mo_isBytes_70 (F : Nat) (t : StI) (tL : StL) (x1 : Int32) (x3 : Int32) (x4 : Int32) : Option (Int32 × StI × StL) := (Mo_number F t tL x1 x3).bind fun r21 => if x4 = (107 : Int32) then Mo_isBytes_104 F t tL (1024 : Int64) r21.toInt64 else if x4 = (109 : Int32) then Mo_isBytes_104 F t tL (1048576 : Int64) r21.toInt64 else Mo_isBytes_104 F t tL (1 : Int64) r21.toInt64
def Mo_isBytes_47 (F : Nat) (t : StI) (tL : StL) (x1 : Int32) (x3 : Int32) (y0 : Int32) : Option (Int32 × StI × StL) := if y0 = 0 then Mo_isBytes_70 F t tL x1 x3 y0 else if y0 = (107 : Int32) then Mo_isBytes_70 F t tL x1 x3 y0 else if y0 = (109 : Int32) then Mo_isBytes_70 F t tL x1 x3 y0 else some ((0 : Int32), t, tL)
def Mo_isBytes (F : Nat) (t : StI) (tL : StL) (x1 : Int32) (x2 : Int32) : Option (Int32 × StI × StL) := (Mo_digits F t tL x1 x2).bind fun r27 => if r27 < (1 : Int32) then some ((0 : Int32), t, tL) else if (7 : Int32) < r27 then some ((0 : Int32), t, tL) else if (x2 - x1) ≤ (r27 + (1 : Int32)) then if (x2 - x1) = r27 then Mo_isBytes_47 F t tL x1 r27 (0 : Int32) else (Mo_see F t tL (x1 + r27)).bind fun r32 => Mo_isBytes_47 F t tL x1 r27 r32 else some ((0 : Int32), t, tL)
set_option maxHeartbeats 4000000 in
set_option maxRecDepth 100000 in
theorem k_Mo_isBytes_104 {p : Program} {l : Launch} {e : Env} {s : State} {m : MethodId} {args : Array Value} {below : List Frame} {meth : Method} {c : Code} {g : Gz} {A : Nat → Prop} {F : Nat} {a_t : Nat → Nat} (hC : Cx prog_10_method_26_code 7 (some .boolean) R_Mo p s m args meth c g A A) : ∀ (t : StI) (tL : StL) (y0 : Int64) (y1 : Int64) (res : Int32 × StI × StL), Mo_isBytes_104 F t tL y0 y1 = some res → Go p l e rm_Mo_isBytes s m args below meth c g A A 7 (MQ below (EI g ((pic_Mo g a_t res.2.1 res.2.2)) res.1 A) args s 0 0 A) ((pic_Mo g a_t t tL)) [(0, .ref (a_t 0))] 104 [.long y0, .long y1] := by
  obtain ⟨hx, hb, hr, hml, hown, htb, hlocks, hA, hAA, hG⟩ := id hC
  have hK := hG.1
  intro t tL y0 y1 res h H locs ls hP hD hS hl
  rw [Mo_isBytes_104] at h
  refine lv_lmul hx hb d_Mo_isBytes_104 ?_
  refine lv_lstore (lv' := [(5, .long (y1 * y0)), (0, .ref (a_t 0))]) hx hb d_Mo_isBytes_105 hl (by decide) rfl (fun ls hl => ?_)
  refine lv_aload_n hx hb d_Mo_isBytes_107 rfl (lv_at hl 1 rfl) ?_
  refine lv_lload hx hb d_Mo_isBytes_108 (lv_at hl 0 rfl) ?_
  refine va_put (D := gD g) (ci := 8) (v := .long (y1 * y0)) (ty := .long) (C := R_Mo) (T := T_Mo) (N := 64) hx hb htb in_Mo ty_Mo ty_Mo_ok nm_Mo hown hK hP hD hS 0 rfl rfl 57 (by decide) (htb _ L_Mo_253) (fun _ h9 => h9) rfl (by decide +kernel) rfl rfl (Nat.le_of_ble_eq_true rfl) d_Mo_isBytes_110 (fun H locs hP hD hS => ?_)
  obtain ⟨t_17, et_17, h⟩ := letS_el h
  have hP : va_P (gD g) vwCl ((pic_Mo g a_t t t_17)) H := by rw [et_17]; exact hP
  have hD : va_D A ((pic_Mo g a_t t t_17)) := by rw [et_17]; exact hD
  refine lv_aload_n hx hb d_Mo_isBytes_113 rfl (lv_at hl 1 rfl) ?_
  refine lv_lload hx hb d_Mo_isBytes_114 (lv_at hl 0 rfl) ?_
  refine lv_ldc2 (v := 2147483647) hx hb hown (htb _ K_Mo_257) d_Mo_isBytes_116 ?_
  refine W.lcmp hx hb d_Mo_isBytes_119 ?_
  refine lv_if_le (tgt := 129) hx hb d_Mo_isBytes_120 (by decide) (fun c18 => ?_) (fun c18 => ?_)
  · replace h := (if_pos c18).symm.trans h
    refine lv_lload hx hb d_Mo_isBytes_129 (lv_at hl 0 rfl) ?_
    refine lv_l2i hx hb d_Mo_isBytes_131 rfl ?_
    refine va_put (D := gD g) (ci := 8) (v := .int ((y1 * y0).toInt32)) (ty := .int) (C := R_Mo) (T := T_Mo) (N := 64) hx hb htb in_Mo ty_Mo ty_Mo_ok nm_Mo hown hK hP hD hS 0 rfl rfl 56 (by decide) (htb _ L_Mo_246) (fun _ h9 => h9) rfl (by decide +kernel) rfl rfl (Nat.le_of_ble_eq_true rfl) d_Mo_isBytes_132 (fun H locs hP hD hS => ?_)
    obtain ⟨t_19, et_19, h⟩ := letS_el h
    have hP : va_P (gD g) vwCl ((pic_Mo g a_t t_19 t_17)) H := by rw [et_19]; exact hP
    have hD : va_D A ((pic_Mo g a_t t_19 t_17)) := by rw [et_19]; exact hD
    refine lv_iconst (v := 1) hx hb d_Mo_isBytes_135 (by decide) ?_
    cases h
    exact W.zret hx hb hr rfl (fun t ht hW => ⟨⟨_, (), rfl, rfl, by rw [ht]; exact hP, hD⟩, hS.F ht⟩) hS.2.2 d_Mo_isBytes_136
  · replace h := (if_neg c18).symm.trans h
    refine lv_ldcw (v := 2147483647) hx hb hown (htb _ K_Mo_259) d_Mo_isBytes_123 ?_
    refine lv_goto (tgt := 132) hx hb d_Mo_isBytes_126 (by decide) ?_
    refine va_put (D := gD g) (ci := 8) (v := .int (2147483647 : Int32)) (ty := .int) (C := R_Mo) (T := T_Mo) (N := 64) hx hb htb in_Mo ty_Mo ty_Mo_ok nm_Mo hown hK hP hD hS 0 rfl rfl 56 (by decide) (htb _ L_Mo_246) (fun _ h9 => h9) rfl (by decide +kernel) rfl rfl (Nat.le_of_ble_eq_true rfl) d_Mo_isBytes_132 (fun H locs hP hD hS => ?_)
    obtain ⟨t_20, et_20, h⟩ := letS_el h
    have hP : va_P (gD g) vwCl ((pic_Mo g a_t t_20 t_17)) H := by rw [et_20]; exact hP
    have hD : va_D A ((pic_Mo g a_t t_20 t_17)) := by rw [et_20]; exact hD
    refine lv_iconst (v := 1) hx hb d_Mo_isBytes_135 (by decide) ?_
    cases h
    exact W.zret hx hb hr rfl (fun t ht hW => ⟨⟨_, (), rfl, rfl, by rw [ht]; exact hP, hD⟩, hS.F ht⟩) hS.2.2 d_Mo_isBytes_136
set_option maxHeartbeats 4000000 in
set_option maxRecDepth 100000 in
theorem k_Mo_isBytes_70 {p : Program} {l : Launch} {e : Env} {s : State} {m : MethodId} {args : Array Value} {below : List Frame} {meth : Method} {c : Code} {g : Gz} {A : Nat → Prop} {F : Nat} {a_t : Nat → Nat} (hC : Cx prog_10_method_26_code 7 (some .boolean) R_Mo p s m args meth c g A A) : ∀ (t : StI) (tL : StL) (x1 : Int32) (x3 : Int32) (x4 : Int32) (res : Int32 × StI × StL), Mo_isBytes_70 F t tL x1 x3 x4 = some res → Go p l e rm_Mo_isBytes s m args below meth c g A A 7 (MQ below (EI g ((pic_Mo g a_t res.2.1 res.2.2)) res.1 A) args s 0 0 A) ((pic_Mo g a_t t tL)) [(0, .ref (a_t 0)), (1, .int x1), (3, .int x3), (4, .int x4)] 70 [] := by
  obtain ⟨hx, hb, hr, hml, hown, htb, hlocks, hA, hAA, hG⟩ := id hC
  have hK := hG.1
  intro t tL x1 x3 x4 res h H locs ls hP hD hS hl
  rw [Mo_isBytes_70] at h
  refine lv_aload_n hx hb d_Mo_isBytes_70 rfl (lv_at hl 0 rfl) ?_
  refine lv_iload_n hx hb d_Mo_isBytes_71 rfl (lv_at hl 1 rfl) ?_
  refine lv_iload_n hx hb d_Mo_isBytes_72 rfl (lv_at hl 2 rfl) ?_
  obtain ⟨r21, hr21, h⟩ := Option.bind_eq_some_iff.mp h
  refine cl_Ir hP hS hA (va_runV (As := [.int x1, .int x3]) (rest := []) ⟨hx, hb, hml, hown, htb⟩ (c_Mo_number l g F a_t t tL x1 x3 _ hr21 H.size) (cw_V htb mb_Mo_number (htb _ L_Mo_240) rfl rfl ⟨Nat.le_of_ble_eq_true rfl, Nat.le_of_ble_eq_true rfl⟩) (pre_V (va_recv hK hP (ci := 8) (q0 := 0) rfl rfl) (pre_S [0, 1, 2, 3, 4, 5, 6, 7, 8, 9, 10, 11, 12, 13, 14, 15, 16, 17, 18, 19, 20, 21, 22, 23, 24, 25, 26, 27, 28, 29, 30, 31, 32] rfl rfl hP hD hS hA hAA hG)) rfl rfl hl.1 rfl (lv_room (Nat.le_of_ble_eq_true rfl)) d_Mo_isBytes_73 ⟨Nat.zero_le _, Nat.zero_le _⟩) (fun H locs hP hS => ?_)
  refine lv_i2l hx hb d_Mo_isBytes_76 rfl ?_
  refine lv_iload hx hb d_Mo_isBytes_77 (lv_at hl 3 rfl) ?_
  refine lv_bipush (v := 107) hx hb d_Mo_isBytes_79 (by decide) ?_
  refine lv_icmp_ne (tgt := 90) hx hb d_Mo_isBytes_81 (by decide) (fun c22 => ?_) (fun c22 => ?_)
  · replace h := (if_neg c22).symm.trans h
    refine lv_iload hx hb d_Mo_isBytes_90 (lv_at hl 3 rfl) ?_
    refine lv_bipush (v := 109) hx hb d_Mo_isBytes_92 (by decide) ?_
    refine lv_icmp_ne (tgt := 103) hx hb d_Mo_isBytes_94 (by decide) (fun c23 => ?_) (fun c23 => ?_)
    · replace h := (if_neg c23).symm.trans h
      refine lv_lconst (v := 1) hx hb d_Mo_isBytes_103 (by decide) ?_
      exact k_Mo_isBytes_104 hC _ _ _ _ _ h _ _ _ hP hD hS (lv_sub hl [0] rfl)
    · replace h := (if_pos c23).symm.trans h
      refine lv_ldc2 (v := 1048576) hx hb hown (htb _ K_Mo_251) d_Mo_isBytes_97 ?_
      refine lv_goto (tgt := 104) hx hb d_Mo_isBytes_100 (by decide) ?_
      exact k_Mo_isBytes_104 hC _ _ _ _ _ h _ _ _ hP hD hS (lv_sub hl [0] rfl)
  · replace h := (if_pos c22).symm.trans h
    refine lv_ldc2 (v := 1024) hx hb hown (htb _ K_Mo_249) d_Mo_isBytes_84 ?_
    refine lv_goto (tgt := 104) hx hb d_Mo_isBytes_87 (by decide) ?_
    exact k_Mo_isBytes_104 hC _ _ _ _ _ h _ _ _ hP hD hS (lv_sub hl [0] rfl)
set_option maxHeartbeats 4000000 in
set_option maxRecDepth 100000 in
theorem k_Mo_isBytes_47 {p : Program} {l : Launch} {e : Env} {s : State} {m : MethodId} {args : Array Value} {below : List Frame} {meth : Method} {c : Code} {g : Gz} {A : Nat → Prop} {F : Nat} {a_t : Nat → Nat} (hC : Cx prog_10_method_26_code 7 (some .boolean) R_Mo p s m args meth c g A A) : ∀ (t : StI) (tL : StL) (x1 : Int32) (x3 : Int32) (y0 : Int32) (res : Int32 × StI × StL), Mo_isBytes_47 F t tL x1 x3 y0 = some res → Go p l e rm_Mo_isBytes s m args below meth c g A A 7 (MQ below (EI g ((pic_Mo g a_t res.2.1 res.2.2)) res.1 A) args s 0 0 A) ((pic_Mo g a_t t tL)) [(0, .ref (a_t 0)), (1, .int x1), (3, .int x3)] 47 [.int y0] := by
  obtain ⟨hx, hb, hr, hml, hown, htb, hlocks, hA, hAA, hG⟩ := id hC
  have hK := hG.1
  intro t tL x1 x3 y0 res h H locs ls hP hD hS hl
  rw [Mo_isBytes_47] at h
  refine lv_istore (lv' := [(4, .int y0), (0, .ref (a_t 0)), (1, .int x1), (3, .int x3)]) hx hb d_Mo_isBytes_47 hl (by decide) rfl (fun ls hl => ?_)
  refine lv_iload hx hb d_Mo_isBytes_49 (lv_at hl 0 rfl) ?_
  refine lv_if_eq (tgt := 70) hx hb d_Mo_isBytes_51 (by decide) (fun c24 => ?_) (fun c24 => ?_)
  · replace h := (if_pos c24).symm.trans h
    exact k_Mo_isBytes_70 hC _ _ _ _ _ _ h _ _ _ hP hD hS (lv_sub hl [1, 2, 3, 0] rfl)
  · replace h := (if_neg c24).symm.trans h
    refine lv_iload hx hb d_Mo_isBytes_54 (lv_at hl 0 rfl) ?_
    refine lv_bipush (v := 107) hx hb d_Mo_isBytes_56 (by decide) ?_
    refine lv_icmp_eq (tgt := 70) hx hb d_Mo_isBytes_58 (by decide) (fun c25 => ?_) (fun c25 => ?_)
    · replace h := (if_pos c25).symm.trans h
      exact k_Mo_isBytes_70 hC _ _ _ _ _ _ h _ _ _ hP hD hS (lv_sub hl [1, 2, 3, 0] rfl)
    · replace h := (if_neg c25).symm.trans h
      refine lv_iload hx hb d_Mo_isBytes_61 (lv_at hl 0 rfl) ?_
      refine lv_bipush (v := 109) hx hb d_Mo_isBytes_63 (by decide) ?_
      refine lv_icmp_eq (tgt := 70) hx hb d_Mo_isBytes_65 (by decide) (fun c26 => ?_) (fun c26 => ?_)
      · replace h := (if_pos c26).symm.trans h
        exact k_Mo_isBytes_70 hC _ _ _ _ _ _ h _ _ _ hP hD hS (lv_sub hl [1, 2, 3, 0] rfl)
      · replace h := (if_neg c26).symm.trans h
        refine lv_iconst (v := 0) hx hb d_Mo_isBytes_68 (by decide) ?_
        cases h
        exact W.zret hx hb hr rfl (fun t ht hW => ⟨⟨_, (), rfl, rfl, by rw [ht]; exact hP, hD⟩, hS.F ht⟩) hS.2.2 d_Mo_isBytes_69
set_option maxHeartbeats 4000000 in
set_option maxRecDepth 100000 in
theorem k_Mo_isBytes {p : Program} {l : Launch} {e : Env} {s : State} {m : MethodId} {args : Array Value} {below : List Frame} {meth : Method} {c : Code} {g : Gz} {A : Nat → Prop} {F : Nat} {a_t : Nat → Nat} (hC : Cx prog_10_method_26_code 7 (some .boolean) R_Mo p s m args meth c g A A) : ∀ (t : StI) (tL : StL) (x1 : Int32) (x2 : Int32) (res : Int32 × StI × StL), Mo_isBytes F t tL x1 x2 = some res → Go p l e rm_Mo_isBytes s m args below meth c g A A 7 (MQ below (EI g ((pic_Mo g a_t res.2.1 res.2.2)) res.1 A) args s 0 0 A) ((pic_Mo g a_t t tL)) [(0, .ref (a_t 0)), (1, .int x1), (2, .int x2)] 0 [] := by
  obtain ⟨hx, hb, hr, hml, hown, htb, hlocks, hA, hAA, hG⟩ := id hC
  have hK := hG.1
  intro t tL x1 x2 res h H locs ls hP hD hS hl
  rw [Mo_isBytes] at h
  refine lv_aload_n hx hb d_Mo_isBytes_0 rfl (lv_at hl 0 rfl) ?_
  refine lv_iload_n hx hb d_Mo_isBytes_1 rfl (lv_at hl 1 rfl) ?_
  refine lv_iload_n hx hb d_Mo_isBytes_2 rfl (lv_at hl 2 rfl) ?_
  obtain ⟨r27, hr27, h⟩ := Option.bind_eq_some_iff.mp h
  refine cl_Ir hP hS hA (va_runV (As := [.int x1, .int x2]) (rest := []) ⟨hx, hb, hml, hown, htb⟩ (c_Mo_digits l g F a_t t tL x1 x2 _ hr27 H.size) (cw_V htb mb_Mo_digits (htb _ L_Mo_237) rfl rfl ⟨Nat.le_of_ble_eq_true rfl, Nat.le_of_ble_eq_true rfl⟩) (pre_V (va_recv hK hP (ci := 8) (q0 := 0) rfl rfl) (pre_S [0, 1, 2, 3, 4, 5, 6, 7, 8, 9, 10, 11, 12, 13, 14, 15, 16, 17, 18, 19, 20, 21, 22, 23, 24, 25, 26, 27, 28, 29, 30, 31, 32] rfl rfl hP hD hS hA hAA hG)) rfl rfl hl.1 rfl (lv_room (Nat.le_of_ble_eq_true rfl)) d_Mo_isBytes_3 ⟨Nat.zero_le _, Nat.zero_le _⟩) (fun H locs hP hS => ?_)
  refine lv_istore_n (lv' := [(3, .int r27), (0, .ref (a_t 0)), (1, .int x1), (2, .int x2)]) hx hb d_Mo_isBytes_6 rfl hl (by decide) rfl (fun ls hl => ?_)
  refine lv_iload_n hx hb d_Mo_isBytes_7 rfl (lv_at hl 0 rfl) ?_
  refine lv_iconst (v := 1) hx hb d_Mo_isBytes_8 (by decide) ?_
  refine lv_icmp_lt (tgt := 27) hx hb d_Mo_isBytes_9 (by decide) (fun c28 => ?_) (fun c28 => ?_)
  · replace h := (if_pos c28).symm.trans h
    refine lv_iconst (v := 0) hx hb d_Mo_isBytes_27 (by decide) ?_
    cases h
    exact W.zret hx hb hr rfl (fun t ht hW => ⟨⟨_, (), rfl, rfl, by rw [ht]; exact hP, hD⟩, hS.F ht⟩) hS.2.2 d_Mo_isBytes_28
  · replace h := (if_neg c28).symm.trans h
    refine lv_iload_n hx hb d_Mo_isBytes_12 rfl (lv_at hl 0 rfl) ?_
    refine lv_bipush (v := 7) hx hb d_Mo_isBytes_13 (by decide) ?_
    refine lv_icmp_gt (tgt := 27) hx hb d_Mo_isBytes_15 (by decide) (fun c29 => ?_) (fun c29 => ?_)
    · replace h := (if_pos c29).symm.trans h
      refine lv_iconst (v := 0) hx hb d_Mo_isBytes_27 (by decide) ?_
      cases h
      exact W.zret hx hb hr rfl (fun t ht hW => ⟨⟨_, (), rfl, rfl, by rw [ht]; exact hP, hD⟩, hS.F ht⟩) hS.2.2 d_Mo_isBytes_28
    · replace h := (if_neg c29).symm.trans h
      refine lv_iload_n hx hb d_Mo_isBytes_18 rfl (lv_at hl 3 rfl) ?_
      refine lv_iload_n hx hb d_Mo_isBytes_19 rfl (lv_at hl 2 rfl) ?_
      refine lv_isub hx hb d_Mo_isBytes_20 ?_
      refine lv_iload_n hx hb d_Mo_isBytes_21 rfl (lv_at hl 0 rfl) ?_
      refine lv_iconst (v := 1) hx hb d_Mo_isBytes_22 (by decide) ?_
      refine lv_iadd hx hb d_Mo_isBytes_23 ?_
      refine lv_icmp_le (tgt := 29) hx hb d_Mo_isBytes_24 (by decide) (fun c30 => ?_) (fun c30 => ?_)
      · replace h := (if_pos c30).symm.trans h
        refine lv_iload_n hx hb d_Mo_isBytes_29 rfl (lv_at hl 3 rfl) ?_
        refine lv_iload_n hx hb d_Mo_isBytes_30 rfl (lv_at hl 2 rfl) ?_
        refine lv_isub hx hb d_Mo_isBytes_31 ?_
        refine lv_iload_n hx hb d_Mo_isBytes_32 rfl (lv_at hl 0 rfl) ?_
        refine lv_icmp_ne (tgt := 40) hx hb d_Mo_isBytes_33 (by decide) (fun c31 => ?_) (fun c31 => ?_)
        · replace h := (if_neg c31).symm.trans h
          refine lv_aload_n hx hb d_Mo_isBytes_40 rfl (lv_at hl 1 rfl) ?_
          refine lv_iload_n hx hb d_Mo_isBytes_41 rfl (lv_at hl 2 rfl) ?_
          refine lv_iload_n hx hb d_Mo_isBytes_42 rfl (lv_at hl 0 rfl) ?_
          refine lv_iadd hx hb d_Mo_isBytes_43 ?_
          obtain ⟨r32, hr32, h⟩ := Option.bind_eq_some_iff.mp h
          refine cl_Ir hP hS hA (va_runV (As := [.int (x1 + r27)]) (rest := []) ⟨hx, hb, hml, hown, htb⟩ (c_Mo_see l g F a_t t tL (x1 + r27) _ hr32 H.size) (cw_V htb mb_Mo_see (htb _ L_Mo_160) rfl rfl ⟨Nat.le_of_ble_eq_true rfl, Nat.le_of_ble_eq_true rfl⟩) (pre_V (va_recv hK hP (ci := 8) (q0 := 0) rfl rfl) (pre_S [0, 1, 2, 3, 4, 5, 6, 7, 8, 9, 10, 11, 12, 13, 14, 15, 16, 17, 18, 19, 20, 21, 22, 23, 24, 25, 26, 27, 28, 29, 30, 31, 32] rfl rfl hP hD hS hA hAA hG)) rfl rfl hl.1 rfl (lv_room (Nat.le_of_ble_eq_true rfl)) d_Mo_isBytes_44 ⟨Nat.zero_le _, Nat.zero_le _⟩) (fun H locs hP hS => ?_)
          exact k_Mo_isBytes_47 hC _ _ _ _ _ _ h _ _ _ hP hD hS (lv_sub hl [1, 2, 0] rfl)
        · replace h := (if_pos c31).symm.trans h
          refine lv_iconst (v := 0) hx hb d_Mo_isBytes_36 (by decide) ?_
          refine lv_goto (tgt := 47) hx hb d_Mo_isBytes_37 (by decide) ?_
          exact k_Mo_isBytes_47 hC _ _ _ _ _ _ h _ _ _ hP hD hS (lv_sub hl [1, 2, 0] rfl)
      · replace h := (if_neg c30).symm.trans h
        refine lv_iconst (v := 0) hx hb d_Mo_isBytes_27 (by decide) ?_
        cases h
        exact W.zret hx hb hr rfl (fun t ht hW => ⟨⟨_, (), rfl, rfl, by rw [ht]; exact hP, hD⟩, hS.F ht⟩) hS.2.2 d_Mo_isBytes_28
theorem c_Mo_isBytes (l : Launch) (g : Gz) (F : Nat) (a_t : Nat → Nat) (t : StI) (tL : StL) (x1 : Int32) (x2 : Int32) (res : Int32 × StI × StL) (h : Mo_isBytes F t tL x1 x2 = some res) : ∀ sz : Nat, Met l y_Mo_isBytes (.code y_Mo_isBytes prog_10_method_26_code 7 (some .boolean) :: TBL) rm_Mo_isBytes (va_Pc [.ref (a_t 0), .int x1, .int x2] (Pre0 g ((pic_Mo g a_t t tL)) sz)) (EI g ((pic_Mo g a_t res.2.1 res.2.2)) res.1 (va_A ((pic_Mo g a_t t tL)) sz)) 0 0 (va_A ((pic_Mo g a_t t tL)) sz) :=
  ct_w (Qc := fun A => EI g ((pic_Mo g a_t res.2.1 res.2.2)) res.1 A) (by decide) (Nat.le_of_ble_eq_true rfl) (fun p e s m args below meth c A hC => k_Mo_isBytes hC t tL x1 x2 res h)
