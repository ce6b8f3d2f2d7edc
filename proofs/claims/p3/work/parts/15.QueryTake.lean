theorem L_Query_48 : (Jvm.Cond.fieldLink "MailQueries$Query" (48 : Nat) "MailQueries$Query" "often" "[I") ∈ TBL := TBL_in (List.mem_of_getElem? (i := 162) (by decide +kernel)) (by decide +kernel)
theorem L_Query_103 : (Jvm.Cond.methodLink "MailQueries$Query" (103 : Nat) ({ cls := "MailQueries$Query", name := "append", desc := "(I)V" } : Jvm.MethodName)) ∈ TBL := TBL_in (List.mem_of_getElem? (i := 861) (by decide +kernel)) (by decide +kernel)
theorem L_Query_45 : (Jvm.Cond.fieldLink "MailQueries$Query" (45 : Nat) "MailQueries$Query" "greatest" "[I") ∈ TBL := TBL_in (List.mem_of_getElem? (i := 160) (by decide +kernel)) (by decide +kernel)
theorem L_Query_42 : (Jvm.Cond.fieldLink "MailQueries$Query" (42 : Nat) "MailQueries$Query" "least" "[I") ∈ TBL := TBL_in (List.mem_of_getElem? (i := 158) (by decide +kernel)) (by decide +kernel)
theorem L_Query_89 : (Jvm.Cond.methodLink "MailQueries$Query" (89 : Nat) ({ cls := "MailQueries$Query", name := "alike", desc := "(IZII)I" } : Jvm.MethodName)) ∈ TBL := TBL_in (List.mem_of_getElem? (i := 849) (by decide +kernel)) (by decide +kernel)
theorem L_Query_93 : (Jvm.Cond.methodLink "MailQueries$Query" (93 : Nat) ({ cls := "MailQueries$Query", name := "find", desc := "(III)I" } : Jvm.MethodName)) ∈ TBL := TBL_in (List.mem_of_getElem? (i := 860) (by decide +kernel)) (by decide +kernel)
theorem L_Query_39 : (Jvm.Cond.fieldLink "MailQueries$Query" (39 : Nat) "MailQueries$Query" "star" "[I") ∈ TBL := TBL_in (List.mem_of_getElem? (i := 156) (by decide +kernel)) (by decide +kernel)
set_option maxRecDepth 100000 in
theorem W_Query_take_code : (Jvm.Cond.code ({ cls := "MailQueries$Query", name := "take", desc := "(IZIILMailQueries$Span;)V" } : Jvm.MethodName) prog_5_method_11_code (9 : Nat) (Option.none : Option Jvm.ClassFile.FieldType)) ∈ TBL := TBL_in (List.mem_of_getElem? (i := 848) rfl) rfl
theorem W_Query_take_in : (Jvm.Cond.instanceMethod ({ cls := "MailQueries$Query", name := "take", desc := "(IZIILMailQueries$Span;)V" } : Jvm.MethodName)) ∈ TBL := TBL_in (List.mem_of_getElem? (i := 846) (by decide +kernel)) (by decide +kernel)
theorem W_Query_take_se : (Jvm.Cond.selects "MailQueries$Query" ({ cls := "MailQueries$Query", name := "take", desc := "(IZIILMailQueries$Span;)V" } : Jvm.MethodName) ({ cls := "MailQueries$Query", name := "take", desc := "(IZIILMailQueries$Span;)V" } : Jvm.MethodName)) ∈ TBL := TBL_in (List.mem_of_getElem? (i := 847) (by decide +kernel)) (by decide +kernel)
theorem L_Query_57 : (Jvm.Cond.methodLink "MailQueries$Query" (57 : Nat) ({ cls := "java/lang/Math", name := "min", desc := "(II)I" } : Jvm.MethodName)) ∈ TBL := TBL_in (List.mem_of_getElem? (i := 692) (by decide +kernel)) (by decide +kernel)
theorem W_math_min_static : (Jvm.Cond.static ({ cls := "java/lang/Math", name := "min", desc := "(II)I" } : Jvm.MethodName)) ∈ TBL := TBL_in (List.mem_of_getElem? (i := 564) (by decide +kernel)) (by decide +kernel)
theorem W_math_init : (Jvm.Cond.initialized "java/lang/Math") ∈ TBL := TBL_in (List.mem_of_getElem? (i := 111) (by decide +kernel)) (by decide +kernel)
set_option maxRecDepth 100000 in
theorem W_math_min_code : (Jvm.Cond.code ({ cls := "java/lang/Math", name := "min", desc := "(II)I" } : Jvm.MethodName) prog_14_method_69_code (2 : Nat) (Option.some Jvm.ClassFile.FieldType.int)) ∈ TBL := TBL_in (List.mem_of_getElem? (i := 565) rfl) rfl
theorem L_Query_63 : (Jvm.Cond.methodLink "MailQueries$Query" (63 : Nat) ({ cls := "java/lang/Math", name := "max", desc := "(II)I" } : Jvm.MethodName)) ∈ TBL := TBL_in (List.mem_of_getElem? (i := 693) (by decide +kernel)) (by decide +kernel)
theorem W_math_max_static : (Jvm.Cond.static ({ cls := "java/lang/Math", name := "max", desc := "(II)I" } : Jvm.MethodName)) ∈ TBL := TBL_in (List.mem_of_getElem? (i := 567) (by decide +kernel)) (by decide +kernel)
set_option maxRecDepth 100000 in
theorem W_math_max_code : (Jvm.Cond.code ({ cls := "java/lang/Math", name := "max", desc := "(II)I" } : Jvm.MethodName) prog_14_method_65_code (2 : Nat) (Option.some Jvm.ClassFile.FieldType.int)) ∈ TBL := TBL_in (List.mem_of_getElem? (i := 568) rfl) rfl
set_option maxRecDepth 100000 in
theorem W_Query_begin_code : (Jvm.Cond.code ({ cls := "MailQueries$Query", name := "begin", desc := "([CI)V" } : Jvm.MethodName) prog_5_method_2_code (3 : Nat) (Option.none : Option Jvm.ClassFile.FieldType)) ∈ TBL := TBL_in (List.mem_of_getElem? (i := 691) rfl) rfl
theorem W_Query_begin_in : (Jvm.Cond.instanceMethod ({ cls := "MailQueries$Query", name := "begin", desc := "([CI)V" } : Jvm.MethodName)) ∈ TBL := TBL_in (List.mem_of_getElem? (i := 689) (by decide +kernel)) (by decide +kernel)
theorem W_Query_begin_se : (Jvm.Cond.selects "MailQueries$Query" ({ cls := "MailQueries$Query", name := "begin", desc := "([CI)V" } : Jvm.MethodName) ({ cls := "MailQueries$Query", name := "begin", desc := "([CI)V" } : Jvm.MethodName)) ∈ TBL := TBL_in (List.mem_of_getElem? (i := 690) (by decide +kernel)) (by decide +kernel)
def y_Query_take : MethodName := ⟨"MailQueries$Query", "take", "(IZIILMailQueries$Span;)V"⟩
def rm_Query_take : Room := { frames := 3, cells := 0, slots := 0, locals := 83 }
theorem d_Query_take_0 : decode prog_5_method_11_code 0 = .ok (.aload_n 0, 1) := by decide +kernel
theorem d_Query_take_1 : decode prog_5_method_11_code 1 = .ok (.iload_n 1, 1) := by decide +kernel
theorem d_Query_take_2 : decode prog_5_method_11_code 2 = .ok (.iload_n 2, 1) := by decide +kernel
theorem d_Query_take_3 : decode prog_5_method_11_code 3 = .ok (.iload_n 3, 1) := by decide +kernel
theorem d_Query_take_4 : decode prog_5_method_11_code 4 = .ok (.iload 4, 2) := by decide +kernel
theorem d_Query_take_6 : decode prog_5_method_11_code 6 = .ok (.invokevirtual 89, 3) := by decide +kernel
theorem d_Query_take_9 : decode prog_5_method_11_code 9 = .ok (.istore 6, 2) := by decide +kernel
theorem d_Query_take_11 : decode prog_5_method_11_code 11 = .ok (.iload 6, 2) := by decide +kernel
theorem d_Query_take_13 : decode prog_5_method_11_code 13 = .ok (.iconst (-1), 1) := by decide +kernel
theorem d_Query_take_14 : decode prog_5_method_11_code 14 = .ok (.if_icmp .ne 163, 3) := by decide +kernel
theorem d_Query_take_17 : decode prog_5_method_11_code 17 = .ok (.aload_n 0, 1) := by decide +kernel
theorem d_Query_take_18 : decode prog_5_method_11_code 18 = .ok (.getfield 22, 3) := by decide +kernel
theorem d_Query_take_21 : decode prog_5_method_11_code 21 = .ok (.istore 6, 2) := by decide +kernel
theorem d_Query_take_23 : decode prog_5_method_11_code 23 = .ok (.iload 6, 2) := by decide +kernel
theorem d_Query_take_25 : decode prog_5_method_11_code 25 = .ok (.bipush 40, 2) := by decide +kernel
theorem d_Query_take_27 : decode prog_5_method_11_code 27 = .ok (.if_icmp .lt 4, 3) := by decide +kernel
theorem d_Query_take_30 : decode prog_5_method_11_code 30 = .ok (.return_, 1) := by decide +kernel
theorem d_Query_take_31 : decode prog_5_method_11_code 31 = .ok (.aload_n 0, 1) := by decide +kernel
theorem d_Query_take_32 : decode prog_5_method_11_code 32 = .ok (.dup, 1) := by decide +kernel
theorem d_Query_take_33 : decode prog_5_method_11_code 33 = .ok (.getfield 22, 3) := by decide +kernel
theorem d_Query_take_36 : decode prog_5_method_11_code 36 = .ok (.iconst 1, 1) := by decide +kernel
theorem d_Query_take_37 : decode prog_5_method_11_code 37 = .ok (.iadd, 1) := by decide +kernel
theorem d_Query_take_38 : decode prog_5_method_11_code 38 = .ok (.putfield 22, 3) := by decide +kernel
theorem d_Query_take_41 : decode prog_5_method_11_code 41 = .ok (.aload_n 0, 1) := by decide +kernel
theorem d_Query_take_42 : decode prog_5_method_11_code 42 = .ok (.getfield 25, 3) := by decide +kernel
theorem d_Query_take_45 : decode prog_5_method_11_code 45 = .ok (.iload 6, 2) := by decide +kernel
theorem d_Query_take_47 : decode prog_5_method_11_code 47 = .ok (.iload_n 1, 1) := by decide +kernel
theorem d_Query_take_48 : decode prog_5_method_11_code 48 = .ok (.iastore, 1) := by decide +kernel
theorem d_Query_take_49 : decode prog_5_method_11_code 49 = .ok (.aload_n 0, 1) := by decide +kernel
theorem d_Query_take_50 : decode prog_5_method_11_code 50 = .ok (.getfield 29, 3) := by decide +kernel
theorem d_Query_take_53 : decode prog_5_method_11_code 53 = .ok (.iload 6, 2) := by decide +kernel
theorem d_Query_take_55 : decode prog_5_method_11_code 55 = .ok (.iload_n 2, 1) := by decide +kernel
theorem d_Query_take_56 : decode prog_5_method_11_code 56 = .ok (.bastore, 1) := by decide +kernel
theorem d_Query_take_57 : decode prog_5_method_11_code 57 = .ok (.aload_n 0, 1) := by decide +kernel
theorem d_Query_take_58 : decode prog_5_method_11_code 58 = .ok (.getfield 33, 3) := by decide +kernel
theorem d_Query_take_61 : decode prog_5_method_11_code 61 = .ok (.iload 6, 2) := by decide +kernel
theorem d_Query_take_63 : decode prog_5_method_11_code 63 = .ok (.iload_n 3, 1) := by decide +kernel
theorem d_Query_take_64 : decode prog_5_method_11_code 64 = .ok (.iastore, 1) := by decide +kernel
theorem d_Query_take_65 : decode prog_5_method_11_code 65 = .ok (.aload_n 0, 1) := by decide +kernel
theorem d_Query_take_66 : decode prog_5_method_11_code 66 = .ok (.getfield 36, 3) := by decide +kernel
theorem d_Query_take_69 : decode prog_5_method_11_code 69 = .ok (.iload 6, 2) := by decide +kernel
theorem d_Query_take_71 : decode prog_5_method_11_code 71 = .ok (.iload 4, 2) := by decide +kernel
theorem d_Query_take_73 : decode prog_5_method_11_code 73 = .ok (.iload_n 3, 1) := by decide +kernel
theorem d_Query_take_74 : decode prog_5_method_11_code 74 = .ok (.isub, 1) := by decide +kernel
theorem d_Query_take_75 : decode prog_5_method_11_code 75 = .ok (.iastore, 1) := by decide +kernel
theorem d_Query_take_76 : decode prog_5_method_11_code 76 = .ok (.aload_n 0, 1) := by decide +kernel
theorem d_Query_take_77 : decode prog_5_method_11_code 77 = .ok (.bipush 42, 2) := by decide +kernel
theorem d_Query_take_79 : decode prog_5_method_11_code 79 = .ok (.iload_n 3, 1) := by decide +kernel
theorem d_Query_take_80 : decode prog_5_method_11_code 80 = .ok (.iload 4, 2) := by decide +kernel
theorem d_Query_take_82 : decode prog_5_method_11_code 82 = .ok (.invokevirtual 93, 3) := by decide +kernel
theorem d_Query_take_85 : decode prog_5_method_11_code 85 = .ok (.istore 7, 2) := by decide +kernel
theorem d_Query_take_87 : decode prog_5_method_11_code 87 = .ok (.aload_n 0, 1) := by decide +kernel
theorem d_Query_take_88 : decode prog_5_method_11_code 88 = .ok (.getfield 39, 3) := by decide +kernel
theorem d_Query_take_91 : decode prog_5_method_11_code 91 = .ok (.iload 6, 2) := by decide +kernel
theorem d_Query_take_93 : decode prog_5_method_11_code 93 = .ok (.iload 7, 2) := by decide +kernel
theorem d_Query_take_95 : decode prog_5_method_11_code 95 = .ok (.iconst (-1), 1) := by decide +kernel
theorem d_Query_take_96 : decode prog_5_method_11_code 96 = .ok (.if_icmp .ne 7, 3) := by decide +kernel
theorem d_Query_take_99 : decode prog_5_method_11_code 99 = .ok (.iconst (-1), 1) := by decide +kernel
theorem d_Query_take_100 : decode prog_5_method_11_code 100 = .ok (.goto 7, 3) := by decide +kernel
theorem d_Query_take_103 : decode prog_5_method_11_code 103 = .ok (.iload 7, 2) := by decide +kernel
theorem d_Query_take_105 : decode prog_5_method_11_code 105 = .ok (.iload_n 3, 1) := by decide +kernel
theorem d_Query_take_106 : decode prog_5_method_11_code 106 = .ok (.isub, 1) := by decide +kernel
theorem d_Query_take_107 : decode prog_5_method_11_code 107 = .ok (.iastore, 1) := by decide +kernel
theorem d_Query_take_108 : decode prog_5_method_11_code 108 = .ok (.iload_n 1, 1) := by decide +kernel
theorem d_Query_take_109 : decode prog_5_method_11_code 109 = .ok (.bipush 11, 2) := by decide +kernel
theorem d_Query_take_111 : decode prog_5_method_11_code 111 = .ok (.if_icmp .eq 9, 3) := by decide +kernel
theorem d_Query_take_114 : decode prog_5_method_11_code 114 = .ok (.iload_n 1, 1) := by decide +kernel
theorem d_Query_take_115 : decode prog_5_method_11_code 115 = .ok (.bipush 12, 2) := by decide +kernel
theorem d_Query_take_117 : decode prog_5_method_11_code 117 = .ok (.if_icmp .ne 7, 3) := by decide +kernel
theorem d_Query_take_120 : decode prog_5_method_11_code 120 = .ok (.iconst 1, 1) := by decide +kernel
theorem d_Query_take_121 : decode prog_5_method_11_code 121 = .ok (.goto 4, 3) := by decide +kernel
theorem d_Query_take_124 : decode prog_5_method_11_code 124 = .ok (.iconst 0, 1) := by decide +kernel
theorem d_Query_take_125 : decode prog_5_method_11_code 125 = .ok (.istore 8, 2) := by decide +kernel
theorem d_Query_take_127 : decode prog_5_method_11_code 127 = .ok (.aload_n 0, 1) := by decide +kernel
theorem d_Query_take_128 : decode prog_5_method_11_code 128 = .ok (.getfield 42, 3) := by decide +kernel
theorem d_Query_take_131 : decode prog_5_method_11_code 131 = .ok (.iload 6, 2) := by decide +kernel
theorem d_Query_take_133 : decode prog_5_method_11_code 133 = .ok (.iload 8, 2) := by decide +kernel
theorem d_Query_take_135 : decode prog_5_method_11_code 135 = .ok (.ifCond .eq 11, 3) := by decide +kernel
theorem d_Query_take_138 : decode prog_5_method_11_code 138 = .ok (.aload 5, 2) := by decide +kernel
theorem d_Query_take_140 : decode prog_5_method_11_code 140 = .ok (.getfield 97, 3) := by decide +kernel
theorem d_Query_take_143 : decode prog_5_method_11_code 143 = .ok (.goto 4, 3) := by decide +kernel
theorem d_Query_take_146 : decode prog_5_method_11_code 146 = .ok (.iconst 0, 1) := by decide +kernel
theorem d_Query_take_147 : decode prog_5_method_11_code 147 = .ok (.iastore, 1) := by decide +kernel
theorem d_Query_take_148 : decode prog_5_method_11_code 148 = .ok (.aload_n 0, 1) := by decide +kernel
theorem d_Query_take_149 : decode prog_5_method_11_code 149 = .ok (.getfield 45, 3) := by decide +kernel
theorem d_Query_take_152 : decode prog_5_method_11_code 152 = .ok (.iload 6, 2) := by decide +kernel
theorem d_Query_take_154 : decode prog_5_method_11_code 154 = .ok (.iload 8, 2) := by decide +kernel
theorem d_Query_take_156 : decode prog_5_method_11_code 156 = .ok (.ifCond .eq 11, 3) := by decide +kernel
theorem d_Query_take_159 : decode prog_5_method_11_code 159 = .ok (.aload 5, 2) := by decide +kernel
theorem d_Query_take_161 : decode prog_5_method_11_code 161 = .ok (.getfield 101, 3) := by decide +kernel
theorem d_Query_take_164 : decode prog_5_method_11_code 164 = .ok (.goto 4, 3) := by decide +kernel
theorem d_Query_take_167 : decode prog_5_method_11_code 167 = .ok (.iconst 0, 1) := by decide +kernel
theorem d_Query_take_168 : decode prog_5_method_11_code 168 = .ok (.iastore, 1) := by decide +kernel
theorem d_Query_take_169 : decode prog_5_method_11_code 169 = .ok (.aload_n 0, 1) := by decide +kernel
theorem d_Query_take_170 : decode prog_5_method_11_code 170 = .ok (.getfield 48, 3) := by decide +kernel
theorem d_Query_take_173 : decode prog_5_method_11_code 173 = .ok (.iload 6, 2) := by decide +kernel
theorem d_Query_take_175 : decode prog_5_method_11_code 175 = .ok (.iconst 0, 1) := by decide +kernel
theorem d_Query_take_176 : decode prog_5_method_11_code 176 = .ok (.iastore, 1) := by decide +kernel
theorem d_Query_take_177 : decode prog_5_method_11_code 177 = .ok (.aload_n 0, 1) := by decide +kernel
theorem d_Query_take_178 : decode prog_5_method_11_code 178 = .ok (.getfield 48, 3) := by decide +kernel
theorem d_Query_take_181 : decode prog_5_method_11_code 181 = .ok (.iload 6, 2) := by decide +kernel
theorem d_Query_take_183 : decode prog_5_method_11_code 183 = .ok (.dup2, 1) := by decide +kernel
theorem d_Query_take_184 : decode prog_5_method_11_code 184 = .ok (.iaload, 1) := by decide +kernel
theorem d_Query_take_185 : decode prog_5_method_11_code 185 = .ok (.iconst 1, 1) := by decide +kernel
theorem d_Query_take_186 : decode prog_5_method_11_code 186 = .ok (.iadd, 1) := by decide +kernel
theorem d_Query_take_187 : decode prog_5_method_11_code 187 = .ok (.iastore, 1) := by decide +kernel
theorem d_Query_take_188 : decode prog_5_method_11_code 188 = .ok (.aload_n 0, 1) := by decide +kernel
theorem d_Query_take_189 : decode prog_5_method_11_code 189 = .ok (.dup, 1) := by decide +kernel
theorem d_Query_take_190 : decode prog_5_method_11_code 190 = .ok (.getfield 19, 3) := by decide +kernel
theorem d_Query_take_193 : decode prog_5_method_11_code 193 = .ok (.iconst 1, 1) := by decide +kernel
theorem d_Query_take_194 : decode prog_5_method_11_code 194 = .ok (.iadd, 1) := by decide +kernel
theorem d_Query_take_195 : decode prog_5_method_11_code 195 = .ok (.putfield 19, 3) := by decide +kernel
theorem d_Query_take_198 : decode prog_5_method_11_code 198 = .ok (.aload_n 0, 1) := by decide +kernel
theorem d_Query_take_199 : decode prog_5_method_11_code 199 = .ok (.iload 6, 2) := by decide +kernel
theorem d_Query_take_201 : decode prog_5_method_11_code 201 = .ok (.invokevirtual 103, 3) := by decide +kernel
theorem d_Query_take_204 : decode prog_5_method_11_code 204 = .ok (.return_, 1) := by decide +kernel
def y_Query_begin : MethodName := ⟨"MailQueries$Query", "begin", "([CI)V"⟩
def rm_Query_begin : Room := { frames := 1, cells := 0, slots := 0, locals := 40 }
theorem d_Query_begin_0 : decode prog_5_method_2_code 0 = .ok (.aload_n 0, 1) := by decide +kernel
theorem d_Query_begin_1 : decode prog_5_method_2_code 1 = .ok (.iconst 0, 1) := by decide +kernel
theorem d_Query_begin_2 : decode prog_5_method_2_code 2 = .ok (.iload_n 2, 1) := by decide +kernel
theorem d_Query_begin_3 : decode prog_5_method_2_code 3 = .ok (.aload_n 1, 1) := by decide +kernel
theorem d_Query_begin_4 : decode prog_5_method_2_code 4 = .ok (.arraylength, 1) := by decide +kernel
theorem d_Query_begin_5 : decode prog_5_method_2_code 5 = .ok (.aload_n 0, 1) := by decide +kernel
theorem d_Query_begin_6 : decode prog_5_method_2_code 6 = .ok (.getfield 9, 3) := by decide +kernel
theorem d_Query_begin_9 : decode prog_5_method_2_code 9 = .ok (.arraylength, 1) := by decide +kernel
theorem d_Query_begin_10 : decode prog_5_method_2_code 10 = .ok (.invokestatic 57, 3) := by decide +kernel
theorem d_Query_begin_13 : decode prog_5_method_2_code 13 = .ok (.invokestatic 57, 3) := by decide +kernel
theorem d_Query_begin_16 : decode prog_5_method_2_code 16 = .ok (.invokestatic 63, 3) := by decide +kernel
theorem d_Query_begin_19 : decode prog_5_method_2_code 19 = .ok (.putfield 15, 3) := by decide +kernel
theorem d_Query_begin_22 : decode prog_5_method_2_code 22 = .ok (.aload_n 1, 1) := by decide +kernel
theorem d_Query_begin_23 : decode prog_5_method_2_code 23 = .ok (.iconst 0, 1) := by decide +kernel
theorem d_Query_begin_24 : decode prog_5_method_2_code 24 = .ok (.aload_n 0, 1) := by decide +kernel
theorem d_Query_begin_25 : decode prog_5_method_2_code 25 = .ok (.getfield 9, 3) := by decide +kernel
theorem d_Query_begin_28 : decode prog_5_method_2_code 28 = .ok (.iconst 0, 1) := by decide +kernel
theorem d_Query_begin_29 : decode prog_5_method_2_code 29 = .ok (.aload_n 0, 1) := by decide +kernel
theorem d_Query_begin_30 : decode prog_5_method_2_code 30 = .ok (.getfield 15, 3) := by decide +kernel
theorem d_Query_begin_33 : decode prog_5_method_2_code 33 = .ok (.invokestatic 66, 3) := by decide +kernel
theorem d_Query_begin_36 : decode prog_5_method_2_code 36 = .ok (.aload_n 0, 1) := by decide +kernel
theorem d_Query_begin_37 : decode prog_5_method_2_code 37 = .ok (.iconst 0, 1) := by decide +kernel
theorem d_Query_begin_38 : decode prog_5_method_2_code 38 = .ok (.putfield 19, 3) := by decide +kernel
theorem d_Query_begin_41 : decode prog_5_method_2_code 41 = .ok (.aload_n 0, 1) := by decide +kernel
theorem d_Query_begin_42 : decode prog_5_method_2_code 42 = .ok (.iconst 0, 1) := by decide +kernel
theorem d_Query_begin_43 : decode prog_5_method_2_code 43 = .ok (.putfield 22, 3) := by decide +kernel
theorem d_Query_begin_46 : decode prog_5_method_2_code 46 = .ok (.aload_n 0, 1) := by decide +kernel
theorem d_Query_begin_47 : decode prog_5_method_2_code 47 = .ok (.iconst 0, 1) := by decide +kernel
theorem d_Query_begin_48 : decode prog_5_method_2_code 48 = .ok (.putfield 54, 3) := by decide +kernel
theorem d_Query_begin_51 : decode prog_5_method_2_code 51 = .ok (.return_, 1) := by decide +kernel
theorem mb_Query_take : Mb y_Query_take prog_5_method_11_code 9 none 5 := ⟨W_Query_take_code, W_Query_take_in, W_Query_take_se, I_Query, by decide +kernel, by decide +kernel, by decide +kernel⟩
theorem mb_Query_begin : Mb y_Query_begin prog_5_method_2_code 3 none 2 := ⟨W_Query_begin_code, W_Query_begin_in, W_Query_begin_se, I_Query, by decide +kernel, by decide +kernel, by decide +kernel⟩
def Query_take_177 (F : Nat) (t : StI) (p5 : StI) (x6 : Int32) : Option (StI) := if x6 < 0 ∨ 40 ≤ x6.toNatClampNeg then none else if x6 < 0 ∨ 40 ≤ x6.toNatClampNeg then none else letS (va_up t 11 (upd (t 11) x6.toNatClampNeg (((t 11) x6.toNatClampNeg) + (1 : Int32)))) fun t_33 => letS (va_up t_33 2 (fun _ => ((t_33 2 0) + (1 : Int32)))) fun t_35 => (Query_append F t_35 x6).bind fun r36 => some r36
def Query_take_168 (F : Nat) (t : StI) (p5 : StI) (x6 : Int32) (y0 : Int32) (y1 : Int32) : Option (StI) := if y1 < 0 ∨ 40 ≤ y1.toNatClampNeg then none else letS (va_up t 10 (upd (t 10) y1.toNatClampNeg y0)) fun t_37 => if x6 < 0 ∨ 40 ≤ x6.toNatClampNeg then none else letS (va_up t_37 11 (upd (t_37 11) x6.toNatClampNeg (0 : Int32))) fun t_39 => Query_take_177 F t_39 p5 x6
def Query_take_147 (F : Nat) (t : StI) (p5 : StI) (x6 : Int32) (x8 : Int32) (y0 : Int32) (y1 : Int32) : Option (StI) := if y1 < 0 ∨ 40 ≤ y1.toNatClampNeg then none else letS (va_up t 9 (upd (t 9) y1.toNatClampNeg y0)) fun t_41 => if x8 = 0 then Query_take_168 F t_41 p5 x6 (0 : Int32) x6 else Query_take_168 F t_41 p5 x6 (p5 1 0) x6
def Query_take_125 (F : Nat) (t : StI) (p5 : StI) (x6 : Int32) (y0 : Int32) : Option (StI) := if y0 = 0 then Query_take_147 F t p5 x6 y0 (0 : Int32) x6 else Query_take_147 F t p5 x6 y0 (p5 0 0) x6
def Query_take_120 (F : Nat) (t : StI) (p5 : StI) (x6 : Int32) : Option (StI) := Query_take_125 F t p5 x6 (1 : Int32)
def Query_take_107 (F : Nat) (t : StI) (p5 : StI) (x1 : Int32) (x6 : Int32) (y0 : Int32) (y1 : Int32) : Option (StI) := if y1 < 0 ∨ 40 ≤ y1.toNatClampNeg then none else letS (va_up t 8 (upd (t 8) y1.toNatClampNeg y0)) fun t_45 => if x1 = (11 : Int32) then Query_take_120 F t_45 p5 x6 else if x1 = (12 : Int32) then Query_take_120 F t_45 p5 x6 else Query_take_125 F t_45 p5 x6 (0 : Int32)
def Query_take (F : Nat) (t : StI) (p5 : StI) (x1 : Int32) (x2 : Int32) (x3 : Int32) (x4 : Int32) : Option (StI) := (Query_alike F t x1 x2 x3 x4).bind fun r49 => if r49 = (-1 : Int32) then if (t 3 0) < (40 : Int32) then letS (va_up t 3 (fun _ => ((t 3 0) + (1 : Int32)))) fun t_52 => if (t 3 0) < 0 ∨ 40 ≤ (t 3 0).toNatClampNeg then none else letS (va_up t_52 4 (upd (t_52 4) (t 3 0).toNatClampNeg x1)) fun t_53 => if (t 3 0) < 0 ∨ 40 ≤ (t 3 0).toNatClampNeg then none else letS (va_up t_53 5 (upd (t_53 5) (t 3 0).toNatClampNeg (vp_nar .boolean x2))) fun t_55 => if (t 3 0) < 0 ∨ 40 ≤ (t 3 0).toNatClampNeg then none else letS (va_up t_55 6 (upd (t_55 6) (t 3 0).toNatClampNeg x3)) fun t_57 => if (t 3 0) < 0 ∨ 40 ≤ (t 3 0).toNatClampNeg then none else letS (va_up t_57 7 (upd (t_57 7) (t 3 0).toNatClampNeg (x4 - x3))) fun t_59 => (Query_find F t_59 (42 : Int32) x3 x4).bind fun r61 => if r61 = (-1 : Int32) then Query_take_107 F t_59 p5 x1 (t 3 0) (-1 : Int32) (t 3 0) else Query_take_107 F t_59 p5 x1 (t 3 0) (r61 - x3) (t 3 0) else some t else Query_take_177 F t p5 r49
set_option maxHeartbeats 4000000 in
set_option maxRecDepth 100000 in
theorem k_Query_take_177 {p : Program} {l : Launch} {e : Env} {s : State} {m : MethodId} {args : Array Value} {below : List Frame} {meth : Method} {c : Code} {g : Gz} {A : Nat → Prop} {F : Nat} {a_t a_p5 : Nat → Nat} (hC : Cx prog_5_method_11_code 9 none R_Query p s m args meth c g A A) : ∀ (t : StI) (p5 : StI) (x6 : Int32) (res : StI), Query_take_177 F t p5 x6 = some res → Go p l e rm_Query_take s m args below meth c g A A 9 (MQ below (EV g ((pic_Query g a_t res) ++ (pic_Span g a_p5 p5)) A) args s 0 0 A) ((pic_Query g a_t t) ++ (pic_Span g a_p5 p5)) [(0, .ref (a_t 0)), (6, .int x6)] 177 [] := by
  obtain ⟨hx, hb, hr, hml, hown, htb, hlocks, hA, hAA, hG⟩ := id hC
  have hK := hG.1
  intro t p5 x6 res h H locs ls hP hD hS hl
  rw [Query_take_177] at h
  refine lv_aload_n hx hb d_Query_take_177 rfl (lv_at hl 0 rfl) ?_
  refine va_get (D := gD g) (ci := 1) (v := .ref (a_t 12)) (C := R_Query) (T := T_Query) (N := 14) hx hb htb in_Query hown hK hP 0 rfl rfl 11 (by decide) (htb _ L_Query_48) (fun _ h9 => h9) rfl d_Query_take_178 ?_
  refine lv_iload hx hb d_Query_take_181 (lv_at hl 1 rfl) ?_
  refine lv_dup2_11 hx hb d_Query_take_183 rfl rfl ?_
  by_cases c32 : (x6 < 0 ∨ 40 ≤ x6.toNatClampNeg)
  · replace h := (if_pos c32).symm.trans h
    cases h
  replace h := (if_neg c32).symm.trans h
  refine va_iald hx hb hK hP 9 0 rfl rfl c32 d_Query_take_184 ?_
  refine lv_iconst (v := 1) hx hb d_Query_take_185 (by decide) ?_
  refine lv_iadd hx hb d_Query_take_186 ?_
  by_cases c34 : (x6 < 0 ∨ 40 ≤ x6.toNatClampNeg)
  · replace h := (if_pos c34).symm.trans h
    cases h
  replace h := (if_neg c34).symm.trans h
  refine va_iast hx hb hK hP hD hS 9 0 rfl rfl c34 d_Query_take_187 (fun H locs hP hD hS => ?_)
  obtain ⟨t_33, et_33, h⟩ := letS_el h
  have hP : va_P (gD g) vwCl ((pic_Query g a_t t_33) ++ (pic_Span g a_p5 p5)) H := by rw [et_33]; exact hP
  have hD : va_D A ((pic_Query g a_t t_33) ++ (pic_Span g a_p5 p5)) := by rw [et_33]; exact hD
  refine lv_aload_n hx hb d_Query_take_188 rfl (lv_at hl 0 rfl) ?_
  refine lv_dup hx hb d_Query_take_189 rfl ?_
  refine va_get (D := gD g) (ci := 1) (v := .int (t_33 2 0)) (C := R_Query) (T := T_Query) (N := 14) hx hb htb in_Query hown hK hP 0 rfl rfl 2 (by decide) (htb _ L_Query_19) (fun _ h9 => h9) rfl d_Query_take_190 ?_
  refine lv_iconst (v := 1) hx hb d_Query_take_193 (by decide) ?_
  refine lv_iadd hx hb d_Query_take_194 ?_
  refine va_put (D := gD g) (ci := 1) (v := .int ((t_33 2 0) + (1 : Int32))) (ty := .int) (C := R_Query) (T := T_Query) (N := 14) hx hb htb in_Query ty_Query ty_Query_ok nm_Query hown hK hP hD hS 0 rfl rfl 2 (by decide) (htb _ L_Query_19) (fun _ h9 => h9) rfl (by decide +kernel) rfl rfl (Nat.le_of_ble_eq_true rfl) d_Query_take_195 (fun H locs hP hD hS => ?_)
  obtain ⟨t_35, et_35, h⟩ := letS_el h
  have hP : va_P (gD g) vwCl ((pic_Query g a_t t_35) ++ (pic_Span g a_p5 p5)) H := by rw [et_35]; exact hP
  have hD : va_D A ((pic_Query g a_t t_35) ++ (pic_Span g a_p5 p5)) := by rw [et_35]; exact hD
  refine lv_aload_n hx hb d_Query_take_198 rfl (lv_at hl 0 rfl) ?_
  refine lv_iload hx hb d_Query_take_199 (lv_at hl 1 rfl) ?_
  obtain ⟨r36, hr36, h⟩ := Option.bind_eq_some_iff.mp h
  refine cl_V (wr := (pic_Span g a_p5 p5)) [0, 1, 2, 3, 4, 5, 6, 7, 8, 9, 10] [11] rfl rfl rfl (by decide) hP hD hS hA (va_runV (As := [.int x6]) (rest := []) ⟨hx, hb, hml, hown, htb⟩ (c_Query_append l g F a_t t_35 x6 _ hr36 H.size) (cw_V htb mb_Query_append (htb _ L_Query_103) rfl rfl ⟨Nat.le_of_ble_eq_true rfl, Nat.le_of_ble_eq_true rfl⟩) (pre_V (va_recv hK hP (ci := 1) (q0 := 0) rfl rfl) (pre_S [0, 1, 2, 3, 4, 5, 6, 7, 8, 9, 10] rfl rfl hP hD hS hA hAA hG)) rfl rfl hl.1 rfl (lv_room (Nat.le_of_ble_eq_true rfl)) d_Query_take_201 ⟨Nat.zero_le _, Nat.zero_le _⟩) (fun H locs hP hD hS => ?_)
  have hP : va_P (gD g) vwCl ((pic_Query g a_t r36) ++ (pic_Span g a_p5 p5)) H := hP.sub [1, 2, 3, 4, 5, 6, 7, 8, 9, 10, 11, 0] rfl
  have hD : va_D A ((pic_Query g a_t r36) ++ (pic_Span g a_p5 p5)) := hD.sub [1, 2, 3, 4, 5, 6, 7, 8, 9, 10, 11, 0] rfl rfl
  cases h
  exact W.vret hx hb hr (fun t ht hW => ⟨⟨(), rfl, trivial, by rw [ht]; exact hP, hD⟩, hS.F ht⟩) hS.2.2 d_Query_take_204
set_option maxHeartbeats 4000000 in
set_option maxRecDepth 100000 in
theorem k_Query_take_168 {p : Program} {l : Launch} {e : Env} {s : State} {m : MethodId} {args : Array Value} {below : List Frame} {meth : Method} {c : Code} {g : Gz} {A : Nat → Prop} {F : Nat} {a_t a_p5 : Nat → Nat} (hC : Cx prog_5_method_11_code 9 none R_Query p s m args meth c g A A) : ∀ (t : StI) (p5 : StI) (x6 : Int32) (y0 : Int32) (y1 : Int32) (res : StI), Query_take_168 F t p5 x6 y0 y1 = some res → Go p l e rm_Query_take s m args below meth c g A A 9 (MQ below (EV g ((pic_Query g a_t res) ++ (pic_Span g a_p5 p5)) A) args s 0 0 A) ((pic_Query g a_t t) ++ (pic_Span g a_p5 p5)) [(0, .ref (a_t 0)), (6, .int x6)] 168 [.int y0, .int y1, .ref (a_t 11)] := by
  obtain ⟨hx, hb, hr, hml, hown, htb, hlocks, hA, hAA, hG⟩ := id hC
  have hK := hG.1
  intro t p5 x6 y0 y1 res h H locs ls hP hD hS hl
  rw [Query_take_168] at h
  by_cases c38 : (y1 < 0 ∨ 40 ≤ y1.toNatClampNeg)
  · replace h := (if_pos c38).symm.trans h
    cases h
  replace h := (if_neg c38).symm.trans h
  refine va_iast hx hb hK hP hD hS 8 0 rfl rfl c38 d_Query_take_168 (fun H locs hP hD hS => ?_)
  obtain ⟨t_37, et_37, h⟩ := letS_el h
  have hP : va_P (gD g) vwCl ((pic_Query g a_t t_37) ++ (pic_Span g a_p5 p5)) H := by rw [et_37]; exact hP
  have hD : va_D A ((pic_Query g a_t t_37) ++ (pic_Span g a_p5 p5)) := by rw [et_37]; exact hD
  refine lv_aload_n hx hb d_Query_take_169 rfl (lv_at hl 0 rfl) ?_
  refine va_get (D := gD g) (ci := 1) (v := .ref (a_t 12)) (C := R_Query) (T := T_Query) (N := 14) hx hb htb in_Query hown hK hP 0 rfl rfl 11 (by decide) (htb _ L_Query_48) (fun _ h9 => h9) rfl d_Query_take_170 ?_
  refine lv_iload hx hb d_Query_take_173 (lv_at hl 1 rfl) ?_
  refine lv_iconst (v := 0) hx hb d_Query_take_175 (by decide) ?_
  by_cases c40 : (x6 < 0 ∨ 40 ≤ x6.toNatClampNeg)
  · replace h := (if_pos c40).symm.trans h
    cases h
  replace h := (if_neg c40).symm.trans h
  refine va_iast hx hb hK hP hD hS 9 0 rfl rfl c40 d_Query_take_176 (fun H locs hP hD hS => ?_)
  obtain ⟨t_39, et_39, h⟩ := letS_el h
  have hP : va_P (gD g) vwCl ((pic_Query g a_t t_39) ++ (pic_Span g a_p5 p5)) H := by rw [et_39]; exact hP
  have hD : va_D A ((pic_Query g a_t t_39) ++ (pic_Span g a_p5 p5)) := by rw [et_39]; exact hD
  exact k_Query_take_177 hC _ _ _ _ h _ _ _ hP hD hS (lv_sub hl [0, 1] rfl)
set_option maxHeartbeats 4000000 in
set_option maxRecDepth 100000 in
theorem k_Query_take_147 {p : Program} {l : Launch} {e : Env} {s : State} {m : MethodId} {args : Array Value} {below : List Frame} {meth : Method} {c : Code} {g : Gz} {A : Nat → Prop} {F : Nat} {a_t a_p5 : Nat → Nat} (hC : Cx prog_5_method_11_code 9 none R_Query p s m args meth c g A A) : ∀ (t : StI) (p5 : StI) (x6 : Int32) (x8 : Int32) (y0 : Int32) (y1 : Int32) (res : StI), Query_take_147 F t p5 x6 x8 y0 y1 = some res → Go p l e rm_Query_take s m args below meth c g A A 9 (MQ below (EV g ((pic_Query g a_t res) ++ (pic_Span g a_p5 p5)) A) args s 0 0 A) ((pic_Query g a_t t) ++ (pic_Span g a_p5 p5)) [(0, .ref (a_t 0)), (5, .ref (a_p5 0)), (6, .int x6), (8, .int x8)] 147 [.int y0, .int y1, .ref (a_t 10)] := by
  obtain ⟨hx, hb, hr, hml, hown, htb, hlocks, hA, hAA, hG⟩ := id hC
  have hK := hG.1
  intro t p5 x6 x8 y0 y1 res h H locs ls hP hD hS hl
  rw [Query_take_147] at h
  by_cases c42 : (y1 < 0 ∨ 40 ≤ y1.toNatClampNeg)
  · replace h := (if_pos c42).symm.trans h
    cases h
  replace h := (if_neg c42).symm.trans h
  refine va_iast hx hb hK hP hD hS 7 0 rfl rfl c42 d_Query_take_147 (fun H locs hP hD hS => ?_)
  obtain ⟨t_41, et_41, h⟩ := letS_el h
  have hP : va_P (gD g) vwCl ((pic_Query g a_t t_41) ++ (pic_Span g a_p5 p5)) H := by rw [et_41]; exact hP
  have hD : va_D A ((pic_Query g a_t t_41) ++ (pic_Span g a_p5 p5)) := by rw [et_41]; exact hD
  refine lv_aload_n hx hb d_Query_take_148 rfl (lv_at hl 0 rfl) ?_
  refine va_get (D := gD g) (ci := 1) (v := .ref (a_t 11)) (C := R_Query) (T := T_Query) (N := 14) hx hb htb in_Query hown hK hP 0 rfl rfl 10 (by decide) (htb _ L_Query_45) (fun _ h9 => h9) rfl d_Query_take_149 ?_
  refine lv_iload hx hb d_Query_take_152 (lv_at hl 2 rfl) ?_
  refine lv_iload hx hb d_Query_take_154 (lv_at hl 3 rfl) ?_
  refine lv_if_eq (tgt := 167) hx hb d_Query_take_156 (by decide) (fun c43 => ?_) (fun c43 => ?_)
  · replace h := (if_pos c43).symm.trans h
    refine lv_iconst (v := 0) hx hb d_Query_take_167 (by decide) ?_
    exact k_Query_take_168 hC _ _ _ _ _ _ h _ _ _ hP hD hS (lv_sub hl [0, 2] rfl)
  · replace h := (if_neg c43).symm.trans h
    refine lv_aload hx hb d_Query_take_159 (lv_at hl 1 rfl) ?_
    refine va_getN (D := gD g) (ci := 2) (v := .int (p5 1 0)) (C := R_Span) (T := T_Span) (N := 2) hx hb htb in_Span hown hK hP 11 rfl rfl 1 (by decide) (nf_of hG N_Query_101) (fun _ h9 => h9) rfl d_Query_take_161 ?_
    refine lv_goto (tgt := 168) hx hb d_Query_take_164 (by decide) ?_
    exact k_Query_take_168 hC _ _ _ _ _ _ h _ _ _ hP hD hS (lv_sub hl [0, 2] rfl)
set_option maxHeartbeats 4000000 in
set_option maxRecDepth 100000 in
theorem k_Query_take_125 {p : Program} {l : Launch} {e : Env} {s : State} {m : MethodId} {args : Array Value} {below : List Frame} {meth : Method} {c : Code} {g : Gz} {A : Nat → Prop} {F : Nat} {a_t a_p5 : Nat → Nat} (hC : Cx prog_5_method_11_code 9 none R_Query p s m args meth c g A A) : ∀ (t : StI) (p5 : StI) (x6 : Int32) (y0 : Int32) (res : StI), Query_take_125 F t p5 x6 y0 = some res → Go p l e rm_Query_take s m args below meth c g A A 9 (MQ below (EV g ((pic_Query g a_t res) ++ (pic_Span g a_p5 p5)) A) args s 0 0 A) ((pic_Query g a_t t) ++ (pic_Span g a_p5 p5)) [(0, .ref (a_t 0)), (5, .ref (a_p5 0)), (6, .int x6)] 125 [.int y0] := by
  obtain ⟨hx, hb, hr, hml, hown, htb, hlocks, hA, hAA, hG⟩ := id hC
  have hK := hG.1
  intro t p5 x6 y0 res h H locs ls hP hD hS hl
  rw [Query_take_125] at h
  refine lv_istore (lv' := [(8, .int y0), (0, .ref (a_t 0)), (5, .ref (a_p5 0)), (6, .int x6)]) hx hb d_Query_take_125 hl (by decide) rfl (fun ls hl => ?_)
  refine lv_aload_n hx hb d_Query_take_127 rfl (lv_at hl 1 rfl) ?_
  refine va_get (D := gD g) (ci := 1) (v := .ref (a_t 10)) (C := R_Query) (T := T_Query) (N := 14) hx hb htb in_Query hown hK hP 0 rfl rfl 9 (by decide) (htb _ L_Query_42) (fun _ h9 => h9) rfl d_Query_take_128 ?_
  refine lv_iload hx hb d_Query_take_131 (lv_at hl 3 rfl) ?_
  refine lv_iload hx hb d_Query_take_133 (lv_at hl 0 rfl) ?_
  refine lv_if_eq (tgt := 146) hx hb d_Query_take_135 (by decide) (fun c44 => ?_) (fun c44 => ?_)
  · replace h := (if_pos c44).symm.trans h
    refine lv_iconst (v := 0) hx hb d_Query_take_146 (by decide) ?_
    exact k_Query_take_147 hC _ _ _ _ _ _ _ h _ _ _ hP hD hS (lv_sub hl [1, 2, 3, 0] rfl)
  · replace h := (if_neg c44).symm.trans h
    refine lv_aload hx hb d_Query_take_138 (lv_at hl 2 rfl) ?_
    refine va_getN (D := gD g) (ci := 2) (v := .int (p5 0 0)) (C := R_Span) (T := T_Span) (N := 2) hx hb htb in_Span hown hK hP 11 rfl rfl 0 (by decide) (nf_of hG N_Query_97) (fun _ h9 => h9) rfl d_Query_take_140 ?_
    refine lv_goto (tgt := 147) hx hb d_Query_take_143 (by decide) ?_
    exact k_Query_take_147 hC _ _ _ _ _ _ _ h _ _ _ hP hD hS (lv_sub hl [1, 2, 3, 0] rfl)
set_option maxHeartbeats 4000000 in
set_option maxRecDepth 100000 in
theorem k_Query_take_120 {p : Program} {l : Launch} {e : Env} {s : State} {m : MethodId} {args : Array Value} {below : List Frame} {meth : Method} {c : Code} {g : Gz} {A : Nat → Prop} {F : Nat} {a_t a_p5 : Nat → Nat} (hC : Cx prog_5_method_11_code 9 none R_Query p s m args meth c g A A) : ∀ (t : StI) (p5 : StI) (x6 : Int32) (res : StI), Query_take_120 F t p5 x6 = some res → Go p l e rm_Query_take s m args below meth c g A A 9 (MQ below (EV g ((pic_Query g a_t res) ++ (pic_Span g a_p5 p5)) A) args s 0 0 A) ((pic_Query g a_t t) ++ (pic_Span g a_p5 p5)) [(0, .ref (a_t 0)), (5, .ref (a_p5 0)), (6, .int x6)] 120 [] := by
  obtain ⟨hx, hb, hr, hml, hown, htb, hlocks, hA, hAA, hG⟩ := id hC
  have hK := hG.1
  intro t p5 x6 res h H locs ls hP hD hS hl
  rw [Query_take_120] at h
  refine lv_iconst (v := 1) hx hb d_Query_take_120 (by decide) ?_
  refine lv_goto (tgt := 125) hx hb d_Query_take_121 (by decide) ?_
  exact k_Query_take_125 hC _ _ _ _ _ h _ _ _ hP hD hS (lv_sub hl [0, 1, 2] rfl)
set_option maxHeartbeats 4000000 in
set_option maxRecDepth 100000 in
theorem k_Query_take_107 {p : Program} {l : Launch} {e : Env} {s : State} {m : MethodId} {args : Array Value} {below : List Frame} {meth : Method} {c : Code} {g : Gz} {A : Nat → Prop} {F : Nat} {a_t a_p5 : Nat → Nat} (hC : Cx prog_5_method_11_code 9 none R_Query p s m args meth c g A A) : ∀ (t : StI) (p5 : StI) (x1 : Int32) (x6 : Int32) (y0 : Int32) (y1 : Int32) (res : StI), Query_take_107 F t p5 x1 x6 y0 y1 = some res → Go p l e rm_Query_take s m args below meth c g A A 9 (MQ below (EV g ((pic_Query g a_t res) ++ (pic_Span g a_p5 p5)) A) args s 0 0 A) ((pic_Query g a_t t) ++ (pic_Span g a_p5 p5)) [(0, .ref (a_t 0)), (1, .int x1), (5, .ref (a_p5 0)), (6, .int x6)] 107 [.int y0, .int y1, .ref (a_t 9)] := by
  obtain ⟨hx, hb, hr, hml, hown, htb, hlocks, hA, hAA, hG⟩ := id hC
  have hK := hG.1
  intro t p5 x1 x6 y0 y1 res h H locs ls hP hD hS hl
  rw [Query_take_107] at h
  by_cases c46 : (y1 < 0 ∨ 40 ≤ y1.toNatClampNeg)
  · replace h := (if_pos c46).symm.trans h
    cases h
  replace h := (if_neg c46).symm.trans h
  refine va_iast hx hb hK hP hD hS 6 0 rfl rfl c46 d_Query_take_107 (fun H locs hP hD hS => ?_)
  obtain ⟨t_45, et_45, h⟩ := letS_el h
  have hP : va_P (gD g) vwCl ((pic_Query g a_t t_45) ++ (pic_Span g a_p5 p5)) H := by rw [et_45]; exact hP
  have hD : va_D A ((pic_Query g a_t t_45) ++ (pic_Span g a_p5 p5)) := by rw [et_45]; exact hD
  refine lv_iload_n hx hb d_Query_take_108 rfl (lv_at hl 1 rfl) ?_
  refine lv_bipush (v := 11) hx hb d_Query_take_109 (by decide) ?_
  refine lv_icmp_eq (tgt := 120) hx hb d_Query_take_111 (by decide) (fun c47 => ?_) (fun c47 => ?_)
  · replace h := (if_pos c47).symm.trans h
    exact k_Query_take_120 hC _ _ _ _ h _ _ _ hP hD hS (lv_sub hl [0, 2, 3] rfl)
  · replace h := (if_neg c47).symm.trans h
    refine lv_iload_n hx hb d_Query_take_114 rfl (lv_at hl 1 rfl) ?_
    refine lv_bipush (v := 12) hx hb d_Query_take_115 (by decide) ?_
    refine lv_icmp_ne (tgt := 124) hx hb d_Query_take_117 (by decide) (fun c48 => ?_) (fun c48 => ?_)
    · replace h := (if_neg c48).symm.trans h
      refine lv_iconst (v := 0) hx hb d_Query_take_124 (by decide) ?_
      exact k_Query_take_125 hC _ _ _ _ _ h _ _ _ hP hD hS (lv_sub hl [0, 2, 3] rfl)
    · replace h := (if_pos c48).symm.trans h
      exact k_Query_take_120 hC _ _ _ _ h _ _ _ hP hD hS (lv_sub hl [0, 2, 3] rfl)
set_option maxHeartbeats 4000000 in
set_option maxRecDepth 100000 in
theorem k_Query_take {p : Program} {l : Launch} {e : Env} {s : State} {m : MethodId} {args : Array Value} {below : List Frame} {meth : Method} {c : Code} {g : Gz} {A : Nat → Prop} {F : Nat} {a_t a_p5 : Nat → Nat} (hC : Cx prog_5_method_11_code 9 none R_Query p s m args meth c g A A) : ∀ (t : StI) (p5 : StI) (x1 : Int32) (x2 : Int32) (x3 : Int32) (x4 : Int32) (res : StI), Query_take F t p5 x1 x2 x3 x4 = some res → Go p l e rm_Query_take s m args below meth c g A A 9 (MQ below (EV g ((pic_Query g a_t res) ++ (pic_Span g a_p5 p5)) A) args s 0 0 A) ((pic_Query g a_t t) ++ (pic_Span g a_p5 p5)) [(0, .ref (a_t 0)), (1, .int x1), (2, .int x2), (3, .int x3), (4, .int x4), (5, .ref (a_p5 0))] 0 [] := by
  obtain ⟨hx, hb, hr, hml, hown, htb, hlocks, hA, hAA, hG⟩ := id hC
  have hK := hG.1
  intro t p5 x1 x2 x3 x4 res h H locs ls hP hD hS hl
  rw [Query_take] at h
  refine lv_aload_n hx hb d_Query_take_0 rfl (lv_at hl 0 rfl) ?_
  refine lv_iload_n hx hb d_Query_take_1 rfl (lv_at hl 1 rfl) ?_
  refine lv_iload_n hx hb d_Query_take_2 rfl (lv_at hl 2 rfl) ?_
  refine lv_iload_n hx hb d_Query_take_3 rfl (lv_at hl 3 rfl) ?_
  refine lv_iload hx hb d_Query_take_4 (lv_at hl 4 rfl) ?_
  obtain ⟨r49, hr49, h⟩ := Option.bind_eq_some_iff.mp h
  refine cl_Ir hP hS hA (va_runV (As := [.int x1, .int x2, .int x3, .int x4]) (rest := []) ⟨hx, hb, hml, hown, htb⟩ (c_Query_alike l g F a_t t x1 x2 x3 x4 _ hr49 H.size) (cw_V htb mb_Query_alike (htb _ L_Query_89) rfl rfl ⟨Nat.le_of_ble_eq_true rfl, Nat.le_of_ble_eq_true rfl⟩) (pre_V (va_recv hK hP (ci := 1) (q0 := 0) rfl rfl) (pre_S [0, 1, 2, 3, 4, 5, 6, 7, 8, 9, 10] rfl rfl hP hD hS hA hAA hG)) rfl rfl hl.1 rfl (lv_room (Nat.le_of_ble_eq_true rfl)) d_Query_take_6 ⟨Nat.zero_le _, Nat.zero_le _⟩) (fun H locs hP hS => ?_)
  refine lv_istore (lv' := [(6, .int r49), (0, .ref (a_t 0)), (1, .int x1), (2, .int x2), (3, .int x3), (4, .int x4), (5, .ref (a_p5 0))]) hx hb d_Query_take_9 hl (by decide) rfl (fun ls hl => ?_)
  refine lv_iload hx hb d_Query_take_11 (lv_at hl 0 rfl) ?_
  refine lv_iconst (v := -1) hx hb d_Query_take_13 (by decide) ?_
  refine lv_icmp_ne (tgt := 177) hx hb d_Query_take_14 (by decide) (fun c50 => ?_) (fun c50 => ?_)
  · replace h := (if_neg c50).symm.trans h
    exact k_Query_take_177 hC _ _ _ _ h _ _ _ hP hD hS (lv_sub hl [1, 0] rfl)
  · replace h := (if_pos c50).symm.trans h
    refine lv_aload_n hx hb d_Query_take_17 rfl (lv_at hl 1 rfl) ?_
    refine va_get (D := gD g) (ci := 1) (v := .int (t 3 0)) (C := R_Query) (T := T_Query) (N := 14) hx hb htb in_Query hown hK hP 0 rfl rfl 3 (by decide) (htb _ L_Query_22) (fun _ h9 => h9) rfl d_Query_take_18 ?_
    refine lv_istore (lv' := [(6, .int (t 3 0)), (0, .ref (a_t 0)), (1, .int x1), (2, .int x2), (3, .int x3), (4, .int x4), (5, .ref (a_p5 0))]) hx hb d_Query_take_21 hl (by decide) rfl (fun ls hl => ?_)
    refine lv_iload hx hb d_Query_take_23 (lv_at hl 0 rfl) ?_
    refine lv_bipush (v := 40) hx hb d_Query_take_25 (by decide) ?_
    refine lv_icmp_lt (tgt := 31) hx hb d_Query_take_27 (by decide) (fun c51 => ?_) (fun c51 => ?_)
    · replace h := (if_pos c51).symm.trans h
      refine lv_aload_n hx hb d_Query_take_31 rfl (lv_at hl 1 rfl) ?_
      refine lv_dup hx hb d_Query_take_32 rfl ?_
      refine va_get (D := gD g) (ci := 1) (v := .int (t 3 0)) (C := R_Query) (T := T_Query) (N := 14) hx hb htb in_Query hown hK hP 0 rfl rfl 3 (by decide) (htb _ L_Query_22) (fun _ h9 => h9) rfl d_Query_take_33 ?_
      refine lv_iconst (v := 1) hx hb d_Query_take_36 (by decide) ?_
      refine lv_iadd hx hb d_Query_take_37 ?_
      refine va_put (D := gD g) (ci := 1) (v := .int ((t 3 0) + (1 : Int32))) (ty := .int) (C := R_Query) (T := T_Query) (N := 14) hx hb htb in_Query ty_Query ty_Query_ok nm_Query hown hK hP hD hS 0 rfl rfl 3 (by decide) (htb _ L_Query_22) (fun _ h9 => h9) rfl (by decide +kernel) rfl rfl (Nat.le_of_ble_eq_true rfl) d_Query_take_38 (fun H locs hP hD hS => ?_)
      obtain ⟨t_52, et_52, h⟩ := letS_el h
      have hP : va_P (gD g) vwCl ((pic_Query g a_t t_52) ++ (pic_Span g a_p5 p5)) H := by rw [et_52]; exact hP
      have hD : va_D A ((pic_Query g a_t t_52) ++ (pic_Span g a_p5 p5)) := by rw [et_52]; exact hD
      refine lv_aload_n hx hb d_Query_take_41 rfl (lv_at hl 1 rfl) ?_
      refine va_get (D := gD g) (ci := 1) (v := .ref (a_t 5)) (C := R_Query) (T := T_Query) (N := 14) hx hb htb in_Query hown hK hP 0 rfl rfl 4 (by decide) (htb _ L_Query_25) (fun _ h9 => h9) rfl d_Query_take_42 ?_
      refine lv_iload hx hb d_Query_take_45 (lv_at hl 0 rfl) ?_
      refine lv_iload_n hx hb d_Query_take_47 rfl (lv_at hl 2 rfl) ?_
      by_cases c54 : ((t 3 0) < 0 ∨ 40 ≤ (t 3 0).toNatClampNeg)
      · replace h := (if_pos c54).symm.trans h
        cases h
      replace h := (if_neg c54).symm.trans h
      refine va_iast hx hb hK hP hD hS 2 0 rfl rfl c54 d_Query_take_48 (fun H locs hP hD hS => ?_)
      obtain ⟨t_53, et_53, h⟩ := letS_el h
      have hP : va_P (gD g) vwCl ((pic_Query g a_t t_53) ++ (pic_Span g a_p5 p5)) H := by rw [et_53]; exact hP
      have hD : va_D A ((pic_Query g a_t t_53) ++ (pic_Span g a_p5 p5)) := by rw [et_53]; exact hD
      refine lv_aload_n hx hb d_Query_take_49 rfl (lv_at hl 1 rfl) ?_
      refine va_get (D := gD g) (ci := 1) (v := .ref (a_t 6)) (C := R_Query) (T := T_Query) (N := 14) hx hb htb in_Query hown hK hP 0 rfl rfl 5 (by decide) (htb _ L_Query_29) (fun _ h9 => h9) rfl d_Query_take_50 ?_
      refine lv_iload hx hb d_Query_take_53 (lv_at hl 0 rfl) ?_
      refine lv_iload_n hx hb d_Query_take_55 rfl (lv_at hl 3 rfl) ?_
      by_cases c56 : ((t 3 0) < 0 ∨ 40 ≤ (t 3 0).toNatClampNeg)
      · replace h := (if_pos c56).symm.trans h
        cases h
      replace h := (if_neg c56).symm.trans h
      refine va_zast hx hb hK hP hD hS 3 2 rfl rfl c56 d_Query_take_56 (fun H locs hP hD hS => ?_)
      obtain ⟨t_55, et_55, h⟩ := letS_el h
      have hP : va_P (gD g) vwCl ((pic_Query g a_t t_55) ++ (pic_Span g a_p5 p5)) H := by rw [et_55]; exact hP
      have hD : va_D A ((pic_Query g a_t t_55) ++ (pic_Span g a_p5 p5)) := by rw [et_55]; exact hD
      refine lv_aload_n hx hb d_Query_take_57 rfl (lv_at hl 1 rfl) ?_
      refine va_get (D := gD g) (ci := 1) (v := .ref (a_t 7)) (C := R_Query) (T := T_Query) (N := 14) hx hb htb in_Query hown hK hP 0 rfl rfl 6 (by decide) (htb _ L_Query_33) (fun _ h9 => h9) rfl d_Query_take_58 ?_
      refine lv_iload hx hb d_Query_take_61 (lv_at hl 0 rfl) ?_
      refine lv_iload_n hx hb d_Query_take_63 rfl (lv_at hl 4 rfl) ?_
      by_cases c58 : ((t 3 0) < 0 ∨ 40 ≤ (t 3 0).toNatClampNeg)
      · replace h := (if_pos c58).symm.trans h
        cases h
      replace h := (if_neg c58).symm.trans h
      refine va_iast hx hb hK hP hD hS 4 0 rfl rfl c58 d_Query_take_64 (fun H locs hP hD hS => ?_)
      obtain ⟨t_57, et_57, h⟩ := letS_el h
      have hP : va_P (gD g) vwCl ((pic_Query g a_t t_57) ++ (pic_Span g a_p5 p5)) H := by rw [et_57]; exact hP
      have hD : va_D A ((pic_Query g a_t t_57) ++ (pic_Span g a_p5 p5)) := by rw [et_57]; exact hD
      refine lv_aload_n hx hb d_Query_take_65 rfl (lv_at hl 1 rfl) ?_
      refine va_get (D := gD g) (ci := 1) (v := .ref (a_t 8)) (C := R_Query) (T := T_Query) (N := 14) hx hb htb in_Query hown hK hP 0 rfl rfl 7 (by decide) (htb _ L_Query_36) (fun _ h9 => h9) rfl d_Query_take_66 ?_
      refine lv_iload hx hb d_Query_take_69 (lv_at hl 0 rfl) ?_
      refine lv_iload hx hb d_Query_take_71 (lv_at hl 5 rfl) ?_
      refine lv_iload_n hx hb d_Query_take_73 rfl (lv_at hl 4 rfl) ?_
      refine lv_isub hx hb d_Query_take_74 ?_
      by_cases c60 : ((t 3 0) < 0 ∨ 40 ≤ (t 3 0).toNatClampNeg)
      · replace h := (if_pos c60).symm.trans h
        cases h
      replace h := (if_neg c60).symm.trans h
      refine va_iast hx hb hK hP hD hS 5 0 rfl rfl c60 d_Query_take_75 (fun H locs hP hD hS => ?_)
      obtain ⟨t_59, et_59, h⟩ := letS_el h
      have hP : va_P (gD g) vwCl ((pic_Query g a_t t_59) ++ (pic_Span g a_p5 p5)) H := by rw [et_59]; exact hP
      have hD : va_D A ((pic_Query g a_t t_59) ++ (pic_Span g a_p5 p5)) := by rw [et_59]; exact hD
      refine lv_aload_n hx hb d_Query_take_76 rfl (lv_at hl 1 rfl) ?_
      refine lv_bipush (v := 42) hx hb d_Query_take_77 (by decide) ?_
      refine lv_iload_n hx hb d_Query_take_79 rfl (lv_at hl 4 rfl) ?_
      refine lv_iload hx hb d_Query_take_80 (lv_at hl 5 rfl) ?_
      obtain ⟨r61, hr61, h⟩ := Option.bind_eq_some_iff.mp h
      refine cl_Ir hP hS hA (va_runV (As := [.int (42 : Int32), .int x3, .int x4]) (rest := []) ⟨hx, hb, hml, hown, htb⟩ (c_Query_find l g F a_t t_59 (42 : Int32) x3 x4 _ hr61 H.size) (cw_V htb mb_Query_find (htb _ L_Query_93) rfl rfl ⟨Nat.le_of_ble_eq_true rfl, Nat.le_of_ble_eq_true rfl⟩) (pre_V (va_recv hK hP (ci := 1) (q0 := 0) rfl rfl) (pre_S [0, 1, 2, 3, 4, 5, 6, 7, 8, 9, 10] rfl rfl hP hD hS hA hAA hG)) rfl rfl hl.1 rfl (lv_room (Nat.le_of_ble_eq_true rfl)) d_Query_take_82 ⟨Nat.zero_le _, Nat.zero_le _⟩) (fun H locs hP hS => ?_)
      refine lv_istore (lv' := [(7, .int r61), (6, .int (t 3 0)), (0, .ref (a_t 0)), (1, .int x1), (2, .int x2), (3, .int x3), (4, .int x4), (5, .ref (a_p5 0))]) hx hb d_Query_take_85 hl (by decide) rfl (fun ls hl => ?_)
      refine lv_aload_n hx hb d_Query_take_87 rfl (lv_at hl 2 rfl) ?_
      refine va_get (D := gD g) (ci := 1) (v := .ref (a_t 9)) (C := R_Query) (T := T_Query) (N := 14) hx hb htb in_Query hown hK hP 0 rfl rfl 8 (by decide) (htb _ L_Query_39) (fun _ h9 => h9) rfl d_Query_take_88 ?_
      refine lv_iload hx hb d_Query_take_91 (lv_at hl 1 rfl) ?_
      refine lv_iload hx hb d_Query_take_93 (lv_at hl 0 rfl) ?_
      refine lv_iconst (v := -1) hx hb d_Query_take_95 (by decide) ?_
      refine lv_icmp_ne (tgt := 103) hx hb d_Query_take_96 (by decide) (fun c62 => ?_) (fun c62 => ?_)
      · replace h := (if_neg c62).symm.trans h
        refine lv_iload hx hb d_Query_take_103 (lv_at hl 0 rfl) ?_
        refine lv_iload_n hx hb d_Query_take_105 rfl (lv_at hl 5 rfl) ?_
        refine lv_isub hx hb d_Query_take_106 ?_
        exact k_Query_take_107 hC _ _ _ _ _ _ _ h _ _ _ hP hD hS (lv_sub hl [2, 3, 7, 1] rfl)
      · replace h := (if_pos c62).symm.trans h
        refine lv_iconst (v := -1) hx hb d_Query_take_99 (by decide) ?_
        refine lv_goto (tgt := 107) hx hb d_Query_take_100 (by decide) ?_
        exact k_Query_take_107 hC _ _ _ _ _ _ _ h _ _ _ hP hD hS (lv_sub hl [2, 3, 7, 1] rfl)
    · replace h := (if_neg c51).symm.trans h
      cases h
      exact W.vret hx hb hr (fun t ht hW => ⟨⟨(), rfl, trivial, by rw [ht]; exact hP, hD⟩, hS.F ht⟩) hS.2.2 d_Query_take_30
theorem c_Query_take (l : Launch) (g : Gz) (F : Nat) (a_t : Nat → Nat) (a_p5 : Nat → Nat) (t : StI) (p5 : StI) (x1 : Int32) (x2 : Int32) (x3 : Int32) (x4 : Int32) (res : StI) (h : Query_take F t p5 x1 x2 x3 x4 = some res) : ∀ sz : Nat, Met l y_Query_take (.code y_Query_take prog_5_method_11_code 9 none :: TBL) rm_Query_take (va_Pc [.ref (a_t 0), .int x1, .int x2, .int x3, .int x4, .ref (a_p5 0)] (Pre0 g ((pic_Query g a_t t) ++ (pic_Span g a_p5 p5)) sz)) (EV g ((pic_Query g a_t res) ++ (pic_Span g a_p5 p5)) (va_A ((pic_Query g a_t t) ++ (pic_Span g a_p5 p5)) sz)) 0 0 (va_A ((pic_Query g a_t t) ++ (pic_Span g a_p5 p5)) sz) :=
  ct_w (Qc := fun A => EV g ((pic_Query g a_t res) ++ (pic_Span g a_p5 p5)) A) (by decide) (Nat.le_of_ble_eq_true rfl) (fun p e s m args below meth c A hC => k_Query_take hC t p5 x1 x2 x3 x4 res h)
def Query_begin (F : Nat) (t : StI) (p1N : Nat) (p1 : StI) (x2 : Int32) : Option (StI) := letS (va_up t 1 (fun _ => (if (0 : Int32) < (if (if (600 : Int32) < (Int32.ofNat p1N) then (600 : Int32) else (Int32.ofNat p1N)) < x2 then (if (600 : Int32) < (Int32.ofNat p1N) then (600 : Int32) else (Int32.ofNat p1N)) else x2) then (if (if (600 : Int32) < (Int32.ofNat p1N) then (600 : Int32) else (Int32.ofNat p1N)) < x2 then (if (600 : Int32) < (Int32.ofNat p1N) then (600 : Int32) else (Int32.ofNat p1N)) else x2) else (0 : Int32)))) fun t_12 => if (0 : Int32) < 0 then none else if (0 : Int32) < 0 then none else if (t_12 1 0) < 0 then none else if p1N < (0 : Int32).toNatClampNeg + (t_12 1 0).toNatClampNeg then none else if 600 < (0 : Int32).toNatClampNeg + (t_12 1 0).toNatClampNeg then none else if ∀ i, i < (t_12 1 0).toNatClampNeg → fits .char (.int ((p1 0) ((0 : Int32).toNatClampNeg + i))) = true then letS (va_up t_12 0 (va_cpy (p1 0) (t_12 0) (0 : Int32).toNatClampNeg (0 : Int32).toNatClampNeg (t_12 1 0).toNatClampNeg)) fun t_13 => letS (va_up t_13 2 (fun _ => (0 : Int32))) fun t_20 => letS (va_up t_20 3 (fun _ => (0 : Int32))) fun t_21 => letS (va_up t_21 13 (fun _ => (0 : Int32))) fun t_22 => some t_22 else none
set_option maxHeartbeats 4000000 in
set_option maxRecDepth 100000 in
theorem k_Query_begin {p : Program} {l : Launch} {e : Env} {s : State} {m : MethodId} {args : Array Value} {below : List Frame} {meth : Method} {c : Code} {g : Gz} {A : Nat → Prop} {F : Nat} {a_t a_p1 : Nat → Nat} (hC : Cx prog_5_method_2_code 3 none R_Query p s m args meth c g A A) : ∀ (t : StI) (p1N : Nat) (p1 : StI) (x2 : Int32) (res : StI), Query_begin F t p1N p1 x2 = some res → Go p l e rm_Query_begin s m args below meth c g A A 3 (MQ below (EV g ((pic_Query g a_t res) ++ (pic_ArrC g a_p1 p1N p1)) A) args s 0 0 A) ((pic_Query g a_t t) ++ (pic_ArrC g a_p1 p1N p1)) [(0, .ref (a_t 0)), (1, .ref (a_p1 1)), (2, .int x2)] 0 [] := by
  obtain ⟨hx, hb, hr, hml, hown, htb, hlocks, hA, hAA, hG⟩ := id hC
  have hK := hG.1
  intro t p1N p1 x2 res h H locs ls hP hD hS hl
  rw [Query_begin] at h
  refine lv_aload_n hx hb d_Query_begin_0 rfl (lv_at hl 0 rfl) ?_
  refine lv_iconst (v := 0) hx hb d_Query_begin_1 (by decide) ?_
  refine lv_iload_n hx hb d_Query_begin_2 rfl (lv_at hl 2 rfl) ?_
  refine lv_aload_n hx hb d_Query_begin_3 rfl (lv_at hl 1 rfl) ?_
  refine va_alen hx hb hK hP 11 1 rfl rfl rfl d_Query_begin_4 ?_
  refine lv_aload_n hx hb d_Query_begin_5 rfl (lv_at hl 0 rfl) ?_
  refine va_get (D := gD g) (ci := 1) (v := .ref (a_t 1)) (C := R_Query) (T := T_Query) (N := 14) hx hb htb in_Query hown hK hP 0 rfl rfl 0 (by decide) (htb _ L_Query_9) (fun _ h9 => h9) rfl d_Query_begin_6 ?_
  refine va_alen hx hb hK hP 1 1 rfl rfl rfl d_Query_begin_9 ?_
  refine va_mmin hx hb (hml.trans hl.1.symm) hown (htb _ L_Query_57) (htb _ W_math_min_static) (htb _ W_math_init) (htb _ W_math_min_code) (Nat.le_of_ble_eq_true rfl) (Nat.le_of_ble_eq_true rfl) (Nat.zero_le _) (Nat.zero_le _) d_Query_begin_10 ?_
  refine va_mmin hx hb (hml.trans hl.1.symm) hown (htb _ L_Query_57) (htb _ W_math_min_static) (htb _ W_math_init) (htb _ W_math_min_code) (Nat.le_of_ble_eq_true rfl) (Nat.le_of_ble_eq_true rfl) (Nat.zero_le _) (Nat.zero_le _) d_Query_begin_13 ?_
  refine va_mmax hx hb (hml.trans hl.1.symm) hown (htb _ L_Query_63) (htb _ W_math_max_static) (htb _ W_math_init) (htb _ W_math_max_code) (Nat.le_of_ble_eq_true rfl) (Nat.le_of_ble_eq_true rfl) (Nat.zero_le _) (Nat.zero_le _) d_Query_begin_16 ?_
  refine va_put (D := gD g) (ci := 1) (v := .int (if (0 : Int32) < (if (if (600 : Int32) < (Int32.ofNat p1N) then (600 : Int32) else (Int32.ofNat p1N)) < x2 then (if (600 : Int32) < (Int32.ofNat p1N) then (600 : Int32) else (Int32.ofNat p1N)) else x2) then (if (if (600 : Int32) < (Int32.ofNat p1N) then (600 : Int32) else (Int32.ofNat p1N)) < x2 then (if (600 : Int32) < (Int32.ofNat p1N) then (600 : Int32) else (Int32.ofNat p1N)) else x2) else (0 : Int32))) (ty := .int) (C := R_Query) (T := T_Query) (N := 14) hx hb htb in_Query ty_Query ty_Query_ok nm_Query hown hK hP hD hS 0 rfl rfl 1 (by decide) (htb _ L_Query_15) (fun _ h9 => h9) rfl (by decide +kernel) rfl rfl (Nat.le_of_ble_eq_true rfl) d_Query_begin_19 (fun H locs hP hD hS => ?_)
  obtain ⟨t_12, et_12, h⟩ := letS_el h
  have hP : va_P (gD g) vwCl ((pic_Query g a_t t_12) ++ (pic_ArrC g a_p1 p1N p1)) H := by rw [et_12]; exact hP
  have hD : va_D A ((pic_Query g a_t t_12) ++ (pic_ArrC g a_p1 p1N p1)) := by rw [et_12]; exact hD
  refine lv_aload_n hx hb d_Query_begin_22 rfl (lv_at hl 1 rfl) ?_
  refine lv_iconst (v := 0) hx hb d_Query_begin_23 (by decide) ?_
  refine lv_aload_n hx hb d_Query_begin_24 rfl (lv_at hl 0 rfl) ?_
  refine va_get (D := gD g) (ci := 1) (v := .ref (a_t 1)) (C := R_Query) (T := T_Query) (N := 14) hx hb htb in_Query hown hK hP 0 rfl rfl 0 (by decide) (htb _ L_Query_9) (fun _ h9 => h9) rfl d_Query_begin_25 ?_
  refine lv_iconst (v := 0) hx hb d_Query_begin_28 (by decide) ?_
  refine lv_aload_n hx hb d_Query_begin_29 rfl (lv_at hl 0 rfl) ?_
  refine va_get (D := gD g) (ci := 1) (v := .int (t_12 1 0)) (C := R_Query) (T := T_Query) (N := 14) hx hb htb in_Query hown hK hP 0 rfl rfl 1 (by decide) (htb _ L_Query_15) (fun _ h9 => h9) rfl d_Query_begin_30 ?_
  by_cases c14 : (0 : Int32) < 0
  · replace h := (if_pos c14).symm.trans h
    cases h
  replace h := (if_neg c14).symm.trans h
  by_cases c15 : (0 : Int32) < 0
  · replace h := (if_pos c15).symm.trans h
    cases h
  replace h := (if_neg c15).symm.trans h
  by_cases c16 : (t_12 1 0) < 0
  · replace h := (if_pos c16).symm.trans h
    cases h
  replace h := (if_neg c16).symm.trans h
  by_cases c17 : p1N < (0 : Int32).toNatClampNeg + (t_12 1 0).toNatClampNeg
  · replace h := (if_pos c17).symm.trans h
    cases h
  replace h := (if_neg c17).symm.trans h
  by_cases c18 : 600 < (0 : Int32).toNatClampNeg + (t_12 1 0).toNatClampNeg
  · replace h := (if_pos c18).symm.trans h
    cases h
  replace h := (if_neg c18).symm.trans h
  by_cases c19 : (∀ i, i < (t_12 1 0).toNatClampNeg → fits .char (.int ((p1 0) ((0 : Int32).toNatClampNeg + i))) = true)
  rotate_left
  · replace h := (if_neg c19).symm.trans h
    cases h
  replace h := (if_pos c19).symm.trans h
  refine va_copyi hx hb (hml.trans hl.1.symm) hown (htb _ L_Query_66) (htb _ W_copy_native) (htb _ W_copy_static) (htb _ W_system_init) hK hP hD hS 11 1 1 1 rfl rfl rfl rfl rfl c14 c15 c16 (Nat.not_lt.mp c17) (Nat.not_lt.mp c18) c19 (Nat.le_of_ble_eq_true rfl) (by decide +kernel) d_Query_begin_33 (fun H locs hP hD hS => ?_)
  obtain ⟨t_13, et_13, h⟩ := letS_el h
  have hP : va_P (gD g) vwCl ((pic_Query g a_t t_13) ++ (pic_ArrC g a_p1 p1N p1)) H := by rw [et_13]; exact hP
  have hD : va_D A ((pic_Query g a_t t_13) ++ (pic_ArrC g a_p1 p1N p1)) := by rw [et_13]; exact hD
  refine lv_aload_n hx hb d_Query_begin_36 rfl (lv_at hl 0 rfl) ?_
  refine lv_iconst (v := 0) hx hb d_Query_begin_37 (by decide) ?_
  refine va_put (D := gD g) (ci := 1) (v := .int (0 : Int32)) (ty := .int) (C := R_Query) (T := T_Query) (N := 14) hx hb htb in_Query ty_Query ty_Query_ok nm_Query hown hK hP hD hS 0 rfl rfl 2 (by decide) (htb _ L_Query_19) (fun _ h9 => h9) rfl (by decide +kernel) rfl rfl (Nat.le_of_ble_eq_true rfl) d_Query_begin_38 (fun H locs hP hD hS => ?_)
  obtain ⟨t_20, et_20, h⟩ := letS_el h
  have hP : va_P (gD g) vwCl ((pic_Query g a_t t_20) ++ (pic_ArrC g a_p1 p1N p1)) H := by rw [et_20]; exact hP
  have hD : va_D A ((pic_Query g a_t t_20) ++ (pic_ArrC g a_p1 p1N p1)) := by rw [et_20]; exact hD
  refine lv_aload_n hx hb d_Query_begin_41 rfl (lv_at hl 0 rfl) ?_
  refine lv_iconst (v := 0) hx hb d_Query_begin_42 (by decide) ?_
  refine va_put (D := gD g) (ci := 1) (v := .int (0 : Int32)) (ty := .int) (C := R_Query) (T := T_Query) (N := 14) hx hb htb in_Query ty_Query ty_Query_ok nm_Query hown hK hP hD hS 0 rfl rfl 3 (by decide) (htb _ L_Query_22) (fun _ h9 => h9) rfl (by decide +kernel) rfl rfl (Nat.le_of_ble_eq_true rfl) d_Query_begin_43 (fun H locs hP hD hS => ?_)
  obtain ⟨t_21, et_21, h⟩ := letS_el h
  have hP : va_P (gD g) vwCl ((pic_Query g a_t t_21) ++ (pic_ArrC g a_p1 p1N p1)) H := by rw [et_21]; exact hP
  have hD : va_D A ((pic_Query g a_t t_21) ++ (pic_ArrC g a_p1 p1N p1)) := by rw [et_21]; exact hD
  refine lv_aload_n hx hb d_Query_begin_46 rfl (lv_at hl 0 rfl) ?_
  refine lv_iconst (v := 0) hx hb d_Query_begin_47 (by decide) ?_
  refine va_put (D := gD g) (ci := 1) (v := .int (0 : Int32)) (ty := .int) (C := R_Query) (T := T_Query) (N := 14) hx hb htb in_Query ty_Query ty_Query_ok nm_Query hown hK hP hD hS 0 rfl rfl 13 (by decide) (htb _ L_Query_54) (fun _ h9 => h9) rfl (by decide +kernel) rfl rfl (Nat.le_of_ble_eq_true rfl) d_Query_begin_48 (fun H locs hP hD hS => ?_)
  obtain ⟨t_22, et_22, h⟩ := letS_el h
  have hP : va_P (gD g) vwCl ((pic_Query g a_t t_22) ++ (pic_ArrC g a_p1 p1N p1)) H := by rw [et_22]; exact hP
  have hD : va_D A ((pic_Query g a_t t_22) ++ (pic_ArrC g a_p1 p1N p1)) := by rw [et_22]; exact hD
  cases h
  exact W.vret hx hb hr (fun t ht hW => ⟨⟨(), rfl, trivial, by rw [ht]; exact hP, hD⟩, hS.F ht⟩) hS.2.2 d_Query_begin_51
theorem c_Query_begin (l : Launch) (g : Gz) (F : Nat) (a_t : Nat → Nat) (a_p1 : Nat → Nat) (t : StI) (p1N : Nat) (p1 : StI) (x2 : Int32) (res : StI) (h : Query_begin F t p1N p1 x2 = some res) : ∀ sz : Nat, Met l y_Query_begin (.code y_Query_begin prog_5_method_2_code 3 none :: TBL) rm_Query_begin (va_Pc [.ref (a_t 0), .ref (a_p1 1), .int x2] (Pre0 g ((pic_Query g a_t t) ++ (pic_ArrC g a_p1 p1N p1)) sz)) (EV g ((pic_Query g a_t res) ++ (pic_ArrC g a_p1 p1N p1)) (va_A ((pic_Query g a_t t) ++ (pic_ArrC g a_p1 p1N p1)) sz)) 0 0 (va_A ((pic_Query g a_t t) ++ (pic_ArrC g a_p1 p1N p1)) sz) :=
  ct_w (Qc := fun A => EV g ((pic_Query g a_t res) ++ (pic_ArrC g a_p1 p1N p1)) A) (by decide) (Nat.le_of_ble_eq_true rfl) (fun p e s m args below meth c A hC => k_Query_begin hC t p1N p1 x2 res h)
