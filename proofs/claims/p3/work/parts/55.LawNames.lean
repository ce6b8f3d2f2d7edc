theorem L_LW_15 : (Jvm.Cond.methodLink "MailQueriesLaw" (15 : Nat) ({ cls := "MailQueries", name := "<init>", desc := "()V" } : Jvm.MethodName)) ∈ TBL := TBL_in (List.mem_of_getElem? (i := 123) (by decide +kernel)) (by decide +kernel)
theorem L_LW_18 : (Jvm.Cond.methodLink "MailQueriesLaw" (18 : Nat) ({ cls := "MailQueriesModel", name := "<init>", desc := "()V" } : Jvm.MethodName)) ∈ TBL := TBL_in (List.mem_of_getElem? (i := 950) (by decide +kernel)) (by decide +kernel)
theorem L_LW_19 : (Jvm.Cond.methodLink "MailQueriesLaw" (19 : Nat) ({ cls := "MailQueries", name := "feed", desc := "(IIIII)V" } : Jvm.MethodName)) ∈ TBL := TBL_in (List.mem_of_getElem? (i := 370) (by decide +kernel)) (by decide +kernel)
theorem L_LW_24 : (Jvm.Cond.methodLink "MailQueriesLaw" (24 : Nat) ({ cls := "MailQueries", name := "end", desc := "(I)I" } : Jvm.MethodName)) ∈ TBL := TBL_in (List.mem_of_getElem? (i := 378) (by decide +kernel)) (by decide +kernel)
theorem L_LW_34 : (Jvm.Cond.methodLink "MailQueriesLaw" (34 : Nat) ({ cls := "MailQueriesModel", name := "read", desc := "()I" } : Jvm.MethodName)) ∈ TBL := TBL_in (List.mem_of_getElem? (i := 1172) (by decide +kernel)) (by decide +kernel)
theorem L_LW_35 : (Jvm.Cond.methodLink "MailQueriesLaw" (35 : Nat) ({ cls := "MailQueries", name := "fault", desc := "(I)I" } : Jvm.MethodName)) ∈ TBL := TBL_in (List.mem_of_getElem? (i := 386) (by decide +kernel)) (by decide +kernel)
theorem L_LW_39 : (Jvm.Cond.methodLink "MailQueriesLaw" (39 : Nat) ({ cls := "MailQueries", name := "atom", desc := "(II)I" } : Jvm.MethodName)) ∈ TBL := TBL_in (List.mem_of_getElem? (i := 390) (by decide +kernel)) (by decide +kernel)
theorem L_LW_44 : (Jvm.Cond.methodLink "MailQueriesLaw" (44 : Nat) ({ cls := "MailQueries", name := "atomByte", desc := "(II)I" } : Jvm.MethodName)) ∈ TBL := TBL_in (List.mem_of_getElem? (i := 398) (by decide +kernel)) (by decide +kernel)
theorem L_LW_48 : (Jvm.Cond.methodLink "MailQueriesLaw" (48 : Nat) ({ cls := "MailQueries", name := "range", desc := "(II)I" } : Jvm.MethodName)) ∈ TBL := TBL_in (List.mem_of_getElem? (i := 406) (by decide +kernel)) (by decide +kernel)
theorem L_LW_52 : (Jvm.Cond.methodLink "MailQueriesLaw" (52 : Nat) ({ cls := "MailQueries", name := "tree", desc := "(I)I" } : Jvm.MethodName)) ∈ TBL := TBL_in (List.mem_of_getElem? (i := 410) (by decide +kernel)) (by decide +kernel)
theorem L_LW_56 : (Jvm.Cond.methodLink "MailQueriesLaw" (56 : Nat) ({ cls := "MailQueries", name := "print", desc := "()I" } : Jvm.MethodName)) ∈ TBL := TBL_in (List.mem_of_getElem? (i := 418) (by decide +kernel)) (by decide +kernel)
theorem L_LW_60 : (Jvm.Cond.methodLink "MailQueriesLaw" (60 : Nat) ({ cls := "MailQueries", name := "printed", desc := "(I)I" } : Jvm.MethodName)) ∈ TBL := TBL_in (List.mem_of_getElem? (i := 539) (by decide +kernel)) (by decide +kernel)
theorem L_LW_64 : (Jvm.Cond.methodLink "MailQueriesLaw" (64 : Nat) ({ cls := "MailQueries", name := "normal", desc := "()I" } : Jvm.MethodName)) ∈ TBL := TBL_in (List.mem_of_getElem? (i := 547) (by decide +kernel)) (by decide +kernel)
theorem L_LW_68 : (Jvm.Cond.methodLink "MailQueriesLaw" (68 : Nat) ({ cls := "MailQueries", name := "row", desc := "(IZ)J" } : Jvm.MethodName)) ∈ TBL := TBL_in (List.mem_of_getElem? (i := 628) (by decide +kernel)) (by decide +kernel)
theorem L_LW_75 : (Jvm.Cond.methodLink "MailQueriesLaw" (75 : Nat) ({ cls := "MailQueries", name := "ask", desc := "(J)Z" } : Jvm.MethodName)) ∈ TBL := TBL_in (List.mem_of_getElem? (i := 636) (by decide +kernel)) (by decide +kernel)
theorem L_LW_80 : (Jvm.Cond.methodLink "MailQueriesLaw" (80 : Nat) ({ cls := "MailQueries", name := "ways", desc := "()I" } : Jvm.MethodName)) ∈ TBL := TBL_in (List.mem_of_getElem? (i := 656) (by decide +kernel)) (by decide +kernel)
theorem L_LW_23 : (Jvm.Cond.methodLink "MailQueriesLaw" (23 : Nat) ({ cls := "MailQueriesModel", name := "feed", desc := "(IIIII)V" } : Jvm.MethodName)) ∈ TBL := TBL_in (List.mem_of_getElem? (i := 1160) (by decide +kernel)) (by decide +kernel)
theorem L_LW_28 : (Jvm.Cond.methodLink "MailQueriesLaw" (28 : Nat) ({ cls := "MailQueriesModel", name := "end", desc := "(I)I" } : Jvm.MethodName)) ∈ TBL := TBL_in (List.mem_of_getElem? (i := 1168) (by decide +kernel)) (by decide +kernel)
theorem L_LW_38 : (Jvm.Cond.methodLink "MailQueriesLaw" (38 : Nat) ({ cls := "MailQueriesModel", name := "fault", desc := "(I)I" } : Jvm.MethodName)) ∈ TBL := TBL_in (List.mem_of_getElem? (i := 1346) (by decide +kernel)) (by decide +kernel)
theorem L_LW_43 : (Jvm.Cond.methodLink "MailQueriesLaw" (43 : Nat) ({ cls := "MailQueriesModel", name := "atom", desc := "(II)I" } : Jvm.MethodName)) ∈ TBL := TBL_in (List.mem_of_getElem? (i := 1350) (by decide +kernel)) (by decide +kernel)
theorem L_LW_47 : (Jvm.Cond.methodLink "MailQueriesLaw" (47 : Nat) ({ cls := "MailQueriesModel", name := "atomByte", desc := "(II)I" } : Jvm.MethodName)) ∈ TBL := TBL_in (List.mem_of_getElem? (i := 1354) (by decide +kernel)) (by decide +kernel)
theorem L_LW_51 : (Jvm.Cond.methodLink "MailQueriesLaw" (51 : Nat) ({ cls := "MailQueriesModel", name := "range", desc := "(II)I" } : Jvm.MethodName)) ∈ TBL := TBL_in (List.mem_of_getElem? (i := 1358) (by decide +kernel)) (by decide +kernel)
theorem L_LW_55 : (Jvm.Cond.methodLink "MailQueriesLaw" (55 : Nat) ({ cls := "MailQueriesModel", name := "tree", desc := "(I)I" } : Jvm.MethodName)) ∈ TBL := TBL_in (List.mem_of_getElem? (i := 1362) (by decide +kernel)) (by decide +kernel)
theorem L_LW_59 : (Jvm.Cond.methodLink "MailQueriesLaw" (59 : Nat) ({ cls := "MailQueriesModel", name := "print", desc := "()I" } : Jvm.MethodName)) ∈ TBL := TBL_in (List.mem_of_getElem? (i := 1374) (by decide +kernel)) (by decide +kernel)
theorem L_LW_63 : (Jvm.Cond.methodLink "MailQueriesLaw" (63 : Nat) ({ cls := "MailQueriesModel", name := "printed", desc := "(I)I" } : Jvm.MethodName)) ∈ TBL := TBL_in (List.mem_of_getElem? (i := 1402) (by decide +kernel)) (by decide +kernel)
theorem L_LW_67 : (Jvm.Cond.methodLink "MailQueriesLaw" (67 : Nat) ({ cls := "MailQueriesModel", name := "normal", desc := "()I" } : Jvm.MethodName)) ∈ TBL := TBL_in (List.mem_of_getElem? (i := 1406) (by decide +kernel)) (by decide +kernel)
theorem L_LW_72 : (Jvm.Cond.methodLink "MailQueriesLaw" (72 : Nat) ({ cls := "MailQueriesModel", name := "row", desc := "(IZ)J" } : Jvm.MethodName)) ∈ TBL := TBL_in (List.mem_of_getElem? (i := 1443) (by decide +kernel)) (by decide +kernel)
theorem L_LW_79 : (Jvm.Cond.methodLink "MailQueriesLaw" (79 : Nat) ({ cls := "MailQueriesModel", name := "ask", desc := "(J)Z" } : Jvm.MethodName)) ∈ TBL := TBL_in (List.mem_of_getElem? (i := 1447) (by decide +kernel)) (by decide +kernel)
theorem L_LW_83 : (Jvm.Cond.methodLink "MailQueriesLaw" (83 : Nat) ({ cls := "MailQueriesModel", name := "ways", desc := "()I" } : Jvm.MethodName)) ∈ TBL := TBL_in (List.mem_of_getElem? (i := 1455) (by decide +kernel)) (by decide +kernel)
theorem L_LW_8 : (Jvm.Cond.classLink "MailQueriesLaw" (8 : Nat) "MailQueries") ∈ TBL := TBL_in (List.mem_of_getElem? (i := 121) (by decide +kernel)) (by decide +kernel)
theorem L_LW_16 : (Jvm.Cond.classLink "MailQueriesLaw" (16 : Nat) "MailQueriesModel") ∈ TBL := TBL_in (List.mem_of_getElem? (i := 948) (by decide +kernel)) (by decide +kernel)
theorem K_LW_73 : (Jvm.Cond.constantLong "MailQueriesLaw" (73 : Nat) (4294967295 : Int64)) ∈ TBL := TBL_in (List.mem_of_getElem? (i := 1459) (by decide +kernel)) (by decide +kernel)
theorem d_LW_0 : decode code 0 = .ok (.new 8, 3) := by decide +kernel
theorem d_LW_3 : decode code 3 = .ok (.dup, 1) := by decide +kernel
theorem d_LW_4 : decode code 4 = .ok (.invokespecial 15, 3) := by decide +kernel
theorem d_LW_7 : decode code 7 = .ok (.astore_n 1, 1) := by decide +kernel
theorem d_LW_8 : decode code 8 = .ok (.new 16, 3) := by decide +kernel
theorem d_LW_11 : decode code 11 = .ok (.dup, 1) := by decide +kernel
theorem d_LW_12 : decode code 12 = .ok (.invokespecial 18, 3) := by decide +kernel
theorem d_LW_15 : decode code 15 = .ok (.astore_n 2, 1) := by decide +kernel
theorem d_LW_16 : decode code 16 = .ok (.iconst 1, 1) := by decide +kernel
theorem d_LW_17 : decode code 17 = .ok (.newarray .long, 2) := by decide +kernel
theorem d_LW_19 : decode code 19 = .ok (.astore_n 3, 1) := by decide +kernel
theorem d_LW_20 : decode code 20 = .ok (.iconst 0, 1) := by decide +kernel
theorem d_LW_21 : decode code 21 = .ok (.istore 4, 2) := by decide +kernel
theorem d_LW_23 : decode code 23 = .ok (.iload 4, 2) := by decide +kernel
theorem d_LW_25 : decode code 25 = .ok (.aload_n 0, 1) := by decide +kernel
theorem d_LW_26 : decode code 26 = .ok (.arraylength, 1) := by decide +kernel
theorem d_LW_27 : decode code 27 = .ok (.bipush 6, 2) := by decide +kernel
theorem d_LW_29 : decode code 29 = .ok (.isub, 1) := by decide +kernel
theorem d_LW_30 : decode code 30 = .ok (.if_icmp .gt 535, 3) := by decide +kernel
theorem d_LW_33 : decode code 33 = .ok (.aload_n 0, 1) := by decide +kernel
theorem d_LW_34 : decode code 34 = .ok (.iload 4, 2) := by decide +kernel
theorem d_LW_36 : decode code 36 = .ok (.iaload, 1) := by decide +kernel
theorem d_LW_37 : decode code 37 = .ok (.bipush 15, 2) := by decide +kernel
theorem d_LW_39 : decode code 39 = .ok (.iand, 1) := by decide +kernel
theorem d_LW_40 : decode code 40 = .ok (.tableswitch 519 0 13 #[72, 143, 168, 184, 209, 246, 283, 320, 345, 358, 383, 396, 449, 506], 72) := by decide +kernel
theorem d_LW_112 : decode code 112 = .ok (.aload_n 1, 1) := by decide +kernel
theorem d_LW_113 : decode code 113 = .ok (.aload_n 0, 1) := by decide +kernel
theorem d_LW_114 : decode code 114 = .ok (.iload 4, 2) := by decide +kernel
theorem d_LW_116 : decode code 116 = .ok (.iconst 1, 1) := by decide +kernel
theorem d_LW_117 : decode code 117 = .ok (.iadd, 1) := by decide +kernel
theorem d_LW_118 : decode code 118 = .ok (.iaload, 1) := by decide +kernel
theorem d_LW_119 : decode code 119 = .ok (.aload_n 0, 1) := by decide +kernel
theorem d_LW_120 : decode code 120 = .ok (.iload 4, 2) := by decide +kernel
theorem d_LW_122 : decode code 122 = .ok (.iconst 2, 1) := by decide +kernel
theorem d_LW_123 : decode code 123 = .ok (.iadd, 1) := by decide +kernel
theorem d_LW_124 : decode code 124 = .ok (.iaload, 1) := by decide +kernel
theorem d_LW_125 : decode code 125 = .ok (.aload_n 0, 1) := by decide +kernel
theorem d_LW_126 : decode code 126 = .ok (.iload 4, 2) := by decide +kernel
theorem d_LW_128 : decode code 128 = .ok (.iconst 3, 1) := by decide +kernel
theorem d_LW_129 : decode code 129 = .ok (.iadd, 1) := by decide +kernel
theorem d_LW_130 : decode code 130 = .ok (.iaload, 1) := by decide +kernel
theorem d_LW_131 : decode code 131 = .ok (.aload_n 0, 1) := by decide +kernel
theorem d_LW_132 : decode code 132 = .ok (.iload 4, 2) := by decide +kernel
theorem d_LW_134 : decode code 134 = .ok (.iconst 4, 1) := by decide +kernel
theorem d_LW_135 : decode code 135 = .ok (.iadd, 1) := by decide +kernel
theorem d_LW_136 : decode code 136 = .ok (.iaload, 1) := by decide +kernel
theorem d_LW_137 : decode code 137 = .ok (.aload_n 0, 1) := by decide +kernel
theorem d_LW_138 : decode code 138 = .ok (.iload 4, 2) := by decide +kernel
theorem d_LW_140 : decode code 140 = .ok (.iconst 5, 1) := by decide +kernel
theorem d_LW_141 : decode code 141 = .ok (.iadd, 1) := by decide +kernel
theorem d_LW_142 : decode code 142 = .ok (.iaload, 1) := by decide +kernel
theorem d_LW_143 : decode code 143 = .ok (.invokevirtual 19, 3) := by decide +kernel
theorem d_LW_146 : decode code 146 = .ok (.aload_n 2, 1) := by decide +kernel
theorem d_LW_147 : decode code 147 = .ok (.aload_n 0, 1) := by decide +kernel
theorem d_LW_148 : decode code 148 = .ok (.iload 4, 2) := by decide +kernel
theorem d_LW_150 : decode code 150 = .ok (.iconst 1, 1) := by decide +kernel
theorem d_LW_151 : decode code 151 = .ok (.iadd, 1) := by decide +kernel
theorem d_LW_152 : decode code 152 = .ok (.iaload, 1) := by decide +kernel
theorem d_LW_153 : decode code 153 = .ok (.aload_n 0, 1) := by decide +kernel
theorem d_LW_154 : decode code 154 = .ok (.iload 4, 2) := by decide +kernel
theorem d_LW_156 : decode code 156 = .ok (.iconst 2, 1) := by decide +kernel
theorem d_LW_157 : decode code 157 = .ok (.iadd, 1) := by decide +kernel
theorem d_LW_158 : decode code 158 = .ok (.iaload, 1) := by decide +kernel
theorem d_LW_159 : decode code 159 = .ok (.aload_n 0, 1) := by decide +kernel
theorem d_LW_160 : decode code 160 = .ok (.iload 4, 2) := by decide +kernel
theorem d_LW_162 : decode code 162 = .ok (.iconst 3, 1) := by decide +kernel
theorem d_LW_163 : decode code 163 = .ok (.iadd, 1) := by decide +kernel
theorem d_LW_164 : decode code 164 = .ok (.iaload, 1) := by decide +kernel
theorem d_LW_165 : decode code 165 = .ok (.aload_n 0, 1) := by decide +kernel
theorem d_LW_166 : decode code 166 = .ok (.iload 4, 2) := by decide +kernel
theorem d_LW_168 : decode code 168 = .ok (.iconst 4, 1) := by decide +kernel
theorem d_LW_169 : decode code 169 = .ok (.iadd, 1) := by decide +kernel
theorem d_LW_170 : decode code 170 = .ok (.iaload, 1) := by decide +kernel
theorem d_LW_171 : decode code 171 = .ok (.aload_n 0, 1) := by decide +kernel
theorem d_LW_172 : decode code 172 = .ok (.iload 4, 2) := by decide +kernel
theorem d_LW_174 : decode code 174 = .ok (.iconst 5, 1) := by decide +kernel
theorem d_LW_175 : decode code 175 = .ok (.iadd, 1) := by decide +kernel
theorem d_LW_176 : decode code 176 = .ok (.iaload, 1) := by decide +kernel
theorem d_LW_177 : decode code 177 = .ok (.invokevirtual 23, 3) := by decide +kernel
theorem d_LW_180 : decode code 180 = .ok (.goto 379, 3) := by decide +kernel
theorem d_LW_183 : decode code 183 = .ok (.aload_n 1, 1) := by decide +kernel
theorem d_LW_184 : decode code 184 = .ok (.aload_n 0, 1) := by decide +kernel
theorem d_LW_185 : decode code 185 = .ok (.iload 4, 2) := by decide +kernel
theorem d_LW_187 : decode code 187 = .ok (.iconst 1, 1) := by decide +kernel
theorem d_LW_188 : decode code 188 = .ok (.iadd, 1) := by decide +kernel
theorem d_LW_189 : decode code 189 = .ok (.iaload, 1) := by decide +kernel
theorem d_LW_190 : decode code 190 = .ok (.invokevirtual 24, 3) := by decide +kernel
theorem d_LW_193 : decode code 193 = .ok (.aload_n 2, 1) := by decide +kernel
theorem d_LW_194 : decode code 194 = .ok (.aload_n 0, 1) := by decide +kernel
theorem d_LW_195 : decode code 195 = .ok (.iload 4, 2) := by decide +kernel
theorem d_LW_197 : decode code 197 = .ok (.iconst 1, 1) := by decide +kernel
theorem d_LW_198 : decode code 198 = .ok (.iadd, 1) := by decide +kernel
theorem d_LW_199 : decode code 199 = .ok (.iaload, 1) := by decide +kernel
theorem d_LW_200 : decode code 200 = .ok (.invokevirtual 28, 3) := by decide +kernel
theorem d_LW_203 : decode code 203 = .ok (.if_icmp .eq 356, 3) := by decide +kernel
theorem d_LW_206 : decode code 206 = .ok (.iconst 0, 1) := by decide +kernel
theorem d_LW_207 : decode code 207 = .ok (.ireturn, 1) := by decide +kernel
theorem d_LW_208 : decode code 208 = .ok (.aload_n 1, 1) := by decide +kernel
theorem d_LW_209 : decode code 209 = .ok (.aload_n 3, 1) := by decide +kernel
theorem d_LW_210 : decode code 210 = .ok (.invokestatic 29, 3) := by decide +kernel
theorem d_LW_213 : decode code 213 = .ok (.istore 5, 2) := by decide +kernel
theorem d_LW_215 : decode code 215 = .ok (.aload_n 2, 1) := by decide +kernel
theorem d_LW_216 : decode code 216 = .ok (.invokevirtual 34, 3) := by decide +kernel
theorem d_LW_219 : decode code 219 = .ok (.istore 6, 2) := by decide +kernel
theorem d_LW_221 : decode code 221 = .ok (.goto 338, 3) := by decide +kernel
theorem d_LW_224 : decode code 224 = .ok (.aload_n 1, 1) := by decide +kernel
theorem d_LW_225 : decode code 225 = .ok (.aload_n 0, 1) := by decide +kernel
theorem d_LW_226 : decode code 226 = .ok (.iload 4, 2) := by decide +kernel
theorem d_LW_228 : decode code 228 = .ok (.iconst 1, 1) := by decide +kernel
theorem d_LW_229 : decode code 229 = .ok (.iadd, 1) := by decide +kernel
theorem d_LW_230 : decode code 230 = .ok (.iaload, 1) := by decide +kernel
theorem d_LW_231 : decode code 231 = .ok (.invokevirtual 35, 3) := by decide +kernel
theorem d_LW_234 : decode code 234 = .ok (.pop, 1) := by decide +kernel
theorem d_LW_235 : decode code 235 = .ok (.aload_n 2, 1) := by decide +kernel
theorem d_LW_236 : decode code 236 = .ok (.aload_n 0, 1) := by decide +kernel
theorem d_LW_237 : decode code 237 = .ok (.iload 4, 2) := by decide +kernel
theorem d_LW_239 : decode code 239 = .ok (.iconst 1, 1) := by decide +kernel
theorem d_LW_240 : decode code 240 = .ok (.iadd, 1) := by decide +kernel
theorem d_LW_241 : decode code 241 = .ok (.iaload, 1) := by decide +kernel
theorem d_LW_242 : decode code 242 = .ok (.invokevirtual 38, 3) := by decide +kernel
theorem d_LW_245 : decode code 245 = .ok (.pop, 1) := by decide +kernel
theorem d_LW_246 : decode code 246 = .ok (.goto 313, 3) := by decide +kernel
theorem d_LW_249 : decode code 249 = .ok (.aload_n 1, 1) := by decide +kernel
theorem d_LW_250 : decode code 250 = .ok (.aload_n 0, 1) := by decide +kernel
theorem d_LW_251 : decode code 251 = .ok (.iload 4, 2) := by decide +kernel
theorem d_LW_253 : decode code 253 = .ok (.iconst 1, 1) := by decide +kernel
theorem d_LW_254 : decode code 254 = .ok (.iadd, 1) := by decide +kernel
theorem d_LW_255 : decode code 255 = .ok (.iaload, 1) := by decide +kernel
theorem d_LW_256 : decode code 256 = .ok (.aload_n 0, 1) := by decide +kernel
theorem d_LW_257 : decode code 257 = .ok (.iload 4, 2) := by decide +kernel
theorem d_LW_259 : decode code 259 = .ok (.iconst 2, 1) := by decide +kernel
theorem d_LW_260 : decode code 260 = .ok (.iadd, 1) := by decide +kernel
theorem d_LW_261 : decode code 261 = .ok (.iaload, 1) := by decide +kernel
theorem d_LW_262 : decode code 262 = .ok (.invokevirtual 39, 3) := by decide +kernel
theorem d_LW_265 : decode code 265 = .ok (.pop, 1) := by decide +kernel
theorem d_LW_266 : decode code 266 = .ok (.aload_n 2, 1) := by decide +kernel
theorem d_LW_267 : decode code 267 = .ok (.aload_n 0, 1) := by decide +kernel
theorem d_LW_268 : decode code 268 = .ok (.iload 4, 2) := by decide +kernel
theorem d_LW_270 : decode code 270 = .ok (.iconst 1, 1) := by decide +kernel
theorem d_LW_271 : decode code 271 = .ok (.iadd, 1) := by decide +kernel
theorem d_LW_272 : decode code 272 = .ok (.iaload, 1) := by decide +kernel
theorem d_LW_273 : decode code 273 = .ok (.aload_n 0, 1) := by decide +kernel
theorem d_LW_274 : decode code 274 = .ok (.iload 4, 2) := by decide +kernel
theorem d_LW_276 : decode code 276 = .ok (.iconst 2, 1) := by decide +kernel
theorem d_LW_277 : decode code 277 = .ok (.iadd, 1) := by decide +kernel
theorem d_LW_278 : decode code 278 = .ok (.iaload, 1) := by decide +kernel
theorem d_LW_279 : decode code 279 = .ok (.invokevirtual 43, 3) := by decide +kernel
theorem d_LW_282 : decode code 282 = .ok (.pop, 1) := by decide +kernel
theorem d_LW_283 : decode code 283 = .ok (.goto 276, 3) := by decide +kernel
theorem d_LW_286 : decode code 286 = .ok (.aload_n 1, 1) := by decide +kernel
theorem d_LW_287 : decode code 287 = .ok (.aload_n 0, 1) := by decide +kernel
theorem d_LW_288 : decode code 288 = .ok (.iload 4, 2) := by decide +kernel
theorem d_LW_290 : decode code 290 = .ok (.iconst 1, 1) := by decide +kernel
theorem d_LW_291 : decode code 291 = .ok (.iadd, 1) := by decide +kernel
theorem d_LW_292 : decode code 292 = .ok (.iaload, 1) := by decide +kernel
theorem d_LW_293 : decode code 293 = .ok (.aload_n 0, 1) := by decide +kernel
theorem d_LW_294 : decode code 294 = .ok (.iload 4, 2) := by decide +kernel
theorem d_LW_296 : decode code 296 = .ok (.iconst 2, 1) := by decide +kernel
theorem d_LW_297 : decode code 297 = .ok (.iadd, 1) := by decide +kernel
theorem d_LW_298 : decode code 298 = .ok (.iaload, 1) := by decide +kernel
theorem d_LW_299 : decode code 299 = .ok (.invokevirtual 44, 3) := by decide +kernel
theorem d_LW_302 : decode code 302 = .ok (.pop, 1) := by decide +kernel
theorem d_LW_303 : decode code 303 = .ok (.aload_n 2, 1) := by decide +kernel
theorem d_LW_304 : decode code 304 = .ok (.aload_n 0, 1) := by decide +kernel
theorem d_LW_305 : decode code 305 = .ok (.iload 4, 2) := by decide +kernel
theorem d_LW_307 : decode code 307 = .ok (.iconst 1, 1) := by decide +kernel
theorem d_LW_308 : decode code 308 = .ok (.iadd, 1) := by decide +kernel
theorem d_LW_309 : decode code 309 = .ok (.iaload, 1) := by decide +kernel
theorem d_LW_310 : decode code 310 = .ok (.aload_n 0, 1) := by decide +kernel
theorem d_LW_311 : decode code 311 = .ok (.iload 4, 2) := by decide +kernel
theorem d_LW_313 : decode code 313 = .ok (.iconst 2, 1) := by decide +kernel
theorem d_LW_314 : decode code 314 = .ok (.iadd, 1) := by decide +kernel
theorem d_LW_315 : decode code 315 = .ok (.iaload, 1) := by decide +kernel
theorem d_LW_316 : decode code 316 = .ok (.invokevirtual 47, 3) := by decide +kernel
theorem d_LW_319 : decode code 319 = .ok (.pop, 1) := by decide +kernel
theorem d_LW_320 : decode code 320 = .ok (.goto 239, 3) := by decide +kernel
theorem d_LW_323 : decode code 323 = .ok (.aload_n 1, 1) := by decide +kernel
theorem d_LW_324 : decode code 324 = .ok (.aload_n 0, 1) := by decide +kernel
theorem d_LW_325 : decode code 325 = .ok (.iload 4, 2) := by decide +kernel
theorem d_LW_327 : decode code 327 = .ok (.iconst 1, 1) := by decide +kernel
theorem d_LW_328 : decode code 328 = .ok (.iadd, 1) := by decide +kernel
theorem d_LW_329 : decode code 329 = .ok (.iaload, 1) := by decide +kernel
theorem d_LW_330 : decode code 330 = .ok (.aload_n 0, 1) := by decide +kernel
theorem d_LW_331 : decode code 331 = .ok (.iload 4, 2) := by decide +kernel
theorem d_LW_333 : decode code 333 = .ok (.iconst 2, 1) := by decide +kernel
theorem d_LW_334 : decode code 334 = .ok (.iadd, 1) := by decide +kernel
theorem d_LW_335 : decode code 335 = .ok (.iaload, 1) := by decide +kernel
theorem d_LW_336 : decode code 336 = .ok (.invokevirtual 48, 3) := by decide +kernel
theorem d_LW_339 : decode code 339 = .ok (.pop, 1) := by decide +kernel
theorem d_LW_340 : decode code 340 = .ok (.aload_n 2, 1) := by decide +kernel
theorem d_LW_341 : decode code 341 = .ok (.aload_n 0, 1) := by decide +kernel
theorem d_LW_342 : decode code 342 = .ok (.iload 4, 2) := by decide +kernel
theorem d_LW_344 : decode code 344 = .ok (.iconst 1, 1) := by decide +kernel
theorem d_LW_345 : decode code 345 = .ok (.iadd, 1) := by decide +kernel
theorem d_LW_346 : decode code 346 = .ok (.iaload, 1) := by decide +kernel
theorem d_LW_347 : decode code 347 = .ok (.aload_n 0, 1) := by decide +kernel
theorem d_LW_348 : decode code 348 = .ok (.iload 4, 2) := by decide +kernel
theorem d_LW_350 : decode code 350 = .ok (.iconst 2, 1) := by decide +kernel
theorem d_LW_351 : decode code 351 = .ok (.iadd, 1) := by decide +kernel
theorem d_LW_352 : decode code 352 = .ok (.iaload, 1) := by decide +kernel
theorem d_LW_353 : decode code 353 = .ok (.invokevirtual 51, 3) := by decide +kernel
theorem d_LW_356 : decode code 356 = .ok (.pop, 1) := by decide +kernel
theorem d_LW_357 : decode code 357 = .ok (.goto 202, 3) := by decide +kernel
theorem d_LW_360 : decode code 360 = .ok (.aload_n 1, 1) := by decide +kernel
theorem d_LW_361 : decode code 361 = .ok (.aload_n 0, 1) := by decide +kernel
theorem d_LW_362 : decode code 362 = .ok (.iload 4, 2) := by decide +kernel
theorem d_LW_364 : decode code 364 = .ok (.iconst 1, 1) := by decide +kernel
theorem d_LW_365 : decode code 365 = .ok (.iadd, 1) := by decide +kernel
theorem d_LW_366 : decode code 366 = .ok (.iaload, 1) := by decide +kernel
theorem d_LW_367 : decode code 367 = .ok (.invokevirtual 52, 3) := by decide +kernel
theorem d_LW_370 : decode code 370 = .ok (.pop, 1) := by decide +kernel
theorem d_LW_371 : decode code 371 = .ok (.aload_n 2, 1) := by decide +kernel
theorem d_LW_372 : decode code 372 = .ok (.aload_n 0, 1) := by decide +kernel
theorem d_LW_373 : decode code 373 = .ok (.iload 4, 2) := by decide +kernel
theorem d_LW_375 : decode code 375 = .ok (.iconst 1, 1) := by decide +kernel
theorem d_LW_376 : decode code 376 = .ok (.iadd, 1) := by decide +kernel
theorem d_LW_377 : decode code 377 = .ok (.iaload, 1) := by decide +kernel
theorem d_LW_378 : decode code 378 = .ok (.invokevirtual 55, 3) := by decide +kernel
theorem d_LW_381 : decode code 381 = .ok (.pop, 1) := by decide +kernel
theorem d_LW_382 : decode code 382 = .ok (.goto 177, 3) := by decide +kernel
theorem d_LW_385 : decode code 385 = .ok (.aload_n 1, 1) := by decide +kernel
theorem d_LW_386 : decode code 386 = .ok (.invokevirtual 56, 3) := by decide +kernel
theorem d_LW_389 : decode code 389 = .ok (.pop, 1) := by decide +kernel
theorem d_LW_390 : decode code 390 = .ok (.aload_n 2, 1) := by decide +kernel
theorem d_LW_391 : decode code 391 = .ok (.invokevirtual 59, 3) := by decide +kernel
theorem d_LW_394 : decode code 394 = .ok (.pop, 1) := by decide +kernel
theorem d_LW_395 : decode code 395 = .ok (.goto 164, 3) := by decide +kernel
theorem d_LW_398 : decode code 398 = .ok (.aload_n 1, 1) := by decide +kernel
theorem d_LW_399 : decode code 399 = .ok (.aload_n 0, 1) := by decide +kernel
theorem d_LW_400 : decode code 400 = .ok (.iload 4, 2) := by decide +kernel
theorem d_LW_402 : decode code 402 = .ok (.iconst 1, 1) := by decide +kernel
theorem d_LW_403 : decode code 403 = .ok (.iadd, 1) := by decide +kernel
theorem d_LW_404 : decode code 404 = .ok (.iaload, 1) := by decide +kernel
theorem d_LW_405 : decode code 405 = .ok (.invokevirtual 60, 3) := by decide +kernel
theorem d_LW_408 : decode code 408 = .ok (.pop, 1) := by decide +kernel
theorem d_LW_409 : decode code 409 = .ok (.aload_n 2, 1) := by decide +kernel
theorem d_LW_410 : decode code 410 = .ok (.aload_n 0, 1) := by decide +kernel
theorem d_LW_411 : decode code 411 = .ok (.iload 4, 2) := by decide +kernel
theorem d_LW_413 : decode code 413 = .ok (.iconst 1, 1) := by decide +kernel
theorem d_LW_414 : decode code 414 = .ok (.iadd, 1) := by decide +kernel
theorem d_LW_415 : decode code 415 = .ok (.iaload, 1) := by decide +kernel
theorem d_LW_416 : decode code 416 = .ok (.invokevirtual 63, 3) := by decide +kernel
theorem d_LW_419 : decode code 419 = .ok (.pop, 1) := by decide +kernel
theorem d_LW_420 : decode code 420 = .ok (.goto 139, 3) := by decide +kernel
theorem d_LW_423 : decode code 423 = .ok (.aload_n 1, 1) := by decide +kernel
theorem d_LW_424 : decode code 424 = .ok (.invokevirtual 64, 3) := by decide +kernel
theorem d_LW_427 : decode code 427 = .ok (.pop, 1) := by decide +kernel
theorem d_LW_428 : decode code 428 = .ok (.aload_n 2, 1) := by decide +kernel
theorem d_LW_429 : decode code 429 = .ok (.invokevirtual 67, 3) := by decide +kernel
theorem d_LW_432 : decode code 432 = .ok (.pop, 1) := by decide +kernel
theorem d_LW_433 : decode code 433 = .ok (.goto 126, 3) := by decide +kernel
theorem d_LW_436 : decode code 436 = .ok (.aload_n 1, 1) := by decide +kernel
theorem d_LW_437 : decode code 437 = .ok (.aload_n 0, 1) := by decide +kernel
theorem d_LW_438 : decode code 438 = .ok (.iload 4, 2) := by decide +kernel
theorem d_LW_440 : decode code 440 = .ok (.iconst 1, 1) := by decide +kernel
theorem d_LW_441 : decode code 441 = .ok (.iadd, 1) := by decide +kernel
theorem d_LW_442 : decode code 442 = .ok (.iaload, 1) := by decide +kernel
theorem d_LW_443 : decode code 443 = .ok (.aload_n 0, 1) := by decide +kernel
theorem d_LW_444 : decode code 444 = .ok (.iload 4, 2) := by decide +kernel
theorem d_LW_446 : decode code 446 = .ok (.iconst 2, 1) := by decide +kernel
theorem d_LW_447 : decode code 447 = .ok (.iadd, 1) := by decide +kernel
theorem d_LW_448 : decode code 448 = .ok (.iaload, 1) := by decide +kernel
theorem d_LW_449 : decode code 449 = .ok (.ifCond .eq 7, 3) := by decide +kernel
theorem d_LW_452 : decode code 452 = .ok (.iconst 1, 1) := by decide +kernel
theorem d_LW_453 : decode code 453 = .ok (.goto 4, 3) := by decide +kernel
theorem d_LW_456 : decode code 456 = .ok (.iconst 0, 1) := by decide +kernel
theorem d_LW_457 : decode code 457 = .ok (.invokevirtual 68, 3) := by decide +kernel
theorem d_LW_460 : decode code 460 = .ok (.pop2, 1) := by decide +kernel
theorem d_LW_461 : decode code 461 = .ok (.aload_n 2, 1) := by decide +kernel
theorem d_LW_462 : decode code 462 = .ok (.aload_n 0, 1) := by decide +kernel
theorem d_LW_463 : decode code 463 = .ok (.iload 4, 2) := by decide +kernel
theorem d_LW_465 : decode code 465 = .ok (.iconst 1, 1) := by decide +kernel
theorem d_LW_466 : decode code 466 = .ok (.iadd, 1) := by decide +kernel
theorem d_LW_467 : decode code 467 = .ok (.iaload, 1) := by decide +kernel
theorem d_LW_468 : decode code 468 = .ok (.aload_n 0, 1) := by decide +kernel
theorem d_LW_469 : decode code 469 = .ok (.iload 4, 2) := by decide +kernel
theorem d_LW_471 : decode code 471 = .ok (.iconst 2, 1) := by decide +kernel
theorem d_LW_472 : decode code 472 = .ok (.iadd, 1) := by decide +kernel
theorem d_LW_473 : decode code 473 = .ok (.iaload, 1) := by decide +kernel
theorem d_LW_474 : decode code 474 = .ok (.ifCond .eq 7, 3) := by decide +kernel
theorem d_LW_477 : decode code 477 = .ok (.iconst 1, 1) := by decide +kernel
theorem d_LW_478 : decode code 478 = .ok (.goto 4, 3) := by decide +kernel
theorem d_LW_481 : decode code 481 = .ok (.iconst 0, 1) := by decide +kernel
theorem d_LW_482 : decode code 482 = .ok (.invokevirtual 72, 3) := by decide +kernel
theorem d_LW_485 : decode code 485 = .ok (.pop2, 1) := by decide +kernel
theorem d_LW_486 : decode code 486 = .ok (.goto 73, 3) := by decide +kernel
theorem d_LW_489 : decode code 489 = .ok (.aload_n 1, 1) := by decide +kernel
theorem d_LW_490 : decode code 490 = .ok (.aload_n 0, 1) := by decide +kernel
theorem d_LW_491 : decode code 491 = .ok (.iload 4, 2) := by decide +kernel
theorem d_LW_493 : decode code 493 = .ok (.iconst 1, 1) := by decide +kernel
theorem d_LW_494 : decode code 494 = .ok (.iadd, 1) := by decide +kernel
theorem d_LW_495 : decode code 495 = .ok (.iaload, 1) := by decide +kernel
theorem d_LW_496 : decode code 496 = .ok (.i2l, 1) := by decide +kernel
theorem d_LW_497 : decode code 497 = .ok (.bipush 32, 2) := by decide +kernel
theorem d_LW_499 : decode code 499 = .ok (.lshl, 1) := by decide +kernel
theorem d_LW_500 : decode code 500 = .ok (.aload_n 0, 1) := by decide +kernel
theorem d_LW_501 : decode code 501 = .ok (.iload 4, 2) := by decide +kernel
theorem d_LW_503 : decode code 503 = .ok (.iconst 2, 1) := by decide +kernel
theorem d_LW_504 : decode code 504 = .ok (.iadd, 1) := by decide +kernel
theorem d_LW_505 : decode code 505 = .ok (.iaload, 1) := by decide +kernel
theorem d_LW_506 : decode code 506 = .ok (.i2l, 1) := by decide +kernel
theorem d_LW_507 : decode code 507 = .ok (.ldc2_w 73, 3) := by decide +kernel
theorem d_LW_510 : decode code 510 = .ok (.land, 1) := by decide +kernel
theorem d_LW_511 : decode code 511 = .ok (.lor, 1) := by decide +kernel
theorem d_LW_512 : decode code 512 = .ok (.invokevirtual 75, 3) := by decide +kernel
theorem d_LW_515 : decode code 515 = .ok (.pop, 1) := by decide +kernel
theorem d_LW_516 : decode code 516 = .ok (.aload_n 2, 1) := by decide +kernel
theorem d_LW_517 : decode code 517 = .ok (.aload_n 0, 1) := by decide +kernel
theorem d_LW_518 : decode code 518 = .ok (.iload 4, 2) := by decide +kernel
theorem d_LW_520 : decode code 520 = .ok (.iconst 1, 1) := by decide +kernel
theorem d_LW_521 : decode code 521 = .ok (.iadd, 1) := by decide +kernel
theorem d_LW_522 : decode code 522 = .ok (.iaload, 1) := by decide +kernel
theorem d_LW_523 : decode code 523 = .ok (.i2l, 1) := by decide +kernel
theorem d_LW_524 : decode code 524 = .ok (.bipush 32, 2) := by decide +kernel
theorem d_LW_526 : decode code 526 = .ok (.lshl, 1) := by decide +kernel
theorem d_LW_527 : decode code 527 = .ok (.aload_n 0, 1) := by decide +kernel
theorem d_LW_528 : decode code 528 = .ok (.iload 4, 2) := by decide +kernel
theorem d_LW_530 : decode code 530 = .ok (.iconst 2, 1) := by decide +kernel
theorem d_LW_531 : decode code 531 = .ok (.iadd, 1) := by decide +kernel
theorem d_LW_532 : decode code 532 = .ok (.iaload, 1) := by decide +kernel
theorem d_LW_533 : decode code 533 = .ok (.i2l, 1) := by decide +kernel
theorem d_LW_534 : decode code 534 = .ok (.ldc2_w 73, 3) := by decide +kernel
theorem d_LW_537 : decode code 537 = .ok (.land, 1) := by decide +kernel
theorem d_LW_538 : decode code 538 = .ok (.lor, 1) := by decide +kernel
theorem d_LW_539 : decode code 539 = .ok (.invokevirtual 79, 3) := by decide +kernel
theorem d_LW_542 : decode code 542 = .ok (.pop, 1) := by decide +kernel
theorem d_LW_543 : decode code 543 = .ok (.goto 16, 3) := by decide +kernel
theorem d_LW_546 : decode code 546 = .ok (.aload_n 1, 1) := by decide +kernel
theorem d_LW_547 : decode code 547 = .ok (.invokevirtual 80, 3) := by decide +kernel
theorem d_LW_550 : decode code 550 = .ok (.pop, 1) := by decide +kernel
theorem d_LW_551 : decode code 551 = .ok (.aload_n 2, 1) := by decide +kernel
theorem d_LW_552 : decode code 552 = .ok (.invokevirtual 83, 3) := by decide +kernel
theorem d_LW_555 : decode code 555 = .ok (.pop, 1) := by decide +kernel
theorem d_LW_556 : decode code 556 = .ok (.goto 3, 3) := by decide +kernel
theorem d_LW_559 : decode code 559 = .ok (.iinc 4 6, 3) := by decide +kernel
theorem d_LW_562 : decode code 562 = .ok (.goto (-539), 3) := by decide +kernel
theorem d_LW_565 : decode code 565 = .ok (.iconst 1, 1) := by decide +kernel
theorem d_LW_566 : decode code 566 = .ok (.ireturn, 1) := by decide +kernel

