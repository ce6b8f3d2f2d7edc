theorem K_Long_314 : (Jvm.Cond.constantLong "java/lang/Long" (314 : Nat) (6148914691236517205 : Int64)) ∈ TBL := TBL_in (List.mem_of_getElem? (i := 673) (by decide +kernel)) (by decide +kernel)
theorem K_Long_316 : (Jvm.Cond.constantLong "java/lang/Long" (316 : Nat) (3689348814741910323 : Int64)) ∈ TBL := TBL_in (List.mem_of_getElem? (i := 674) (by decide +kernel)) (by decide +kernel)
theorem K_Long_318 : (Jvm.Cond.constantLong "java/lang/Long" (318 : Nat) (1085102592571150095 : Int64)) ∈ TBL := TBL_in (List.mem_of_getElem? (i := 675) (by decide +kernel)) (by decide +kernel)
set_option maxRecDepth 100000 in
theorem W_Long_bitCount_code : (Jvm.Cond.code ({ cls := "java/lang/Long", name := "bitCount", desc := "(J)I" } : Jvm.MethodName) prog_13_method_50_code (2 : Nat) (Option.some Jvm.ClassFile.FieldType.int)) ∈ TBL := TBL_in (List.mem_of_getElem? (i := 672) rfl) rfl
theorem I_Long : (Jvm.Cond.initialized "java/lang/Long") ∈ TBL := TBL_in (List.mem_of_getElem? (i := 120) (by decide +kernel)) (by decide +kernel)
theorem W_Long_bitCount_st : (Jvm.Cond.static ({ cls := "java/lang/Long", name := "bitCount", desc := "(J)I" } : Jvm.MethodName)) ∈ TBL := TBL_in (List.mem_of_getElem? (i := 671) (by decide +kernel)) (by decide +kernel)
set_option maxRecDepth 100000 in
theorem W_Judge_joined_code : (Jvm.Cond.code ({ cls := "MailQueries$Judge", name := "joined", desc := "(IJJ)J" } : Jvm.MethodName) prog_2_method_6_code (5 : Nat) (Option.some Jvm.ClassFile.FieldType.long)) ∈ TBL := TBL_in (List.mem_of_getElem? (i := 655) rfl) rfl
theorem I_Judge : (Jvm.Cond.initialized "MailQueries$Judge") ∈ TBL := TBL_in (List.mem_of_getElem? (i := 108) (by decide +kernel)) (by decide +kernel)
theorem W_Judge_joined_st : (Jvm.Cond.static ({ cls := "MailQueries$Judge", name := "joined", desc := "(IJJ)J" } : Jvm.MethodName)) ∈ TBL := TBL_in (List.mem_of_getElem? (i := 654) (by decide +kernel)) (by decide +kernel)
theorem K_Judge_34 : (Jvm.Cond.constantLong "MailQueries$Judge" (34 : Nat) (-1 : Int64)) ∈ TBL := TBL_in (List.mem_of_getElem? (i := 648) (by decide +kernel)) (by decide +kernel)
theorem L_Judge_59 : (Jvm.Cond.methodLink "MailQueries$Judge" (59 : Nat) ({ cls := "MailQueries$Pile", name := "push", desc := "(J)V" } : Jvm.MethodName)) ∈ TBL := TBL_in (List.mem_of_getElem? (i := 651) (by decide +kernel)) (by decide +kernel)
theorem L_Judge_20 : (Jvm.Cond.fieldLink "MailQueries$Judge" (20 : Nat) "MailQueries$Judge" "pile" "LMailQueries$Pile;") ∈ TBL := TBL_in (List.mem_of_getElem? (i := 339) (by decide +kernel)) (by decide +kernel)
theorem L_Judge_63 : (Jvm.Cond.methodLink "MailQueries$Judge" (63 : Nat) ({ cls := "MailQueries$Pile", name := "pop", desc := "()J" } : Jvm.MethodName)) ∈ TBL := TBL_in (List.mem_of_getElem? (i := 652) (by decide +kernel)) (by decide +kernel)
theorem L_Judge_55 : (Jvm.Cond.methodLink "MailQueries$Judge" (55 : Nat) ({ cls := "MailQueries$Query", name := "entryAt", desc := "(I)I" } : Jvm.MethodName)) ∈ TBL := TBL_in (List.mem_of_getElem? (i := 650) (by decide +kernel)) (by decide +kernel)
theorem L_Judge_67 : (Jvm.Cond.methodLink "MailQueries$Judge" (67 : Nat) ({ cls := "MailQueries$Judge", name := "joined", desc := "(IJJ)J" } : Jvm.MethodName)) ∈ TBL := TBL_in (List.mem_of_getElem? (i := 653) (by decide +kernel)) (by decide +kernel)
theorem L_Judge_9 : (Jvm.Cond.fieldLink "MailQueries$Judge" (9 : Nat) "MailQueries$Judge" "values" "[J") ∈ TBL := TBL_in (List.mem_of_getElem? (i := 338) (by decide +kernel)) (by decide +kernel)
theorem L_Judge_52 : (Jvm.Cond.methodLink "MailQueries$Judge" (52 : Nat) ({ cls := "MailQueries$Pile", name := "clear", desc := "()V" } : Jvm.MethodName)) ∈ TBL := TBL_in (List.mem_of_getElem? (i := 649) (by decide +kernel)) (by decide +kernel)
set_option maxRecDepth 100000 in
theorem W_Judge_valueOf_code : (Jvm.Cond.code ({ cls := "MailQueries$Judge", name := "valueOf", desc := "(LMailQueries$Query;)J" } : Jvm.MethodName) prog_2_method_5_code (6 : Nat) (Option.some Jvm.ClassFile.FieldType.long)) ∈ TBL := TBL_in (List.mem_of_getElem? (i := 647) rfl) rfl
theorem W_Judge_valueOf_in : (Jvm.Cond.instanceMethod ({ cls := "MailQueries$Judge", name := "valueOf", desc := "(LMailQueries$Query;)J" } : Jvm.MethodName)) ∈ TBL := TBL_in (List.mem_of_getElem? (i := 646) (by decide +kernel)) (by decide +kernel)
theorem sel_21 : Cond.selects "MailQueries$Judge" ⟨"MailQueries$Judge", "valueOf", "(LMailQueries$Query;)J"⟩ ⟨"MailQueries$Judge", "valueOf", "(LMailQueries$Query;)J"⟩ ∈ TBL := TBL_in (List.mem_of_getElem? (i := 21) (by decide +kernel)) (by decide +kernel)
theorem L_Judge_46 : (Jvm.Cond.fieldLink "MailQueries$Judge" (46 : Nat) "MailQueries$Judge" "PATTERNS" "[J") ∈ TBL := TBL_in (List.mem_of_getElem? (i := 668) (by decide +kernel)) (by decide +kernel)
set_option maxRecDepth 100000 in
theorem W_Judge_setValues_code : (Jvm.Cond.code ({ cls := "MailQueries$Judge", name := "setValues", desc := "(II)V" } : Jvm.MethodName) prog_2_method_4_code (4 : Nat) (Option.none : Option Jvm.ClassFile.FieldType)) ∈ TBL := TBL_in (List.mem_of_getElem? (i := 667) rfl) rfl
theorem W_Judge_setValues_in : (Jvm.Cond.instanceMethod ({ cls := "MailQueries$Judge", name := "setValues", desc := "(II)V" } : Jvm.MethodName)) ∈ TBL := TBL_in (List.mem_of_getElem? (i := 666) (by decide +kernel)) (by decide +kernel)
theorem sel_22 : Cond.selects "MailQueries$Judge" ⟨"MailQueries$Judge", "setValues", "(II)V"⟩ ⟨"MailQueries$Judge", "setValues", "(II)V"⟩ ∈ TBL := TBL_in (List.mem_of_getElem? (i := 22) (by decide +kernel)) (by decide +kernel)
theorem L_Judge_24 : (Jvm.Cond.methodLink "MailQueries$Judge" (24 : Nat) ({ cls := "MailQueries$Judge", name := "valueOf", desc := "(LMailQueries$Query;)J" } : Jvm.MethodName)) ∈ TBL := TBL_in (List.mem_of_getElem? (i := 644) (by decide +kernel)) (by decide +kernel)
set_option maxRecDepth 100000 in
theorem W_Judge_accepts_code : (Jvm.Cond.code ({ cls := "MailQueries$Judge", name := "accepts", desc := "(LMailQueries$Query;J)Z" } : Jvm.MethodName) prog_2_method_2_code (5 : Nat) (Option.some Jvm.ClassFile.FieldType.boolean)) ∈ TBL := TBL_in (List.mem_of_getElem? (i := 643) rfl) rfl
theorem W_Judge_accepts_in : (Jvm.Cond.instanceMethod ({ cls := "MailQueries$Judge", name := "accepts", desc := "(LMailQueries$Query;J)Z" } : Jvm.MethodName)) ∈ TBL := TBL_in (List.mem_of_getElem? (i := 641) (by decide +kernel)) (by decide +kernel)
theorem W_Judge_accepts_se : (Jvm.Cond.selects "MailQueries$Judge" ({ cls := "MailQueries$Judge", name := "accepts", desc := "(LMailQueries$Query;J)Z" } : Jvm.MethodName) ({ cls := "MailQueries$Judge", name := "accepts", desc := "(LMailQueries$Query;J)Z" } : Jvm.MethodName)) ∈ TBL := TBL_in (List.mem_of_getElem? (i := 642) (by decide +kernel)) (by decide +kernel)
theorem L_Judge_36 : (Jvm.Cond.methodLink "MailQueries$Judge" (36 : Nat) ({ cls := "MailQueries$Judge", name := "setValues", desc := "(II)V" } : Jvm.MethodName)) ∈ TBL := TBL_in (List.mem_of_getElem? (i := 664) (by decide +kernel)) (by decide +kernel)
theorem L_Judge_40 : (Jvm.Cond.methodLink "MailQueries$Judge" (40 : Nat) ({ cls := "java/lang/Long", name := "bitCount", desc := "(J)I" } : Jvm.MethodName)) ∈ TBL := TBL_in (List.mem_of_getElem? (i := 670) (by decide +kernel)) (by decide +kernel)
set_option maxRecDepth 100000 in
theorem W_Judge_countWays_code : (Jvm.Cond.code ({ cls := "MailQueries$Judge", name := "countWays", desc := "(LMailQueries$Query;)I" } : Jvm.MethodName) prog_2_method_3_code (8 : Nat) (Option.some Jvm.ClassFile.FieldType.int)) ∈ TBL := TBL_in (List.mem_of_getElem? (i := 663) rfl) rfl
theorem W_Judge_countWays_in : (Jvm.Cond.instanceMethod ({ cls := "MailQueries$Judge", name := "countWays", desc := "(LMailQueries$Query;)I" } : Jvm.MethodName)) ∈ TBL := TBL_in (List.mem_of_getElem? (i := 661) (by decide +kernel)) (by decide +kernel)
theorem W_Judge_countWays_se : (Jvm.Cond.selects "MailQueries$Judge" ({ cls := "MailQueries$Judge", name := "countWays", desc := "(LMailQueries$Query;)I" } : Jvm.MethodName) ({ cls := "MailQueries$Judge", name := "countWays", desc := "(LMailQueries$Query;)I" } : Jvm.MethodName)) ∈ TBL := TBL_in (List.mem_of_getElem? (i := 662) (by decide +kernel)) (by decide +kernel)
def y_Long_bitCount : MethodName := ⟨"java/lang/Long", "bitCount", "(J)I"⟩
def rm_Long_bitCount : Room := { frames := 0, cells := 0, slots := 0, locals := 0 }
theorem d_Long_bitCount_0 : decode prog_13_method_50_code 0 = .ok (.lload_n 0, 1) := by decide +kernel
theorem d_Long_bitCount_1 : decode prog_13_method_50_code 1 = .ok (.lload_n 0, 1) := by decide +kernel
theorem d_Long_bitCount_2 : decode prog_13_method_50_code 2 = .ok (.iconst 1, 1) := by decide +kernel
theorem d_Long_bitCount_3 : decode prog_13_method_50_code 3 = .ok (.lushr, 1) := by decide +kernel
theorem d_Long_bitCount_4 : decode prog_13_method_50_code 4 = .ok (.ldc2_w 314, 3) := by decide +kernel
theorem d_Long_bitCount_7 : decode prog_13_method_50_code 7 = .ok (.land, 1) := by decide +kernel
theorem d_Long_bitCount_8 : decode prog_13_method_50_code 8 = .ok (.lsub, 1) := by decide +kernel
theorem d_Long_bitCount_9 : decode prog_13_method_50_code 9 = .ok (.lstore_n 0, 1) := by decide +kernel
theorem d_Long_bitCount_10 : decode prog_13_method_50_code 10 = .ok (.lload_n 0, 1) := by decide +kernel
theorem d_Long_bitCount_11 : decode prog_13_method_50_code 11 = .ok (.ldc2_w 316, 3) := by decide +kernel
theorem d_Long_bitCount_14 : decode prog_13_method_50_code 14 = .ok (.land, 1) := by decide +kernel
theorem d_Long_bitCount_15 : decode prog_13_method_50_code 15 = .ok (.lload_n 0, 1) := by decide +kernel
theorem d_Long_bitCount_16 : decode prog_13_method_50_code 16 = .ok (.iconst 2, 1) := by decide +kernel
theorem d_Long_bitCount_17 : decode prog_13_method_50_code 17 = .ok (.lushr, 1) := by decide +kernel
theorem d_Long_bitCount_18 : decode prog_13_method_50_code 18 = .ok (.ldc2_w 316, 3) := by decide +kernel
theorem d_Long_bitCount_21 : decode prog_13_method_50_code 21 = .ok (.land, 1) := by decide +kernel
theorem d_Long_bitCount_22 : decode prog_13_method_50_code 22 = .ok (.ladd, 1) := by decide +kernel
theorem d_Long_bitCount_23 : decode prog_13_method_50_code 23 = .ok (.lstore_n 0, 1) := by decide +kernel
theorem d_Long_bitCount_24 : decode prog_13_method_50_code 24 = .ok (.lload_n 0, 1) := by decide +kernel
theorem d_Long_bitCount_25 : decode prog_13_method_50_code 25 = .ok (.lload_n 0, 1) := by decide +kernel
theorem d_Long_bitCount_26 : decode prog_13_method_50_code 26 = .ok (.iconst 4, 1) := by decide +kernel
theorem d_Long_bitCount_27 : decode prog_13_method_50_code 27 = .ok (.lushr, 1) := by decide +kernel
theorem d_Long_bitCount_28 : decode prog_13_method_50_code 28 = .ok (.ladd, 1) := by decide +kernel
theorem d_Long_bitCount_29 : decode prog_13_method_50_code 29 = .ok (.ldc2_w 318, 3) := by decide +kernel
theorem d_Long_bitCount_32 : decode prog_13_method_50_code 32 = .ok (.land, 1) := by decide +kernel
theorem d_Long_bitCount_33 : decode prog_13_method_50_code 33 = .ok (.lstore_n 0, 1) := by decide +kernel
theorem d_Long_bitCount_34 : decode prog_13_method_50_code 34 = .ok (.lload_n 0, 1) := by decide +kernel
theorem d_Long_bitCount_35 : decode prog_13_method_50_code 35 = .ok (.lload_n 0, 1) := by decide +kernel
theorem d_Long_bitCount_36 : decode prog_13_method_50_code 36 = .ok (.bipush 8, 2) := by decide +kernel
theorem d_Long_bitCount_38 : decode prog_13_method_50_code 38 = .ok (.lushr, 1) := by decide +kernel
theorem d_Long_bitCount_39 : decode prog_13_method_50_code 39 = .ok (.ladd, 1) := by decide +kernel
theorem d_Long_bitCount_40 : decode prog_13_method_50_code 40 = .ok (.lstore_n 0, 1) := by decide +kernel
theorem d_Long_bitCount_41 : decode prog_13_method_50_code 41 = .ok (.lload_n 0, 1) := by decide +kernel
theorem d_Long_bitCount_42 : decode prog_13_method_50_code 42 = .ok (.lload_n 0, 1) := by decide +kernel
theorem d_Long_bitCount_43 : decode prog_13_method_50_code 43 = .ok (.bipush 16, 2) := by decide +kernel
theorem d_Long_bitCount_45 : decode prog_13_method_50_code 45 = .ok (.lushr, 1) := by decide +kernel
theorem d_Long_bitCount_46 : decode prog_13_method_50_code 46 = .ok (.ladd, 1) := by decide +kernel
theorem d_Long_bitCount_47 : decode prog_13_method_50_code 47 = .ok (.lstore_n 0, 1) := by decide +kernel
theorem d_Long_bitCount_48 : decode prog_13_method_50_code 48 = .ok (.lload_n 0, 1) := by decide +kernel
theorem d_Long_bitCount_49 : decode prog_13_method_50_code 49 = .ok (.lload_n 0, 1) := by decide +kernel
theorem d_Long_bitCount_50 : decode prog_13_method_50_code 50 = .ok (.bipush 32, 2) := by decide +kernel
theorem d_Long_bitCount_52 : decode prog_13_method_50_code 52 = .ok (.lushr, 1) := by decide +kernel
theorem d_Long_bitCount_53 : decode prog_13_method_50_code 53 = .ok (.ladd, 1) := by decide +kernel
theorem d_Long_bitCount_54 : decode prog_13_method_50_code 54 = .ok (.lstore_n 0, 1) := by decide +kernel
theorem d_Long_bitCount_55 : decode prog_13_method_50_code 55 = .ok (.lload_n 0, 1) := by decide +kernel
theorem d_Long_bitCount_56 : decode prog_13_method_50_code 56 = .ok (.l2i, 1) := by decide +kernel
theorem d_Long_bitCount_57 : decode prog_13_method_50_code 57 = .ok (.bipush 127, 2) := by decide +kernel
theorem d_Long_bitCount_59 : decode prog_13_method_50_code 59 = .ok (.iand, 1) := by decide +kernel
theorem d_Long_bitCount_60 : decode prog_13_method_50_code 60 = .ok (.ireturn, 1) := by decide +kernel
def y_Judge_joined : MethodName := ⟨"MailQueries$Judge", "joined", "(IJJ)J"⟩
def rm_Judge_joined : Room := { frames := 0, cells := 0, slots := 0, locals := 0 }
theorem d_Judge_joined_0 : decode prog_2_method_6_code 0 = .ok (.iload_n 0, 1) := by decide +kernel
theorem d_Judge_joined_1 : decode prog_2_method_6_code 1 = .ok (.bipush (-4), 2) := by decide +kernel
theorem d_Judge_joined_3 : decode prog_2_method_6_code 3 = .ok (.if_icmp .ne 7, 3) := by decide +kernel
theorem d_Judge_joined_6 : decode prog_2_method_6_code 6 = .ok (.lload_n 1, 1) := by decide +kernel
theorem d_Judge_joined_7 : decode prog_2_method_6_code 7 = .ok (.lload_n 3, 1) := by decide +kernel
theorem d_Judge_joined_8 : decode prog_2_method_6_code 8 = .ok (.lor, 1) := by decide +kernel
theorem d_Judge_joined_9 : decode prog_2_method_6_code 9 = .ok (.lreturn, 1) := by decide +kernel
theorem d_Judge_joined_10 : decode prog_2_method_6_code 10 = .ok (.iload_n 0, 1) := by decide +kernel
theorem d_Judge_joined_11 : decode prog_2_method_6_code 11 = .ok (.bipush (-5), 2) := by decide +kernel
theorem d_Judge_joined_13 : decode prog_2_method_6_code 13 = .ok (.if_icmp .ne 9, 3) := by decide +kernel
theorem d_Judge_joined_16 : decode prog_2_method_6_code 16 = .ok (.lload_n 1, 1) := by decide +kernel
theorem d_Judge_joined_17 : decode prog_2_method_6_code 17 = .ok (.lload_n 3, 1) := by decide +kernel
theorem d_Judge_joined_18 : decode prog_2_method_6_code 18 = .ok (.lxor, 1) := by decide +kernel
theorem d_Judge_joined_19 : decode prog_2_method_6_code 19 = .ok (.goto 6, 3) := by decide +kernel
theorem d_Judge_joined_22 : decode prog_2_method_6_code 22 = .ok (.lload_n 1, 1) := by decide +kernel
theorem d_Judge_joined_23 : decode prog_2_method_6_code 23 = .ok (.lload_n 3, 1) := by decide +kernel
theorem d_Judge_joined_24 : decode prog_2_method_6_code 24 = .ok (.land, 1) := by decide +kernel
theorem d_Judge_joined_25 : decode prog_2_method_6_code 25 = .ok (.lreturn, 1) := by decide +kernel
def y_Judge_valueOf : MethodName := ⟨"MailQueries$Judge", "valueOf", "(LMailQueries$Query;)J"⟩
def rm_Judge_valueOf : Room := { frames := 1, cells := 0, slots := 0, locals := 24 }
theorem d_Judge_valueOf_0 : decode prog_2_method_5_code 0 = .ok (.aload_n 1, 1) := by decide +kernel
theorem d_Judge_valueOf_1 : decode prog_2_method_5_code 1 = .ok (.getfield 49, 3) := by decide +kernel
theorem d_Judge_valueOf_4 : decode prog_2_method_5_code 4 = .ok (.ifCond .ne 7, 3) := by decide +kernel
theorem d_Judge_valueOf_7 : decode prog_2_method_5_code 7 = .ok (.ldc2_w 34, 3) := by decide +kernel
theorem d_Judge_valueOf_10 : decode prog_2_method_5_code 10 = .ok (.lreturn, 1) := by decide +kernel
theorem d_Judge_valueOf_11 : decode prog_2_method_5_code 11 = .ok (.aload_n 0, 1) := by decide +kernel
theorem d_Judge_valueOf_12 : decode prog_2_method_5_code 12 = .ok (.getfield 20, 3) := by decide +kernel
theorem d_Judge_valueOf_15 : decode prog_2_method_5_code 15 = .ok (.invokevirtual 52, 3) := by decide +kernel
theorem d_Judge_valueOf_18 : decode prog_2_method_5_code 18 = .ok (.aload_n 1, 1) := by decide +kernel
theorem d_Judge_valueOf_19 : decode prog_2_method_5_code 19 = .ok (.getfield 49, 3) := by decide +kernel
theorem d_Judge_valueOf_22 : decode prog_2_method_5_code 22 = .ok (.iconst 1, 1) := by decide +kernel
theorem d_Judge_valueOf_23 : decode prog_2_method_5_code 23 = .ok (.isub, 1) := by decide +kernel
theorem d_Judge_valueOf_24 : decode prog_2_method_5_code 24 = .ok (.istore_n 2, 1) := by decide +kernel
theorem d_Judge_valueOf_25 : decode prog_2_method_5_code 25 = .ok (.iload_n 2, 1) := by decide +kernel
theorem d_Judge_valueOf_26 : decode prog_2_method_5_code 26 = .ok (.ifCond .lt 104, 3) := by decide +kernel
theorem d_Judge_valueOf_29 : decode prog_2_method_5_code 29 = .ok (.aload_n 1, 1) := by decide +kernel
theorem d_Judge_valueOf_30 : decode prog_2_method_5_code 30 = .ok (.iload_n 2, 1) := by decide +kernel
theorem d_Judge_valueOf_31 : decode prog_2_method_5_code 31 = .ok (.invokevirtual 55, 3) := by decide +kernel
theorem d_Judge_valueOf_34 : decode prog_2_method_5_code 34 = .ok (.istore_n 3, 1) := by decide +kernel
theorem d_Judge_valueOf_35 : decode prog_2_method_5_code 35 = .ok (.iload_n 3, 1) := by decide +kernel
theorem d_Judge_valueOf_36 : decode prog_2_method_5_code 36 = .ok (.ifCond .lt 32, 3) := by decide +kernel
theorem d_Judge_valueOf_39 : decode prog_2_method_5_code 39 = .ok (.aload_n 0, 1) := by decide +kernel
theorem d_Judge_valueOf_40 : decode prog_2_method_5_code 40 = .ok (.getfield 20, 3) := by decide +kernel
theorem d_Judge_valueOf_43 : decode prog_2_method_5_code 43 = .ok (.iload_n 3, 1) := by decide +kernel
theorem d_Judge_valueOf_44 : decode prog_2_method_5_code 44 = .ok (.aload_n 0, 1) := by decide +kernel
theorem d_Judge_valueOf_45 : decode prog_2_method_5_code 45 = .ok (.getfield 9, 3) := by decide +kernel
theorem d_Judge_valueOf_48 : decode prog_2_method_5_code 48 = .ok (.arraylength, 1) := by decide +kernel
theorem d_Judge_valueOf_49 : decode prog_2_method_5_code 49 = .ok (.if_icmp .ge 12, 3) := by decide +kernel
theorem d_Judge_valueOf_52 : decode prog_2_method_5_code 52 = .ok (.aload_n 0, 1) := by decide +kernel
theorem d_Judge_valueOf_53 : decode prog_2_method_5_code 53 = .ok (.getfield 9, 3) := by decide +kernel
theorem d_Judge_valueOf_56 : decode prog_2_method_5_code 56 = .ok (.iload_n 3, 1) := by decide +kernel
theorem d_Judge_valueOf_57 : decode prog_2_method_5_code 57 = .ok (.laload, 1) := by decide +kernel
theorem d_Judge_valueOf_58 : decode prog_2_method_5_code 58 = .ok (.goto 4, 3) := by decide +kernel
theorem d_Judge_valueOf_61 : decode prog_2_method_5_code 61 = .ok (.lconst 0, 1) := by decide +kernel
theorem d_Judge_valueOf_62 : decode prog_2_method_5_code 62 = .ok (.invokevirtual 59, 3) := by decide +kernel
theorem d_Judge_valueOf_65 : decode prog_2_method_5_code 65 = .ok (.goto 59, 3) := by decide +kernel
theorem d_Judge_valueOf_68 : decode prog_2_method_5_code 68 = .ok (.iload_n 3, 1) := by decide +kernel
theorem d_Judge_valueOf_69 : decode prog_2_method_5_code 69 = .ok (.bipush (-2), 2) := by decide +kernel
theorem d_Judge_valueOf_71 : decode prog_2_method_5_code 71 = .ok (.if_icmp .ne 24, 3) := by decide +kernel
theorem d_Judge_valueOf_74 : decode prog_2_method_5_code 74 = .ok (.aload_n 0, 1) := by decide +kernel
theorem d_Judge_valueOf_75 : decode prog_2_method_5_code 75 = .ok (.getfield 20, 3) := by decide +kernel
theorem d_Judge_valueOf_78 : decode prog_2_method_5_code 78 = .ok (.aload_n 0, 1) := by decide +kernel
theorem d_Judge_valueOf_79 : decode prog_2_method_5_code 79 = .ok (.getfield 20, 3) := by decide +kernel
theorem d_Judge_valueOf_82 : decode prog_2_method_5_code 82 = .ok (.invokevirtual 63, 3) := by decide +kernel
theorem d_Judge_valueOf_85 : decode prog_2_method_5_code 85 = .ok (.ldc2_w 34, 3) := by decide +kernel
theorem d_Judge_valueOf_88 : decode prog_2_method_5_code 88 = .ok (.lxor, 1) := by decide +kernel
theorem d_Judge_valueOf_89 : decode prog_2_method_5_code 89 = .ok (.invokevirtual 59, 3) := by decide +kernel
theorem d_Judge_valueOf_92 : decode prog_2_method_5_code 92 = .ok (.goto 32, 3) := by decide +kernel
theorem d_Judge_valueOf_95 : decode prog_2_method_5_code 95 = .ok (.aload_n 0, 1) := by decide +kernel
theorem d_Judge_valueOf_96 : decode prog_2_method_5_code 96 = .ok (.getfield 20, 3) := by decide +kernel
theorem d_Judge_valueOf_99 : decode prog_2_method_5_code 99 = .ok (.invokevirtual 63, 3) := by decide +kernel
theorem d_Judge_valueOf_102 : decode prog_2_method_5_code 102 = .ok (.lstore 4, 2) := by decide +kernel
theorem d_Judge_valueOf_104 : decode prog_2_method_5_code 104 = .ok (.aload_n 0, 1) := by decide +kernel
theorem d_Judge_valueOf_105 : decode prog_2_method_5_code 105 = .ok (.getfield 20, 3) := by decide +kernel
theorem d_Judge_valueOf_108 : decode prog_2_method_5_code 108 = .ok (.iload_n 3, 1) := by decide +kernel
theorem d_Judge_valueOf_109 : decode prog_2_method_5_code 109 = .ok (.lload 4, 2) := by decide +kernel
theorem d_Judge_valueOf_111 : decode prog_2_method_5_code 111 = .ok (.aload_n 0, 1) := by decide +kernel
theorem d_Judge_valueOf_112 : decode prog_2_method_5_code 112 = .ok (.getfield 20, 3) := by decide +kernel
theorem d_Judge_valueOf_115 : decode prog_2_method_5_code 115 = .ok (.invokevirtual 63, 3) := by decide +kernel
theorem d_Judge_valueOf_118 : decode prog_2_method_5_code 118 = .ok (.invokestatic 67, 3) := by decide +kernel
theorem d_Judge_valueOf_121 : decode prog_2_method_5_code 121 = .ok (.invokevirtual 59, 3) := by decide +kernel
theorem d_Judge_valueOf_124 : decode prog_2_method_5_code 124 = .ok (.iinc 2 (-1), 3) := by decide +kernel
theorem d_Judge_valueOf_127 : decode prog_2_method_5_code 127 = .ok (.goto (-102), 3) := by decide +kernel
theorem d_Judge_valueOf_130 : decode prog_2_method_5_code 130 = .ok (.aload_n 0, 1) := by decide +kernel
theorem d_Judge_valueOf_131 : decode prog_2_method_5_code 131 = .ok (.getfield 20, 3) := by decide +kernel
theorem d_Judge_valueOf_134 : decode prog_2_method_5_code 134 = .ok (.invokevirtual 63, 3) := by decide +kernel
theorem d_Judge_valueOf_137 : decode prog_2_method_5_code 137 = .ok (.lreturn, 1) := by decide +kernel
def y_Judge_setValues : MethodName := ⟨"MailQueries$Judge", "setValues", "(II)V"⟩
def rm_Judge_setValues : Room := { frames := 0, cells := 0, slots := 0, locals := 0 }
theorem d_Judge_setValues_0 : decode prog_2_method_4_code 0 = .ok (.iconst 0, 1) := by decide +kernel
theorem d_Judge_setValues_1 : decode prog_2_method_4_code 1 = .ok (.istore_n 3, 1) := by decide +kernel
theorem d_Judge_setValues_2 : decode prog_2_method_4_code 2 = .ok (.iload_n 3, 1) := by decide +kernel
theorem d_Judge_setValues_3 : decode prog_2_method_4_code 3 = .ok (.iload_n 1, 1) := by decide +kernel
theorem d_Judge_setValues_4 : decode prog_2_method_4_code 4 = .ok (.if_icmp .ge 52, 3) := by decide +kernel
theorem d_Judge_setValues_7 : decode prog_2_method_4_code 7 = .ok (.iload_n 3, 1) := by decide +kernel
theorem d_Judge_setValues_8 : decode prog_2_method_4_code 8 = .ok (.aload_n 0, 1) := by decide +kernel
theorem d_Judge_setValues_9 : decode prog_2_method_4_code 9 = .ok (.getfield 9, 3) := by decide +kernel
theorem d_Judge_setValues_12 : decode prog_2_method_4_code 12 = .ok (.arraylength, 1) := by decide +kernel
theorem d_Judge_setValues_13 : decode prog_2_method_4_code 13 = .ok (.if_icmp .ge 43, 3) := by decide +kernel
theorem d_Judge_setValues_16 : decode prog_2_method_4_code 16 = .ok (.aload_n 0, 1) := by decide +kernel
theorem d_Judge_setValues_17 : decode prog_2_method_4_code 17 = .ok (.getfield 9, 3) := by decide +kernel
theorem d_Judge_setValues_20 : decode prog_2_method_4_code 20 = .ok (.iload_n 3, 1) := by decide +kernel
theorem d_Judge_setValues_21 : decode prog_2_method_4_code 21 = .ok (.iload_n 3, 1) := by decide +kernel
theorem d_Judge_setValues_22 : decode prog_2_method_4_code 22 = .ok (.getstatic 46, 3) := by decide +kernel
theorem d_Judge_setValues_25 : decode prog_2_method_4_code 25 = .ok (.arraylength, 1) := by decide +kernel
theorem d_Judge_setValues_26 : decode prog_2_method_4_code 26 = .ok (.if_icmp .ge 11, 3) := by decide +kernel
theorem d_Judge_setValues_29 : decode prog_2_method_4_code 29 = .ok (.getstatic 46, 3) := by decide +kernel
theorem d_Judge_setValues_32 : decode prog_2_method_4_code 32 = .ok (.iload_n 3, 1) := by decide +kernel
theorem d_Judge_setValues_33 : decode prog_2_method_4_code 33 = .ok (.laload, 1) := by decide +kernel
theorem d_Judge_setValues_34 : decode prog_2_method_4_code 34 = .ok (.goto 15, 3) := by decide +kernel
theorem d_Judge_setValues_37 : decode prog_2_method_4_code 37 = .ok (.iload_n 2, 1) := by decide +kernel
theorem d_Judge_setValues_38 : decode prog_2_method_4_code 38 = .ok (.iload_n 3, 1) := by decide +kernel
theorem d_Judge_setValues_39 : decode prog_2_method_4_code 39 = .ok (.getstatic 46, 3) := by decide +kernel
theorem d_Judge_setValues_42 : decode prog_2_method_4_code 42 = .ok (.arraylength, 1) := by decide +kernel
theorem d_Judge_setValues_43 : decode prog_2_method_4_code 43 = .ok (.isub, 1) := by decide +kernel
theorem d_Judge_setValues_44 : decode prog_2_method_4_code 44 = .ok (.iushr, 1) := by decide +kernel
theorem d_Judge_setValues_45 : decode prog_2_method_4_code 45 = .ok (.i2l, 1) := by decide +kernel
theorem d_Judge_setValues_46 : decode prog_2_method_4_code 46 = .ok (.lconst 1, 1) := by decide +kernel
theorem d_Judge_setValues_47 : decode prog_2_method_4_code 47 = .ok (.land, 1) := by decide +kernel
theorem d_Judge_setValues_48 : decode prog_2_method_4_code 48 = .ok (.lneg, 1) := by decide +kernel
theorem d_Judge_setValues_49 : decode prog_2_method_4_code 49 = .ok (.lastore, 1) := by decide +kernel
theorem d_Judge_setValues_50 : decode prog_2_method_4_code 50 = .ok (.iinc 3 1, 3) := by decide +kernel
theorem d_Judge_setValues_53 : decode prog_2_method_4_code 53 = .ok (.goto (-51), 3) := by decide +kernel
theorem d_Judge_setValues_56 : decode prog_2_method_4_code 56 = .ok (.return_, 1) := by decide +kernel
def y_Judge_accepts : MethodName := ⟨"MailQueries$Judge", "accepts", "(LMailQueries$Query;J)Z"⟩
def rm_Judge_accepts : Room := { frames := 2, cells := 0, slots := 0, locals := 49 }
theorem d_Judge_accepts_0 : decode prog_2_method_2_code 0 = .ok (.iconst 0, 1) := by decide +kernel
theorem d_Judge_accepts_1 : decode prog_2_method_2_code 1 = .ok (.istore 4, 2) := by decide +kernel
theorem d_Judge_accepts_3 : decode prog_2_method_2_code 3 = .ok (.iload 4, 2) := by decide +kernel
theorem d_Judge_accepts_5 : decode prog_2_method_2_code 5 = .ok (.aload_n 0, 1) := by decide +kernel
theorem d_Judge_accepts_6 : decode prog_2_method_2_code 6 = .ok (.getfield 9, 3) := by decide +kernel
theorem d_Judge_accepts_9 : decode prog_2_method_2_code 9 = .ok (.arraylength, 1) := by decide +kernel
theorem d_Judge_accepts_10 : decode prog_2_method_2_code 10 = .ok (.if_icmp .ge 23, 3) := by decide +kernel
theorem d_Judge_accepts_13 : decode prog_2_method_2_code 13 = .ok (.aload_n 0, 1) := by decide +kernel
theorem d_Judge_accepts_14 : decode prog_2_method_2_code 14 = .ok (.getfield 9, 3) := by decide +kernel
theorem d_Judge_accepts_17 : decode prog_2_method_2_code 17 = .ok (.iload 4, 2) := by decide +kernel
theorem d_Judge_accepts_19 : decode prog_2_method_2_code 19 = .ok (.lload_n 2, 1) := by decide +kernel
theorem d_Judge_accepts_20 : decode prog_2_method_2_code 20 = .ok (.iload 4, 2) := by decide +kernel
theorem d_Judge_accepts_22 : decode prog_2_method_2_code 22 = .ok (.lushr, 1) := by decide +kernel
theorem d_Judge_accepts_23 : decode prog_2_method_2_code 23 = .ok (.lconst 1, 1) := by decide +kernel
theorem d_Judge_accepts_24 : decode prog_2_method_2_code 24 = .ok (.land, 1) := by decide +kernel
theorem d_Judge_accepts_25 : decode prog_2_method_2_code 25 = .ok (.lneg, 1) := by decide +kernel
theorem d_Judge_accepts_26 : decode prog_2_method_2_code 26 = .ok (.lastore, 1) := by decide +kernel
theorem d_Judge_accepts_27 : decode prog_2_method_2_code 27 = .ok (.iinc 4 1, 3) := by decide +kernel
theorem d_Judge_accepts_30 : decode prog_2_method_2_code 30 = .ok (.goto (-27), 3) := by decide +kernel
theorem d_Judge_accepts_33 : decode prog_2_method_2_code 33 = .ok (.aload_n 0, 1) := by decide +kernel
theorem d_Judge_accepts_34 : decode prog_2_method_2_code 34 = .ok (.aload_n 1, 1) := by decide +kernel
theorem d_Judge_accepts_35 : decode prog_2_method_2_code 35 = .ok (.invokevirtual 24, 3) := by decide +kernel
theorem d_Judge_accepts_38 : decode prog_2_method_2_code 38 = .ok (.lconst 1, 1) := by decide +kernel
theorem d_Judge_accepts_39 : decode prog_2_method_2_code 39 = .ok (.land, 1) := by decide +kernel
theorem d_Judge_accepts_40 : decode prog_2_method_2_code 40 = .ok (.lconst 0, 1) := by decide +kernel
theorem d_Judge_accepts_41 : decode prog_2_method_2_code 41 = .ok (.lcmp, 1) := by decide +kernel
theorem d_Judge_accepts_42 : decode prog_2_method_2_code 42 = .ok (.ifCond .eq 7, 3) := by decide +kernel
theorem d_Judge_accepts_45 : decode prog_2_method_2_code 45 = .ok (.iconst 1, 1) := by decide +kernel
theorem d_Judge_accepts_46 : decode prog_2_method_2_code 46 = .ok (.goto 4, 3) := by decide +kernel
theorem d_Judge_accepts_49 : decode prog_2_method_2_code 49 = .ok (.iconst 0, 1) := by decide +kernel
theorem d_Judge_accepts_50 : decode prog_2_method_2_code 50 = .ok (.ireturn, 1) := by decide +kernel
def y_Judge_countWays : MethodName := ⟨"MailQueries$Judge", "countWays", "(LMailQueries$Query;)I"⟩
def rm_Judge_countWays : Room := { frames := 2, cells := 0, slots := 0, locals := 49 }
theorem d_Judge_countWays_0 : decode prog_2_method_3_code 0 = .ok (.aload_n 1, 1) := by decide +kernel
theorem d_Judge_countWays_1 : decode prog_2_method_3_code 1 = .ok (.getfield 28, 3) := by decide +kernel
theorem d_Judge_countWays_4 : decode prog_2_method_3_code 4 = .ok (.istore_n 2, 1) := by decide +kernel
theorem d_Judge_countWays_5 : decode prog_2_method_3_code 5 = .ok (.iload_n 2, 1) := by decide +kernel
theorem d_Judge_countWays_6 : decode prog_2_method_3_code 6 = .ok (.bipush 12, 2) := by decide +kernel
theorem d_Judge_countWays_8 : decode prog_2_method_3_code 8 = .ok (.if_icmp .le 5, 3) := by decide +kernel
theorem d_Judge_countWays_11 : decode prog_2_method_3_code 11 = .ok (.iconst (-1), 1) := by decide +kernel
theorem d_Judge_countWays_12 : decode prog_2_method_3_code 12 = .ok (.ireturn, 1) := by decide +kernel
theorem d_Judge_countWays_13 : decode prog_2_method_3_code 13 = .ok (.iload_n 2, 1) := by decide +kernel
theorem d_Judge_countWays_14 : decode prog_2_method_3_code 14 = .ok (.bipush 6, 2) := by decide +kernel
theorem d_Judge_countWays_16 : decode prog_2_method_3_code 16 = .ok (.if_icmp .le 12, 3) := by decide +kernel
theorem d_Judge_countWays_19 : decode prog_2_method_3_code 19 = .ok (.iconst 1, 1) := by decide +kernel
theorem d_Judge_countWays_20 : decode prog_2_method_3_code 20 = .ok (.iload_n 2, 1) := by decide +kernel
theorem d_Judge_countWays_21 : decode prog_2_method_3_code 21 = .ok (.bipush 6, 2) := by decide +kernel
theorem d_Judge_countWays_23 : decode prog_2_method_3_code 23 = .ok (.isub, 1) := by decide +kernel
theorem d_Judge_countWays_24 : decode prog_2_method_3_code 24 = .ok (.ishl, 1) := by decide +kernel
theorem d_Judge_countWays_25 : decode prog_2_method_3_code 25 = .ok (.goto 4, 3) := by decide +kernel
theorem d_Judge_countWays_28 : decode prog_2_method_3_code 28 = .ok (.iconst 1, 1) := by decide +kernel
theorem d_Judge_countWays_29 : decode prog_2_method_3_code 29 = .ok (.istore_n 3, 1) := by decide +kernel
theorem d_Judge_countWays_30 : decode prog_2_method_3_code 30 = .ok (.iload_n 2, 1) := by decide +kernel
theorem d_Judge_countWays_31 : decode prog_2_method_3_code 31 = .ok (.bipush 6, 2) := by decide +kernel
theorem d_Judge_countWays_33 : decode prog_2_method_3_code 33 = .ok (.if_icmp .lt 9, 3) := by decide +kernel
theorem d_Judge_countWays_36 : decode prog_2_method_3_code 36 = .ok (.ldc2_w 34, 3) := by decide +kernel
theorem d_Judge_countWays_39 : decode prog_2_method_3_code 39 = .ok (.goto 10, 3) := by decide +kernel
theorem d_Judge_countWays_42 : decode prog_2_method_3_code 42 = .ok (.lconst 1, 1) := by decide +kernel
theorem d_Judge_countWays_43 : decode prog_2_method_3_code 43 = .ok (.iconst 1, 1) := by decide +kernel
theorem d_Judge_countWays_44 : decode prog_2_method_3_code 44 = .ok (.iload_n 2, 1) := by decide +kernel
theorem d_Judge_countWays_45 : decode prog_2_method_3_code 45 = .ok (.ishl, 1) := by decide +kernel
theorem d_Judge_countWays_46 : decode prog_2_method_3_code 46 = .ok (.lshl, 1) := by decide +kernel
theorem d_Judge_countWays_47 : decode prog_2_method_3_code 47 = .ok (.lconst 1, 1) := by decide +kernel
theorem d_Judge_countWays_48 : decode prog_2_method_3_code 48 = .ok (.lsub, 1) := by decide +kernel
theorem d_Judge_countWays_49 : decode prog_2_method_3_code 49 = .ok (.lstore 4, 2) := by decide +kernel
theorem d_Judge_countWays_51 : decode prog_2_method_3_code 51 = .ok (.iconst 0, 1) := by decide +kernel
theorem d_Judge_countWays_52 : decode prog_2_method_3_code 52 = .ok (.istore 6, 2) := by decide +kernel
theorem d_Judge_countWays_54 : decode prog_2_method_3_code 54 = .ok (.iconst 0, 1) := by decide +kernel
theorem d_Judge_countWays_55 : decode prog_2_method_3_code 55 = .ok (.istore 7, 2) := by decide +kernel
theorem d_Judge_countWays_57 : decode prog_2_method_3_code 57 = .ok (.iload 7, 2) := by decide +kernel
theorem d_Judge_countWays_59 : decode prog_2_method_3_code 59 = .ok (.iload_n 3, 1) := by decide +kernel
theorem d_Judge_countWays_60 : decode prog_2_method_3_code 60 = .ok (.if_icmp .ge 32, 3) := by decide +kernel
theorem d_Judge_countWays_63 : decode prog_2_method_3_code 63 = .ok (.aload_n 0, 1) := by decide +kernel
theorem d_Judge_countWays_64 : decode prog_2_method_3_code 64 = .ok (.iload_n 2, 1) := by decide +kernel
theorem d_Judge_countWays_65 : decode prog_2_method_3_code 65 = .ok (.iload 7, 2) := by decide +kernel
theorem d_Judge_countWays_67 : decode prog_2_method_3_code 67 = .ok (.invokevirtual 36, 3) := by decide +kernel
theorem d_Judge_countWays_70 : decode prog_2_method_3_code 70 = .ok (.iload 6, 2) := by decide +kernel
theorem d_Judge_countWays_72 : decode prog_2_method_3_code 72 = .ok (.aload_n 0, 1) := by decide +kernel
theorem d_Judge_countWays_73 : decode prog_2_method_3_code 73 = .ok (.aload_n 1, 1) := by decide +kernel
theorem d_Judge_countWays_74 : decode prog_2_method_3_code 74 = .ok (.invokevirtual 24, 3) := by decide +kernel
theorem d_Judge_countWays_77 : decode prog_2_method_3_code 77 = .ok (.lload 4, 2) := by decide +kernel
theorem d_Judge_countWays_79 : decode prog_2_method_3_code 79 = .ok (.land, 1) := by decide +kernel
theorem d_Judge_countWays_80 : decode prog_2_method_3_code 80 = .ok (.invokestatic 40, 3) := by decide +kernel
theorem d_Judge_countWays_83 : decode prog_2_method_3_code 83 = .ok (.iadd, 1) := by decide +kernel
theorem d_Judge_countWays_84 : decode prog_2_method_3_code 84 = .ok (.istore 6, 2) := by decide +kernel
theorem d_Judge_countWays_86 : decode prog_2_method_3_code 86 = .ok (.iinc 7 1, 3) := by decide +kernel
theorem d_Judge_countWays_89 : decode prog_2_method_3_code 89 = .ok (.goto (-32), 3) := by decide +kernel
theorem d_Judge_countWays_92 : decode prog_2_method_3_code 92 = .ok (.iload 6, 2) := by decide +kernel
theorem d_Judge_countWays_94 : decode prog_2_method_3_code 94 = .ok (.ireturn, 1) := by decide +kernel
theorem mb_Long_bitCount : MbS y_Long_bitCount prog_13_method_50_code 2 (some .int) 1 := ⟨W_Long_bitCount_code, W_Long_bitCount_st, I_Long, by decide +kernel, by decide +kernel, by decide +kernel⟩
theorem mb_Judge_joined : MbS y_Judge_joined prog_2_method_6_code 5 (some .long) 3 := ⟨W_Judge_joined_code, W_Judge_joined_st, I_Judge, by decide +kernel, by decide +kernel, by decide +kernel⟩
theorem mb_Judge_valueOf : Mb y_Judge_valueOf prog_2_method_5_code 6 (some .long) 1 := ⟨W_Judge_valueOf_code, W_Judge_valueOf_in, sel_21, I_Judge, by decide +kernel, by decide +kernel, by decide +kernel⟩
theorem mb_Judge_setValues : Mb y_Judge_setValues prog_2_method_4_code 4 none 2 := ⟨W_Judge_setValues_code, W_Judge_setValues_in, sel_22, I_Judge, by decide +kernel, by decide +kernel, by decide +kernel⟩
theorem mb_Judge_accepts : Mb y_Judge_accepts prog_2_method_2_code 5 (some .boolean) 2 := ⟨W_Judge_accepts_code, W_Judge_accepts_in, W_Judge_accepts_se, I_Judge, by decide +kernel, by decide +kernel, by decide +kernel⟩
theorem mb_Judge_countWays : Mb y_Judge_countWays prog_2_method_3_code 8 (some .int) 1 := ⟨W_Judge_countWays_code, W_Judge_countWays_in, W_Judge_countWays_se, I_Judge, by decide +kernel, by decide +kernel, by decide +kernel⟩
def Long_bitCount (F : Nat) (x0 : Int64) : Option (Int32) := some (((((((((x0 - ((x0.toUInt64 >>> ((1 : Int32).toInt64.toUInt64 &&& Int64.toUInt64 63)).toInt64 &&& (6148914691236517205 : Int64))) &&& (3689348814741910323 : Int64)) + (((x0 - ((x0.toUInt64 >>> ((1 : Int32).toInt64.toUInt64 &&& Int64.toUInt64 63)).toInt64 &&& (6148914691236517205 : Int64))).toUInt64 >>> ((2 : Int32).toInt64.toUInt64 &&& Int64.toUInt64 63)).toInt64 &&& (3689348814741910323 : Int64))) + ((((x0 - ((x0.toUInt64 >>> ((1 : Int32).toInt64.toUInt64 &&& Int64.toUInt64 63)).toInt64 &&& (6148914691236517205 : Int64))) &&& (3689348814741910323 : Int64)) + (((x0 - ((x0.toUInt64 >>> ((1 : Int32).toInt64.toUInt64 &&& Int64.toUInt64 63)).toInt64 &&& (6148914691236517205 : Int64))).toUInt64 >>> ((2 : Int32).toInt64.toUInt64 &&& Int64.toUInt64 63)).toInt64 &&& (3689348814741910323 : Int64))).toUInt64 >>> ((4 : Int32).toInt64.toUInt64 &&& Int64.toUInt64 63)).toInt64) &&& (1085102592571150095 : Int64)) + ((((((x0 - ((x0.toUInt64 >>> ((1 : Int32).toInt64.toUInt64 &&& Int64.toUInt64 63)).toInt64 &&& (6148914691236517205 : Int64))) &&& (3689348814741910323 : Int64)) + (((x0 - ((x0.toUInt64 >>> ((1 : Int32).toInt64.toUInt64 &&& Int64.toUInt64 63)).toInt64 &&& (6148914691236517205 : Int64))).toUInt64 >>> ((2 : Int32).toInt64.toUInt64 &&& Int64.toUInt64 63)).toInt64 &&& (3689348814741910323 : Int64))) + ((((x0 - ((x0.toUInt64 >>> ((1 : Int32).toInt64.toUInt64 &&& Int64.toUInt64 63)).toInt64 &&& (6148914691236517205 : Int64))) &&& (3689348814741910323 : Int64)) + (((x0 - ((x0.toUInt64 >>> ((1 : Int32).toInt64.toUInt64 &&& Int64.toUInt64 63)).toInt64 &&& (6148914691236517205 : Int64))).toUInt64 >>> ((2 : Int32).toInt64.toUInt64 &&& Int64.toUInt64 63)).toInt64 &&& (3689348814741910323 : Int64))).toUInt64 >>> ((4 : Int32).toInt64.toUInt64 &&& Int64.toUInt64 63)).toInt64) &&& (1085102592571150095 : Int64)).toUInt64 >>> ((8 : Int32).toInt64.toUInt64 &&& Int64.toUInt64 63)).toInt64) + (((((((x0 - ((x0.toUInt64 >>> ((1 : Int32).toInt64.toUInt64 &&& Int64.toUInt64 63)).toInt64 &&& (6148914691236517205 : Int64))) &&& (3689348814741910323 : Int64)) + (((x0 - ((x0.toUInt64 >>> ((1 : Int32).toInt64.toUInt64 &&& Int64.toUInt64 63)).toInt64 &&& (6148914691236517205 : Int64))).toUInt64 >>> ((2 : Int32).toInt64.toUInt64 &&& Int64.toUInt64 63)).toInt64 &&& (3689348814741910323 : Int64))) + ((((x0 - ((x0.toUInt64 >>> ((1 : Int32).toInt64.toUInt64 &&& Int64.toUInt64 63)).toInt64 &&& (6148914691236517205 : Int64))) &&& (3689348814741910323 : Int64)) + (((x0 - ((x0.toUInt64 >>> ((1 : Int32).toInt64.toUInt64 &&& Int64.toUInt64 63)).toInt64 &&& (6148914691236517205 : Int64))).toUInt64 >>> ((2 : Int32).toInt64.toUInt64 &&& Int64.toUInt64 63)).toInt64 &&& (3689348814741910323 : Int64))).toUInt64 >>> ((4 : Int32).toInt64.toUInt64 &&& Int64.toUInt64 63)).toInt64) &&& (1085102592571150095 : Int64)) + ((((((x0 - ((x0.toUInt64 >>> ((1 : Int32).toInt64.toUInt64 &&& Int64.toUInt64 63)).toInt64 &&& (6148914691236517205 : Int64))) &&& (3689348814741910323 : Int64)) + (((x0 - ((x0.toUInt64 >>> ((1 : Int32).toInt64.toUInt64 &&& Int64.toUInt64 63)).toInt64 &&& (6148914691236517205 : Int64))).toUInt64 >>> ((2 : Int32).toInt64.toUInt64 &&& Int64.toUInt64 63)).toInt64 &&& (3689348814741910323 : Int64))) + ((((x0 - ((x0.toUInt64 >>> ((1 : Int32).toInt64.toUInt64 &&& Int64.toUInt64 63)).toInt64 &&& (6148914691236517205 : Int64))) &&& (3689348814741910323 : Int64)) + (((x0 - ((x0.toUInt64 >>> ((1 : Int32).toInt64.toUInt64 &&& Int64.toUInt64 63)).toInt64 &&& (6148914691236517205 : Int64))).toUInt64 >>> ((2 : Int32).toInt64.toUInt64 &&& Int64.toUInt64 63)).toInt64 &&& (3689348814741910323 : Int64))).toUInt64 >>> ((4 : Int32).toInt64.toUInt64 &&& Int64.toUInt64 63)).toInt64) &&& (1085102592571150095 : Int64)).toUInt64 >>> ((8 : Int32).toInt64.toUInt64 &&& Int64.toUInt64 63)).toInt64).toUInt64 >>> ((16 : Int32).toInt64.toUInt64 &&& Int64.toUInt64 63)).toInt64) + ((((((((x0 - ((x0.toUInt64 >>> ((1 : Int32).toInt64.toUInt64 &&& Int64.toUInt64 63)).toInt64 &&& (6148914691236517205 : Int64))) &&& (3689348814741910323 : Int64)) + (((x0 - ((x0.toUInt64 >>> ((1 : Int32).toInt64.toUInt64 &&& Int64.toUInt64 63)).toInt64 &&& (6148914691236517205 : Int64))).toUInt64 >>> ((2 : Int32).toInt64.toUInt64 &&& Int64.toUInt64 63)).toInt64 &&& (3689348814741910323 : Int64))) + ((((x0 - ((x0.toUInt64 >>> ((1 : Int32).toInt64.toUInt64 &&& Int64.toUInt64 63)).toInt64 &&& (6148914691236517205 : Int64))) &&& (3689348814741910323 : Int64)) + (((x0 - ((x0.toUInt64 >>> ((1 : Int32).toInt64.toUInt64 &&& Int64.toUInt64 63)).toInt64 &&& (6148914691236517205 : Int64))).toUInt64 >>> ((2 : Int32).toInt64.toUInt64 &&& Int64.toUInt64 63)).toInt64 &&& (3689348814741910323 : Int64))).toUInt64 >>> ((4 : Int32).toInt64.toUInt64 &&& Int64.toUInt64 63)).toInt64) &&& (1085102592571150095 : Int64)) + ((((((x0 - ((x0.toUInt64 >>> ((1 : Int32).toInt64.toUInt64 &&& Int64.toUInt64 63)).toInt64 &&& (6148914691236517205 : Int64))) &&& (3689348814741910323 : Int64)) + (((x0 - ((x0.toUInt64 >>> ((1 : Int32).toInt64.toUInt64 &&& Int64.toUInt64 63)).toInt64 &&& (6148914691236517205 : Int64))).toUInt64 >>> ((2 : Int32).toInt64.toUInt64 &&& Int64.toUInt64 63)).toInt64 &&& (3689348814741910323 : Int64))) + ((((x0 - ((x0.toUInt64 >>> ((1 : Int32).toInt64.toUInt64 &&& Int64.toUInt64 63)).toInt64 &&& (6148914691236517205 : Int64))) &&& (3689348814741910323 : Int64)) + (((x0 - ((x0.toUInt64 >>> ((1 : Int32).toInt64.toUInt64 &&& Int64.toUInt64 63)).toInt64 &&& (6148914691236517205 : Int64))).toUInt64 >>> ((2 : Int32).toInt64.toUInt64 &&& Int64.toUInt64 63)).toInt64 &&& (3689348814741910323 : Int64))).toUInt64 >>> ((4 : Int32).toInt64.toUInt64 &&& Int64.toUInt64 63)).toInt64) &&& (1085102592571150095 : Int64)).toUInt64 >>> ((8 : Int32).toInt64.toUInt64 &&& Int64.toUInt64 63)).toInt64) + (((((((x0 - ((x0.toUInt64 >>> ((1 : Int32).toInt64.toUInt64 &&& Int64.toUInt64 63)).toInt64 &&& (6148914691236517205 : Int64))) &&& (3689348814741910323 : Int64)) + (((x0 - ((x0.toUInt64 >>> ((1 : Int32).toInt64.toUInt64 &&& Int64.toUInt64 63)).toInt64 &&& (6148914691236517205 : Int64))).toUInt64 >>> ((2 : Int32).toInt64.toUInt64 &&& Int64.toUInt64 63)).toInt64 &&& (3689348814741910323 : Int64))) + ((((x0 - ((x0.toUInt64 >>> ((1 : Int32).toInt64.toUInt64 &&& Int64.toUInt64 63)).toInt64 &&& (6148914691236517205 : Int64))) &&& (3689348814741910323 : Int64)) + (((x0 - ((x0.toUInt64 >>> ((1 : Int32).toInt64.toUInt64 &&& Int64.toUInt64 63)).toInt64 &&& (6148914691236517205 : Int64))).toUInt64 >>> ((2 : Int32).toInt64.toUInt64 &&& Int64.toUInt64 63)).toInt64 &&& (3689348814741910323 : Int64))).toUInt64 >>> ((4 : Int32).toInt64.toUInt64 &&& Int64.toUInt64 63)).toInt64) &&& (1085102592571150095 : Int64)) + ((((((x0 - ((x0.toUInt64 >>> ((1 : Int32).toInt64.toUInt64 &&& Int64.toUInt64 63)).toInt64 &&& (6148914691236517205 : Int64))) &&& (3689348814741910323 : Int64)) + (((x0 - ((x0.toUInt64 >>> ((1 : Int32).toInt64.toUInt64 &&& Int64.toUInt64 63)).toInt64 &&& (6148914691236517205 : Int64))).toUInt64 >>> ((2 : Int32).toInt64.toUInt64 &&& Int64.toUInt64 63)).toInt64 &&& (3689348814741910323 : Int64))) + ((((x0 - ((x0.toUInt64 >>> ((1 : Int32).toInt64.toUInt64 &&& Int64.toUInt64 63)).toInt64 &&& (6148914691236517205 : Int64))) &&& (3689348814741910323 : Int64)) + (((x0 - ((x0.toUInt64 >>> ((1 : Int32).toInt64.toUInt64 &&& Int64.toUInt64 63)).toInt64 &&& (6148914691236517205 : Int64))).toUInt64 >>> ((2 : Int32).toInt64.toUInt64 &&& Int64.toUInt64 63)).toInt64 &&& (3689348814741910323 : Int64))).toUInt64 >>> ((4 : Int32).toInt64.toUInt64 &&& Int64.toUInt64 63)).toInt64) &&& (1085102592571150095 : Int64)).toUInt64 >>> ((8 : Int32).toInt64.toUInt64 &&& Int64.toUInt64 63)).toInt64).toUInt64 >>> ((16 : Int32).toInt64.toUInt64 &&& Int64.toUInt64 63)).toInt64).toUInt64 >>> ((32 : Int32).toInt64.toUInt64 &&& Int64.toUInt64 63)).toInt64).toInt32 &&& (127 : Int32))
set_option maxHeartbeats 4000000 in
set_option maxRecDepth 100000 in
theorem k_Long_bitCount {p : Program} {l : Launch} {e : Env} {s : State} {m : MethodId} {args : Array Value} {below : List Frame} {meth : Method} {c : Code} {g : Gz} {A2 A : Nat → Prop} {F : Nat} (hC : Cx prog_13_method_50_code 2 (some .int) "java/lang/Long" p s m args meth c g A2 A) : ∀ (x0 : Int64) (res : Int32), Long_bitCount F x0 = some res → Go p l e rm_Long_bitCount s m args below meth c g A2 A 2 (MQ below (RI res A) args s 0 0 A) ([]) [(0, .long x0)] 0 [] := by
  obtain ⟨hx, hb, hr, hml, hown, htb, hlocks, hA, hAA, hG⟩ := id hC
  have hK := hG.1
  intro x0 res h H locs ls hP hD hS hl
  rw [Long_bitCount] at h
  refine lv_lload_n hx hb d_Long_bitCount_0 rfl (lv_at hl 0 rfl) ?_
  refine lv_lload_n hx hb d_Long_bitCount_1 rfl (lv_at hl 0 rfl) ?_
  refine lv_iconst (v := 1) hx hb d_Long_bitCount_2 (by decide) ?_
  refine lv_lushr hx hb d_Long_bitCount_3 rfl ?_
  refine lv_ldc2 (v := 6148914691236517205) hx hb hown (htb _ K_Long_314) d_Long_bitCount_4 ?_
  refine lv_land hx hb d_Long_bitCount_7 ?_
  refine lv_lsub hx hb d_Long_bitCount_8 ?_
  refine lv_lstore_n (lv' := [(0, .long (x0 - ((x0.toUInt64 >>> ((1 : Int32).toInt64.toUInt64 &&& Int64.toUInt64 63)).toInt64 &&& (6148914691236517205 : Int64))))]) hx hb d_Long_bitCount_9 rfl hl (by decide) rfl (fun ls hl => ?_)
  refine lv_lload_n hx hb d_Long_bitCount_10 rfl (lv_at hl 0 rfl) ?_
  refine lv_ldc2 (v := 3689348814741910323) hx hb hown (htb _ K_Long_316) d_Long_bitCount_11 ?_
  refine lv_land hx hb d_Long_bitCount_14 ?_
  refine lv_lload_n hx hb d_Long_bitCount_15 rfl (lv_at hl 0 rfl) ?_
  refine lv_iconst (v := 2) hx hb d_Long_bitCount_16 (by decide) ?_
  refine lv_lushr hx hb d_Long_bitCount_17 rfl ?_
  refine lv_ldc2 (v := 3689348814741910323) hx hb hown (htb _ K_Long_316) d_Long_bitCount_18 ?_
  refine lv_land hx hb d_Long_bitCount_21 ?_
  refine lv_ladd hx hb d_Long_bitCount_22 ?_
  refine lv_lstore_n (lv' := [(0, .long (((x0 - ((x0.toUInt64 >>> ((1 : Int32).toInt64.toUInt64 &&& Int64.toUInt64 63)).toInt64 &&& (6148914691236517205 : Int64))) &&& (3689348814741910323 : Int64)) + (((x0 - ((x0.toUInt64 >>> ((1 : Int32).toInt64.toUInt64 &&& Int64.toUInt64 63)).toInt64 &&& (6148914691236517205 : Int64))).toUInt64 >>> ((2 : Int32).toInt64.toUInt64 &&& Int64.toUInt64 63)).toInt64 &&& (3689348814741910323 : Int64))))]) hx hb d_Long_bitCount_23 rfl hl (by decide) rfl (fun ls hl => ?_)
  refine lv_lload_n hx hb d_Long_bitCount_24 rfl (lv_at hl 0 rfl) ?_
  refine lv_lload_n hx hb d_Long_bitCount_25 rfl (lv_at hl 0 rfl) ?_
  refine lv_iconst (v := 4) hx hb d_Long_bitCount_26 (by decide) ?_
  refine lv_lushr hx hb d_Long_bitCount_27 rfl ?_
  refine lv_ladd hx hb d_Long_bitCount_28 ?_
  refine lv_ldc2 (v := 1085102592571150095) hx hb hown (htb _ K_Long_318) d_Long_bitCount_29 ?_
  refine lv_land hx hb d_Long_bitCount_32 ?_
  refine lv_lstore_n (lv' := [(0, .long (((((x0 - ((x0.toUInt64 >>> ((1 : Int32).toInt64.toUInt64 &&& Int64.toUInt64 63)).toInt64 &&& (6148914691236517205 : Int64))) &&& (3689348814741910323 : Int64)) + (((x0 - ((x0.toUInt64 >>> ((1 : Int32).toInt64.toUInt64 &&& Int64.toUInt64 63)).toInt64 &&& (6148914691236517205 : Int64))).toUInt64 >>> ((2 : Int32).toInt64.toUInt64 &&& Int64.toUInt64 63)).toInt64 &&& (3689348814741910323 : Int64))) + ((((x0 - ((x0.toUInt64 >>> ((1 : Int32).toInt64.toUInt64 &&& Int64.toUInt64 63)).toInt64 &&& (6148914691236517205 : Int64))) &&& (3689348814741910323 : Int64)) + (((x0 - ((x0.toUInt64 >>> ((1 : Int32).toInt64.toUInt64 &&& Int64.toUInt64 63)).toInt64 &&& (6148914691236517205 : Int64))).toUInt64 >>> ((2 : Int32).toInt64.toUInt64 &&& Int64.toUInt64 63)).toInt64 &&& (3689348814741910323 : Int64))).toUInt64 >>> ((4 : Int32).toInt64.toUInt64 &&& Int64.toUInt64 63)).toInt64) &&& (1085102592571150095 : Int64)))]) hx hb d_Long_bitCount_33 rfl hl (by decide) rfl (fun ls hl => ?_)
  refine lv_lload_n hx hb d_Long_bitCount_34 rfl (lv_at hl 0 rfl) ?_
  refine lv_lload_n hx hb d_Long_bitCount_35 rfl (lv_at hl 0 rfl) ?_
  refine lv_bipush (v := 8) hx hb d_Long_bitCount_36 (by decide) ?_
  refine lv_lushr hx hb d_Long_bitCount_38 rfl ?_
  refine lv_ladd hx hb d_Long_bitCount_39 ?_
  refine lv_lstore_n (lv' := [(0, .long ((((((x0 - ((x0.toUInt64 >>> ((1 : Int32).toInt64.toUInt64 &&& Int64.toUInt64 63)).toInt64 &&& (6148914691236517205 : Int64))) &&& (3689348814741910323 : Int64)) + (((x0 - ((x0.toUInt64 >>> ((1 : Int32).toInt64.toUInt64 &&& Int64.toUInt64 63)).toInt64 &&& (6148914691236517205 : Int64))).toUInt64 >>> ((2 : Int32).toInt64.toUInt64 &&& Int64.toUInt64 63)).toInt64 &&& (3689348814741910323 : Int64))) + ((((x0 - ((x0.toUInt64 >>> ((1 : Int32).toInt64.toUInt64 &&& Int64.toUInt64 63)).toInt64 &&& (6148914691236517205 : Int64))) &&& (3689348814741910323 : Int64)) + (((x0 - ((x0.toUInt64 >>> ((1 : Int32).toInt64.toUInt64 &&& Int64.toUInt64 63)).toInt64 &&& (6148914691236517205 : Int64))).toUInt64 >>> ((2 : Int32).toInt64.toUInt64 &&& Int64.toUInt64 63)).toInt64 &&& (3689348814741910323 : Int64))).toUInt64 >>> ((4 : Int32).toInt64.toUInt64 &&& Int64.toUInt64 63)).toInt64) &&& (1085102592571150095 : Int64)) + ((((((x0 - ((x0.toUInt64 >>> ((1 : Int32).toInt64.toUInt64 &&& Int64.toUInt64 63)).toInt64 &&& (6148914691236517205 : Int64))) &&& (3689348814741910323 : Int64)) + (((x0 - ((x0.toUInt64 >>> ((1 : Int32).toInt64.toUInt64 &&& Int64.toUInt64 63)).toInt64 &&& (6148914691236517205 : Int64))).toUInt64 >>> ((2 : Int32).toInt64.toUInt64 &&& Int64.toUInt64 63)).toInt64 &&& (3689348814741910323 : Int64))) + ((((x0 - ((x0.toUInt64 >>> ((1 : Int32).toInt64.toUInt64 &&& Int64.toUInt64 63)).toInt64 &&& (6148914691236517205 : Int64))) &&& (3689348814741910323 : Int64)) + (((x0 - ((x0.toUInt64 >>> ((1 : Int32).toInt64.toUInt64 &&& Int64.toUInt64 63)).toInt64 &&& (6148914691236517205 : Int64))).toUInt64 >>> ((2 : Int32).toInt64.toUInt64 &&& Int64.toUInt64 63)).toInt64 &&& (3689348814741910323 : Int64))).toUInt64 >>> ((4 : Int32).toInt64.toUInt64 &&& Int64.toUInt64 63)).toInt64) &&& (1085102592571150095 : Int64)).toUInt64 >>> ((8 : Int32).toInt64.toUInt64 &&& Int64.toUInt64 63)).toInt64))]) hx hb d_Long_bitCount_40 rfl hl (by decide) rfl (fun ls hl => ?_)
  refine lv_lload_n hx hb d_Long_bitCount_41 rfl (lv_at hl 0 rfl) ?_
  refine lv_lload_n hx hb d_Long_bitCount_42 rfl (lv_at hl 0 rfl) ?_
  refine lv_bipush (v := 16) hx hb d_Long_bitCount_43 (by decide) ?_
  refine lv_lushr hx hb d_Long_bitCount_45 rfl ?_
  refine lv_ladd hx hb d_Long_bitCount_46 ?_
  refine lv_lstore_n (lv' := [(0, .long (((((((x0 - ((x0.toUInt64 >>> ((1 : Int32).toInt64.toUInt64 &&& Int64.toUInt64 63)).toInt64 &&& (6148914691236517205 : Int64))) &&& (3689348814741910323 : Int64)) + (((x0 - ((x0.toUInt64 >>> ((1 : Int32).toInt64.toUInt64 &&& Int64.toUInt64 63)).toInt64 &&& (6148914691236517205 : Int64))).toUInt64 >>> ((2 : Int32).toInt64.toUInt64 &&& Int64.toUInt64 63)).toInt64 &&& (3689348814741910323 : Int64))) + ((((x0 - ((x0.toUInt64 >>> ((1 : Int32).toInt64.toUInt64 &&& Int64.toUInt64 63)).toInt64 &&& (6148914691236517205 : Int64))) &&& (3689348814741910323 : Int64)) + (((x0 - ((x0.toUInt64 >>> ((1 : Int32).toInt64.toUInt64 &&& Int64.toUInt64 63)).toInt64 &&& (6148914691236517205 : Int64))).toUInt64 >>> ((2 : Int32).toInt64.toUInt64 &&& Int64.toUInt64 63)).toInt64 &&& (3689348814741910323 : Int64))).toUInt64 >>> ((4 : Int32).toInt64.toUInt64 &&& Int64.toUInt64 63)).toInt64) &&& (1085102592571150095 : Int64)) + ((((((x0 - ((x0.toUInt64 >>> ((1 : Int32).toInt64.toUInt64 &&& Int64.toUInt64 63)).toInt64 &&& (6148914691236517205 : Int64))) &&& (3689348814741910323 : Int64)) + (((x0 - ((x0.toUInt64 >>> ((1 : Int32).toInt64.toUInt64 &&& Int64.toUInt64 63)).toInt64 &&& (6148914691236517205 : Int64))).toUInt64 >>> ((2 : Int32).toInt64.toUInt64 &&& Int64.toUInt64 63)).toInt64 &&& (3689348814741910323 : Int64))) + ((((x0 - ((x0.toUInt64 >>> ((1 : Int32).toInt64.toUInt64 &&& Int64.toUInt64 63)).toInt64 &&& (6148914691236517205 : Int64))) &&& (3689348814741910323 : Int64)) + (((x0 - ((x0.toUInt64 >>> ((1 : Int32).toInt64.toUInt64 &&& Int64.toUInt64 63)).toInt64 &&& (6148914691236517205 : Int64))).toUInt64 >>> ((2 : Int32).toInt64.toUInt64 &&& Int64.toUInt64 63)).toInt64 &&& (3689348814741910323 : Int64))).toUInt64 >>> ((4 : Int32).toInt64.toUInt64 &&& Int64.toUInt64 63)).toInt64) &&& (1085102592571150095 : Int64)).toUInt64 >>> ((8 : Int32).toInt64.toUInt64 &&& Int64.toUInt64 63)).toInt64) + (((((((x0 - ((x0.toUInt64 >>> ((1 : Int32).toInt64.toUInt64 &&& Int64.toUInt64 63)).toInt64 &&& (6148914691236517205 : Int64))) &&& (3689348814741910323 : Int64)) + (((x0 - ((x0.toUInt64 >>> ((1 : Int32).toInt64.toUInt64 &&& Int64.toUInt64 63)).toInt64 &&& (6148914691236517205 : Int64))).toUInt64 >>> ((2 : Int32).toInt64.toUInt64 &&& Int64.toUInt64 63)).toInt64 &&& (3689348814741910323 : Int64))) + ((((x0 - ((x0.toUInt64 >>> ((1 : Int32).toInt64.toUInt64 &&& Int64.toUInt64 63)).toInt64 &&& (6148914691236517205 : Int64))) &&& (3689348814741910323 : Int64)) + (((x0 - ((x0.toUInt64 >>> ((1 : Int32).toInt64.toUInt64 &&& Int64.toUInt64 63)).toInt64 &&& (6148914691236517205 : Int64))).toUInt64 >>> ((2 : Int32).toInt64.toUInt64 &&& Int64.toUInt64 63)).toInt64 &&& (3689348814741910323 : Int64))).toUInt64 >>> ((4 : Int32).toInt64.toUInt64 &&& Int64.toUInt64 63)).toInt64) &&& (1085102592571150095 : Int64)) + ((((((x0 - ((x0.toUInt64 >>> ((1 : Int32).toInt64.toUInt64 &&& Int64.toUInt64 63)).toInt64 &&& (6148914691236517205 : Int64))) &&& (3689348814741910323 : Int64)) + (((x0 - ((x0.toUInt64 >>> ((1 : Int32).toInt64.toUInt64 &&& Int64.toUInt64 63)).toInt64 &&& (6148914691236517205 : Int64))).toUInt64 >>> ((2 : Int32).toInt64.toUInt64 &&& Int64.toUInt64 63)).toInt64 &&& (3689348814741910323 : Int64))) + ((((x0 - ((x0.toUInt64 >>> ((1 : Int32).toInt64.toUInt64 &&& Int64.toUInt64 63)).toInt64 &&& (6148914691236517205 : Int64))) &&& (3689348814741910323 : Int64)) + (((x0 - ((x0.toUInt64 >>> ((1 : Int32).toInt64.toUInt64 &&& Int64.toUInt64 63)).toInt64 &&& (6148914691236517205 : Int64))).toUInt64 >>> ((2 : Int32).toInt64.toUInt64 &&& Int64.toUInt64 63)).toInt64 &&& (3689348814741910323 : Int64))).toUInt64 >>> ((4 : Int32).toInt64.toUInt64 &&& Int64.toUInt64 63)).toInt64) &&& (1085102592571150095 : Int64)).toUInt64 >>> ((8 : Int32).toInt64.toUInt64 &&& Int64.toUInt64 63)).toInt64).toUInt64 >>> ((16 : Int32).toInt64.toUInt64 &&& Int64.toUInt64 63)).toInt64))]) hx hb d_Long_bitCount_47 rfl hl (by decide) rfl (fun ls hl => ?_)
  refine lv_lload_n hx hb d_Long_bitCount_48 rfl (lv_at hl 0 rfl) ?_
  refine lv_lload_n hx hb d_Long_bitCount_49 rfl (lv_at hl 0 rfl) ?_
  refine lv_bipush (v := 32) hx hb d_Long_bitCount_50 (by decide) ?_
  refine lv_lushr hx hb d_Long_bitCount_52 rfl ?_
  refine lv_ladd hx hb d_Long_bitCount_53 ?_
  refine lv_lstore_n (lv' := [(0, .long ((((((((x0 - ((x0.toUInt64 >>> ((1 : Int32).toInt64.toUInt64 &&& Int64.toUInt64 63)).toInt64 &&& (6148914691236517205 : Int64))) &&& (3689348814741910323 : Int64)) + (((x0 - ((x0.toUInt64 >>> ((1 : Int32).toInt64.toUInt64 &&& Int64.toUInt64 63)).toInt64 &&& (6148914691236517205 : Int64))).toUInt64 >>> ((2 : Int32).toInt64.toUInt64 &&& Int64.toUInt64 63)).toInt64 &&& (3689348814741910323 : Int64))) + ((((x0 - ((x0.toUInt64 >>> ((1 : Int32).toInt64.toUInt64 &&& Int64.toUInt64 63)).toInt64 &&& (6148914691236517205 : Int64))) &&& (3689348814741910323 : Int64)) + (((x0 - ((x0.toUInt64 >>> ((1 : Int32).toInt64.toUInt64 &&& Int64.toUInt64 63)).toInt64 &&& (6148914691236517205 : Int64))).toUInt64 >>> ((2 : Int32).toInt64.toUInt64 &&& Int64.toUInt64 63)).toInt64 &&& (3689348814741910323 : Int64))).toUInt64 >>> ((4 : Int32).toInt64.toUInt64 &&& Int64.toUInt64 63)).toInt64) &&& (1085102592571150095 : Int64)) + ((((((x0 - ((x0.toUInt64 >>> ((1 : Int32).toInt64.toUInt64 &&& Int64.toUInt64 63)).toInt64 &&& (6148914691236517205 : Int64))) &&& (3689348814741910323 : Int64)) + (((x0 - ((x0.toUInt64 >>> ((1 : Int32).toInt64.toUInt64 &&& Int64.toUInt64 63)).toInt64 &&& (6148914691236517205 : Int64))).toUInt64 >>> ((2 : Int32).toInt64.toUInt64 &&& Int64.toUInt64 63)).toInt64 &&& (3689348814741910323 : Int64))) + ((((x0 - ((x0.toUInt64 >>> ((1 : Int32).toInt64.toUInt64 &&& Int64.toUInt64 63)).toInt64 &&& (6148914691236517205 : Int64))) &&& (3689348814741910323 : Int64)) + (((x0 - ((x0.toUInt64 >>> ((1 : Int32).toInt64.toUInt64 &&& Int64.toUInt64 63)).toInt64 &&& (6148914691236517205 : Int64))).toUInt64 >>> ((2 : Int32).toInt64.toUInt64 &&& Int64.toUInt64 63)).toInt64 &&& (3689348814741910323 : Int64))).toUInt64 >>> ((4 : Int32).toInt64.toUInt64 &&& Int64.toUInt64 63)).toInt64) &&& (1085102592571150095 : Int64)).toUInt64 >>> ((8 : Int32).toInt64.toUInt64 &&& Int64.toUInt64 63)).toInt64) + (((((((x0 - ((x0.toUInt64 >>> ((1 : Int32).toInt64.toUInt64 &&& Int64.toUInt64 63)).toInt64 &&& (6148914691236517205 : Int64))) &&& (3689348814741910323 : Int64)) + (((x0 - ((x0.toUInt64 >>> ((1 : Int32).toInt64.toUInt64 &&& Int64.toUInt64 63)).toInt64 &&& (6148914691236517205 : Int64))).toUInt64 >>> ((2 : Int32).toInt64.toUInt64 &&& Int64.toUInt64 63)).toInt64 &&& (3689348814741910323 : Int64))) + ((((x0 - ((x0.toUInt64 >>> ((1 : Int32).toInt64.toUInt64 &&& Int64.toUInt64 63)).toInt64 &&& (6148914691236517205 : Int64))) &&& (3689348814741910323 : Int64)) + (((x0 - ((x0.toUInt64 >>> ((1 : Int32).toInt64.toUInt64 &&& Int64.toUInt64 63)).toInt64 &&& (6148914691236517205 : Int64))).toUInt64 >>> ((2 : Int32).toInt64.toUInt64 &&& Int64.toUInt64 63)).toInt64 &&& (3689348814741910323 : Int64))).toUInt64 >>> ((4 : Int32).toInt64.toUInt64 &&& Int64.toUInt64 63)).toInt64) &&& (1085102592571150095 : Int64)) + ((((((x0 - ((x0.toUInt64 >>> ((1 : Int32).toInt64.toUInt64 &&& Int64.toUInt64 63)).toInt64 &&& (6148914691236517205 : Int64))) &&& (3689348814741910323 : Int64)) + (((x0 - ((x0.toUInt64 >>> ((1 : Int32).toInt64.toUInt64 &&& Int64.toUInt64 63)).toInt64 &&& (6148914691236517205 : Int64))).toUInt64 >>> ((2 : Int32).toInt64.toUInt64 &&& Int64.toUInt64 63)).toInt64 &&& (3689348814741910323 : Int64))) + ((((x0 - ((x0.toUInt64 >>> ((1 : Int32).toInt64.toUInt64 &&& Int64.toUInt64 63)).toInt64 &&& (6148914691236517205 : Int64))) &&& (3689348814741910323 : Int64)) + (((x0 - ((x0.toUInt64 >>> ((1 : Int32).toInt64.toUInt64 &&& Int64.toUInt64 63)).toInt64 &&& (6148914691236517205 : Int64))).toUInt64 >>> ((2 : Int32).toInt64.toUInt64 &&& Int64.toUInt64 63)).toInt64 &&& (3689348814741910323 : Int64))).toUInt64 >>> ((4 : Int32).toInt64.toUInt64 &&& Int64.toUInt64 63)).toInt64) &&& (1085102592571150095 : Int64)).toUInt64 >>> ((8 : Int32).toInt64.toUInt64 &&& Int64.toUInt64 63)).toInt64).toUInt64 >>> ((16 : Int32).toInt64.toUInt64 &&& Int64.toUInt64 63)).toInt64) + ((((((((x0 - ((x0.toUInt64 >>> ((1 : Int32).toInt64.toUInt64 &&& Int64.toUInt64 63)).toInt64 &&& (6148914691236517205 : Int64))) &&& (3689348814741910323 : Int64)) + (((x0 - ((x0.toUInt64 >>> ((1 : Int32).toInt64.toUInt64 &&& Int64.toUInt64 63)).toInt64 &&& (6148914691236517205 : Int64))).toUInt64 >>> ((2 : Int32).toInt64.toUInt64 &&& Int64.toUInt64 63)).toInt64 &&& (3689348814741910323 : Int64))) + ((((x0 - ((x0.toUInt64 >>> ((1 : Int32).toInt64.toUInt64 &&& Int64.toUInt64 63)).toInt64 &&& (6148914691236517205 : Int64))) &&& (3689348814741910323 : Int64)) + (((x0 - ((x0.toUInt64 >>> ((1 : Int32).toInt64.toUInt64 &&& Int64.toUInt64 63)).toInt64 &&& (6148914691236517205 : Int64))).toUInt64 >>> ((2 : Int32).toInt64.toUInt64 &&& Int64.toUInt64 63)).toInt64 &&& (3689348814741910323 : Int64))).toUInt64 >>> ((4 : Int32).toInt64.toUInt64 &&& Int64.toUInt64 63)).toInt64) &&& (1085102592571150095 : Int64)) + ((((((x0 - ((x0.toUInt64 >>> ((1 : Int32).toInt64.toUInt64 &&& Int64.toUInt64 63)).toInt64 &&& (6148914691236517205 : Int64))) &&& (3689348814741910323 : Int64)) + (((x0 - ((x0.toUInt64 >>> ((1 : Int32).toInt64.toUInt64 &&& Int64.toUInt64 63)).toInt64 &&& (6148914691236517205 : Int64))).toUInt64 >>> ((2 : Int32).toInt64.toUInt64 &&& Int64.toUInt64 63)).toInt64 &&& (3689348814741910323 : Int64))) + ((((x0 - ((x0.toUInt64 >>> ((1 : Int32).toInt64.toUInt64 &&& Int64.toUInt64 63)).toInt64 &&& (6148914691236517205 : Int64))) &&& (3689348814741910323 : Int64)) + (((x0 - ((x0.toUInt64 >>> ((1 : Int32).toInt64.toUInt64 &&& Int64.toUInt64 63)).toInt64 &&& (6148914691236517205 : Int64))).toUInt64 >>> ((2 : Int32).toInt64.toUInt64 &&& Int64.toUInt64 63)).toInt64 &&& (3689348814741910323 : Int64))).toUInt64 >>> ((4 : Int32).toInt64.toUInt64 &&& Int64.toUInt64 63)).toInt64) &&& (1085102592571150095 : Int64)).toUInt64 >>> ((8 : Int32).toInt64.toUInt64 &&& Int64.toUInt64 63)).toInt64) + (((((((x0 - ((x0.toUInt64 >>> ((1 : Int32).toInt64.toUInt64 &&& Int64.toUInt64 63)).toInt64 &&& (6148914691236517205 : Int64))) &&& (3689348814741910323 : Int64)) + (((x0 - ((x0.toUInt64 >>> ((1 : Int32).toInt64.toUInt64 &&& Int64.toUInt64 63)).toInt64 &&& (6148914691236517205 : Int64))).toUInt64 >>> ((2 : Int32).toInt64.toUInt64 &&& Int64.toUInt64 63)).toInt64 &&& (3689348814741910323 : Int64))) + ((((x0 - ((x0.toUInt64 >>> ((1 : Int32).toInt64.toUInt64 &&& Int64.toUInt64 63)).toInt64 &&& (6148914691236517205 : Int64))) &&& (3689348814741910323 : Int64)) + (((x0 - ((x0.toUInt64 >>> ((1 : Int32).toInt64.toUInt64 &&& Int64.toUInt64 63)).toInt64 &&& (6148914691236517205 : Int64))).toUInt64 >>> ((2 : Int32).toInt64.toUInt64 &&& Int64.toUInt64 63)).toInt64 &&& (3689348814741910323 : Int64))).toUInt64 >>> ((4 : Int32).toInt64.toUInt64 &&& Int64.toUInt64 63)).toInt64) &&& (1085102592571150095 : Int64)) + ((((((x0 - ((x0.toUInt64 >>> ((1 : Int32).toInt64.toUInt64 &&& Int64.toUInt64 63)).toInt64 &&& (6148914691236517205 : Int64))) &&& (3689348814741910323 : Int64)) + (((x0 - ((x0.toUInt64 >>> ((1 : Int32).toInt64.toUInt64 &&& Int64.toUInt64 63)).toInt64 &&& (6148914691236517205 : Int64))).toUInt64 >>> ((2 : Int32).toInt64.toUInt64 &&& Int64.toUInt64 63)).toInt64 &&& (3689348814741910323 : Int64))) + ((((x0 - ((x0.toUInt64 >>> ((1 : Int32).toInt64.toUInt64 &&& Int64.toUInt64 63)).toInt64 &&& (6148914691236517205 : Int64))) &&& (3689348814741910323 : Int64)) + (((x0 - ((x0.toUInt64 >>> ((1 : Int32).toInt64.toUInt64 &&& Int64.toUInt64 63)).toInt64 &&& (6148914691236517205 : Int64))).toUInt64 >>> ((2 : Int32).toInt64.toUInt64 &&& Int64.toUInt64 63)).toInt64 &&& (3689348814741910323 : Int64))).toUInt64 >>> ((4 : Int32).toInt64.toUInt64 &&& Int64.toUInt64 63)).toInt64) &&& (1085102592571150095 : Int64)).toUInt64 >>> ((8 : Int32).toInt64.toUInt64 &&& Int64.toUInt64 63)).toInt64).toUInt64 >>> ((16 : Int32).toInt64.toUInt64 &&& Int64.toUInt64 63)).toInt64).toUInt64 >>> ((32 : Int32).toInt64.toUInt64 &&& Int64.toUInt64 63)).toInt64))]) hx hb d_Long_bitCount_54 rfl hl (by decide) rfl (fun ls hl => ?_)
  refine lv_lload_n hx hb d_Long_bitCount_55 rfl (lv_at hl 0 rfl) ?_
  refine lv_l2i hx hb d_Long_bitCount_56 rfl ?_
  refine lv_bipush (v := 127) hx hb d_Long_bitCount_57 (by decide) ?_
  refine lv_iand hx hb d_Long_bitCount_59 ?_
  cases h
  exact W.iret hx hb hr (fun t ht hW => ⟨⟨_, (), rfl, rfl, trivial⟩, hS.F ht⟩) hS.2.2 d_Long_bitCount_60
theorem c_Long_bitCount (l : Launch) (g : Gz) (F : Nat) (x0 : Int64) (res : Int32) (h : Long_bitCount F x0 = some res) : ∀ sz : Nat, Met l y_Long_bitCount (.code y_Long_bitCount prog_13_method_50_code 2 (some .int) :: TBL) rm_Long_bitCount (va_Pc [.long x0] (Pre0 g ([]) sz)) (RI res (fun q => sz ≤ q)) 0 0 (fun q => sz ≤ q) :=
  ct_r (Qc := fun A => RI res A) (by decide) (Nat.le_of_ble_eq_true rfl) (fun p e s m args below meth c A2 A hC => k_Long_bitCount hC x0 res h)
def Judge_joined (F : Nat) (x0 : Int32) (x1 : Int64) (x3 : Int64) : Option (Int64) := if x0 = (-4 : Int32) then some (x1 ||| x3) else if x0 = (-5 : Int32) then some (x1 ^^^ x3) else some (x1 &&& x3)
set_option maxHeartbeats 4000000 in
set_option maxRecDepth 100000 in
theorem k_Judge_joined {p : Program} {l : Launch} {e : Env} {s : State} {m : MethodId} {args : Array Value} {below : List Frame} {meth : Method} {c : Code} {g : Gz} {A2 A : Nat → Prop} {F : Nat} (hC : Cx prog_2_method_6_code 5 (some .long) R_Judge p s m args meth c g A2 A) : ∀ (x0 : Int32) (x1 : Int64) (x3 : Int64) (res : Int64), Judge_joined F x0 x1 x3 = some res → Go p l e rm_Judge_joined s m args below meth c g A2 A 5 (MQ below (RL res A) args s 0 0 A) ([]) [(0, .int x0), (1, .long x1), (3, .long x3)] 0 [] := by
  obtain ⟨hx, hb, hr, hml, hown, htb, hlocks, hA, hAA, hG⟩ := id hC
  have hK := hG.1
  intro x0 x1 x3 res h H locs ls hP hD hS hl
  rw [Judge_joined] at h
  refine lv_iload_n hx hb d_Judge_joined_0 rfl (lv_at hl 0 rfl) ?_
  refine lv_bipush (v := -4) hx hb d_Judge_joined_1 (by decide) ?_
  refine lv_icmp_ne (tgt := 10) hx hb d_Judge_joined_3 (by decide) (fun c3 => ?_) (fun c3 => ?_)
  · replace h := (if_neg c3).symm.trans h
    refine lv_iload_n hx hb d_Judge_joined_10 rfl (lv_at hl 0 rfl) ?_
    refine lv_bipush (v := -5) hx hb d_Judge_joined_11 (by decide) ?_
    refine lv_icmp_ne (tgt := 22) hx hb d_Judge_joined_13 (by decide) (fun c4 => ?_) (fun c4 => ?_)
    · replace h := (if_neg c4).symm.trans h
      refine lv_lload_n hx hb d_Judge_joined_22 rfl (lv_at hl 1 rfl) ?_
      refine lv_lload_n hx hb d_Judge_joined_23 rfl (lv_at hl 2 rfl) ?_
      refine lv_land hx hb d_Judge_joined_24 ?_
      cases h
      exact W.lret hx hb hr (fun t ht hW => ⟨⟨_, (), rfl, rfl, trivial⟩, hS.F ht⟩) hS.2.2 d_Judge_joined_25
    · replace h := (if_pos c4).symm.trans h
      refine lv_lload_n hx hb d_Judge_joined_16 rfl (lv_at hl 1 rfl) ?_
      refine lv_lload_n hx hb d_Judge_joined_17 rfl (lv_at hl 2 rfl) ?_
      refine lv_lxor hx hb d_Judge_joined_18 ?_
      refine lv_goto (tgt := 25) hx hb d_Judge_joined_19 (by decide) ?_
      cases h
      exact W.lret hx hb hr (fun t ht hW => ⟨⟨_, (), rfl, rfl, trivial⟩, hS.F ht⟩) hS.2.2 d_Judge_joined_25
  · replace h := (if_pos c3).symm.trans h
    refine lv_lload_n hx hb d_Judge_joined_6 rfl (lv_at hl 1 rfl) ?_
    refine lv_lload_n hx hb d_Judge_joined_7 rfl (lv_at hl 2 rfl) ?_
    refine lv_lor hx hb d_Judge_joined_8 ?_
    cases h
    exact W.lret hx hb hr (fun t ht hW => ⟨⟨_, (), rfl, rfl, trivial⟩, hS.F ht⟩) hS.2.2 d_Judge_joined_9
theorem c_Judge_joined (l : Launch) (g : Gz) (F : Nat) (x0 : Int32) (x1 : Int64) (x3 : Int64) (res : Int64) (h : Judge_joined F x0 x1 x3 = some res) : ∀ sz : Nat, Met l y_Judge_joined (.code y_Judge_joined prog_2_method_6_code 5 (some .long) :: TBL) rm_Judge_joined (va_Pc [.int x0, .long x1, .long x3] (Pre0 g ([]) sz)) (RL res (fun q => sz ≤ q)) 0 0 (fun q => sz ≤ q) :=
  ct_r (Qc := fun A => RL res A) (by decide) (Nat.le_of_ble_eq_true rfl) (fun p e s m args below meth c A2 A hC => k_Judge_joined hC x0 x1 x3 res h)
def Judge_valueOf_124 (F : Nat) (k25 : StL → StI → StI → StL → Int32 → Option (Int64 × StI × StL)) (tL : StL) (p1 : StI) (pile : StI) (pileL : StL) (x2 : Int32) : Option (Int64 × StI × StL) := k25 tL p1 pile pileL (x2 + (-1 : Int32))
def Judge_valueOf_62 (F : Nat) (k25 : StL → StI → StI → StL → Int32 → Option (Int64 × StI × StL)) (tL : StL) (p1 : StI) (pile : StI) (pileL : StL) (x2 : Int32) (y0 : Int64) : Option (Int64 × StI × StL) := (Pile_push F 40 pile pileL y0).bind fun r17 => Judge_valueOf_124 F k25 tL p1 r17.1 r17.2 x2
def Judge_valueOf_25 (F : Nat) : Nat → StL → StI → StI → StL → Int32 → Option (Int64 × StI × StL)
  | 0, _, _, _, _, _ => none
  | n + 1, tL, p1, pile, pileL, x2 => if x2 < 0 then (Pile_pop F 40 pile pileL).bind fun r19 => some (r19.1, r19.2.1, r19.2.2) else (Query_entryAt F p1 x2).bind fun r20 => if r20 < 0 then if r20 = (-2 : Int32) then (Pile_pop F 40 pile pileL).bind fun r27 => (Pile_push F 40 r27.2.1 r27.2.2 (r27.1 ^^^ (-1 : Int64))).bind fun r28 => Judge_valueOf_124 F (Judge_valueOf_25 F n) tL p1 r28.1 r28.2 x2 else (Pile_pop F 40 pile pileL).bind fun r23 => (Pile_pop F 40 r23.2.1 r23.2.2).bind fun r24 => (Judge_joined F r20 r23.1 r24.1).bind fun r25 => (Pile_push F 40 r24.2.1 r24.2.2 r25).bind fun r26 => Judge_valueOf_124 F (Judge_valueOf_25 F n) tL p1 r26.1 r26.2 x2 else if (40 : Int32) ≤ r20 then Judge_valueOf_62 F (Judge_valueOf_25 F n) tL p1 pile pileL x2 (0 : Int64) else if r20 < 0 ∨ 40 ≤ r20.toNatClampNeg then none else Judge_valueOf_62 F (Judge_valueOf_25 F n) tL p1 pile pileL x2 ((tL 0) r20.toNatClampNeg)
def Judge_valueOf (F : Nat) (tL : StL) (p1 : StI) (pile : StI) (pileL : StL) : Option (Int64 × StI × StL) := if (p1 13 0) = 0 then some ((-1 : Int64), pile, pileL) else (Pile_clear F 40 pile pileL).bind fun r32 => Judge_valueOf_25 F F tL p1 r32.1 r32.2 ((p1 13 0) - (1 : Int32))
set_option maxHeartbeats 4000000 in
set_option maxRecDepth 100000 in
theorem k_Judge_valueOf_124 {p : Program} {l : Launch} {e : Env} {s : State} {m : MethodId} {args : Array Value} {below : List Frame} {meth : Method} {c : Code} {g : Gz} {A : Nat → Prop} {F : Nat} {a_t a_p1 a_pile : Nat → Nat} {k25 : StL → StI → StI → StL → Int32 → Option (Int64 × StI × StL)} (hC : Cx prog_2_method_5_code 6 (some .long) R_Judge p s m args meth c g A A) : ∀ (tL : StL) (p1 : StI) (pile : StI) (pileL : StL) (x2 : Int32) (res : Int64 × StI × StL), Judge_valueOf_124 F k25 tL p1 pile pileL x2 = some res → (∀ (tL : StL) (p1 : StI) (pile : StI) (pileL : StL) (x2 : Int32), k25 tL p1 pile pileL x2 = some res → Go p l e rm_Judge_valueOf s m args below meth c g A A 6 (MQ below (EL g ((pic_Judge g a_t (a_pile 0) tL) ++ (pic_Query g a_p1 p1) ++ (pic_Pile g a_pile 40 res.2.1 res.2.2)) res.1 A) args s 0 0 A) ((pic_Judge g a_t (a_pile 0) tL) ++ (pic_Query g a_p1 p1) ++ (pic_Pile g a_pile 40 pile pileL)) [(0, .ref (a_t 0)), (1, .ref (a_p1 0)), (2, .int x2)] 25 []) → Go p l e rm_Judge_valueOf s m args below meth c g A A 6 (MQ below (EL g ((pic_Judge g a_t (a_pile 0) tL) ++ (pic_Query g a_p1 p1) ++ (pic_Pile g a_pile 40 res.2.1 res.2.2)) res.1 A) args s 0 0 A) ((pic_Judge g a_t (a_pile 0) tL) ++ (pic_Query g a_p1 p1) ++ (pic_Pile g a_pile 40 pile pileL)) [(0, .ref (a_t 0)), (1, .ref (a_p1 0)), (2, .int x2)] 124 [] := by
  obtain ⟨hx, hb, hr, hml, hown, htb, hlocks, hA, hAA, hG⟩ := id hC
  have hK := hG.1
  intro tL p1 pile pileL x2 res h hk25 H locs ls hP hD hS hl
  rw [Judge_valueOf_124] at h
  refine lv_iinc (v := (x2 + (-1 : Int32))) (lv' := [(2, .int (x2 + (-1 : Int32))), (0, .ref (a_t 0)), (1, .ref (a_p1 0))]) hx hb d_Judge_valueOf_124 hl (k := 2) rfl rfl (by decide) rfl (fun ls hl => ?_)
  refine lv_goto (tgt := 25) hx hb d_Judge_valueOf_127 (by decide) ?_
  exact hk25 _ _ _ _ _ h _ _ _ hP hD hS (lv_sub hl [1, 2, 0] rfl)
set_option maxHeartbeats 4000000 in
set_option maxRecDepth 100000 in
theorem k_Judge_valueOf_62 {p : Program} {l : Launch} {e : Env} {s : State} {m : MethodId} {args : Array Value} {below : List Frame} {meth : Method} {c : Code} {g : Gz} {A : Nat → Prop} {F : Nat} {a_t a_p1 a_pile : Nat → Nat} {k25 : StL → StI → StI → StL → Int32 → Option (Int64 × StI × StL)} (hC : Cx prog_2_method_5_code 6 (some .long) R_Judge p s m args meth c g A A) : ∀ (tL : StL) (p1 : StI) (pile : StI) (pileL : StL) (x2 : Int32) (y0 : Int64) (res : Int64 × StI × StL), Judge_valueOf_62 F k25 tL p1 pile pileL x2 y0 = some res → (∀ (tL : StL) (p1 : StI) (pile : StI) (pileL : StL) (x2 : Int32), k25 tL p1 pile pileL x2 = some res → Go p l e rm_Judge_valueOf s m args below meth c g A A 6 (MQ below (EL g ((pic_Judge g a_t (a_pile 0) tL) ++ (pic_Query g a_p1 p1) ++ (pic_Pile g a_pile 40 res.2.1 res.2.2)) res.1 A) args s 0 0 A) ((pic_Judge g a_t (a_pile 0) tL) ++ (pic_Query g a_p1 p1) ++ (pic_Pile g a_pile 40 pile pileL)) [(0, .ref (a_t 0)), (1, .ref (a_p1 0)), (2, .int x2)] 25 []) → Go p l e rm_Judge_valueOf s m args below meth c g A A 6 (MQ below (EL g ((pic_Judge g a_t (a_pile 0) tL) ++ (pic_Query g a_p1 p1) ++ (pic_Pile g a_pile 40 res.2.1 res.2.2)) res.1 A) args s 0 0 A) ((pic_Judge g a_t (a_pile 0) tL) ++ (pic_Query g a_p1 p1) ++ (pic_Pile g a_pile 40 pile pileL)) [(0, .ref (a_t 0)), (1, .ref (a_p1 0)), (2, .int x2)] 62 [.long y0, .ref (a_pile 0)] := by
  obtain ⟨hx, hb, hr, hml, hown, htb, hlocks, hA, hAA, hG⟩ := id hC
  have hK := hG.1
  intro tL p1 pile pileL x2 y0 res h hk25 H locs ls hP hD hS hl
  rw [Judge_valueOf_62] at h
  obtain ⟨r17, hr17, h⟩ := Option.bind_eq_some_iff.mp h
  refine cl_V (wr := (pic_Judge g a_t (a_pile 0) tL) ++ (pic_Query g a_p1 p1)) [13, 14] [0, 1, 2, 3, 4, 5, 6, 7, 8, 9, 10, 11, 12] rfl rfl rfl (by decide) hP hD hS hA (va_runV (As := [.long y0]) (rest := []) ⟨hx, hb, hml, hown, htb⟩ (c_Pile_push l g F a_pile 40 pile pileL y0 _ hr17 H.size) (cw_V htb mb_Pile_push (htb _ L_Judge_59) rfl rfl ⟨Nat.le_of_ble_eq_true rfl, Nat.le_of_ble_eq_true rfl⟩) (pre_V (va_recv hK hP (ci := 0) (q0 := 13) rfl rfl) (pre_S [13, 14] rfl rfl hP hD hS hA hAA hG)) rfl rfl hl.1 rfl (lv_room (Nat.le_of_ble_eq_true rfl)) d_Judge_valueOf_62 ⟨Nat.zero_le _, Nat.zero_le _⟩) (fun H locs hP hD hS => ?_)
  have hP : va_P (gD g) vwCl ((pic_Judge g a_t (a_pile 0) tL) ++ (pic_Query g a_p1 p1) ++ (pic_Pile g a_pile 40 r17.1 r17.2)) H := hP.sub [0, 1, 2, 3, 4, 5, 6, 7, 8, 9, 10, 11, 12, 13, 14] rfl
  have hD : va_D A ((pic_Judge g a_t (a_pile 0) tL) ++ (pic_Query g a_p1 p1) ++ (pic_Pile g a_pile 40 r17.1 r17.2)) := hD.sub [0, 1, 2, 3, 4, 5, 6, 7, 8, 9, 10, 11, 12, 13, 14] rfl rfl
  refine lv_goto (tgt := 124) hx hb d_Judge_valueOf_65 (by decide) ?_
  exact k_Judge_valueOf_124 hC _ _ _ _ _ _ h hk25 _ _ _ hP hD hS (lv_sub hl [0, 1, 2] rfl)
set_option maxHeartbeats 4000000 in
set_option maxRecDepth 100000 in
theorem k_Judge_valueOf_25 {p : Program} {l : Launch} {e : Env} {s : State} {m : MethodId} {args : Array Value} {below : List Frame} {meth : Method} {c : Code} {g : Gz} {A : Nat → Prop} {F : Nat} {a_t a_p1 a_pile : Nat → Nat} (hC : Cx prog_2_method_5_code 6 (some .long) R_Judge p s m args meth c g A A) : ∀ (n : Nat) (tL : StL) (p1 : StI) (pile : StI) (pileL : StL) (x2 : Int32) (res : Int64 × StI × StL), Judge_valueOf_25 F n tL p1 pile pileL x2 = some res → Go p l e rm_Judge_valueOf s m args below meth c g A A 6 (MQ below (EL g ((pic_Judge g a_t (a_pile 0) tL) ++ (pic_Query g a_p1 p1) ++ (pic_Pile g a_pile 40 res.2.1 res.2.2)) res.1 A) args s 0 0 A) ((pic_Judge g a_t (a_pile 0) tL) ++ (pic_Query g a_p1 p1) ++ (pic_Pile g a_pile 40 pile pileL)) [(0, .ref (a_t 0)), (1, .ref (a_p1 0)), (2, .int x2)] 25 [] := by
  obtain ⟨hx, hb, hr, hml, hown, htb, hlocks, hA, hAA, hG⟩ := id hC
  have hK := hG.1
  intro n
  induction n with
  | zero => intro tL p1 pile pileL x2 res h; rw [Judge_valueOf_25] at h; cases h
  | succ n ih =>
    intro tL p1 pile pileL x2 res h H locs ls hP hD hS hl
    rw [Judge_valueOf_25] at h
    refine lv_iload_n hx hb d_Judge_valueOf_25 rfl (lv_at hl 2 rfl) ?_
    refine lv_if_lt (tgt := 130) hx hb d_Judge_valueOf_26 (by decide) (fun c18 => ?_) (fun c18 => ?_)
    · replace h := (if_pos c18).symm.trans h
      refine lv_aload_n hx hb d_Judge_valueOf_130 rfl (lv_at hl 0 rfl) ?_
      refine va_get (D := gD g) (ci := 5) (v := .ref (a_pile 0)) (C := R_Judge) (T := T_Judge) (N := 2) hx hb htb in_Judge hown hK hP 0 rfl rfl 1 (by decide) (htb _ L_Judge_20) (fun _ h9 => h9) rfl d_Judge_valueOf_131 ?_
      obtain ⟨r19, hr19, h⟩ := Option.bind_eq_some_iff.mp h
      refine cl_L (wr := (pic_Judge g a_t (a_pile 0) tL) ++ (pic_Query g a_p1 p1)) [13, 14] [0, 1, 2, 3, 4, 5, 6, 7, 8, 9, 10, 11, 12] rfl rfl rfl (by decide) hP hD hS hA (va_runV (As := []) (rest := []) ⟨hx, hb, hml, hown, htb⟩ (c_Pile_pop l g F a_pile 40 pile pileL _ hr19 H.size) (cw_V htb mb_Pile_pop (htb _ L_Judge_63) rfl rfl ⟨Nat.le_of_ble_eq_true rfl, Nat.le_of_ble_eq_true rfl⟩) (pre_V (va_recv hK hP (ci := 0) (q0 := 13) rfl rfl) (pre_S [13, 14] rfl rfl hP hD hS hA hAA hG)) rfl rfl hl.1 rfl (lv_room (Nat.le_of_ble_eq_true rfl)) d_Judge_valueOf_134 ⟨Nat.zero_le _, Nat.zero_le _⟩) (fun H locs hP hD hS => ?_)
      have hP : va_P (gD g) vwCl ((pic_Judge g a_t (a_pile 0) tL) ++ (pic_Query g a_p1 p1) ++ (pic_Pile g a_pile 40 r19.2.1 r19.2.2)) H := hP.sub [0, 1, 2, 3, 4, 5, 6, 7, 8, 9, 10, 11, 12, 13, 14] rfl
      have hD : va_D A ((pic_Judge g a_t (a_pile 0) tL) ++ (pic_Query g a_p1 p1) ++ (pic_Pile g a_pile 40 r19.2.1 r19.2.2)) := hD.sub [0, 1, 2, 3, 4, 5, 6, 7, 8, 9, 10, 11, 12, 13, 14] rfl rfl
      cases h
      exact W.lret hx hb hr (fun t ht hW => ⟨⟨_, (), rfl, rfl, by rw [ht]; exact hP, hD⟩, hS.F ht⟩) hS.2.2 d_Judge_valueOf_137
    · replace h := (if_neg c18).symm.trans h
      refine lv_aload_n hx hb d_Judge_valueOf_29 rfl (lv_at hl 1 rfl) ?_
      refine lv_iload_n hx hb d_Judge_valueOf_30 rfl (lv_at hl 2 rfl) ?_
      obtain ⟨r20, hr20, h⟩ := Option.bind_eq_some_iff.mp h
      refine cl_Ir hP hS hA (va_runV (As := [.int x2]) (rest := []) ⟨hx, hb, hml, hown, htb⟩ (c_Query_entryAt l g F a_p1 p1 x2 _ hr20 H.size) (cw_V htb mb_Query_entryAt (htb _ L_Judge_55) rfl rfl ⟨Nat.le_of_ble_eq_true rfl, Nat.le_of_ble_eq_true rfl⟩) (pre_V (va_recv hK hP (ci := 1) (q0 := 2) rfl rfl) (pre_S [2, 3, 4, 5, 6, 7, 8, 9, 10, 11, 12] rfl rfl hP hD hS hA hAA hG)) rfl rfl hl.1 rfl (lv_room (Nat.le_of_ble_eq_true rfl)) d_Judge_valueOf_31 ⟨Nat.zero_le _, Nat.zero_le _⟩) (fun H locs hP hS => ?_)
      refine lv_istore_n (lv' := [(3, .int r20), (0, .ref (a_t 0)), (1, .ref (a_p1 0)), (2, .int x2)]) hx hb d_Judge_valueOf_34 rfl hl (by decide) rfl (fun ls hl => ?_)
      refine lv_iload_n hx hb d_Judge_valueOf_35 rfl (lv_at hl 0 rfl) ?_
      refine lv_if_lt (tgt := 68) hx hb d_Judge_valueOf_36 (by decide) (fun c21 => ?_) (fun c21 => ?_)
      · replace h := (if_pos c21).symm.trans h
        refine lv_iload_n hx hb d_Judge_valueOf_68 rfl (lv_at hl 0 rfl) ?_
        refine lv_bipush (v := -2) hx hb d_Judge_valueOf_69 (by decide) ?_
        refine lv_icmp_ne (tgt := 95) hx hb d_Judge_valueOf_71 (by decide) (fun c22 => ?_) (fun c22 => ?_)
        · replace h := (if_neg c22).symm.trans h
          refine lv_aload_n hx hb d_Judge_valueOf_95 rfl (lv_at hl 1 rfl) ?_
          refine va_get (D := gD g) (ci := 5) (v := .ref (a_pile 0)) (C := R_Judge) (T := T_Judge) (N := 2) hx hb htb in_Judge hown hK hP 0 rfl rfl 1 (by decide) (htb _ L_Judge_20) (fun _ h9 => h9) rfl d_Judge_valueOf_96 ?_
          obtain ⟨r23, hr23, h⟩ := Option.bind_eq_some_iff.mp h
          refine cl_L (wr := (pic_Judge g a_t (a_pile 0) tL) ++ (pic_Query g a_p1 p1)) [13, 14] [0, 1, 2, 3, 4, 5, 6, 7, 8, 9, 10, 11, 12] rfl rfl rfl (by decide) hP hD hS hA (va_runV (As := []) (rest := []) ⟨hx, hb, hml, hown, htb⟩ (c_Pile_pop l g F a_pile 40 pile pileL _ hr23 H.size) (cw_V htb mb_Pile_pop (htb _ L_Judge_63) rfl rfl ⟨Nat.le_of_ble_eq_true rfl, Nat.le_of_ble_eq_true rfl⟩) (pre_V (va_recv hK hP (ci := 0) (q0 := 13) rfl rfl) (pre_S [13, 14] rfl rfl hP hD hS hA hAA hG)) rfl rfl hl.1 rfl (lv_room (Nat.le_of_ble_eq_true rfl)) d_Judge_valueOf_99 ⟨Nat.zero_le _, Nat.zero_le _⟩) (fun H locs hP hD hS => ?_)
          have hP : va_P (gD g) vwCl ((pic_Judge g a_t (a_pile 0) tL) ++ (pic_Query g a_p1 p1) ++ (pic_Pile g a_pile 40 r23.2.1 r23.2.2)) H := hP.sub [0, 1, 2, 3, 4, 5, 6, 7, 8, 9, 10, 11, 12, 13, 14] rfl
          have hD : va_D A ((pic_Judge g a_t (a_pile 0) tL) ++ (pic_Query g a_p1 p1) ++ (pic_Pile g a_pile 40 r23.2.1 r23.2.2)) := hD.sub [0, 1, 2, 3, 4, 5, 6, 7, 8, 9, 10, 11, 12, 13, 14] rfl rfl
          refine lv_lstore (lv' := [(4, .long r23.1), (3, .int r20), (0, .ref (a_t 0)), (1, .ref (a_p1 0)), (2, .int x2)]) hx hb d_Judge_valueOf_102 hl (by decide) rfl (fun ls hl => ?_)
          refine lv_aload_n hx hb d_Judge_valueOf_104 rfl (lv_at hl 2 rfl) ?_
          refine va_get (D := gD g) (ci := 5) (v := .ref (a_pile 0)) (C := R_Judge) (T := T_Judge) (N := 2) hx hb htb in_Judge hown hK hP 0 rfl rfl 1 (by decide) (htb _ L_Judge_20) (fun _ h9 => h9) rfl d_Judge_valueOf_105 ?_
          refine lv_iload_n hx hb d_Judge_valueOf_108 rfl (lv_at hl 1 rfl) ?_
          refine lv_lload hx hb d_Judge_valueOf_109 (lv_at hl 0 rfl) ?_
          refine lv_aload_n hx hb d_Judge_valueOf_111 rfl (lv_at hl 2 rfl) ?_
          refine va_get (D := gD g) (ci := 5) (v := .ref (a_pile 0)) (C := R_Judge) (T := T_Judge) (N := 2) hx hb htb in_Judge hown hK hP 0 rfl rfl 1 (by decide) (htb _ L_Judge_20) (fun _ h9 => h9) rfl d_Judge_valueOf_112 ?_
          obtain ⟨r24, hr24, h⟩ := Option.bind_eq_some_iff.mp h
          refine cl_L (wr := (pic_Judge g a_t (a_pile 0) tL) ++ (pic_Query g a_p1 p1)) [13, 14] [0, 1, 2, 3, 4, 5, 6, 7, 8, 9, 10, 11, 12] rfl rfl rfl (by decide) hP hD hS hA (va_runV (As := []) (rest := [.long r23.1, .int r20, .ref (a_pile 0)]) ⟨hx, hb, hml, hown, htb⟩ (c_Pile_pop l g F a_pile 40 r23.2.1 r23.2.2 _ hr24 H.size) (cw_V htb mb_Pile_pop (htb _ L_Judge_63) rfl rfl ⟨Nat.le_of_ble_eq_true rfl, Nat.le_of_ble_eq_true rfl⟩) (pre_V (va_recv hK hP (ci := 0) (q0 := 13) rfl rfl) (pre_S [13, 14] rfl rfl hP hD hS hA hAA hG)) rfl rfl hl.1 rfl (lv_room (Nat.le_of_ble_eq_true rfl)) d_Judge_valueOf_115 ⟨Nat.zero_le _, Nat.zero_le _⟩) (fun H locs hP hD hS => ?_)
          have hP : va_P (gD g) vwCl ((pic_Judge g a_t (a_pile 0) tL) ++ (pic_Query g a_p1 p1) ++ (pic_Pile g a_pile 40 r24.2.1 r24.2.2)) H := hP.sub [0, 1, 2, 3, 4, 5, 6, 7, 8, 9, 10, 11, 12, 13, 14] rfl
          have hD : va_D A ((pic_Judge g a_t (a_pile 0) tL) ++ (pic_Query g a_p1 p1) ++ (pic_Pile g a_pile 40 r24.2.1 r24.2.2)) := hD.sub [0, 1, 2, 3, 4, 5, 6, 7, 8, 9, 10, 11, 12, 13, 14] rfl rfl
          obtain ⟨r25, hr25, h⟩ := Option.bind_eq_some_iff.mp h
          refine cl_Lr hP hS hA (va_runS (As := [.int r20, .long r23.1, .long r24.1]) (rest := [.ref (a_pile 0)]) ⟨hx, hb, hml, hown, htb⟩ (c_Judge_joined l g F r20 r23.1 r24.1 _ hr25 H.size) (cw_S htb mb_Judge_joined (htb _ L_Judge_67) rfl rfl ⟨Nat.le_of_ble_eq_true rfl, Nat.le_of_ble_eq_true rfl⟩) (pre_S [] rfl rfl hP hD hS hA hAA hG) rfl rfl hl.1 rfl (lv_room (Nat.le_of_ble_eq_true rfl)) d_Judge_valueOf_118 ⟨Nat.zero_le _, Nat.zero_le _⟩) (fun H locs hP hS => ?_)
          obtain ⟨r26, hr26, h⟩ := Option.bind_eq_some_iff.mp h
          refine cl_V (wr := (pic_Judge g a_t (a_pile 0) tL) ++ (pic_Query g a_p1 p1)) [13, 14] [0, 1, 2, 3, 4, 5, 6, 7, 8, 9, 10, 11, 12] rfl rfl rfl (by decide) hP hD hS hA (va_runV (As := [.long r25]) (rest := []) ⟨hx, hb, hml, hown, htb⟩ (c_Pile_push l g F a_pile 40 r24.2.1 r24.2.2 r25 _ hr26 H.size) (cw_V htb mb_Pile_push (htb _ L_Judge_59) rfl rfl ⟨Nat.le_of_ble_eq_true rfl, Nat.le_of_ble_eq_true rfl⟩) (pre_V (va_recv hK hP (ci := 0) (q0 := 13) rfl rfl) (pre_S [13, 14] rfl rfl hP hD hS hA hAA hG)) rfl rfl hl.1 rfl (lv_room (Nat.le_of_ble_eq_true rfl)) d_Judge_valueOf_121 ⟨Nat.zero_le _, Nat.zero_le _⟩) (fun H locs hP hD hS => ?_)
          have hP : va_P (gD g) vwCl ((pic_Judge g a_t (a_pile 0) tL) ++ (pic_Query g a_p1 p1) ++ (pic_Pile g a_pile 40 r26.1 r26.2)) H := hP.sub [0, 1, 2, 3, 4, 5, 6, 7, 8, 9, 10, 11, 12, 13, 14] rfl
          have hD : va_D A ((pic_Judge g a_t (a_pile 0) tL) ++ (pic_Query g a_p1 p1) ++ (pic_Pile g a_pile 40 r26.1 r26.2)) := hD.sub [0, 1, 2, 3, 4, 5, 6, 7, 8, 9, 10, 11, 12, 13, 14] rfl rfl
          exact k_Judge_valueOf_124 hC _ _ _ _ _ _ h (fun z0 z1 z2 z3 z4 hz => ih z0 z1 z2 z3 z4 _ hz) _ _ _ hP hD hS (lv_sub hl [2, 3, 4] rfl)
        · replace h := (if_pos c22).symm.trans h
          refine lv_aload_n hx hb d_Judge_valueOf_74 rfl (lv_at hl 1 rfl) ?_
          refine va_get (D := gD g) (ci := 5) (v := .ref (a_pile 0)) (C := R_Judge) (T := T_Judge) (N := 2) hx hb htb in_Judge hown hK hP 0 rfl rfl 1 (by decide) (htb _ L_Judge_20) (fun _ h9 => h9) rfl d_Judge_valueOf_75 ?_
          refine lv_aload_n hx hb d_Judge_valueOf_78 rfl (lv_at hl 1 rfl) ?_
          refine va_get (D := gD g) (ci := 5) (v := .ref (a_pile 0)) (C := R_Judge) (T := T_Judge) (N := 2) hx hb htb in_Judge hown hK hP 0 rfl rfl 1 (by decide) (htb _ L_Judge_20) (fun _ h9 => h9) rfl d_Judge_valueOf_79 ?_
          obtain ⟨r27, hr27, h⟩ := Option.bind_eq_some_iff.mp h
          refine cl_L (wr := (pic_Judge g a_t (a_pile 0) tL) ++ (pic_Query g a_p1 p1)) [13, 14] [0, 1, 2, 3, 4, 5, 6, 7, 8, 9, 10, 11, 12] rfl rfl rfl (by decide) hP hD hS hA (va_runV (As := []) (rest := [.ref (a_pile 0)]) ⟨hx, hb, hml, hown, htb⟩ (c_Pile_pop l g F a_pile 40 pile pileL _ hr27 H.size) (cw_V htb mb_Pile_pop (htb _ L_Judge_63) rfl rfl ⟨Nat.le_of_ble_eq_true rfl, Nat.le_of_ble_eq_true rfl⟩) (pre_V (va_recv hK hP (ci := 0) (q0 := 13) rfl rfl) (pre_S [13, 14] rfl rfl hP hD hS hA hAA hG)) rfl rfl hl.1 rfl (lv_room (Nat.le_of_ble_eq_true rfl)) d_Judge_valueOf_82 ⟨Nat.zero_le _, Nat.zero_le _⟩) (fun H locs hP hD hS => ?_)
          have hP : va_P (gD g) vwCl ((pic_Judge g a_t (a_pile 0) tL) ++ (pic_Query g a_p1 p1) ++ (pic_Pile g a_pile 40 r27.2.1 r27.2.2)) H := hP.sub [0, 1, 2, 3, 4, 5, 6, 7, 8, 9, 10, 11, 12, 13, 14] rfl
          have hD : va_D A ((pic_Judge g a_t (a_pile 0) tL) ++ (pic_Query g a_p1 p1) ++ (pic_Pile g a_pile 40 r27.2.1 r27.2.2)) := hD.sub [0, 1, 2, 3, 4, 5, 6, 7, 8, 9, 10, 11, 12, 13, 14] rfl rfl
          refine lv_ldc2 (v := -1) hx hb hown (htb _ K_Judge_34) d_Judge_valueOf_85 ?_
          refine lv_lxor hx hb d_Judge_valueOf_88 ?_
          obtain ⟨r28, hr28, h⟩ := Option.bind_eq_some_iff.mp h
          refine cl_V (wr := (pic_Judge g a_t (a_pile 0) tL) ++ (pic_Query g a_p1 p1)) [13, 14] [0, 1, 2, 3, 4, 5, 6, 7, 8, 9, 10, 11, 12] rfl rfl rfl (by decide) hP hD hS hA (va_runV (As := [.long (r27.1 ^^^ (-1 : Int64))]) (rest := []) ⟨hx, hb, hml, hown, htb⟩ (c_Pile_push l g F a_pile 40 r27.2.1 r27.2.2 (r27.1 ^^^ (-1 : Int64)) _ hr28 H.size) (cw_V htb mb_Pile_push (htb _ L_Judge_59) rfl rfl ⟨Nat.le_of_ble_eq_true rfl, Nat.le_of_ble_eq_true rfl⟩) (pre_V (va_recv hK hP (ci := 0) (q0 := 13) rfl rfl) (pre_S [13, 14] rfl rfl hP hD hS hA hAA hG)) rfl rfl hl.1 rfl (lv_room (Nat.le_of_ble_eq_true rfl)) d_Judge_valueOf_89 ⟨Nat.zero_le _, Nat.zero_le _⟩) (fun H locs hP hD hS => ?_)
          have hP : va_P (gD g) vwCl ((pic_Judge g a_t (a_pile 0) tL) ++ (pic_Query g a_p1 p1) ++ (pic_Pile g a_pile 40 r28.1 r28.2)) H := hP.sub [0, 1, 2, 3, 4, 5, 6, 7, 8, 9, 10, 11, 12, 13, 14] rfl
          have hD : va_D A ((pic_Judge g a_t (a_pile 0) tL) ++ (pic_Query g a_p1 p1) ++ (pic_Pile g a_pile 40 r28.1 r28.2)) := hD.sub [0, 1, 2, 3, 4, 5, 6, 7, 8, 9, 10, 11, 12, 13, 14] rfl rfl
          refine lv_goto (tgt := 124) hx hb d_Judge_valueOf_92 (by decide) ?_
          exact k_Judge_valueOf_124 hC _ _ _ _ _ _ h (fun z0 z1 z2 z3 z4 hz => ih z0 z1 z2 z3 z4 _ hz) _ _ _ hP hD hS (lv_sub hl [1, 2, 3] rfl)
      · replace h := (if_neg c21).symm.trans h
        refine lv_aload_n hx hb d_Judge_valueOf_39 rfl (lv_at hl 1 rfl) ?_
        refine va_get (D := gD g) (ci := 5) (v := .ref (a_pile 0)) (C := R_Judge) (T := T_Judge) (N := 2) hx hb htb in_Judge hown hK hP 0 rfl rfl 1 (by decide) (htb _ L_Judge_20) (fun _ h9 => h9) rfl d_Judge_valueOf_40 ?_
        refine lv_iload_n hx hb d_Judge_valueOf_43 rfl (lv_at hl 0 rfl) ?_
        refine lv_aload_n hx hb d_Judge_valueOf_44 rfl (lv_at hl 1 rfl) ?_
        refine va_get (D := gD g) (ci := 5) (v := .ref (a_t 1)) (C := R_Judge) (T := T_Judge) (N := 2) hx hb htb in_Judge hown hK hP 0 rfl rfl 0 (by decide) (htb _ L_Judge_9) (fun _ h9 => h9) rfl d_Judge_valueOf_45 ?_
        refine va_alen hx hb hK hP 1 3 rfl rfl rfl d_Judge_valueOf_48 ?_
        refine lv_icmp_ge (tgt := 61) hx hb d_Judge_valueOf_49 (by decide) (fun c29 => ?_) (fun c29 => ?_)
        · replace h := (if_pos c29).symm.trans h
          refine lv_lconst (v := 0) hx hb d_Judge_valueOf_61 (by decide) ?_
          exact k_Judge_valueOf_62 hC _ _ _ _ _ _ _ h (fun z0 z1 z2 z3 z4 hz => ih z0 z1 z2 z3 z4 _ hz) _ _ _ hP hD hS (lv_sub hl [1, 2, 3] rfl)
        · replace h := (if_neg c29).symm.trans h
          refine lv_aload_n hx hb d_Judge_valueOf_52 rfl (lv_at hl 1 rfl) ?_
          refine va_get (D := gD g) (ci := 5) (v := .ref (a_t 1)) (C := R_Judge) (T := T_Judge) (N := 2) hx hb htb in_Judge hown hK hP 0 rfl rfl 0 (by decide) (htb _ L_Judge_9) (fun _ h9 => h9) rfl d_Judge_valueOf_53 ?_
          refine lv_iload_n hx hb d_Judge_valueOf_56 rfl (lv_at hl 0 rfl) ?_
          by_cases c30 : (r20 < 0 ∨ 40 ≤ r20.toNatClampNeg)
          · replace h := (if_pos c30).symm.trans h
            cases h
          replace h := (if_neg c30).symm.trans h
          refine va_lald hx hb hK hP 1 3 rfl rfl c30 d_Judge_valueOf_57 ?_
          refine lv_goto (tgt := 62) hx hb d_Judge_valueOf_58 (by decide) ?_
          exact k_Judge_valueOf_62 hC _ _ _ _ _ _ _ h (fun z0 z1 z2 z3 z4 hz => ih z0 z1 z2 z3 z4 _ hz) _ _ _ hP hD hS (lv_sub hl [1, 2, 3] rfl)
set_option maxHeartbeats 4000000 in
set_option maxRecDepth 100000 in
theorem k_Judge_valueOf {p : Program} {l : Launch} {e : Env} {s : State} {m : MethodId} {args : Array Value} {below : List Frame} {meth : Method} {c : Code} {g : Gz} {A : Nat → Prop} {F : Nat} {a_t a_p1 a_pile : Nat → Nat} (hC : Cx prog_2_method_5_code 6 (some .long) R_Judge p s m args meth c g A A) : ∀ (tL : StL) (p1 : StI) (pile : StI) (pileL : StL) (res : Int64 × StI × StL), Judge_valueOf F tL p1 pile pileL = some res → Go p l e rm_Judge_valueOf s m args below meth c g A A 6 (MQ below (EL g ((pic_Judge g a_t (a_pile 0) tL) ++ (pic_Query g a_p1 p1) ++ (pic_Pile g a_pile 40 res.2.1 res.2.2)) res.1 A) args s 0 0 A) ((pic_Judge g a_t (a_pile 0) tL) ++ (pic_Query g a_p1 p1) ++ (pic_Pile g a_pile 40 pile pileL)) [(0, .ref (a_t 0)), (1, .ref (a_p1 0))] 0 [] := by
  obtain ⟨hx, hb, hr, hml, hown, htb, hlocks, hA, hAA, hG⟩ := id hC
  have hK := hG.1
  intro tL p1 pile pileL res h H locs ls hP hD hS hl
  rw [Judge_valueOf] at h
  refine lv_aload_n hx hb d_Judge_valueOf_0 rfl (lv_at hl 1 rfl) ?_
  refine va_getN (D := gD g) (ci := 1) (v := .int (p1 13 0)) (C := R_Query) (T := T_Query) (N := 14) hx hb htb in_Query hown hK hP 2 rfl rfl 13 (by decide) (nf_of hG N_Judge_49) (fun _ h9 => h9) rfl d_Judge_valueOf_1 ?_
  refine lv_if_ne (tgt := 11) hx hb d_Judge_valueOf_4 (by decide) (fun c31 => ?_) (fun c31 => ?_)
  · replace h := (if_neg c31).symm.trans h
    refine lv_aload_n hx hb d_Judge_valueOf_11 rfl (lv_at hl 0 rfl) ?_
    refine va_get (D := gD g) (ci := 5) (v := .ref (a_pile 0)) (C := R_Judge) (T := T_Judge) (N := 2) hx hb htb in_Judge hown hK hP 0 rfl rfl 1 (by decide) (htb _ L_Judge_20) (fun _ h9 => h9) rfl d_Judge_valueOf_12 ?_
    obtain ⟨r32, hr32, h⟩ := Option.bind_eq_some_iff.mp h
    refine cl_V (wr := (pic_Judge g a_t (a_pile 0) tL) ++ (pic_Query g a_p1 p1)) [13, 14] [0, 1, 2, 3, 4, 5, 6, 7, 8, 9, 10, 11, 12] rfl rfl rfl (by decide) hP hD hS hA (va_runV (As := []) (rest := []) ⟨hx, hb, hml, hown, htb⟩ (c_Pile_clear l g F a_pile 40 pile pileL _ hr32 H.size) (cw_V htb mb_Pile_clear (htb _ L_Judge_52) rfl rfl ⟨Nat.le_of_ble_eq_true rfl, Nat.le_of_ble_eq_true rfl⟩) (pre_V (va_recv hK hP (ci := 0) (q0 := 13) rfl rfl) (pre_S [13, 14] rfl rfl hP hD hS hA hAA hG)) rfl rfl hl.1 rfl (lv_room (Nat.le_of_ble_eq_true rfl)) d_Judge_valueOf_15 ⟨Nat.zero_le _, Nat.zero_le _⟩) (fun H locs hP hD hS => ?_)
    have hP : va_P (gD g) vwCl ((pic_Judge g a_t (a_pile 0) tL) ++ (pic_Query g a_p1 p1) ++ (pic_Pile g a_pile 40 r32.1 r32.2)) H := hP.sub [0, 1, 2, 3, 4, 5, 6, 7, 8, 9, 10, 11, 12, 13, 14] rfl
    have hD : va_D A ((pic_Judge g a_t (a_pile 0) tL) ++ (pic_Query g a_p1 p1) ++ (pic_Pile g a_pile 40 r32.1 r32.2)) := hD.sub [0, 1, 2, 3, 4, 5, 6, 7, 8, 9, 10, 11, 12, 13, 14] rfl rfl
    refine lv_aload_n hx hb d_Judge_valueOf_18 rfl (lv_at hl 1 rfl) ?_
    refine va_getN (D := gD g) (ci := 1) (v := .int (p1 13 0)) (C := R_Query) (T := T_Query) (N := 14) hx hb htb in_Query hown hK hP 2 rfl rfl 13 (by decide) (nf_of hG N_Judge_49) (fun _ h9 => h9) rfl d_Judge_valueOf_19 ?_
    refine lv_iconst (v := 1) hx hb d_Judge_valueOf_22 (by decide) ?_
    refine lv_isub hx hb d_Judge_valueOf_23 ?_
    refine lv_istore_n (lv' := [(2, .int ((p1 13 0) - (1 : Int32))), (0, .ref (a_t 0)), (1, .ref (a_p1 0))]) hx hb d_Judge_valueOf_24 rfl hl (by decide) rfl (fun ls hl => ?_)
    exact k_Judge_valueOf_25 hC F _ _ _ _ _ _ h _ _ _ hP hD hS (lv_sub hl [1, 2, 0] rfl)
  · replace h := (if_pos c31).symm.trans h
    refine lv_ldc2 (v := -1) hx hb hown (htb _ K_Judge_34) d_Judge_valueOf_7 ?_
    cases h
    exact W.lret hx hb hr (fun t ht hW => ⟨⟨_, (), rfl, rfl, by rw [ht]; exact hP, hD⟩, hS.F ht⟩) hS.2.2 d_Judge_valueOf_10
theorem c_Judge_valueOf (l : Launch) (g : Gz) (F : Nat) (a_t : Nat → Nat) (a_p1 : Nat → Nat) (a_pile : Nat → Nat) (tL : StL) (p1 : StI) (pile : StI) (pileL : StL) (res : Int64 × StI × StL) (h : Judge_valueOf F tL p1 pile pileL = some res) : ∀ sz : Nat, Met l y_Judge_valueOf (.code y_Judge_valueOf prog_2_method_5_code 6 (some .long) :: TBL) rm_Judge_valueOf (va_Pc [.ref (a_t 0), .ref (a_p1 0)] (Pre0 g ((pic_Judge g a_t (a_pile 0) tL) ++ (pic_Query g a_p1 p1) ++ (pic_Pile g a_pile 40 pile pileL)) sz)) (EL g ((pic_Judge g a_t (a_pile 0) tL) ++ (pic_Query g a_p1 p1) ++ (pic_Pile g a_pile 40 res.2.1 res.2.2)) res.1 (va_A ((pic_Judge g a_t (a_pile 0) tL) ++ (pic_Query g a_p1 p1) ++ (pic_Pile g a_pile 40 pile pileL)) sz)) 0 0 (va_A ((pic_Judge g a_t (a_pile 0) tL) ++ (pic_Query g a_p1 p1) ++ (pic_Pile g a_pile 40 pile pileL)) sz) :=
  ct_w (Qc := fun A => EL g ((pic_Judge g a_t (a_pile 0) tL) ++ (pic_Query g a_p1 p1) ++ (pic_Pile g a_pile 40 res.2.1 res.2.2)) res.1 A) (by decide) (Nat.le_of_ble_eq_true rfl) (fun p e s m args below meth c A hC => k_Judge_valueOf hC tL p1 pile pileL res h)
def Judge_setValues_49 (F : Nat) (k2 : StL → Int32 → Int32 → Int32 → Option (StL)) (tL : StL) (x1 : Int32) (x2 : Int32) (x3 : Int32) (y0 : Int64) (y1 : Int32) : Option (StL) := if y1 < 0 ∨ 40 ≤ y1.toNatClampNeg then none else letS (va_up tL 0 (vp_updL (tL 0) y1.toNatClampNeg y0)) fun t_7 => k2 t_7 x1 x2 (x3 + (1 : Int32))
def Judge_setValues_2 (F : Nat) : Nat → StL → Int32 → Int32 → Int32 → Option (StL)
  | 0, _, _, _, _ => none
  | n + 1, tL, x1, x2, x3 => if x1 ≤ x3 then some tL else if (40 : Int32) ≤ x3 then some tL else if (6 : Int32) ≤ x3 then Judge_setValues_49 F (Judge_setValues_2 F n) tL x1 x2 x3 (-(((x2.toUInt32 >>> ((x3 - (6 : Int32)).toUInt32 &&& Int32.toUInt32 31)).toInt32).toInt64 &&& (1 : Int64))) x3 else if x3 < 0 ∨ 6 ≤ x3.toNatClampNeg then none else Judge_setValues_49 F (Judge_setValues_2 F n) tL x1 x2 x3 ((tabPATT) x3.toNatClampNeg) x3
def Judge_setValues (F : Nat) (tL : StL) (x1 : Int32) (x2 : Int32) : Option (StL) := Judge_setValues_2 F F tL x1 x2 (0 : Int32)
set_option maxHeartbeats 4000000 in
set_option maxRecDepth 100000 in
theorem k_Judge_setValues_49 {p : Program} {l : Launch} {e : Env} {s : State} {m : MethodId} {args : Array Value} {below : List Frame} {meth : Method} {c : Code} {g : Gz} {A : Nat → Prop} {F : Nat} {a_t : Nat → Nat} {r_pile : Nat} {k2 : StL → Int32 → Int32 → Int32 → Option (StL)} (hC : Cx prog_2_method_4_code 4 none R_Judge p s m args meth c g A A) : ∀ (tL : StL) (x1 : Int32) (x2 : Int32) (x3 : Int32) (y0 : Int64) (y1 : Int32) (res : StL), Judge_setValues_49 F k2 tL x1 x2 x3 y0 y1 = some res → (∀ (tL : StL) (x1 : Int32) (x2 : Int32) (x3 : Int32), k2 tL x1 x2 x3 = some res → Go p l e rm_Judge_setValues s m args below meth c g A A 4 (MQ below (EV g ((pic_Judge g a_t r_pile res)) A) args s 0 0 A) ((pic_Judge g a_t r_pile tL)) [(0, .ref (a_t 0)), (1, .int x1), (2, .int x2), (3, .int x3)] 2 []) → Go p l e rm_Judge_setValues s m args below meth c g A A 4 (MQ below (EV g ((pic_Judge g a_t r_pile res)) A) args s 0 0 A) ((pic_Judge g a_t r_pile tL)) [(0, .ref (a_t 0)), (1, .int x1), (2, .int x2), (3, .int x3)] 49 [.long y0, .int y1, .ref (a_t 1)] := by
  obtain ⟨hx, hb, hr, hml, hown, htb, hlocks, hA, hAA, hG⟩ := id hC
  have hK := hG.1
  intro tL x1 x2 x3 y0 y1 res h hk2 H locs ls hP hD hS hl
  rw [Judge_setValues_49] at h
  by_cases c8 : (y1 < 0 ∨ 40 ≤ y1.toNatClampNeg)
  · replace h := (if_pos c8).symm.trans h
    cases h
  replace h := (if_neg c8).symm.trans h
  refine va_last hx hb hK hP hD hS 1 3 rfl rfl c8 d_Judge_setValues_49 (fun H locs hP hD hS => ?_)
  obtain ⟨t_7, et_7, h⟩ := letS_el h
  have hP : va_P (gD g) vwCl ((pic_Judge g a_t r_pile t_7)) H := by rw [et_7]; exact hP
  have hD : va_D A ((pic_Judge g a_t r_pile t_7)) := by rw [et_7]; exact hD
  refine lv_iinc (v := (x3 + (1 : Int32))) (lv' := [(3, .int (x3 + (1 : Int32))), (0, .ref (a_t 0)), (1, .int x1), (2, .int x2)]) hx hb d_Judge_setValues_50 hl (k := 3) rfl rfl (by decide) rfl (fun ls hl => ?_)
  refine lv_goto (tgt := 2) hx hb d_Judge_setValues_53 (by decide) ?_
  exact hk2 _ _ _ _ h _ _ _ hP hD hS (lv_sub hl [1, 2, 3, 0] rfl)
set_option maxHeartbeats 4000000 in
set_option maxRecDepth 100000 in
theorem k_Judge_setValues_2 {p : Program} {l : Launch} {e : Env} {s : State} {m : MethodId} {args : Array Value} {below : List Frame} {meth : Method} {c : Code} {g : Gz} {A : Nat → Prop} {F : Nat} {a_t : Nat → Nat} {r_pile : Nat} (hC : Cx prog_2_method_4_code 4 none R_Judge p s m args meth c g A A) : ∀ (n : Nat) (tL : StL) (x1 : Int32) (x2 : Int32) (x3 : Int32) (res : StL), Judge_setValues_2 F n tL x1 x2 x3 = some res → Go p l e rm_Judge_setValues s m args below meth c g A A 4 (MQ below (EV g ((pic_Judge g a_t r_pile res)) A) args s 0 0 A) ((pic_Judge g a_t r_pile tL)) [(0, .ref (a_t 0)), (1, .int x1), (2, .int x2), (3, .int x3)] 2 [] := by
  obtain ⟨hx, hb, hr, hml, hown, htb, hlocks, hA, hAA, hG⟩ := id hC
  have hK := hG.1
  intro n
  induction n with
  | zero => intro tL x1 x2 x3 res h; rw [Judge_setValues_2] at h; cases h
  | succ n ih =>
    intro tL x1 x2 x3 res h H locs ls hP hD hS hl
    rw [Judge_setValues_2] at h
    refine lv_iload_n hx hb d_Judge_setValues_2 rfl (lv_at hl 3 rfl) ?_
    refine lv_iload_n hx hb d_Judge_setValues_3 rfl (lv_at hl 1 rfl) ?_
    refine lv_icmp_ge (tgt := 56) hx hb d_Judge_setValues_4 (by decide) (fun c9 => ?_) (fun c9 => ?_)
    · replace h := (if_pos c9).symm.trans h
      cases h
      exact W.vret hx hb hr (fun t ht hW => ⟨⟨(), rfl, trivial, by rw [ht]; exact hP, hD⟩, hS.F ht⟩) hS.2.2 d_Judge_setValues_56
    · replace h := (if_neg c9).symm.trans h
      refine lv_iload_n hx hb d_Judge_setValues_7 rfl (lv_at hl 3 rfl) ?_
      refine lv_aload_n hx hb d_Judge_setValues_8 rfl (lv_at hl 0 rfl) ?_
      refine va_get (D := gD g) (ci := 5) (v := .ref (a_t 1)) (C := R_Judge) (T := T_Judge) (N := 2) hx hb htb in_Judge hown hK hP 0 rfl rfl 0 (by decide) (htb _ L_Judge_9) (fun _ h9 => h9) rfl d_Judge_setValues_9 ?_
      refine va_alen hx hb hK hP 1 3 rfl rfl rfl d_Judge_setValues_12 ?_
      refine lv_icmp_ge (tgt := 56) hx hb d_Judge_setValues_13 (by decide) (fun c10 => ?_) (fun c10 => ?_)
      · replace h := (if_pos c10).symm.trans h
        cases h
        exact W.vret hx hb hr (fun t ht hW => ⟨⟨(), rfl, trivial, by rw [ht]; exact hP, hD⟩, hS.F ht⟩) hS.2.2 d_Judge_setValues_56
      · replace h := (if_neg c10).symm.trans h
        refine lv_aload_n hx hb d_Judge_setValues_16 rfl (lv_at hl 0 rfl) ?_
        refine va_get (D := gD g) (ci := 5) (v := .ref (a_t 1)) (C := R_Judge) (T := T_Judge) (N := 2) hx hb htb in_Judge hown hK hP 0 rfl rfl 0 (by decide) (htb _ L_Judge_9) (fun _ h9 => h9) rfl d_Judge_setValues_17 ?_
        refine lv_iload_n hx hb d_Judge_setValues_20 rfl (lv_at hl 3 rfl) ?_
        refine lv_iload_n hx hb d_Judge_setValues_21 rfl (lv_at hl 3 rfl) ?_
        refine va_gets hx hb (tz_of hG hAA M_tab_PATT) hS hown (htb _ L_Judge_46) (fun _ h9 => h9) d_Judge_setValues_22 ?_
        refine va_tlen hx hb (tt_of hG hAA M_tab_PATT) hS rfl d_Judge_setValues_25 ?_
        refine lv_icmp_ge (tgt := 37) hx hb d_Judge_setValues_26 (by decide) (fun c11 => ?_) (fun c11 => ?_)
        · replace h := (if_pos c11).symm.trans h
          refine lv_iload_n hx hb d_Judge_setValues_37 rfl (lv_at hl 2 rfl) ?_
          refine lv_iload_n hx hb d_Judge_setValues_38 rfl (lv_at hl 3 rfl) ?_
          refine va_gets hx hb (tz_of hG hAA M_tab_PATT) hS hown (htb _ L_Judge_46) (fun _ h9 => h9) d_Judge_setValues_39 ?_
          refine va_tlen hx hb (tt_of hG hAA M_tab_PATT) hS rfl d_Judge_setValues_42 ?_
          refine lv_isub hx hb d_Judge_setValues_43 ?_
          refine lv_iushr hx hb d_Judge_setValues_44 rfl ?_
          refine lv_i2l hx hb d_Judge_setValues_45 rfl ?_
          refine lv_lconst (v := 1) hx hb d_Judge_setValues_46 (by decide) ?_
          refine lv_land hx hb d_Judge_setValues_47 ?_
          refine lv_lneg hx hb d_Judge_setValues_48 ?_
          exact k_Judge_setValues_49 hC _ _ _ _ _ _ _ h (fun z0 z1 z2 z3 hz => ih z0 z1 z2 z3 _ hz) _ _ _ hP hD hS (lv_sub hl [0, 1, 2, 3] rfl)
        · replace h := (if_neg c11).symm.trans h
          refine va_gets hx hb (tz_of hG hAA M_tab_PATT) hS hown (htb _ L_Judge_46) (fun _ h9 => h9) d_Judge_setValues_29 ?_
          refine lv_iload_n hx hb d_Judge_setValues_32 rfl (lv_at hl 3 rfl) ?_
          by_cases c12 : (x3 < 0 ∨ 6 ≤ x3.toNatClampNeg)
          · replace h := (if_pos c12).symm.trans h
            cases h
          replace h := (if_neg c12).symm.trans h
          refine va_tl hx hb (tt_of hG hAA M_tab_PATT) hS c12 rfl d_Judge_setValues_33 ?_
          refine lv_goto (tgt := 49) hx hb d_Judge_setValues_34 (by decide) ?_
          exact k_Judge_setValues_49 hC _ _ _ _ _ _ _ h (fun z0 z1 z2 z3 hz => ih z0 z1 z2 z3 _ hz) _ _ _ hP hD hS (lv_sub hl [0, 1, 2, 3] rfl)
set_option maxHeartbeats 4000000 in
set_option maxRecDepth 100000 in
theorem k_Judge_setValues {p : Program} {l : Launch} {e : Env} {s : State} {m : MethodId} {args : Array Value} {below : List Frame} {meth : Method} {c : Code} {g : Gz} {A : Nat → Prop} {F : Nat} {a_t : Nat → Nat} {r_pile : Nat} (hC : Cx prog_2_method_4_code 4 none R_Judge p s m args meth c g A A) : ∀ (tL : StL) (x1 : Int32) (x2 : Int32) (res : StL), Judge_setValues F tL x1 x2 = some res → Go p l e rm_Judge_setValues s m args below meth c g A A 4 (MQ below (EV g ((pic_Judge g a_t r_pile res)) A) args s 0 0 A) ((pic_Judge g a_t r_pile tL)) [(0, .ref (a_t 0)), (1, .int x1), (2, .int x2)] 0 [] := by
  obtain ⟨hx, hb, hr, hml, hown, htb, hlocks, hA, hAA, hG⟩ := id hC
  have hK := hG.1
  intro tL x1 x2 res h H locs ls hP hD hS hl
  rw [Judge_setValues] at h
  refine lv_iconst (v := 0) hx hb d_Judge_setValues_0 (by decide) ?_
  refine lv_istore_n (lv' := [(3, .int (0 : Int32)), (0, .ref (a_t 0)), (1, .int x1), (2, .int x2)]) hx hb d_Judge_setValues_1 rfl hl (by decide) rfl (fun ls hl => ?_)
  exact k_Judge_setValues_2 hC F _ _ _ _ _ h _ _ _ hP hD hS (lv_sub hl [1, 2, 3, 0] rfl)
theorem c_Judge_setValues (l : Launch) (g : Gz) (F : Nat) (a_t : Nat → Nat) (r_pile : Nat) (tL : StL) (x1 : Int32) (x2 : Int32) (res : StL) (h : Judge_setValues F tL x1 x2 = some res) : ∀ sz : Nat, Met l y_Judge_setValues (.code y_Judge_setValues prog_2_method_4_code 4 none :: TBL) rm_Judge_setValues (va_Pc [.ref (a_t 0), .int x1, .int x2] (Pre0 g ((pic_Judge g a_t r_pile tL)) sz)) (EV g ((pic_Judge g a_t r_pile res)) (va_A ((pic_Judge g a_t r_pile tL)) sz)) 0 0 (va_A ((pic_Judge g a_t r_pile tL)) sz) :=
  ct_w (Qc := fun A => EV g ((pic_Judge g a_t r_pile res)) A) (by decide) (Nat.le_of_ble_eq_true rfl) (fun p e s m args below meth c A hC => k_Judge_setValues hC tL x1 x2 res h)
def Judge_accepts_3 (F : Nat) : Nat → StL → StI → StI → StL → Int64 → Int32 → Option (Int32 × StL × StI × StL)
  | 0, _, _, _, _, _, _ => none
  | n + 1, tL, p1, pile, pileL, x2, x4 => if (40 : Int32) ≤ x4 then (Judge_valueOf F tL p1 pile pileL).bind fun r7 => if (lg_cmp (r7.1 &&& (1 : Int64)) (0 : Int64)) = 0 then some ((0 : Int32), tL, r7.2.1, r7.2.2) else some ((1 : Int32), tL, r7.2.1, r7.2.2) else if x4 < 0 ∨ 40 ≤ x4.toNatClampNeg then none else letS (va_up tL 0 (vp_updL (tL 0) x4.toNatClampNeg (-((x2.toUInt64 >>> (x4.toInt64.toUInt64 &&& Int64.toUInt64 63)).toInt64 &&& (1 : Int64))))) fun t_9 => Judge_accepts_3 F n t_9 p1 pile pileL x2 (x4 + (1 : Int32))
def Judge_accepts (F : Nat) (tL : StL) (p1 : StI) (pile : StI) (pileL : StL) (x2 : Int64) : Option (Int32 × StL × StI × StL) := Judge_accepts_3 F F tL p1 pile pileL x2 (0 : Int32)
set_option maxHeartbeats 4000000 in
set_option maxRecDepth 100000 in
theorem k_Judge_accepts_3 {p : Program} {l : Launch} {e : Env} {s : State} {m : MethodId} {args : Array Value} {below : List Frame} {meth : Method} {c : Code} {g : Gz} {A : Nat → Prop} {F : Nat} {a_t a_p1 a_pile : Nat → Nat} (hC : Cx prog_2_method_2_code 5 (some .boolean) R_Judge p s m args meth c g A A) : ∀ (n : Nat) (tL : StL) (p1 : StI) (pile : StI) (pileL : StL) (x2 : Int64) (x4 : Int32) (res : Int32 × StL × StI × StL), Judge_accepts_3 F n tL p1 pile pileL x2 x4 = some res → Go p l e rm_Judge_accepts s m args below meth c g A A 5 (MQ below (EI g ((pic_Judge g a_t (a_pile 0) res.2.1) ++ (pic_Query g a_p1 p1) ++ (pic_Pile g a_pile 40 res.2.2.1 res.2.2.2)) res.1 A) args s 0 0 A) ((pic_Judge g a_t (a_pile 0) tL) ++ (pic_Query g a_p1 p1) ++ (pic_Pile g a_pile 40 pile pileL)) [(0, .ref (a_t 0)), (1, .ref (a_p1 0)), (2, .long x2), (4, .int x4)] 3 [] := by
  obtain ⟨hx, hb, hr, hml, hown, htb, hlocks, hA, hAA, hG⟩ := id hC
  have hK := hG.1
  intro n
  induction n with
  | zero => intro tL p1 pile pileL x2 x4 res h; rw [Judge_accepts_3] at h; cases h
  | succ n ih =>
    intro tL p1 pile pileL x2 x4 res h H locs ls hP hD hS hl
    rw [Judge_accepts_3] at h
    refine lv_iload hx hb d_Judge_accepts_3 (lv_at hl 3 rfl) ?_
    refine lv_aload_n hx hb d_Judge_accepts_5 rfl (lv_at hl 0 rfl) ?_
    refine va_get (D := gD g) (ci := 5) (v := .ref (a_t 1)) (C := R_Judge) (T := T_Judge) (N := 2) hx hb htb in_Judge hown hK hP 0 rfl rfl 0 (by decide) (htb _ L_Judge_9) (fun _ h9 => h9) rfl d_Judge_accepts_6 ?_
    refine va_alen hx hb hK hP 1 3 rfl rfl rfl d_Judge_accepts_9 ?_
    refine lv_icmp_ge (tgt := 33) hx hb d_Judge_accepts_10 (by decide) (fun c6 => ?_) (fun c6 => ?_)
    · replace h := (if_pos c6).symm.trans h
      refine lv_aload_n hx hb d_Judge_accepts_33 rfl (lv_at hl 0 rfl) ?_
      refine lv_aload_n hx hb d_Judge_accepts_34 rfl (lv_at hl 1 rfl) ?_
      obtain ⟨r7, hr7, h⟩ := Option.bind_eq_some_iff.mp h
      refine cl_L (wr := []) [0, 1, 2, 3, 4, 5, 6, 7, 8, 9, 10, 11, 12, 13, 14] [] rfl rfl rfl (by decide) hP hD hS hA (va_runV (As := [.ref (a_p1 0)]) (rest := []) ⟨hx, hb, hml, hown, htb⟩ (c_Judge_valueOf l g F a_t a_p1 a_pile tL p1 pile pileL _ hr7 H.size) (cw_V htb mb_Judge_valueOf (htb _ L_Judge_24) rfl rfl ⟨Nat.le_of_ble_eq_true rfl, Nat.le_of_ble_eq_true rfl⟩) (pre_V (va_recv hK hP (ci := 5) (q0 := 0) rfl rfl) (pre_S [0, 1, 2, 3, 4, 5, 6, 7, 8, 9, 10, 11, 12, 13, 14] rfl rfl hP hD hS hA hAA hG)) rfl rfl hl.1 rfl (lv_room (Nat.le_of_ble_eq_true rfl)) d_Judge_accepts_35 ⟨Nat.zero_le _, Nat.zero_le _⟩) (fun H locs hP hD hS => ?_)
      have hP : va_P (gD g) vwCl ((pic_Judge g a_t (a_pile 0) tL) ++ (pic_Query g a_p1 p1) ++ (pic_Pile g a_pile 40 r7.2.1 r7.2.2)) H := hP.sub [0, 1, 2, 3, 4, 5, 6, 7, 8, 9, 10, 11, 12, 13, 14] rfl
      have hD : va_D A ((pic_Judge g a_t (a_pile 0) tL) ++ (pic_Query g a_p1 p1) ++ (pic_Pile g a_pile 40 r7.2.1 r7.2.2)) := hD.sub [0, 1, 2, 3, 4, 5, 6, 7, 8, 9, 10, 11, 12, 13, 14] rfl rfl
      refine lv_lconst (v := 1) hx hb d_Judge_accepts_38 (by decide) ?_
      refine lv_land hx hb d_Judge_accepts_39 ?_
      refine lv_lconst (v := 0) hx hb d_Judge_accepts_40 (by decide) ?_
      refine W.lcmp hx hb d_Judge_accepts_41 ?_
      refine lv_if_eq (tgt := 49) hx hb d_Judge_accepts_42 (by decide) (fun c8 => ?_) (fun c8 => ?_)
      · replace h := (if_pos c8).symm.trans h
        refine lv_iconst (v := 0) hx hb d_Judge_accepts_49 (by decide) ?_
        cases h
        exact W.zret hx hb hr rfl (fun t ht hW => ⟨⟨_, (), rfl, rfl, by rw [ht]; exact hP, hD⟩, hS.F ht⟩) hS.2.2 d_Judge_accepts_50
      · replace h := (if_neg c8).symm.trans h
        refine lv_iconst (v := 1) hx hb d_Judge_accepts_45 (by decide) ?_
        refine lv_goto (tgt := 50) hx hb d_Judge_accepts_46 (by decide) ?_
        cases h
        exact W.zret hx hb hr rfl (fun t ht hW => ⟨⟨_, (), rfl, rfl, by rw [ht]; exact hP, hD⟩, hS.F ht⟩) hS.2.2 d_Judge_accepts_50
    · replace h := (if_neg c6).symm.trans h
      refine lv_aload_n hx hb d_Judge_accepts_13 rfl (lv_at hl 0 rfl) ?_
      refine va_get (D := gD g) (ci := 5) (v := .ref (a_t 1)) (C := R_Judge) (T := T_Judge) (N := 2) hx hb htb in_Judge hown hK hP 0 rfl rfl 0 (by decide) (htb _ L_Judge_9) (fun _ h9 => h9) rfl d_Judge_accepts_14 ?_
      refine lv_iload hx hb d_Judge_accepts_17 (lv_at hl 3 rfl) ?_
      refine lv_lload_n hx hb d_Judge_accepts_19 rfl (lv_at hl 2 rfl) ?_
      refine lv_iload hx hb d_Judge_accepts_20 (lv_at hl 3 rfl) ?_
      refine lv_lushr hx hb d_Judge_accepts_22 rfl ?_
      refine lv_lconst (v := 1) hx hb d_Judge_accepts_23 (by decide) ?_
      refine lv_land hx hb d_Judge_accepts_24 ?_
      refine lv_lneg hx hb d_Judge_accepts_25 ?_
      by_cases c10 : (x4 < 0 ∨ 40 ≤ x4.toNatClampNeg)
      · replace h := (if_pos c10).symm.trans h
        cases h
      replace h := (if_neg c10).symm.trans h
      refine va_last hx hb hK hP hD hS 1 3 rfl rfl c10 d_Judge_accepts_26 (fun H locs hP hD hS => ?_)
      obtain ⟨t_9, et_9, h⟩ := letS_el h
      have hP : va_P (gD g) vwCl ((pic_Judge g a_t (a_pile 0) t_9) ++ (pic_Query g a_p1 p1) ++ (pic_Pile g a_pile 40 pile pileL)) H := by rw [et_9]; exact hP
      have hD : va_D A ((pic_Judge g a_t (a_pile 0) t_9) ++ (pic_Query g a_p1 p1) ++ (pic_Pile g a_pile 40 pile pileL)) := by rw [et_9]; exact hD
      refine lv_iinc (v := (x4 + (1 : Int32))) (lv' := [(4, .int (x4 + (1 : Int32))), (0, .ref (a_t 0)), (1, .ref (a_p1 0)), (2, .long x2)]) hx hb d_Judge_accepts_27 hl (k := 3) rfl rfl (by decide) rfl (fun ls hl => ?_)
      refine lv_goto (tgt := 3) hx hb d_Judge_accepts_30 (by decide) ?_
      exact ih _ _ _ _ _ _ _ h _ _ _ hP hD hS (lv_sub hl [1, 2, 3, 0] rfl)
set_option maxHeartbeats 4000000 in
set_option maxRecDepth 100000 in
theorem k_Judge_accepts {p : Program} {l : Launch} {e : Env} {s : State} {m : MethodId} {args : Array Value} {below : List Frame} {meth : Method} {c : Code} {g : Gz} {A : Nat → Prop} {F : Nat} {a_t a_p1 a_pile : Nat → Nat} (hC : Cx prog_2_method_2_code 5 (some .boolean) R_Judge p s m args meth c g A A) : ∀ (tL : StL) (p1 : StI) (pile : StI) (pileL : StL) (x2 : Int64) (res : Int32 × StL × StI × StL), Judge_accepts F tL p1 pile pileL x2 = some res → Go p l e rm_Judge_accepts s m args below meth c g A A 5 (MQ below (EI g ((pic_Judge g a_t (a_pile 0) res.2.1) ++ (pic_Query g a_p1 p1) ++ (pic_Pile g a_pile 40 res.2.2.1 res.2.2.2)) res.1 A) args s 0 0 A) ((pic_Judge g a_t (a_pile 0) tL) ++ (pic_Query g a_p1 p1) ++ (pic_Pile g a_pile 40 pile pileL)) [(0, .ref (a_t 0)), (1, .ref (a_p1 0)), (2, .long x2)] 0 [] := by
  obtain ⟨hx, hb, hr, hml, hown, htb, hlocks, hA, hAA, hG⟩ := id hC
  have hK := hG.1
  intro tL p1 pile pileL x2 res h H locs ls hP hD hS hl
  rw [Judge_accepts] at h
  refine lv_iconst (v := 0) hx hb d_Judge_accepts_0 (by decide) ?_
  refine lv_istore (lv' := [(4, .int (0 : Int32)), (0, .ref (a_t 0)), (1, .ref (a_p1 0)), (2, .long x2)]) hx hb d_Judge_accepts_1 hl (by decide) rfl (fun ls hl => ?_)
  exact k_Judge_accepts_3 hC F _ _ _ _ _ _ _ h _ _ _ hP hD hS (lv_sub hl [1, 2, 3, 0] rfl)
theorem c_Judge_accepts (l : Launch) (g : Gz) (F : Nat) (a_t : Nat → Nat) (a_p1 : Nat → Nat) (a_pile : Nat → Nat) (tL : StL) (p1 : StI) (pile : StI) (pileL : StL) (x2 : Int64) (res : Int32 × StL × StI × StL) (h : Judge_accepts F tL p1 pile pileL x2 = some res) : ∀ sz : Nat, Met l y_Judge_accepts (.code y_Judge_accepts prog_2_method_2_code 5 (some .boolean) :: TBL) rm_Judge_accepts (va_Pc [.ref (a_t 0), .ref (a_p1 0), .long x2] (Pre0 g ((pic_Judge g a_t (a_pile 0) tL) ++ (pic_Query g a_p1 p1) ++ (pic_Pile g a_pile 40 pile pileL)) sz)) (EI g ((pic_Judge g a_t (a_pile 0) res.2.1) ++ (pic_Query g a_p1 p1) ++ (pic_Pile g a_pile 40 res.2.2.1 res.2.2.2)) res.1 (va_A ((pic_Judge g a_t (a_pile 0) tL) ++ (pic_Query g a_p1 p1) ++ (pic_Pile g a_pile 40 pile pileL)) sz)) 0 0 (va_A ((pic_Judge g a_t (a_pile 0) tL) ++ (pic_Query g a_p1 p1) ++ (pic_Pile g a_pile 40 pile pileL)) sz) :=
  ct_w (Qc := fun A => EI g ((pic_Judge g a_t (a_pile 0) res.2.1) ++ (pic_Query g a_p1 p1) ++ (pic_Pile g a_pile 40 res.2.2.1 res.2.2.2)) res.1 A) (by decide) (Nat.le_of_ble_eq_true rfl) (fun p e s m args below meth c A hC => k_Judge_accepts hC tL p1 pile pileL x2 res h)
def Judge_countWays_57 (F : Nat) : Nat → StL → StI → StI → StL → Int32 → Int32 → Int64 → Int32 → Int32 → Option (Int32 × StL × StI × StL)
  | 0, _, _, _, _, _, _, _, _, _ => none
  | n + 1, tL, p1, pile, pileL, x2, x3, x4, x6, x7 => if x3 ≤ x7 then some (x6, tL, pile, pileL) else (Judge_setValues F tL x2 x7).bind fun r9 => (Judge_valueOf F r9 p1 pile pileL).bind fun r10 => (Long_bitCount F (r10.1 &&& x4)).bind fun r11 => Judge_countWays_57 F n r9 p1 r10.2.1 r10.2.2 x2 x3 x4 (x6 + r11) (x7 + (1 : Int32))
def Judge_countWays_49 (F : Nat) (tL : StL) (p1 : StI) (pile : StI) (pileL : StL) (x2 : Int32) (x3 : Int32) (y0 : Int64) : Option (Int32 × StL × StI × StL) := Judge_countWays_57 F F tL p1 pile pileL x2 x3 y0 (0 : Int32) (0 : Int32)
def Judge_countWays_29 (F : Nat) (tL : StL) (p1 : StI) (pile : StI) (pileL : StL) (x2 : Int32) (y0 : Int32) : Option (Int32 × StL × StI × StL) := if x2 < (6 : Int32) then Judge_countWays_49 F tL p1 pile pileL x2 y0 (((1 : Int64) <<< (((1 : Int32) <<< (x2 &&& 31)).toInt64 &&& 63)) - (1 : Int64)) else Judge_countWays_49 F tL p1 pile pileL x2 y0 (-1 : Int64)
def Judge_countWays (F : Nat) (tL : StL) (p1 : StI) (pile : StI) (pileL : StL) : Option (Int32 × StL × StI × StL) := if (p1 3 0) ≤ (12 : Int32) then if (p1 3 0) ≤ (6 : Int32) then Judge_countWays_29 F tL p1 pile pileL (p1 3 0) (1 : Int32) else Judge_countWays_29 F tL p1 pile pileL (p1 3 0) ((1 : Int32) <<< (((p1 3 0) - (6 : Int32)) &&& 31)) else some ((-1 : Int32), tL, pile, pileL)
set_option maxHeartbeats 4000000 in
set_option maxRecDepth 100000 in
theorem k_Judge_countWays_57 {p : Program} {l : Launch} {e : Env} {s : State} {m : MethodId} {args : Array Value} {below : List Frame} {meth : Method} {c : Code} {g : Gz} {A : Nat → Prop} {F : Nat} {a_t a_p1 a_pile : Nat → Nat} (hC : Cx prog_2_method_3_code 8 (some .int) R_Judge p s m args meth c g A A) : ∀ (n : Nat) (tL : StL) (p1 : StI) (pile : StI) (pileL : StL) (x2 : Int32) (x3 : Int32) (x4 : Int64) (x6 : Int32) (x7 : Int32) (res : Int32 × StL × StI × StL), Judge_countWays_57 F n tL p1 pile pileL x2 x3 x4 x6 x7 = some res → Go p l e rm_Judge_countWays s m args below meth c g A A 8 (MQ below (EI g ((pic_Judge g a_t (a_pile 0) res.2.1) ++ (pic_Query g a_p1 p1) ++ (pic_Pile g a_pile 40 res.2.2.1 res.2.2.2)) res.1 A) args s 0 0 A) ((pic_Judge g a_t (a_pile 0) tL) ++ (pic_Query g a_p1 p1) ++ (pic_Pile g a_pile 40 pile pileL)) [(0, .ref (a_t 0)), (1, .ref (a_p1 0)), (2, .int x2), (3, .int x3), (4, .long x4), (6, .int x6), (7, .int x7)] 57 [] := by
  obtain ⟨hx, hb, hr, hml, hown, htb, hlocks, hA, hAA, hG⟩ := id hC
  have hK := hG.1
  intro n
  induction n with
  | zero => intro tL p1 pile pileL x2 x3 x4 x6 x7 res h; rw [Judge_countWays_57] at h; cases h
  | succ n ih =>
    intro tL p1 pile pileL x2 x3 x4 x6 x7 res h H locs ls hP hD hS hl
    rw [Judge_countWays_57] at h
    refine lv_iload hx hb d_Judge_countWays_57 (lv_at hl 6 rfl) ?_
    refine lv_iload_n hx hb d_Judge_countWays_59 rfl (lv_at hl 3 rfl) ?_
    refine lv_icmp_ge (tgt := 92) hx hb d_Judge_countWays_60 (by decide) (fun c8 => ?_) (fun c8 => ?_)
    · replace h := (if_pos c8).symm.trans h
      refine lv_iload hx hb d_Judge_countWays_92 (lv_at hl 5 rfl) ?_
      cases h
      exact W.iret hx hb hr (fun t ht hW => ⟨⟨_, (), rfl, rfl, by rw [ht]; exact hP, hD⟩, hS.F ht⟩) hS.2.2 d_Judge_countWays_94
    · replace h := (if_neg c8).symm.trans h
      refine lv_aload_n hx hb d_Judge_countWays_63 rfl (lv_at hl 0 rfl) ?_
      refine lv_iload_n hx hb d_Judge_countWays_64 rfl (lv_at hl 2 rfl) ?_
      refine lv_iload hx hb d_Judge_countWays_65 (lv_at hl 6 rfl) ?_
      obtain ⟨r9, hr9, h⟩ := Option.bind_eq_some_iff.mp h
      refine cl_V (wr := (pic_Query g a_p1 p1) ++ (pic_Pile g a_pile 40 pile pileL)) [0, 1] [2, 3, 4, 5, 6, 7, 8, 9, 10, 11, 12, 13, 14] rfl rfl rfl (by decide) hP hD hS hA (va_runV (As := [.int x2, .int x7]) (rest := []) ⟨hx, hb, hml, hown, htb⟩ (c_Judge_setValues l g F a_t (a_pile 0) tL x2 x7 _ hr9 H.size) (cw_V htb mb_Judge_setValues (htb _ L_Judge_36) rfl rfl ⟨Nat.le_of_ble_eq_true rfl, Nat.le_of_ble_eq_true rfl⟩) (pre_V (va_recv hK hP (ci := 5) (q0 := 0) rfl rfl) (pre_S [0, 1] rfl rfl hP hD hS hA hAA hG)) rfl rfl hl.1 rfl (lv_room (Nat.le_of_ble_eq_true rfl)) d_Judge_countWays_67 ⟨Nat.zero_le _, Nat.zero_le _⟩) (fun H locs hP hD hS => ?_)
      have hP : va_P (gD g) vwCl ((pic_Judge g a_t (a_pile 0) r9) ++ (pic_Query g a_p1 p1) ++ (pic_Pile g a_pile 40 pile pileL)) H := hP.sub [13, 14, 0, 1, 2, 3, 4, 5, 6, 7, 8, 9, 10, 11, 12] rfl
      have hD : va_D A ((pic_Judge g a_t (a_pile 0) r9) ++ (pic_Query g a_p1 p1) ++ (pic_Pile g a_pile 40 pile pileL)) := hD.sub [13, 14, 0, 1, 2, 3, 4, 5, 6, 7, 8, 9, 10, 11, 12] rfl rfl
      refine lv_iload hx hb d_Judge_countWays_70 (lv_at hl 5 rfl) ?_
      refine lv_aload_n hx hb d_Judge_countWays_72 rfl (lv_at hl 0 rfl) ?_
      refine lv_aload_n hx hb d_Judge_countWays_73 rfl (lv_at hl 1 rfl) ?_
      obtain ⟨r10, hr10, h⟩ := Option.bind_eq_some_iff.mp h
      refine cl_L (wr := []) [0, 1, 2, 3, 4, 5, 6, 7, 8, 9, 10, 11, 12, 13, 14] [] rfl rfl rfl (by decide) hP hD hS hA (va_runV (As := [.ref (a_p1 0)]) (rest := [.int x6]) ⟨hx, hb, hml, hown, htb⟩ (c_Judge_valueOf l g F a_t a_p1 a_pile r9 p1 pile pileL _ hr10 H.size) (cw_V htb mb_Judge_valueOf (htb _ L_Judge_24) rfl rfl ⟨Nat.le_of_ble_eq_true rfl, Nat.le_of_ble_eq_true rfl⟩) (pre_V (va_recv hK hP (ci := 5) (q0 := 0) rfl rfl) (pre_S [0, 1, 2, 3, 4, 5, 6, 7, 8, 9, 10, 11, 12, 13, 14] rfl rfl hP hD hS hA hAA hG)) rfl rfl hl.1 rfl (lv_room (Nat.le_of_ble_eq_true rfl)) d_Judge_countWays_74 ⟨Nat.zero_le _, Nat.zero_le _⟩) (fun H locs hP hD hS => ?_)
      have hP : va_P (gD g) vwCl ((pic_Judge g a_t (a_pile 0) r9) ++ (pic_Query g a_p1 p1) ++ (pic_Pile g a_pile 40 r10.2.1 r10.2.2)) H := hP.sub [0, 1, 2, 3, 4, 5, 6, 7, 8, 9, 10, 11, 12, 13, 14] rfl
      have hD : va_D A ((pic_Judge g a_t (a_pile 0) r9) ++ (pic_Query g a_p1 p1) ++ (pic_Pile g a_pile 40 r10.2.1 r10.2.2)) := hD.sub [0, 1, 2, 3, 4, 5, 6, 7, 8, 9, 10, 11, 12, 13, 14] rfl rfl
      refine lv_lload hx hb d_Judge_countWays_77 (lv_at hl 4 rfl) ?_
      refine lv_land hx hb d_Judge_countWays_79 ?_
      obtain ⟨r11, hr11, h⟩ := Option.bind_eq_some_iff.mp h
      refine cl_Ir hP hS hA (va_runS (As := [.long (r10.1 &&& x4)]) (rest := [.int x6]) ⟨hx, hb, hml, hown, htb⟩ (c_Long_bitCount l g F (r10.1 &&& x4) _ hr11 H.size) (cw_S htb mb_Long_bitCount (htb _ L_Judge_40) rfl rfl ⟨Nat.le_of_ble_eq_true rfl, Nat.le_of_ble_eq_true rfl⟩) (pre_S [] rfl rfl hP hD hS hA hAA hG) rfl rfl hl.1 rfl (lv_room (Nat.le_of_ble_eq_true rfl)) d_Judge_countWays_80 ⟨Nat.zero_le _, Nat.zero_le _⟩) (fun H locs hP hS => ?_)
      refine lv_iadd hx hb d_Judge_countWays_83 ?_
      refine lv_istore (lv' := [(6, .int (x6 + r11)), (0, .ref (a_t 0)), (1, .ref (a_p1 0)), (2, .int x2), (3, .int x3), (4, .long x4), (7, .int x7)]) hx hb d_Judge_countWays_84 hl (by decide) rfl (fun ls hl => ?_)
      refine lv_iinc (v := (x7 + (1 : Int32))) (lv' := [(7, .int (x7 + (1 : Int32))), (6, .int (x6 + r11)), (0, .ref (a_t 0)), (1, .ref (a_p1 0)), (2, .int x2), (3, .int x3), (4, .long x4)]) hx hb d_Judge_countWays_86 hl (k := 6) rfl rfl (by decide) rfl (fun ls hl => ?_)
      refine lv_goto (tgt := 57) hx hb d_Judge_countWays_89 (by decide) ?_
      exact ih _ _ _ _ _ _ _ _ _ _ h _ _ _ hP hD hS (lv_sub hl [2, 3, 4, 5, 6, 1, 0] rfl)
set_option maxHeartbeats 4000000 in
set_option maxRecDepth 100000 in
theorem k_Judge_countWays_49 {p : Program} {l : Launch} {e : Env} {s : State} {m : MethodId} {args : Array Value} {below : List Frame} {meth : Method} {c : Code} {g : Gz} {A : Nat → Prop} {F : Nat} {a_t a_p1 a_pile : Nat → Nat} (hC : Cx prog_2_method_3_code 8 (some .int) R_Judge p s m args meth c g A A) : ∀ (tL : StL) (p1 : StI) (pile : StI) (pileL : StL) (x2 : Int32) (x3 : Int32) (y0 : Int64) (res : Int32 × StL × StI × StL), Judge_countWays_49 F tL p1 pile pileL x2 x3 y0 = some res → Go p l e rm_Judge_countWays s m args below meth c g A A 8 (MQ below (EI g ((pic_Judge g a_t (a_pile 0) res.2.1) ++ (pic_Query g a_p1 p1) ++ (pic_Pile g a_pile 40 res.2.2.1 res.2.2.2)) res.1 A) args s 0 0 A) ((pic_Judge g a_t (a_pile 0) tL) ++ (pic_Query g a_p1 p1) ++ (pic_Pile g a_pile 40 pile pileL)) [(0, .ref (a_t 0)), (1, .ref (a_p1 0)), (2, .int x2), (3, .int x3)] 49 [.long y0] := by
  obtain ⟨hx, hb, hr, hml, hown, htb, hlocks, hA, hAA, hG⟩ := id hC
  have hK := hG.1
  intro tL p1 pile pileL x2 x3 y0 res h H locs ls hP hD hS hl
  rw [Judge_countWays_49] at h
  refine lv_lstore (lv' := [(4, .long y0), (0, .ref (a_t 0)), (1, .ref (a_p1 0)), (2, .int x2), (3, .int x3)]) hx hb d_Judge_countWays_49 hl (by decide) rfl (fun ls hl => ?_)
  refine lv_iconst (v := 0) hx hb d_Judge_countWays_51 (by decide) ?_
  refine lv_istore (lv' := [(6, .int (0 : Int32)), (4, .long y0), (0, .ref (a_t 0)), (1, .ref (a_p1 0)), (2, .int x2), (3, .int x3)]) hx hb d_Judge_countWays_52 hl (by decide) rfl (fun ls hl => ?_)
  refine lv_iconst (v := 0) hx hb d_Judge_countWays_54 (by decide) ?_
  refine lv_istore (lv' := [(7, .int (0 : Int32)), (6, .int (0 : Int32)), (4, .long y0), (0, .ref (a_t 0)), (1, .ref (a_p1 0)), (2, .int x2), (3, .int x3)]) hx hb d_Judge_countWays_55 hl (by decide) rfl (fun ls hl => ?_)
  exact k_Judge_countWays_57 hC F _ _ _ _ _ _ _ _ _ _ h _ _ _ hP hD hS (lv_sub hl [3, 4, 5, 6, 2, 1, 0] rfl)
set_option maxHeartbeats 4000000 in
set_option maxRecDepth 100000 in
theorem k_Judge_countWays_29 {p : Program} {l : Launch} {e : Env} {s : State} {m : MethodId} {args : Array Value} {below : List Frame} {meth : Method} {c : Code} {g : Gz} {A : Nat → Prop} {F : Nat} {a_t a_p1 a_pile : Nat → Nat} (hC : Cx prog_2_method_3_code 8 (some .int) R_Judge p s m args meth c g A A) : ∀ (tL : StL) (p1 : StI) (pile : StI) (pileL : StL) (x2 : Int32) (y0 : Int32) (res : Int32 × StL × StI × StL), Judge_countWays_29 F tL p1 pile pileL x2 y0 = some res → Go p l e rm_Judge_countWays s m args below meth c g A A 8 (MQ below (EI g ((pic_Judge g a_t (a_pile 0) res.2.1) ++ (pic_Query g a_p1 p1) ++ (pic_Pile g a_pile 40 res.2.2.1 res.2.2.2)) res.1 A) args s 0 0 A) ((pic_Judge g a_t (a_pile 0) tL) ++ (pic_Query g a_p1 p1) ++ (pic_Pile g a_pile 40 pile pileL)) [(0, .ref (a_t 0)), (1, .ref (a_p1 0)), (2, .int x2)] 29 [.int y0] := by
  obtain ⟨hx, hb, hr, hml, hown, htb, hlocks, hA, hAA, hG⟩ := id hC
  have hK := hG.1
  intro tL p1 pile pileL x2 y0 res h H locs ls hP hD hS hl
  rw [Judge_countWays_29] at h
  refine lv_istore_n (lv' := [(3, .int y0), (0, .ref (a_t 0)), (1, .ref (a_p1 0)), (2, .int x2)]) hx hb d_Judge_countWays_29 rfl hl (by decide) rfl (fun ls hl => ?_)
  refine lv_iload_n hx hb d_Judge_countWays_30 rfl (lv_at hl 3 rfl) ?_
  refine lv_bipush (v := 6) hx hb d_Judge_countWays_31 (by decide) ?_
  refine lv_icmp_lt (tgt := 42) hx hb d_Judge_countWays_33 (by decide) (fun c12 => ?_) (fun c12 => ?_)
  · replace h := (if_pos c12).symm.trans h
    refine lv_lconst (v := 1) hx hb d_Judge_countWays_42 (by decide) ?_
    refine lv_iconst (v := 1) hx hb d_Judge_countWays_43 (by decide) ?_
    refine lv_iload_n hx hb d_Judge_countWays_44 rfl (lv_at hl 3 rfl) ?_
    refine lv_ishl hx hb d_Judge_countWays_45 ?_
    refine lv_lshl hx hb d_Judge_countWays_46 rfl ?_
    refine lv_lconst (v := 1) hx hb d_Judge_countWays_47 (by decide) ?_
    refine lv_lsub hx hb d_Judge_countWays_48 ?_
    exact k_Judge_countWays_49 hC _ _ _ _ _ _ _ _ h _ _ _ hP hD hS (lv_sub hl [1, 2, 3, 0] rfl)
  · replace h := (if_neg c12).symm.trans h
    refine lv_ldc2 (v := -1) hx hb hown (htb _ K_Judge_34) d_Judge_countWays_36 ?_
    refine lv_goto (tgt := 49) hx hb d_Judge_countWays_39 (by decide) ?_
    exact k_Judge_countWays_49 hC _ _ _ _ _ _ _ _ h _ _ _ hP hD hS (lv_sub hl [1, 2, 3, 0] rfl)
set_option maxHeartbeats 4000000 in
set_option maxRecDepth 100000 in
theorem k_Judge_countWays {p : Program} {l : Launch} {e : Env} {s : State} {m : MethodId} {args : Array Value} {below : List Frame} {meth : Method} {c : Code} {g : Gz} {A : Nat → Prop} {F : Nat} {a_t a_p1 a_pile : Nat → Nat} (hC : Cx prog_2_method_3_code 8 (some .int) R_Judge p s m args meth c g A A) : ∀ (tL : StL) (p1 : StI) (pile : StI) (pileL : StL) (res : Int32 × StL × StI × StL), Judge_countWays F tL p1 pile pileL = some res → Go p l e rm_Judge_countWays s m args below meth c g A A 8 (MQ below (EI g ((pic_Judge g a_t (a_pile 0) res.2.1) ++ (pic_Query g a_p1 p1) ++ (pic_Pile g a_pile 40 res.2.2.1 res.2.2.2)) res.1 A) args s 0 0 A) ((pic_Judge g a_t (a_pile 0) tL) ++ (pic_Query g a_p1 p1) ++ (pic_Pile g a_pile 40 pile pileL)) [(0, .ref (a_t 0)), (1, .ref (a_p1 0))] 0 [] := by
  obtain ⟨hx, hb, hr, hml, hown, htb, hlocks, hA, hAA, hG⟩ := id hC
  have hK := hG.1
  intro tL p1 pile pileL res h H locs ls hP hD hS hl
  rw [Judge_countWays] at h
  refine lv_aload_n hx hb d_Judge_countWays_0 rfl (lv_at hl 1 rfl) ?_
  refine va_getN (D := gD g) (ci := 1) (v := .int (p1 3 0)) (C := R_Query) (T := T_Query) (N := 14) hx hb htb in_Query hown hK hP 2 rfl rfl 3 (by decide) (nf_of hG N_Judge_28) (fun _ h9 => h9) rfl d_Judge_countWays_1 ?_
  refine lv_istore_n (lv' := [(2, .int (p1 3 0)), (0, .ref (a_t 0)), (1, .ref (a_p1 0))]) hx hb d_Judge_countWays_4 rfl hl (by decide) rfl (fun ls hl => ?_)
  refine lv_iload_n hx hb d_Judge_countWays_5 rfl (lv_at hl 0 rfl) ?_
  refine lv_bipush (v := 12) hx hb d_Judge_countWays_6 (by decide) ?_
  refine lv_icmp_le (tgt := 13) hx hb d_Judge_countWays_8 (by decide) (fun c13 => ?_) (fun c13 => ?_)
  · replace h := (if_pos c13).symm.trans h
    refine lv_iload_n hx hb d_Judge_countWays_13 rfl (lv_at hl 0 rfl) ?_
    refine lv_bipush (v := 6) hx hb d_Judge_countWays_14 (by decide) ?_
    refine lv_icmp_le (tgt := 28) hx hb d_Judge_countWays_16 (by decide) (fun c14 => ?_) (fun c14 => ?_)
    · replace h := (if_pos c14).symm.trans h
      refine lv_iconst (v := 1) hx hb d_Judge_countWays_28 (by decide) ?_
      exact k_Judge_countWays_29 hC _ _ _ _ _ _ _ h _ _ _ hP hD hS (lv_sub hl [1, 2, 0] rfl)
    · replace h := (if_neg c14).symm.trans h
      refine lv_iconst (v := 1) hx hb d_Judge_countWays_19 (by decide) ?_
      refine lv_iload_n hx hb d_Judge_countWays_20 rfl (lv_at hl 0 rfl) ?_
      refine lv_bipush (v := 6) hx hb d_Judge_countWays_21 (by decide) ?_
      refine lv_isub hx hb d_Judge_countWays_23 ?_
      refine lv_ishl hx hb d_Judge_countWays_24 ?_
      refine lv_goto (tgt := 29) hx hb d_Judge_countWays_25 (by decide) ?_
      exact k_Judge_countWays_29 hC _ _ _ _ _ _ _ h _ _ _ hP hD hS (lv_sub hl [1, 2, 0] rfl)
  · replace h := (if_neg c13).symm.trans h
    refine lv_iconst (v := -1) hx hb d_Judge_countWays_11 (by decide) ?_
    cases h
    exact W.iret hx hb hr (fun t ht hW => ⟨⟨_, (), rfl, rfl, by rw [ht]; exact hP, hD⟩, hS.F ht⟩) hS.2.2 d_Judge_countWays_12
theorem c_Judge_countWays (l : Launch) (g : Gz) (F : Nat) (a_t : Nat → Nat) (a_p1 : Nat → Nat) (a_pile : Nat → Nat) (tL : StL) (p1 : StI) (pile : StI) (pileL : StL) (res : Int32 × StL × StI × StL) (h : Judge_countWays F tL p1 pile pileL = some res) : ∀ sz : Nat, Met l y_Judge_countWays (.code y_Judge_countWays prog_2_method_3_code 8 (some .int) :: TBL) rm_Judge_countWays (va_Pc [.ref (a_t 0), .ref (a_p1 0)] (Pre0 g ((pic_Judge g a_t (a_pile 0) tL) ++ (pic_Query g a_p1 p1) ++ (pic_Pile g a_pile 40 pile pileL)) sz)) (EI g ((pic_Judge g a_t (a_pile 0) res.2.1) ++ (pic_Query g a_p1 p1) ++ (pic_Pile g a_pile 40 res.2.2.1 res.2.2.2)) res.1 (va_A ((pic_Judge g a_t (a_pile 0) tL) ++ (pic_Query g a_p1 p1) ++ (pic_Pile g a_pile 40 pile pileL)) sz)) 0 0 (va_A ((pic_Judge g a_t (a_pile 0) tL) ++ (pic_Query g a_p1 p1) ++ (pic_Pile g a_pile 40 pile pileL)) sz) :=
  ct_w (Qc := fun A => EI g ((pic_Judge g a_t (a_pile 0) res.2.1) ++ (pic_Query g a_p1 p1) ++ (pic_Pile g a_pile 40 res.2.2.1 res.2.2.2)) res.1 A) (by decide) (Nat.le_of_ble_eq_true rfl) (fun p e s m args below meth c A hC => k_Judge_countWays hC tL p1 pile pileL res h)
