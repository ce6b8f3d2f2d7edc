theorem K_Span_40 : (Jvm.Cond.constantLong "MailQueries$Span" (40 : Nat) (-4000000000 : Int64)) ∈ TBL := TBL_in (List.mem_of_getElem? (i := 817) (by decide +kernel)) (by decide +kernel)
theorem L_Span_9 : (Jvm.Cond.fieldLink "MailQueries$Span" (9 : Nat) "MailQueries$Span" "least" "I") ∈ TBL := TBL_in (List.mem_of_getElem? (i := 216) (by decide +kernel)) (by decide +kernel)
theorem L_Span_15 : (Jvm.Cond.fieldLink "MailQueries$Span" (15 : Nat) "MailQueries$Span" "greatest" "I") ∈ TBL := TBL_in (List.mem_of_getElem? (i := 218) (by decide +kernel)) (by decide +kernel)
set_option maxRecDepth 100000 in
theorem W_Span_keeps_code : (Jvm.Cond.code ({ cls := "MailQueries$Span", name := "keeps", desc := "(JJ)Z" } : Jvm.MethodName) prog_8_method_3_code (5 : Nat) (Option.some Jvm.ClassFile.FieldType.boolean)) ∈ TBL := TBL_in (List.mem_of_getElem? (i := 839) rfl) rfl
theorem I_Span : (Jvm.Cond.initialized "MailQueries$Span") ∈ TBL := TBL_in (List.mem_of_getElem? (i := 104) (by decide +kernel)) (by decide +kernel)
theorem W_Span_keeps_in : (Jvm.Cond.instanceMethod ({ cls := "MailQueries$Span", name := "keeps", desc := "(JJ)Z" } : Jvm.MethodName)) ∈ TBL := TBL_in (List.mem_of_getElem? (i := 838) (by decide +kernel)) (by decide +kernel)
theorem sel_41 : Cond.selects "MailQueries$Span" ⟨"MailQueries$Span", "keeps", "(JJ)Z"⟩ ⟨"MailQueries$Span", "keeps", "(JJ)Z"⟩ ∈ TBL := TBL_in (List.mem_of_getElem? (i := 41) (by decide +kernel)) (by decide +kernel)
theorem K_Span_68 : (Jvm.Cond.constantLong "MailQueries$Span" (68 : Nat) (10 : Int64)) ∈ TBL := TBL_in (List.mem_of_getElem? (i := 818) (by decide +kernel)) (by decide +kernel)
set_option maxRecDepth 100000 in
theorem W_Span_numberOf_code : (Jvm.Cond.code ({ cls := "MailQueries$Span", name := "numberOf", desc := "(LMailQueries$Query;II)J" } : Jvm.MethodName) prog_8_method_5_code (7 : Nat) (Option.some Jvm.ClassFile.FieldType.long)) ∈ TBL := TBL_in (List.mem_of_getElem? (i := 816) rfl) rfl
theorem W_Span_numberOf_st : (Jvm.Cond.static ({ cls := "MailQueries$Span", name := "numberOf", desc := "(LMailQueries$Query;II)J" } : Jvm.MethodName)) ∈ TBL := TBL_in (List.mem_of_getElem? (i := 815) (by decide +kernel)) (by decide +kernel)
theorem K_Span_72 : (Jvm.Cond.constantLong "MailQueries$Span" (72 : Nat) (1048576 : Int64)) ∈ TBL := TBL_in (List.mem_of_getElem? (i := 823) (by decide +kernel)) (by decide +kernel)
theorem K_Span_70 : (Jvm.Cond.constantLong "MailQueries$Span" (70 : Nat) (1024 : Int64)) ∈ TBL := TBL_in (List.mem_of_getElem? (i := 822) (by decide +kernel)) (by decide +kernel)
theorem K_Span_38 : (Jvm.Cond.constantLong "MailQueries$Span" (38 : Nat) (2147483647 : Int64)) ∈ TBL := TBL_in (List.mem_of_getElem? (i := 824) (by decide +kernel)) (by decide +kernel)
set_option maxRecDepth 100000 in
theorem W_Span_bytesOf_code : (Jvm.Cond.code ({ cls := "MailQueries$Span", name := "bytesOf", desc := "(JI)J" } : Jvm.MethodName) prog_8_method_6_code (5 : Nat) (Option.some Jvm.ClassFile.FieldType.long)) ∈ TBL := TBL_in (List.mem_of_getElem? (i := 821) rfl) rfl
theorem W_Span_bytesOf_st : (Jvm.Cond.static ({ cls := "MailQueries$Span", name := "bytesOf", desc := "(JI)J" } : Jvm.MethodName)) ∈ TBL := TBL_in (List.mem_of_getElem? (i := 820) (by decide +kernel)) (by decide +kernel)
theorem K_Span_78 : (Jvm.Cond.constantLong "MailQueries$Span" (78 : Nat) (365 : Int64)) ∈ TBL := TBL_in (List.mem_of_getElem? (i := 835) (by decide +kernel)) (by decide +kernel)
theorem K_Span_74 : (Jvm.Cond.constantLong "MailQueries$Span" (74 : Nat) (7 : Int64)) ∈ TBL := TBL_in (List.mem_of_getElem? (i := 833) (by decide +kernel)) (by decide +kernel)
theorem K_Span_76 : (Jvm.Cond.constantLong "MailQueries$Span" (76 : Nat) (30 : Int64)) ∈ TBL := TBL_in (List.mem_of_getElem? (i := 834) (by decide +kernel)) (by decide +kernel)
set_option maxRecDepth 100000 in
theorem W_Span_daysAgo_code : (Jvm.Cond.code ({ cls := "MailQueries$Span", name := "daysAgo", desc := "(JI)J" } : Jvm.MethodName) prog_8_method_7_code (3 : Nat) (Option.some Jvm.ClassFile.FieldType.long)) ∈ TBL := TBL_in (List.mem_of_getElem? (i := 832) rfl) rfl
theorem W_Span_daysAgo_st : (Jvm.Cond.static ({ cls := "MailQueries$Span", name := "daysAgo", desc := "(JI)J" } : Jvm.MethodName)) ∈ TBL := TBL_in (List.mem_of_getElem? (i := 831) (by decide +kernel)) (by decide +kernel)
theorem L_Span_80 : (Jvm.Cond.fieldLink "MailQueries$Span" (80 : Nat) "MailQueries$Span" "DAYS_BEFORE" "[I") ∈ TBL := TBL_in (List.mem_of_getElem? (i := 828) (by decide +kernel)) (by decide +kernel)
set_option maxRecDepth 100000 in
theorem W_Span_dayOf_code : (Jvm.Cond.code ({ cls := "MailQueries$Span", name := "dayOf", desc := "(I)J" } : Jvm.MethodName) prog_8_method_8_code (8 : Nat) (Option.some Jvm.ClassFile.FieldType.long)) ∈ TBL := TBL_in (List.mem_of_getElem? (i := 827) rfl) rfl
theorem W_Span_dayOf_st : (Jvm.Cond.static ({ cls := "MailQueries$Span", name := "dayOf", desc := "(I)J" } : Jvm.MethodName)) ∈ TBL := TBL_in (List.mem_of_getElem? (i := 826) (by decide +kernel)) (by decide +kernel)
theorem L_Span_50 : (Jvm.Cond.methodLink "MailQueries$Span" (50 : Nat) ({ cls := "MailQueries$Span", name := "bytesOf", desc := "(JI)J" } : Jvm.MethodName)) ∈ TBL := TBL_in (List.mem_of_getElem? (i := 819) (by decide +kernel)) (by decide +kernel)
theorem L_Span_46 : (Jvm.Cond.methodLink "MailQueries$Span" (46 : Nat) ({ cls := "MailQueries$Span", name := "numberOf", desc := "(LMailQueries$Query;II)J" } : Jvm.MethodName)) ∈ TBL := TBL_in (List.mem_of_getElem? (i := 814) (by decide +kernel)) (by decide +kernel)
theorem L_Span_58 : (Jvm.Cond.methodLink "MailQueries$Span" (58 : Nat) ({ cls := "MailQueries$Span", name := "daysAgo", desc := "(JI)J" } : Jvm.MethodName)) ∈ TBL := TBL_in (List.mem_of_getElem? (i := 830) (by decide +kernel)) (by decide +kernel)
theorem L_Span_54 : (Jvm.Cond.methodLink "MailQueries$Span" (54 : Nat) ({ cls := "MailQueries$Span", name := "dayOf", desc := "(I)J" } : Jvm.MethodName)) ∈ TBL := TBL_in (List.mem_of_getElem? (i := 825) (by decide +kernel)) (by decide +kernel)
theorem L_Span_32 : (Jvm.Cond.methodLink "MailQueries$Span" (32 : Nat) ({ cls := "MailQueries$Query", name := "byteAt", desc := "(I)I" } : Jvm.MethodName)) ∈ TBL := TBL_in (List.mem_of_getElem? (i := 812) (by decide +kernel)) (by decide +kernel)
set_option maxRecDepth 100000 in
theorem W_Span_valueOf_code : (Jvm.Cond.code ({ cls := "MailQueries$Span", name := "valueOf", desc := "(LMailQueries$Query;IIZ)J" } : Jvm.MethodName) prog_8_method_4_code (9 : Nat) (Option.some Jvm.ClassFile.FieldType.long)) ∈ TBL := TBL_in (List.mem_of_getElem? (i := 811) rfl) rfl
theorem W_Span_valueOf_st : (Jvm.Cond.static ({ cls := "MailQueries$Span", name := "valueOf", desc := "(LMailQueries$Query;IIZ)J" } : Jvm.MethodName)) ∈ TBL := TBL_in (List.mem_of_getElem? (i := 810) (by decide +kernel)) (by decide +kernel)
theorem K_Span_36 : (Jvm.Cond.constantLong "MailQueries$Span" (36 : Nat) (-2147483648 : Int64)) ∈ TBL := TBL_in (List.mem_of_getElem? (i := 840) (by decide +kernel)) (by decide +kernel)
theorem L_Span_28 : (Jvm.Cond.methodLink "MailQueries$Span" (28 : Nat) ({ cls := "MailQueries$Span", name := "keeps", desc := "(JJ)Z" } : Jvm.MethodName)) ∈ TBL := TBL_in (List.mem_of_getElem? (i := 836) (by decide +kernel)) (by decide +kernel)
theorem L_Span_24 : (Jvm.Cond.methodLink "MailQueries$Span" (24 : Nat) ({ cls := "MailQueries$Span", name := "valueOf", desc := "(LMailQueries$Query;IIZ)J" } : Jvm.MethodName)) ∈ TBL := TBL_in (List.mem_of_getElem? (i := 809) (by decide +kernel)) (by decide +kernel)
theorem L_Span_18 : (Jvm.Cond.methodLink "MailQueries$Span" (18 : Nat) ({ cls := "MailQueries$Query", name := "find", desc := "(III)I" } : Jvm.MethodName)) ∈ TBL := TBL_in (List.mem_of_getElem? (i := 808) (by decide +kernel)) (by decide +kernel)
set_option maxRecDepth 100000 in
theorem W_Span_fits_code : (Jvm.Cond.code ({ cls := "MailQueries$Span", name := "fits", desc := "(LMailQueries$Query;IIZ)Z" } : Jvm.MethodName) prog_8_method_2_code (11 : Nat) (Option.some Jvm.ClassFile.FieldType.boolean)) ∈ TBL := TBL_in (List.mem_of_getElem? (i := 807) rfl) rfl
theorem W_Span_fits_in : (Jvm.Cond.instanceMethod ({ cls := "MailQueries$Span", name := "fits", desc := "(LMailQueries$Query;IIZ)Z" } : Jvm.MethodName)) ∈ TBL := TBL_in (List.mem_of_getElem? (i := 805) (by decide +kernel)) (by decide +kernel)
theorem W_Span_fits_se : (Jvm.Cond.selects "MailQueries$Span" ({ cls := "MailQueries$Span", name := "fits", desc := "(LMailQueries$Query;IIZ)Z" } : Jvm.MethodName) ({ cls := "MailQueries$Span", name := "fits", desc := "(LMailQueries$Query;IIZ)Z" } : Jvm.MethodName)) ∈ TBL := TBL_in (List.mem_of_getElem? (i := 806) (by decide +kernel)) (by decide +kernel)
def y_Span_keeps : MethodName := ⟨"MailQueries$Span", "keeps", "(JJ)Z"⟩
def rm_Span_keeps : Room := { frames := 0, cells := 0, slots := 0, locals := 0 }
theorem d_Span_keeps_0 : decode prog_8_method_3_code 0 = .ok (.lload_n 1, 1) := by decide +kernel
theorem d_Span_keeps_1 : decode prog_8_method_3_code 1 = .ok (.ldc2_w 40, 3) := by decide +kernel
theorem d_Span_keeps_4 : decode prog_8_method_3_code 4 = .ok (.lcmp, 1) := by decide +kernel
theorem d_Span_keeps_5 : decode prog_8_method_3_code 5 = .ok (.ifCond .eq 11, 3) := by decide +kernel
theorem d_Span_keeps_8 : decode prog_8_method_3_code 8 = .ok (.lload_n 3, 1) := by decide +kernel
theorem d_Span_keeps_9 : decode prog_8_method_3_code 9 = .ok (.ldc2_w 40, 3) := by decide +kernel
theorem d_Span_keeps_12 : decode prog_8_method_3_code 12 = .ok (.lcmp, 1) := by decide +kernel
theorem d_Span_keeps_13 : decode prog_8_method_3_code 13 = .ok (.ifCond .ne 5, 3) := by decide +kernel
theorem d_Span_keeps_16 : decode prog_8_method_3_code 16 = .ok (.iconst 0, 1) := by decide +kernel
theorem d_Span_keeps_17 : decode prog_8_method_3_code 17 = .ok (.ireturn, 1) := by decide +kernel
theorem d_Span_keeps_18 : decode prog_8_method_3_code 18 = .ok (.aload_n 0, 1) := by decide +kernel
theorem d_Span_keeps_19 : decode prog_8_method_3_code 19 = .ok (.lload_n 1, 1) := by decide +kernel
theorem d_Span_keeps_20 : decode prog_8_method_3_code 20 = .ok (.l2i, 1) := by decide +kernel
theorem d_Span_keeps_21 : decode prog_8_method_3_code 21 = .ok (.putfield 9, 3) := by decide +kernel
theorem d_Span_keeps_24 : decode prog_8_method_3_code 24 = .ok (.aload_n 0, 1) := by decide +kernel
theorem d_Span_keeps_25 : decode prog_8_method_3_code 25 = .ok (.lload_n 3, 1) := by decide +kernel
theorem d_Span_keeps_26 : decode prog_8_method_3_code 26 = .ok (.l2i, 1) := by decide +kernel
theorem d_Span_keeps_27 : decode prog_8_method_3_code 27 = .ok (.putfield 15, 3) := by decide +kernel
theorem d_Span_keeps_30 : decode prog_8_method_3_code 30 = .ok (.iconst 1, 1) := by decide +kernel
theorem d_Span_keeps_31 : decode prog_8_method_3_code 31 = .ok (.ireturn, 1) := by decide +kernel
def y_Span_numberOf : MethodName := ⟨"MailQueries$Span", "numberOf", "(LMailQueries$Query;II)J"⟩
def rm_Span_numberOf : Room := { frames := 0, cells := 0, slots := 0, locals := 0 }
theorem d_Span_numberOf_0 : decode prog_8_method_5_code 0 = .ok (.iload_n 2, 1) := by decide +kernel
theorem d_Span_numberOf_1 : decode prog_8_method_5_code 1 = .ok (.iconst 1, 1) := by decide +kernel
theorem d_Span_numberOf_2 : decode prog_8_method_5_code 2 = .ok (.if_icmp .lt 23, 3) := by decide +kernel
theorem d_Span_numberOf_5 : decode prog_8_method_5_code 5 = .ok (.iload_n 2, 1) := by decide +kernel
theorem d_Span_numberOf_6 : decode prog_8_method_5_code 6 = .ok (.bipush 8, 2) := by decide +kernel
theorem d_Span_numberOf_8 : decode prog_8_method_5_code 8 = .ok (.if_icmp .gt 17, 3) := by decide +kernel
theorem d_Span_numberOf_11 : decode prog_8_method_5_code 11 = .ok (.iload_n 1, 1) := by decide +kernel
theorem d_Span_numberOf_12 : decode prog_8_method_5_code 12 = .ok (.ifCond .lt 13, 3) := by decide +kernel
theorem d_Span_numberOf_15 : decode prog_8_method_5_code 15 = .ok (.iload_n 1, 1) := by decide +kernel
theorem d_Span_numberOf_16 : decode prog_8_method_5_code 16 = .ok (.iload_n 2, 1) := by decide +kernel
theorem d_Span_numberOf_17 : decode prog_8_method_5_code 17 = .ok (.iadd, 1) := by decide +kernel
theorem d_Span_numberOf_18 : decode prog_8_method_5_code 18 = .ok (.aload_n 0, 1) := by decide +kernel
theorem d_Span_numberOf_19 : decode prog_8_method_5_code 19 = .ok (.getfield 61, 3) := by decide +kernel
theorem d_Span_numberOf_22 : decode prog_8_method_5_code 22 = .ok (.if_icmp .le 7, 3) := by decide +kernel
theorem d_Span_numberOf_25 : decode prog_8_method_5_code 25 = .ok (.ldc2_w 40, 3) := by decide +kernel
theorem d_Span_numberOf_28 : decode prog_8_method_5_code 28 = .ok (.lreturn, 1) := by decide +kernel
theorem d_Span_numberOf_29 : decode prog_8_method_5_code 29 = .ok (.lconst 0, 1) := by decide +kernel
theorem d_Span_numberOf_30 : decode prog_8_method_5_code 30 = .ok (.lstore_n 3, 1) := by decide +kernel
theorem d_Span_numberOf_31 : decode prog_8_method_5_code 31 = .ok (.iconst 0, 1) := by decide +kernel
theorem d_Span_numberOf_32 : decode prog_8_method_5_code 32 = .ok (.istore 5, 2) := by decide +kernel
theorem d_Span_numberOf_34 : decode prog_8_method_5_code 34 = .ok (.iload 5, 2) := by decide +kernel
theorem d_Span_numberOf_36 : decode prog_8_method_5_code 36 = .ok (.iload_n 2, 1) := by decide +kernel
theorem d_Span_numberOf_37 : decode prog_8_method_5_code 37 = .ok (.if_icmp .ge 49, 3) := by decide +kernel
theorem d_Span_numberOf_40 : decode prog_8_method_5_code 40 = .ok (.aload_n 0, 1) := by decide +kernel
theorem d_Span_numberOf_41 : decode prog_8_method_5_code 41 = .ok (.getfield 64, 3) := by decide +kernel
theorem d_Span_numberOf_44 : decode prog_8_method_5_code 44 = .ok (.iload_n 1, 1) := by decide +kernel
theorem d_Span_numberOf_45 : decode prog_8_method_5_code 45 = .ok (.iload 5, 2) := by decide +kernel
theorem d_Span_numberOf_47 : decode prog_8_method_5_code 47 = .ok (.iadd, 1) := by decide +kernel
theorem d_Span_numberOf_48 : decode prog_8_method_5_code 48 = .ok (.caload, 1) := by decide +kernel
theorem d_Span_numberOf_49 : decode prog_8_method_5_code 49 = .ok (.bipush 48, 2) := by decide +kernel
theorem d_Span_numberOf_51 : decode prog_8_method_5_code 51 = .ok (.isub, 1) := by decide +kernel
theorem d_Span_numberOf_52 : decode prog_8_method_5_code 52 = .ok (.istore 6, 2) := by decide +kernel
theorem d_Span_numberOf_54 : decode prog_8_method_5_code 54 = .ok (.iload 6, 2) := by decide +kernel
theorem d_Span_numberOf_56 : decode prog_8_method_5_code 56 = .ok (.ifCond .lt 10, 3) := by decide +kernel
theorem d_Span_numberOf_59 : decode prog_8_method_5_code 59 = .ok (.iload 6, 2) := by decide +kernel
theorem d_Span_numberOf_61 : decode prog_8_method_5_code 61 = .ok (.bipush 9, 2) := by decide +kernel
theorem d_Span_numberOf_63 : decode prog_8_method_5_code 63 = .ok (.if_icmp .le 7, 3) := by decide +kernel
theorem d_Span_numberOf_66 : decode prog_8_method_5_code 66 = .ok (.ldc2_w 40, 3) := by decide +kernel
theorem d_Span_numberOf_69 : decode prog_8_method_5_code 69 = .ok (.lreturn, 1) := by decide +kernel
theorem d_Span_numberOf_70 : decode prog_8_method_5_code 70 = .ok (.lload_n 3, 1) := by decide +kernel
theorem d_Span_numberOf_71 : decode prog_8_method_5_code 71 = .ok (.ldc2_w 68, 3) := by decide +kernel
theorem d_Span_numberOf_74 : decode prog_8_method_5_code 74 = .ok (.lmul, 1) := by decide +kernel
theorem d_Span_numberOf_75 : decode prog_8_method_5_code 75 = .ok (.iload 6, 2) := by decide +kernel
theorem d_Span_numberOf_77 : decode prog_8_method_5_code 77 = .ok (.i2l, 1) := by decide +kernel
theorem d_Span_numberOf_78 : decode prog_8_method_5_code 78 = .ok (.ladd, 1) := by decide +kernel
theorem d_Span_numberOf_79 : decode prog_8_method_5_code 79 = .ok (.lstore_n 3, 1) := by decide +kernel
theorem d_Span_numberOf_80 : decode prog_8_method_5_code 80 = .ok (.iinc 5 1, 3) := by decide +kernel
theorem d_Span_numberOf_83 : decode prog_8_method_5_code 83 = .ok (.goto (-49), 3) := by decide +kernel
theorem d_Span_numberOf_86 : decode prog_8_method_5_code 86 = .ok (.lload_n 3, 1) := by decide +kernel
theorem d_Span_numberOf_87 : decode prog_8_method_5_code 87 = .ok (.lreturn, 1) := by decide +kernel
def y_Span_bytesOf : MethodName := ⟨"MailQueries$Span", "bytesOf", "(JI)J"⟩
def rm_Span_bytesOf : Room := { frames := 0, cells := 0, slots := 0, locals := 0 }
theorem d_Span_bytesOf_0 : decode prog_8_method_6_code 0 = .ok (.iload_n 2, 1) := by decide +kernel
theorem d_Span_bytesOf_1 : decode prog_8_method_6_code 1 = .ok (.bipush 107, 2) := by decide +kernel
theorem d_Span_bytesOf_3 : decode prog_8_method_6_code 3 = .ok (.if_icmp .ne 11, 3) := by decide +kernel
theorem d_Span_bytesOf_6 : decode prog_8_method_6_code 6 = .ok (.lload_n 0, 1) := by decide +kernel
theorem d_Span_bytesOf_7 : decode prog_8_method_6_code 7 = .ok (.ldc2_w 70, 3) := by decide +kernel
theorem d_Span_bytesOf_10 : decode prog_8_method_6_code 10 = .ok (.lmul, 1) := by decide +kernel
theorem d_Span_bytesOf_11 : decode prog_8_method_6_code 11 = .ok (.goto 18, 3) := by decide +kernel
theorem d_Span_bytesOf_14 : decode prog_8_method_6_code 14 = .ok (.iload_n 2, 1) := by decide +kernel
theorem d_Span_bytesOf_15 : decode prog_8_method_6_code 15 = .ok (.bipush 109, 2) := by decide +kernel
theorem d_Span_bytesOf_17 : decode prog_8_method_6_code 17 = .ok (.if_icmp .ne 11, 3) := by decide +kernel
theorem d_Span_bytesOf_20 : decode prog_8_method_6_code 20 = .ok (.lload_n 0, 1) := by decide +kernel
theorem d_Span_bytesOf_21 : decode prog_8_method_6_code 21 = .ok (.ldc2_w 72, 3) := by decide +kernel
theorem d_Span_bytesOf_24 : decode prog_8_method_6_code 24 = .ok (.lmul, 1) := by decide +kernel
theorem d_Span_bytesOf_25 : decode prog_8_method_6_code 25 = .ok (.goto 4, 3) := by decide +kernel
theorem d_Span_bytesOf_28 : decode prog_8_method_6_code 28 = .ok (.lload_n 0, 1) := by decide +kernel
theorem d_Span_bytesOf_29 : decode prog_8_method_6_code 29 = .ok (.lstore_n 3, 1) := by decide +kernel
theorem d_Span_bytesOf_30 : decode prog_8_method_6_code 30 = .ok (.lload_n 3, 1) := by decide +kernel
theorem d_Span_bytesOf_31 : decode prog_8_method_6_code 31 = .ok (.ldc2_w 38, 3) := by decide +kernel
theorem d_Span_bytesOf_34 : decode prog_8_method_6_code 34 = .ok (.lcmp, 1) := by decide +kernel
theorem d_Span_bytesOf_35 : decode prog_8_method_6_code 35 = .ok (.ifCond .le 9, 3) := by decide +kernel
theorem d_Span_bytesOf_38 : decode prog_8_method_6_code 38 = .ok (.ldc2_w 38, 3) := by decide +kernel
theorem d_Span_bytesOf_41 : decode prog_8_method_6_code 41 = .ok (.goto 4, 3) := by decide +kernel
theorem d_Span_bytesOf_44 : decode prog_8_method_6_code 44 = .ok (.lload_n 3, 1) := by decide +kernel
theorem d_Span_bytesOf_45 : decode prog_8_method_6_code 45 = .ok (.lreturn, 1) := by decide +kernel
def y_Span_daysAgo : MethodName := ⟨"MailQueries$Span", "daysAgo", "(JI)J"⟩
def rm_Span_daysAgo : Room := { frames := 0, cells := 0, slots := 0, locals := 0 }
theorem d_Span_daysAgo_0 : decode prog_8_method_7_code 0 = .ok (.iload_n 2, 1) := by decide +kernel
theorem d_Span_daysAgo_1 : decode prog_8_method_7_code 1 = .ok (.lookupswitch 67 #[(100, 43), (109, 53), (119, 46), (121, 60)], 43) := by decide +kernel
theorem d_Span_daysAgo_44 : decode prog_8_method_7_code 44 = .ok (.lload_n 0, 1) := by decide +kernel
theorem d_Span_daysAgo_45 : decode prog_8_method_7_code 45 = .ok (.lneg, 1) := by decide +kernel
theorem d_Span_daysAgo_46 : decode prog_8_method_7_code 46 = .ok (.lreturn, 1) := by decide +kernel
theorem d_Span_daysAgo_47 : decode prog_8_method_7_code 47 = .ok (.lload_n 0, 1) := by decide +kernel
theorem d_Span_daysAgo_48 : decode prog_8_method_7_code 48 = .ok (.lneg, 1) := by decide +kernel
theorem d_Span_daysAgo_49 : decode prog_8_method_7_code 49 = .ok (.ldc2_w 74, 3) := by decide +kernel
theorem d_Span_daysAgo_52 : decode prog_8_method_7_code 52 = .ok (.lmul, 1) := by decide +kernel
theorem d_Span_daysAgo_53 : decode prog_8_method_7_code 53 = .ok (.lreturn, 1) := by decide +kernel
theorem d_Span_daysAgo_54 : decode prog_8_method_7_code 54 = .ok (.lload_n 0, 1) := by decide +kernel
theorem d_Span_daysAgo_55 : decode prog_8_method_7_code 55 = .ok (.lneg, 1) := by decide +kernel
theorem d_Span_daysAgo_56 : decode prog_8_method_7_code 56 = .ok (.ldc2_w 76, 3) := by decide +kernel
theorem d_Span_daysAgo_59 : decode prog_8_method_7_code 59 = .ok (.lmul, 1) := by decide +kernel
theorem d_Span_daysAgo_60 : decode prog_8_method_7_code 60 = .ok (.lreturn, 1) := by decide +kernel
theorem d_Span_daysAgo_61 : decode prog_8_method_7_code 61 = .ok (.lload_n 0, 1) := by decide +kernel
theorem d_Span_daysAgo_62 : decode prog_8_method_7_code 62 = .ok (.lneg, 1) := by decide +kernel
theorem d_Span_daysAgo_63 : decode prog_8_method_7_code 63 = .ok (.ldc2_w 78, 3) := by decide +kernel
theorem d_Span_daysAgo_66 : decode prog_8_method_7_code 66 = .ok (.lmul, 1) := by decide +kernel
theorem d_Span_daysAgo_67 : decode prog_8_method_7_code 67 = .ok (.lreturn, 1) := by decide +kernel
theorem d_Span_daysAgo_68 : decode prog_8_method_7_code 68 = .ok (.ldc2_w 40, 3) := by decide +kernel
theorem d_Span_daysAgo_71 : decode prog_8_method_7_code 71 = .ok (.lreturn, 1) := by decide +kernel
def y_Span_dayOf : MethodName := ⟨"MailQueries$Span", "dayOf", "(I)J"⟩
def rm_Span_dayOf : Room := { frames := 0, cells := 0, slots := 0, locals := 0 }
theorem d_Span_dayOf_0 : decode prog_8_method_8_code 0 = .ok (.iload_n 0, 1) := by decide +kernel
theorem d_Span_dayOf_1 : decode prog_8_method_8_code 1 = .ok (.sipush 10000, 3) := by decide +kernel
theorem d_Span_dayOf_4 : decode prog_8_method_8_code 4 = .ok (.idiv, 1) := by decide +kernel
theorem d_Span_dayOf_5 : decode prog_8_method_8_code 5 = .ok (.istore_n 1, 1) := by decide +kernel
theorem d_Span_dayOf_6 : decode prog_8_method_8_code 6 = .ok (.iload_n 0, 1) := by decide +kernel
theorem d_Span_dayOf_7 : decode prog_8_method_8_code 7 = .ok (.bipush 100, 2) := by decide +kernel
theorem d_Span_dayOf_9 : decode prog_8_method_8_code 9 = .ok (.idiv, 1) := by decide +kernel
theorem d_Span_dayOf_10 : decode prog_8_method_8_code 10 = .ok (.bipush 100, 2) := by decide +kernel
theorem d_Span_dayOf_12 : decode prog_8_method_8_code 12 = .ok (.irem, 1) := by decide +kernel
theorem d_Span_dayOf_13 : decode prog_8_method_8_code 13 = .ok (.istore_n 2, 1) := by decide +kernel
theorem d_Span_dayOf_14 : decode prog_8_method_8_code 14 = .ok (.iload_n 0, 1) := by decide +kernel
theorem d_Span_dayOf_15 : decode prog_8_method_8_code 15 = .ok (.bipush 100, 2) := by decide +kernel
theorem d_Span_dayOf_17 : decode prog_8_method_8_code 17 = .ok (.irem, 1) := by decide +kernel
theorem d_Span_dayOf_18 : decode prog_8_method_8_code 18 = .ok (.istore_n 3, 1) := by decide +kernel
theorem d_Span_dayOf_19 : decode prog_8_method_8_code 19 = .ok (.iload_n 1, 1) := by decide +kernel
theorem d_Span_dayOf_20 : decode prog_8_method_8_code 20 = .ok (.sipush 1970, 3) := by decide +kernel
theorem d_Span_dayOf_23 : decode prog_8_method_8_code 23 = .ok (.if_icmp .lt 26, 3) := by decide +kernel
theorem d_Span_dayOf_26 : decode prog_8_method_8_code 26 = .ok (.iload_n 1, 1) := by decide +kernel
theorem d_Span_dayOf_27 : decode prog_8_method_8_code 27 = .ok (.sipush 2999, 3) := by decide +kernel
theorem d_Span_dayOf_30 : decode prog_8_method_8_code 30 = .ok (.if_icmp .gt 19, 3) := by decide +kernel
theorem d_Span_dayOf_33 : decode prog_8_method_8_code 33 = .ok (.iload_n 2, 1) := by decide +kernel
theorem d_Span_dayOf_34 : decode prog_8_method_8_code 34 = .ok (.iconst 1, 1) := by decide +kernel
theorem d_Span_dayOf_35 : decode prog_8_method_8_code 35 = .ok (.if_icmp .lt 14, 3) := by decide +kernel
theorem d_Span_dayOf_38 : decode prog_8_method_8_code 38 = .ok (.iload_n 2, 1) := by decide +kernel
theorem d_Span_dayOf_39 : decode prog_8_method_8_code 39 = .ok (.bipush 12, 2) := by decide +kernel
theorem d_Span_dayOf_41 : decode prog_8_method_8_code 41 = .ok (.if_icmp .gt 8, 3) := by decide +kernel
theorem d_Span_dayOf_44 : decode prog_8_method_8_code 44 = .ok (.iload_n 3, 1) := by decide +kernel
theorem d_Span_dayOf_45 : decode prog_8_method_8_code 45 = .ok (.iconst 1, 1) := by decide +kernel
theorem d_Span_dayOf_46 : decode prog_8_method_8_code 46 = .ok (.if_icmp .ge 7, 3) := by decide +kernel
theorem d_Span_dayOf_49 : decode prog_8_method_8_code 49 = .ok (.ldc2_w 40, 3) := by decide +kernel
theorem d_Span_dayOf_52 : decode prog_8_method_8_code 52 = .ok (.lreturn, 1) := by decide +kernel
theorem d_Span_dayOf_53 : decode prog_8_method_8_code 53 = .ok (.iload_n 1, 1) := by decide +kernel
theorem d_Span_dayOf_54 : decode prog_8_method_8_code 54 = .ok (.iconst 4, 1) := by decide +kernel
theorem d_Span_dayOf_55 : decode prog_8_method_8_code 55 = .ok (.irem, 1) := by decide +kernel
theorem d_Span_dayOf_56 : decode prog_8_method_8_code 56 = .ok (.ifCond .ne 22, 3) := by decide +kernel
theorem d_Span_dayOf_59 : decode prog_8_method_8_code 59 = .ok (.iload_n 1, 1) := by decide +kernel
theorem d_Span_dayOf_60 : decode prog_8_method_8_code 60 = .ok (.bipush 100, 2) := by decide +kernel
theorem d_Span_dayOf_62 : decode prog_8_method_8_code 62 = .ok (.irem, 1) := by decide +kernel
theorem d_Span_dayOf_63 : decode prog_8_method_8_code 63 = .ok (.ifCond .ne 11, 3) := by decide +kernel
theorem d_Span_dayOf_66 : decode prog_8_method_8_code 66 = .ok (.iload_n 1, 1) := by decide +kernel
theorem d_Span_dayOf_67 : decode prog_8_method_8_code 67 = .ok (.sipush 400, 3) := by decide +kernel
theorem d_Span_dayOf_70 : decode prog_8_method_8_code 70 = .ok (.irem, 1) := by decide +kernel
theorem d_Span_dayOf_71 : decode prog_8_method_8_code 71 = .ok (.ifCond .ne 7, 3) := by decide +kernel
theorem d_Span_dayOf_74 : decode prog_8_method_8_code 74 = .ok (.iconst 1, 1) := by decide +kernel
theorem d_Span_dayOf_75 : decode prog_8_method_8_code 75 = .ok (.goto 4, 3) := by decide +kernel
theorem d_Span_dayOf_78 : decode prog_8_method_8_code 78 = .ok (.iconst 0, 1) := by decide +kernel
theorem d_Span_dayOf_79 : decode prog_8_method_8_code 79 = .ok (.istore 4, 2) := by decide +kernel
theorem d_Span_dayOf_81 : decode prog_8_method_8_code 81 = .ok (.getstatic 80, 3) := by decide +kernel
theorem d_Span_dayOf_84 : decode prog_8_method_8_code 84 = .ok (.iload_n 2, 1) := by decide +kernel
theorem d_Span_dayOf_85 : decode prog_8_method_8_code 85 = .ok (.iaload, 1) := by decide +kernel
theorem d_Span_dayOf_86 : decode prog_8_method_8_code 86 = .ok (.getstatic 80, 3) := by decide +kernel
theorem d_Span_dayOf_89 : decode prog_8_method_8_code 89 = .ok (.iload_n 2, 1) := by decide +kernel
theorem d_Span_dayOf_90 : decode prog_8_method_8_code 90 = .ok (.iconst 1, 1) := by decide +kernel
theorem d_Span_dayOf_91 : decode prog_8_method_8_code 91 = .ok (.isub, 1) := by decide +kernel
theorem d_Span_dayOf_92 : decode prog_8_method_8_code 92 = .ok (.iaload, 1) := by decide +kernel
theorem d_Span_dayOf_93 : decode prog_8_method_8_code 93 = .ok (.isub, 1) := by decide +kernel
theorem d_Span_dayOf_94 : decode prog_8_method_8_code 94 = .ok (.istore 5, 2) := by decide +kernel
theorem d_Span_dayOf_96 : decode prog_8_method_8_code 96 = .ok (.iload_n 3, 1) := by decide +kernel
theorem d_Span_dayOf_97 : decode prog_8_method_8_code 97 = .ok (.iload 4, 2) := by decide +kernel
theorem d_Span_dayOf_99 : decode prog_8_method_8_code 99 = .ok (.ifCond .eq 15, 3) := by decide +kernel
theorem d_Span_dayOf_102 : decode prog_8_method_8_code 102 = .ok (.iload_n 2, 1) := by decide +kernel
theorem d_Span_dayOf_103 : decode prog_8_method_8_code 103 = .ok (.iconst 2, 1) := by decide +kernel
theorem d_Span_dayOf_104 : decode prog_8_method_8_code 104 = .ok (.if_icmp .ne 10, 3) := by decide +kernel
theorem d_Span_dayOf_107 : decode prog_8_method_8_code 107 = .ok (.iload 5, 2) := by decide +kernel
theorem d_Span_dayOf_109 : decode prog_8_method_8_code 109 = .ok (.iconst 1, 1) := by decide +kernel
theorem d_Span_dayOf_110 : decode prog_8_method_8_code 110 = .ok (.iadd, 1) := by decide +kernel
theorem d_Span_dayOf_111 : decode prog_8_method_8_code 111 = .ok (.goto 5, 3) := by decide +kernel
theorem d_Span_dayOf_114 : decode prog_8_method_8_code 114 = .ok (.iload 5, 2) := by decide +kernel
theorem d_Span_dayOf_116 : decode prog_8_method_8_code 116 = .ok (.if_icmp .le 7, 3) := by decide +kernel
theorem d_Span_dayOf_119 : decode prog_8_method_8_code 119 = .ok (.ldc2_w 40, 3) := by decide +kernel
theorem d_Span_dayOf_122 : decode prog_8_method_8_code 122 = .ok (.lreturn, 1) := by decide +kernel
theorem d_Span_dayOf_123 : decode prog_8_method_8_code 123 = .ok (.iload_n 1, 1) := by decide +kernel
theorem d_Span_dayOf_124 : decode prog_8_method_8_code 124 = .ok (.iconst 1, 1) := by decide +kernel
theorem d_Span_dayOf_125 : decode prog_8_method_8_code 125 = .ok (.isub, 1) := by decide +kernel
theorem d_Span_dayOf_126 : decode prog_8_method_8_code 126 = .ok (.istore 6, 2) := by decide +kernel
theorem d_Span_dayOf_128 : decode prog_8_method_8_code 128 = .ok (.iload 6, 2) := by decide +kernel
theorem d_Span_dayOf_130 : decode prog_8_method_8_code 130 = .ok (.iconst 4, 1) := by decide +kernel
theorem d_Span_dayOf_131 : decode prog_8_method_8_code 131 = .ok (.idiv, 1) := by decide +kernel
theorem d_Span_dayOf_132 : decode prog_8_method_8_code 132 = .ok (.iload 6, 2) := by decide +kernel
theorem d_Span_dayOf_134 : decode prog_8_method_8_code 134 = .ok (.bipush 100, 2) := by decide +kernel
theorem d_Span_dayOf_136 : decode prog_8_method_8_code 136 = .ok (.idiv, 1) := by decide +kernel
theorem d_Span_dayOf_137 : decode prog_8_method_8_code 137 = .ok (.isub, 1) := by decide +kernel
theorem d_Span_dayOf_138 : decode prog_8_method_8_code 138 = .ok (.iload 6, 2) := by decide +kernel
theorem d_Span_dayOf_140 : decode prog_8_method_8_code 140 = .ok (.sipush 400, 3) := by decide +kernel
theorem d_Span_dayOf_143 : decode prog_8_method_8_code 143 = .ok (.idiv, 1) := by decide +kernel
theorem d_Span_dayOf_144 : decode prog_8_method_8_code 144 = .ok (.iadd, 1) := by decide +kernel
theorem d_Span_dayOf_145 : decode prog_8_method_8_code 145 = .ok (.sipush 477, 3) := by decide +kernel
theorem d_Span_dayOf_148 : decode prog_8_method_8_code 148 = .ok (.isub, 1) := by decide +kernel
theorem d_Span_dayOf_149 : decode prog_8_method_8_code 149 = .ok (.istore 7, 2) := by decide +kernel
theorem d_Span_dayOf_151 : decode prog_8_method_8_code 151 = .ok (.iload 4, 2) := by decide +kernel
theorem d_Span_dayOf_153 : decode prog_8_method_8_code 153 = .ok (.ifCond .eq 11, 3) := by decide +kernel
theorem d_Span_dayOf_156 : decode prog_8_method_8_code 156 = .ok (.iload_n 2, 1) := by decide +kernel
theorem d_Span_dayOf_157 : decode prog_8_method_8_code 157 = .ok (.iconst 2, 1) := by decide +kernel
theorem d_Span_dayOf_158 : decode prog_8_method_8_code 158 = .ok (.if_icmp .le 6, 3) := by decide +kernel
theorem d_Span_dayOf_161 : decode prog_8_method_8_code 161 = .ok (.iinc 7 1, 3) := by decide +kernel
theorem d_Span_dayOf_164 : decode prog_8_method_8_code 164 = .ok (.sipush 365, 3) := by decide +kernel
theorem d_Span_dayOf_167 : decode prog_8_method_8_code 167 = .ok (.iload_n 1, 1) := by decide +kernel
theorem d_Span_dayOf_168 : decode prog_8_method_8_code 168 = .ok (.sipush 1970, 3) := by decide +kernel
theorem d_Span_dayOf_171 : decode prog_8_method_8_code 171 = .ok (.isub, 1) := by decide +kernel
theorem d_Span_dayOf_172 : decode prog_8_method_8_code 172 = .ok (.imul, 1) := by decide +kernel
theorem d_Span_dayOf_173 : decode prog_8_method_8_code 173 = .ok (.iload 7, 2) := by decide +kernel
theorem d_Span_dayOf_175 : decode prog_8_method_8_code 175 = .ok (.iadd, 1) := by decide +kernel
theorem d_Span_dayOf_176 : decode prog_8_method_8_code 176 = .ok (.getstatic 80, 3) := by decide +kernel
theorem d_Span_dayOf_179 : decode prog_8_method_8_code 179 = .ok (.iload_n 2, 1) := by decide +kernel
theorem d_Span_dayOf_180 : decode prog_8_method_8_code 180 = .ok (.iconst 1, 1) := by decide +kernel
theorem d_Span_dayOf_181 : decode prog_8_method_8_code 181 = .ok (.isub, 1) := by decide +kernel
theorem d_Span_dayOf_182 : decode prog_8_method_8_code 182 = .ok (.iaload, 1) := by decide +kernel
theorem d_Span_dayOf_183 : decode prog_8_method_8_code 183 = .ok (.iadd, 1) := by decide +kernel
theorem d_Span_dayOf_184 : decode prog_8_method_8_code 184 = .ok (.iload_n 3, 1) := by decide +kernel
theorem d_Span_dayOf_185 : decode prog_8_method_8_code 185 = .ok (.iadd, 1) := by decide +kernel
theorem d_Span_dayOf_186 : decode prog_8_method_8_code 186 = .ok (.iconst 1, 1) := by decide +kernel
theorem d_Span_dayOf_187 : decode prog_8_method_8_code 187 = .ok (.isub, 1) := by decide +kernel
theorem d_Span_dayOf_188 : decode prog_8_method_8_code 188 = .ok (.i2l, 1) := by decide +kernel
theorem d_Span_dayOf_189 : decode prog_8_method_8_code 189 = .ok (.lreturn, 1) := by decide +kernel
def y_Span_valueOf : MethodName := ⟨"MailQueries$Span", "valueOf", "(LMailQueries$Query;IIZ)J"⟩
def rm_Span_valueOf : Room := { frames := 1, cells := 0, slots := 0, locals := 27 }
theorem d_Span_valueOf_0 : decode prog_8_method_4_code 0 = .ok (.aload_n 0, 1) := by decide +kernel
theorem d_Span_valueOf_1 : decode prog_8_method_4_code 1 = .ok (.iload_n 2, 1) := by decide +kernel
theorem d_Span_valueOf_2 : decode prog_8_method_4_code 2 = .ok (.iconst 1, 1) := by decide +kernel
theorem d_Span_valueOf_3 : decode prog_8_method_4_code 3 = .ok (.isub, 1) := by decide +kernel
theorem d_Span_valueOf_4 : decode prog_8_method_4_code 4 = .ok (.invokevirtual 32, 3) := by decide +kernel
theorem d_Span_valueOf_7 : decode prog_8_method_4_code 7 = .ok (.istore 4, 2) := by decide +kernel
theorem d_Span_valueOf_9 : decode prog_8_method_4_code 9 = .ok (.iload 4, 2) := by decide +kernel
theorem d_Span_valueOf_11 : decode prog_8_method_4_code 11 = .ok (.invokestatic 42, 3) := by decide +kernel
theorem d_Span_valueOf_14 : decode prog_8_method_4_code 14 = .ok (.ifCond .eq 9, 3) := by decide +kernel
theorem d_Span_valueOf_17 : decode prog_8_method_4_code 17 = .ok (.iload_n 2, 1) := by decide +kernel
theorem d_Span_valueOf_18 : decode prog_8_method_4_code 18 = .ok (.iload_n 1, 1) := by decide +kernel
theorem d_Span_valueOf_19 : decode prog_8_method_4_code 19 = .ok (.isub, 1) := by decide +kernel
theorem d_Span_valueOf_20 : decode prog_8_method_4_code 20 = .ok (.goto 8, 3) := by decide +kernel
theorem d_Span_valueOf_23 : decode prog_8_method_4_code 23 = .ok (.iload_n 2, 1) := by decide +kernel
theorem d_Span_valueOf_24 : decode prog_8_method_4_code 24 = .ok (.iconst 1, 1) := by decide +kernel
theorem d_Span_valueOf_25 : decode prog_8_method_4_code 25 = .ok (.isub, 1) := by decide +kernel
theorem d_Span_valueOf_26 : decode prog_8_method_4_code 26 = .ok (.iload_n 1, 1) := by decide +kernel
theorem d_Span_valueOf_27 : decode prog_8_method_4_code 27 = .ok (.isub, 1) := by decide +kernel
theorem d_Span_valueOf_28 : decode prog_8_method_4_code 28 = .ok (.istore 5, 2) := by decide +kernel
theorem d_Span_valueOf_30 : decode prog_8_method_4_code 30 = .ok (.aload_n 0, 1) := by decide +kernel
theorem d_Span_valueOf_31 : decode prog_8_method_4_code 31 = .ok (.iload_n 1, 1) := by decide +kernel
theorem d_Span_valueOf_32 : decode prog_8_method_4_code 32 = .ok (.iload 5, 2) := by decide +kernel
theorem d_Span_valueOf_34 : decode prog_8_method_4_code 34 = .ok (.invokestatic 46, 3) := by decide +kernel
theorem d_Span_valueOf_37 : decode prog_8_method_4_code 37 = .ok (.lstore 6, 2) := by decide +kernel
theorem d_Span_valueOf_39 : decode prog_8_method_4_code 39 = .ok (.lload 6, 2) := by decide +kernel
theorem d_Span_valueOf_41 : decode prog_8_method_4_code 41 = .ok (.ldc2_w 40, 3) := by decide +kernel
theorem d_Span_valueOf_44 : decode prog_8_method_4_code 44 = .ok (.lcmp, 1) := by decide +kernel
theorem d_Span_valueOf_45 : decode prog_8_method_4_code 45 = .ok (.ifCond .ne 7, 3) := by decide +kernel
theorem d_Span_valueOf_48 : decode prog_8_method_4_code 48 = .ok (.ldc2_w 40, 3) := by decide +kernel
theorem d_Span_valueOf_51 : decode prog_8_method_4_code 51 = .ok (.lreturn, 1) := by decide +kernel
theorem d_Span_valueOf_52 : decode prog_8_method_4_code 52 = .ok (.iload_n 3, 1) := by decide +kernel
theorem d_Span_valueOf_53 : decode prog_8_method_4_code 53 = .ok (.ifCond .ne 58, 3) := by decide +kernel
theorem d_Span_valueOf_56 : decode prog_8_method_4_code 56 = .ok (.iload 4, 2) := by decide +kernel
theorem d_Span_valueOf_58 : decode prog_8_method_4_code 58 = .ok (.invokestatic 42, 3) := by decide +kernel
theorem d_Span_valueOf_61 : decode prog_8_method_4_code 61 = .ok (.ifCond .ne 17, 3) := by decide +kernel
theorem d_Span_valueOf_64 : decode prog_8_method_4_code 64 = .ok (.iload 4, 2) := by decide +kernel
theorem d_Span_valueOf_66 : decode prog_8_method_4_code 66 = .ok (.bipush 107, 2) := by decide +kernel
theorem d_Span_valueOf_68 : decode prog_8_method_4_code 68 = .ok (.if_icmp .eq 10, 3) := by decide +kernel
theorem d_Span_valueOf_71 : decode prog_8_method_4_code 71 = .ok (.iload 4, 2) := by decide +kernel
theorem d_Span_valueOf_73 : decode prog_8_method_4_code 73 = .ok (.bipush 109, 2) := by decide +kernel
theorem d_Span_valueOf_75 : decode prog_8_method_4_code 75 = .ok (.if_icmp .ne 7, 3) := by decide +kernel
theorem d_Span_valueOf_78 : decode prog_8_method_4_code 78 = .ok (.iconst 1, 1) := by decide +kernel
theorem d_Span_valueOf_79 : decode prog_8_method_4_code 79 = .ok (.goto 4, 3) := by decide +kernel
theorem d_Span_valueOf_82 : decode prog_8_method_4_code 82 = .ok (.iconst 0, 1) := by decide +kernel
theorem d_Span_valueOf_83 : decode prog_8_method_4_code 83 = .ok (.istore 8, 2) := by decide +kernel
theorem d_Span_valueOf_85 : decode prog_8_method_4_code 85 = .ok (.iload 5, 2) := by decide +kernel
theorem d_Span_valueOf_87 : decode prog_8_method_4_code 87 = .ok (.bipush 7, 2) := by decide +kernel
theorem d_Span_valueOf_89 : decode prog_8_method_4_code 89 = .ok (.if_icmp .gt 18, 3) := by decide +kernel
theorem d_Span_valueOf_92 : decode prog_8_method_4_code 92 = .ok (.iload 8, 2) := by decide +kernel
theorem d_Span_valueOf_94 : decode prog_8_method_4_code 94 = .ok (.ifCond .eq 13, 3) := by decide +kernel
theorem d_Span_valueOf_97 : decode prog_8_method_4_code 97 = .ok (.lload 6, 2) := by decide +kernel
theorem d_Span_valueOf_99 : decode prog_8_method_4_code 99 = .ok (.iload 4, 2) := by decide +kernel
theorem d_Span_valueOf_101 : decode prog_8_method_4_code 101 = .ok (.invokestatic 50, 3) := by decide +kernel
theorem d_Span_valueOf_104 : decode prog_8_method_4_code 104 = .ok (.goto 6, 3) := by decide +kernel
theorem d_Span_valueOf_107 : decode prog_8_method_4_code 107 = .ok (.ldc2_w 40, 3) := by decide +kernel
theorem d_Span_valueOf_110 : decode prog_8_method_4_code 110 = .ok (.lreturn, 1) := by decide +kernel
theorem d_Span_valueOf_111 : decode prog_8_method_4_code 111 = .ok (.iload 4, 2) := by decide +kernel
theorem d_Span_valueOf_113 : decode prog_8_method_4_code 113 = .ok (.invokestatic 42, 3) := by decide +kernel
theorem d_Span_valueOf_116 : decode prog_8_method_4_code 116 = .ok (.ifCond .eq 23, 3) := by decide +kernel
theorem d_Span_valueOf_119 : decode prog_8_method_4_code 119 = .ok (.iload 5, 2) := by decide +kernel
theorem d_Span_valueOf_121 : decode prog_8_method_4_code 121 = .ok (.bipush 8, 2) := by decide +kernel
theorem d_Span_valueOf_123 : decode prog_8_method_4_code 123 = .ok (.if_icmp .ne 12, 3) := by decide +kernel
theorem d_Span_valueOf_126 : decode prog_8_method_4_code 126 = .ok (.lload 6, 2) := by decide +kernel
theorem d_Span_valueOf_128 : decode prog_8_method_4_code 128 = .ok (.l2i, 1) := by decide +kernel
theorem d_Span_valueOf_129 : decode prog_8_method_4_code 129 = .ok (.invokestatic 54, 3) := by decide +kernel
theorem d_Span_valueOf_132 : decode prog_8_method_4_code 132 = .ok (.goto 6, 3) := by decide +kernel
theorem d_Span_valueOf_135 : decode prog_8_method_4_code 135 = .ok (.ldc2_w 40, 3) := by decide +kernel
theorem d_Span_valueOf_138 : decode prog_8_method_4_code 138 = .ok (.lreturn, 1) := by decide +kernel
theorem d_Span_valueOf_139 : decode prog_8_method_4_code 139 = .ok (.iload 5, 2) := by decide +kernel
theorem d_Span_valueOf_141 : decode prog_8_method_4_code 141 = .ok (.iconst 3, 1) := by decide +kernel
theorem d_Span_valueOf_142 : decode prog_8_method_4_code 142 = .ok (.if_icmp .gt 20, 3) := by decide +kernel
theorem d_Span_valueOf_145 : decode prog_8_method_4_code 145 = .ok (.lload 6, 2) := by decide +kernel
theorem d_Span_valueOf_147 : decode prog_8_method_4_code 147 = .ok (.lconst 0, 1) := by decide +kernel
theorem d_Span_valueOf_148 : decode prog_8_method_4_code 148 = .ok (.lcmp, 1) := by decide +kernel
theorem d_Span_valueOf_149 : decode prog_8_method_4_code 149 = .ok (.ifCond .le 13, 3) := by decide +kernel
theorem d_Span_valueOf_152 : decode prog_8_method_4_code 152 = .ok (.lload 6, 2) := by decide +kernel
theorem d_Span_valueOf_154 : decode prog_8_method_4_code 154 = .ok (.iload 4, 2) := by decide +kernel
theorem d_Span_valueOf_156 : decode prog_8_method_4_code 156 = .ok (.invokestatic 58, 3) := by decide +kernel
theorem d_Span_valueOf_159 : decode prog_8_method_4_code 159 = .ok (.goto 6, 3) := by decide +kernel
theorem d_Span_valueOf_162 : decode prog_8_method_4_code 162 = .ok (.ldc2_w 40, 3) := by decide +kernel
theorem d_Span_valueOf_165 : decode prog_8_method_4_code 165 = .ok (.lreturn, 1) := by decide +kernel
def y_Span_fits : MethodName := ⟨"MailQueries$Span", "fits", "(LMailQueries$Query;IIZ)Z"⟩
def rm_Span_fits : Room := { frames := 2, cells := 0, slots := 0, locals := 55 }
theorem d_Span_fits_0 : decode prog_8_method_2_code 0 = .ok (.aload_n 1, 1) := by decide +kernel
theorem d_Span_fits_1 : decode prog_8_method_2_code 1 = .ok (.bipush 46, 2) := by decide +kernel
theorem d_Span_fits_3 : decode prog_8_method_2_code 3 = .ok (.iload_n 2, 1) := by decide +kernel
theorem d_Span_fits_4 : decode prog_8_method_2_code 4 = .ok (.iload_n 3, 1) := by decide +kernel
theorem d_Span_fits_5 : decode prog_8_method_2_code 5 = .ok (.invokevirtual 18, 3) := by decide +kernel
theorem d_Span_fits_8 : decode prog_8_method_2_code 8 = .ok (.istore 5, 2) := by decide +kernel
theorem d_Span_fits_10 : decode prog_8_method_2_code 10 = .ok (.iload 5, 2) := by decide +kernel
theorem d_Span_fits_12 : decode prog_8_method_2_code 12 = .ok (.iconst (-1), 1) := by decide +kernel
theorem d_Span_fits_13 : decode prog_8_method_2_code 13 = .ok (.if_icmp .ne 22, 3) := by decide +kernel
theorem d_Span_fits_16 : decode prog_8_method_2_code 16 = .ok (.aload_n 1, 1) := by decide +kernel
theorem d_Span_fits_17 : decode prog_8_method_2_code 17 = .ok (.iload_n 2, 1) := by decide +kernel
theorem d_Span_fits_18 : decode prog_8_method_2_code 18 = .ok (.iload_n 3, 1) := by decide +kernel
theorem d_Span_fits_19 : decode prog_8_method_2_code 19 = .ok (.iload 4, 2) := by decide +kernel
theorem d_Span_fits_21 : decode prog_8_method_2_code 21 = .ok (.invokestatic 24, 3) := by decide +kernel
theorem d_Span_fits_24 : decode prog_8_method_2_code 24 = .ok (.lstore 6, 2) := by decide +kernel
theorem d_Span_fits_26 : decode prog_8_method_2_code 26 = .ok (.aload_n 0, 1) := by decide +kernel
theorem d_Span_fits_27 : decode prog_8_method_2_code 27 = .ok (.lload 6, 2) := by decide +kernel
theorem d_Span_fits_29 : decode prog_8_method_2_code 29 = .ok (.lload 6, 2) := by decide +kernel
theorem d_Span_fits_31 : decode prog_8_method_2_code 31 = .ok (.invokevirtual 28, 3) := by decide +kernel
theorem d_Span_fits_34 : decode prog_8_method_2_code 34 = .ok (.ireturn, 1) := by decide +kernel
theorem d_Span_fits_35 : decode prog_8_method_2_code 35 = .ok (.iload 5, 2) := by decide +kernel
theorem d_Span_fits_37 : decode prog_8_method_2_code 37 = .ok (.iconst 2, 1) := by decide +kernel
theorem d_Span_fits_38 : decode prog_8_method_2_code 38 = .ok (.iadd, 1) := by decide +kernel
theorem d_Span_fits_39 : decode prog_8_method_2_code 39 = .ok (.iload_n 3, 1) := by decide +kernel
theorem d_Span_fits_40 : decode prog_8_method_2_code 40 = .ok (.if_icmp .ne 7, 3) := by decide +kernel
theorem d_Span_fits_43 : decode prog_8_method_2_code 43 = .ok (.iconst 1, 1) := by decide +kernel
theorem d_Span_fits_44 : decode prog_8_method_2_code 44 = .ok (.goto 4, 3) := by decide +kernel
theorem d_Span_fits_47 : decode prog_8_method_2_code 47 = .ok (.iconst 0, 1) := by decide +kernel
theorem d_Span_fits_48 : decode prog_8_method_2_code 48 = .ok (.istore 6, 2) := by decide +kernel
theorem d_Span_fits_50 : decode prog_8_method_2_code 50 = .ok (.aload_n 1, 1) := by decide +kernel
theorem d_Span_fits_51 : decode prog_8_method_2_code 51 = .ok (.iload 5, 2) := by decide +kernel
theorem d_Span_fits_53 : decode prog_8_method_2_code 53 = .ok (.iconst 1, 1) := by decide +kernel
theorem d_Span_fits_54 : decode prog_8_method_2_code 54 = .ok (.iadd, 1) := by decide +kernel
theorem d_Span_fits_55 : decode prog_8_method_2_code 55 = .ok (.invokevirtual 32, 3) := by decide +kernel
theorem d_Span_fits_58 : decode prog_8_method_2_code 58 = .ok (.bipush 46, 2) := by decide +kernel
theorem d_Span_fits_60 : decode prog_8_method_2_code 60 = .ok (.if_icmp .ne 22, 3) := by decide +kernel
theorem d_Span_fits_63 : decode prog_8_method_2_code 63 = .ok (.iload 5, 2) := by decide +kernel
theorem d_Span_fits_65 : decode prog_8_method_2_code 65 = .ok (.iconst 2, 1) := by decide +kernel
theorem d_Span_fits_66 : decode prog_8_method_2_code 66 = .ok (.iadd, 1) := by decide +kernel
theorem d_Span_fits_67 : decode prog_8_method_2_code 67 = .ok (.iload_n 3, 1) := by decide +kernel
theorem d_Span_fits_68 : decode prog_8_method_2_code 68 = .ok (.if_icmp .gt 14, 3) := by decide +kernel
theorem d_Span_fits_71 : decode prog_8_method_2_code 71 = .ok (.iload 5, 2) := by decide +kernel
theorem d_Span_fits_73 : decode prog_8_method_2_code 73 = .ok (.iload_n 2, 1) := by decide +kernel
theorem d_Span_fits_74 : decode prog_8_method_2_code 74 = .ok (.if_icmp .ne 10, 3) := by decide +kernel
theorem d_Span_fits_77 : decode prog_8_method_2_code 77 = .ok (.iload 6, 2) := by decide +kernel
theorem d_Span_fits_79 : decode prog_8_method_2_code 79 = .ok (.ifCond .eq 5, 3) := by decide +kernel
theorem d_Span_fits_82 : decode prog_8_method_2_code 82 = .ok (.iconst 0, 1) := by decide +kernel
theorem d_Span_fits_83 : decode prog_8_method_2_code 83 = .ok (.ireturn, 1) := by decide +kernel
theorem d_Span_fits_84 : decode prog_8_method_2_code 84 = .ok (.iload 5, 2) := by decide +kernel
theorem d_Span_fits_86 : decode prog_8_method_2_code 86 = .ok (.iload_n 2, 1) := by decide +kernel
theorem d_Span_fits_87 : decode prog_8_method_2_code 87 = .ok (.if_icmp .ne 9, 3) := by decide +kernel
theorem d_Span_fits_90 : decode prog_8_method_2_code 90 = .ok (.ldc2_w 36, 3) := by decide +kernel
theorem d_Span_fits_93 : decode prog_8_method_2_code 93 = .ok (.goto 12, 3) := by decide +kernel
theorem d_Span_fits_96 : decode prog_8_method_2_code 96 = .ok (.aload_n 1, 1) := by decide +kernel
theorem d_Span_fits_97 : decode prog_8_method_2_code 97 = .ok (.iload_n 2, 1) := by decide +kernel
theorem d_Span_fits_98 : decode prog_8_method_2_code 98 = .ok (.iload 5, 2) := by decide +kernel
theorem d_Span_fits_100 : decode prog_8_method_2_code 100 = .ok (.iload 4, 2) := by decide +kernel
theorem d_Span_fits_102 : decode prog_8_method_2_code 102 = .ok (.invokestatic 24, 3) := by decide +kernel
theorem d_Span_fits_105 : decode prog_8_method_2_code 105 = .ok (.lstore 7, 2) := by decide +kernel
theorem d_Span_fits_107 : decode prog_8_method_2_code 107 = .ok (.iload 6, 2) := by decide +kernel
theorem d_Span_fits_109 : decode prog_8_method_2_code 109 = .ok (.ifCond .eq 9, 3) := by decide +kernel
theorem d_Span_fits_112 : decode prog_8_method_2_code 112 = .ok (.ldc2_w 38, 3) := by decide +kernel
theorem d_Span_fits_115 : decode prog_8_method_2_code 115 = .ok (.goto 14, 3) := by decide +kernel
theorem d_Span_fits_118 : decode prog_8_method_2_code 118 = .ok (.aload_n 1, 1) := by decide +kernel
theorem d_Span_fits_119 : decode prog_8_method_2_code 119 = .ok (.iload 5, 2) := by decide +kernel
theorem d_Span_fits_121 : decode prog_8_method_2_code 121 = .ok (.iconst 2, 1) := by decide +kernel
theorem d_Span_fits_122 : decode prog_8_method_2_code 122 = .ok (.iadd, 1) := by decide +kernel
theorem d_Span_fits_123 : decode prog_8_method_2_code 123 = .ok (.iload_n 3, 1) := by decide +kernel
theorem d_Span_fits_124 : decode prog_8_method_2_code 124 = .ok (.iload 4, 2) := by decide +kernel
theorem d_Span_fits_126 : decode prog_8_method_2_code 126 = .ok (.invokestatic 24, 3) := by decide +kernel
theorem d_Span_fits_129 : decode prog_8_method_2_code 129 = .ok (.lstore 9, 2) := by decide +kernel
theorem d_Span_fits_131 : decode prog_8_method_2_code 131 = .ok (.aload_n 0, 1) := by decide +kernel
theorem d_Span_fits_132 : decode prog_8_method_2_code 132 = .ok (.lload 7, 2) := by decide +kernel
theorem d_Span_fits_134 : decode prog_8_method_2_code 134 = .ok (.lload 9, 2) := by decide +kernel
theorem d_Span_fits_136 : decode prog_8_method_2_code 136 = .ok (.invokevirtual 28, 3) := by decide +kernel
theorem d_Span_fits_139 : decode prog_8_method_2_code 139 = .ok (.ireturn, 1) := by decide +kernel
theorem mb_Span_keeps : Mb y_Span_keeps prog_8_method_3_code 5 (some .boolean) 2 := ⟨W_Span_keeps_code, W_Span_keeps_in, sel_41, I_Span, by decide +kernel, by decide +kernel, by decide +kernel⟩
theorem mb_Span_numberOf : MbS y_Span_numberOf prog_8_method_5_code 7 (some .long) 3 := ⟨W_Span_numberOf_code, W_Span_numberOf_st, I_Span, by decide +kernel, by decide +kernel, by decide +kernel⟩
theorem mb_Span_bytesOf : MbS y_Span_bytesOf prog_8_method_6_code 5 (some .long) 2 := ⟨W_Span_bytesOf_code, W_Span_bytesOf_st, I_Span, by decide +kernel, by decide +kernel, by decide +kernel⟩
theorem mb_Span_daysAgo : MbS y_Span_daysAgo prog_8_method_7_code 3 (some .long) 2 := ⟨W_Span_daysAgo_code, W_Span_daysAgo_st, I_Span, by decide +kernel, by decide +kernel, by decide +kernel⟩
theorem mb_Span_dayOf : MbS y_Span_dayOf prog_8_method_8_code 8 (some .long) 1 := ⟨W_Span_dayOf_code, W_Span_dayOf_st, I_Span, by decide +kernel, by decide +kernel, by decide +kernel⟩
theorem mb_Span_valueOf : MbS y_Span_valueOf prog_8_method_4_code 9 (some .long) 4 := ⟨W_Span_valueOf_code, W_Span_valueOf_st, I_Span, by decide +kernel, by decide +kernel, by decide +kernel⟩
theorem mb_Span_fits : Mb y_Span_fits prog_8_method_2_code 11 (some .boolean) 4 := ⟨W_Span_fits_code, W_Span_fits_in, W_Span_fits_se, I_Span, by decide +kernel, by decide +kernel, by decide +kernel⟩
def Span_keeps (F : Nat) (t : StI) (x1 : Int64) (x3 : Int64) : Option (Int32 × StI) := if (lg_cmp x1 (-4000000000 : Int64)) = 0 then some ((0 : Int32), t) else if (lg_cmp x3 (-4000000000 : Int64)) = 0 then some ((0 : Int32), t) else letS (va_up t 0 (fun _ => x1.toInt32)) fun t_7 => letS (va_up t_7 1 (fun _ => x3.toInt32)) fun t_8 => some ((1 : Int32), t_8)
set_option maxHeartbeats 4000000 in
set_option maxRecDepth 100000 in
theorem k_Span_keeps {p : Program} {l : Launch} {e : Env} {s : State} {m : MethodId} {args : Array Value} {below : List Frame} {meth : Method} {c : Code} {g : Gz} {A : Nat → Prop} {F : Nat} {a_t : Nat → Nat} (hC : Cx prog_8_method_3_code 5 (some .boolean) R_Span p s m args meth c g A A) : ∀ (t : StI) (x1 : Int64) (x3 : Int64) (res : Int32 × StI), Span_keeps F t x1 x3 = some res → Go p l e rm_Span_keeps s m args below meth c g A A 5 (MQ below (EI g ((pic_Span g a_t res.2)) res.1 A) args s 0 0 A) ((pic_Span g a_t t)) [(0, .ref (a_t 0)), (1, .long x1), (3, .long x3)] 0 [] := by
  obtain ⟨hx, hb, hr, hml, hown, htb, hlocks, hA, hAA, hG⟩ := id hC
  have hK := hG.1
  intro t x1 x3 res h H locs ls hP hD hS hl
  rw [Span_keeps] at h
  refine lv_lload_n hx hb d_Span_keeps_0 rfl (lv_at hl 1 rfl) ?_
  refine lv_ldc2 (v := -4000000000) hx hb hown (htb _ K_Span_40) d_Span_keeps_1 ?_
  refine W.lcmp hx hb d_Span_keeps_4 ?_
  refine lv_if_eq (tgt := 16) hx hb d_Span_keeps_5 (by decide) (fun c5 => ?_) (fun c5 => ?_)
  · replace h := (if_pos c5).symm.trans h
    refine lv_iconst (v := 0) hx hb d_Span_keeps_16 (by decide) ?_
    cases h
    exact W.zret hx hb hr rfl (fun t ht hW => ⟨⟨_, (), rfl, rfl, by rw [ht]; exact hP, hD⟩, hS.F ht⟩) hS.2.2 d_Span_keeps_17
  · replace h := (if_neg c5).symm.trans h
    refine lv_lload_n hx hb d_Span_keeps_8 rfl (lv_at hl 2 rfl) ?_
    refine lv_ldc2 (v := -4000000000) hx hb hown (htb _ K_Span_40) d_Span_keeps_9 ?_
    refine W.lcmp hx hb d_Span_keeps_12 ?_
    refine lv_if_ne (tgt := 18) hx hb d_Span_keeps_13 (by decide) (fun c6 => ?_) (fun c6 => ?_)
    · replace h := (if_neg c6).symm.trans h
      refine lv_aload_n hx hb d_Span_keeps_18 rfl (lv_at hl 0 rfl) ?_
      refine lv_lload_n hx hb d_Span_keeps_19 rfl (lv_at hl 1 rfl) ?_
      refine lv_l2i hx hb d_Span_keeps_20 rfl ?_
      refine va_put (D := gD g) (ci := 2) (v := .int x1.toInt32) (ty := .int) (C := R_Span) (T := T_Span) (N := 2) hx hb htb in_Span ty_Span ty_Span_ok nm_Span hown hK hP hD hS 0 rfl rfl 0 (by decide) (htb _ L_Span_9) (fun _ h9 => h9) rfl (by decide +kernel) rfl rfl (Nat.le_of_ble_eq_true rfl) d_Span_keeps_21 (fun H locs hP hD hS => ?_)
      obtain ⟨t_7, et_7, h⟩ := letS_el h
      have hP : va_P (gD g) vwCl ((pic_Span g a_t t_7)) H := by rw [et_7]; exact hP
      have hD : va_D A ((pic_Span g a_t t_7)) := by rw [et_7]; exact hD
      refine lv_aload_n hx hb d_Span_keeps_24 rfl (lv_at hl 0 rfl) ?_
      refine lv_lload_n hx hb d_Span_keeps_25 rfl (lv_at hl 2 rfl) ?_
      refine lv_l2i hx hb d_Span_keeps_26 rfl ?_
      refine va_put (D := gD g) (ci := 2) (v := .int x3.toInt32) (ty := .int) (C := R_Span) (T := T_Span) (N := 2) hx hb htb in_Span ty_Span ty_Span_ok nm_Span hown hK hP hD hS 0 rfl rfl 1 (by decide) (htb _ L_Span_15) (fun _ h9 => h9) rfl (by decide +kernel) rfl rfl (Nat.le_of_ble_eq_true rfl) d_Span_keeps_27 (fun H locs hP hD hS => ?_)
      obtain ⟨t_8, et_8, h⟩ := letS_el h
      have hP : va_P (gD g) vwCl ((pic_Span g a_t t_8)) H := by rw [et_8]; exact hP
      have hD : va_D A ((pic_Span g a_t t_8)) := by rw [et_8]; exact hD
      refine lv_iconst (v := 1) hx hb d_Span_keeps_30 (by decide) ?_
      cases h
      exact W.zret hx hb hr rfl (fun t ht hW => ⟨⟨_, (), rfl, rfl, by rw [ht]; exact hP, hD⟩, hS.F ht⟩) hS.2.2 d_Span_keeps_31
    · replace h := (if_pos c6).symm.trans h
      refine lv_iconst (v := 0) hx hb d_Span_keeps_16 (by decide) ?_
      cases h
      exact W.zret hx hb hr rfl (fun t ht hW => ⟨⟨_, (), rfl, rfl, by rw [ht]; exact hP, hD⟩, hS.F ht⟩) hS.2.2 d_Span_keeps_17
theorem c_Span_keeps (l : Launch) (g : Gz) (F : Nat) (a_t : Nat → Nat) (t : StI) (x1 : Int64) (x3 : Int64) (res : Int32 × StI) (h : Span_keeps F t x1 x3 = some res) : ∀ sz : Nat, Met l y_Span_keeps (.code y_Span_keeps prog_8_method_3_code 5 (some .boolean) :: TBL) rm_Span_keeps (va_Pc [.ref (a_t 0), .long x1, .long x3] (Pre0 g ((pic_Span g a_t t)) sz)) (EI g ((pic_Span g a_t res.2)) res.1 (va_A ((pic_Span g a_t t)) sz)) 0 0 (va_A ((pic_Span g a_t t)) sz) :=
  ct_w (Qc := fun A => EI g ((pic_Span g a_t res.2)) res.1 A) (by decide) (Nat.le_of_ble_eq_true rfl) (fun p e s m args below meth c A hC => k_Span_keeps hC t x1 x3 res h)
def Span_numberOf_34 (F : Nat) : Nat → StI → Int32 → Int32 → Int64 → Int32 → Option (Int64)
  | 0, _, _, _, _, _ => none
  | n + 1, p1, x1, x2, x3, x5 => if x2 ≤ x5 then some x3 else if (x1 + x5) < 0 ∨ 600 ≤ (x1 + x5).toNatClampNeg then none else if (((p1 0) (x1 + x5).toNatClampNeg) - (48 : Int32)) < 0 then some (-4000000000 : Int64) else if (((p1 0) (x1 + x5).toNatClampNeg) - (48 : Int32)) ≤ (9 : Int32) then Span_numberOf_34 F n p1 x1 x2 ((x3 * (10 : Int64)) + (((p1 0) (x1 + x5).toNatClampNeg) - (48 : Int32)).toInt64) (x5 + (1 : Int32)) else some (-4000000000 : Int64)
def Span_numberOf (F : Nat) (p1 : StI) (x1 : Int32) (x2 : Int32) : Option (Int64) := if x2 < (1 : Int32) then some (-4000000000 : Int64) else if (8 : Int32) < x2 then some (-4000000000 : Int64) else if x1 < 0 then some (-4000000000 : Int64) else if (x1 + x2) ≤ (p1 1 0) then Span_numberOf_34 F F p1 x1 x2 (0 : Int64) (0 : Int32) else some (-4000000000 : Int64)
set_option maxHeartbeats 4000000 in
set_option maxRecDepth 100000 in
theorem k_Span_numberOf_34 {p : Program} {l : Launch} {e : Env} {s : State} {m : MethodId} {args : Array Value} {below : List Frame} {meth : Method} {c : Code} {g : Gz} {A2 A : Nat → Prop} {F : Nat} {a_p1 : Nat → Nat} (hC : Cx prog_8_method_5_code 7 (some .long) R_Span p s m args meth c g A2 A) : ∀ (n : Nat) (p1 : StI) (x1 : Int32) (x2 : Int32) (x3 : Int64) (x5 : Int32) (res : Int64), Span_numberOf_34 F n p1 x1 x2 x3 x5 = some res → Go p l e rm_Span_numberOf s m args below meth c g A2 A 7 (MQ below (RL res A) args s 0 0 A) ((pic_Query g a_p1 p1)) [(0, .ref (a_p1 0)), (1, .int x1), (2, .int x2), (3, .long x3), (5, .int x5)] 34 [] := by
  obtain ⟨hx, hb, hr, hml, hown, htb, hlocks, hA, hAA, hG⟩ := id hC
  have hK := hG.1
  intro n
  induction n with
  | zero => intro p1 x1 x2 x3 x5 res h; rw [Span_numberOf_34] at h; cases h
  | succ n ih =>
    intro p1 x1 x2 x3 x5 res h H locs ls hP hD hS hl
    rw [Span_numberOf_34] at h
    refine lv_iload hx hb d_Span_numberOf_34 (lv_at hl 4 rfl) ?_
    refine lv_iload_n hx hb d_Span_numberOf_36 rfl (lv_at hl 2 rfl) ?_
    refine lv_icmp_ge (tgt := 86) hx hb d_Span_numberOf_37 (by decide) (fun c9 => ?_) (fun c9 => ?_)
    · replace h := (if_pos c9).symm.trans h
      refine lv_lload_n hx hb d_Span_numberOf_86 rfl (lv_at hl 3 rfl) ?_
      cases h
      exact W.lret hx hb hr (fun t ht hW => ⟨⟨_, (), rfl, rfl, trivial⟩, hS.F ht⟩) hS.2.2 d_Span_numberOf_87
    · replace h := (if_neg c9).symm.trans h
      refine lv_aload_n hx hb d_Span_numberOf_40 rfl (lv_at hl 0 rfl) ?_
      refine va_getN (D := gD g) (ci := 1) (v := .ref (a_p1 1)) (C := R_Query) (T := T_Query) (N := 14) hx hb htb in_Query hown hK hP 0 rfl rfl 0 (by decide) (nf_of hG N_Span_64) (fun _ h9 => h9) rfl d_Span_numberOf_41 ?_
      refine lv_iload_n hx hb d_Span_numberOf_44 rfl (lv_at hl 1 rfl) ?_
      refine lv_iload hx hb d_Span_numberOf_45 (lv_at hl 4 rfl) ?_
      refine lv_iadd hx hb d_Span_numberOf_47 ?_
      by_cases c10 : ((x1 + x5) < 0 ∨ 600 ≤ (x1 + x5).toNatClampNeg)
      · replace h := (if_pos c10).symm.trans h
        cases h
      replace h := (if_neg c10).symm.trans h
      refine va_cald hx hb hK hP 1 1 rfl rfl c10 d_Span_numberOf_48 ?_
      refine lv_bipush (v := 48) hx hb d_Span_numberOf_49 (by decide) ?_
      refine lv_isub hx hb d_Span_numberOf_51 ?_
      refine lv_istore (lv' := [(6, .int (((p1 0) (x1 + x5).toNatClampNeg) - (48 : Int32))), (0, .ref (a_p1 0)), (1, .int x1), (2, .int x2), (3, .long x3), (5, .int x5)]) hx hb d_Span_numberOf_52 hl (by decide) rfl (fun ls hl => ?_)
      refine lv_iload hx hb d_Span_numberOf_54 (lv_at hl 0 rfl) ?_
      refine lv_if_lt (tgt := 66) hx hb d_Span_numberOf_56 (by decide) (fun c11 => ?_) (fun c11 => ?_)
      · replace h := (if_pos c11).symm.trans h
        refine lv_ldc2 (v := -4000000000) hx hb hown (htb _ K_Span_40) d_Span_numberOf_66 ?_
        cases h
        exact W.lret hx hb hr (fun t ht hW => ⟨⟨_, (), rfl, rfl, trivial⟩, hS.F ht⟩) hS.2.2 d_Span_numberOf_69
      · replace h := (if_neg c11).symm.trans h
        refine lv_iload hx hb d_Span_numberOf_59 (lv_at hl 0 rfl) ?_
        refine lv_bipush (v := 9) hx hb d_Span_numberOf_61 (by decide) ?_
        refine lv_icmp_le (tgt := 70) hx hb d_Span_numberOf_63 (by decide) (fun c12 => ?_) (fun c12 => ?_)
        · replace h := (if_pos c12).symm.trans h
          refine lv_lload_n hx hb d_Span_numberOf_70 rfl (lv_at hl 4 rfl) ?_
          refine lv_ldc2 (v := 10) hx hb hown (htb _ K_Span_68) d_Span_numberOf_71 ?_
          refine lv_lmul hx hb d_Span_numberOf_74 ?_
          refine lv_iload hx hb d_Span_numberOf_75 (lv_at hl 0 rfl) ?_
          refine lv_i2l hx hb d_Span_numberOf_77 rfl ?_
          refine lv_ladd hx hb d_Span_numberOf_78 ?_
          refine lv_lstore_n (lv' := [(3, .long ((x3 * (10 : Int64)) + (((p1 0) (x1 + x5).toNatClampNeg) - (48 : Int32)).toInt64)), (6, .int (((p1 0) (x1 + x5).toNatClampNeg) - (48 : Int32))), (0, .ref (a_p1 0)), (1, .int x1), (2, .int x2), (5, .int x5)]) hx hb d_Span_numberOf_79 rfl hl (by decide) rfl (fun ls hl => ?_)
          refine lv_iinc (v := (x5 + (1 : Int32))) (lv' := [(5, .int (x5 + (1 : Int32))), (3, .long ((x3 * (10 : Int64)) + (((p1 0) (x1 + x5).toNatClampNeg) - (48 : Int32)).toInt64)), (6, .int (((p1 0) (x1 + x5).toNatClampNeg) - (48 : Int32))), (0, .ref (a_p1 0)), (1, .int x1), (2, .int x2)]) hx hb d_Span_numberOf_80 hl (k := 5) rfl rfl (by decide) rfl (fun ls hl => ?_)
          refine lv_goto (tgt := 34) hx hb d_Span_numberOf_83 (by decide) ?_
          exact ih _ _ _ _ _ _ h _ _ _ hP hD hS (lv_sub hl [3, 4, 5, 1, 0] rfl)
        · replace h := (if_neg c12).symm.trans h
          refine lv_ldc2 (v := -4000000000) hx hb hown (htb _ K_Span_40) d_Span_numberOf_66 ?_
          cases h
          exact W.lret hx hb hr (fun t ht hW => ⟨⟨_, (), rfl, rfl, trivial⟩, hS.F ht⟩) hS.2.2 d_Span_numberOf_69
set_option maxHeartbeats 4000000 in
set_option maxRecDepth 100000 in
theorem k_Span_numberOf {p : Program} {l : Launch} {e : Env} {s : State} {m : MethodId} {args : Array Value} {below : List Frame} {meth : Method} {c : Code} {g : Gz} {A2 A : Nat → Prop} {F : Nat} {a_p1 : Nat → Nat} (hC : Cx prog_8_method_5_code 7 (some .long) R_Span p s m args meth c g A2 A) : ∀ (p1 : StI) (x1 : Int32) (x2 : Int32) (res : Int64), Span_numberOf F p1 x1 x2 = some res → Go p l e rm_Span_numberOf s m args below meth c g A2 A 7 (MQ below (RL res A) args s 0 0 A) ((pic_Query g a_p1 p1)) [(0, .ref (a_p1 0)), (1, .int x1), (2, .int x2)] 0 [] := by
  obtain ⟨hx, hb, hr, hml, hown, htb, hlocks, hA, hAA, hG⟩ := id hC
  have hK := hG.1
  intro p1 x1 x2 res h H locs ls hP hD hS hl
  rw [Span_numberOf] at h
  refine lv_iload_n hx hb d_Span_numberOf_0 rfl (lv_at hl 2 rfl) ?_
  refine lv_iconst (v := 1) hx hb d_Span_numberOf_1 (by decide) ?_
  refine lv_icmp_lt (tgt := 25) hx hb d_Span_numberOf_2 (by decide) (fun c13 => ?_) (fun c13 => ?_)
  · replace h := (if_pos c13).symm.trans h
    refine lv_ldc2 (v := -4000000000) hx hb hown (htb _ K_Span_40) d_Span_numberOf_25 ?_
    cases h
    exact W.lret hx hb hr (fun t ht hW => ⟨⟨_, (), rfl, rfl, trivial⟩, hS.F ht⟩) hS.2.2 d_Span_numberOf_28
  · replace h := (if_neg c13).symm.trans h
    refine lv_iload_n hx hb d_Span_numberOf_5 rfl (lv_at hl 2 rfl) ?_
    refine lv_bipush (v := 8) hx hb d_Span_numberOf_6 (by decide) ?_
    refine lv_icmp_gt (tgt := 25) hx hb d_Span_numberOf_8 (by decide) (fun c14 => ?_) (fun c14 => ?_)
    · replace h := (if_pos c14).symm.trans h
      refine lv_ldc2 (v := -4000000000) hx hb hown (htb _ K_Span_40) d_Span_numberOf_25 ?_
      cases h
      exact W.lret hx hb hr (fun t ht hW => ⟨⟨_, (), rfl, rfl, trivial⟩, hS.F ht⟩) hS.2.2 d_Span_numberOf_28
    · replace h := (if_neg c14).symm.trans h
      refine lv_iload_n hx hb d_Span_numberOf_11 rfl (lv_at hl 1 rfl) ?_
      refine lv_if_lt (tgt := 25) hx hb d_Span_numberOf_12 (by decide) (fun c15 => ?_) (fun c15 => ?_)
      · replace h := (if_pos c15).symm.trans h
        refine lv_ldc2 (v := -4000000000) hx hb hown (htb _ K_Span_40) d_Span_numberOf_25 ?_
        cases h
        exact W.lret hx hb hr (fun t ht hW => ⟨⟨_, (), rfl, rfl, trivial⟩, hS.F ht⟩) hS.2.2 d_Span_numberOf_28
      · replace h := (if_neg c15).symm.trans h
        refine lv_iload_n hx hb d_Span_numberOf_15 rfl (lv_at hl 1 rfl) ?_
        refine lv_iload_n hx hb d_Span_numberOf_16 rfl (lv_at hl 2 rfl) ?_
        refine lv_iadd hx hb d_Span_numberOf_17 ?_
        refine lv_aload_n hx hb d_Span_numberOf_18 rfl (lv_at hl 0 rfl) ?_
        refine va_getN (D := gD g) (ci := 1) (v := .int (p1 1 0)) (C := R_Query) (T := T_Query) (N := 14) hx hb htb in_Query hown hK hP 0 rfl rfl 1 (by decide) (nf_of hG N_Span_61) (fun _ h9 => h9) rfl d_Span_numberOf_19 ?_
        refine lv_icmp_le (tgt := 29) hx hb d_Span_numberOf_22 (by decide) (fun c16 => ?_) (fun c16 => ?_)
        · replace h := (if_pos c16).symm.trans h
          refine lv_lconst (v := 0) hx hb d_Span_numberOf_29 (by decide) ?_
          refine lv_lstore_n (lv' := [(3, .long (0 : Int64)), (0, .ref (a_p1 0)), (1, .int x1), (2, .int x2)]) hx hb d_Span_numberOf_30 rfl hl (by decide) rfl (fun ls hl => ?_)
          refine lv_iconst (v := 0) hx hb d_Span_numberOf_31 (by decide) ?_
          refine lv_istore (lv' := [(5, .int (0 : Int32)), (3, .long (0 : Int64)), (0, .ref (a_p1 0)), (1, .int x1), (2, .int x2)]) hx hb d_Span_numberOf_32 hl (by decide) rfl (fun ls hl => ?_)
          exact k_Span_numberOf_34 hC F _ _ _ _ _ _ h _ _ _ hP hD hS (lv_sub hl [2, 3, 4, 1, 0] rfl)
        · replace h := (if_neg c16).symm.trans h
          refine lv_ldc2 (v := -4000000000) hx hb hown (htb _ K_Span_40) d_Span_numberOf_25 ?_
          cases h
          exact W.lret hx hb hr (fun t ht hW => ⟨⟨_, (), rfl, rfl, trivial⟩, hS.F ht⟩) hS.2.2 d_Span_numberOf_28
theorem c_Span_numberOf (l : Launch) (g : Gz) (F : Nat) (a_p1 : Nat → Nat) (p1 : StI) (x1 : Int32) (x2 : Int32) (res : Int64) (h : Span_numberOf F p1 x1 x2 = some res) : ∀ sz : Nat, Met l y_Span_numberOf (.code y_Span_numberOf prog_8_method_5_code 7 (some .long) :: TBL) rm_Span_numberOf (va_Pc [.ref (a_p1 0), .int x1, .int x2] (Pre0 g ((pic_Query g a_p1 p1)) sz)) (RL res (fun q => sz ≤ q)) 0 0 (fun q => sz ≤ q) :=
  ct_r (Qc := fun A => RL res A) (by decide) (Nat.le_of_ble_eq_true rfl) (fun p e s m args below meth c A2 A hC => k_Span_numberOf hC p1 x1 x2 res h)
def Span_bytesOf_29 (F : Nat) (y0 : Int64) : Option (Int64) := if (lg_cmp y0 (2147483647 : Int64)) ≤ 0 then some y0 else some (2147483647 : Int64)
def Span_bytesOf (F : Nat) (x0 : Int64) (x2 : Int32) : Option (Int64) := if x2 = (107 : Int32) then Span_bytesOf_29 F (x0 * (1024 : Int64)) else if x2 = (109 : Int32) then Span_bytesOf_29 F (x0 * (1048576 : Int64)) else Span_bytesOf_29 F x0
set_option maxHeartbeats 4000000 in
set_option maxRecDepth 100000 in
theorem k_Span_bytesOf_29 {p : Program} {l : Launch} {e : Env} {s : State} {m : MethodId} {args : Array Value} {below : List Frame} {meth : Method} {c : Code} {g : Gz} {A2 A : Nat → Prop} {F : Nat} (hC : Cx prog_8_method_6_code 5 (some .long) R_Span p s m args meth c g A2 A) : ∀ (y0 : Int64) (res : Int64), Span_bytesOf_29 F y0 = some res → Go p l e rm_Span_bytesOf s m args below meth c g A2 A 5 (MQ below (RL res A) args s 0 0 A) ([]) [] 29 [.long y0] := by
  obtain ⟨hx, hb, hr, hml, hown, htb, hlocks, hA, hAA, hG⟩ := id hC
  have hK := hG.1
  intro y0 res h H locs ls hP hD hS hl
  rw [Span_bytesOf_29] at h
  refine lv_lstore_n (lv' := [(3, .long y0)]) hx hb d_Span_bytesOf_29 rfl hl (by decide) rfl (fun ls hl => ?_)
  refine lv_lload_n hx hb d_Span_bytesOf_30 rfl (lv_at hl 0 rfl) ?_
  refine lv_ldc2 (v := 2147483647) hx hb hown (htb _ K_Span_38) d_Span_bytesOf_31 ?_
  refine W.lcmp hx hb d_Span_bytesOf_34 ?_
  refine lv_if_le (tgt := 44) hx hb d_Span_bytesOf_35 (by decide) (fun c4 => ?_) (fun c4 => ?_)
  · replace h := (if_pos c4).symm.trans h
    refine lv_lload_n hx hb d_Span_bytesOf_44 rfl (lv_at hl 0 rfl) ?_
    cases h
    exact W.lret hx hb hr (fun t ht hW => ⟨⟨_, (), rfl, rfl, trivial⟩, hS.F ht⟩) hS.2.2 d_Span_bytesOf_45
  · replace h := (if_neg c4).symm.trans h
    refine lv_ldc2 (v := 2147483647) hx hb hown (htb _ K_Span_38) d_Span_bytesOf_38 ?_
    refine lv_goto (tgt := 45) hx hb d_Span_bytesOf_41 (by decide) ?_
    cases h
    exact W.lret hx hb hr (fun t ht hW => ⟨⟨_, (), rfl, rfl, trivial⟩, hS.F ht⟩) hS.2.2 d_Span_bytesOf_45
set_option maxHeartbeats 4000000 in
set_option maxRecDepth 100000 in
theorem k_Span_bytesOf {p : Program} {l : Launch} {e : Env} {s : State} {m : MethodId} {args : Array Value} {below : List Frame} {meth : Method} {c : Code} {g : Gz} {A2 A : Nat → Prop} {F : Nat} (hC : Cx prog_8_method_6_code 5 (some .long) R_Span p s m args meth c g A2 A) : ∀ (x0 : Int64) (x2 : Int32) (res : Int64), Span_bytesOf F x0 x2 = some res → Go p l e rm_Span_bytesOf s m args below meth c g A2 A 5 (MQ below (RL res A) args s 0 0 A) ([]) [(0, .long x0), (2, .int x2)] 0 [] := by
  obtain ⟨hx, hb, hr, hml, hown, htb, hlocks, hA, hAA, hG⟩ := id hC
  have hK := hG.1
  intro x0 x2 res h H locs ls hP hD hS hl
  rw [Span_bytesOf] at h
  refine lv_iload_n hx hb d_Span_bytesOf_0 rfl (lv_at hl 1 rfl) ?_
  refine lv_bipush (v := 107) hx hb d_Span_bytesOf_1 (by decide) ?_
  refine lv_icmp_ne (tgt := 14) hx hb d_Span_bytesOf_3 (by decide) (fun c5 => ?_) (fun c5 => ?_)
  · replace h := (if_neg c5).symm.trans h
    refine lv_iload_n hx hb d_Span_bytesOf_14 rfl (lv_at hl 1 rfl) ?_
    refine lv_bipush (v := 109) hx hb d_Span_bytesOf_15 (by decide) ?_
    refine lv_icmp_ne (tgt := 28) hx hb d_Span_bytesOf_17 (by decide) (fun c6 => ?_) (fun c6 => ?_)
    · replace h := (if_neg c6).symm.trans h
      refine lv_lload_n hx hb d_Span_bytesOf_28 rfl (lv_at hl 0 rfl) ?_
      exact k_Span_bytesOf_29 hC _ _ h _ _ _ hP hD hS (lv_sub hl [] rfl)
    · replace h := (if_pos c6).symm.trans h
      refine lv_lload_n hx hb d_Span_bytesOf_20 rfl (lv_at hl 0 rfl) ?_
      refine lv_ldc2 (v := 1048576) hx hb hown (htb _ K_Span_72) d_Span_bytesOf_21 ?_
      refine lv_lmul hx hb d_Span_bytesOf_24 ?_
      refine lv_goto (tgt := 29) hx hb d_Span_bytesOf_25 (by decide) ?_
      exact k_Span_bytesOf_29 hC _ _ h _ _ _ hP hD hS (lv_sub hl [] rfl)
  · replace h := (if_pos c5).symm.trans h
    refine lv_lload_n hx hb d_Span_bytesOf_6 rfl (lv_at hl 0 rfl) ?_
    refine lv_ldc2 (v := 1024) hx hb hown (htb _ K_Span_70) d_Span_bytesOf_7 ?_
    refine lv_lmul hx hb d_Span_bytesOf_10 ?_
    refine lv_goto (tgt := 29) hx hb d_Span_bytesOf_11 (by decide) ?_
    exact k_Span_bytesOf_29 hC _ _ h _ _ _ hP hD hS (lv_sub hl [] rfl)
theorem c_Span_bytesOf (l : Launch) (g : Gz) (F : Nat) (x0 : Int64) (x2 : Int32) (res : Int64) (h : Span_bytesOf F x0 x2 = some res) : ∀ sz : Nat, Met l y_Span_bytesOf (.code y_Span_bytesOf prog_8_method_6_code 5 (some .long) :: TBL) rm_Span_bytesOf (va_Pc [.long x0, .int x2] (Pre0 g ([]) sz)) (RL res (fun q => sz ≤ q)) 0 0 (fun q => sz ≤ q) :=
  ct_r (Qc := fun A => RL res A) (by decide) (Nat.le_of_ble_eq_true rfl) (fun p e s m args below meth c A2 A hC => k_Span_bytesOf hC x0 x2 res h)
def Span_daysAgo (F : Nat) (x0 : Int64) (x2 : Int32) : Option (Int64) := if x2 = (100 : Int32) then some (-x0) else if x2 = (109 : Int32) then some ((-x0) * (30 : Int64)) else if x2 = (119 : Int32) then some ((-x0) * (7 : Int64)) else if x2 = (121 : Int32) then some ((-x0) * (365 : Int64)) else some (-4000000000 : Int64)
set_option maxHeartbeats 4000000 in
set_option maxRecDepth 100000 in
theorem k_Span_daysAgo {p : Program} {l : Launch} {e : Env} {s : State} {m : MethodId} {args : Array Value} {below : List Frame} {meth : Method} {c : Code} {g : Gz} {A2 A : Nat → Prop} {F : Nat} (hC : Cx prog_8_method_7_code 3 (some .long) R_Span p s m args meth c g A2 A) : ∀ (x0 : Int64) (x2 : Int32) (res : Int64), Span_daysAgo F x0 x2 = some res → Go p l e rm_Span_daysAgo s m args below meth c g A2 A 3 (MQ below (RL res A) args s 0 0 A) ([]) [(0, .long x0), (2, .int x2)] 0 [] := by
  obtain ⟨hx, hb, hr, hml, hown, htb, hlocks, hA, hAA, hG⟩ := id hC
  have hK := hG.1
  intro x0 x2 res h H locs ls hP hD hS hl
  rw [Span_daysAgo] at h
  refine lv_iload_n hx hb d_Span_daysAgo_0 rfl (lv_at hl 1 rfl) ?_
  by_cases c5 : x2 = (100 : Int32)
  · replace h := (if_pos c5).symm.trans h
    refine lv_lookup (off := 43) (tgt := 44) hx hb d_Span_daysAgo_1 (by decide) (by rw [c5]; rfl) (by decide) ?_
    refine lv_lload_n hx hb d_Span_daysAgo_44 rfl (lv_at hl 0 rfl) ?_
    refine lv_lneg hx hb d_Span_daysAgo_45 ?_
    cases h
    exact W.lret hx hb hr (fun t ht hW => ⟨⟨_, (), rfl, rfl, trivial⟩, hS.F ht⟩) hS.2.2 d_Span_daysAgo_46
  replace h := (if_neg c5).symm.trans h
  by_cases c6 : x2 = (109 : Int32)
  · replace h := (if_pos c6).symm.trans h
    refine lv_lookup (off := 53) (tgt := 54) hx hb d_Span_daysAgo_1 (by decide) (by rw [c6]; rfl) (by decide) ?_
    refine lv_lload_n hx hb d_Span_daysAgo_54 rfl (lv_at hl 0 rfl) ?_
    refine lv_lneg hx hb d_Span_daysAgo_55 ?_
    refine lv_ldc2 (v := 30) hx hb hown (htb _ K_Span_76) d_Span_daysAgo_56 ?_
    refine lv_lmul hx hb d_Span_daysAgo_59 ?_
    cases h
    exact W.lret hx hb hr (fun t ht hW => ⟨⟨_, (), rfl, rfl, trivial⟩, hS.F ht⟩) hS.2.2 d_Span_daysAgo_60
  replace h := (if_neg c6).symm.trans h
  by_cases c7 : x2 = (119 : Int32)
  · replace h := (if_pos c7).symm.trans h
    refine lv_lookup (off := 46) (tgt := 47) hx hb d_Span_daysAgo_1 (by decide) (by rw [c7]; rfl) (by decide) ?_
    refine lv_lload_n hx hb d_Span_daysAgo_47 rfl (lv_at hl 0 rfl) ?_
    refine lv_lneg hx hb d_Span_daysAgo_48 ?_
    refine lv_ldc2 (v := 7) hx hb hown (htb _ K_Span_74) d_Span_daysAgo_49 ?_
    refine lv_lmul hx hb d_Span_daysAgo_52 ?_
    cases h
    exact W.lret hx hb hr (fun t ht hW => ⟨⟨_, (), rfl, rfl, trivial⟩, hS.F ht⟩) hS.2.2 d_Span_daysAgo_53
  replace h := (if_neg c7).symm.trans h
  by_cases c8 : x2 = (121 : Int32)
  · replace h := (if_pos c8).symm.trans h
    refine lv_lookup (off := 60) (tgt := 61) hx hb d_Span_daysAgo_1 (by decide) (by rw [c8]; rfl) (by decide) ?_
    refine lv_lload_n hx hb d_Span_daysAgo_61 rfl (lv_at hl 0 rfl) ?_
    refine lv_lneg hx hb d_Span_daysAgo_62 ?_
    refine lv_ldc2 (v := 365) hx hb hown (htb _ K_Span_78) d_Span_daysAgo_63 ?_
    refine lv_lmul hx hb d_Span_daysAgo_66 ?_
    cases h
    exact W.lret hx hb hr (fun t ht hW => ⟨⟨_, (), rfl, rfl, trivial⟩, hS.F ht⟩) hS.2.2 d_Span_daysAgo_67
  replace h := (if_neg c8).symm.trans h
  refine lv_lookup (off := 67) (tgt := 68) hx hb d_Span_daysAgo_1 (by decide) (by show Op.lookupswitch.offset [(100, 43), (109, 53), (119, 46), (121, 60)] (67) _ = _; rw [lv_osw c5 (by decide), lv_osw c6 (by decide), lv_osw c7 (by decide), lv_osw c8 (by decide)]; rfl) (by decide) ?_
  refine lv_ldc2 (v := -4000000000) hx hb hown (htb _ K_Span_40) d_Span_daysAgo_68 ?_
  cases h
  exact W.lret hx hb hr (fun t ht hW => ⟨⟨_, (), rfl, rfl, trivial⟩, hS.F ht⟩) hS.2.2 d_Span_daysAgo_71
theorem c_Span_daysAgo (l : Launch) (g : Gz) (F : Nat) (x0 : Int64) (x2 : Int32) (res : Int64) (h : Span_daysAgo F x0 x2 = some res) : ∀ sz : Nat, Met l y_Span_daysAgo (.code y_Span_daysAgo prog_8_method_7_code 3 (some .long) :: TBL) rm_Span_daysAgo (va_Pc [.long x0, .int x2] (Pre0 g ([]) sz)) (RL res (fun q => sz ≤ q)) 0 0 (fun q => sz ≤ q) :=
  ct_r (Qc := fun A => RL res A) (by decide) (Nat.le_of_ble_eq_true rfl) (fun p e s m args below meth c A2 A hC => k_Span_daysAgo hC x0 x2 res h)
def Span_dayOf_164 (F : Nat) (x1 : Int32) (x2 : Int32) (x3 : Int32) (x7 : Int32) : Option (Int64) := if (x2 - (1 : Int32)) < 0 ∨ 13 ≤ (x2 - (1 : Int32)).toNatClampNeg then none else some (((((((365 : Int32) * (x1 - (1970 : Int32))) + x7) + ((tabDAYS) (x2 - (1 : Int32)).toNatClampNeg)) + x3) - (1 : Int32)).toInt64)
def Span_dayOf_116 (F : Nat) (x1 : Int32) (x2 : Int32) (x3 : Int32) (x4 : Int32) (y0 : Int32) (y1 : Int32) : Option (Int64) := if y1 ≤ y0 then if x4 = 0 then Span_dayOf_164 F x1 x2 x3 (((((x1 - (1 : Int32)) / (4 : Int32)) - ((x1 - (1 : Int32)) / (100 : Int32))) + ((x1 - (1 : Int32)) / (400 : Int32))) - (477 : Int32)) else if x2 ≤ (2 : Int32) then Span_dayOf_164 F x1 x2 x3 (((((x1 - (1 : Int32)) / (4 : Int32)) - ((x1 - (1 : Int32)) / (100 : Int32))) + ((x1 - (1 : Int32)) / (400 : Int32))) - (477 : Int32)) else Span_dayOf_164 F x1 x2 x3 ((((((x1 - (1 : Int32)) / (4 : Int32)) - ((x1 - (1 : Int32)) / (100 : Int32))) + ((x1 - (1 : Int32)) / (400 : Int32))) - (477 : Int32)) + (1 : Int32)) else some (-4000000000 : Int64)
def Span_dayOf_114 (F : Nat) (x1 : Int32) (x2 : Int32) (x3 : Int32) (x4 : Int32) (x5 : Int32) (y0 : Int32) : Option (Int64) := Span_dayOf_116 F x1 x2 x3 x4 x5 y0
def Span_dayOf_79 (F : Nat) (x1 : Int32) (x2 : Int32) (x3 : Int32) (y0 : Int32) : Option (Int64) := if x2 < 0 ∨ 13 ≤ x2.toNatClampNeg then none else if (x2 - (1 : Int32)) < 0 ∨ 13 ≤ (x2 - (1 : Int32)).toNatClampNeg then none else if y0 = 0 then Span_dayOf_114 F x1 x2 x3 y0 (((tabDAYS) x2.toNatClampNeg) - ((tabDAYS) (x2 - (1 : Int32)).toNatClampNeg)) x3 else if x2 = (2 : Int32) then Span_dayOf_116 F x1 x2 x3 y0 ((((tabDAYS) x2.toNatClampNeg) - ((tabDAYS) (x2 - (1 : Int32)).toNatClampNeg)) + (1 : Int32)) x3 else Span_dayOf_114 F x1 x2 x3 y0 (((tabDAYS) x2.toNatClampNeg) - ((tabDAYS) (x2 - (1 : Int32)).toNatClampNeg)) x3
def Span_dayOf_78 (F : Nat) (x1 : Int32) (x2 : Int32) (x3 : Int32) : Option (Int64) := Span_dayOf_79 F x1 x2 x3 (0 : Int32)
def Span_dayOf_74 (F : Nat) (x1 : Int32) (x2 : Int32) (x3 : Int32) : Option (Int64) := Span_dayOf_79 F x1 x2 x3 (1 : Int32)
def Span_dayOf (F : Nat) (x0 : Int32) : Option (Int64) := if (x0 / (10000 : Int32)) < (1970 : Int32) then some (-4000000000 : Int64) else if (2999 : Int32) < (x0 / (10000 : Int32)) then some (-4000000000 : Int64) else if ((x0 / (100 : Int32)) - (x0 / (100 : Int32)) / (100 : Int32) * (100 : Int32)) < (1 : Int32) then some (-4000000000 : Int64) else if (12 : Int32) < ((x0 / (100 : Int32)) - (x0 / (100 : Int32)) / (100 : Int32) * (100 : Int32)) then some (-4000000000 : Int64) else if (1 : Int32) ≤ (x0 - x0 / (100 : Int32) * (100 : Int32)) then if ((x0 / (10000 : Int32)) - (x0 / (10000 : Int32)) / (4 : Int32) * (4 : Int32)) = 0 then if ((x0 / (10000 : Int32)) - (x0 / (10000 : Int32)) / (100 : Int32) * (100 : Int32)) = 0 then if ((x0 / (10000 : Int32)) - (x0 / (10000 : Int32)) / (400 : Int32) * (400 : Int32)) = 0 then Span_dayOf_74 F (x0 / (10000 : Int32)) ((x0 / (100 : Int32)) - (x0 / (100 : Int32)) / (100 : Int32) * (100 : Int32)) (x0 - x0 / (100 : Int32) * (100 : Int32)) else Span_dayOf_78 F (x0 / (10000 : Int32)) ((x0 / (100 : Int32)) - (x0 / (100 : Int32)) / (100 : Int32) * (100 : Int32)) (x0 - x0 / (100 : Int32) * (100 : Int32)) else Span_dayOf_74 F (x0 / (10000 : Int32)) ((x0 / (100 : Int32)) - (x0 / (100 : Int32)) / (100 : Int32) * (100 : Int32)) (x0 - x0 / (100 : Int32) * (100 : Int32)) else Span_dayOf_78 F (x0 / (10000 : Int32)) ((x0 / (100 : Int32)) - (x0 / (100 : Int32)) / (100 : Int32) * (100 : Int32)) (x0 - x0 / (100 : Int32) * (100 : Int32)) else some (-4000000000 : Int64)
set_option maxHeartbeats 4000000 in
set_option maxRecDepth 100000 in
theorem k_Span_dayOf_164 {p : Program} {l : Launch} {e : Env} {s : State} {m : MethodId} {args : Array Value} {below : List Frame} {meth : Method} {c : Code} {g : Gz} {A2 A : Nat → Prop} {F : Nat} (hC : Cx prog_8_method_8_code 8 (some .long) R_Span p s m args meth c g A2 A) : ∀ (x1 : Int32) (x2 : Int32) (x3 : Int32) (x7 : Int32) (res : Int64), Span_dayOf_164 F x1 x2 x3 x7 = some res → Go p l e rm_Span_dayOf s m args below meth c g A2 A 8 (MQ below (RL res A) args s 0 0 A) ([]) [(1, .int x1), (2, .int x2), (3, .int x3), (7, .int x7)] 164 [] := by
  obtain ⟨hx, hb, hr, hml, hown, htb, hlocks, hA, hAA, hG⟩ := id hC
  have hK := hG.1
  intro x1 x2 x3 x7 res h H locs ls hP hD hS hl
  rw [Span_dayOf_164] at h
  refine lv_sipush (v := 365) hx hb d_Span_dayOf_164 (by decide) ?_
  refine lv_iload_n hx hb d_Span_dayOf_167 rfl (lv_at hl 0 rfl) ?_
  refine lv_sipush (v := 1970) hx hb d_Span_dayOf_168 (by decide) ?_
  refine lv_isub hx hb d_Span_dayOf_171 ?_
  refine lv_imul hx hb d_Span_dayOf_172 ?_
  refine lv_iload hx hb d_Span_dayOf_173 (lv_at hl 3 rfl) ?_
  refine lv_iadd hx hb d_Span_dayOf_175 ?_
  refine va_gets hx hb (tz_of hG hAA M_tab_DAYS) hS hown (htb _ L_Span_80) (fun _ h9 => h9) d_Span_dayOf_176 ?_
  refine lv_iload_n hx hb d_Span_dayOf_179 rfl (lv_at hl 1 rfl) ?_
  refine lv_iconst (v := 1) hx hb d_Span_dayOf_180 (by decide) ?_
  refine lv_isub hx hb d_Span_dayOf_181 ?_
  by_cases c17 : ((x2 - (1 : Int32)) < 0 ∨ 13 ≤ (x2 - (1 : Int32)).toNatClampNeg)
  · replace h := (if_pos c17).symm.trans h
    cases h
  replace h := (if_neg c17).symm.trans h
  refine va_ti hx hb (tt_of hG hAA M_tab_DAYS) hS c17 rfl d_Span_dayOf_182 ?_
  refine lv_iadd hx hb d_Span_dayOf_183 ?_
  refine lv_iload_n hx hb d_Span_dayOf_184 rfl (lv_at hl 2 rfl) ?_
  refine lv_iadd hx hb d_Span_dayOf_185 ?_
  refine lv_iconst (v := 1) hx hb d_Span_dayOf_186 (by decide) ?_
  refine lv_isub hx hb d_Span_dayOf_187 ?_
  refine lv_i2l hx hb d_Span_dayOf_188 rfl ?_
  cases h
  exact W.lret hx hb hr (fun t ht hW => ⟨⟨_, (), rfl, rfl, trivial⟩, hS.F ht⟩) hS.2.2 d_Span_dayOf_189
set_option maxHeartbeats 4000000 in
set_option maxRecDepth 100000 in
theorem k_Span_dayOf_116 {p : Program} {l : Launch} {e : Env} {s : State} {m : MethodId} {args : Array Value} {below : List Frame} {meth : Method} {c : Code} {g : Gz} {A2 A : Nat → Prop} {F : Nat} (hC : Cx prog_8_method_8_code 8 (some .long) R_Span p s m args meth c g A2 A) : ∀ (x1 : Int32) (x2 : Int32) (x3 : Int32) (x4 : Int32) (y0 : Int32) (y1 : Int32) (res : Int64), Span_dayOf_116 F x1 x2 x3 x4 y0 y1 = some res → Go p l e rm_Span_dayOf s m args below meth c g A2 A 8 (MQ below (RL res A) args s 0 0 A) ([]) [(1, .int x1), (2, .int x2), (3, .int x3), (4, .int x4)] 116 [.int y0, .int y1] := by
  obtain ⟨hx, hb, hr, hml, hown, htb, hlocks, hA, hAA, hG⟩ := id hC
  have hK := hG.1
  intro x1 x2 x3 x4 y0 y1 res h H locs ls hP hD hS hl
  rw [Span_dayOf_116] at h
  refine lv_icmp_le (tgt := 123) hx hb d_Span_dayOf_116 (by decide) (fun c18 => ?_) (fun c18 => ?_)
  · replace h := (if_pos c18).symm.trans h
    refine lv_iload_n hx hb d_Span_dayOf_123 rfl (lv_at hl 0 rfl) ?_
    refine lv_iconst (v := 1) hx hb d_Span_dayOf_124 (by decide) ?_
    refine lv_isub hx hb d_Span_dayOf_125 ?_
    refine lv_istore (lv' := [(6, .int (x1 - (1 : Int32))), (1, .int x1), (2, .int x2), (3, .int x3), (4, .int x4)]) hx hb d_Span_dayOf_126 hl (by decide) rfl (fun ls hl => ?_)
    refine lv_iload hx hb d_Span_dayOf_128 (lv_at hl 0 rfl) ?_
    refine lv_iconst (v := 4) hx hb d_Span_dayOf_130 (by decide) ?_
    refine lv_idiv hx hb d_Span_dayOf_131 (by decide) ?_
    refine lv_iload hx hb d_Span_dayOf_132 (lv_at hl 0 rfl) ?_
    refine lv_bipush (v := 100) hx hb d_Span_dayOf_134 (by decide) ?_
    refine lv_idiv hx hb d_Span_dayOf_136 (by decide) ?_
    refine lv_isub hx hb d_Span_dayOf_137 ?_
    refine lv_iload hx hb d_Span_dayOf_138 (lv_at hl 0 rfl) ?_
    refine lv_sipush (v := 400) hx hb d_Span_dayOf_140 (by decide) ?_
    refine lv_idiv hx hb d_Span_dayOf_143 (by decide) ?_
    refine lv_iadd hx hb d_Span_dayOf_144 ?_
    refine lv_sipush (v := 477) hx hb d_Span_dayOf_145 (by decide) ?_
    refine lv_isub hx hb d_Span_dayOf_148 ?_
    refine lv_istore (lv' := [(7, .int (((((x1 - (1 : Int32)) / (4 : Int32)) - ((x1 - (1 : Int32)) / (100 : Int32))) + ((x1 - (1 : Int32)) / (400 : Int32))) - (477 : Int32))), (6, .int (x1 - (1 : Int32))), (1, .int x1), (2, .int x2), (3, .int x3), (4, .int x4)]) hx hb d_Span_dayOf_149 hl (by decide) rfl (fun ls hl => ?_)
    refine lv_iload hx hb d_Span_dayOf_151 (lv_at hl 5 rfl) ?_
    refine lv_if_eq (tgt := 164) hx hb d_Span_dayOf_153 (by decide) (fun c19 => ?_) (fun c19 => ?_)
    · replace h := (if_pos c19).symm.trans h
      exact k_Span_dayOf_164 hC _ _ _ _ _ h _ _ _ hP hD hS (lv_sub hl [2, 3, 4, 0] rfl)
    · replace h := (if_neg c19).symm.trans h
      refine lv_iload_n hx hb d_Span_dayOf_156 rfl (lv_at hl 3 rfl) ?_
      refine lv_iconst (v := 2) hx hb d_Span_dayOf_157 (by decide) ?_
      refine lv_icmp_le (tgt := 164) hx hb d_Span_dayOf_158 (by decide) (fun c20 => ?_) (fun c20 => ?_)
      · replace h := (if_pos c20).symm.trans h
        exact k_Span_dayOf_164 hC _ _ _ _ _ h _ _ _ hP hD hS (lv_sub hl [2, 3, 4, 0] rfl)
      · replace h := (if_neg c20).symm.trans h
        refine lv_iinc (v := ((((((x1 - (1 : Int32)) / (4 : Int32)) - ((x1 - (1 : Int32)) / (100 : Int32))) + ((x1 - (1 : Int32)) / (400 : Int32))) - (477 : Int32)) + (1 : Int32))) (lv' := [(7, .int ((((((x1 - (1 : Int32)) / (4 : Int32)) - ((x1 - (1 : Int32)) / (100 : Int32))) + ((x1 - (1 : Int32)) / (400 : Int32))) - (477 : Int32)) + (1 : Int32))), (6, .int (x1 - (1 : Int32))), (1, .int x1), (2, .int x2), (3, .int x3), (4, .int x4)]) hx hb d_Span_dayOf_161 hl (k := 0) rfl rfl (by decide) rfl (fun ls hl => ?_)
        exact k_Span_dayOf_164 hC _ _ _ _ _ h _ _ _ hP hD hS (lv_sub hl [2, 3, 4, 0] rfl)
  · replace h := (if_neg c18).symm.trans h
    refine lv_ldc2 (v := -4000000000) hx hb hown (htb _ K_Span_40) d_Span_dayOf_119 ?_
    cases h
    exact W.lret hx hb hr (fun t ht hW => ⟨⟨_, (), rfl, rfl, trivial⟩, hS.F ht⟩) hS.2.2 d_Span_dayOf_122
set_option maxHeartbeats 4000000 in
set_option maxRecDepth 100000 in
theorem k_Span_dayOf_114 {p : Program} {l : Launch} {e : Env} {s : State} {m : MethodId} {args : Array Value} {below : List Frame} {meth : Method} {c : Code} {g : Gz} {A2 A : Nat → Prop} {F : Nat} (hC : Cx prog_8_method_8_code 8 (some .long) R_Span p s m args meth c g A2 A) : ∀ (x1 : Int32) (x2 : Int32) (x3 : Int32) (x4 : Int32) (x5 : Int32) (y0 : Int32) (res : Int64), Span_dayOf_114 F x1 x2 x3 x4 x5 y0 = some res → Go p l e rm_Span_dayOf s m args below meth c g A2 A 8 (MQ below (RL res A) args s 0 0 A) ([]) [(1, .int x1), (2, .int x2), (3, .int x3), (4, .int x4), (5, .int x5)] 114 [.int y0] := by
  obtain ⟨hx, hb, hr, hml, hown, htb, hlocks, hA, hAA, hG⟩ := id hC
  have hK := hG.1
  intro x1 x2 x3 x4 x5 y0 res h H locs ls hP hD hS hl
  rw [Span_dayOf_114] at h
  refine lv_iload hx hb d_Span_dayOf_114 (lv_at hl 4 rfl) ?_
  exact k_Span_dayOf_116 hC _ _ _ _ _ _ _ h _ _ _ hP hD hS (lv_sub hl [0, 1, 2, 3] rfl)
set_option maxHeartbeats 4000000 in
set_option maxRecDepth 100000 in
theorem k_Span_dayOf_79 {p : Program} {l : Launch} {e : Env} {s : State} {m : MethodId} {args : Array Value} {below : List Frame} {meth : Method} {c : Code} {g : Gz} {A2 A : Nat → Prop} {F : Nat} (hC : Cx prog_8_method_8_code 8 (some .long) R_Span p s m args meth c g A2 A) : ∀ (x1 : Int32) (x2 : Int32) (x3 : Int32) (y0 : Int32) (res : Int64), Span_dayOf_79 F x1 x2 x3 y0 = some res → Go p l e rm_Span_dayOf s m args below meth c g A2 A 8 (MQ below (RL res A) args s 0 0 A) ([]) [(1, .int x1), (2, .int x2), (3, .int x3)] 79 [.int y0] := by
  obtain ⟨hx, hb, hr, hml, hown, htb, hlocks, hA, hAA, hG⟩ := id hC
  have hK := hG.1
  intro x1 x2 x3 y0 res h H locs ls hP hD hS hl
  rw [Span_dayOf_79] at h
  refine lv_istore (lv' := [(4, .int y0), (1, .int x1), (2, .int x2), (3, .int x3)]) hx hb d_Span_dayOf_79 hl (by decide) rfl (fun ls hl => ?_)
  refine va_gets hx hb (tz_of hG hAA M_tab_DAYS) hS hown (htb _ L_Span_80) (fun _ h9 => h9) d_Span_dayOf_81 ?_
  refine lv_iload_n hx hb d_Span_dayOf_84 rfl (lv_at hl 2 rfl) ?_
  by_cases c21 : (x2 < 0 ∨ 13 ≤ x2.toNatClampNeg)
  · replace h := (if_pos c21).symm.trans h
    cases h
  replace h := (if_neg c21).symm.trans h
  refine va_ti hx hb (tt_of hG hAA M_tab_DAYS) hS c21 rfl d_Span_dayOf_85 ?_
  refine va_gets hx hb (tz_of hG hAA M_tab_DAYS) hS hown (htb _ L_Span_80) (fun _ h9 => h9) d_Span_dayOf_86 ?_
  refine lv_iload_n hx hb d_Span_dayOf_89 rfl (lv_at hl 2 rfl) ?_
  refine lv_iconst (v := 1) hx hb d_Span_dayOf_90 (by decide) ?_
  refine lv_isub hx hb d_Span_dayOf_91 ?_
  by_cases c22 : ((x2 - (1 : Int32)) < 0 ∨ 13 ≤ (x2 - (1 : Int32)).toNatClampNeg)
  · replace h := (if_pos c22).symm.trans h
    cases h
  replace h := (if_neg c22).symm.trans h
  refine va_ti hx hb (tt_of hG hAA M_tab_DAYS) hS c22 rfl d_Span_dayOf_92 ?_
  refine lv_isub hx hb d_Span_dayOf_93 ?_
  refine lv_istore (lv' := [(5, .int (((tabDAYS) x2.toNatClampNeg) - ((tabDAYS) (x2 - (1 : Int32)).toNatClampNeg))), (4, .int y0), (1, .int x1), (2, .int x2), (3, .int x3)]) hx hb d_Span_dayOf_94 hl (by decide) rfl (fun ls hl => ?_)
  refine lv_iload_n hx hb d_Span_dayOf_96 rfl (lv_at hl 4 rfl) ?_
  refine lv_iload hx hb d_Span_dayOf_97 (lv_at hl 1 rfl) ?_
  refine lv_if_eq (tgt := 114) hx hb d_Span_dayOf_99 (by decide) (fun c23 => ?_) (fun c23 => ?_)
  · replace h := (if_pos c23).symm.trans h
    exact k_Span_dayOf_114 hC _ _ _ _ _ _ _ h _ _ _ hP hD hS (lv_sub hl [2, 3, 4, 1, 0] rfl)
  · replace h := (if_neg c23).symm.trans h
    refine lv_iload_n hx hb d_Span_dayOf_102 rfl (lv_at hl 3 rfl) ?_
    refine lv_iconst (v := 2) hx hb d_Span_dayOf_103 (by decide) ?_
    refine lv_icmp_ne (tgt := 114) hx hb d_Span_dayOf_104 (by decide) (fun c24 => ?_) (fun c24 => ?_)
    · replace h := (if_neg c24).symm.trans h
      exact k_Span_dayOf_114 hC _ _ _ _ _ _ _ h _ _ _ hP hD hS (lv_sub hl [2, 3, 4, 1, 0] rfl)
    · replace h := (if_pos c24).symm.trans h
      refine lv_iload hx hb d_Span_dayOf_107 (lv_at hl 0 rfl) ?_
      refine lv_iconst (v := 1) hx hb d_Span_dayOf_109 (by decide) ?_
      refine lv_iadd hx hb d_Span_dayOf_110 ?_
      refine lv_goto (tgt := 116) hx hb d_Span_dayOf_111 (by decide) ?_
      exact k_Span_dayOf_116 hC _ _ _ _ _ _ _ h _ _ _ hP hD hS (lv_sub hl [2, 3, 4, 1] rfl)
set_option maxHeartbeats 4000000 in
set_option maxRecDepth 100000 in
theorem k_Span_dayOf_78 {p : Program} {l : Launch} {e : Env} {s : State} {m : MethodId} {args : Array Value} {below : List Frame} {meth : Method} {c : Code} {g : Gz} {A2 A : Nat → Prop} {F : Nat} (hC : Cx prog_8_method_8_code 8 (some .long) R_Span p s m args meth c g A2 A) : ∀ (x1 : Int32) (x2 : Int32) (x3 : Int32) (res : Int64), Span_dayOf_78 F x1 x2 x3 = some res → Go p l e rm_Span_dayOf s m args below meth c g A2 A 8 (MQ below (RL res A) args s 0 0 A) ([]) [(1, .int x1), (2, .int x2), (3, .int x3)] 78 [] := by
  obtain ⟨hx, hb, hr, hml, hown, htb, hlocks, hA, hAA, hG⟩ := id hC
  have hK := hG.1
  intro x1 x2 x3 res h H locs ls hP hD hS hl
  rw [Span_dayOf_78] at h
  refine lv_iconst (v := 0) hx hb d_Span_dayOf_78 (by decide) ?_
  exact k_Span_dayOf_79 hC _ _ _ _ _ h _ _ _ hP hD hS (lv_sub hl [0, 1, 2] rfl)
set_option maxHeartbeats 4000000 in
set_option maxRecDepth 100000 in
theorem k_Span_dayOf_74 {p : Program} {l : Launch} {e : Env} {s : State} {m : MethodId} {args : Array Value} {below : List Frame} {meth : Method} {c : Code} {g : Gz} {A2 A : Nat → Prop} {F : Nat} (hC : Cx prog_8_method_8_code 8 (some .long) R_Span p s m args meth c g A2 A) : ∀ (x1 : Int32) (x2 : Int32) (x3 : Int32) (res : Int64), Span_dayOf_74 F x1 x2 x3 = some res → Go p l e rm_Span_dayOf s m args below meth c g A2 A 8 (MQ below (RL res A) args s 0 0 A) ([]) [(1, .int x1), (2, .int x2), (3, .int x3)] 74 [] := by
  obtain ⟨hx, hb, hr, hml, hown, htb, hlocks, hA, hAA, hG⟩ := id hC
  have hK := hG.1
  intro x1 x2 x3 res h H locs ls hP hD hS hl
  rw [Span_dayOf_74] at h
  refine lv_iconst (v := 1) hx hb d_Span_dayOf_74 (by decide) ?_
  refine lv_goto (tgt := 79) hx hb d_Span_dayOf_75 (by decide) ?_
  exact k_Span_dayOf_79 hC _ _ _ _ _ h _ _ _ hP hD hS (lv_sub hl [0, 1, 2] rfl)
set_option maxHeartbeats 4000000 in
set_option maxRecDepth 100000 in
theorem k_Span_dayOf {p : Program} {l : Launch} {e : Env} {s : State} {m : MethodId} {args : Array Value} {below : List Frame} {meth : Method} {c : Code} {g : Gz} {A2 A : Nat → Prop} {F : Nat} (hC : Cx prog_8_method_8_code 8 (some .long) R_Span p s m args meth c g A2 A) : ∀ (x0 : Int32) (res : Int64), Span_dayOf F x0 = some res → Go p l e rm_Span_dayOf s m args below meth c g A2 A 8 (MQ below (RL res A) args s 0 0 A) ([]) [(0, .int x0)] 0 [] := by
  obtain ⟨hx, hb, hr, hml, hown, htb, hlocks, hA, hAA, hG⟩ := id hC
  have hK := hG.1
  intro x0 res h H locs ls hP hD hS hl
  rw [Span_dayOf] at h
  refine lv_iload_n hx hb d_Span_dayOf_0 rfl (lv_at hl 0 rfl) ?_
  refine lv_sipush (v := 10000) hx hb d_Span_dayOf_1 (by decide) ?_
  refine lv_idiv hx hb d_Span_dayOf_4 (by decide) ?_
  refine lv_istore_n (lv' := [(1, .int (x0 / (10000 : Int32))), (0, .int x0)]) hx hb d_Span_dayOf_5 rfl hl (by decide) rfl (fun ls hl => ?_)
  refine lv_iload_n hx hb d_Span_dayOf_6 rfl (lv_at hl 1 rfl) ?_
  refine lv_bipush (v := 100) hx hb d_Span_dayOf_7 (by decide) ?_
  refine lv_idiv hx hb d_Span_dayOf_9 (by decide) ?_
  refine lv_bipush (v := 100) hx hb d_Span_dayOf_10 (by decide) ?_
  refine lv_irem hx hb d_Span_dayOf_12 (by decide) ?_
  refine lv_istore_n (lv' := [(2, .int ((x0 / (100 : Int32)) - (x0 / (100 : Int32)) / (100 : Int32) * (100 : Int32))), (1, .int (x0 / (10000 : Int32))), (0, .int x0)]) hx hb d_Span_dayOf_13 rfl hl (by decide) rfl (fun ls hl => ?_)
  refine lv_iload_n hx hb d_Span_dayOf_14 rfl (lv_at hl 2 rfl) ?_
  refine lv_bipush (v := 100) hx hb d_Span_dayOf_15 (by decide) ?_
  refine lv_irem hx hb d_Span_dayOf_17 (by decide) ?_
  refine lv_istore_n (lv' := [(3, .int (x0 - x0 / (100 : Int32) * (100 : Int32))), (2, .int ((x0 / (100 : Int32)) - (x0 / (100 : Int32)) / (100 : Int32) * (100 : Int32))), (1, .int (x0 / (10000 : Int32))), (0, .int x0)]) hx hb d_Span_dayOf_18 rfl hl (by decide) rfl (fun ls hl => ?_)
  refine lv_iload_n hx hb d_Span_dayOf_19 rfl (lv_at hl 2 rfl) ?_
  refine lv_sipush (v := 1970) hx hb d_Span_dayOf_20 (by decide) ?_
  refine lv_icmp_lt (tgt := 49) hx hb d_Span_dayOf_23 (by decide) (fun c25 => ?_) (fun c25 => ?_)
  · replace h := (if_pos c25).symm.trans h
    refine lv_ldc2 (v := -4000000000) hx hb hown (htb _ K_Span_40) d_Span_dayOf_49 ?_
    cases h
    exact W.lret hx hb hr (fun t ht hW => ⟨⟨_, (), rfl, rfl, trivial⟩, hS.F ht⟩) hS.2.2 d_Span_dayOf_52
  · replace h := (if_neg c25).symm.trans h
    refine lv_iload_n hx hb d_Span_dayOf_26 rfl (lv_at hl 2 rfl) ?_
    refine lv_sipush (v := 2999) hx hb d_Span_dayOf_27 (by decide) ?_
    refine lv_icmp_gt (tgt := 49) hx hb d_Span_dayOf_30 (by decide) (fun c26 => ?_) (fun c26 => ?_)
    · replace h := (if_pos c26).symm.trans h
      refine lv_ldc2 (v := -4000000000) hx hb hown (htb _ K_Span_40) d_Span_dayOf_49 ?_
      cases h
      exact W.lret hx hb hr (fun t ht hW => ⟨⟨_, (), rfl, rfl, trivial⟩, hS.F ht⟩) hS.2.2 d_Span_dayOf_52
    · replace h := (if_neg c26).symm.trans h
      refine lv_iload_n hx hb d_Span_dayOf_33 rfl (lv_at hl 1 rfl) ?_
      refine lv_iconst (v := 1) hx hb d_Span_dayOf_34 (by decide) ?_
      refine lv_icmp_lt (tgt := 49) hx hb d_Span_dayOf_35 (by decide) (fun c27 => ?_) (fun c27 => ?_)
      · replace h := (if_pos c27).symm.trans h
        refine lv_ldc2 (v := -4000000000) hx hb hown (htb _ K_Span_40) d_Span_dayOf_49 ?_
        cases h
        exact W.lret hx hb hr (fun t ht hW => ⟨⟨_, (), rfl, rfl, trivial⟩, hS.F ht⟩) hS.2.2 d_Span_dayOf_52
      · replace h := (if_neg c27).symm.trans h
        refine lv_iload_n hx hb d_Span_dayOf_38 rfl (lv_at hl 1 rfl) ?_
        refine lv_bipush (v := 12) hx hb d_Span_dayOf_39 (by decide) ?_
        refine lv_icmp_gt (tgt := 49) hx hb d_Span_dayOf_41 (by decide) (fun c28 => ?_) (fun c28 => ?_)
        · replace h := (if_pos c28).symm.trans h
          refine lv_ldc2 (v := -4000000000) hx hb hown (htb _ K_Span_40) d_Span_dayOf_49 ?_
          cases h
          exact W.lret hx hb hr (fun t ht hW => ⟨⟨_, (), rfl, rfl, trivial⟩, hS.F ht⟩) hS.2.2 d_Span_dayOf_52
        · replace h := (if_neg c28).symm.trans h
          refine lv_iload_n hx hb d_Span_dayOf_44 rfl (lv_at hl 0 rfl) ?_
          refine lv_iconst (v := 1) hx hb d_Span_dayOf_45 (by decide) ?_
          refine lv_icmp_ge (tgt := 53) hx hb d_Span_dayOf_46 (by decide) (fun c29 => ?_) (fun c29 => ?_)
          · replace h := (if_pos c29).symm.trans h
            refine lv_iload_n hx hb d_Span_dayOf_53 rfl (lv_at hl 2 rfl) ?_
            refine lv_iconst (v := 4) hx hb d_Span_dayOf_54 (by decide) ?_
            refine lv_irem hx hb d_Span_dayOf_55 (by decide) ?_
            refine lv_if_ne (tgt := 78) hx hb d_Span_dayOf_56 (by decide) (fun c30 => ?_) (fun c30 => ?_)
            · replace h := (if_neg c30).symm.trans h
              exact k_Span_dayOf_78 hC _ _ _ _ h _ _ _ hP hD hS (lv_sub hl [2, 1, 0] rfl)
            · replace h := (if_pos c30).symm.trans h
              refine lv_iload_n hx hb d_Span_dayOf_59 rfl (lv_at hl 2 rfl) ?_
              refine lv_bipush (v := 100) hx hb d_Span_dayOf_60 (by decide) ?_
              refine lv_irem hx hb d_Span_dayOf_62 (by decide) ?_
              refine lv_if_ne (tgt := 74) hx hb d_Span_dayOf_63 (by decide) (fun c31 => ?_) (fun c31 => ?_)
              · replace h := (if_neg c31).symm.trans h
                exact k_Span_dayOf_74 hC _ _ _ _ h _ _ _ hP hD hS (lv_sub hl [2, 1, 0] rfl)
              · replace h := (if_pos c31).symm.trans h
                refine lv_iload_n hx hb d_Span_dayOf_66 rfl (lv_at hl 2 rfl) ?_
                refine lv_sipush (v := 400) hx hb d_Span_dayOf_67 (by decide) ?_
                refine lv_irem hx hb d_Span_dayOf_70 (by decide) ?_
                refine lv_if_ne (tgt := 78) hx hb d_Span_dayOf_71 (by decide) (fun c32 => ?_) (fun c32 => ?_)
                · replace h := (if_neg c32).symm.trans h
                  exact k_Span_dayOf_78 hC _ _ _ _ h _ _ _ hP hD hS (lv_sub hl [2, 1, 0] rfl)
                · replace h := (if_pos c32).symm.trans h
                  exact k_Span_dayOf_74 hC _ _ _ _ h _ _ _ hP hD hS (lv_sub hl [2, 1, 0] rfl)
          · replace h := (if_neg c29).symm.trans h
            refine lv_ldc2 (v := -4000000000) hx hb hown (htb _ K_Span_40) d_Span_dayOf_49 ?_
            cases h
            exact W.lret hx hb hr (fun t ht hW => ⟨⟨_, (), rfl, rfl, trivial⟩, hS.F ht⟩) hS.2.2 d_Span_dayOf_52
theorem c_Span_dayOf (l : Launch) (g : Gz) (F : Nat) (x0 : Int32) (res : Int64) (h : Span_dayOf F x0 = some res) : ∀ sz : Nat, Met l y_Span_dayOf (.code y_Span_dayOf prog_8_method_8_code 8 (some .long) :: TBL) rm_Span_dayOf (va_Pc [.int x0] (Pre0 g ([]) sz)) (RL res (fun q => sz ≤ q)) 0 0 (fun q => sz ≤ q) :=
  ct_r (Qc := fun A => RL res A) (by decide) (Nat.le_of_ble_eq_true rfl) (fun p e s m args below meth c A2 A hC => k_Span_dayOf hC x0 res h)
def Span_valueOf_83 (F : Nat) (p1 : StI) (x4 : Int32) (x5 : Int32) (x6 : Int64) (y0 : Int32) : Option (Int64) := if (7 : Int32) < x5 then some (-4000000000 : Int64) else if y0 = 0 then some (-4000000000 : Int64) else (Span_bytesOf F x6 x4).bind fun r23 => some r23
def Span_valueOf_78 (F : Nat) (p1 : StI) (x4 : Int32) (x5 : Int32) (x6 : Int64) : Option (Int64) := Span_valueOf_83 F p1 x4 x5 x6 (1 : Int32)
def Span_valueOf_28 (F : Nat) (p1 : StI) (x1 : Int32) (x3 : Int32) (x4 : Int32) (y0 : Int32) : Option (Int64) := (Span_numberOf F p1 x1 y0).bind fun r24 => if (lg_cmp r24 (-4000000000 : Int64)) = 0 then some (-4000000000 : Int64) else if x3 = 0 then (MQ_isDigit F x4).bind fun r34 => if r34 = 0 then if x4 = (107 : Int32) then Span_valueOf_78 F p1 x4 y0 r24 else if x4 = (109 : Int32) then Span_valueOf_78 F p1 x4 y0 r24 else Span_valueOf_83 F p1 x4 y0 r24 (0 : Int32) else Span_valueOf_78 F p1 x4 y0 r24 else (MQ_isDigit F x4).bind fun r27 => if r27 = 0 then if (3 : Int32) < y0 then some (-4000000000 : Int64) else if (lg_cmp r24 (0 : Int64)) ≤ 0 then some (-4000000000 : Int64) else (Span_daysAgo F r24 x4).bind fun r31 => some r31 else if y0 = (8 : Int32) then (Span_dayOf F r24.toInt32).bind fun r33 => some r33 else some (-4000000000 : Int64)
def Span_valueOf (F : Nat) (p1 : StI) (x1 : Int32) (x2 : Int32) (x3 : Int32) : Option (Int64) := (Query_byteAt F p1 (x2 - (1 : Int32))).bind fun r38 => (MQ_isDigit F r38).bind fun r39 => if r39 = 0 then Span_valueOf_28 F p1 x1 x3 r38 ((x2 - (1 : Int32)) - x1) else Span_valueOf_28 F p1 x1 x3 r38 (x2 - x1)
set_option maxHeartbeats 4000000 in
set_option maxRecDepth 100000 in
theorem k_Span_valueOf_83 {p : Program} {l : Launch} {e : Env} {s : State} {m : MethodId} {args : Array Value} {below : List Frame} {meth : Method} {c : Code} {g : Gz} {A2 A : Nat → Prop} {F : Nat} {a_p1 : Nat → Nat} (hC : Cx prog_8_method_4_code 9 (some .long) R_Span p s m args meth c g A2 A) : ∀ (p1 : StI) (x4 : Int32) (x5 : Int32) (x6 : Int64) (y0 : Int32) (res : Int64), Span_valueOf_83 F p1 x4 x5 x6 y0 = some res → Go p l e rm_Span_valueOf s m args below meth c g A2 A 9 (MQ below (RL res A) args s 0 0 A) ((pic_Query g a_p1 p1)) [(4, .int x4), (5, .int x5), (6, .long x6)] 83 [.int y0] := by
  obtain ⟨hx, hb, hr, hml, hown, htb, hlocks, hA, hAA, hG⟩ := id hC
  have hK := hG.1
  intro p1 x4 x5 x6 y0 res h H locs ls hP hD hS hl
  rw [Span_valueOf_83] at h
  refine lv_istore (lv' := [(8, .int y0), (4, .int x4), (5, .int x5), (6, .long x6)]) hx hb d_Span_valueOf_83 hl (by decide) rfl (fun ls hl => ?_)
  refine lv_iload hx hb d_Span_valueOf_85 (lv_at hl 2 rfl) ?_
  refine lv_bipush (v := 7) hx hb d_Span_valueOf_87 (by decide) ?_
  refine lv_icmp_gt (tgt := 107) hx hb d_Span_valueOf_89 (by decide) (fun c21 => ?_) (fun c21 => ?_)
  · replace h := (if_pos c21).symm.trans h
    refine lv_ldc2 (v := -4000000000) hx hb hown (htb _ K_Span_40) d_Span_valueOf_107 ?_
    cases h
    exact W.lret hx hb hr (fun t ht hW => ⟨⟨_, (), rfl, rfl, trivial⟩, hS.F ht⟩) hS.2.2 d_Span_valueOf_110
  · replace h := (if_neg c21).symm.trans h
    refine lv_iload hx hb d_Span_valueOf_92 (lv_at hl 0 rfl) ?_
    refine lv_if_eq (tgt := 107) hx hb d_Span_valueOf_94 (by decide) (fun c22 => ?_) (fun c22 => ?_)
    · replace h := (if_pos c22).symm.trans h
      refine lv_ldc2 (v := -4000000000) hx hb hown (htb _ K_Span_40) d_Span_valueOf_107 ?_
      cases h
      exact W.lret hx hb hr (fun t ht hW => ⟨⟨_, (), rfl, rfl, trivial⟩, hS.F ht⟩) hS.2.2 d_Span_valueOf_110
    · replace h := (if_neg c22).symm.trans h
      refine lv_lload hx hb d_Span_valueOf_97 (lv_at hl 3 rfl) ?_
      refine lv_iload hx hb d_Span_valueOf_99 (lv_at hl 1 rfl) ?_
      obtain ⟨r23, hr23, h⟩ := Option.bind_eq_some_iff.mp h
      refine cl_Lr hP hS hA (va_runS (As := [.long x6, .int x4]) (rest := []) ⟨hx, hb, hml, hown, htb⟩ (c_Span_bytesOf l g F x6 x4 _ hr23 H.size) (cw_S htb mb_Span_bytesOf (htb _ L_Span_50) rfl rfl ⟨Nat.le_of_ble_eq_true rfl, Nat.le_of_ble_eq_true rfl⟩) (pre_S [] rfl rfl hP hD hS hA hAA hG) rfl rfl hl.1 rfl (lv_room (Nat.le_of_ble_eq_true rfl)) d_Span_valueOf_101 ⟨Nat.zero_le _, Nat.zero_le _⟩) (fun H locs hP hS => ?_)
      refine lv_goto (tgt := 110) hx hb d_Span_valueOf_104 (by decide) ?_
      cases h
      exact W.lret hx hb hr (fun t ht hW => ⟨⟨_, (), rfl, rfl, trivial⟩, hS.F ht⟩) hS.2.2 d_Span_valueOf_110
set_option maxHeartbeats 4000000 in
set_option maxRecDepth 100000 in
theorem k_Span_valueOf_78 {p : Program} {l : Launch} {e : Env} {s : State} {m : MethodId} {args : Array Value} {below : List Frame} {meth : Method} {c : Code} {g : Gz} {A2 A : Nat → Prop} {F : Nat} {a_p1 : Nat → Nat} (hC : Cx prog_8_method_4_code 9 (some .long) R_Span p s m args meth c g A2 A) : ∀ (p1 : StI) (x4 : Int32) (x5 : Int32) (x6 : Int64) (res : Int64), Span_valueOf_78 F p1 x4 x5 x6 = some res → Go p l e rm_Span_valueOf s m args below meth c g A2 A 9 (MQ below (RL res A) args s 0 0 A) ((pic_Query g a_p1 p1)) [(4, .int x4), (5, .int x5), (6, .long x6)] 78 [] := by
  obtain ⟨hx, hb, hr, hml, hown, htb, hlocks, hA, hAA, hG⟩ := id hC
  have hK := hG.1
  intro p1 x4 x5 x6 res h H locs ls hP hD hS hl
  rw [Span_valueOf_78] at h
  refine lv_iconst (v := 1) hx hb d_Span_valueOf_78 (by decide) ?_
  refine lv_goto (tgt := 83) hx hb d_Span_valueOf_79 (by decide) ?_
  exact k_Span_valueOf_83 hC _ _ _ _ _ _ h _ _ _ hP hD hS (lv_sub hl [0, 1, 2] rfl)
set_option maxHeartbeats 4000000 in
set_option maxRecDepth 100000 in
theorem k_Span_valueOf_28 {p : Program} {l : Launch} {e : Env} {s : State} {m : MethodId} {args : Array Value} {below : List Frame} {meth : Method} {c : Code} {g : Gz} {A2 A : Nat → Prop} {F : Nat} {a_p1 : Nat → Nat} (hC : Cx prog_8_method_4_code 9 (some .long) R_Span p s m args meth c g A2 A) : ∀ (p1 : StI) (x1 : Int32) (x3 : Int32) (x4 : Int32) (y0 : Int32) (res : Int64), Span_valueOf_28 F p1 x1 x3 x4 y0 = some res → Go p l e rm_Span_valueOf s m args below meth c g A2 A 9 (MQ below (RL res A) args s 0 0 A) ((pic_Query g a_p1 p1)) [(0, .ref (a_p1 0)), (1, .int x1), (3, .int x3), (4, .int x4)] 28 [.int y0] := by
  obtain ⟨hx, hb, hr, hml, hown, htb, hlocks, hA, hAA, hG⟩ := id hC
  have hK := hG.1
  intro p1 x1 x3 x4 y0 res h H locs ls hP hD hS hl
  rw [Span_valueOf_28] at h
  refine lv_istore (lv' := [(5, .int y0), (0, .ref (a_p1 0)), (1, .int x1), (3, .int x3), (4, .int x4)]) hx hb d_Span_valueOf_28 hl (by decide) rfl (fun ls hl => ?_)
  refine lv_aload_n hx hb d_Span_valueOf_30 rfl (lv_at hl 1 rfl) ?_
  refine lv_iload_n hx hb d_Span_valueOf_31 rfl (lv_at hl 2 rfl) ?_
  refine lv_iload hx hb d_Span_valueOf_32 (lv_at hl 0 rfl) ?_
  obtain ⟨r24, hr24, h⟩ := Option.bind_eq_some_iff.mp h
  refine cl_Lr hP hS hA (va_runS (As := [.ref (a_p1 0), .int x1, .int y0]) (rest := []) ⟨hx, hb, hml, hown, htb⟩ (c_Span_numberOf l g F a_p1 p1 x1 y0 _ hr24 H.size) (cw_S htb mb_Span_numberOf (htb _ L_Span_46) rfl rfl ⟨Nat.le_of_ble_eq_true rfl, Nat.le_of_ble_eq_true rfl⟩) (pre_S [0, 1, 2, 3, 4, 5, 6, 7, 8, 9, 10] rfl rfl hP hD hS hA hAA hG) rfl rfl hl.1 rfl (lv_room (Nat.le_of_ble_eq_true rfl)) d_Span_valueOf_34 ⟨Nat.zero_le _, Nat.zero_le _⟩) (fun H locs hP hS => ?_)
  refine lv_lstore (lv' := [(6, .long r24), (5, .int y0), (0, .ref (a_p1 0)), (1, .int x1), (3, .int x3), (4, .int x4)]) hx hb d_Span_valueOf_37 hl (by decide) rfl (fun ls hl => ?_)
  refine lv_lload hx hb d_Span_valueOf_39 (lv_at hl 0 rfl) ?_
  refine lv_ldc2 (v := -4000000000) hx hb hown (htb _ K_Span_40) d_Span_valueOf_41 ?_
  refine W.lcmp hx hb d_Span_valueOf_44 ?_
  refine lv_if_ne (tgt := 52) hx hb d_Span_valueOf_45 (by decide) (fun c25 => ?_) (fun c25 => ?_)
  · replace h := (if_neg c25).symm.trans h
    refine lv_iload_n hx hb d_Span_valueOf_52 rfl (lv_at hl 4 rfl) ?_
    refine lv_if_ne (tgt := 111) hx hb d_Span_valueOf_53 (by decide) (fun c26 => ?_) (fun c26 => ?_)
    · replace h := (if_neg c26).symm.trans h
      refine lv_iload hx hb d_Span_valueOf_111 (lv_at hl 5 rfl) ?_
      obtain ⟨r27, hr27, h⟩ := Option.bind_eq_some_iff.mp h
      refine cl_Ir hP hS hA (va_runSN (As := [.int x4]) (rest := []) ⟨hx, hb, hml, hown, htb⟩ (c_MQ_isDigit l g F x4 _ hr27 H.size) (cn_S htb mb_MQ_isDigit (nm_of hG N_Span_42) rfl rfl ⟨Nat.le_of_ble_eq_true rfl, Nat.le_of_ble_eq_true rfl⟩) (pre_S [] rfl rfl hP hD hS hA hAA hG) rfl rfl hl.1 rfl (lv_room (Nat.le_of_ble_eq_true rfl)) d_Span_valueOf_113 ⟨Nat.zero_le _, Nat.zero_le _⟩) (fun H locs hP hS => ?_)
      refine lv_if_eq (tgt := 139) hx hb d_Span_valueOf_116 (by decide) (fun c28 => ?_) (fun c28 => ?_)
      · replace h := (if_pos c28).symm.trans h
        refine lv_iload hx hb d_Span_valueOf_139 (lv_at hl 1 rfl) ?_
        refine lv_iconst (v := 3) hx hb d_Span_valueOf_141 (by decide) ?_
        refine lv_icmp_gt (tgt := 162) hx hb d_Span_valueOf_142 (by decide) (fun c29 => ?_) (fun c29 => ?_)
        · replace h := (if_pos c29).symm.trans h
          refine lv_ldc2 (v := -4000000000) hx hb hown (htb _ K_Span_40) d_Span_valueOf_162 ?_
          cases h
          exact W.lret hx hb hr (fun t ht hW => ⟨⟨_, (), rfl, rfl, trivial⟩, hS.F ht⟩) hS.2.2 d_Span_valueOf_165
        · replace h := (if_neg c29).symm.trans h
          refine lv_lload hx hb d_Span_valueOf_145 (lv_at hl 0 rfl) ?_
          refine lv_lconst (v := 0) hx hb d_Span_valueOf_147 (by decide) ?_
          refine W.lcmp hx hb d_Span_valueOf_148 ?_
          refine lv_if_le (tgt := 162) hx hb d_Span_valueOf_149 (by decide) (fun c30 => ?_) (fun c30 => ?_)
          · replace h := (if_pos c30).symm.trans h
            refine lv_ldc2 (v := -4000000000) hx hb hown (htb _ K_Span_40) d_Span_valueOf_162 ?_
            cases h
            exact W.lret hx hb hr (fun t ht hW => ⟨⟨_, (), rfl, rfl, trivial⟩, hS.F ht⟩) hS.2.2 d_Span_valueOf_165
          · replace h := (if_neg c30).symm.trans h
            refine lv_lload hx hb d_Span_valueOf_152 (lv_at hl 0 rfl) ?_
            refine lv_iload hx hb d_Span_valueOf_154 (lv_at hl 5 rfl) ?_
            obtain ⟨r31, hr31, h⟩ := Option.bind_eq_some_iff.mp h
            refine cl_Lr hP hS hA (va_runS (As := [.long r24, .int x4]) (rest := []) ⟨hx, hb, hml, hown, htb⟩ (c_Span_daysAgo l g F r24 x4 _ hr31 H.size) (cw_S htb mb_Span_daysAgo (htb _ L_Span_58) rfl rfl ⟨Nat.le_of_ble_eq_true rfl, Nat.le_of_ble_eq_true rfl⟩) (pre_S [] rfl rfl hP hD hS hA hAA hG) rfl rfl hl.1 rfl (lv_room (Nat.le_of_ble_eq_true rfl)) d_Span_valueOf_156 ⟨Nat.zero_le _, Nat.zero_le _⟩) (fun H locs hP hS => ?_)
            refine lv_goto (tgt := 165) hx hb d_Span_valueOf_159 (by decide) ?_
            cases h
            exact W.lret hx hb hr (fun t ht hW => ⟨⟨_, (), rfl, rfl, trivial⟩, hS.F ht⟩) hS.2.2 d_Span_valueOf_165
      · replace h := (if_neg c28).symm.trans h
        refine lv_iload hx hb d_Span_valueOf_119 (lv_at hl 1 rfl) ?_
        refine lv_bipush (v := 8) hx hb d_Span_valueOf_121 (by decide) ?_
        refine lv_icmp_ne (tgt := 135) hx hb d_Span_valueOf_123 (by decide) (fun c32 => ?_) (fun c32 => ?_)
        · replace h := (if_neg c32).symm.trans h
          refine lv_ldc2 (v := -4000000000) hx hb hown (htb _ K_Span_40) d_Span_valueOf_135 ?_
          cases h
          exact W.lret hx hb hr (fun t ht hW => ⟨⟨_, (), rfl, rfl, trivial⟩, hS.F ht⟩) hS.2.2 d_Span_valueOf_138
        · replace h := (if_pos c32).symm.trans h
          refine lv_lload hx hb d_Span_valueOf_126 (lv_at hl 0 rfl) ?_
          refine lv_l2i hx hb d_Span_valueOf_128 rfl ?_
          obtain ⟨r33, hr33, h⟩ := Option.bind_eq_some_iff.mp h
          refine cl_Lr hP hS hA (va_runS (As := [.int r24.toInt32]) (rest := []) ⟨hx, hb, hml, hown, htb⟩ (c_Span_dayOf l g F r24.toInt32 _ hr33 H.size) (cw_S htb mb_Span_dayOf (htb _ L_Span_54) rfl rfl ⟨Nat.le_of_ble_eq_true rfl, Nat.le_of_ble_eq_true rfl⟩) (pre_S [] rfl rfl hP hD hS hA hAA hG) rfl rfl hl.1 rfl (lv_room (Nat.le_of_ble_eq_true rfl)) d_Span_valueOf_129 ⟨Nat.zero_le _, Nat.zero_le _⟩) (fun H locs hP hS => ?_)
          refine lv_goto (tgt := 138) hx hb d_Span_valueOf_132 (by decide) ?_
          cases h
          exact W.lret hx hb hr (fun t ht hW => ⟨⟨_, (), rfl, rfl, trivial⟩, hS.F ht⟩) hS.2.2 d_Span_valueOf_138
    · replace h := (if_pos c26).symm.trans h
      refine lv_iload hx hb d_Span_valueOf_56 (lv_at hl 5 rfl) ?_
      obtain ⟨r34, hr34, h⟩ := Option.bind_eq_some_iff.mp h
      refine cl_Ir hP hS hA (va_runSN (As := [.int x4]) (rest := []) ⟨hx, hb, hml, hown, htb⟩ (c_MQ_isDigit l g F x4 _ hr34 H.size) (cn_S htb mb_MQ_isDigit (nm_of hG N_Span_42) rfl rfl ⟨Nat.le_of_ble_eq_true rfl, Nat.le_of_ble_eq_true rfl⟩) (pre_S [] rfl rfl hP hD hS hA hAA hG) rfl rfl hl.1 rfl (lv_room (Nat.le_of_ble_eq_true rfl)) d_Span_valueOf_58 ⟨Nat.zero_le _, Nat.zero_le _⟩) (fun H locs hP hS => ?_)
      refine lv_if_ne (tgt := 78) hx hb d_Span_valueOf_61 (by decide) (fun c35 => ?_) (fun c35 => ?_)
      · replace h := (if_neg c35).symm.trans h
        exact k_Span_valueOf_78 hC _ _ _ _ _ h _ _ _ hP hD hS (lv_sub hl [5, 1, 0] rfl)
      · replace h := (if_pos c35).symm.trans h
        refine lv_iload hx hb d_Span_valueOf_64 (lv_at hl 5 rfl) ?_
        refine lv_bipush (v := 107) hx hb d_Span_valueOf_66 (by decide) ?_
        refine lv_icmp_eq (tgt := 78) hx hb d_Span_valueOf_68 (by decide) (fun c36 => ?_) (fun c36 => ?_)
        · replace h := (if_pos c36).symm.trans h
          exact k_Span_valueOf_78 hC _ _ _ _ _ h _ _ _ hP hD hS (lv_sub hl [5, 1, 0] rfl)
        · replace h := (if_neg c36).symm.trans h
          refine lv_iload hx hb d_Span_valueOf_71 (lv_at hl 5 rfl) ?_
          refine lv_bipush (v := 109) hx hb d_Span_valueOf_73 (by decide) ?_
          refine lv_icmp_ne (tgt := 82) hx hb d_Span_valueOf_75 (by decide) (fun c37 => ?_) (fun c37 => ?_)
          · replace h := (if_neg c37).symm.trans h
            refine lv_iconst (v := 0) hx hb d_Span_valueOf_82 (by decide) ?_
            exact k_Span_valueOf_83 hC _ _ _ _ _ _ h _ _ _ hP hD hS (lv_sub hl [5, 1, 0] rfl)
          · replace h := (if_pos c37).symm.trans h
            exact k_Span_valueOf_78 hC _ _ _ _ _ h _ _ _ hP hD hS (lv_sub hl [5, 1, 0] rfl)
  · replace h := (if_pos c25).symm.trans h
    refine lv_ldc2 (v := -4000000000) hx hb hown (htb _ K_Span_40) d_Span_valueOf_48 ?_
    cases h
    exact W.lret hx hb hr (fun t ht hW => ⟨⟨_, (), rfl, rfl, trivial⟩, hS.F ht⟩) hS.2.2 d_Span_valueOf_51
set_option maxHeartbeats 4000000 in
set_option maxRecDepth 100000 in
theorem k_Span_valueOf {p : Program} {l : Launch} {e : Env} {s : State} {m : MethodId} {args : Array Value} {below : List Frame} {meth : Method} {c : Code} {g : Gz} {A2 A : Nat → Prop} {F : Nat} {a_p1 : Nat → Nat} (hC : Cx prog_8_method_4_code 9 (some .long) R_Span p s m args meth c g A2 A) : ∀ (p1 : StI) (x1 : Int32) (x2 : Int32) (x3 : Int32) (res : Int64), Span_valueOf F p1 x1 x2 x3 = some res → Go p l e rm_Span_valueOf s m args below meth c g A2 A 9 (MQ below (RL res A) args s 0 0 A) ((pic_Query g a_p1 p1)) [(0, .ref (a_p1 0)), (1, .int x1), (2, .int x2), (3, .int x3)] 0 [] := by
  obtain ⟨hx, hb, hr, hml, hown, htb, hlocks, hA, hAA, hG⟩ := id hC
  have hK := hG.1
  intro p1 x1 x2 x3 res h H locs ls hP hD hS hl
  rw [Span_valueOf] at h
  refine lv_aload_n hx hb d_Span_valueOf_0 rfl (lv_at hl 0 rfl) ?_
  refine lv_iload_n hx hb d_Span_valueOf_1 rfl (lv_at hl 2 rfl) ?_
  refine lv_iconst (v := 1) hx hb d_Span_valueOf_2 (by decide) ?_
  refine lv_isub hx hb d_Span_valueOf_3 ?_
  obtain ⟨r38, hr38, h⟩ := Option.bind_eq_some_iff.mp h
  refine cl_Ir hP hS hA (va_runV (As := [.int (x2 - (1 : Int32))]) (rest := []) ⟨hx, hb, hml, hown, htb⟩ (c_Query_byteAt l g F a_p1 p1 (x2 - (1 : Int32)) _ hr38 H.size) (cw_V htb mb_Query_byteAt (htb _ L_Span_32) rfl rfl ⟨Nat.le_of_ble_eq_true rfl, Nat.le_of_ble_eq_true rfl⟩) (pre_V (va_recv hK hP (ci := 1) (q0 := 0) rfl rfl) (pre_S [0, 1, 2, 3, 4, 5, 6, 7, 8, 9, 10] rfl rfl hP hD hS hA hAA hG)) rfl rfl hl.1 rfl (lv_room (Nat.le_of_ble_eq_true rfl)) d_Span_valueOf_4 ⟨Nat.zero_le _, Nat.zero_le _⟩) (fun H locs hP hS => ?_)
  refine lv_istore (lv' := [(4, .int r38), (0, .ref (a_p1 0)), (1, .int x1), (2, .int x2), (3, .int x3)]) hx hb d_Span_valueOf_7 hl (by decide) rfl (fun ls hl => ?_)
  refine lv_iload hx hb d_Span_valueOf_9 (lv_at hl 0 rfl) ?_
  obtain ⟨r39, hr39, h⟩ := Option.bind_eq_some_iff.mp h
  refine cl_Ir hP hS hA (va_runSN (As := [.int r38]) (rest := []) ⟨hx, hb, hml, hown, htb⟩ (c_MQ_isDigit l g F r38 _ hr39 H.size) (cn_S htb mb_MQ_isDigit (nm_of hG N_Span_42) rfl rfl ⟨Nat.le_of_ble_eq_true rfl, Nat.le_of_ble_eq_true rfl⟩) (pre_S [] rfl rfl hP hD hS hA hAA hG) rfl rfl hl.1 rfl (lv_room (Nat.le_of_ble_eq_true rfl)) d_Span_valueOf_11 ⟨Nat.zero_le _, Nat.zero_le _⟩) (fun H locs hP hS => ?_)
  refine lv_if_eq (tgt := 23) hx hb d_Span_valueOf_14 (by decide) (fun c40 => ?_) (fun c40 => ?_)
  · replace h := (if_pos c40).symm.trans h
    refine lv_iload_n hx hb d_Span_valueOf_23 rfl (lv_at hl 3 rfl) ?_
    refine lv_iconst (v := 1) hx hb d_Span_valueOf_24 (by decide) ?_
    refine lv_isub hx hb d_Span_valueOf_25 ?_
    refine lv_iload_n hx hb d_Span_valueOf_26 rfl (lv_at hl 2 rfl) ?_
    refine lv_isub hx hb d_Span_valueOf_27 ?_
    exact k_Span_valueOf_28 hC _ _ _ _ _ _ h _ _ _ hP hD hS (lv_sub hl [1, 2, 4, 0] rfl)
  · replace h := (if_neg c40).symm.trans h
    refine lv_iload_n hx hb d_Span_valueOf_17 rfl (lv_at hl 3 rfl) ?_
    refine lv_iload_n hx hb d_Span_valueOf_18 rfl (lv_at hl 2 rfl) ?_
    refine lv_isub hx hb d_Span_valueOf_19 ?_
    refine lv_goto (tgt := 28) hx hb d_Span_valueOf_20 (by decide) ?_
    exact k_Span_valueOf_28 hC _ _ _ _ _ _ h _ _ _ hP hD hS (lv_sub hl [1, 2, 4, 0] rfl)
theorem c_Span_valueOf (l : Launch) (g : Gz) (F : Nat) (a_p1 : Nat → Nat) (p1 : StI) (x1 : Int32) (x2 : Int32) (x3 : Int32) (res : Int64) (h : Span_valueOf F p1 x1 x2 x3 = some res) : ∀ sz : Nat, Met l y_Span_valueOf (.code y_Span_valueOf prog_8_method_4_code 9 (some .long) :: TBL) rm_Span_valueOf (va_Pc [.ref (a_p1 0), .int x1, .int x2, .int x3] (Pre0 g ((pic_Query g a_p1 p1)) sz)) (RL res (fun q => sz ≤ q)) 0 0 (fun q => sz ≤ q) :=
  ct_r (Qc := fun A => RL res A) (by decide) (Nat.le_of_ble_eq_true rfl) (fun p e s m args below meth c A2 A hC => k_Span_valueOf hC p1 x1 x2 x3 res h)
def Span_fits_129 (F : Nat) (t : StI) (p1 : StI) (x7 : Int64) (y0 : Int64) : Option (Int32 × StI) := (Span_keeps F t x7 y0).bind fun r18 => if r18.1 = 0 ∨ r18.1 = 1 then some (r18.1, r18.2) else none
def Span_fits_105 (F : Nat) (t : StI) (p1 : StI) (x3 : Int32) (x4 : Int32) (x5 : Int32) (x6 : Int32) (y0 : Int64) : Option (Int32 × StI) := if x6 = 0 then (Span_valueOf F p1 (x5 + (2 : Int32)) x3 x4).bind fun r21 => Span_fits_129 F t p1 y0 r21 else Span_fits_129 F t p1 y0 (2147483647 : Int64)
def Span_fits_84 (F : Nat) (t : StI) (p1 : StI) (x2 : Int32) (x3 : Int32) (x4 : Int32) (x5 : Int32) (x6 : Int32) : Option (Int32 × StI) := if x5 = x2 then Span_fits_105 F t p1 x3 x4 x5 x6 (-2147483648 : Int64) else (Span_valueOf F p1 x2 x5 x4).bind fun r23 => Span_fits_105 F t p1 x3 x4 x5 x6 r23
def Span_fits_48 (F : Nat) (t : StI) (p1 : StI) (x2 : Int32) (x3 : Int32) (x4 : Int32) (x5 : Int32) (y0 : Int32) : Option (Int32 × StI) := (Query_byteAt F p1 (x5 + (1 : Int32))).bind fun r24 => if r24 = (46 : Int32) then if x3 < (x5 + (2 : Int32)) then some ((0 : Int32), t) else if x5 = x2 then if y0 = 0 then Span_fits_84 F t p1 x2 x3 x4 x5 y0 else some ((0 : Int32), t) else Span_fits_84 F t p1 x2 x3 x4 x5 y0 else some ((0 : Int32), t)
def Span_fits (F : Nat) (t : StI) (p1 : StI) (x2 : Int32) (x3 : Int32) (x4 : Int32) : Option (Int32 × StI) := (Query_find F p1 (46 : Int32) x2 x3).bind fun r29 => if r29 = (-1 : Int32) then (Span_valueOf F p1 x2 x3 x4).bind fun r32 => (Span_keeps F t r32 r32).bind fun r33 => if r33.1 = 0 ∨ r33.1 = 1 then some (r33.1, r33.2) else none else if (r29 + (2 : Int32)) = x3 then Span_fits_48 F t p1 x2 x3 x4 r29 (1 : Int32) else Span_fits_48 F t p1 x2 x3 x4 r29 (0 : Int32)
set_option maxHeartbeats 4000000 in
set_option maxRecDepth 100000 in
theorem k_Span_fits_129 {p : Program} {l : Launch} {e : Env} {s : State} {m : MethodId} {args : Array Value} {below : List Frame} {meth : Method} {c : Code} {g : Gz} {A : Nat → Prop} {F : Nat} {a_t a_p1 : Nat → Nat} (hC : Cx prog_8_method_2_code 11 (some .boolean) R_Span p s m args meth c g A A) : ∀ (t : StI) (p1 : StI) (x7 : Int64) (y0 : Int64) (res : Int32 × StI), Span_fits_129 F t p1 x7 y0 = some res → Go p l e rm_Span_fits s m args below meth c g A A 11 (MQ below (EI g ((pic_Span g a_t res.2) ++ (pic_Query g a_p1 p1)) res.1 A) args s 0 0 A) ((pic_Span g a_t t) ++ (pic_Query g a_p1 p1)) [(0, .ref (a_t 0)), (7, .long x7)] 129 [.long y0] := by
  obtain ⟨hx, hb, hr, hml, hown, htb, hlocks, hA, hAA, hG⟩ := id hC
  have hK := hG.1
  intro t p1 x7 y0 res h H locs ls hP hD hS hl
  rw [Span_fits_129] at h
  refine lv_lstore (lv' := [(9, .long y0), (0, .ref (a_t 0)), (7, .long x7)]) hx hb d_Span_fits_129 hl (by decide) rfl (fun ls hl => ?_)
  refine lv_aload_n hx hb d_Span_fits_131 rfl (lv_at hl 1 rfl) ?_
  refine lv_lload hx hb d_Span_fits_132 (lv_at hl 2 rfl) ?_
  refine lv_lload hx hb d_Span_fits_134 (lv_at hl 0 rfl) ?_
  obtain ⟨r18, hr18, h⟩ := Option.bind_eq_some_iff.mp h
  refine cl_I (wr := (pic_Query g a_p1 p1)) [0] [1, 2, 3, 4, 5, 6, 7, 8, 9, 10, 11] rfl rfl rfl (by decide) hP hD hS hA (va_runV (As := [.long x7, .long y0]) (rest := []) ⟨hx, hb, hml, hown, htb⟩ (c_Span_keeps l g F a_t t x7 y0 _ hr18 H.size) (cw_V htb mb_Span_keeps (htb _ L_Span_28) rfl rfl ⟨Nat.le_of_ble_eq_true rfl, Nat.le_of_ble_eq_true rfl⟩) (pre_V (va_recv hK hP (ci := 2) (q0 := 0) rfl rfl) (pre_S [0] rfl rfl hP hD hS hA hAA hG)) rfl rfl hl.1 rfl (lv_room (Nat.le_of_ble_eq_true rfl)) d_Span_fits_136 ⟨Nat.zero_le _, Nat.zero_le _⟩) (fun H locs hP hD hS => ?_)
  have hP : va_P (gD g) vwCl ((pic_Span g a_t r18.2) ++ (pic_Query g a_p1 p1)) H := hP.sub [11, 0, 1, 2, 3, 4, 5, 6, 7, 8, 9, 10] rfl
  have hD : va_D A ((pic_Span g a_t r18.2) ++ (pic_Query g a_p1 p1)) := hD.sub [11, 0, 1, 2, 3, 4, 5, 6, 7, 8, 9, 10] rfl rfl
  by_cases c19 : (r18.1 = 0 ∨ r18.1 = 1)
  rotate_left
  · replace h := (if_neg c19).symm.trans h
    cases h
  replace h := (if_pos c19).symm.trans h
  cases h
  exact W.zret hx hb hr (by rcases c19 with c19 | c19 <;> rw [c19] <;> rfl) (fun t ht hW => ⟨⟨_, (), rfl, rfl, by rw [ht]; exact hP, hD⟩, hS.F ht⟩) hS.2.2 d_Span_fits_139
set_option maxHeartbeats 4000000 in
set_option maxRecDepth 100000 in
theorem k_Span_fits_105 {p : Program} {l : Launch} {e : Env} {s : State} {m : MethodId} {args : Array Value} {below : List Frame} {meth : Method} {c : Code} {g : Gz} {A : Nat → Prop} {F : Nat} {a_t a_p1 : Nat → Nat} (hC : Cx prog_8_method_2_code 11 (some .boolean) R_Span p s m args meth c g A A) : ∀ (t : StI) (p1 : StI) (x3 : Int32) (x4 : Int32) (x5 : Int32) (x6 : Int32) (y0 : Int64) (res : Int32 × StI), Span_fits_105 F t p1 x3 x4 x5 x6 y0 = some res → Go p l e rm_Span_fits s m args below meth c g A A 11 (MQ below (EI g ((pic_Span g a_t res.2) ++ (pic_Query g a_p1 p1)) res.1 A) args s 0 0 A) ((pic_Span g a_t t) ++ (pic_Query g a_p1 p1)) [(0, .ref (a_t 0)), (1, .ref (a_p1 0)), (3, .int x3), (4, .int x4), (5, .int x5), (6, .int x6)] 105 [.long y0] := by
  obtain ⟨hx, hb, hr, hml, hown, htb, hlocks, hA, hAA, hG⟩ := id hC
  have hK := hG.1
  intro t p1 x3 x4 x5 x6 y0 res h H locs ls hP hD hS hl
  rw [Span_fits_105] at h
  refine lv_lstore (lv' := [(7, .long y0), (0, .ref (a_t 0)), (1, .ref (a_p1 0)), (3, .int x3), (4, .int x4), (5, .int x5), (6, .int x6)]) hx hb d_Span_fits_105 hl (by decide) rfl (fun ls hl => ?_)
  refine lv_iload hx hb d_Span_fits_107 (lv_at hl 6 rfl) ?_
  refine lv_if_eq (tgt := 118) hx hb d_Span_fits_109 (by decide) (fun c20 => ?_) (fun c20 => ?_)
  · replace h := (if_pos c20).symm.trans h
    refine lv_aload_n hx hb d_Span_fits_118 rfl (lv_at hl 2 rfl) ?_
    refine lv_iload hx hb d_Span_fits_119 (lv_at hl 5 rfl) ?_
    refine lv_iconst (v := 2) hx hb d_Span_fits_121 (by decide) ?_
    refine lv_iadd hx hb d_Span_fits_122 ?_
    refine lv_iload_n hx hb d_Span_fits_123 rfl (lv_at hl 3 rfl) ?_
    refine lv_iload hx hb d_Span_fits_124 (lv_at hl 4 rfl) ?_
    obtain ⟨r21, hr21, h⟩ := Option.bind_eq_some_iff.mp h
    refine cl_Lr hP hS hA (va_runS (As := [.ref (a_p1 0), .int (x5 + (2 : Int32)), .int x3, .int x4]) (rest := []) ⟨hx, hb, hml, hown, htb⟩ (c_Span_valueOf l g F a_p1 p1 (x5 + (2 : Int32)) x3 x4 _ hr21 H.size) (cw_S htb mb_Span_valueOf (htb _ L_Span_24) rfl rfl ⟨Nat.le_of_ble_eq_true rfl, Nat.le_of_ble_eq_true rfl⟩) (pre_S [1, 2, 3, 4, 5, 6, 7, 8, 9, 10, 11] rfl rfl hP hD hS hA hAA hG) rfl rfl hl.1 rfl (lv_room (Nat.le_of_ble_eq_true rfl)) d_Span_fits_126 ⟨Nat.zero_le _, Nat.zero_le _⟩) (fun H locs hP hS => ?_)
    exact k_Span_fits_129 hC _ _ _ _ _ h _ _ _ hP hD hS (lv_sub hl [1, 0] rfl)
  · replace h := (if_neg c20).symm.trans h
    refine lv_ldc2 (v := 2147483647) hx hb hown (htb _ K_Span_38) d_Span_fits_112 ?_
    refine lv_goto (tgt := 129) hx hb d_Span_fits_115 (by decide) ?_
    exact k_Span_fits_129 hC _ _ _ _ _ h _ _ _ hP hD hS (lv_sub hl [1, 0] rfl)
set_option maxHeartbeats 4000000 in
set_option maxRecDepth 100000 in
theorem k_Span_fits_84 {p : Program} {l : Launch} {e : Env} {s : State} {m : MethodId} {args : Array Value} {below : List Frame} {meth : Method} {c : Code} {g : Gz} {A : Nat → Prop} {F : Nat} {a_t a_p1 : Nat → Nat} (hC : Cx prog_8_method_2_code 11 (some .boolean) R_Span p s m args meth c g A A) : ∀ (t : StI) (p1 : StI) (x2 : Int32) (x3 : Int32) (x4 : Int32) (x5 : Int32) (x6 : Int32) (res : Int32 × StI), Span_fits_84 F t p1 x2 x3 x4 x5 x6 = some res → Go p l e rm_Span_fits s m args below meth c g A A 11 (MQ below (EI g ((pic_Span g a_t res.2) ++ (pic_Query g a_p1 p1)) res.1 A) args s 0 0 A) ((pic_Span g a_t t) ++ (pic_Query g a_p1 p1)) [(0, .ref (a_t 0)), (1, .ref (a_p1 0)), (2, .int x2), (3, .int x3), (4, .int x4), (5, .int x5), (6, .int x6)] 84 [] := by
  obtain ⟨hx, hb, hr, hml, hown, htb, hlocks, hA, hAA, hG⟩ := id hC
  have hK := hG.1
  intro t p1 x2 x3 x4 x5 x6 res h H locs ls hP hD hS hl
  rw [Span_fits_84] at h
  refine lv_iload hx hb d_Span_fits_84 (lv_at hl 5 rfl) ?_
  refine lv_iload_n hx hb d_Span_fits_86 rfl (lv_at hl 2 rfl) ?_
  refine lv_icmp_ne (tgt := 96) hx hb d_Span_fits_87 (by decide) (fun c22 => ?_) (fun c22 => ?_)
  · replace h := (if_neg c22).symm.trans h
    refine lv_aload_n hx hb d_Span_fits_96 rfl (lv_at hl 1 rfl) ?_
    refine lv_iload_n hx hb d_Span_fits_97 rfl (lv_at hl 2 rfl) ?_
    refine lv_iload hx hb d_Span_fits_98 (lv_at hl 5 rfl) ?_
    refine lv_iload hx hb d_Span_fits_100 (lv_at hl 4 rfl) ?_
    obtain ⟨r23, hr23, h⟩ := Option.bind_eq_some_iff.mp h
    refine cl_Lr hP hS hA (va_runS (As := [.ref (a_p1 0), .int x2, .int x5, .int x4]) (rest := []) ⟨hx, hb, hml, hown, htb⟩ (c_Span_valueOf l g F a_p1 p1 x2 x5 x4 _ hr23 H.size) (cw_S htb mb_Span_valueOf (htb _ L_Span_24) rfl rfl ⟨Nat.le_of_ble_eq_true rfl, Nat.le_of_ble_eq_true rfl⟩) (pre_S [1, 2, 3, 4, 5, 6, 7, 8, 9, 10, 11] rfl rfl hP hD hS hA hAA hG) rfl rfl hl.1 rfl (lv_room (Nat.le_of_ble_eq_true rfl)) d_Span_fits_102 ⟨Nat.zero_le _, Nat.zero_le _⟩) (fun H locs hP hS => ?_)
    exact k_Span_fits_105 hC _ _ _ _ _ _ _ _ h _ _ _ hP hD hS (lv_sub hl [0, 1, 3, 4, 5, 6] rfl)
  · replace h := (if_pos c22).symm.trans h
    refine lv_ldc2 (v := -2147483648) hx hb hown (htb _ K_Span_36) d_Span_fits_90 ?_
    refine lv_goto (tgt := 105) hx hb d_Span_fits_93 (by decide) ?_
    exact k_Span_fits_105 hC _ _ _ _ _ _ _ _ h _ _ _ hP hD hS (lv_sub hl [0, 1, 3, 4, 5, 6] rfl)
set_option maxHeartbeats 4000000 in
set_option maxRecDepth 100000 in
theorem k_Span_fits_48 {p : Program} {l : Launch} {e : Env} {s : State} {m : MethodId} {args : Array Value} {below : List Frame} {meth : Method} {c : Code} {g : Gz} {A : Nat → Prop} {F : Nat} {a_t a_p1 : Nat → Nat} (hC : Cx prog_8_method_2_code 11 (some .boolean) R_Span p s m args meth c g A A) : ∀ (t : StI) (p1 : StI) (x2 : Int32) (x3 : Int32) (x4 : Int32) (x5 : Int32) (y0 : Int32) (res : Int32 × StI), Span_fits_48 F t p1 x2 x3 x4 x5 y0 = some res → Go p l e rm_Span_fits s m args below meth c g A A 11 (MQ below (EI g ((pic_Span g a_t res.2) ++ (pic_Query g a_p1 p1)) res.1 A) args s 0 0 A) ((pic_Span g a_t t) ++ (pic_Query g a_p1 p1)) [(0, .ref (a_t 0)), (1, .ref (a_p1 0)), (2, .int x2), (3, .int x3), (4, .int x4), (5, .int x5)] 48 [.int y0] := by
  obtain ⟨hx, hb, hr, hml, hown, htb, hlocks, hA, hAA, hG⟩ := id hC
  have hK := hG.1
  intro t p1 x2 x3 x4 x5 y0 res h H locs ls hP hD hS hl
  rw [Span_fits_48] at h
  refine lv_istore (lv' := [(6, .int y0), (0, .ref (a_t 0)), (1, .ref (a_p1 0)), (2, .int x2), (3, .int x3), (4, .int x4), (5, .int x5)]) hx hb d_Span_fits_48 hl (by decide) rfl (fun ls hl => ?_)
  refine lv_aload_n hx hb d_Span_fits_50 rfl (lv_at hl 2 rfl) ?_
  refine lv_iload hx hb d_Span_fits_51 (lv_at hl 6 rfl) ?_
  refine lv_iconst (v := 1) hx hb d_Span_fits_53 (by decide) ?_
  refine lv_iadd hx hb d_Span_fits_54 ?_
  obtain ⟨r24, hr24, h⟩ := Option.bind_eq_some_iff.mp h
  refine cl_Ir hP hS hA (va_runV (As := [.int (x5 + (1 : Int32))]) (rest := []) ⟨hx, hb, hml, hown, htb⟩ (c_Query_byteAt l g F a_p1 p1 (x5 + (1 : Int32)) _ hr24 H.size) (cw_V htb mb_Query_byteAt (htb _ L_Span_32) rfl rfl ⟨Nat.le_of_ble_eq_true rfl, Nat.le_of_ble_eq_true rfl⟩) (pre_V (va_recv hK hP (ci := 1) (q0 := 1) rfl rfl) (pre_S [1, 2, 3, 4, 5, 6, 7, 8, 9, 10, 11] rfl rfl hP hD hS hA hAA hG)) rfl rfl hl.1 rfl (lv_room (Nat.le_of_ble_eq_true rfl)) d_Span_fits_55 ⟨Nat.zero_le _, Nat.zero_le _⟩) (fun H locs hP hS => ?_)
  refine lv_bipush (v := 46) hx hb d_Span_fits_58 (by decide) ?_
  refine lv_icmp_ne (tgt := 82) hx hb d_Span_fits_60 (by decide) (fun c25 => ?_) (fun c25 => ?_)
  · replace h := (if_neg c25).symm.trans h
    refine lv_iconst (v := 0) hx hb d_Span_fits_82 (by decide) ?_
    cases h
    exact W.zret hx hb hr rfl (fun t ht hW => ⟨⟨_, (), rfl, rfl, by rw [ht]; exact hP, hD⟩, hS.F ht⟩) hS.2.2 d_Span_fits_83
  · replace h := (if_pos c25).symm.trans h
    refine lv_iload hx hb d_Span_fits_63 (lv_at hl 6 rfl) ?_
    refine lv_iconst (v := 2) hx hb d_Span_fits_65 (by decide) ?_
    refine lv_iadd hx hb d_Span_fits_66 ?_
    refine lv_iload_n hx hb d_Span_fits_67 rfl (lv_at hl 4 rfl) ?_
    refine lv_icmp_gt (tgt := 82) hx hb d_Span_fits_68 (by decide) (fun c26 => ?_) (fun c26 => ?_)
    · replace h := (if_pos c26).symm.trans h
      refine lv_iconst (v := 0) hx hb d_Span_fits_82 (by decide) ?_
      cases h
      exact W.zret hx hb hr rfl (fun t ht hW => ⟨⟨_, (), rfl, rfl, by rw [ht]; exact hP, hD⟩, hS.F ht⟩) hS.2.2 d_Span_fits_83
    · replace h := (if_neg c26).symm.trans h
      refine lv_iload hx hb d_Span_fits_71 (lv_at hl 6 rfl) ?_
      refine lv_iload_n hx hb d_Span_fits_73 rfl (lv_at hl 3 rfl) ?_
      refine lv_icmp_ne (tgt := 84) hx hb d_Span_fits_74 (by decide) (fun c27 => ?_) (fun c27 => ?_)
      · replace h := (if_neg c27).symm.trans h
        exact k_Span_fits_84 hC _ _ _ _ _ _ _ _ h _ _ _ hP hD hS (lv_sub hl [1, 2, 3, 4, 5, 6, 0] rfl)
      · replace h := (if_pos c27).symm.trans h
        refine lv_iload hx hb d_Span_fits_77 (lv_at hl 0 rfl) ?_
        refine lv_if_eq (tgt := 84) hx hb d_Span_fits_79 (by decide) (fun c28 => ?_) (fun c28 => ?_)
        · replace h := (if_pos c28).symm.trans h
          exact k_Span_fits_84 hC _ _ _ _ _ _ _ _ h _ _ _ hP hD hS (lv_sub hl [1, 2, 3, 4, 5, 6, 0] rfl)
        · replace h := (if_neg c28).symm.trans h
          refine lv_iconst (v := 0) hx hb d_Span_fits_82 (by decide) ?_
          cases h
          exact W.zret hx hb hr rfl (fun t ht hW => ⟨⟨_, (), rfl, rfl, by rw [ht]; exact hP, hD⟩, hS.F ht⟩) hS.2.2 d_Span_fits_83
set_option maxHeartbeats 4000000 in
set_option maxRecDepth 100000 in
theorem k_Span_fits {p : Program} {l : Launch} {e : Env} {s : State} {m : MethodId} {args : Array Value} {below : List Frame} {meth : Method} {c : Code} {g : Gz} {A : Nat → Prop} {F : Nat} {a_t a_p1 : Nat → Nat} (hC : Cx prog_8_method_2_code 11 (some .boolean) R_Span p s m args meth c g A A) : ∀ (t : StI) (p1 : StI) (x2 : Int32) (x3 : Int32) (x4 : Int32) (res : Int32 × StI), Span_fits F t p1 x2 x3 x4 = some res → Go p l e rm_Span_fits s m args below meth c g A A 11 (MQ below (EI g ((pic_Span g a_t res.2) ++ (pic_Query g a_p1 p1)) res.1 A) args s 0 0 A) ((pic_Span g a_t t) ++ (pic_Query g a_p1 p1)) [(0, .ref (a_t 0)), (1, .ref (a_p1 0)), (2, .int x2), (3, .int x3), (4, .int x4)] 0 [] := by
  obtain ⟨hx, hb, hr, hml, hown, htb, hlocks, hA, hAA, hG⟩ := id hC
  have hK := hG.1
  intro t p1 x2 x3 x4 res h H locs ls hP hD hS hl
  rw [Span_fits] at h
  refine lv_aload_n hx hb d_Span_fits_0 rfl (lv_at hl 1 rfl) ?_
  refine lv_bipush (v := 46) hx hb d_Span_fits_1 (by decide) ?_
  refine lv_iload_n hx hb d_Span_fits_3 rfl (lv_at hl 2 rfl) ?_
  refine lv_iload_n hx hb d_Span_fits_4 rfl (lv_at hl 3 rfl) ?_
  obtain ⟨r29, hr29, h⟩ := Option.bind_eq_some_iff.mp h
  refine cl_Ir hP hS hA (va_runV (As := [.int (46 : Int32), .int x2, .int x3]) (rest := []) ⟨hx, hb, hml, hown, htb⟩ (c_Query_find l g F a_p1 p1 (46 : Int32) x2 x3 _ hr29 H.size) (cw_V htb mb_Query_find (htb _ L_Span_18) rfl rfl ⟨Nat.le_of_ble_eq_true rfl, Nat.le_of_ble_eq_true rfl⟩) (pre_V (va_recv hK hP (ci := 1) (q0 := 1) rfl rfl) (pre_S [1, 2, 3, 4, 5, 6, 7, 8, 9, 10, 11] rfl rfl hP hD hS hA hAA hG)) rfl rfl hl.1 rfl (lv_room (Nat.le_of_ble_eq_true rfl)) d_Span_fits_5 ⟨Nat.zero_le _, Nat.zero_le _⟩) (fun H locs hP hS => ?_)
  refine lv_istore (lv' := [(5, .int r29), (0, .ref (a_t 0)), (1, .ref (a_p1 0)), (2, .int x2), (3, .int x3), (4, .int x4)]) hx hb d_Span_fits_8 hl (by decide) rfl (fun ls hl => ?_)
  refine lv_iload hx hb d_Span_fits_10 (lv_at hl 0 rfl) ?_
  refine lv_iconst (v := -1) hx hb d_Span_fits_12 (by decide) ?_
  refine lv_icmp_ne (tgt := 35) hx hb d_Span_fits_13 (by decide) (fun c30 => ?_) (fun c30 => ?_)
  · replace h := (if_neg c30).symm.trans h
    refine lv_iload hx hb d_Span_fits_35 (lv_at hl 0 rfl) ?_
    refine lv_iconst (v := 2) hx hb d_Span_fits_37 (by decide) ?_
    refine lv_iadd hx hb d_Span_fits_38 ?_
    refine lv_iload_n hx hb d_Span_fits_39 rfl (lv_at hl 4 rfl) ?_
    refine lv_icmp_ne (tgt := 47) hx hb d_Span_fits_40 (by decide) (fun c31 => ?_) (fun c31 => ?_)
    · replace h := (if_neg c31).symm.trans h
      refine lv_iconst (v := 0) hx hb d_Span_fits_47 (by decide) ?_
      exact k_Span_fits_48 hC _ _ _ _ _ _ _ _ h _ _ _ hP hD hS (lv_sub hl [1, 2, 3, 4, 5, 0] rfl)
    · replace h := (if_pos c31).symm.trans h
      refine lv_iconst (v := 1) hx hb d_Span_fits_43 (by decide) ?_
      refine lv_goto (tgt := 48) hx hb d_Span_fits_44 (by decide) ?_
      exact k_Span_fits_48 hC _ _ _ _ _ _ _ _ h _ _ _ hP hD hS (lv_sub hl [1, 2, 3, 4, 5, 0] rfl)
  · replace h := (if_pos c30).symm.trans h
    refine lv_aload_n hx hb d_Span_fits_16 rfl (lv_at hl 2 rfl) ?_
    refine lv_iload_n hx hb d_Span_fits_17 rfl (lv_at hl 3 rfl) ?_
    refine lv_iload_n hx hb d_Span_fits_18 rfl (lv_at hl 4 rfl) ?_
    refine lv_iload hx hb d_Span_fits_19 (lv_at hl 5 rfl) ?_
    obtain ⟨r32, hr32, h⟩ := Option.bind_eq_some_iff.mp h
    refine cl_Lr hP hS hA (va_runS (As := [.ref (a_p1 0), .int x2, .int x3, .int x4]) (rest := []) ⟨hx, hb, hml, hown, htb⟩ (c_Span_valueOf l g F a_p1 p1 x2 x3 x4 _ hr32 H.size) (cw_S htb mb_Span_valueOf (htb _ L_Span_24) rfl rfl ⟨Nat.le_of_ble_eq_true rfl, Nat.le_of_ble_eq_true rfl⟩) (pre_S [1, 2, 3, 4, 5, 6, 7, 8, 9, 10, 11] rfl rfl hP hD hS hA hAA hG) rfl rfl hl.1 rfl (lv_room (Nat.le_of_ble_eq_true rfl)) d_Span_fits_21 ⟨Nat.zero_le _, Nat.zero_le _⟩) (fun H locs hP hS => ?_)
    refine lv_lstore (lv' := [(6, .long r32), (5, .int r29), (0, .ref (a_t 0)), (1, .ref (a_p1 0)), (2, .int x2), (3, .int x3), (4, .int x4)]) hx hb d_Span_fits_24 hl (by decide) rfl (fun ls hl => ?_)
    refine lv_aload_n hx hb d_Span_fits_26 rfl (lv_at hl 2 rfl) ?_
    refine lv_lload hx hb d_Span_fits_27 (lv_at hl 0 rfl) ?_
    refine lv_lload hx hb d_Span_fits_29 (lv_at hl 0 rfl) ?_
    obtain ⟨r33, hr33, h⟩ := Option.bind_eq_some_iff.mp h
    refine cl_I (wr := (pic_Query g a_p1 p1)) [0] [1, 2, 3, 4, 5, 6, 7, 8, 9, 10, 11] rfl rfl rfl (by decide) hP hD hS hA (va_runV (As := [.long r32, .long r32]) (rest := []) ⟨hx, hb, hml, hown, htb⟩ (c_Span_keeps l g F a_t t r32 r32 _ hr33 H.size) (cw_V htb mb_Span_keeps (htb _ L_Span_28) rfl rfl ⟨Nat.le_of_ble_eq_true rfl, Nat.le_of_ble_eq_true rfl⟩) (pre_V (va_recv hK hP (ci := 2) (q0 := 0) rfl rfl) (pre_S [0] rfl rfl hP hD hS hA hAA hG)) rfl rfl hl.1 rfl (lv_room (Nat.le_of_ble_eq_true rfl)) d_Span_fits_31 ⟨Nat.zero_le _, Nat.zero_le _⟩) (fun H locs hP hD hS => ?_)
    have hP : va_P (gD g) vwCl ((pic_Span g a_t r33.2) ++ (pic_Query g a_p1 p1)) H := hP.sub [11, 0, 1, 2, 3, 4, 5, 6, 7, 8, 9, 10] rfl
    have hD : va_D A ((pic_Span g a_t r33.2) ++ (pic_Query g a_p1 p1)) := hD.sub [11, 0, 1, 2, 3, 4, 5, 6, 7, 8, 9, 10] rfl rfl
    by_cases c34 : (r33.1 = 0 ∨ r33.1 = 1)
    rotate_left
    · replace h := (if_neg c34).symm.trans h
      cases h
    replace h := (if_pos c34).symm.trans h
    cases h
    exact W.zret hx hb hr (by rcases c34 with c34 | c34 <;> rw [c34] <;> rfl) (fun t ht hW => ⟨⟨_, (), rfl, rfl, by rw [ht]; exact hP, hD⟩, hS.F ht⟩) hS.2.2 d_Span_fits_34
theorem c_Span_fits (l : Launch) (g : Gz) (F : Nat) (a_t : Nat → Nat) (a_p1 : Nat → Nat) (t : StI) (p1 : StI) (x2 : Int32) (x3 : Int32) (x4 : Int32) (res : Int32 × StI) (h : Span_fits F t p1 x2 x3 x4 = some res) : ∀ sz : Nat, Met l y_Span_fits (.code y_Span_fits prog_8_method_2_code 11 (some .boolean) :: TBL) rm_Span_fits (va_Pc [.ref (a_t 0), .ref (a_p1 0), .int x2, .int x3, .int x4] (Pre0 g ((pic_Span g a_t t) ++ (pic_Query g a_p1 p1)) sz)) (EI g ((pic_Span g a_t res.2) ++ (pic_Query g a_p1 p1)) res.1 (va_A ((pic_Span g a_t t) ++ (pic_Query g a_p1 p1)) sz)) 0 0 (va_A ((pic_Span g a_t t) ++ (pic_Query g a_p1 p1)) sz) :=
  ct_w (Qc := fun A => EI g ((pic_Span g a_t res.2) ++ (pic_Query g a_p1 p1)) res.1 A) (by decide) (Nat.le_of_ble_eq_true rfl) (fun p e s m args below meth c A hC => k_Span_fits hC t p1 x2 x3 x4 res h)
