theorem L_Mo_7 : (Jvm.Cond.fieldLink "MailQueriesModel" (7 : Nat) "MailQueriesModel" "ready" "[B") ∈ TBL := TBL_in (List.mem_of_getElem? (i := 968) (by decide +kernel)) (by decide +kernel)
set_option maxRecDepth 100000 in
theorem W_Mo_lay_code : (Jvm.Cond.code ({ cls := "MailQueriesModel", name := "lay", desc := "(II)V" } : Jvm.MethodName) prog_10_method_3_code (4 : Nat) (Option.none : Option Jvm.ClassFile.FieldType)) ∈ TBL := TBL_in (List.mem_of_getElem? (i := 1167) rfl) rfl
theorem I_Mo : (Jvm.Cond.initialized "MailQueriesModel") ∈ TBL := TBL_in (List.mem_of_getElem? (i := 109) (by decide +kernel)) (by decide +kernel)
theorem W_Mo_lay_in : (Jvm.Cond.instanceMethod ({ cls := "MailQueriesModel", name := "lay", desc := "(II)V" } : Jvm.MethodName)) ∈ TBL := TBL_in (List.mem_of_getElem? (i := 1166) (by decide +kernel)) (by decide +kernel)
theorem sel_48 : Cond.selects "MailQueriesModel" ⟨"MailQueriesModel", "lay", "(II)V"⟩ ⟨"MailQueriesModel", "lay", "(II)V"⟩ ∈ TBL := TBL_in (List.mem_of_getElem? (i := 48) (by decide +kernel)) (by decide +kernel)
theorem L_Mo_144 : (Jvm.Cond.fieldLink "MailQueriesModel" (144 : Nat) "MailQueriesModel" "thrown" "I") ∈ TBL := TBL_in (List.mem_of_getElem? (i := 967) (by decide +kernel)) (by decide +kernel)
theorem L_Mo_147 : (Jvm.Cond.methodLink "MailQueriesModel" (147 : Nat) ({ cls := "MailQueriesModel", name := "lay", desc := "(II)V" } : Jvm.MethodName)) ∈ TBL := TBL_in (List.mem_of_getElem? (i := 1164) (by decide +kernel)) (by decide +kernel)
set_option maxRecDepth 100000 in
theorem W_Mo_feed_code : (Jvm.Cond.code ({ cls := "MailQueriesModel", name := "feed", desc := "(IIIII)V" } : Jvm.MethodName) prog_10_method_4_code (6 : Nat) (Option.none : Option Jvm.ClassFile.FieldType)) ∈ TBL := TBL_in (List.mem_of_getElem? (i := 1163) rfl) rfl
theorem W_Mo_feed_in : (Jvm.Cond.instanceMethod ({ cls := "MailQueriesModel", name := "feed", desc := "(IIIII)V" } : Jvm.MethodName)) ∈ TBL := TBL_in (List.mem_of_getElem? (i := 1161) (by decide +kernel)) (by decide +kernel)
theorem W_Mo_feed_se : (Jvm.Cond.selects "MailQueriesModel" ({ cls := "MailQueriesModel", name := "feed", desc := "(IIIII)V" } : Jvm.MethodName) ({ cls := "MailQueriesModel", name := "feed", desc := "(IIIII)V" } : Jvm.MethodName)) ∈ TBL := TBL_in (List.mem_of_getElem? (i := 1162) (by decide +kernel)) (by decide +kernel)
theorem L_Mo_151 : (Jvm.Cond.fieldLink "MailQueriesModel" (151 : Nat) "MailQueriesModel" "handSize" "I") ∈ TBL := TBL_in (List.mem_of_getElem? (i := 970) (by decide +kernel)) (by decide +kernel)
theorem L_Mo_13 : (Jvm.Cond.fieldLink "MailQueriesModel" (13 : Nat) "MailQueriesModel" "hand" "[B") ∈ TBL := TBL_in (List.mem_of_getElem? (i := 969) (by decide +kernel)) (by decide +kernel)
set_option maxRecDepth 100000 in
theorem W_Mo_end_code : (Jvm.Cond.code ({ cls := "MailQueriesModel", name := "end", desc := "(I)I" } : Jvm.MethodName) prog_10_method_5_code (3 : Nat) (Option.some Jvm.ClassFile.FieldType.int)) ∈ TBL := TBL_in (List.mem_of_getElem? (i := 1171) rfl) rfl
theorem W_Mo_end_in : (Jvm.Cond.instanceMethod ({ cls := "MailQueriesModel", name := "end", desc := "(I)I" } : Jvm.MethodName)) ∈ TBL := TBL_in (List.mem_of_getElem? (i := 1169) (by decide +kernel)) (by decide +kernel)
theorem W_Mo_end_se : (Jvm.Cond.selects "MailQueriesModel" ({ cls := "MailQueriesModel", name := "end", desc := "(I)I" } : Jvm.MethodName) ({ cls := "MailQueriesModel", name := "end", desc := "(I)I" } : Jvm.MethodName)) ∈ TBL := TBL_in (List.mem_of_getElem? (i := 1170) (by decide +kernel)) (by decide +kernel)
theorem L_Mo_154 : (Jvm.Cond.fieldLink "MailQueriesModel" (154 : Nat) "MailQueriesModel" "size" "I") ∈ TBL := TBL_in (List.mem_of_getElem? (i := 973) (by decide +kernel)) (by decide +kernel)
theorem L_Mo_16 : (Jvm.Cond.fieldLink "MailQueriesModel" (16 : Nat) "MailQueriesModel" "src" "[B") ∈ TBL := TBL_in (List.mem_of_getElem? (i := 971) (by decide +kernel)) (by decide +kernel)
set_option maxRecDepth 100000 in
theorem W_Mo_see_code : (Jvm.Cond.code ({ cls := "MailQueriesModel", name := "see", desc := "(I)I" } : Jvm.MethodName) prog_10_method_6_code (2 : Nat) (Option.some Jvm.ClassFile.FieldType.int)) ∈ TBL := TBL_in (List.mem_of_getElem? (i := 1191) rfl) rfl
theorem W_Mo_see_in : (Jvm.Cond.instanceMethod ({ cls := "MailQueriesModel", name := "see", desc := "(I)I" } : Jvm.MethodName)) ∈ TBL := TBL_in (List.mem_of_getElem? (i := 1190) (by decide +kernel)) (by decide +kernel)
theorem sel_52 : Cond.selects "MailQueriesModel" ⟨"MailQueriesModel", "see", "(I)I"⟩ ⟨"MailQueriesModel", "see", "(I)I"⟩ ∈ TBL := TBL_in (List.mem_of_getElem? (i := 52) (by decide +kernel)) (by decide +kernel)
theorem L_Mo_157 : (Jvm.Cond.fieldLink "MailQueriesModel" (157 : Nat) "MailQueriesModel" "fault" "I") ∈ TBL := TBL_in (List.mem_of_getElem? (i := 976) (by decide +kernel)) (by decide +kernel)
theorem L_Mo_22 : (Jvm.Cond.fieldLink "MailQueriesModel" (22 : Nat) "MailQueriesModel" "place" "I") ∈ TBL := TBL_in (List.mem_of_getElem? (i := 977) (by decide +kernel)) (by decide +kernel)
set_option maxRecDepth 100000 in
theorem W_Mo_fail_code : (Jvm.Cond.code ({ cls := "MailQueriesModel", name := "fail", desc := "(II)V" } : Jvm.MethodName) prog_10_method_7_code (3 : Nat) (Option.none : Option Jvm.ClassFile.FieldType)) ∈ TBL := TBL_in (List.mem_of_getElem? (i := 1202) rfl) rfl
theorem W_Mo_fail_in : (Jvm.Cond.instanceMethod ({ cls := "MailQueriesModel", name := "fail", desc := "(II)V" } : Jvm.MethodName)) ∈ TBL := TBL_in (List.mem_of_getElem? (i := 1201) (by decide +kernel)) (by decide +kernel)
theorem sel_54 : Cond.selects "MailQueriesModel" ⟨"MailQueriesModel", "fail", "(II)V"⟩ ⟨"MailQueriesModel", "fail", "(II)V"⟩ ∈ TBL := TBL_in (List.mem_of_getElem? (i := 54) (by decide +kernel)) (by decide +kernel)
set_option maxRecDepth 100000 in
theorem W_Mo_isPart_code : (Jvm.Cond.code ({ cls := "MailQueriesModel", name := "isPart", desc := "(I)Z" } : Jvm.MethodName) prog_10_method_8_code (1 : Nat) (Option.some Jvm.ClassFile.FieldType.boolean)) ∈ TBL := TBL_in (List.mem_of_getElem? (i := 1198) rfl) rfl
theorem W_Mo_isPart_st : (Jvm.Cond.static ({ cls := "MailQueriesModel", name := "isPart", desc := "(I)Z" } : Jvm.MethodName)) ∈ TBL := TBL_in (List.mem_of_getElem? (i := 1197) (by decide +kernel)) (by decide +kernel)
set_option maxRecDepth 100000 in
theorem W_Mo_isSmall_code : (Jvm.Cond.code ({ cls := "MailQueriesModel", name := "isSmall", desc := "(I)Z" } : Jvm.MethodName) prog_10_method_9_code (1 : Nat) (Option.some Jvm.ClassFile.FieldType.boolean)) ∈ TBL := TBL_in (List.mem_of_getElem? (i := 1213) rfl) rfl
theorem W_Mo_isSmall_st : (Jvm.Cond.static ({ cls := "MailQueriesModel", name := "isSmall", desc := "(I)Z" } : Jvm.MethodName)) ∈ TBL := TBL_in (List.mem_of_getElem? (i := 1212) (by decide +kernel)) (by decide +kernel)
set_option maxRecDepth 100000 in
theorem W_Mo_isDigit_code : (Jvm.Cond.code ({ cls := "MailQueriesModel", name := "isDigit", desc := "(I)Z" } : Jvm.MethodName) prog_10_method_10_code (1 : Nat) (Option.some Jvm.ClassFile.FieldType.boolean)) ∈ TBL := TBL_in (List.mem_of_getElem? (i := 1283) rfl) rfl
theorem W_Mo_isDigit_st : (Jvm.Cond.static ({ cls := "MailQueriesModel", name := "isDigit", desc := "(I)Z" } : Jvm.MethodName)) ∈ TBL := TBL_in (List.mem_of_getElem? (i := 1282) (by decide +kernel)) (by decide +kernel)
def y_Mo_lay : MethodName := ⟨"MailQueriesModel", "lay", "(II)V"⟩
def rm_Mo_lay : Room := { frames := 0, cells := 0, slots := 0, locals := 0 }
theorem d_Mo_lay_0 : decode prog_10_method_3_code 0 = .ok (.iconst 0, 1) := by decide +kernel
theorem d_Mo_lay_1 : decode prog_10_method_3_code 1 = .ok (.istore_n 3, 1) := by decide +kernel
theorem d_Mo_lay_2 : decode prog_10_method_3_code 2 = .ok (.iload_n 3, 1) := by decide +kernel
theorem d_Mo_lay_3 : decode prog_10_method_3_code 3 = .ok (.iconst 4, 1) := by decide +kernel
theorem d_Mo_lay_4 : decode prog_10_method_3_code 4 = .ok (.if_icmp .ge 27, 3) := by decide +kernel
theorem d_Mo_lay_7 : decode prog_10_method_3_code 7 = .ok (.aload_n 0, 1) := by decide +kernel
theorem d_Mo_lay_8 : decode prog_10_method_3_code 8 = .ok (.getfield 7, 3) := by decide +kernel
theorem d_Mo_lay_11 : decode prog_10_method_3_code 11 = .ok (.iload_n 1, 1) := by decide +kernel
theorem d_Mo_lay_12 : decode prog_10_method_3_code 12 = .ok (.iload_n 3, 1) := by decide +kernel
theorem d_Mo_lay_13 : decode prog_10_method_3_code 13 = .ok (.iadd, 1) := by decide +kernel
theorem d_Mo_lay_14 : decode prog_10_method_3_code 14 = .ok (.iload_n 2, 1) := by decide +kernel
theorem d_Mo_lay_15 : decode prog_10_method_3_code 15 = .ok (.bipush 24, 2) := by decide +kernel
theorem d_Mo_lay_17 : decode prog_10_method_3_code 17 = .ok (.bipush 8, 2) := by decide +kernel
theorem d_Mo_lay_19 : decode prog_10_method_3_code 19 = .ok (.iload_n 3, 1) := by decide +kernel
theorem d_Mo_lay_20 : decode prog_10_method_3_code 20 = .ok (.imul, 1) := by decide +kernel
theorem d_Mo_lay_21 : decode prog_10_method_3_code 21 = .ok (.isub, 1) := by decide +kernel
theorem d_Mo_lay_22 : decode prog_10_method_3_code 22 = .ok (.ishr, 1) := by decide +kernel
theorem d_Mo_lay_23 : decode prog_10_method_3_code 23 = .ok (.i2b, 1) := by decide +kernel
theorem d_Mo_lay_24 : decode prog_10_method_3_code 24 = .ok (.bastore, 1) := by decide +kernel
theorem d_Mo_lay_25 : decode prog_10_method_3_code 25 = .ok (.iinc 3 1, 3) := by decide +kernel
theorem d_Mo_lay_28 : decode prog_10_method_3_code 28 = .ok (.goto (-26), 3) := by decide +kernel
theorem d_Mo_lay_31 : decode prog_10_method_3_code 31 = .ok (.return_, 1) := by decide +kernel
def y_Mo_feed : MethodName := ⟨"MailQueriesModel", "feed", "(IIIII)V"⟩
def rm_Mo_feed : Room := { frames := 1, cells := 0, slots := 0, locals := 23 }
theorem d_Mo_feed_0 : decode prog_10_method_4_code 0 = .ok (.aload_n 0, 1) := by decide +kernel
theorem d_Mo_feed_1 : decode prog_10_method_4_code 1 = .ok (.iconst 0, 1) := by decide +kernel
theorem d_Mo_feed_2 : decode prog_10_method_4_code 2 = .ok (.putfield 144, 3) := by decide +kernel
theorem d_Mo_feed_5 : decode prog_10_method_4_code 5 = .ok (.aload_n 0, 1) := by decide +kernel
theorem d_Mo_feed_6 : decode prog_10_method_4_code 6 = .ok (.iconst 0, 1) := by decide +kernel
theorem d_Mo_feed_7 : decode prog_10_method_4_code 7 = .ok (.iload_n 1, 1) := by decide +kernel
theorem d_Mo_feed_8 : decode prog_10_method_4_code 8 = .ok (.invokevirtual 147, 3) := by decide +kernel
theorem d_Mo_feed_11 : decode prog_10_method_4_code 11 = .ok (.aload_n 0, 1) := by decide +kernel
theorem d_Mo_feed_12 : decode prog_10_method_4_code 12 = .ok (.iconst 4, 1) := by decide +kernel
theorem d_Mo_feed_13 : decode prog_10_method_4_code 13 = .ok (.iload_n 2, 1) := by decide +kernel
theorem d_Mo_feed_14 : decode prog_10_method_4_code 14 = .ok (.invokevirtual 147, 3) := by decide +kernel
theorem d_Mo_feed_17 : decode prog_10_method_4_code 17 = .ok (.aload_n 0, 1) := by decide +kernel
theorem d_Mo_feed_18 : decode prog_10_method_4_code 18 = .ok (.bipush 8, 2) := by decide +kernel
theorem d_Mo_feed_20 : decode prog_10_method_4_code 20 = .ok (.iload_n 3, 1) := by decide +kernel
theorem d_Mo_feed_21 : decode prog_10_method_4_code 21 = .ok (.invokevirtual 147, 3) := by decide +kernel
theorem d_Mo_feed_24 : decode prog_10_method_4_code 24 = .ok (.aload_n 0, 1) := by decide +kernel
theorem d_Mo_feed_25 : decode prog_10_method_4_code 25 = .ok (.bipush 12, 2) := by decide +kernel
theorem d_Mo_feed_27 : decode prog_10_method_4_code 27 = .ok (.iload 4, 2) := by decide +kernel
theorem d_Mo_feed_29 : decode prog_10_method_4_code 29 = .ok (.invokevirtual 147, 3) := by decide +kernel
theorem d_Mo_feed_32 : decode prog_10_method_4_code 32 = .ok (.aload_n 0, 1) := by decide +kernel
theorem d_Mo_feed_33 : decode prog_10_method_4_code 33 = .ok (.bipush 16, 2) := by decide +kernel
theorem d_Mo_feed_35 : decode prog_10_method_4_code 35 = .ok (.iload 5, 2) := by decide +kernel
theorem d_Mo_feed_37 : decode prog_10_method_4_code 37 = .ok (.invokevirtual 147, 3) := by decide +kernel
theorem d_Mo_feed_40 : decode prog_10_method_4_code 40 = .ok (.return_, 1) := by decide +kernel
def y_Mo_end : MethodName := ⟨"MailQueriesModel", "end", "(I)I"⟩
def rm_Mo_end : Room := { frames := 0, cells := 0, slots := 0, locals := 0 }
theorem d_Mo_end_0 : decode prog_10_method_5_code 0 = .ok (.aload_n 0, 1) := by decide +kernel
theorem d_Mo_end_1 : decode prog_10_method_5_code 1 = .ok (.iconst 0, 1) := by decide +kernel
theorem d_Mo_end_2 : decode prog_10_method_5_code 2 = .ok (.putfield 144, 3) := by decide +kernel
theorem d_Mo_end_5 : decode prog_10_method_5_code 5 = .ok (.iload_n 1, 1) := by decide +kernel
theorem d_Mo_end_6 : decode prog_10_method_5_code 6 = .ok (.ifCond .lt 21, 3) := by decide +kernel
theorem d_Mo_end_9 : decode prog_10_method_5_code 9 = .ok (.iload_n 1, 1) := by decide +kernel
theorem d_Mo_end_10 : decode prog_10_method_5_code 10 = .ok (.bipush 20, 2) := by decide +kernel
theorem d_Mo_end_12 : decode prog_10_method_5_code 12 = .ok (.if_icmp .gt 15, 3) := by decide +kernel
theorem d_Mo_end_15 : decode prog_10_method_5_code 15 = .ok (.aload_n 0, 1) := by decide +kernel
theorem d_Mo_end_16 : decode prog_10_method_5_code 16 = .ok (.getfield 151, 3) := by decide +kernel
theorem d_Mo_end_19 : decode prog_10_method_5_code 19 = .ok (.iload_n 1, 1) := by decide +kernel
theorem d_Mo_end_20 : decode prog_10_method_5_code 20 = .ok (.iadd, 1) := by decide +kernel
theorem d_Mo_end_21 : decode prog_10_method_5_code 21 = .ok (.sipush 600, 3) := by decide +kernel
theorem d_Mo_end_24 : decode prog_10_method_5_code 24 = .ok (.if_icmp .le 5, 3) := by decide +kernel
theorem d_Mo_end_27 : decode prog_10_method_5_code 27 = .ok (.iconst (-1), 1) := by decide +kernel
theorem d_Mo_end_28 : decode prog_10_method_5_code 28 = .ok (.ireturn, 1) := by decide +kernel
theorem d_Mo_end_29 : decode prog_10_method_5_code 29 = .ok (.iconst 0, 1) := by decide +kernel
theorem d_Mo_end_30 : decode prog_10_method_5_code 30 = .ok (.istore_n 2, 1) := by decide +kernel
theorem d_Mo_end_31 : decode prog_10_method_5_code 31 = .ok (.iload_n 2, 1) := by decide +kernel
theorem d_Mo_end_32 : decode prog_10_method_5_code 32 = .ok (.iload_n 1, 1) := by decide +kernel
theorem d_Mo_end_33 : decode prog_10_method_5_code 33 = .ok (.if_icmp .ge 34, 3) := by decide +kernel
theorem d_Mo_end_36 : decode prog_10_method_5_code 36 = .ok (.aload_n 0, 1) := by decide +kernel
theorem d_Mo_end_37 : decode prog_10_method_5_code 37 = .ok (.getfield 13, 3) := by decide +kernel
theorem d_Mo_end_40 : decode prog_10_method_5_code 40 = .ok (.aload_n 0, 1) := by decide +kernel
theorem d_Mo_end_41 : decode prog_10_method_5_code 41 = .ok (.getfield 151, 3) := by decide +kernel
theorem d_Mo_end_44 : decode prog_10_method_5_code 44 = .ok (.aload_n 0, 1) := by decide +kernel
theorem d_Mo_end_45 : decode prog_10_method_5_code 45 = .ok (.getfield 7, 3) := by decide +kernel
theorem d_Mo_end_48 : decode prog_10_method_5_code 48 = .ok (.iload_n 2, 1) := by decide +kernel
theorem d_Mo_end_49 : decode prog_10_method_5_code 49 = .ok (.baload, 1) := by decide +kernel
theorem d_Mo_end_50 : decode prog_10_method_5_code 50 = .ok (.bastore, 1) := by decide +kernel
theorem d_Mo_end_51 : decode prog_10_method_5_code 51 = .ok (.aload_n 0, 1) := by decide +kernel
theorem d_Mo_end_52 : decode prog_10_method_5_code 52 = .ok (.dup, 1) := by decide +kernel
theorem d_Mo_end_53 : decode prog_10_method_5_code 53 = .ok (.getfield 151, 3) := by decide +kernel
theorem d_Mo_end_56 : decode prog_10_method_5_code 56 = .ok (.iconst 1, 1) := by decide +kernel
theorem d_Mo_end_57 : decode prog_10_method_5_code 57 = .ok (.iadd, 1) := by decide +kernel
theorem d_Mo_end_58 : decode prog_10_method_5_code 58 = .ok (.putfield 151, 3) := by decide +kernel
theorem d_Mo_end_61 : decode prog_10_method_5_code 61 = .ok (.iinc 2 1, 3) := by decide +kernel
theorem d_Mo_end_64 : decode prog_10_method_5_code 64 = .ok (.goto (-33), 3) := by decide +kernel
theorem d_Mo_end_67 : decode prog_10_method_5_code 67 = .ok (.iconst 0, 1) := by decide +kernel
theorem d_Mo_end_68 : decode prog_10_method_5_code 68 = .ok (.istore_n 2, 1) := by decide +kernel
theorem d_Mo_end_69 : decode prog_10_method_5_code 69 = .ok (.iload_n 2, 1) := by decide +kernel
theorem d_Mo_end_70 : decode prog_10_method_5_code 70 = .ok (.bipush 20, 2) := by decide +kernel
theorem d_Mo_end_72 : decode prog_10_method_5_code 72 = .ok (.if_icmp .ge 16, 3) := by decide +kernel
theorem d_Mo_end_75 : decode prog_10_method_5_code 75 = .ok (.aload_n 0, 1) := by decide +kernel
theorem d_Mo_end_76 : decode prog_10_method_5_code 76 = .ok (.getfield 7, 3) := by decide +kernel
theorem d_Mo_end_79 : decode prog_10_method_5_code 79 = .ok (.iload_n 2, 1) := by decide +kernel
theorem d_Mo_end_80 : decode prog_10_method_5_code 80 = .ok (.iconst 0, 1) := by decide +kernel
theorem d_Mo_end_81 : decode prog_10_method_5_code 81 = .ok (.bastore, 1) := by decide +kernel
theorem d_Mo_end_82 : decode prog_10_method_5_code 82 = .ok (.iinc 2 1, 3) := by decide +kernel
theorem d_Mo_end_85 : decode prog_10_method_5_code 85 = .ok (.goto (-16), 3) := by decide +kernel
theorem d_Mo_end_88 : decode prog_10_method_5_code 88 = .ok (.aload_n 0, 1) := by decide +kernel
theorem d_Mo_end_89 : decode prog_10_method_5_code 89 = .ok (.getfield 151, 3) := by decide +kernel
theorem d_Mo_end_92 : decode prog_10_method_5_code 92 = .ok (.ireturn, 1) := by decide +kernel
def y_Mo_see : MethodName := ⟨"MailQueriesModel", "see", "(I)I"⟩
def rm_Mo_see : Room := { frames := 0, cells := 0, slots := 0, locals := 0 }
theorem d_Mo_see_0 : decode prog_10_method_6_code 0 = .ok (.iload_n 1, 1) := by decide +kernel
theorem d_Mo_see_1 : decode prog_10_method_6_code 1 = .ok (.aload_n 0, 1) := by decide +kernel
theorem d_Mo_see_2 : decode prog_10_method_6_code 2 = .ok (.getfield 154, 3) := by decide +kernel
theorem d_Mo_see_5 : decode prog_10_method_6_code 5 = .ok (.if_icmp .ge 16, 3) := by decide +kernel
theorem d_Mo_see_8 : decode prog_10_method_6_code 8 = .ok (.aload_n 0, 1) := by decide +kernel
theorem d_Mo_see_9 : decode prog_10_method_6_code 9 = .ok (.getfield 16, 3) := by decide +kernel
theorem d_Mo_see_12 : decode prog_10_method_6_code 12 = .ok (.iload_n 1, 1) := by decide +kernel
theorem d_Mo_see_13 : decode prog_10_method_6_code 13 = .ok (.baload, 1) := by decide +kernel
theorem d_Mo_see_14 : decode prog_10_method_6_code 14 = .ok (.sipush 255, 3) := by decide +kernel
theorem d_Mo_see_17 : decode prog_10_method_6_code 17 = .ok (.iand, 1) := by decide +kernel
theorem d_Mo_see_18 : decode prog_10_method_6_code 18 = .ok (.goto 4, 3) := by decide +kernel
theorem d_Mo_see_21 : decode prog_10_method_6_code 21 = .ok (.iconst (-1), 1) := by decide +kernel
theorem d_Mo_see_22 : decode prog_10_method_6_code 22 = .ok (.ireturn, 1) := by decide +kernel
def y_Mo_fail : MethodName := ⟨"MailQueriesModel", "fail", "(II)V"⟩
def rm_Mo_fail : Room := { frames := 0, cells := 0, slots := 0, locals := 0 }
theorem d_Mo_fail_0 : decode prog_10_method_7_code 0 = .ok (.aload_n 0, 1) := by decide +kernel
theorem d_Mo_fail_1 : decode prog_10_method_7_code 1 = .ok (.getfield 157, 3) := by decide +kernel
theorem d_Mo_fail_4 : decode prog_10_method_7_code 4 = .ok (.ifCond .ne 13, 3) := by decide +kernel
theorem d_Mo_fail_7 : decode prog_10_method_7_code 7 = .ok (.aload_n 0, 1) := by decide +kernel
theorem d_Mo_fail_8 : decode prog_10_method_7_code 8 = .ok (.iload_n 1, 1) := by decide +kernel
theorem d_Mo_fail_9 : decode prog_10_method_7_code 9 = .ok (.putfield 157, 3) := by decide +kernel
theorem d_Mo_fail_12 : decode prog_10_method_7_code 12 = .ok (.aload_n 0, 1) := by decide +kernel
theorem d_Mo_fail_13 : decode prog_10_method_7_code 13 = .ok (.iload_n 2, 1) := by decide +kernel
theorem d_Mo_fail_14 : decode prog_10_method_7_code 14 = .ok (.putfield 22, 3) := by decide +kernel
theorem d_Mo_fail_17 : decode prog_10_method_7_code 17 = .ok (.return_, 1) := by decide +kernel
def y_Mo_isPart : MethodName := ⟨"MailQueriesModel", "isPart", "(I)Z"⟩
def rm_Mo_isPart : Room := { frames := 0, cells := 0, slots := 0, locals := 0 }
theorem d_Mo_isPart_0 : decode prog_10_method_8_code 0 = .ok (.iload_n 0, 1) := by decide +kernel
theorem d_Mo_isPart_1 : decode prog_10_method_8_code 1 = .ok (.bipush 32, 2) := by decide +kernel
theorem d_Mo_isPart_3 : decode prog_10_method_8_code 3 = .ok (.if_icmp .le 37, 3) := by decide +kernel
theorem d_Mo_isPart_6 : decode prog_10_method_8_code 6 = .ok (.iload_n 0, 1) := by decide +kernel
theorem d_Mo_isPart_7 : decode prog_10_method_8_code 7 = .ok (.bipush 127, 2) := by decide +kernel
theorem d_Mo_isPart_9 : decode prog_10_method_8_code 9 = .ok (.if_icmp .ge 31, 3) := by decide +kernel
theorem d_Mo_isPart_12 : decode prog_10_method_8_code 12 = .ok (.iload_n 0, 1) := by decide +kernel
theorem d_Mo_isPart_13 : decode prog_10_method_8_code 13 = .ok (.bipush 40, 2) := by decide +kernel
theorem d_Mo_isPart_15 : decode prog_10_method_8_code 15 = .ok (.if_icmp .eq 25, 3) := by decide +kernel
theorem d_Mo_isPart_18 : decode prog_10_method_8_code 18 = .ok (.iload_n 0, 1) := by decide +kernel
theorem d_Mo_isPart_19 : decode prog_10_method_8_code 19 = .ok (.bipush 41, 2) := by decide +kernel
theorem d_Mo_isPart_21 : decode prog_10_method_8_code 21 = .ok (.if_icmp .eq 19, 3) := by decide +kernel
theorem d_Mo_isPart_24 : decode prog_10_method_8_code 24 = .ok (.iload_n 0, 1) := by decide +kernel
theorem d_Mo_isPart_25 : decode prog_10_method_8_code 25 = .ok (.bipush 34, 2) := by decide +kernel
theorem d_Mo_isPart_27 : decode prog_10_method_8_code 27 = .ok (.if_icmp .eq 13, 3) := by decide +kernel
theorem d_Mo_isPart_30 : decode prog_10_method_8_code 30 = .ok (.iload_n 0, 1) := by decide +kernel
theorem d_Mo_isPart_31 : decode prog_10_method_8_code 31 = .ok (.bipush 58, 2) := by decide +kernel
theorem d_Mo_isPart_33 : decode prog_10_method_8_code 33 = .ok (.if_icmp .eq 7, 3) := by decide +kernel
theorem d_Mo_isPart_36 : decode prog_10_method_8_code 36 = .ok (.iconst 1, 1) := by decide +kernel
theorem d_Mo_isPart_37 : decode prog_10_method_8_code 37 = .ok (.goto 4, 3) := by decide +kernel
theorem d_Mo_isPart_40 : decode prog_10_method_8_code 40 = .ok (.iconst 0, 1) := by decide +kernel
theorem d_Mo_isPart_41 : decode prog_10_method_8_code 41 = .ok (.ireturn, 1) := by decide +kernel
def y_Mo_isSmall : MethodName := ⟨"MailQueriesModel", "isSmall", "(I)Z"⟩
def rm_Mo_isSmall : Room := { frames := 0, cells := 0, slots := 0, locals := 0 }
theorem d_Mo_isSmall_0 : decode prog_10_method_9_code 0 = .ok (.iload_n 0, 1) := by decide +kernel
theorem d_Mo_isSmall_1 : decode prog_10_method_9_code 1 = .ok (.bipush 97, 2) := by decide +kernel
theorem d_Mo_isSmall_3 : decode prog_10_method_9_code 3 = .ok (.if_icmp .lt 13, 3) := by decide +kernel
theorem d_Mo_isSmall_6 : decode prog_10_method_9_code 6 = .ok (.iload_n 0, 1) := by decide +kernel
theorem d_Mo_isSmall_7 : decode prog_10_method_9_code 7 = .ok (.bipush 122, 2) := by decide +kernel
theorem d_Mo_isSmall_9 : decode prog_10_method_9_code 9 = .ok (.if_icmp .gt 7, 3) := by decide +kernel
theorem d_Mo_isSmall_12 : decode prog_10_method_9_code 12 = .ok (.iconst 1, 1) := by decide +kernel
theorem d_Mo_isSmall_13 : decode prog_10_method_9_code 13 = .ok (.goto 4, 3) := by decide +kernel
theorem d_Mo_isSmall_16 : decode prog_10_method_9_code 16 = .ok (.iconst 0, 1) := by decide +kernel
theorem d_Mo_isSmall_17 : decode prog_10_method_9_code 17 = .ok (.ireturn, 1) := by decide +kernel
def y_Mo_isDigit : MethodName := ⟨"MailQueriesModel", "isDigit", "(I)Z"⟩
def rm_Mo_isDigit : Room := { frames := 0, cells := 0, slots := 0, locals := 0 }
theorem d_Mo_isDigit_0 : decode prog_10_method_10_code 0 = .ok (.iload_n 0, 1) := by decide +kernel
theorem d_Mo_isDigit_1 : decode prog_10_method_10_code 1 = .ok (.bipush 48, 2) := by decide +kernel
theorem d_Mo_isDigit_3 : decode prog_10_method_10_code 3 = .ok (.if_icmp .lt 13, 3) := by decide +kernel
theorem d_Mo_isDigit_6 : decode prog_10_method_10_code 6 = .ok (.iload_n 0, 1) := by decide +kernel
theorem d_Mo_isDigit_7 : decode prog_10_method_10_code 7 = .ok (.bipush 57, 2) := by decide +kernel
theorem d_Mo_isDigit_9 : decode prog_10_method_10_code 9 = .ok (.if_icmp .gt 7, 3) := by decide +kernel
theorem d_Mo_isDigit_12 : decode prog_10_method_10_code 12 = .ok (.iconst 1, 1) := by decide +kernel
theorem d_Mo_isDigit_13 : decode prog_10_method_10_code 13 = .ok (.goto 4, 3) := by decide +kernel
theorem d_Mo_isDigit_16 : decode prog_10_method_10_code 16 = .ok (.iconst 0, 1) := by decide +kernel
theorem d_Mo_isDigit_17 : decode prog_10_method_10_code 17 = .ok (.ireturn, 1) := by decide +kernel
theorem mb_Mo_lay : Mb y_Mo_lay prog_10_method_3_code 4 none 2 := ⟨W_Mo_lay_code, W_Mo_lay_in, sel_48, I_Mo, by decide +kernel, by decide +kernel, by decide +kernel⟩
theorem mb_Mo_feed : Mb y_Mo_feed prog_10_method_4_code 6 none 5 := ⟨W_Mo_feed_code, W_Mo_feed_in, W_Mo_feed_se, I_Mo, by decide +kernel, by decide +kernel, by decide +kernel⟩
theorem mb_Mo_end : Mb y_Mo_end prog_10_method_5_code 3 (some .int) 1 := ⟨W_Mo_end_code, W_Mo_end_in, W_Mo_end_se, I_Mo, by decide +kernel, by decide +kernel, by decide +kernel⟩
theorem mb_Mo_see : Mb y_Mo_see prog_10_method_6_code 2 (some .int) 1 := ⟨W_Mo_see_code, W_Mo_see_in, sel_52, I_Mo, by decide +kernel, by decide +kernel, by decide +kernel⟩
theorem mb_Mo_fail : Mb y_Mo_fail prog_10_method_7_code 3 none 2 := ⟨W_Mo_fail_code, W_Mo_fail_in, sel_54, I_Mo, by decide +kernel, by decide +kernel, by decide +kernel⟩
theorem mb_Mo_isPart : MbS y_Mo_isPart prog_10_method_8_code 1 (some .boolean) 1 := ⟨W_Mo_isPart_code, W_Mo_isPart_st, I_Mo, by decide +kernel, by decide +kernel, by decide +kernel⟩
theorem mb_Mo_isSmall : MbS y_Mo_isSmall prog_10_method_9_code 1 (some .boolean) 1 := ⟨W_Mo_isSmall_code, W_Mo_isSmall_st, I_Mo, by decide +kernel, by decide +kernel, by decide +kernel⟩
theorem mb_Mo_isDigit : MbS y_Mo_isDigit prog_10_method_10_code 1 (some .boolean) 1 := ⟨W_Mo_isDigit_code, W_Mo_isDigit_st, I_Mo, by decide +kernel, by decide +kernel, by decide +kernel⟩
def Mo_lay_2 (F : Nat) : Nat → StI → StL → Int32 → Int32 → Int32 → Option (StI × StL)
  | 0, _, _, _, _, _ => none
  | n + 1, t, tL, x1, x2, x3 => if (4 : Int32) ≤ x3 then some (t, tL) else if (x1 + x3) < 0 ∨ 20 ≤ (x1 + x3).toNatClampNeg then none else letS (va_up t 1 (upd (t 1) (x1 + x3).toNatClampNeg (vp_nar .byte ((x2 >>> (((24 : Int32) - ((8 : Int32) * x3)) &&& 31)).toInt8.toInt32)))) fun t_5 => Mo_lay_2 F n t_5 tL x1 x2 (x3 + (1 : Int32))
def Mo_lay (F : Nat) (t : StI) (tL : StL) (x1 : Int32) (x2 : Int32) : Option (StI × StL) := Mo_lay_2 F F t tL x1 x2 (0 : Int32)
set_option maxHeartbeats 4000000 in
set_option maxRecDepth 100000 in
theorem k_Mo_lay_2 {p : Program} {l : Launch} {e : Env} {s : State} {m : MethodId} {args : Array Value} {below : List Frame} {meth : Method} {c : Code} {g : Gz} {A : Nat → Prop} {F : Nat} {a_t : Nat → Nat} (hC : Cx prog_10_method_3_code 4 none R_Mo p s m args meth c g A A) : ∀ (n : Nat) (t : StI) (tL : StL) (x1 : Int32) (x2 : Int32) (x3 : Int32) (res : StI × StL), Mo_lay_2 F n t tL x1 x2 x3 = some res → Go p l e rm_Mo_lay s m args below meth c g A A 4 (MQ below (EV g ((pic_Mo g a_t res.1 res.2)) A) args s 0 0 A) ((pic_Mo g a_t t tL)) [(0, .ref (a_t 0)), (1, .int x1), (2, .int x2), (3, .int x3)] 2 [] := by
  obtain ⟨hx, hb, hr, hml, hown, htb, hlocks, hA, hAA, hG⟩ := id hC
  have hK := hG.1
  intro n
  induction n with
  | zero => intro t tL x1 x2 x3 res h; rw [Mo_lay_2] at h; cases h
  | succ n ih =>
    intro t tL x1 x2 x3 res h H locs ls hP hD hS hl
    rw [Mo_lay_2] at h
    refine lv_iload_n hx hb d_Mo_lay_2 rfl (lv_at hl 3 rfl) ?_
    refine lv_iconst (v := 4) hx hb d_Mo_lay_3 (by decide) ?_
    refine lv_icmp_ge (tgt := 31) hx hb d_Mo_lay_4 (by decide) (fun c4 => ?_) (fun c4 => ?_)
    · replace h := (if_pos c4).symm.trans h
      cases h
      exact W.vret hx hb hr (fun t ht hW => ⟨⟨(), rfl, trivial, by rw [ht]; exact hP, hD⟩, hS.F ht⟩) hS.2.2 d_Mo_lay_31
    · replace h := (if_neg c4).symm.trans h
      refine lv_aload_n hx hb d_Mo_lay_7 rfl (lv_at hl 0 rfl) ?_
      refine va_get (D := gD g) (ci := 8) (v := .ref (a_t 2)) (C := R_Mo) (T := T_Mo) (N := 64) hx hb htb in_Mo hown hK hP 0 rfl rfl 1 (by decide) (htb _ L_Mo_7) (fun _ h9 => h9) rfl d_Mo_lay_8 ?_
      refine lv_iload_n hx hb d_Mo_lay_11 rfl (lv_at hl 1 rfl) ?_
      refine lv_iload_n hx hb d_Mo_lay_12 rfl (lv_at hl 3 rfl) ?_
      refine lv_iadd hx hb d_Mo_lay_13 ?_
      refine lv_iload_n hx hb d_Mo_lay_14 rfl (lv_at hl 2 rfl) ?_
      refine lv_bipush (v := 24) hx hb d_Mo_lay_15 (by decide) ?_
      refine lv_bipush (v := 8) hx hb d_Mo_lay_17 (by decide) ?_
      refine lv_iload_n hx hb d_Mo_lay_19 rfl (lv_at hl 3 rfl) ?_
      refine lv_imul hx hb d_Mo_lay_20 ?_
      refine lv_isub hx hb d_Mo_lay_21 ?_
      refine lv_ishr hx hb d_Mo_lay_22 ?_
      refine lv_i2b hx hb d_Mo_lay_23 rfl ?_
      by_cases c6 : ((x1 + x3) < 0 ∨ 20 ≤ (x1 + x3).toNatClampNeg)
      · replace h := (if_pos c6).symm.trans h
        cases h
      replace h := (if_neg c6).symm.trans h
      refine va_bast hx hb hK hP hD hS 1 4 rfl rfl c6 d_Mo_lay_24 (fun H locs hP hD hS => ?_)
      obtain ⟨t_5, et_5, h⟩ := letS_el h
      have hP : va_P (gD g) vwCl ((pic_Mo g a_t t_5 tL)) H := by rw [et_5]; exact hP
      have hD : va_D A ((pic_Mo g a_t t_5 tL)) := by rw [et_5]; exact hD
      refine lv_iinc (v := (x3 + (1 : Int32))) (lv' := [(3, .int (x3 + (1 : Int32))), (0, .ref (a_t 0)), (1, .int x1), (2, .int x2)]) hx hb d_Mo_lay_25 hl (k := 3) rfl rfl (by decide) rfl (fun ls hl => ?_)
      refine lv_goto (tgt := 2) hx hb d_Mo_lay_28 (by decide) ?_
      exact ih _ _ _ _ _ _ h _ _ _ hP hD hS (lv_sub hl [1, 2, 3, 0] rfl)
set_option maxHeartbeats 4000000 in
set_option maxRecDepth 100000 in
theorem k_Mo_lay {p : Program} {l : Launch} {e : Env} {s : State} {m : MethodId} {args : Array Value} {below : List Frame} {meth : Method} {c : Code} {g : Gz} {A : Nat → Prop} {F : Nat} {a_t : Nat → Nat} (hC : Cx prog_10_method_3_code 4 none R_Mo p s m args meth c g A A) : ∀ (t : StI) (tL : StL) (x1 : Int32) (x2 : Int32) (res : StI × StL), Mo_lay F t tL x1 x2 = some res → Go p l e rm_Mo_lay s m args below meth c g A A 4 (MQ below (EV g ((pic_Mo g a_t res.1 res.2)) A) args s 0 0 A) ((pic_Mo g a_t t tL)) [(0, .ref (a_t 0)), (1, .int x1), (2, .int x2)] 0 [] := by
  obtain ⟨hx, hb, hr, hml, hown, htb, hlocks, hA, hAA, hG⟩ := id hC
  have hK := hG.1
  intro t tL x1 x2 res h H locs ls hP hD hS hl
  rw [Mo_lay] at h
  refine lv_iconst (v := 0) hx hb d_Mo_lay_0 (by decide) ?_
  refine lv_istore_n (lv' := [(3, .int (0 : Int32)), (0, .ref (a_t 0)), (1, .int x1), (2, .int x2)]) hx hb d_Mo_lay_1 rfl hl (by decide) rfl (fun ls hl => ?_)
  exact k_Mo_lay_2 hC F _ _ _ _ _ _ h _ _ _ hP hD hS (lv_sub hl [1, 2, 3, 0] rfl)
theorem c_Mo_lay (l : Launch) (g : Gz) (F : Nat) (a_t : Nat → Nat) (t : StI) (tL : StL) (x1 : Int32) (x2 : Int32) (res : StI × StL) (h : Mo_lay F t tL x1 x2 = some res) : ∀ sz : Nat, Met l y_Mo_lay (.code y_Mo_lay prog_10_method_3_code 4 none :: TBL) rm_Mo_lay (va_Pc [.ref (a_t 0), .int x1, .int x2] (Pre0 g ((pic_Mo g a_t t tL)) sz)) (EV g ((pic_Mo g a_t res.1 res.2)) (va_A ((pic_Mo g a_t t tL)) sz)) 0 0 (va_A ((pic_Mo g a_t t tL)) sz) :=
  ct_w (Qc := fun A => EV g ((pic_Mo g a_t res.1 res.2)) A) (by decide) (Nat.le_of_ble_eq_true rfl) (fun p e s m args below meth c A hC => k_Mo_lay hC t tL x1 x2 res h)
def Mo_feed (F : Nat) (t : StI) (tL : StL) (x1 : Int32) (x2 : Int32) (x3 : Int32) (x4 : Int32) (x5 : Int32) : Option (StI × StL) := letS (va_up t 0 (fun _ => (0 : Int32))) fun t_7 => (Mo_lay F t_7 tL (0 : Int32) x1).bind fun r8 => (Mo_lay F r8.1 r8.2 (4 : Int32) x2).bind fun r9 => (Mo_lay F r9.1 r9.2 (8 : Int32) x3).bind fun r10 => (Mo_lay F r10.1 r10.2 (12 : Int32) x4).bind fun r11 => (Mo_lay F r11.1 r11.2 (16 : Int32) x5).bind fun r12 => some (r12.1, r12.2)
set_option maxHeartbeats 4000000 in
set_option maxRecDepth 100000 in
theorem k_Mo_feed {p : Program} {l : Launch} {e : Env} {s : State} {m : MethodId} {args : Array Value} {below : List Frame} {meth : Method} {c : Code} {g : Gz} {A : Nat → Prop} {F : Nat} {a_t : Nat → Nat} (hC : Cx prog_10_method_4_code 6 none R_Mo p s m args meth c g A A) : ∀ (t : StI) (tL : StL) (x1 : Int32) (x2 : Int32) (x3 : Int32) (x4 : Int32) (x5 : Int32) (res : StI × StL), Mo_feed F t tL x1 x2 x3 x4 x5 = some res → Go p l e rm_Mo_feed s m args below meth c g A A 6 (MQ below (EV g ((pic_Mo g a_t res.1 res.2)) A) args s 0 0 A) ((pic_Mo g a_t t tL)) [(0, .ref (a_t 0)), (1, .int x1), (2, .int x2), (3, .int x3), (4, .int x4), (5, .int x5)] 0 [] := by
  obtain ⟨hx, hb, hr, hml, hown, htb, hlocks, hA, hAA, hG⟩ := id hC
  have hK := hG.1
  intro t tL x1 x2 x3 x4 x5 res h H locs ls hP hD hS hl
  rw [Mo_feed] at h
  refine lv_aload_n hx hb d_Mo_feed_0 rfl (lv_at hl 0 rfl) ?_
  refine lv_iconst (v := 0) hx hb d_Mo_feed_1 (by decide) ?_
  refine va_put (D := gD g) (ci := 8) (v := .int (0 : Int32)) (ty := .int) (C := R_Mo) (T := T_Mo) (N := 64) hx hb htb in_Mo ty_Mo ty_Mo_ok nm_Mo hown hK hP hD hS 0 rfl rfl 0 (by decide) (htb _ L_Mo_144) (fun _ h9 => h9) rfl (by decide +kernel) rfl rfl (Nat.le_of_ble_eq_true rfl) d_Mo_feed_2 (fun H locs hP hD hS => ?_)
  obtain ⟨t_7, et_7, h⟩ := letS_el h
  have hP : va_P (gD g) vwCl ((pic_Mo g a_t t_7 tL)) H := by rw [et_7]; exact hP
  have hD : va_D A ((pic_Mo g a_t t_7 tL)) := by rw [et_7]; exact hD
  refine lv_aload_n hx hb d_Mo_feed_5 rfl (lv_at hl 0 rfl) ?_
  refine lv_iconst (v := 0) hx hb d_Mo_feed_6 (by decide) ?_
  refine lv_iload_n hx hb d_Mo_feed_7 rfl (lv_at hl 1 rfl) ?_
  obtain ⟨r8, hr8, h⟩ := Option.bind_eq_some_iff.mp h
  refine cl_V (wr := []) [0, 1, 2, 3, 4, 5, 6, 7, 8, 9, 10, 11, 12, 13, 14, 15, 16, 17, 18, 19, 20, 21, 22, 23, 24, 25, 26, 27, 28, 29, 30, 31, 32] [] rfl rfl rfl (by decide) hP hD hS hA (va_runV (As := [.int (0 : Int32), .int x1]) (rest := []) ⟨hx, hb, hml, hown, htb⟩ (c_Mo_lay l g F a_t t_7 tL (0 : Int32) x1 _ hr8 H.size) (cw_V htb mb_Mo_lay (htb _ L_Mo_147) rfl rfl ⟨Nat.le_of_ble_eq_true rfl, Nat.le_of_ble_eq_true rfl⟩) (pre_V (va_recv hK hP (ci := 8) (q0 := 0) rfl rfl) (pre_S [0, 1, 2, 3, 4, 5, 6, 7, 8, 9, 10, 11, 12, 13, 14, 15, 16, 17, 18, 19, 20, 21, 22, 23, 24, 25, 26, 27, 28, 29, 30, 31, 32] rfl rfl hP hD hS hA hAA hG)) rfl rfl hl.1 rfl (lv_room (Nat.le_of_ble_eq_true rfl)) d_Mo_feed_8 ⟨Nat.zero_le _, Nat.zero_le _⟩) (fun H locs hP hD hS => ?_)
  have hP : va_P (gD g) vwCl ((pic_Mo g a_t r8.1 r8.2)) H := hP.sub [0, 1, 2, 3, 4, 5, 6, 7, 8, 9, 10, 11, 12, 13, 14, 15, 16, 17, 18, 19, 20, 21, 22, 23, 24, 25, 26, 27, 28, 29, 30, 31, 32] rfl
  have hD : va_D A ((pic_Mo g a_t r8.1 r8.2)) := hD.sub [0, 1, 2, 3, 4, 5, 6, 7, 8, 9, 10, 11, 12, 13, 14, 15, 16, 17, 18, 19, 20, 21, 22, 23, 24, 25, 26, 27, 28, 29, 30, 31, 32] rfl rfl
  refine lv_aload_n hx hb d_Mo_feed_11 rfl (lv_at hl 0 rfl) ?_
  refine lv_iconst (v := 4) hx hb d_Mo_feed_12 (by decide) ?_
  refine lv_iload_n hx hb d_Mo_feed_13 rfl (lv_at hl 2 rfl) ?_
  obtain ⟨r9, hr9, h⟩ := Option.bind_eq_some_iff.mp h
  refine cl_V (wr := []) [0, 1, 2, 3, 4, 5, 6, 7, 8, 9, 10, 11, 12, 13, 14, 15, 16, 17, 18, 19, 20, 21, 22, 23, 24, 25, 26, 27, 28, 29, 30, 31, 32] [] rfl rfl rfl (by decide) hP hD hS hA (va_runV (As := [.int (4 : Int32), .int x2]) (rest := []) ⟨hx, hb, hml, hown, htb⟩ (c_Mo_lay l g F a_t r8.1 r8.2 (4 : Int32) x2 _ hr9 H.size) (cw_V htb mb_Mo_lay (htb _ L_Mo_147) rfl rfl ⟨Nat.le_of_ble_eq_true rfl, Nat.le_of_ble_eq_true rfl⟩) (pre_V (va_recv hK hP (ci := 8) (q0 := 0) rfl rfl) (pre_S [0, 1, 2, 3, 4, 5, 6, 7, 8, 9, 10, 11, 12, 13, 14, 15, 16, 17, 18, 19, 20, 21, 22, 23, 24, 25, 26, 27, 28, 29, 30, 31, 32] rfl rfl hP hD hS hA hAA hG)) rfl rfl hl.1 rfl (lv_room (Nat.le_of_ble_eq_true rfl)) d_Mo_feed_14 ⟨Nat.zero_le _, Nat.zero_le _⟩) (fun H locs hP hD hS => ?_)
  have hP : va_P (gD g) vwCl ((pic_Mo g a_t r9.1 r9.2)) H := hP.sub [0, 1, 2, 3, 4, 5, 6, 7, 8, 9, 10, 11, 12, 13, 14, 15, 16, 17, 18, 19, 20, 21, 22, 23, 24, 25, 26, 27, 28, 29, 30, 31, 32] rfl
  have hD : va_D A ((pic_Mo g a_t r9.1 r9.2)) := hD.sub [0, 1, 2, 3, 4, 5, 6, 7, 8, 9, 10, 11, 12, 13, 14, 15, 16, 17, 18, 19, 20, 21, 22, 23, 24, 25, 26, 27, 28, 29, 30, 31, 32] rfl rfl
  refine lv_aload_n hx hb d_Mo_feed_17 rfl (lv_at hl 0 rfl) ?_
  refine lv_bipush (v := 8) hx hb d_Mo_feed_18 (by decide) ?_
  refine lv_iload_n hx hb d_Mo_feed_20 rfl (lv_at hl 3 rfl) ?_
  obtain ⟨r10, hr10, h⟩ := Option.bind_eq_some_iff.mp h
  refine cl_V (wr := []) [0, 1, 2, 3, 4, 5, 6, 7, 8, 9, 10, 11, 12, 13, 14, 15, 16, 17, 18, 19, 20, 21, 22, 23, 24, 25, 26, 27, 28, 29, 30, 31, 32] [] rfl rfl rfl (by decide) hP hD hS hA (va_runV (As := [.int (8 : Int32), .int x3]) (rest := []) ⟨hx, hb, hml, hown, htb⟩ (c_Mo_lay l g F a_t r9.1 r9.2 (8 : Int32) x3 _ hr10 H.size) (cw_V htb mb_Mo_lay (htb _ L_Mo_147) rfl rfl ⟨Nat.le_of_ble_eq_true rfl, Nat.le_of_ble_eq_true rfl⟩) (pre_V (va_recv hK hP (ci := 8) (q0 := 0) rfl rfl) (pre_S [0, 1, 2, 3, 4, 5, 6, 7, 8, 9, 10, 11, 12, 13, 14, 15, 16, 17, 18, 19, 20, 21, 22, 23, 24, 25, 26, 27, 28, 29, 30, 31, 32] rfl rfl hP hD hS hA hAA hG)) rfl rfl hl.1 rfl (lv_room (Nat.le_of_ble_eq_true rfl)) d_Mo_feed_21 ⟨Nat.zero_le _, Nat.zero_le _⟩) (fun H locs hP hD hS => ?_)
  have hP : va_P (gD g) vwCl ((pic_Mo g a_t r10.1 r10.2)) H := hP.sub [0, 1, 2, 3, 4, 5, 6, 7, 8, 9, 10, 11, 12, 13, 14, 15, 16, 17, 18, 19, 20, 21, 22, 23, 24, 25, 26, 27, 28, 29, 30, 31, 32] rfl
  have hD : va_D A ((pic_Mo g a_t r10.1 r10.2)) := hD.sub [0, 1, 2, 3, 4, 5, 6, 7, 8, 9, 10, 11, 12, 13, 14, 15, 16, 17, 18, 19, 20, 21, 22, 23, 24, 25, 26, 27, 28, 29, 30, 31, 32] rfl rfl
  refine lv_aload_n hx hb d_Mo_feed_24 rfl (lv_at hl 0 rfl) ?_
  refine lv_bipush (v := 12) hx hb d_Mo_feed_25 (by decide) ?_
  refine lv_iload hx hb d_Mo_feed_27 (lv_at hl 4 rfl) ?_
  obtain ⟨r11, hr11, h⟩ := Option.bind_eq_some_iff.mp h
  refine cl_V (wr := []) [0, 1, 2, 3, 4, 5, 6, 7, 8, 9, 10, 11, 12, 13, 14, 15, 16, 17, 18, 19, 20, 21, 22, 23, 24, 25, 26, 27, 28, 29, 30, 31, 32] [] rfl rfl rfl (by decide) hP hD hS hA (va_runV (As := [.int (12 : Int32), .int x4]) (rest := []) ⟨hx, hb, hml, hown, htb⟩ (c_Mo_lay l g F a_t r10.1 r10.2 (12 : Int32) x4 _ hr11 H.size) (cw_V htb mb_Mo_lay (htb _ L_Mo_147) rfl rfl ⟨Nat.le_of_ble_eq_true rfl, Nat.le_of_ble_eq_true rfl⟩) (pre_V (va_recv hK hP (ci := 8) (q0 := 0) rfl rfl) (pre_S [0, 1, 2, 3, 4, 5, 6, 7, 8, 9, 10, 11, 12, 13, 14, 15, 16, 17, 18, 19, 20, 21, 22, 23, 24, 25, 26, 27, 28, 29, 30, 31, 32] rfl rfl hP hD hS hA hAA hG)) rfl rfl hl.1 rfl (lv_room (Nat.le_of_ble_eq_true rfl)) d_Mo_feed_29 ⟨Nat.zero_le _, Nat.zero_le _⟩) (fun H locs hP hD hS => ?_)
  have hP : va_P (gD g) vwCl ((pic_Mo g a_t r11.1 r11.2)) H := hP.sub [0, 1, 2, 3, 4, 5, 6, 7, 8, 9, 10, 11, 12, 13, 14, 15, 16, 17, 18, 19, 20, 21, 22, 23, 24, 25, 26, 27, 28, 29, 30, 31, 32] rfl
  have hD : va_D A ((pic_Mo g a_t r11.1 r11.2)) := hD.sub [0, 1, 2, 3, 4, 5, 6, 7, 8, 9, 10, 11, 12, 13, 14, 15, 16, 17, 18, 19, 20, 21, 22, 23, 24, 25, 26, 27, 28, 29, 30, 31, 32] rfl rfl
  refine lv_aload_n hx hb d_Mo_feed_32 rfl (lv_at hl 0 rfl) ?_
  refine lv_bipush (v := 16) hx hb d_Mo_feed_33 (by decide) ?_
  refine lv_iload hx hb d_Mo_feed_35 (lv_at hl 5 rfl) ?_
  obtain ⟨r12, hr12, h⟩ := Option.bind_eq_some_iff.mp h
  refine cl_V (wr := []) [0, 1, 2, 3, 4, 5, 6, 7, 8, 9, 10, 11, 12, 13, 14, 15, 16, 17, 18, 19, 20, 21, 22, 23, 24, 25, 26, 27, 28, 29, 30, 31, 32] [] rfl rfl rfl (by decide) hP hD hS hA (va_runV (As := [.int (16 : Int32), .int x5]) (rest := []) ⟨hx, hb, hml, hown, htb⟩ (c_Mo_lay l g F a_t r11.1 r11.2 (16 : Int32) x5 _ hr12 H.size) (cw_V htb mb_Mo_lay (htb _ L_Mo_147) rfl rfl ⟨Nat.le_of_ble_eq_true rfl, Nat.le_of_ble_eq_true rfl⟩) (pre_V (va_recv hK hP (ci := 8) (q0 := 0) rfl rfl) (pre_S [0, 1, 2, 3, 4, 5, 6, 7, 8, 9, 10, 11, 12, 13, 14, 15, 16, 17, 18, 19, 20, 21, 22, 23, 24, 25, 26, 27, 28, 29, 30, 31, 32] rfl rfl hP hD hS hA hAA hG)) rfl rfl hl.1 rfl (lv_room (Nat.le_of_ble_eq_true rfl)) d_Mo_feed_37 ⟨Nat.zero_le _, Nat.zero_le _⟩) (fun H locs hP hD hS => ?_)
  have hP : va_P (gD g) vwCl ((pic_Mo g a_t r12.1 r12.2)) H := hP.sub [0, 1, 2, 3, 4, 5, 6, 7, 8, 9, 10, 11, 12, 13, 14, 15, 16, 17, 18, 19, 20, 21, 22, 23, 24, 25, 26, 27, 28, 29, 30, 31, 32] rfl
  have hD : va_D A ((pic_Mo g a_t r12.1 r12.2)) := hD.sub [0, 1, 2, 3, 4, 5, 6, 7, 8, 9, 10, 11, 12, 13, 14, 15, 16, 17, 18, 19, 20, 21, 22, 23, 24, 25, 26, 27, 28, 29, 30, 31, 32] rfl rfl
  cases h
  exact W.vret hx hb hr (fun t ht hW => ⟨⟨(), rfl, trivial, by rw [ht]; exact hP, hD⟩, hS.F ht⟩) hS.2.2 d_Mo_feed_40
theorem c_Mo_feed (l : Launch) (g : Gz) (F : Nat) (a_t : Nat → Nat) (t : StI) (tL : StL) (x1 : Int32) (x2 : Int32) (x3 : Int32) (x4 : Int32) (x5 : Int32) (res : StI × StL) (h : Mo_feed F t tL x1 x2 x3 x4 x5 = some res) : ∀ sz : Nat, Met l y_Mo_feed (.code y_Mo_feed prog_10_method_4_code 6 none :: TBL) rm_Mo_feed (va_Pc [.ref (a_t 0), .int x1, .int x2, .int x3, .int x4, .int x5] (Pre0 g ((pic_Mo g a_t t tL)) sz)) (EV g ((pic_Mo g a_t res.1 res.2)) (va_A ((pic_Mo g a_t t tL)) sz)) 0 0 (va_A ((pic_Mo g a_t t tL)) sz) :=
  ct_w (Qc := fun A => EV g ((pic_Mo g a_t res.1 res.2)) A) (by decide) (Nat.le_of_ble_eq_true rfl) (fun p e s m args below meth c A hC => k_Mo_feed hC t tL x1 x2 x3 x4 x5 res h)
def Mo_end_69 (F : Nat) : Nat → StI → StL → Int32 → Option (Int32 × StI × StL)
  | 0, _, _, _ => none
  | n + 1, t, tL, x2 => if (20 : Int32) ≤ x2 then some ((t 3 0), t, tL) else if x2 < 0 ∨ 20 ≤ x2.toNatClampNeg then none else letS (va_up t 1 (upd (t 1) x2.toNatClampNeg (vp_nar .byte (0 : Int32)))) fun t_14 => Mo_end_69 F n t_14 tL (x2 + (1 : Int32))
def Mo_end_31 (F : Nat) : Nat → StI → StL → Int32 → Int32 → Option (Int32 × StI × StL)
  | 0, _, _, _, _ => none
  | n + 1, t, tL, x1, x2 => if x1 ≤ x2 then Mo_end_69 F F t tL (0 : Int32) else if x2 < 0 ∨ 20 ≤ x2.toNatClampNeg then none else if (t 3 0) < 0 ∨ 600 ≤ (t 3 0).toNatClampNeg then none else letS (va_up t 2 (upd (t 2) (t 3 0).toNatClampNeg (vp_nar .byte ((t 1) x2.toNatClampNeg)))) fun t_18 => letS (va_up t_18 3 (fun _ => ((t_18 3 0) + (1 : Int32)))) fun t_20 => Mo_end_31 F n t_20 tL x1 (x2 + (1 : Int32))
def Mo_end (F : Nat) (t : StI) (tL : StL) (x1 : Int32) : Option (Int32 × StI × StL) := letS (va_up t 0 (fun _ => (0 : Int32))) fun t_21 => if x1 < 0 then some ((-1 : Int32), t_21, tL) else if (20 : Int32) < x1 then some ((-1 : Int32), t_21, tL) else if ((t_21 3 0) + x1) ≤ (600 : Int32) then Mo_end_31 F F t_21 tL x1 (0 : Int32) else some ((-1 : Int32), t_21, tL)
set_option maxHeartbeats 4000000 in
set_option maxRecDepth 100000 in
theorem k_Mo_end_69 {p : Program} {l : Launch} {e : Env} {s : State} {m : MethodId} {args : Array Value} {below : List Frame} {meth : Method} {c : Code} {g : Gz} {A : Nat → Prop} {F : Nat} {a_t : Nat → Nat} (hC : Cx prog_10_method_5_code 3 (some .int) R_Mo p s m args meth c g A A) : ∀ (n : Nat) (t : StI) (tL : StL) (x2 : Int32) (res : Int32 × StI × StL), Mo_end_69 F n t tL x2 = some res → Go p l e rm_Mo_end s m args below meth c g A A 3 (MQ below (EI g ((pic_Mo g a_t res.2.1 res.2.2)) res.1 A) args s 0 0 A) ((pic_Mo g a_t t tL)) [(0, .ref (a_t 0)), (2, .int x2)] 69 [] := by
  obtain ⟨hx, hb, hr, hml, hown, htb, hlocks, hA, hAA, hG⟩ := id hC
  have hK := hG.1
  intro n
  induction n with
  | zero => intro t tL x2 res h; rw [Mo_end_69] at h; cases h
  | succ n ih =>
    intro t tL x2 res h H locs ls hP hD hS hl
    rw [Mo_end_69] at h
    refine lv_iload_n hx hb d_Mo_end_69 rfl (lv_at hl 1 rfl) ?_
    refine lv_bipush (v := 20) hx hb d_Mo_end_70 (by decide) ?_
    refine lv_icmp_ge (tgt := 88) hx hb d_Mo_end_72 (by decide) (fun c13 => ?_) (fun c13 => ?_)
    · replace h := (if_pos c13).symm.trans h
      refine lv_aload_n hx hb d_Mo_end_88 rfl (lv_at hl 0 rfl) ?_
      refine va_get (D := gD g) (ci := 8) (v := .int (t 3 0)) (C := R_Mo) (T := T_Mo) (N := 64) hx hb htb in_Mo hown hK hP 0 rfl rfl 3 (by decide) (htb _ L_Mo_151) (fun _ h9 => h9) rfl d_Mo_end_89 ?_
      cases h
      exact W.iret hx hb hr (fun t ht hW => ⟨⟨_, (), rfl, rfl, by rw [ht]; exact hP, hD⟩, hS.F ht⟩) hS.2.2 d_Mo_end_92
    · replace h := (if_neg c13).symm.trans h
      refine lv_aload_n hx hb d_Mo_end_75 rfl (lv_at hl 0 rfl) ?_
      refine va_get (D := gD g) (ci := 8) (v := .ref (a_t 2)) (C := R_Mo) (T := T_Mo) (N := 64) hx hb htb in_Mo hown hK hP 0 rfl rfl 1 (by decide) (htb _ L_Mo_7) (fun _ h9 => h9) rfl d_Mo_end_76 ?_
      refine lv_iload_n hx hb d_Mo_end_79 rfl (lv_at hl 1 rfl) ?_
      refine lv_iconst (v := 0) hx hb d_Mo_end_80 (by decide) ?_
      by_cases c15 : (x2 < 0 ∨ 20 ≤ x2.toNatClampNeg)
      · replace h := (if_pos c15).symm.trans h
        cases h
      replace h := (if_neg c15).symm.trans h
      refine va_bast hx hb hK hP hD hS 1 4 rfl rfl c15 d_Mo_end_81 (fun H locs hP hD hS => ?_)
      obtain ⟨t_14, et_14, h⟩ := letS_el h
      have hP : va_P (gD g) vwCl ((pic_Mo g a_t t_14 tL)) H := by rw [et_14]; exact hP
      have hD : va_D A ((pic_Mo g a_t t_14 tL)) := by rw [et_14]; exact hD
      refine lv_iinc (v := (x2 + (1 : Int32))) (lv' := [(2, .int (x2 + (1 : Int32))), (0, .ref (a_t 0))]) hx hb d_Mo_end_82 hl (k := 1) rfl rfl (by decide) rfl (fun ls hl => ?_)
      refine lv_goto (tgt := 69) hx hb d_Mo_end_85 (by decide) ?_
      exact ih _ _ _ _ h _ _ _ hP hD hS (lv_sub hl [1, 0] rfl)
set_option maxHeartbeats 4000000 in
set_option maxRecDepth 100000 in
theorem k_Mo_end_31 {p : Program} {l : Launch} {e : Env} {s : State} {m : MethodId} {args : Array Value} {below : List Frame} {meth : Method} {c : Code} {g : Gz} {A : Nat → Prop} {F : Nat} {a_t : Nat → Nat} (hC : Cx prog_10_method_5_code 3 (some .int) R_Mo p s m args meth c g A A) : ∀ (n : Nat) (t : StI) (tL : StL) (x1 : Int32) (x2 : Int32) (res : Int32 × StI × StL), Mo_end_31 F n t tL x1 x2 = some res → Go p l e rm_Mo_end s m args below meth c g A A 3 (MQ below (EI g ((pic_Mo g a_t res.2.1 res.2.2)) res.1 A) args s 0 0 A) ((pic_Mo g a_t t tL)) [(0, .ref (a_t 0)), (1, .int x1), (2, .int x2)] 31 [] := by
  obtain ⟨hx, hb, hr, hml, hown, htb, hlocks, hA, hAA, hG⟩ := id hC
  have hK := hG.1
  intro n
  induction n with
  | zero => intro t tL x1 x2 res h; rw [Mo_end_31] at h; cases h
  | succ n ih =>
    intro t tL x1 x2 res h H locs ls hP hD hS hl
    rw [Mo_end_31] at h
    refine lv_iload_n hx hb d_Mo_end_31 rfl (lv_at hl 2 rfl) ?_
    refine lv_iload_n hx hb d_Mo_end_32 rfl (lv_at hl 1 rfl) ?_
    refine lv_icmp_ge (tgt := 67) hx hb d_Mo_end_33 (by decide) (fun c16 => ?_) (fun c16 => ?_)
    · replace h := (if_pos c16).symm.trans h
      refine lv_iconst (v := 0) hx hb d_Mo_end_67 (by decide) ?_
      refine lv_istore_n (lv' := [(2, .int (0 : Int32)), (0, .ref (a_t 0)), (1, .int x1)]) hx hb d_Mo_end_68 rfl hl (by decide) rfl (fun ls hl => ?_)
      exact k_Mo_end_69 hC F _ _ _ _ h _ _ _ hP hD hS (lv_sub hl [1, 0] rfl)
    · replace h := (if_neg c16).symm.trans h
      refine lv_aload_n hx hb d_Mo_end_36 rfl (lv_at hl 0 rfl) ?_
      refine va_get (D := gD g) (ci := 8) (v := .ref (a_t 3)) (C := R_Mo) (T := T_Mo) (N := 64) hx hb htb in_Mo hown hK hP 0 rfl rfl 2 (by decide) (htb _ L_Mo_13) (fun _ h9 => h9) rfl d_Mo_end_37 ?_
      refine lv_aload_n hx hb d_Mo_end_40 rfl (lv_at hl 0 rfl) ?_
      refine va_get (D := gD g) (ci := 8) (v := .int (t 3 0)) (C := R_Mo) (T := T_Mo) (N := 64) hx hb htb in_Mo hown hK hP 0 rfl rfl 3 (by decide) (htb _ L_Mo_151) (fun _ h9 => h9) rfl d_Mo_end_41 ?_
      refine lv_aload_n hx hb d_Mo_end_44 rfl (lv_at hl 0 rfl) ?_
      refine va_get (D := gD g) (ci := 8) (v := .ref (a_t 2)) (C := R_Mo) (T := T_Mo) (N := 64) hx hb htb in_Mo hown hK hP 0 rfl rfl 1 (by decide) (htb _ L_Mo_7) (fun _ h9 => h9) rfl d_Mo_end_45 ?_
      refine lv_iload_n hx hb d_Mo_end_48 rfl (lv_at hl 2 rfl) ?_
      by_cases c17 : (x2 < 0 ∨ 20 ≤ x2.toNatClampNeg)
      · replace h := (if_pos c17).symm.trans h
        cases h
      replace h := (if_neg c17).symm.trans h
      refine va_bald hx hb hK hP 1 4 rfl rfl c17 d_Mo_end_49 ?_
      by_cases c19 : ((t 3 0) < 0 ∨ 600 ≤ (t 3 0).toNatClampNeg)
      · replace h := (if_pos c19).symm.trans h
        cases h
      replace h := (if_neg c19).symm.trans h
      refine va_bast hx hb hK hP hD hS 2 4 rfl rfl c19 d_Mo_end_50 (fun H locs hP hD hS => ?_)
      obtain ⟨t_18, et_18, h⟩ := letS_el h
      have hP : va_P (gD g) vwCl ((pic_Mo g a_t t_18 tL)) H := by rw [et_18]; exact hP
      have hD : va_D A ((pic_Mo g a_t t_18 tL)) := by rw [et_18]; exact hD
      refine lv_aload_n hx hb d_Mo_end_51 rfl (lv_at hl 0 rfl) ?_
      refine lv_dup hx hb d_Mo_end_52 rfl ?_
      refine va_get (D := gD g) (ci := 8) (v := .int (t_18 3 0)) (C := R_Mo) (T := T_Mo) (N := 64) hx hb htb in_Mo hown hK hP 0 rfl rfl 3 (by decide) (htb _ L_Mo_151) (fun _ h9 => h9) rfl d_Mo_end_53 ?_
      refine lv_iconst (v := 1) hx hb d_Mo_end_56 (by decide) ?_
      refine lv_iadd hx hb d_Mo_end_57 ?_
      refine va_put (D := gD g) (ci := 8) (v := .int ((t_18 3 0) + (1 : Int32))) (ty := .int) (C := R_Mo) (T := T_Mo) (N := 64) hx hb htb in_Mo ty_Mo ty_Mo_ok nm_Mo hown hK hP hD hS 0 rfl rfl 3 (by decide) (htb _ L_Mo_151) (fun _ h9 => h9) rfl (by decide +kernel) rfl rfl (Nat.le_of_ble_eq_true rfl) d_Mo_end_58 (fun H locs hP hD hS => ?_)
      obtain ⟨t_20, et_20, h⟩ := letS_el h
      have hP : va_P (gD g) vwCl ((pic_Mo g a_t t_20 tL)) H := by rw [et_20]; exact hP
      have hD : va_D A ((pic_Mo g a_t t_20 tL)) := by rw [et_20]; exact hD
      refine lv_iinc (v := (x2 + (1 : Int32))) (lv' := [(2, .int (x2 + (1 : Int32))), (0, .ref (a_t 0)), (1, .int x1)]) hx hb d_Mo_end_61 hl (k := 2) rfl rfl (by decide) rfl (fun ls hl => ?_)
      refine lv_goto (tgt := 31) hx hb d_Mo_end_64 (by decide) ?_
      exact ih _ _ _ _ _ h _ _ _ hP hD hS (lv_sub hl [1, 2, 0] rfl)
set_option maxHeartbeats 4000000 in
set_option maxRecDepth 100000 in
theorem k_Mo_end {p : Program} {l : Launch} {e : Env} {s : State} {m : MethodId} {args : Array Value} {below : List Frame} {meth : Method} {c : Code} {g : Gz} {A : Nat → Prop} {F : Nat} {a_t : Nat → Nat} (hC : Cx prog_10_method_5_code 3 (some .int) R_Mo p s m args meth c g A A) : ∀ (t : StI) (tL : StL) (x1 : Int32) (res : Int32 × StI × StL), Mo_end F t tL x1 = some res → Go p l e rm_Mo_end s m args below meth c g A A 3 (MQ below (EI g ((pic_Mo g a_t res.2.1 res.2.2)) res.1 A) args s 0 0 A) ((pic_Mo g a_t t tL)) [(0, .ref (a_t 0)), (1, .int x1)] 0 [] := by
  obtain ⟨hx, hb, hr, hml, hown, htb, hlocks, hA, hAA, hG⟩ := id hC
  have hK := hG.1
  intro t tL x1 res h H locs ls hP hD hS hl
  rw [Mo_end] at h
  refine lv_aload_n hx hb d_Mo_end_0 rfl (lv_at hl 0 rfl) ?_
  refine lv_iconst (v := 0) hx hb d_Mo_end_1 (by decide) ?_
  refine va_put (D := gD g) (ci := 8) (v := .int (0 : Int32)) (ty := .int) (C := R_Mo) (T := T_Mo) (N := 64) hx hb htb in_Mo ty_Mo ty_Mo_ok nm_Mo hown hK hP hD hS 0 rfl rfl 0 (by decide) (htb _ L_Mo_144) (fun _ h9 => h9) rfl (by decide +kernel) rfl rfl (Nat.le_of_ble_eq_true rfl) d_Mo_end_2 (fun H locs hP hD hS => ?_)
  obtain ⟨t_21, et_21, h⟩ := letS_el h
  have hP : va_P (gD g) vwCl ((pic_Mo g a_t t_21 tL)) H := by rw [et_21]; exact hP
  have hD : va_D A ((pic_Mo g a_t t_21 tL)) := by rw [et_21]; exact hD
  refine lv_iload_n hx hb d_Mo_end_5 rfl (lv_at hl 1 rfl) ?_
  refine lv_if_lt (tgt := 27) hx hb d_Mo_end_6 (by decide) (fun c22 => ?_) (fun c22 => ?_)
  · replace h := (if_pos c22).symm.trans h
    refine lv_iconst (v := -1) hx hb d_Mo_end_27 (by decide) ?_
    cases h
    exact W.iret hx hb hr (fun t ht hW => ⟨⟨_, (), rfl, rfl, by rw [ht]; exact hP, hD⟩, hS.F ht⟩) hS.2.2 d_Mo_end_28
  · replace h := (if_neg c22).symm.trans h
    refine lv_iload_n hx hb d_Mo_end_9 rfl (lv_at hl 1 rfl) ?_
    refine lv_bipush (v := 20) hx hb d_Mo_end_10 (by decide) ?_
    refine lv_icmp_gt (tgt := 27) hx hb d_Mo_end_12 (by decide) (fun c23 => ?_) (fun c23 => ?_)
    · replace h := (if_pos c23).symm.trans h
      refine lv_iconst (v := -1) hx hb d_Mo_end_27 (by decide) ?_
      cases h
      exact W.iret hx hb hr (fun t ht hW => ⟨⟨_, (), rfl, rfl, by rw [ht]; exact hP, hD⟩, hS.F ht⟩) hS.2.2 d_Mo_end_28
    · replace h := (if_neg c23).symm.trans h
      refine lv_aload_n hx hb d_Mo_end_15 rfl (lv_at hl 0 rfl) ?_
      refine va_get (D := gD g) (ci := 8) (v := .int (t_21 3 0)) (C := R_Mo) (T := T_Mo) (N := 64) hx hb htb in_Mo hown hK hP 0 rfl rfl 3 (by decide) (htb _ L_Mo_151) (fun _ h9 => h9) rfl d_Mo_end_16 ?_
      refine lv_iload_n hx hb d_Mo_end_19 rfl (lv_at hl 1 rfl) ?_
      refine lv_iadd hx hb d_Mo_end_20 ?_
      refine lv_sipush (v := 600) hx hb d_Mo_end_21 (by decide) ?_
      refine lv_icmp_le (tgt := 29) hx hb d_Mo_end_24 (by decide) (fun c24 => ?_) (fun c24 => ?_)
      · replace h := (if_pos c24).symm.trans h
        refine lv_iconst (v := 0) hx hb d_Mo_end_29 (by decide) ?_
        refine lv_istore_n (lv' := [(2, .int (0 : Int32)), (0, .ref (a_t 0)), (1, .int x1)]) hx hb d_Mo_end_30 rfl hl (by decide) rfl (fun ls hl => ?_)
        exact k_Mo_end_31 hC F _ _ _ _ _ h _ _ _ hP hD hS (lv_sub hl [1, 2, 0] rfl)
      · replace h := (if_neg c24).symm.trans h
        refine lv_iconst (v := -1) hx hb d_Mo_end_27 (by decide) ?_
        cases h
        exact W.iret hx hb hr (fun t ht hW => ⟨⟨_, (), rfl, rfl, by rw [ht]; exact hP, hD⟩, hS.F ht⟩) hS.2.2 d_Mo_end_28
theorem c_Mo_end (l : Launch) (g : Gz) (F : Nat) (a_t : Nat → Nat) (t : StI) (tL : StL) (x1 : Int32) (res : Int32 × StI × StL) (h : Mo_end F t tL x1 = some res) : ∀ sz : Nat, Met l y_Mo_end (.code y_Mo_end prog_10_method_5_code 3 (some .int) :: TBL) rm_Mo_end (va_Pc [.ref (a_t 0), .int x1] (Pre0 g ((pic_Mo g a_t t tL)) sz)) (EI g ((pic_Mo g a_t res.2.1 res.2.2)) res.1 (va_A ((pic_Mo g a_t t tL)) sz)) 0 0 (va_A ((pic_Mo g a_t t tL)) sz) :=
  ct_w (Qc := fun A => EI g ((pic_Mo g a_t res.2.1 res.2.2)) res.1 A) (by decide) (Nat.le_of_ble_eq_true rfl) (fun p e s m args below meth c A hC => k_Mo_end hC t tL x1 res h)
def Mo_see (F : Nat) (t : StI) (tL : StL) (x1 : Int32) : Option (Int32) := if (t 6 0) ≤ x1 then some (-1 : Int32) else if x1 < 0 ∨ 600 ≤ x1.toNatClampNeg then none else some (((t 4) x1.toNatClampNeg) &&& (255 : Int32))
set_option maxHeartbeats 4000000 in
set_option maxRecDepth 100000 in
theorem k_Mo_see {p : Program} {l : Launch} {e : Env} {s : State} {m : MethodId} {args : Array Value} {below : List Frame} {meth : Method} {c : Code} {g : Gz} {A2 A : Nat → Prop} {F : Nat} {a_t : Nat → Nat} (hC : Cx prog_10_method_6_code 2 (some .int) R_Mo p s m args meth c g A2 A) : ∀ (t : StI) (tL : StL) (x1 : Int32) (res : Int32), Mo_see F t tL x1 = some res → Go p l e rm_Mo_see s m args below meth c g A2 A 2 (MQ below (RI res A) args s 0 0 A) ((pic_Mo g a_t t tL)) [(0, .ref (a_t 0)), (1, .int x1)] 0 [] := by
  obtain ⟨hx, hb, hr, hml, hown, htb, hlocks, hA, hAA, hG⟩ := id hC
  have hK := hG.1
  intro t tL x1 res h H locs ls hP hD hS hl
  rw [Mo_see] at h
  refine lv_iload_n hx hb d_Mo_see_0 rfl (lv_at hl 1 rfl) ?_
  refine lv_aload_n hx hb d_Mo_see_1 rfl (lv_at hl 0 rfl) ?_
  refine va_get (D := gD g) (ci := 8) (v := .int (t 6 0)) (C := R_Mo) (T := T_Mo) (N := 64) hx hb htb in_Mo hown hK hP 0 rfl rfl 6 (by decide) (htb _ L_Mo_154) (fun _ h9 => h9) rfl d_Mo_see_2 ?_
  refine lv_icmp_ge (tgt := 21) hx hb d_Mo_see_5 (by decide) (fun c3 => ?_) (fun c3 => ?_)
  · replace h := (if_pos c3).symm.trans h
    refine lv_iconst (v := -1) hx hb d_Mo_see_21 (by decide) ?_
    cases h
    exact W.iret hx hb hr (fun t ht hW => ⟨⟨_, (), rfl, rfl, trivial⟩, hS.F ht⟩) hS.2.2 d_Mo_see_22
  · replace h := (if_neg c3).symm.trans h
    refine lv_aload_n hx hb d_Mo_see_8 rfl (lv_at hl 0 rfl) ?_
    refine va_get (D := gD g) (ci := 8) (v := .ref (a_t 5)) (C := R_Mo) (T := T_Mo) (N := 64) hx hb htb in_Mo hown hK hP 0 rfl rfl 4 (by decide) (htb _ L_Mo_16) (fun _ h9 => h9) rfl d_Mo_see_9 ?_
    refine lv_iload_n hx hb d_Mo_see_12 rfl (lv_at hl 1 rfl) ?_
    by_cases c4 : (x1 < 0 ∨ 600 ≤ x1.toNatClampNeg)
    · replace h := (if_pos c4).symm.trans h
      cases h
    replace h := (if_neg c4).symm.trans h
    refine va_bald hx hb hK hP 3 4 rfl rfl c4 d_Mo_see_13 ?_
    refine lv_sipush (v := 255) hx hb d_Mo_see_14 (by decide) ?_
    refine lv_iand hx hb d_Mo_see_17 ?_
    refine lv_goto (tgt := 22) hx hb d_Mo_see_18 (by decide) ?_
    cases h
    exact W.iret hx hb hr (fun t ht hW => ⟨⟨_, (), rfl, rfl, trivial⟩, hS.F ht⟩) hS.2.2 d_Mo_see_22
theorem c_Mo_see (l : Launch) (g : Gz) (F : Nat) (a_t : Nat → Nat) (t : StI) (tL : StL) (x1 : Int32) (res : Int32) (h : Mo_see F t tL x1 = some res) : ∀ sz : Nat, Met l y_Mo_see (.code y_Mo_see prog_10_method_6_code 2 (some .int) :: TBL) rm_Mo_see (va_Pc [.ref (a_t 0), .int x1] (Pre0 g ((pic_Mo g a_t t tL)) sz)) (RI res (fun q => sz ≤ q)) 0 0 (fun q => sz ≤ q) :=
  ct_r (Qc := fun A => RI res A) (by decide) (Nat.le_of_ble_eq_true rfl) (fun p e s m args below meth c A2 A hC => k_Mo_see hC t tL x1 res h)
def Mo_fail (F : Nat) (t : StI) (tL : StL) (x1 : Int32) (x2 : Int32) : Option (StI × StL) := if (t 9 0) = 0 then letS (va_up t 9 (fun _ => x1)) fun t_5 => letS (va_up t_5 10 (fun _ => x2)) fun t_6 => some (t_6, tL) else some (t, tL)
set_option maxHeartbeats 4000000 in
set_option maxRecDepth 100000 in
theorem k_Mo_fail {p : Program} {l : Launch} {e : Env} {s : State} {m : MethodId} {args : Array Value} {below : List Frame} {meth : Method} {c : Code} {g : Gz} {A : Nat → Prop} {F : Nat} {a_t : Nat → Nat} (hC : Cx prog_10_method_7_code 3 none R_Mo p s m args meth c g A A) : ∀ (t : StI) (tL : StL) (x1 : Int32) (x2 : Int32) (res : StI × StL), Mo_fail F t tL x1 x2 = some res → Go p l e rm_Mo_fail s m args below meth c g A A 3 (MQ below (EV g ((pic_Mo g a_t res.1 res.2)) A) args s 0 0 A) ((pic_Mo g a_t t tL)) [(0, .ref (a_t 0)), (1, .int x1), (2, .int x2)] 0 [] := by
  obtain ⟨hx, hb, hr, hml, hown, htb, hlocks, hA, hAA, hG⟩ := id hC
  have hK := hG.1
  intro t tL x1 x2 res h H locs ls hP hD hS hl
  rw [Mo_fail] at h
  refine lv_aload_n hx hb d_Mo_fail_0 rfl (lv_at hl 0 rfl) ?_
  refine va_get (D := gD g) (ci := 8) (v := .int (t 9 0)) (C := R_Mo) (T := T_Mo) (N := 64) hx hb htb in_Mo hown hK hP 0 rfl rfl 9 (by decide) (htb _ L_Mo_157) (fun _ h9 => h9) rfl d_Mo_fail_1 ?_
  refine lv_if_ne (tgt := 17) hx hb d_Mo_fail_4 (by decide) (fun c4 => ?_) (fun c4 => ?_)
  · replace h := (if_neg c4).symm.trans h
    cases h
    exact W.vret hx hb hr (fun t ht hW => ⟨⟨(), rfl, trivial, by rw [ht]; exact hP, hD⟩, hS.F ht⟩) hS.2.2 d_Mo_fail_17
  · replace h := (if_pos c4).symm.trans h
    refine lv_aload_n hx hb d_Mo_fail_7 rfl (lv_at hl 0 rfl) ?_
    refine lv_iload_n hx hb d_Mo_fail_8 rfl (lv_at hl 1 rfl) ?_
    refine va_put (D := gD g) (ci := 8) (v := .int x1) (ty := .int) (C := R_Mo) (T := T_Mo) (N := 64) hx hb htb in_Mo ty_Mo ty_Mo_ok nm_Mo hown hK hP hD hS 0 rfl rfl 9 (by decide) (htb _ L_Mo_157) (fun _ h9 => h9) rfl (by decide +kernel) rfl rfl (Nat.le_of_ble_eq_true rfl) d_Mo_fail_9 (fun H locs hP hD hS => ?_)
    obtain ⟨t_5, et_5, h⟩ := letS_el h
    have hP : va_P (gD g) vwCl ((pic_Mo g a_t t_5 tL)) H := by rw [et_5]; exact hP
    have hD : va_D A ((pic_Mo g a_t t_5 tL)) := by rw [et_5]; exact hD
    refine lv_aload_n hx hb d_Mo_fail_12 rfl (lv_at hl 0 rfl) ?_
    refine lv_iload_n hx hb d_Mo_fail_13 rfl (lv_at hl 2 rfl) ?_
    refine va_put (D := gD g) (ci := 8) (v := .int x2) (ty := .int) (C := R_Mo) (T := T_Mo) (N := 64) hx hb htb in_Mo ty_Mo ty_Mo_ok nm_Mo hown hK hP hD hS 0 rfl rfl 10 (by decide) (htb _ L_Mo_22) (fun _ h9 => h9) rfl (by decide +kernel) rfl rfl (Nat.le_of_ble_eq_true rfl) d_Mo_fail_14 (fun H locs hP hD hS => ?_)
    obtain ⟨t_6, et_6, h⟩ := letS_el h
    have hP : va_P (gD g) vwCl ((pic_Mo g a_t t_6 tL)) H := by rw [et_6]; exact hP
    have hD : va_D A ((pic_Mo g a_t t_6 tL)) := by rw [et_6]; exact hD
    cases h
    exact W.vret hx hb hr (fun t ht hW => ⟨⟨(), rfl, trivial, by rw [ht]; exact hP, hD⟩, hS.F ht⟩) hS.2.2 d_Mo_fail_17
theorem c_Mo_fail (l : Launch) (g : Gz) (F : Nat) (a_t : Nat → Nat) (t : StI) (tL : StL) (x1 : Int32) (x2 : Int32) (res : StI × StL) (h : Mo_fail F t tL x1 x2 = some res) : ∀ sz : Nat, Met l y_Mo_fail (.code y_Mo_fail prog_10_method_7_code 3 none :: TBL) rm_Mo_fail (va_Pc [.ref (a_t 0), .int x1, .int x2] (Pre0 g ((pic_Mo g a_t t tL)) sz)) (EV g ((pic_Mo g a_t res.1 res.2)) (va_A ((pic_Mo g a_t t tL)) sz)) 0 0 (va_A ((pic_Mo g a_t t tL)) sz) :=
  ct_w (Qc := fun A => EV g ((pic_Mo g a_t res.1 res.2)) A) (by decide) (Nat.le_of_ble_eq_true rfl) (fun p e s m args below meth c A hC => k_Mo_fail hC t tL x1 x2 res h)
def Mo_isPart (F : Nat) (x0 : Int32) : Option (Int32) := if x0 ≤ (32 : Int32) then some (0 : Int32) else if (127 : Int32) ≤ x0 then some (0 : Int32) else if x0 = (40 : Int32) then some (0 : Int32) else if x0 = (41 : Int32) then some (0 : Int32) else if x0 = (34 : Int32) then some (0 : Int32) else if x0 = (58 : Int32) then some (0 : Int32) else some (1 : Int32)
set_option maxHeartbeats 4000000 in
set_option maxRecDepth 100000 in
theorem k_Mo_isPart {p : Program} {l : Launch} {e : Env} {s : State} {m : MethodId} {args : Array Value} {below : List Frame} {meth : Method} {c : Code} {g : Gz} {A2 A : Nat → Prop} {F : Nat} (hC : Cx prog_10_method_8_code 1 (some .boolean) R_Mo p s m args meth c g A2 A) : ∀ (x0 : Int32) (res : Int32), Mo_isPart F x0 = some res → Go p l e rm_Mo_isPart s m args below meth c g A2 A 1 (MQ below (RI res A) args s 0 0 A) ([]) [(0, .int x0)] 0 [] := by
  obtain ⟨hx, hb, hr, hml, hown, htb, hlocks, hA, hAA, hG⟩ := id hC
  have hK := hG.1
  intro x0 res h H locs ls hP hD hS hl
  rw [Mo_isPart] at h
  refine lv_iload_n hx hb d_Mo_isPart_0 rfl (lv_at hl 0 rfl) ?_
  refine lv_bipush (v := 32) hx hb d_Mo_isPart_1 (by decide) ?_
  refine lv_icmp_le (tgt := 40) hx hb d_Mo_isPart_3 (by decide) (fun c7 => ?_) (fun c7 => ?_)
  · replace h := (if_pos c7).symm.trans h
    refine lv_iconst (v := 0) hx hb d_Mo_isPart_40 (by decide) ?_
    cases h
    exact W.zret hx hb hr rfl (fun t ht hW => ⟨⟨_, (), rfl, rfl, trivial⟩, hS.F ht⟩) hS.2.2 d_Mo_isPart_41
  · replace h := (if_neg c7).symm.trans h
    refine lv_iload_n hx hb d_Mo_isPart_6 rfl (lv_at hl 0 rfl) ?_
    refine lv_bipush (v := 127) hx hb d_Mo_isPart_7 (by decide) ?_
    refine lv_icmp_ge (tgt := 40) hx hb d_Mo_isPart_9 (by decide) (fun c8 => ?_) (fun c8 => ?_)
    · replace h := (if_pos c8).symm.trans h
      refine lv_iconst (v := 0) hx hb d_Mo_isPart_40 (by decide) ?_
      cases h
      exact W.zret hx hb hr rfl (fun t ht hW => ⟨⟨_, (), rfl, rfl, trivial⟩, hS.F ht⟩) hS.2.2 d_Mo_isPart_41
    · replace h := (if_neg c8).symm.trans h
      refine lv_iload_n hx hb d_Mo_isPart_12 rfl (lv_at hl 0 rfl) ?_
      refine lv_bipush (v := 40) hx hb d_Mo_isPart_13 (by decide) ?_
      refine lv_icmp_eq (tgt := 40) hx hb d_Mo_isPart_15 (by decide) (fun c9 => ?_) (fun c9 => ?_)
      · replace h := (if_pos c9).symm.trans h
        refine lv_iconst (v := 0) hx hb d_Mo_isPart_40 (by decide) ?_
        cases h
        exact W.zret hx hb hr rfl (fun t ht hW => ⟨⟨_, (), rfl, rfl, trivial⟩, hS.F ht⟩) hS.2.2 d_Mo_isPart_41
      · replace h := (if_neg c9).symm.trans h
        refine lv_iload_n hx hb d_Mo_isPart_18 rfl (lv_at hl 0 rfl) ?_
        refine lv_bipush (v := 41) hx hb d_Mo_isPart_19 (by decide) ?_
        refine lv_icmp_eq (tgt := 40) hx hb d_Mo_isPart_21 (by decide) (fun c10 => ?_) (fun c10 => ?_)
        · replace h := (if_pos c10).symm.trans h
          refine lv_iconst (v := 0) hx hb d_Mo_isPart_40 (by decide) ?_
          cases h
          exact W.zret hx hb hr rfl (fun t ht hW => ⟨⟨_, (), rfl, rfl, trivial⟩, hS.F ht⟩) hS.2.2 d_Mo_isPart_41
        · replace h := (if_neg c10).symm.trans h
          refine lv_iload_n hx hb d_Mo_isPart_24 rfl (lv_at hl 0 rfl) ?_
          refine lv_bipush (v := 34) hx hb d_Mo_isPart_25 (by decide) ?_
          refine lv_icmp_eq (tgt := 40) hx hb d_Mo_isPart_27 (by decide) (fun c11 => ?_) (fun c11 => ?_)
          · replace h := (if_pos c11).symm.trans h
            refine lv_iconst (v := 0) hx hb d_Mo_isPart_40 (by decide) ?_
            cases h
            exact W.zret hx hb hr rfl (fun t ht hW => ⟨⟨_, (), rfl, rfl, trivial⟩, hS.F ht⟩) hS.2.2 d_Mo_isPart_41
          · replace h := (if_neg c11).symm.trans h
            refine lv_iload_n hx hb d_Mo_isPart_30 rfl (lv_at hl 0 rfl) ?_
            refine lv_bipush (v := 58) hx hb d_Mo_isPart_31 (by decide) ?_
            refine lv_icmp_eq (tgt := 40) hx hb d_Mo_isPart_33 (by decide) (fun c12 => ?_) (fun c12 => ?_)
            · replace h := (if_pos c12).symm.trans h
              refine lv_iconst (v := 0) hx hb d_Mo_isPart_40 (by decide) ?_
              cases h
              exact W.zret hx hb hr rfl (fun t ht hW => ⟨⟨_, (), rfl, rfl, trivial⟩, hS.F ht⟩) hS.2.2 d_Mo_isPart_41
            · replace h := (if_neg c12).symm.trans h
              refine lv_iconst (v := 1) hx hb d_Mo_isPart_36 (by decide) ?_
              refine lv_goto (tgt := 41) hx hb d_Mo_isPart_37 (by decide) ?_
              cases h
              exact W.zret hx hb hr rfl (fun t ht hW => ⟨⟨_, (), rfl, rfl, trivial⟩, hS.F ht⟩) hS.2.2 d_Mo_isPart_41
theorem c_Mo_isPart (l : Launch) (g : Gz) (F : Nat) (x0 : Int32) (res : Int32) (h : Mo_isPart F x0 = some res) : ∀ sz : Nat, Met l y_Mo_isPart (.code y_Mo_isPart prog_10_method_8_code 1 (some .boolean) :: TBL) rm_Mo_isPart (va_Pc [.int x0] (Pre0 g ([]) sz)) (RI res (fun q => sz ≤ q)) 0 0 (fun q => sz ≤ q) :=
  ct_r (Qc := fun A => RI res A) (by decide) (Nat.le_of_ble_eq_true rfl) (fun p e s m args below meth c A2 A hC => k_Mo_isPart hC x0 res h)
def Mo_isSmall (F : Nat) (x0 : Int32) : Option (Int32) := if x0 < (97 : Int32) then some (0 : Int32) else if (122 : Int32) < x0 then some (0 : Int32) else some (1 : Int32)
set_option maxHeartbeats 4000000 in
set_option maxRecDepth 100000 in
theorem k_Mo_isSmall {p : Program} {l : Launch} {e : Env} {s : State} {m : MethodId} {args : Array Value} {below : List Frame} {meth : Method} {c : Code} {g : Gz} {A2 A : Nat → Prop} {F : Nat} (hC : Cx prog_10_method_9_code 1 (some .boolean) R_Mo p s m args meth c g A2 A) : ∀ (x0 : Int32) (res : Int32), Mo_isSmall F x0 = some res → Go p l e rm_Mo_isSmall s m args below meth c g A2 A 1 (MQ below (RI res A) args s 0 0 A) ([]) [(0, .int x0)] 0 [] := by
  obtain ⟨hx, hb, hr, hml, hown, htb, hlocks, hA, hAA, hG⟩ := id hC
  have hK := hG.1
  intro x0 res h H locs ls hP hD hS hl
  rw [Mo_isSmall] at h
  refine lv_iload_n hx hb d_Mo_isSmall_0 rfl (lv_at hl 0 rfl) ?_
  refine lv_bipush (v := 97) hx hb d_Mo_isSmall_1 (by decide) ?_
  refine lv_icmp_lt (tgt := 16) hx hb d_Mo_isSmall_3 (by decide) (fun c3 => ?_) (fun c3 => ?_)
  · replace h := (if_pos c3).symm.trans h
    refine lv_iconst (v := 0) hx hb d_Mo_isSmall_16 (by decide) ?_
    cases h
    exact W.zret hx hb hr rfl (fun t ht hW => ⟨⟨_, (), rfl, rfl, trivial⟩, hS.F ht⟩) hS.2.2 d_Mo_isSmall_17
  · replace h := (if_neg c3).symm.trans h
    refine lv_iload_n hx hb d_Mo_isSmall_6 rfl (lv_at hl 0 rfl) ?_
    refine lv_bipush (v := 122) hx hb d_Mo_isSmall_7 (by decide) ?_
    refine lv_icmp_gt (tgt := 16) hx hb d_Mo_isSmall_9 (by decide) (fun c4 => ?_) (fun c4 => ?_)
    · replace h := (if_pos c4).symm.trans h
      refine lv_iconst (v := 0) hx hb d_Mo_isSmall_16 (by decide) ?_
      cases h
      exact W.zret hx hb hr rfl (fun t ht hW => ⟨⟨_, (), rfl, rfl, trivial⟩, hS.F ht⟩) hS.2.2 d_Mo_isSmall_17
    · replace h := (if_neg c4).symm.trans h
      refine lv_iconst (v := 1) hx hb d_Mo_isSmall_12 (by decide) ?_
      refine lv_goto (tgt := 17) hx hb d_Mo_isSmall_13 (by decide) ?_
      cases h
      exact W.zret hx hb hr rfl (fun t ht hW => ⟨⟨_, (), rfl, rfl, trivial⟩, hS.F ht⟩) hS.2.2 d_Mo_isSmall_17
theorem c_Mo_isSmall (l : Launch) (g : Gz) (F : Nat) (x0 : Int32) (res : Int32) (h : Mo_isSmall F x0 = some res) : ∀ sz : Nat, Met l y_Mo_isSmall (.code y_Mo_isSmall prog_10_method_9_code 1 (some .boolean) :: TBL) rm_Mo_isSmall (va_Pc [.int x0] (Pre0 g ([]) sz)) (RI res (fun q => sz ≤ q)) 0 0 (fun q => sz ≤ q) :=
  ct_r (Qc := fun A => RI res A) (by decide) (Nat.le_of_ble_eq_true rfl) (fun p e s m args below meth c A2 A hC => k_Mo_isSmall hC x0 res h)
def Mo_isDigit (F : Nat) (x0 : Int32) : Option (Int32) := if x0 < (48 : Int32) then some (0 : Int32) else if (57 : Int32) < x0 then some (0 : Int32) else some (1 : Int32)
set_option maxHeartbeats 4000000 in
set_option maxRecDepth 100000 in
theorem k_Mo_isDigit {p : Program} {l : Launch} {e : Env} {s : State} {m : MethodId} {args : Array Value} {below : List Frame} {meth : Method} {c : Code} {g : Gz} {A2 A : Nat → Prop} {F : Nat} (hC : Cx prog_10_method_10_code 1 (some .boolean) R_Mo p s m args meth c g A2 A) : ∀ (x0 : Int32) (res : Int32), Mo_isDigit F x0 = some res → Go p l e rm_Mo_isDigit s m args below meth c g A2 A 1 (MQ below (RI res A) args s 0 0 A) ([]) [(0, .int x0)] 0 [] := by
  obtain ⟨hx, hb, hr, hml, hown, htb, hlocks, hA, hAA, hG⟩ := id hC
  have hK := hG.1
  intro x0 res h H locs ls hP hD hS hl
  rw [Mo_isDigit] at h
  refine lv_iload_n hx hb d_Mo_isDigit_0 rfl (lv_at hl 0 rfl) ?_
  refine lv_bipush (v := 48) hx hb d_Mo_isDigit_1 (by decide) ?_
  refine lv_icmp_lt (tgt := 16) hx hb d_Mo_isDigit_3 (by decide) (fun c3 => ?_) (fun c3 => ?_)
  · replace h := (if_pos c3).symm.trans h
    refine lv_iconst (v := 0) hx hb d_Mo_isDigit_16 (by decide) ?_
    cases h
    exact W.zret hx hb hr rfl (fun t ht hW => ⟨⟨_, (), rfl, rfl, trivial⟩, hS.F ht⟩) hS.2.2 d_Mo_isDigit_17
  · replace h := (if_neg c3).symm.trans h
    refine lv_iload_n hx hb d_Mo_isDigit_6 rfl (lv_at hl 0 rfl) ?_
    refine lv_bipush (v := 57) hx hb d_Mo_isDigit_7 (by decide) ?_
    refine lv_icmp_gt (tgt := 16) hx hb d_Mo_isDigit_9 (by decide) (fun c4 => ?_) (fun c4 => ?_)
    · replace h := (if_pos c4).symm.trans h
      refine lv_iconst (v := 0) hx hb d_Mo_isDigit_16 (by decide) ?_
      cases h
      exact W.zret hx hb hr rfl (fun t ht hW => ⟨⟨_, (), rfl, rfl, trivial⟩, hS.F ht⟩) hS.2.2 d_Mo_isDigit_17
    · replace h := (if_neg c4).symm.trans h
      refine lv_iconst (v := 1) hx hb d_Mo_isDigit_12 (by decide) ?_
      refine lv_goto (tgt := 17) hx hb d_Mo_isDigit_13 (by decide) ?_
      cases h
      exact W.zret hx hb hr rfl (fun t ht hW => ⟨⟨_, (), rfl, rfl, trivial⟩, hS.F ht⟩) hS.2.2 d_Mo_isDigit_17
theorem c_Mo_isDigit (l : Launch) (g : Gz) (F : Nat) (x0 : Int32) (res : Int32) (h : Mo_isDigit F x0 = some res) : ∀ sz : Nat, Met l y_Mo_isDigit (.code y_Mo_isDigit prog_10_method_10_code 1 (some .boolean) :: TBL) rm_Mo_isDigit (va_Pc [.int x0] (Pre0 g ([]) sz)) (RI res (fun q => sz ≤ q)) 0 0 (fun q => sz ≤ q) :=
  ct_r (Qc := fun A => RI res A) (by decide) (Nat.le_of_ble_eq_true rfl) (fun p e s m args below meth c A2 A hC => k_Mo_isDigit hC x0 res h)
