theorem L_Rows_126 : (Jvm.Cond.methodLink "MailQueries$Rows" (126 : Nat) ({ cls := "MailQueries$Rows", name := "putAny", desc := "(I)Z" } : Jvm.MethodName)) ∈ TBL := TBL_in (List.mem_of_getElem? (i := 620) (by decide +kernel)) (by decide +kernel)
theorem L_Rows_122 : (Jvm.Cond.methodLink "MailQueries$Rows" (122 : Nat) ({ cls := "MailQueries$Rows", name := "putEither", desc := "(IIII)Z" } : Jvm.MethodName)) ∈ TBL := TBL_in (List.mem_of_getElem? (i := 603) (by decide +kernel)) (by decide +kernel)
set_option maxRecDepth 100000 in
theorem W_Rows_joinAsIs_code : (Jvm.Cond.code ({ cls := "MailQueries$Rows", name := "joinAsIs", desc := "(I)Z" } : Jvm.MethodName) prog_7_method_7_code (2 : Nat) (Option.some Jvm.ClassFile.FieldType.boolean)) ∈ TBL := TBL_in (List.mem_of_getElem? (i := 602) rfl) rfl
theorem W_Rows_joinAsIs_in : (Jvm.Cond.instanceMethod ({ cls := "MailQueries$Rows", name := "joinAsIs", desc := "(I)Z" } : Jvm.MethodName)) ∈ TBL := TBL_in (List.mem_of_getElem? (i := 601) (by decide +kernel)) (by decide +kernel)
theorem sel_14 : Cond.selects "MailQueries$Rows" ⟨"MailQueries$Rows", "joinAsIs", "(I)Z"⟩ ⟨"MailQueries$Rows", "joinAsIs", "(I)Z"⟩ ∈ TBL := TBL_in (List.mem_of_getElem? (i := 14) (by decide +kernel)) (by decide +kernel)
set_option maxRecDepth 100000 in
theorem W_Rows_joinTurned_code : (Jvm.Cond.code ({ cls := "MailQueries$Rows", name := "joinTurned", desc := "(I)Z" } : Jvm.MethodName) prog_7_method_8_code (2 : Nat) (Option.some Jvm.ClassFile.FieldType.boolean)) ∈ TBL := TBL_in (List.mem_of_getElem? (i := 627) rfl) rfl
theorem W_Rows_joinTurned_in : (Jvm.Cond.instanceMethod ({ cls := "MailQueries$Rows", name := "joinTurned", desc := "(I)Z" } : Jvm.MethodName)) ∈ TBL := TBL_in (List.mem_of_getElem? (i := 626) (by decide +kernel)) (by decide +kernel)
theorem sel_20 : Cond.selects "MailQueries$Rows" ⟨"MailQueries$Rows", "joinTurned", "(I)Z"⟩ ⟨"MailQueries$Rows", "joinTurned", "(I)Z"⟩ ∈ TBL := TBL_in (List.mem_of_getElem? (i := 20) (by decide +kernel)) (by decide +kernel)
theorem L_Rows_89 : (Jvm.Cond.methodLink "MailQueries$Rows" (89 : Nat) ({ cls := "java/lang/System", name := "arraycopy", desc := "(Ljava/lang/Object;ILjava/lang/Object;II)V" } : Jvm.MethodName)) ∈ TBL := TBL_in (List.mem_of_getElem? (i := 569) (by decide +kernel)) (by decide +kernel)
set_option maxRecDepth 100000 in
theorem W_Rows_replaceSets_code : (Jvm.Cond.code ({ cls := "MailQueries$Rows", name := "replaceSets", desc := "(III)Z" } : Jvm.MethodName) prog_7_method_18_code (6 : Nat) (Option.some Jvm.ClassFile.FieldType.boolean)) ∈ TBL := TBL_in (List.mem_of_getElem? (i := 586) rfl) rfl
theorem W_Rows_replaceSets_in : (Jvm.Cond.instanceMethod ({ cls := "MailQueries$Rows", name := "replaceSets", desc := "(III)Z" } : Jvm.MethodName)) ∈ TBL := TBL_in (List.mem_of_getElem? (i := 585) (by decide +kernel)) (by decide +kernel)
theorem sel_10 : Cond.selects "MailQueries$Rows" ⟨"MailQueries$Rows", "replaceSets", "(III)Z"⟩ ⟨"MailQueries$Rows", "replaceSets", "(III)Z"⟩ ∈ TBL := TBL_in (List.mem_of_getElem? (i := 10) (by decide +kernel)) (by decide +kernel)
theorem L_Rows_108 : (Jvm.Cond.methodLink "MailQueries$Rows" (108 : Nat) ({ cls := "MailQueries$Rows", name := "replaceSets", desc := "(III)Z" } : Jvm.MethodName)) ∈ TBL := TBL_in (List.mem_of_getElem? (i := 583) (by decide +kernel)) (by decide +kernel)
theorem L_Rows_119 : (Jvm.Cond.methodLink "MailQueries$Rows" (119 : Nat) ({ cls := "MailQueries$Rows", name := "joinTurned", desc := "(I)Z" } : Jvm.MethodName)) ∈ TBL := TBL_in (List.mem_of_getElem? (i := 624) (by decide +kernel)) (by decide +kernel)
theorem L_Rows_115 : (Jvm.Cond.methodLink "MailQueries$Rows" (115 : Nat) ({ cls := "MailQueries$Rows", name := "joinAsIs", desc := "(I)Z" } : Jvm.MethodName)) ∈ TBL := TBL_in (List.mem_of_getElem? (i := 599) (by decide +kernel)) (by decide +kernel)
set_option maxRecDepth 100000 in
theorem W_Rows_makeSet_code : (Jvm.Cond.code ({ cls := "MailQueries$Rows", name := "makeSet", desc := "(II)Z" } : Jvm.MethodName) prog_7_method_6_code (6 : Nat) (Option.some Jvm.ClassFile.FieldType.boolean)) ∈ TBL := TBL_in (List.mem_of_getElem? (i := 582) rfl) rfl
theorem W_Rows_makeSet_in : (Jvm.Cond.instanceMethod ({ cls := "MailQueries$Rows", name := "makeSet", desc := "(II)Z" } : Jvm.MethodName)) ∈ TBL := TBL_in (List.mem_of_getElem? (i := 581) (by decide +kernel)) (by decide +kernel)
theorem sel_9 : Cond.selects "MailQueries$Rows" ⟨"MailQueries$Rows", "makeSet", "(II)Z"⟩ ⟨"MailQueries$Rows", "makeSet", "(II)Z"⟩ ∈ TBL := TBL_in (List.mem_of_getElem? (i := 9) (by decide +kernel)) (by decide +kernel)
theorem K_Rows_106 : (Jvm.Cond.constantLong "MailQueries$Rows" (106 : Nat) (3 : Int64)) ∈ TBL := TBL_in (List.mem_of_getElem? (i := 578) (by decide +kernel)) (by decide +kernel)
theorem L_Rows_40 : (Jvm.Cond.fieldLink "MailQueries$Rows" (40 : Nat) "MailQueries$Rows" "pile" "LMailQueries$Pile;") ∈ TBL := TBL_in (List.mem_of_getElem? (i := 303) (by decide +kernel)) (by decide +kernel)
theorem L_Rows_98 : (Jvm.Cond.methodLink "MailQueries$Rows" (98 : Nat) ({ cls := "MailQueries$Pile", name := "push", desc := "(J)V" } : Jvm.MethodName)) ∈ TBL := TBL_in (List.mem_of_getElem? (i := 575) (by decide +kernel)) (by decide +kernel)
theorem L_Rows_32 : (Jvm.Cond.fieldLink "MailQueries$Rows" (32 : Nat) "MailQueries$Rows" "asked" "[I") ∈ TBL := TBL_in (List.mem_of_getElem? (i := 302) (by decide +kernel)) (by decide +kernel)
theorem L_Rows_102 : (Jvm.Cond.methodLink "MailQueries$Rows" (102 : Nat) ({ cls := "MailQueries$Pile", name := "pop", desc := "()J" } : Jvm.MethodName)) ∈ TBL := TBL_in (List.mem_of_getElem? (i := 576) (by decide +kernel)) (by decide +kernel)
theorem L_Rows_76 : (Jvm.Cond.methodLink "MailQueries$Rows" (76 : Nat) ({ cls := "MailQueries$Query", name := "entryAt", desc := "(I)I" } : Jvm.MethodName)) ∈ TBL := TBL_in (List.mem_of_getElem? (i := 577) (by decide +kernel)) (by decide +kernel)
theorem L_Rows_95 : (Jvm.Cond.methodLink "MailQueries$Rows" (95 : Nat) ({ cls := "MailQueries$Pile", name := "clear", desc := "()V" } : Jvm.MethodName)) ∈ TBL := TBL_in (List.mem_of_getElem? (i := 574) (by decide +kernel)) (by decide +kernel)
set_option maxRecDepth 100000 in
theorem W_Rows_noteWhatIsAsked_code : (Jvm.Cond.code ({ cls := "MailQueries$Rows", name := "noteWhatIsAsked", desc := "(LMailQueries$Query;)V" } : Jvm.MethodName) prog_7_method_5_code (6 : Nat) (Option.none : Option Jvm.ClassFile.FieldType)) ∈ TBL := TBL_in (List.mem_of_getElem? (i := 573) rfl) rfl
theorem W_Rows_noteWhatIsAsked_in : (Jvm.Cond.instanceMethod ({ cls := "MailQueries$Rows", name := "noteWhatIsAsked", desc := "(LMailQueries$Query;)V" } : Jvm.MethodName)) ∈ TBL := TBL_in (List.mem_of_getElem? (i := 572) (by decide +kernel)) (by decide +kernel)
theorem sel_8 : Cond.selects "MailQueries$Rows" ⟨"MailQueries$Rows", "noteWhatIsAsked", "(LMailQueries$Query;)V"⟩ ⟨"MailQueries$Rows", "noteWhatIsAsked", "(LMailQueries$Query;)V"⟩ ∈ TBL := TBL_in (List.mem_of_getElem? (i := 8) (by decide +kernel)) (by decide +kernel)
theorem L_Rows_70 : (Jvm.Cond.methodLink "MailQueries$Rows" (70 : Nat) ({ cls := "java/lang/Math", name := "min", desc := "(II)I" } : Jvm.MethodName)) ∈ TBL := TBL_in (List.mem_of_getElem? (i := 563) (by decide +kernel)) (by decide +kernel)
theorem L_Rows_86 : (Jvm.Cond.methodLink "MailQueries$Rows" (86 : Nat) ({ cls := "java/lang/Math", name := "max", desc := "(II)I" } : Jvm.MethodName)) ∈ TBL := TBL_in (List.mem_of_getElem? (i := 566) (by decide +kernel)) (by decide +kernel)
set_option maxRecDepth 100000 in
theorem W_Rows_keepRows_code : (Jvm.Cond.code ({ cls := "MailQueries$Rows", name := "keepRows", desc := "(I)I" } : Jvm.MethodName) prog_7_method_4_code (2 : Nat) (Option.some Jvm.ClassFile.FieldType.int)) ∈ TBL := TBL_in (List.mem_of_getElem? (i := 562) rfl) rfl
theorem W_Rows_keepRows_in : (Jvm.Cond.instanceMethod ({ cls := "MailQueries$Rows", name := "keepRows", desc := "(I)I" } : Jvm.MethodName)) ∈ TBL := TBL_in (List.mem_of_getElem? (i := 561) (by decide +kernel)) (by decide +kernel)
theorem sel_7 : Cond.selects "MailQueries$Rows" ⟨"MailQueries$Rows", "keepRows", "(I)I"⟩ ⟨"MailQueries$Rows", "keepRows", "(I)I"⟩ ∈ TBL := TBL_in (List.mem_of_getElem? (i := 7) (by decide +kernel)) (by decide +kernel)
theorem L_Rows_62 : (Jvm.Cond.methodLink "MailQueries$Rows" (62 : Nat) ({ cls := "MailQueries$Rows", name := "keepRows", desc := "(I)I" } : Jvm.MethodName)) ∈ TBL := TBL_in (List.mem_of_getElem? (i := 559) (by decide +kernel)) (by decide +kernel)
theorem L_Rows_79 : (Jvm.Cond.methodLink "MailQueries$Rows" (79 : Nat) ({ cls := "MailQueries$Rows", name := "makeSet", desc := "(II)Z" } : Jvm.MethodName)) ∈ TBL := TBL_in (List.mem_of_getElem? (i := 579) (by decide +kernel)) (by decide +kernel)
theorem L_Rows_66 : (Jvm.Cond.methodLink "MailQueries$Rows" (66 : Nat) ({ cls := "MailQueries$Rows", name := "noteWhatIsAsked", desc := "(LMailQueries$Query;)V" } : Jvm.MethodName)) ∈ TBL := TBL_in (List.mem_of_getElem? (i := 570) (by decide +kernel)) (by decide +kernel)
set_option maxRecDepth 100000 in
theorem W_Rows_make_code : (Jvm.Cond.code ({ cls := "MailQueries$Rows", name := "make", desc := "(LMailQueries$Query;)I" } : Jvm.MethodName) prog_7_method_3_code (3 : Nat) (Option.some Jvm.ClassFile.FieldType.int)) ∈ TBL := TBL_in (List.mem_of_getElem? (i := 554) rfl) rfl
theorem W_Rows_make_in : (Jvm.Cond.instanceMethod ({ cls := "MailQueries$Rows", name := "make", desc := "(LMailQueries$Query;)I" } : Jvm.MethodName)) ∈ TBL := TBL_in (List.mem_of_getElem? (i := 552) (by decide +kernel)) (by decide +kernel)
theorem W_Rows_make_se : (Jvm.Cond.selects "MailQueries$Rows" ({ cls := "MailQueries$Rows", name := "make", desc := "(LMailQueries$Query;)I" } : Jvm.MethodName) ({ cls := "MailQueries$Rows", name := "make", desc := "(LMailQueries$Query;)I" } : Jvm.MethodName)) ∈ TBL := TBL_in (List.mem_of_getElem? (i := 553) (by decide +kernel)) (by decide +kernel)
def y_Rows_joinAsIs : MethodName := ⟨"MailQueries$Rows", "joinAsIs", "(I)Z"⟩
def rm_Rows_joinAsIs : Room := { frames := 4, cells := 0, slots := 0, locals := 110 }
theorem d_Rows_joinAsIs_0 : decode prog_7_method_7_code 0 = .ok (.iload_n 1, 1) := by decide +kernel
theorem d_Rows_joinAsIs_1 : decode prog_7_method_7_code 1 = .ok (.bipush (-5), 2) := by decide +kernel
theorem d_Rows_joinAsIs_3 : decode prog_7_method_7_code 3 = .ok (.if_icmp .ne 12, 3) := by decide +kernel
theorem d_Rows_joinAsIs_6 : decode prog_7_method_7_code 6 = .ok (.aload_n 0, 1) := by decide +kernel
theorem d_Rows_joinAsIs_7 : decode prog_7_method_7_code 7 = .ok (.iconst 1, 1) := by decide +kernel
theorem d_Rows_joinAsIs_8 : decode prog_7_method_7_code 8 = .ok (.iconst 2, 1) := by decide +kernel
theorem d_Rows_joinAsIs_9 : decode prog_7_method_7_code 9 = .ok (.iconst 2, 1) := by decide +kernel
theorem d_Rows_joinAsIs_10 : decode prog_7_method_7_code 10 = .ok (.iconst 1, 1) := by decide +kernel
theorem d_Rows_joinAsIs_11 : decode prog_7_method_7_code 11 = .ok (.invokevirtual 122, 3) := by decide +kernel
theorem d_Rows_joinAsIs_14 : decode prog_7_method_7_code 14 = .ok (.ireturn, 1) := by decide +kernel
theorem d_Rows_joinAsIs_15 : decode prog_7_method_7_code 15 = .ok (.iload_n 1, 1) := by decide +kernel
theorem d_Rows_joinAsIs_16 : decode prog_7_method_7_code 16 = .ok (.bipush (-4), 2) := by decide +kernel
theorem d_Rows_joinAsIs_18 : decode prog_7_method_7_code 18 = .ok (.if_icmp .ne 11, 3) := by decide +kernel
theorem d_Rows_joinAsIs_21 : decode prog_7_method_7_code 21 = .ok (.aload_n 0, 1) := by decide +kernel
theorem d_Rows_joinAsIs_22 : decode prog_7_method_7_code 22 = .ok (.iconst 1, 1) := by decide +kernel
theorem d_Rows_joinAsIs_23 : decode prog_7_method_7_code 23 = .ok (.invokevirtual 126, 3) := by decide +kernel
theorem d_Rows_joinAsIs_26 : decode prog_7_method_7_code 26 = .ok (.goto 9, 3) := by decide +kernel
theorem d_Rows_joinAsIs_29 : decode prog_7_method_7_code 29 = .ok (.aload_n 0, 1) := by decide +kernel
theorem d_Rows_joinAsIs_30 : decode prog_7_method_7_code 30 = .ok (.iconst 1, 1) := by decide +kernel
theorem d_Rows_joinAsIs_31 : decode prog_7_method_7_code 31 = .ok (.iconst 1, 1) := by decide +kernel
theorem d_Rows_joinAsIs_32 : decode prog_7_method_7_code 32 = .ok (.invokevirtual 129, 3) := by decide +kernel
theorem d_Rows_joinAsIs_35 : decode prog_7_method_7_code 35 = .ok (.ireturn, 1) := by decide +kernel
def y_Rows_joinTurned : MethodName := ⟨"MailQueries$Rows", "joinTurned", "(I)Z"⟩
def rm_Rows_joinTurned : Room := { frames := 4, cells := 0, slots := 0, locals := 110 }
theorem d_Rows_joinTurned_0 : decode prog_7_method_8_code 0 = .ok (.iload_n 1, 1) := by decide +kernel
theorem d_Rows_joinTurned_1 : decode prog_7_method_8_code 1 = .ok (.bipush (-5), 2) := by decide +kernel
theorem d_Rows_joinTurned_3 : decode prog_7_method_8_code 3 = .ok (.if_icmp .ne 12, 3) := by decide +kernel
theorem d_Rows_joinTurned_6 : decode prog_7_method_8_code 6 = .ok (.aload_n 0, 1) := by decide +kernel
theorem d_Rows_joinTurned_7 : decode prog_7_method_8_code 7 = .ok (.iconst 1, 1) := by decide +kernel
theorem d_Rows_joinTurned_8 : decode prog_7_method_8_code 8 = .ok (.iconst 1, 1) := by decide +kernel
theorem d_Rows_joinTurned_9 : decode prog_7_method_8_code 9 = .ok (.iconst 2, 1) := by decide +kernel
theorem d_Rows_joinTurned_10 : decode prog_7_method_8_code 10 = .ok (.iconst 2, 1) := by decide +kernel
theorem d_Rows_joinTurned_11 : decode prog_7_method_8_code 11 = .ok (.invokevirtual 122, 3) := by decide +kernel
theorem d_Rows_joinTurned_14 : decode prog_7_method_8_code 14 = .ok (.ireturn, 1) := by decide +kernel
theorem d_Rows_joinTurned_15 : decode prog_7_method_8_code 15 = .ok (.iload_n 1, 1) := by decide +kernel
theorem d_Rows_joinTurned_16 : decode prog_7_method_8_code 16 = .ok (.bipush (-4), 2) := by decide +kernel
theorem d_Rows_joinTurned_18 : decode prog_7_method_8_code 18 = .ok (.if_icmp .ne 12, 3) := by decide +kernel
theorem d_Rows_joinTurned_21 : decode prog_7_method_8_code 21 = .ok (.aload_n 0, 1) := by decide +kernel
theorem d_Rows_joinTurned_22 : decode prog_7_method_8_code 22 = .ok (.iconst 2, 1) := by decide +kernel
theorem d_Rows_joinTurned_23 : decode prog_7_method_8_code 23 = .ok (.iconst 2, 1) := by decide +kernel
theorem d_Rows_joinTurned_24 : decode prog_7_method_8_code 24 = .ok (.invokevirtual 129, 3) := by decide +kernel
theorem d_Rows_joinTurned_27 : decode prog_7_method_8_code 27 = .ok (.goto 8, 3) := by decide +kernel
theorem d_Rows_joinTurned_30 : decode prog_7_method_8_code 30 = .ok (.aload_n 0, 1) := by decide +kernel
theorem d_Rows_joinTurned_31 : decode prog_7_method_8_code 31 = .ok (.iconst 2, 1) := by decide +kernel
theorem d_Rows_joinTurned_32 : decode prog_7_method_8_code 32 = .ok (.invokevirtual 126, 3) := by decide +kernel
theorem d_Rows_joinTurned_35 : decode prog_7_method_8_code 35 = .ok (.ireturn, 1) := by decide +kernel
def y_Rows_replaceSets : MethodName := ⟨"MailQueries$Rows", "replaceSets", "(III)Z"⟩
def rm_Rows_replaceSets : Room := { frames := 1, cells := 0, slots := 0, locals := 40 }
theorem d_Rows_replaceSets_0 : decode prog_7_method_18_code 0 = .ok (.aload_n 0, 1) := by decide +kernel
theorem d_Rows_replaceSets_1 : decode prog_7_method_18_code 1 = .ok (.getfield 29, 3) := by decide +kernel
theorem d_Rows_replaceSets_4 : decode prog_7_method_18_code 4 = .ok (.iload_n 1, 1) := by decide +kernel
theorem d_Rows_replaceSets_5 : decode prog_7_method_18_code 5 = .ok (.isub, 1) := by decide +kernel
theorem d_Rows_replaceSets_6 : decode prog_7_method_18_code 6 = .ok (.istore 4, 2) := by decide +kernel
theorem d_Rows_replaceSets_8 : decode prog_7_method_18_code 8 = .ok (.iload 4, 2) := by decide +kernel
theorem d_Rows_replaceSets_10 : decode prog_7_method_18_code 10 = .ok (.ifCond .lt 18, 3) := by decide +kernel
theorem d_Rows_replaceSets_13 : decode prog_7_method_18_code 13 = .ok (.iload 4, 2) := by decide +kernel
theorem d_Rows_replaceSets_15 : decode prog_7_method_18_code 15 = .ok (.bipush 40, 2) := by decide +kernel
theorem d_Rows_replaceSets_17 : decode prog_7_method_18_code 17 = .ok (.if_icmp .ge 11, 3) := by decide +kernel
theorem d_Rows_replaceSets_20 : decode prog_7_method_18_code 20 = .ok (.aload_n 0, 1) := by decide +kernel
theorem d_Rows_replaceSets_21 : decode prog_7_method_18_code 21 = .ok (.getfield 18, 3) := by decide +kernel
theorem d_Rows_replaceSets_24 : decode prog_7_method_18_code 24 = .ok (.iload_n 2, 1) := by decide +kernel
theorem d_Rows_replaceSets_25 : decode prog_7_method_18_code 25 = .ok (.if_icmp .ge 5, 3) := by decide +kernel
theorem d_Rows_replaceSets_28 : decode prog_7_method_18_code 28 = .ok (.iconst 0, 1) := by decide +kernel
theorem d_Rows_replaceSets_29 : decode prog_7_method_18_code 29 = .ok (.ireturn, 1) := by decide +kernel
theorem d_Rows_replaceSets_30 : decode prog_7_method_18_code 30 = .ok (.iload_n 1, 1) := by decide +kernel
theorem d_Rows_replaceSets_31 : decode prog_7_method_18_code 31 = .ok (.ifCond .le 13, 3) := by decide +kernel
theorem d_Rows_replaceSets_34 : decode prog_7_method_18_code 34 = .ok (.aload_n 0, 1) := by decide +kernel
theorem d_Rows_replaceSets_35 : decode prog_7_method_18_code 35 = .ok (.getfield 22, 3) := by decide +kernel
theorem d_Rows_replaceSets_38 : decode prog_7_method_18_code 38 = .ok (.iload 4, 2) := by decide +kernel
theorem d_Rows_replaceSets_40 : decode prog_7_method_18_code 40 = .ok (.iaload, 1) := by decide +kernel
theorem d_Rows_replaceSets_41 : decode prog_7_method_18_code 41 = .ok (.goto 4, 3) := by decide +kernel
theorem d_Rows_replaceSets_44 : decode prog_7_method_18_code 44 = .ok (.iload_n 2, 1) := by decide +kernel
theorem d_Rows_replaceSets_45 : decode prog_7_method_18_code 45 = .ok (.istore 5, 2) := by decide +kernel
theorem d_Rows_replaceSets_47 : decode prog_7_method_18_code 47 = .ok (.aload_n 0, 1) := by decide +kernel
theorem d_Rows_replaceSets_48 : decode prog_7_method_18_code 48 = .ok (.getfield 11, 3) := by decide +kernel
theorem d_Rows_replaceSets_51 : decode prog_7_method_18_code 51 = .ok (.iload_n 2, 1) := by decide +kernel
theorem d_Rows_replaceSets_52 : decode prog_7_method_18_code 52 = .ok (.aload_n 0, 1) := by decide +kernel
theorem d_Rows_replaceSets_53 : decode prog_7_method_18_code 53 = .ok (.getfield 11, 3) := by decide +kernel
theorem d_Rows_replaceSets_56 : decode prog_7_method_18_code 56 = .ok (.iload 5, 2) := by decide +kernel
theorem d_Rows_replaceSets_58 : decode prog_7_method_18_code 58 = .ok (.aload_n 0, 1) := by decide +kernel
theorem d_Rows_replaceSets_59 : decode prog_7_method_18_code 59 = .ok (.getfield 18, 3) := by decide +kernel
theorem d_Rows_replaceSets_62 : decode prog_7_method_18_code 62 = .ok (.iload_n 2, 1) := by decide +kernel
theorem d_Rows_replaceSets_63 : decode prog_7_method_18_code 63 = .ok (.isub, 1) := by decide +kernel
theorem d_Rows_replaceSets_64 : decode prog_7_method_18_code 64 = .ok (.invokestatic 89, 3) := by decide +kernel
theorem d_Rows_replaceSets_67 : decode prog_7_method_18_code 67 = .ok (.aload_n 0, 1) := by decide +kernel
theorem d_Rows_replaceSets_68 : decode prog_7_method_18_code 68 = .ok (.getfield 15, 3) := by decide +kernel
theorem d_Rows_replaceSets_71 : decode prog_7_method_18_code 71 = .ok (.iload_n 2, 1) := by decide +kernel
theorem d_Rows_replaceSets_72 : decode prog_7_method_18_code 72 = .ok (.aload_n 0, 1) := by decide +kernel
theorem d_Rows_replaceSets_73 : decode prog_7_method_18_code 73 = .ok (.getfield 15, 3) := by decide +kernel
theorem d_Rows_replaceSets_76 : decode prog_7_method_18_code 76 = .ok (.iload 5, 2) := by decide +kernel
theorem d_Rows_replaceSets_78 : decode prog_7_method_18_code 78 = .ok (.aload_n 0, 1) := by decide +kernel
theorem d_Rows_replaceSets_79 : decode prog_7_method_18_code 79 = .ok (.getfield 18, 3) := by decide +kernel
theorem d_Rows_replaceSets_82 : decode prog_7_method_18_code 82 = .ok (.iload_n 2, 1) := by decide +kernel
theorem d_Rows_replaceSets_83 : decode prog_7_method_18_code 83 = .ok (.isub, 1) := by decide +kernel
theorem d_Rows_replaceSets_84 : decode prog_7_method_18_code 84 = .ok (.invokestatic 89, 3) := by decide +kernel
theorem d_Rows_replaceSets_87 : decode prog_7_method_18_code 87 = .ok (.aload_n 0, 1) := by decide +kernel
theorem d_Rows_replaceSets_88 : decode prog_7_method_18_code 88 = .ok (.getfield 22, 3) := by decide +kernel
theorem d_Rows_replaceSets_91 : decode prog_7_method_18_code 91 = .ok (.iload 4, 2) := by decide +kernel
theorem d_Rows_replaceSets_93 : decode prog_7_method_18_code 93 = .ok (.iload 5, 2) := by decide +kernel
theorem d_Rows_replaceSets_95 : decode prog_7_method_18_code 95 = .ok (.iastore, 1) := by decide +kernel
theorem d_Rows_replaceSets_96 : decode prog_7_method_18_code 96 = .ok (.aload_n 0, 1) := by decide +kernel
theorem d_Rows_replaceSets_97 : decode prog_7_method_18_code 97 = .ok (.getfield 26, 3) := by decide +kernel
theorem d_Rows_replaceSets_100 : decode prog_7_method_18_code 100 = .ok (.iload 4, 2) := by decide +kernel
theorem d_Rows_replaceSets_102 : decode prog_7_method_18_code 102 = .ok (.iload 5, 2) := by decide +kernel
theorem d_Rows_replaceSets_104 : decode prog_7_method_18_code 104 = .ok (.iload_n 3, 1) := by decide +kernel
theorem d_Rows_replaceSets_105 : decode prog_7_method_18_code 105 = .ok (.iadd, 1) := by decide +kernel
theorem d_Rows_replaceSets_106 : decode prog_7_method_18_code 106 = .ok (.iload_n 2, 1) := by decide +kernel
theorem d_Rows_replaceSets_107 : decode prog_7_method_18_code 107 = .ok (.isub, 1) := by decide +kernel
theorem d_Rows_replaceSets_108 : decode prog_7_method_18_code 108 = .ok (.iastore, 1) := by decide +kernel
theorem d_Rows_replaceSets_109 : decode prog_7_method_18_code 109 = .ok (.aload_n 0, 1) := by decide +kernel
theorem d_Rows_replaceSets_110 : decode prog_7_method_18_code 110 = .ok (.iload 5, 2) := by decide +kernel
theorem d_Rows_replaceSets_112 : decode prog_7_method_18_code 112 = .ok (.aload_n 0, 1) := by decide +kernel
theorem d_Rows_replaceSets_113 : decode prog_7_method_18_code 113 = .ok (.getfield 18, 3) := by decide +kernel
theorem d_Rows_replaceSets_116 : decode prog_7_method_18_code 116 = .ok (.iadd, 1) := by decide +kernel
theorem d_Rows_replaceSets_117 : decode prog_7_method_18_code 117 = .ok (.iload_n 2, 1) := by decide +kernel
theorem d_Rows_replaceSets_118 : decode prog_7_method_18_code 118 = .ok (.isub, 1) := by decide +kernel
theorem d_Rows_replaceSets_119 : decode prog_7_method_18_code 119 = .ok (.putfield 18, 3) := by decide +kernel
theorem d_Rows_replaceSets_122 : decode prog_7_method_18_code 122 = .ok (.aload_n 0, 1) := by decide +kernel
theorem d_Rows_replaceSets_123 : decode prog_7_method_18_code 123 = .ok (.iload 4, 2) := by decide +kernel
theorem d_Rows_replaceSets_125 : decode prog_7_method_18_code 125 = .ok (.iconst 1, 1) := by decide +kernel
theorem d_Rows_replaceSets_126 : decode prog_7_method_18_code 126 = .ok (.iadd, 1) := by decide +kernel
theorem d_Rows_replaceSets_127 : decode prog_7_method_18_code 127 = .ok (.putfield 29, 3) := by decide +kernel
theorem d_Rows_replaceSets_130 : decode prog_7_method_18_code 130 = .ok (.aload_n 0, 1) := by decide +kernel
theorem d_Rows_replaceSets_131 : decode prog_7_method_18_code 131 = .ok (.getfield 22, 3) := by decide +kernel
theorem d_Rows_replaceSets_134 : decode prog_7_method_18_code 134 = .ok (.aload_n 0, 1) := by decide +kernel
theorem d_Rows_replaceSets_135 : decode prog_7_method_18_code 135 = .ok (.getfield 29, 3) := by decide +kernel
theorem d_Rows_replaceSets_138 : decode prog_7_method_18_code 138 = .ok (.aload_n 0, 1) := by decide +kernel
theorem d_Rows_replaceSets_139 : decode prog_7_method_18_code 139 = .ok (.getfield 18, 3) := by decide +kernel
theorem d_Rows_replaceSets_142 : decode prog_7_method_18_code 142 = .ok (.iastore, 1) := by decide +kernel
theorem d_Rows_replaceSets_143 : decode prog_7_method_18_code 143 = .ok (.iconst 1, 1) := by decide +kernel
theorem d_Rows_replaceSets_144 : decode prog_7_method_18_code 144 = .ok (.ireturn, 1) := by decide +kernel
def y_Rows_makeSet : MethodName := ⟨"MailQueries$Rows", "makeSet", "(II)Z"⟩
def rm_Rows_makeSet : Room := { frames := 5, cells := 0, slots := 0, locals := 131 }
theorem d_Rows_makeSet_0 : decode prog_7_method_6_code 0 = .ok (.aload_n 0, 1) := by decide +kernel
theorem d_Rows_makeSet_1 : decode prog_7_method_6_code 1 = .ok (.getfield 18, 3) := by decide +kernel
theorem d_Rows_makeSet_4 : decode prog_7_method_6_code 4 = .ok (.istore_n 3, 1) := by decide +kernel
theorem d_Rows_makeSet_5 : decode prog_7_method_6_code 5 = .ok (.iload_n 1, 1) := by decide +kernel
theorem d_Rows_makeSet_6 : decode prog_7_method_6_code 6 = .ok (.ifCond .lt 87, 3) := by decide +kernel
theorem d_Rows_makeSet_9 : decode prog_7_method_6_code 9 = .ok (.iload_n 2, 1) := by decide +kernel
theorem d_Rows_makeSet_10 : decode prog_7_method_6_code 10 = .ok (.iconst 1, 1) := by decide +kernel
theorem d_Rows_makeSet_11 : decode prog_7_method_6_code 11 = .ok (.iand, 1) := by decide +kernel
theorem d_Rows_makeSet_12 : decode prog_7_method_6_code 12 = .ok (.ifCond .eq 15, 3) := by decide +kernel
theorem d_Rows_makeSet_15 : decode prog_7_method_6_code 15 = .ok (.aload_n 0, 1) := by decide +kernel
theorem d_Rows_makeSet_16 : decode prog_7_method_6_code 16 = .ok (.iload_n 3, 1) := by decide +kernel
theorem d_Rows_makeSet_17 : decode prog_7_method_6_code 17 = .ok (.lconst 1, 1) := by decide +kernel
theorem d_Rows_makeSet_18 : decode prog_7_method_6_code 18 = .ok (.iload_n 1, 1) := by decide +kernel
theorem d_Rows_makeSet_19 : decode prog_7_method_6_code 19 = .ok (.lshl, 1) := by decide +kernel
theorem d_Rows_makeSet_20 : decode prog_7_method_6_code 20 = .ok (.lconst 0, 1) := by decide +kernel
theorem d_Rows_makeSet_21 : decode prog_7_method_6_code 21 = .ok (.invokevirtual 58, 3) := by decide +kernel
theorem d_Rows_makeSet_24 : decode prog_7_method_6_code 24 = .ok (.ifCond .eq 7, 3) := by decide +kernel
theorem d_Rows_makeSet_27 : decode prog_7_method_6_code 27 = .ok (.iconst 1, 1) := by decide +kernel
theorem d_Rows_makeSet_28 : decode prog_7_method_6_code 28 = .ok (.goto 4, 3) := by decide +kernel
theorem d_Rows_makeSet_31 : decode prog_7_method_6_code 31 = .ok (.iconst 0, 1) := by decide +kernel
theorem d_Rows_makeSet_32 : decode prog_7_method_6_code 32 = .ok (.istore 4, 2) := by decide +kernel
theorem d_Rows_makeSet_34 : decode prog_7_method_6_code 34 = .ok (.aload_n 0, 1) := by decide +kernel
theorem d_Rows_makeSet_35 : decode prog_7_method_6_code 35 = .ok (.getfield 18, 3) := by decide +kernel
theorem d_Rows_makeSet_38 : decode prog_7_method_6_code 38 = .ok (.istore 5, 2) := by decide +kernel
theorem d_Rows_makeSet_40 : decode prog_7_method_6_code 40 = .ok (.iload 4, 2) := by decide +kernel
theorem d_Rows_makeSet_42 : decode prog_7_method_6_code 42 = .ok (.ifCond .eq 26, 3) := by decide +kernel
theorem d_Rows_makeSet_45 : decode prog_7_method_6_code 45 = .ok (.iload_n 2, 1) := by decide +kernel
theorem d_Rows_makeSet_46 : decode prog_7_method_6_code 46 = .ok (.iconst 2, 1) := by decide +kernel
theorem d_Rows_makeSet_47 : decode prog_7_method_6_code 47 = .ok (.iand, 1) := by decide +kernel
theorem d_Rows_makeSet_48 : decode prog_7_method_6_code 48 = .ok (.ifCond .eq 16, 3) := by decide +kernel
theorem d_Rows_makeSet_51 : decode prog_7_method_6_code 51 = .ok (.aload_n 0, 1) := by decide +kernel
theorem d_Rows_makeSet_52 : decode prog_7_method_6_code 52 = .ok (.iload 5, 2) := by decide +kernel
theorem d_Rows_makeSet_54 : decode prog_7_method_6_code 54 = .ok (.lconst 0, 1) := by decide +kernel
theorem d_Rows_makeSet_55 : decode prog_7_method_6_code 55 = .ok (.lconst 1, 1) := by decide +kernel
theorem d_Rows_makeSet_56 : decode prog_7_method_6_code 56 = .ok (.iload_n 1, 1) := by decide +kernel
theorem d_Rows_makeSet_57 : decode prog_7_method_6_code 57 = .ok (.lshl, 1) := by decide +kernel
theorem d_Rows_makeSet_58 : decode prog_7_method_6_code 58 = .ok (.invokevirtual 58, 3) := by decide +kernel
theorem d_Rows_makeSet_61 : decode prog_7_method_6_code 61 = .ok (.ifCond .eq 7, 3) := by decide +kernel
theorem d_Rows_makeSet_64 : decode prog_7_method_6_code 64 = .ok (.iconst 1, 1) := by decide +kernel
theorem d_Rows_makeSet_65 : decode prog_7_method_6_code 65 = .ok (.goto 4, 3) := by decide +kernel
theorem d_Rows_makeSet_68 : decode prog_7_method_6_code 68 = .ok (.iconst 0, 1) := by decide +kernel
theorem d_Rows_makeSet_69 : decode prog_7_method_6_code 69 = .ok (.istore 4, 2) := by decide +kernel
theorem d_Rows_makeSet_71 : decode prog_7_method_6_code 71 = .ok (.iload 4, 2) := by decide +kernel
theorem d_Rows_makeSet_73 : decode prog_7_method_6_code 73 = .ok (.ifCond .eq 18, 3) := by decide +kernel
theorem d_Rows_makeSet_76 : decode prog_7_method_6_code 76 = .ok (.aload_n 0, 1) := by decide +kernel
theorem d_Rows_makeSet_77 : decode prog_7_method_6_code 77 = .ok (.iconst 0, 1) := by decide +kernel
theorem d_Rows_makeSet_78 : decode prog_7_method_6_code 78 = .ok (.iload_n 3, 1) := by decide +kernel
theorem d_Rows_makeSet_79 : decode prog_7_method_6_code 79 = .ok (.iload 5, 2) := by decide +kernel
theorem d_Rows_makeSet_81 : decode prog_7_method_6_code 81 = .ok (.invokevirtual 108, 3) := by decide +kernel
theorem d_Rows_makeSet_84 : decode prog_7_method_6_code 84 = .ok (.ifCond .eq 7, 3) := by decide +kernel
theorem d_Rows_makeSet_87 : decode prog_7_method_6_code 87 = .ok (.iconst 1, 1) := by decide +kernel
theorem d_Rows_makeSet_88 : decode prog_7_method_6_code 88 = .ok (.goto 4, 3) := by decide +kernel
theorem d_Rows_makeSet_91 : decode prog_7_method_6_code 91 = .ok (.iconst 0, 1) := by decide +kernel
theorem d_Rows_makeSet_92 : decode prog_7_method_6_code 92 = .ok (.ireturn, 1) := by decide +kernel
theorem d_Rows_makeSet_93 : decode prog_7_method_6_code 93 = .ok (.iload_n 1, 1) := by decide +kernel
theorem d_Rows_makeSet_94 : decode prog_7_method_6_code 94 = .ok (.bipush (-2), 2) := by decide +kernel
theorem d_Rows_makeSet_96 : decode prog_7_method_6_code 96 = .ok (.if_icmp .ne 61, 3) := by decide +kernel
theorem d_Rows_makeSet_99 : decode prog_7_method_6_code 99 = .ok (.aload_n 0, 1) := by decide +kernel
theorem d_Rows_makeSet_100 : decode prog_7_method_6_code 100 = .ok (.iload_n 3, 1) := by decide +kernel
theorem d_Rows_makeSet_101 : decode prog_7_method_6_code 101 = .ok (.aload_n 0, 1) := by decide +kernel
theorem d_Rows_makeSet_102 : decode prog_7_method_6_code 102 = .ok (.getfield 29, 3) := by decide +kernel
theorem d_Rows_makeSet_105 : decode prog_7_method_6_code 105 = .ok (.iconst 1, 1) := by decide +kernel
theorem d_Rows_makeSet_106 : decode prog_7_method_6_code 106 = .ok (.isub, 1) := by decide +kernel
theorem d_Rows_makeSet_107 : decode prog_7_method_6_code 107 = .ok (.iconst 2, 1) := by decide +kernel
theorem d_Rows_makeSet_108 : decode prog_7_method_6_code 108 = .ok (.invokevirtual 112, 3) := by decide +kernel
theorem d_Rows_makeSet_111 : decode prog_7_method_6_code 111 = .ok (.istore 4, 2) := by decide +kernel
theorem d_Rows_makeSet_113 : decode prog_7_method_6_code 113 = .ok (.aload_n 0, 1) := by decide +kernel
theorem d_Rows_makeSet_114 : decode prog_7_method_6_code 114 = .ok (.getfield 18, 3) := by decide +kernel
theorem d_Rows_makeSet_117 : decode prog_7_method_6_code 117 = .ok (.istore 5, 2) := by decide +kernel
theorem d_Rows_makeSet_119 : decode prog_7_method_6_code 119 = .ok (.iload 4, 2) := by decide +kernel
theorem d_Rows_makeSet_121 : decode prog_7_method_6_code 121 = .ok (.ifCond .eq 34, 3) := by decide +kernel
theorem d_Rows_makeSet_124 : decode prog_7_method_6_code 124 = .ok (.aload_n 0, 1) := by decide +kernel
theorem d_Rows_makeSet_125 : decode prog_7_method_6_code 125 = .ok (.iload 5, 2) := by decide +kernel
theorem d_Rows_makeSet_127 : decode prog_7_method_6_code 127 = .ok (.aload_n 0, 1) := by decide +kernel
theorem d_Rows_makeSet_128 : decode prog_7_method_6_code 128 = .ok (.getfield 29, 3) := by decide +kernel
theorem d_Rows_makeSet_131 : decode prog_7_method_6_code 131 = .ok (.iconst 1, 1) := by decide +kernel
theorem d_Rows_makeSet_132 : decode prog_7_method_6_code 132 = .ok (.isub, 1) := by decide +kernel
theorem d_Rows_makeSet_133 : decode prog_7_method_6_code 133 = .ok (.iconst 1, 1) := by decide +kernel
theorem d_Rows_makeSet_134 : decode prog_7_method_6_code 134 = .ok (.invokevirtual 112, 3) := by decide +kernel
theorem d_Rows_makeSet_137 : decode prog_7_method_6_code 137 = .ok (.ifCond .eq 18, 3) := by decide +kernel
theorem d_Rows_makeSet_140 : decode prog_7_method_6_code 140 = .ok (.aload_n 0, 1) := by decide +kernel
theorem d_Rows_makeSet_141 : decode prog_7_method_6_code 141 = .ok (.iconst 1, 1) := by decide +kernel
theorem d_Rows_makeSet_142 : decode prog_7_method_6_code 142 = .ok (.iload_n 3, 1) := by decide +kernel
theorem d_Rows_makeSet_143 : decode prog_7_method_6_code 143 = .ok (.iload 5, 2) := by decide +kernel
theorem d_Rows_makeSet_145 : decode prog_7_method_6_code 145 = .ok (.invokevirtual 108, 3) := by decide +kernel
theorem d_Rows_makeSet_148 : decode prog_7_method_6_code 148 = .ok (.ifCond .eq 7, 3) := by decide +kernel
theorem d_Rows_makeSet_151 : decode prog_7_method_6_code 151 = .ok (.iconst 1, 1) := by decide +kernel
theorem d_Rows_makeSet_152 : decode prog_7_method_6_code 152 = .ok (.goto 4, 3) := by decide +kernel
theorem d_Rows_makeSet_155 : decode prog_7_method_6_code 155 = .ok (.iconst 0, 1) := by decide +kernel
theorem d_Rows_makeSet_156 : decode prog_7_method_6_code 156 = .ok (.ireturn, 1) := by decide +kernel
theorem d_Rows_makeSet_157 : decode prog_7_method_6_code 157 = .ok (.iload_n 2, 1) := by decide +kernel
theorem d_Rows_makeSet_158 : decode prog_7_method_6_code 158 = .ok (.iconst 1, 1) := by decide +kernel
theorem d_Rows_makeSet_159 : decode prog_7_method_6_code 159 = .ok (.iand, 1) := by decide +kernel
theorem d_Rows_makeSet_160 : decode prog_7_method_6_code 160 = .ok (.ifCond .eq 11, 3) := by decide +kernel
theorem d_Rows_makeSet_163 : decode prog_7_method_6_code 163 = .ok (.aload_n 0, 1) := by decide +kernel
theorem d_Rows_makeSet_164 : decode prog_7_method_6_code 164 = .ok (.iload_n 1, 1) := by decide +kernel
theorem d_Rows_makeSet_165 : decode prog_7_method_6_code 165 = .ok (.invokevirtual 115, 3) := by decide +kernel
theorem d_Rows_makeSet_168 : decode prog_7_method_6_code 168 = .ok (.ifCond .eq 7, 3) := by decide +kernel
theorem d_Rows_makeSet_171 : decode prog_7_method_6_code 171 = .ok (.iconst 1, 1) := by decide +kernel
theorem d_Rows_makeSet_172 : decode prog_7_method_6_code 172 = .ok (.goto 4, 3) := by decide +kernel
theorem d_Rows_makeSet_175 : decode prog_7_method_6_code 175 = .ok (.iconst 0, 1) := by decide +kernel
theorem d_Rows_makeSet_176 : decode prog_7_method_6_code 176 = .ok (.istore 4, 2) := by decide +kernel
theorem d_Rows_makeSet_178 : decode prog_7_method_6_code 178 = .ok (.aload_n 0, 1) := by decide +kernel
theorem d_Rows_makeSet_179 : decode prog_7_method_6_code 179 = .ok (.getfield 18, 3) := by decide +kernel
theorem d_Rows_makeSet_182 : decode prog_7_method_6_code 182 = .ok (.istore 5, 2) := by decide +kernel
theorem d_Rows_makeSet_184 : decode prog_7_method_6_code 184 = .ok (.iload 4, 2) := by decide +kernel
theorem d_Rows_makeSet_186 : decode prog_7_method_6_code 186 = .ok (.ifCond .eq 21, 3) := by decide +kernel
theorem d_Rows_makeSet_189 : decode prog_7_method_6_code 189 = .ok (.iload_n 2, 1) := by decide +kernel
theorem d_Rows_makeSet_190 : decode prog_7_method_6_code 190 = .ok (.iconst 2, 1) := by decide +kernel
theorem d_Rows_makeSet_191 : decode prog_7_method_6_code 191 = .ok (.iand, 1) := by decide +kernel
theorem d_Rows_makeSet_192 : decode prog_7_method_6_code 192 = .ok (.ifCond .eq 11, 3) := by decide +kernel
theorem d_Rows_makeSet_195 : decode prog_7_method_6_code 195 = .ok (.aload_n 0, 1) := by decide +kernel
theorem d_Rows_makeSet_196 : decode prog_7_method_6_code 196 = .ok (.iload_n 1, 1) := by decide +kernel
theorem d_Rows_makeSet_197 : decode prog_7_method_6_code 197 = .ok (.invokevirtual 119, 3) := by decide +kernel
theorem d_Rows_makeSet_200 : decode prog_7_method_6_code 200 = .ok (.ifCond .eq 7, 3) := by decide +kernel
theorem d_Rows_makeSet_203 : decode prog_7_method_6_code 203 = .ok (.iconst 1, 1) := by decide +kernel
theorem d_Rows_makeSet_204 : decode prog_7_method_6_code 204 = .ok (.goto 4, 3) := by decide +kernel
theorem d_Rows_makeSet_207 : decode prog_7_method_6_code 207 = .ok (.iconst 0, 1) := by decide +kernel
theorem d_Rows_makeSet_208 : decode prog_7_method_6_code 208 = .ok (.istore 4, 2) := by decide +kernel
theorem d_Rows_makeSet_210 : decode prog_7_method_6_code 210 = .ok (.iload 4, 2) := by decide +kernel
theorem d_Rows_makeSet_212 : decode prog_7_method_6_code 212 = .ok (.ifCond .eq 18, 3) := by decide +kernel
theorem d_Rows_makeSet_215 : decode prog_7_method_6_code 215 = .ok (.aload_n 0, 1) := by decide +kernel
theorem d_Rows_makeSet_216 : decode prog_7_method_6_code 216 = .ok (.iconst 2, 1) := by decide +kernel
theorem d_Rows_makeSet_217 : decode prog_7_method_6_code 217 = .ok (.iload_n 3, 1) := by decide +kernel
theorem d_Rows_makeSet_218 : decode prog_7_method_6_code 218 = .ok (.iload 5, 2) := by decide +kernel
theorem d_Rows_makeSet_220 : decode prog_7_method_6_code 220 = .ok (.invokevirtual 108, 3) := by decide +kernel
theorem d_Rows_makeSet_223 : decode prog_7_method_6_code 223 = .ok (.ifCond .eq 7, 3) := by decide +kernel
theorem d_Rows_makeSet_226 : decode prog_7_method_6_code 226 = .ok (.iconst 1, 1) := by decide +kernel
theorem d_Rows_makeSet_227 : decode prog_7_method_6_code 227 = .ok (.goto 4, 3) := by decide +kernel
theorem d_Rows_makeSet_230 : decode prog_7_method_6_code 230 = .ok (.iconst 0, 1) := by decide +kernel
theorem d_Rows_makeSet_231 : decode prog_7_method_6_code 231 = .ok (.ireturn, 1) := by decide +kernel
def y_Rows_noteWhatIsAsked : MethodName := ⟨"MailQueries$Rows", "noteWhatIsAsked", "(LMailQueries$Query;)V"⟩
def rm_Rows_noteWhatIsAsked : Room := { frames := 1, cells := 0, slots := 0, locals := 22 }
theorem d_Rows_noteWhatIsAsked_0 : decode prog_7_method_5_code 0 = .ok (.aload_n 0, 1) := by decide +kernel
theorem d_Rows_noteWhatIsAsked_1 : decode prog_7_method_5_code 1 = .ok (.getfield 40, 3) := by decide +kernel
theorem d_Rows_noteWhatIsAsked_4 : decode prog_7_method_5_code 4 = .ok (.invokevirtual 95, 3) := by decide +kernel
theorem d_Rows_noteWhatIsAsked_7 : decode prog_7_method_5_code 7 = .ok (.aload_n 0, 1) := by decide +kernel
theorem d_Rows_noteWhatIsAsked_8 : decode prog_7_method_5_code 8 = .ok (.getfield 40, 3) := by decide +kernel
theorem d_Rows_noteWhatIsAsked_11 : decode prog_7_method_5_code 11 = .ok (.lconst 1, 1) := by decide +kernel
theorem d_Rows_noteWhatIsAsked_12 : decode prog_7_method_5_code 12 = .ok (.invokevirtual 98, 3) := by decide +kernel
theorem d_Rows_noteWhatIsAsked_15 : decode prog_7_method_5_code 15 = .ok (.iconst 0, 1) := by decide +kernel
theorem d_Rows_noteWhatIsAsked_16 : decode prog_7_method_5_code 16 = .ok (.istore_n 2, 1) := by decide +kernel
theorem d_Rows_noteWhatIsAsked_17 : decode prog_7_method_5_code 17 = .ok (.iload_n 2, 1) := by decide +kernel
theorem d_Rows_noteWhatIsAsked_18 : decode prog_7_method_5_code 18 = .ok (.aload_n 1, 1) := by decide +kernel
theorem d_Rows_noteWhatIsAsked_19 : decode prog_7_method_5_code 19 = .ok (.getfield 53, 3) := by decide +kernel
theorem d_Rows_noteWhatIsAsked_22 : decode prog_7_method_5_code 22 = .ok (.if_icmp .ge 112, 3) := by decide +kernel
theorem d_Rows_noteWhatIsAsked_25 : decode prog_7_method_5_code 25 = .ok (.iload_n 2, 1) := by decide +kernel
theorem d_Rows_noteWhatIsAsked_26 : decode prog_7_method_5_code 26 = .ok (.aload_n 0, 1) := by decide +kernel
theorem d_Rows_noteWhatIsAsked_27 : decode prog_7_method_5_code 27 = .ok (.getfield 32, 3) := by decide +kernel
theorem d_Rows_noteWhatIsAsked_30 : decode prog_7_method_5_code 30 = .ok (.arraylength, 1) := by decide +kernel
theorem d_Rows_noteWhatIsAsked_31 : decode prog_7_method_5_code 31 = .ok (.if_icmp .ge 103, 3) := by decide +kernel
theorem d_Rows_noteWhatIsAsked_34 : decode prog_7_method_5_code 34 = .ok (.aload_n 0, 1) := by decide +kernel
theorem d_Rows_noteWhatIsAsked_35 : decode prog_7_method_5_code 35 = .ok (.getfield 40, 3) := by decide +kernel
theorem d_Rows_noteWhatIsAsked_38 : decode prog_7_method_5_code 38 = .ok (.invokevirtual 102, 3) := by decide +kernel
theorem d_Rows_noteWhatIsAsked_41 : decode prog_7_method_5_code 41 = .ok (.l2i, 1) := by decide +kernel
theorem d_Rows_noteWhatIsAsked_42 : decode prog_7_method_5_code 42 = .ok (.istore_n 3, 1) := by decide +kernel
theorem d_Rows_noteWhatIsAsked_43 : decode prog_7_method_5_code 43 = .ok (.aload_n 0, 1) := by decide +kernel
theorem d_Rows_noteWhatIsAsked_44 : decode prog_7_method_5_code 44 = .ok (.getfield 32, 3) := by decide +kernel
theorem d_Rows_noteWhatIsAsked_47 : decode prog_7_method_5_code 47 = .ok (.iload_n 2, 1) := by decide +kernel
theorem d_Rows_noteWhatIsAsked_48 : decode prog_7_method_5_code 48 = .ok (.iload_n 3, 1) := by decide +kernel
theorem d_Rows_noteWhatIsAsked_49 : decode prog_7_method_5_code 49 = .ok (.iastore, 1) := by decide +kernel
theorem d_Rows_noteWhatIsAsked_50 : decode prog_7_method_5_code 50 = .ok (.aload_n 1, 1) := by decide +kernel
theorem d_Rows_noteWhatIsAsked_51 : decode prog_7_method_5_code 51 = .ok (.iload_n 2, 1) := by decide +kernel
theorem d_Rows_noteWhatIsAsked_52 : decode prog_7_method_5_code 52 = .ok (.invokevirtual 76, 3) := by decide +kernel
theorem d_Rows_noteWhatIsAsked_55 : decode prog_7_method_5_code 55 = .ok (.istore 4, 2) := by decide +kernel
theorem d_Rows_noteWhatIsAsked_57 : decode prog_7_method_5_code 57 = .ok (.iload 4, 2) := by decide +kernel
theorem d_Rows_noteWhatIsAsked_59 : decode prog_7_method_5_code 59 = .ok (.bipush (-2), 2) := by decide +kernel
theorem d_Rows_noteWhatIsAsked_61 : decode prog_7_method_5_code 61 = .ok (.if_icmp .ne 28, 3) := by decide +kernel
theorem d_Rows_noteWhatIsAsked_64 : decode prog_7_method_5_code 64 = .ok (.aload_n 0, 1) := by decide +kernel
theorem d_Rows_noteWhatIsAsked_65 : decode prog_7_method_5_code 65 = .ok (.getfield 40, 3) := by decide +kernel
theorem d_Rows_noteWhatIsAsked_68 : decode prog_7_method_5_code 68 = .ok (.iload_n 3, 1) := by decide +kernel
theorem d_Rows_noteWhatIsAsked_69 : decode prog_7_method_5_code 69 = .ok (.iconst 3, 1) := by decide +kernel
theorem d_Rows_noteWhatIsAsked_70 : decode prog_7_method_5_code 70 = .ok (.if_icmp .ne 9, 3) := by decide +kernel
theorem d_Rows_noteWhatIsAsked_73 : decode prog_7_method_5_code 73 = .ok (.ldc2_w 106, 3) := by decide +kernel
theorem d_Rows_noteWhatIsAsked_76 : decode prog_7_method_5_code 76 = .ok (.goto 7, 3) := by decide +kernel
theorem d_Rows_noteWhatIsAsked_79 : decode prog_7_method_5_code 79 = .ok (.iconst 3, 1) := by decide +kernel
theorem d_Rows_noteWhatIsAsked_80 : decode prog_7_method_5_code 80 = .ok (.iload_n 3, 1) := by decide +kernel
theorem d_Rows_noteWhatIsAsked_81 : decode prog_7_method_5_code 81 = .ok (.isub, 1) := by decide +kernel
theorem d_Rows_noteWhatIsAsked_82 : decode prog_7_method_5_code 82 = .ok (.i2l, 1) := by decide +kernel
theorem d_Rows_noteWhatIsAsked_83 : decode prog_7_method_5_code 83 = .ok (.invokevirtual 98, 3) := by decide +kernel
theorem d_Rows_noteWhatIsAsked_86 : decode prog_7_method_5_code 86 = .ok (.goto 42, 3) := by decide +kernel
theorem d_Rows_noteWhatIsAsked_89 : decode prog_7_method_5_code 89 = .ok (.iload 4, 2) := by decide +kernel
theorem d_Rows_noteWhatIsAsked_91 : decode prog_7_method_5_code 91 = .ok (.ifCond .ge 37, 3) := by decide +kernel
theorem d_Rows_noteWhatIsAsked_94 : decode prog_7_method_5_code 94 = .ok (.iload 4, 2) := by decide +kernel
theorem d_Rows_noteWhatIsAsked_96 : decode prog_7_method_5_code 96 = .ok (.bipush (-5), 2) := by decide +kernel
theorem d_Rows_noteWhatIsAsked_98 : decode prog_7_method_5_code 98 = .ok (.if_icmp .ne 7, 3) := by decide +kernel
theorem d_Rows_noteWhatIsAsked_101 : decode prog_7_method_5_code 101 = .ok (.iconst 3, 1) := by decide +kernel
theorem d_Rows_noteWhatIsAsked_102 : decode prog_7_method_5_code 102 = .ok (.goto 4, 3) := by decide +kernel
theorem d_Rows_noteWhatIsAsked_105 : decode prog_7_method_5_code 105 = .ok (.iload_n 3, 1) := by decide +kernel
theorem d_Rows_noteWhatIsAsked_106 : decode prog_7_method_5_code 106 = .ok (.istore 5, 2) := by decide +kernel
theorem d_Rows_noteWhatIsAsked_108 : decode prog_7_method_5_code 108 = .ok (.aload_n 0, 1) := by decide +kernel
theorem d_Rows_noteWhatIsAsked_109 : decode prog_7_method_5_code 109 = .ok (.getfield 40, 3) := by decide +kernel
theorem d_Rows_noteWhatIsAsked_112 : decode prog_7_method_5_code 112 = .ok (.iload 5, 2) := by decide +kernel
theorem d_Rows_noteWhatIsAsked_114 : decode prog_7_method_5_code 114 = .ok (.i2l, 1) := by decide +kernel
theorem d_Rows_noteWhatIsAsked_115 : decode prog_7_method_5_code 115 = .ok (.invokevirtual 98, 3) := by decide +kernel
theorem d_Rows_noteWhatIsAsked_118 : decode prog_7_method_5_code 118 = .ok (.aload_n 0, 1) := by decide +kernel
theorem d_Rows_noteWhatIsAsked_119 : decode prog_7_method_5_code 119 = .ok (.getfield 40, 3) := by decide +kernel
theorem d_Rows_noteWhatIsAsked_122 : decode prog_7_method_5_code 122 = .ok (.iload 5, 2) := by decide +kernel
theorem d_Rows_noteWhatIsAsked_124 : decode prog_7_method_5_code 124 = .ok (.i2l, 1) := by decide +kernel
theorem d_Rows_noteWhatIsAsked_125 : decode prog_7_method_5_code 125 = .ok (.invokevirtual 98, 3) := by decide +kernel
theorem d_Rows_noteWhatIsAsked_128 : decode prog_7_method_5_code 128 = .ok (.iinc 2 1, 3) := by decide +kernel
theorem d_Rows_noteWhatIsAsked_131 : decode prog_7_method_5_code 131 = .ok (.goto (-114), 3) := by decide +kernel
theorem d_Rows_noteWhatIsAsked_134 : decode prog_7_method_5_code 134 = .ok (.return_, 1) := by decide +kernel
def y_Rows_keepRows : MethodName := ⟨"MailQueries$Rows", "keepRows", "(I)I"⟩
def rm_Rows_keepRows : Room := { frames := 1, cells := 0, slots := 0, locals := 40 }
theorem d_Rows_keepRows_0 : decode prog_7_method_4_code 0 = .ok (.aload_n 0, 1) := by decide +kernel
theorem d_Rows_keepRows_1 : decode prog_7_method_4_code 1 = .ok (.iconst 0, 1) := by decide +kernel
theorem d_Rows_keepRows_2 : decode prog_7_method_4_code 2 = .ok (.iload_n 1, 1) := by decide +kernel
theorem d_Rows_keepRows_3 : decode prog_7_method_4_code 3 = .ok (.sipush 200, 3) := by decide +kernel
theorem d_Rows_keepRows_6 : decode prog_7_method_4_code 6 = .ok (.invokestatic 70, 3) := by decide +kernel
theorem d_Rows_keepRows_9 : decode prog_7_method_4_code 9 = .ok (.invokestatic 86, 3) := by decide +kernel
theorem d_Rows_keepRows_12 : decode prog_7_method_4_code 12 = .ok (.putfield 50, 3) := by decide +kernel
theorem d_Rows_keepRows_15 : decode prog_7_method_4_code 15 = .ok (.aload_n 0, 1) := by decide +kernel
theorem d_Rows_keepRows_16 : decode prog_7_method_4_code 16 = .ok (.getfield 11, 3) := by decide +kernel
theorem d_Rows_keepRows_19 : decode prog_7_method_4_code 19 = .ok (.iconst 0, 1) := by decide +kernel
theorem d_Rows_keepRows_20 : decode prog_7_method_4_code 20 = .ok (.aload_n 0, 1) := by decide +kernel
theorem d_Rows_keepRows_21 : decode prog_7_method_4_code 21 = .ok (.getfield 44, 3) := by decide +kernel
theorem d_Rows_keepRows_24 : decode prog_7_method_4_code 24 = .ok (.iconst 0, 1) := by decide +kernel
theorem d_Rows_keepRows_25 : decode prog_7_method_4_code 25 = .ok (.aload_n 0, 1) := by decide +kernel
theorem d_Rows_keepRows_26 : decode prog_7_method_4_code 26 = .ok (.getfield 50, 3) := by decide +kernel
theorem d_Rows_keepRows_29 : decode prog_7_method_4_code 29 = .ok (.invokestatic 89, 3) := by decide +kernel
theorem d_Rows_keepRows_32 : decode prog_7_method_4_code 32 = .ok (.aload_n 0, 1) := by decide +kernel
theorem d_Rows_keepRows_33 : decode prog_7_method_4_code 33 = .ok (.getfield 15, 3) := by decide +kernel
theorem d_Rows_keepRows_36 : decode prog_7_method_4_code 36 = .ok (.iconst 0, 1) := by decide +kernel
theorem d_Rows_keepRows_37 : decode prog_7_method_4_code 37 = .ok (.aload_n 0, 1) := by decide +kernel
theorem d_Rows_keepRows_38 : decode prog_7_method_4_code 38 = .ok (.getfield 47, 3) := by decide +kernel
theorem d_Rows_keepRows_41 : decode prog_7_method_4_code 41 = .ok (.iconst 0, 1) := by decide +kernel
theorem d_Rows_keepRows_42 : decode prog_7_method_4_code 42 = .ok (.aload_n 0, 1) := by decide +kernel
theorem d_Rows_keepRows_43 : decode prog_7_method_4_code 43 = .ok (.getfield 50, 3) := by decide +kernel
theorem d_Rows_keepRows_46 : decode prog_7_method_4_code 46 = .ok (.invokestatic 89, 3) := by decide +kernel
theorem d_Rows_keepRows_49 : decode prog_7_method_4_code 49 = .ok (.aload_n 0, 1) := by decide +kernel
theorem d_Rows_keepRows_50 : decode prog_7_method_4_code 50 = .ok (.getfield 50, 3) := by decide +kernel
theorem d_Rows_keepRows_53 : decode prog_7_method_4_code 53 = .ok (.ireturn, 1) := by decide +kernel
def y_Rows_make : MethodName := ⟨"MailQueries$Rows", "make", "(LMailQueries$Query;)I"⟩
def rm_Rows_make : Room := { frames := 6, cells := 0, slots := 0, locals := 156 }
theorem d_Rows_make_0 : decode prog_7_method_3_code 0 = .ok (.aload_n 0, 1) := by decide +kernel
theorem d_Rows_make_1 : decode prog_7_method_3_code 1 = .ok (.iconst 0, 1) := by decide +kernel
theorem d_Rows_make_2 : decode prog_7_method_3_code 2 = .ok (.putfield 18, 3) := by decide +kernel
theorem d_Rows_make_5 : decode prog_7_method_3_code 5 = .ok (.aload_n 0, 1) := by decide +kernel
theorem d_Rows_make_6 : decode prog_7_method_3_code 6 = .ok (.iconst 0, 1) := by decide +kernel
theorem d_Rows_make_7 : decode prog_7_method_3_code 7 = .ok (.putfield 29, 3) := by decide +kernel
theorem d_Rows_make_10 : decode prog_7_method_3_code 10 = .ok (.aload_n 1, 1) := by decide +kernel
theorem d_Rows_make_11 : decode prog_7_method_3_code 11 = .ok (.getfield 53, 3) := by decide +kernel
theorem d_Rows_make_14 : decode prog_7_method_3_code 14 = .ok (.ifCond .ne 20, 3) := by decide +kernel
theorem d_Rows_make_17 : decode prog_7_method_3_code 17 = .ok (.aload_n 0, 1) := by decide +kernel
theorem d_Rows_make_18 : decode prog_7_method_3_code 18 = .ok (.iconst 0, 1) := by decide +kernel
theorem d_Rows_make_19 : decode prog_7_method_3_code 19 = .ok (.lconst 0, 1) := by decide +kernel
theorem d_Rows_make_20 : decode prog_7_method_3_code 20 = .ok (.lconst 0, 1) := by decide +kernel
theorem d_Rows_make_21 : decode prog_7_method_3_code 21 = .ok (.invokevirtual 58, 3) := by decide +kernel
theorem d_Rows_make_24 : decode prog_7_method_3_code 24 = .ok (.pop, 1) := by decide +kernel
theorem d_Rows_make_25 : decode prog_7_method_3_code 25 = .ok (.aload_n 0, 1) := by decide +kernel
theorem d_Rows_make_26 : decode prog_7_method_3_code 26 = .ok (.aload_n 0, 1) := by decide +kernel
theorem d_Rows_make_27 : decode prog_7_method_3_code 27 = .ok (.getfield 18, 3) := by decide +kernel
theorem d_Rows_make_30 : decode prog_7_method_3_code 30 = .ok (.invokevirtual 62, 3) := by decide +kernel
theorem d_Rows_make_33 : decode prog_7_method_3_code 33 = .ok (.ireturn, 1) := by decide +kernel
theorem d_Rows_make_34 : decode prog_7_method_3_code 34 = .ok (.aload_n 0, 1) := by decide +kernel
theorem d_Rows_make_35 : decode prog_7_method_3_code 35 = .ok (.aload_n 1, 1) := by decide +kernel
theorem d_Rows_make_36 : decode prog_7_method_3_code 36 = .ok (.invokevirtual 66, 3) := by decide +kernel
theorem d_Rows_make_39 : decode prog_7_method_3_code 39 = .ok (.aload_n 1, 1) := by decide +kernel
theorem d_Rows_make_40 : decode prog_7_method_3_code 40 = .ok (.getfield 53, 3) := by decide +kernel
theorem d_Rows_make_43 : decode prog_7_method_3_code 43 = .ok (.aload_n 0, 1) := by decide +kernel
theorem d_Rows_make_44 : decode prog_7_method_3_code 44 = .ok (.getfield 32, 3) := by decide +kernel
theorem d_Rows_make_47 : decode prog_7_method_3_code 47 = .ok (.arraylength, 1) := by decide +kernel
theorem d_Rows_make_48 : decode prog_7_method_3_code 48 = .ok (.invokestatic 70, 3) := by decide +kernel
theorem d_Rows_make_51 : decode prog_7_method_3_code 51 = .ok (.iconst 1, 1) := by decide +kernel
theorem d_Rows_make_52 : decode prog_7_method_3_code 52 = .ok (.isub, 1) := by decide +kernel
theorem d_Rows_make_53 : decode prog_7_method_3_code 53 = .ok (.istore_n 2, 1) := by decide +kernel
theorem d_Rows_make_54 : decode prog_7_method_3_code 54 = .ok (.iload_n 2, 1) := by decide +kernel
theorem d_Rows_make_55 : decode prog_7_method_3_code 55 = .ok (.ifCond .lt 29, 3) := by decide +kernel
theorem d_Rows_make_58 : decode prog_7_method_3_code 58 = .ok (.aload_n 0, 1) := by decide +kernel
theorem d_Rows_make_59 : decode prog_7_method_3_code 59 = .ok (.aload_n 1, 1) := by decide +kernel
theorem d_Rows_make_60 : decode prog_7_method_3_code 60 = .ok (.iload_n 2, 1) := by decide +kernel
theorem d_Rows_make_61 : decode prog_7_method_3_code 61 = .ok (.invokevirtual 76, 3) := by decide +kernel
theorem d_Rows_make_64 : decode prog_7_method_3_code 64 = .ok (.aload_n 0, 1) := by decide +kernel
theorem d_Rows_make_65 : decode prog_7_method_3_code 65 = .ok (.getfield 32, 3) := by decide +kernel
theorem d_Rows_make_68 : decode prog_7_method_3_code 68 = .ok (.iload_n 2, 1) := by decide +kernel
theorem d_Rows_make_69 : decode prog_7_method_3_code 69 = .ok (.iaload, 1) := by decide +kernel
theorem d_Rows_make_70 : decode prog_7_method_3_code 70 = .ok (.invokevirtual 79, 3) := by decide +kernel
theorem d_Rows_make_73 : decode prog_7_method_3_code 73 = .ok (.ifCond .ne 5, 3) := by decide +kernel
theorem d_Rows_make_76 : decode prog_7_method_3_code 76 = .ok (.iconst (-1), 1) := by decide +kernel
theorem d_Rows_make_77 : decode prog_7_method_3_code 77 = .ok (.ireturn, 1) := by decide +kernel
theorem d_Rows_make_78 : decode prog_7_method_3_code 78 = .ok (.iinc 2 (-1), 3) := by decide +kernel
theorem d_Rows_make_81 : decode prog_7_method_3_code 81 = .ok (.goto (-27), 3) := by decide +kernel
theorem d_Rows_make_84 : decode prog_7_method_3_code 84 = .ok (.aload_n 0, 1) := by decide +kernel
theorem d_Rows_make_85 : decode prog_7_method_3_code 85 = .ok (.aload_n 0, 1) := by decide +kernel
theorem d_Rows_make_86 : decode prog_7_method_3_code 86 = .ok (.iconst 0, 1) := by decide +kernel
theorem d_Rows_make_87 : decode prog_7_method_3_code 87 = .ok (.iconst 1, 1) := by decide +kernel
theorem d_Rows_make_88 : decode prog_7_method_3_code 88 = .ok (.invokevirtual 83, 3) := by decide +kernel
theorem d_Rows_make_91 : decode prog_7_method_3_code 91 = .ok (.invokevirtual 62, 3) := by decide +kernel
theorem d_Rows_make_94 : decode prog_7_method_3_code 94 = .ok (.ireturn, 1) := by decide +kernel
theorem mb_Rows_joinAsIs : Mb y_Rows_joinAsIs prog_7_method_7_code 2 (some .boolean) 1 := ⟨W_Rows_joinAsIs_code, W_Rows_joinAsIs_in, sel_14, I_Rows, by decide +kernel, by decide +kernel, by decide +kernel⟩
theorem mb_Rows_joinTurned : Mb y_Rows_joinTurned prog_7_method_8_code 2 (some .boolean) 1 := ⟨W_Rows_joinTurned_code, W_Rows_joinTurned_in, sel_20, I_Rows, by decide +kernel, by decide +kernel, by decide +kernel⟩
theorem mb_Rows_replaceSets : Mb y_Rows_replaceSets prog_7_method_18_code 6 (some .boolean) 3 := ⟨W_Rows_replaceSets_code, W_Rows_replaceSets_in, sel_10, I_Rows, by decide +kernel, by decide +kernel, by decide +kernel⟩
theorem mb_Rows_makeSet : Mb y_Rows_makeSet prog_7_method_6_code 6 (some .boolean) 2 := ⟨W_Rows_makeSet_code, W_Rows_makeSet_in, sel_9, I_Rows, by decide +kernel, by decide +kernel, by decide +kernel⟩
theorem mb_Rows_noteWhatIsAsked : Mb y_Rows_noteWhatIsAsked prog_7_method_5_code 6 none 1 := ⟨W_Rows_noteWhatIsAsked_code, W_Rows_noteWhatIsAsked_in, sel_8, I_Rows, by decide +kernel, by decide +kernel, by decide +kernel⟩
theorem mb_Rows_keepRows : Mb y_Rows_keepRows prog_7_method_4_code 2 (some .int) 1 := ⟨W_Rows_keepRows_code, W_Rows_keepRows_in, sel_7, I_Rows, by decide +kernel, by decide +kernel, by decide +kernel⟩
theorem mb_Rows_make : Mb y_Rows_make prog_7_method_3_code 3 (some .int) 1 := ⟨W_Rows_make_code, W_Rows_make_in, W_Rows_make_se, I_Rows, by decide +kernel, by decide +kernel, by decide +kernel⟩
def Rows_joinAsIs (F : Nat) (t : StI) (tL : StL) (x1 : Int32) : Option (Int32 × StI × StL) := if x1 = (-5 : Int32) then (Rows_putEither F t tL (1 : Int32) (2 : Int32) (2 : Int32) (1 : Int32)).bind fun r15 => if r15.1 = 0 ∨ r15.1 = 1 then some (r15.1, r15.2.1, r15.2.2) else none else if x1 = (-4 : Int32) then (Rows_putAny F t tL (1 : Int32)).bind fun r13 => if r13.1 = 0 ∨ r13.1 = 1 then some (r13.1, r13.2.1, r13.2.2) else none else (Rows_putPairs F t tL (1 : Int32) (1 : Int32)).bind fun r11 => if r11.1 = 0 ∨ r11.1 = 1 then some (r11.1, r11.2.1, r11.2.2) else none
set_option maxHeartbeats 4000000 in
set_option maxRecDepth 100000 in
theorem k_Rows_joinAsIs {p : Program} {l : Launch} {e : Env} {s : State} {m : MethodId} {args : Array Value} {below : List Frame} {meth : Method} {c : Code} {g : Gz} {A : Nat → Prop} {F : Nat} {a_t : Nat → Nat} {r_pile : Nat} (hC : Cx prog_7_method_7_code 2 (some .boolean) R_Rows p s m args meth c g A A) : ∀ (t : StI) (tL : StL) (x1 : Int32) (res : Int32 × StI × StL), Rows_joinAsIs F t tL x1 = some res → Go p l e rm_Rows_joinAsIs s m args below meth c g A A 2 (MQ below (EI g ((pic_Rows g a_t r_pile res.2.1 res.2.2)) res.1 A) args s 0 0 A) ((pic_Rows g a_t r_pile t tL)) [(0, .ref (a_t 0)), (1, .int x1)] 0 [] := by
  obtain ⟨hx, hb, hr, hml, hown, htb, hlocks, hA, hAA, hG⟩ := id hC
  have hK := hG.1
  intro t tL x1 res h H locs ls hP hD hS hl
  rw [Rows_joinAsIs] at h
  refine lv_iload_n hx hb d_Rows_joinAsIs_0 rfl (lv_at hl 1 rfl) ?_
  refine lv_bipush (v := -5) hx hb d_Rows_joinAsIs_1 (by decide) ?_
  refine lv_icmp_ne (tgt := 15) hx hb d_Rows_joinAsIs_3 (by decide) (fun c9 => ?_) (fun c9 => ?_)
  · replace h := (if_neg c9).symm.trans h
    refine lv_iload_n hx hb d_Rows_joinAsIs_15 rfl (lv_at hl 1 rfl) ?_
    refine lv_bipush (v := -4) hx hb d_Rows_joinAsIs_16 (by decide) ?_
    refine lv_icmp_ne (tgt := 29) hx hb d_Rows_joinAsIs_18 (by decide) (fun c10 => ?_) (fun c10 => ?_)
    · replace h := (if_neg c10).symm.trans h
      refine lv_aload_n hx hb d_Rows_joinAsIs_29 rfl (lv_at hl 0 rfl) ?_
      refine lv_iconst (v := 1) hx hb d_Rows_joinAsIs_30 (by decide) ?_
      refine lv_iconst (v := 1) hx hb d_Rows_joinAsIs_31 (by decide) ?_
      obtain ⟨r11, hr11, h⟩ := Option.bind_eq_some_iff.mp h
      refine cl_I (wr := []) [0, 1, 2, 3, 4, 5, 6, 7] [] rfl rfl rfl (by decide) hP hD hS hA (va_runV (As := [.int (1 : Int32), .int (1 : Int32)]) (rest := []) ⟨hx, hb, hml, hown, htb⟩ (c_Rows_putPairs l g F a_t r_pile t tL (1 : Int32) (1 : Int32) _ hr11 H.size) (cw_V htb mb_Rows_putPairs (htb _ L_Rows_129) rfl rfl ⟨Nat.le_of_ble_eq_true rfl, Nat.le_of_ble_eq_true rfl⟩) (pre_V (va_recv hK hP (ci := 6) (q0 := 0) rfl rfl) (pre_S [0, 1, 2, 3, 4, 5, 6, 7] rfl rfl hP hD hS hA hAA hG)) rfl rfl hl.1 rfl (lv_room (Nat.le_of_ble_eq_true rfl)) d_Rows_joinAsIs_32 ⟨Nat.zero_le _, Nat.zero_le _⟩) (fun H locs hP hD hS => ?_)
      have hP : va_P (gD g) vwCl ((pic_Rows g a_t r_pile r11.2.1 r11.2.2)) H := hP.sub [0, 1, 2, 3, 4, 5, 6, 7] rfl
      have hD : va_D A ((pic_Rows g a_t r_pile r11.2.1 r11.2.2)) := hD.sub [0, 1, 2, 3, 4, 5, 6, 7] rfl rfl
      by_cases c12 : (r11.1 = 0 ∨ r11.1 = 1)
      rotate_left
      · replace h := (if_neg c12).symm.trans h
        cases h
      replace h := (if_pos c12).symm.trans h
      cases h
      exact W.zret hx hb hr (by rcases c12 with c12 | c12 <;> rw [c12] <;> rfl) (fun t ht hW => ⟨⟨_, (), rfl, rfl, by rw [ht]; exact hP, hD⟩, hS.F ht⟩) hS.2.2 d_Rows_joinAsIs_35
    · replace h := (if_pos c10).symm.trans h
      refine lv_aload_n hx hb d_Rows_joinAsIs_21 rfl (lv_at hl 0 rfl) ?_
      refine lv_iconst (v := 1) hx hb d_Rows_joinAsIs_22 (by decide) ?_
      obtain ⟨r13, hr13, h⟩ := Option.bind_eq_some_iff.mp h
      refine cl_I (wr := []) [0, 1, 2, 3, 4, 5, 6, 7] [] rfl rfl rfl (by decide) hP hD hS hA (va_runV (As := [.int (1 : Int32)]) (rest := []) ⟨hx, hb, hml, hown, htb⟩ (c_Rows_putAny l g F a_t r_pile t tL (1 : Int32) _ hr13 H.size) (cw_V htb mb_Rows_putAny (htb _ L_Rows_126) rfl rfl ⟨Nat.le_of_ble_eq_true rfl, Nat.le_of_ble_eq_true rfl⟩) (pre_V (va_recv hK hP (ci := 6) (q0 := 0) rfl rfl) (pre_S [0, 1, 2, 3, 4, 5, 6, 7] rfl rfl hP hD hS hA hAA hG)) rfl rfl hl.1 rfl (lv_room (Nat.le_of_ble_eq_true rfl)) d_Rows_joinAsIs_23 ⟨Nat.zero_le _, Nat.zero_le _⟩) (fun H locs hP hD hS => ?_)
      have hP : va_P (gD g) vwCl ((pic_Rows g a_t r_pile r13.2.1 r13.2.2)) H := hP.sub [0, 1, 2, 3, 4, 5, 6, 7] rfl
      have hD : va_D A ((pic_Rows g a_t r_pile r13.2.1 r13.2.2)) := hD.sub [0, 1, 2, 3, 4, 5, 6, 7] rfl rfl
      refine lv_goto (tgt := 35) hx hb d_Rows_joinAsIs_26 (by decide) ?_
      by_cases c14 : (r13.1 = 0 ∨ r13.1 = 1)
      rotate_left
      · replace h := (if_neg c14).symm.trans h
        cases h
      replace h := (if_pos c14).symm.trans h
      cases h
      exact W.zret hx hb hr (by rcases c14 with c14 | c14 <;> rw [c14] <;> rfl) (fun t ht hW => ⟨⟨_, (), rfl, rfl, by rw [ht]; exact hP, hD⟩, hS.F ht⟩) hS.2.2 d_Rows_joinAsIs_35
  · replace h := (if_pos c9).symm.trans h
    refine lv_aload_n hx hb d_Rows_joinAsIs_6 rfl (lv_at hl 0 rfl) ?_
    refine lv_iconst (v := 1) hx hb d_Rows_joinAsIs_7 (by decide) ?_
    refine lv_iconst (v := 2) hx hb d_Rows_joinAsIs_8 (by decide) ?_
    refine lv_iconst (v := 2) hx hb d_Rows_joinAsIs_9 (by decide) ?_
    refine lv_iconst (v := 1) hx hb d_Rows_joinAsIs_10 (by decide) ?_
    obtain ⟨r15, hr15, h⟩ := Option.bind_eq_some_iff.mp h
    refine cl_I (wr := []) [0, 1, 2, 3, 4, 5, 6, 7] [] rfl rfl rfl (by decide) hP hD hS hA (va_runV (As := [.int (1 : Int32), .int (2 : Int32), .int (2 : Int32), .int (1 : Int32)]) (rest := []) ⟨hx, hb, hml, hown, htb⟩ (c_Rows_putEither l g F a_t r_pile t tL (1 : Int32) (2 : Int32) (2 : Int32) (1 : Int32) _ hr15 H.size) (cw_V htb mb_Rows_putEither (htb _ L_Rows_122) rfl rfl ⟨Nat.le_of_ble_eq_true rfl, Nat.le_of_ble_eq_true rfl⟩) (pre_V (va_recv hK hP (ci := 6) (q0 := 0) rfl rfl) (pre_S [0, 1, 2, 3, 4, 5, 6, 7] rfl rfl hP hD hS hA hAA hG)) rfl rfl hl.1 rfl (lv_room (Nat.le_of_ble_eq_true rfl)) d_Rows_joinAsIs_11 ⟨Nat.zero_le _, Nat.zero_le _⟩) (fun H locs hP hD hS => ?_)
    have hP : va_P (gD g) vwCl ((pic_Rows g a_t r_pile r15.2.1 r15.2.2)) H := hP.sub [0, 1, 2, 3, 4, 5, 6, 7] rfl
    have hD : va_D A ((pic_Rows g a_t r_pile r15.2.1 r15.2.2)) := hD.sub [0, 1, 2, 3, 4, 5, 6, 7] rfl rfl
    by_cases c16 : (r15.1 = 0 ∨ r15.1 = 1)
    rotate_left
    · replace h := (if_neg c16).symm.trans h
      cases h
    replace h := (if_pos c16).symm.trans h
    cases h
    exact W.zret hx hb hr (by rcases c16 with c16 | c16 <;> rw [c16] <;> rfl) (fun t ht hW => ⟨⟨_, (), rfl, rfl, by rw [ht]; exact hP, hD⟩, hS.F ht⟩) hS.2.2 d_Rows_joinAsIs_14
theorem c_Rows_joinAsIs (l : Launch) (g : Gz) (F : Nat) (a_t : Nat → Nat) (r_pile : Nat) (t : StI) (tL : StL) (x1 : Int32) (res : Int32 × StI × StL) (h : Rows_joinAsIs F t tL x1 = some res) : ∀ sz : Nat, Met l y_Rows_joinAsIs (.code y_Rows_joinAsIs prog_7_method_7_code 2 (some .boolean) :: TBL) rm_Rows_joinAsIs (va_Pc [.ref (a_t 0), .int x1] (Pre0 g ((pic_Rows g a_t r_pile t tL)) sz)) (EI g ((pic_Rows g a_t r_pile res.2.1 res.2.2)) res.1 (va_A ((pic_Rows g a_t r_pile t tL)) sz)) 0 0 (va_A ((pic_Rows g a_t r_pile t tL)) sz) :=
  ct_w (Qc := fun A => EI g ((pic_Rows g a_t r_pile res.2.1 res.2.2)) res.1 A) (by decide) (Nat.le_of_ble_eq_true rfl) (fun p e s m args below meth c A hC => k_Rows_joinAsIs hC t tL x1 res h)
def Rows_joinTurned (F : Nat) (t : StI) (tL : StL) (x1 : Int32) : Option (Int32 × StI × StL) := if x1 = (-5 : Int32) then (Rows_putEither F t tL (1 : Int32) (1 : Int32) (2 : Int32) (2 : Int32)).bind fun r15 => if r15.1 = 0 ∨ r15.1 = 1 then some (r15.1, r15.2.1, r15.2.2) else none else if x1 = (-4 : Int32) then (Rows_putPairs F t tL (2 : Int32) (2 : Int32)).bind fun r13 => if r13.1 = 0 ∨ r13.1 = 1 then some (r13.1, r13.2.1, r13.2.2) else none else (Rows_putAny F t tL (2 : Int32)).bind fun r11 => if r11.1 = 0 ∨ r11.1 = 1 then some (r11.1, r11.2.1, r11.2.2) else none
set_option maxHeartbeats 4000000 in
set_option maxRecDepth 100000 in
theorem k_Rows_joinTurned {p : Program} {l : Launch} {e : Env} {s : State} {m : MethodId} {args : Array Value} {below : List Frame} {meth : Method} {c : Code} {g : Gz} {A : Nat → Prop} {F : Nat} {a_t : Nat → Nat} {r_pile : Nat} (hC : Cx prog_7_method_8_code 2 (some .boolean) R_Rows p s m args meth c g A A) : ∀ (t : StI) (tL : StL) (x1 : Int32) (res : Int32 × StI × StL), Rows_joinTurned F t tL x1 = some res → Go p l e rm_Rows_joinTurned s m args below meth c g A A 2 (MQ below (EI g ((pic_Rows g a_t r_pile res.2.1 res.2.2)) res.1 A) args s 0 0 A) ((pic_Rows g a_t r_pile t tL)) [(0, .ref (a_t 0)), (1, .int x1)] 0 [] := by
  obtain ⟨hx, hb, hr, hml, hown, htb, hlocks, hA, hAA, hG⟩ := id hC
  have hK := hG.1
  intro t tL x1 res h H locs ls hP hD hS hl
  rw [Rows_joinTurned] at h
  refine lv_iload_n hx hb d_Rows_joinTurned_0 rfl (lv_at hl 1 rfl) ?_
  refine lv_bipush (v := -5) hx hb d_Rows_joinTurned_1 (by decide) ?_
  refine lv_icmp_ne (tgt := 15) hx hb d_Rows_joinTurned_3 (by decide) (fun c9 => ?_) (fun c9 => ?_)
  · replace h := (if_neg c9).symm.trans h
    refine lv_iload_n hx hb d_Rows_joinTurned_15 rfl (lv_at hl 1 rfl) ?_
    refine lv_bipush (v := -4) hx hb d_Rows_joinTurned_16 (by decide) ?_
    refine lv_icmp_ne (tgt := 30) hx hb d_Rows_joinTurned_18 (by decide) (fun c10 => ?_) (fun c10 => ?_)
    · replace h := (if_neg c10).symm.trans h
      refine lv_aload_n hx hb d_Rows_joinTurned_30 rfl (lv_at hl 0 rfl) ?_
      refine lv_iconst (v := 2) hx hb d_Rows_joinTurned_31 (by decide) ?_
      obtain ⟨r11, hr11, h⟩ := Option.bind_eq_some_iff.mp h
      refine cl_I (wr := []) [0, 1, 2, 3, 4, 5, 6, 7] [] rfl rfl rfl (by decide) hP hD hS hA (va_runV (As := [.int (2 : Int32)]) (rest := []) ⟨hx, hb, hml, hown, htb⟩ (c_Rows_putAny l g F a_t r_pile t tL (2 : Int32) _ hr11 H.size) (cw_V htb mb_Rows_putAny (htb _ L_Rows_126) rfl rfl ⟨Nat.le_of_ble_eq_true rfl, Nat.le_of_ble_eq_true rfl⟩) (pre_V (va_recv hK hP (ci := 6) (q0 := 0) rfl rfl) (pre_S [0, 1, 2, 3, 4, 5, 6, 7] rfl rfl hP hD hS hA hAA hG)) rfl rfl hl.1 rfl (lv_room (Nat.le_of_ble_eq_true rfl)) d_Rows_joinTurned_32 ⟨Nat.zero_le _, Nat.zero_le _⟩) (fun H locs hP hD hS => ?_)
      have hP : va_P (gD g) vwCl ((pic_Rows g a_t r_pile r11.2.1 r11.2.2)) H := hP.sub [0, 1, 2, 3, 4, 5, 6, 7] rfl
      have hD : va_D A ((pic_Rows g a_t r_pile r11.2.1 r11.2.2)) := hD.sub [0, 1, 2, 3, 4, 5, 6, 7] rfl rfl
      by_cases c12 : (r11.1 = 0 ∨ r11.1 = 1)
      rotate_left
      · replace h := (if_neg c12).symm.trans h
        cases h
      replace h := (if_pos c12).symm.trans h
      cases h
      exact W.zret hx hb hr (by rcases c12 with c12 | c12 <;> rw [c12] <;> rfl) (fun t ht hW => ⟨⟨_, (), rfl, rfl, by rw [ht]; exact hP, hD⟩, hS.F ht⟩) hS.2.2 d_Rows_joinTurned_35
    · replace h := (if_pos c10).symm.trans h
      refine lv_aload_n hx hb d_Rows_joinTurned_21 rfl (lv_at hl 0 rfl) ?_
      refine lv_iconst (v := 2) hx hb d_Rows_joinTurned_22 (by decide) ?_
      refine lv_iconst (v := 2) hx hb d_Rows_joinTurned_23 (by decide) ?_
      obtain ⟨r13, hr13, h⟩ := Option.bind_eq_some_iff.mp h
      refine cl_I (wr := []) [0, 1, 2, 3, 4, 5, 6, 7] [] rfl rfl rfl (by decide) hP hD hS hA (va_runV (As := [.int (2 : Int32), .int (2 : Int32)]) (rest := []) ⟨hx, hb, hml, hown, htb⟩ (c_Rows_putPairs l g F a_t r_pile t tL (2 : Int32) (2 : Int32) _ hr13 H.size) (cw_V htb mb_Rows_putPairs (htb _ L_Rows_129) rfl rfl ⟨Nat.le_of_ble_eq_true rfl, Nat.le_of_ble_eq_true rfl⟩) (pre_V (va_recv hK hP (ci := 6) (q0 := 0) rfl rfl) (pre_S [0, 1, 2, 3, 4, 5, 6, 7] rfl rfl hP hD hS hA hAA hG)) rfl rfl hl.1 rfl (lv_room (Nat.le_of_ble_eq_true rfl)) d_Rows_joinTurned_24 ⟨Nat.zero_le _, Nat.zero_le _⟩) (fun H locs hP hD hS => ?_)
      have hP : va_P (gD g) vwCl ((pic_Rows g a_t r_pile r13.2.1 r13.2.2)) H := hP.sub [0, 1, 2, 3, 4, 5, 6, 7] rfl
      have hD : va_D A ((pic_Rows g a_t r_pile r13.2.1 r13.2.2)) := hD.sub [0, 1, 2, 3, 4, 5, 6, 7] rfl rfl
      refine lv_goto (tgt := 35) hx hb d_Rows_joinTurned_27 (by decide) ?_
      by_cases c14 : (r13.1 = 0 ∨ r13.1 = 1)
      rotate_left
      · replace h := (if_neg c14).symm.trans h
        cases h
      replace h := (if_pos c14).symm.trans h
      cases h
      exact W.zret hx hb hr (by rcases c14 with c14 | c14 <;> rw [c14] <;> rfl) (fun t ht hW => ⟨⟨_, (), rfl, rfl, by rw [ht]; exact hP, hD⟩, hS.F ht⟩) hS.2.2 d_Rows_joinTurned_35
  · replace h := (if_pos c9).symm.trans h
    refine lv_aload_n hx hb d_Rows_joinTurned_6 rfl (lv_at hl 0 rfl) ?_
    refine lv_iconst (v := 1) hx hb d_Rows_joinTurned_7 (by decide) ?_
    refine lv_iconst (v := 1) hx hb d_Rows_joinTurned_8 (by decide) ?_
    refine lv_iconst (v := 2) hx hb d_Rows_joinTurned_9 (by decide) ?_
    refine lv_iconst (v := 2) hx hb d_Rows_joinTurned_10 (by decide) ?_
    obtain ⟨r15, hr15, h⟩ := Option.bind_eq_some_iff.mp h
    refine cl_I (wr := []) [0, 1, 2, 3, 4, 5, 6, 7] [] rfl rfl rfl (by decide) hP hD hS hA (va_runV (As := [.int (1 : Int32), .int (1 : Int32), .int (2 : Int32), .int (2 : Int32)]) (rest := []) ⟨hx, hb, hml, hown, htb⟩ (c_Rows_putEither l g F a_t r_pile t tL (1 : Int32) (1 : Int32) (2 : Int32) (2 : Int32) _ hr15 H.size) (cw_V htb mb_Rows_putEither (htb _ L_Rows_122) rfl rfl ⟨Nat.le_of_ble_eq_true rfl, Nat.le_of_ble_eq_true rfl⟩) (pre_V (va_recv hK hP (ci := 6) (q0 := 0) rfl rfl) (pre_S [0, 1, 2, 3, 4, 5, 6, 7] rfl rfl hP hD hS hA hAA hG)) rfl rfl hl.1 rfl (lv_room (Nat.le_of_ble_eq_true rfl)) d_Rows_joinTurned_11 ⟨Nat.zero_le _, Nat.zero_le _⟩) (fun H locs hP hD hS => ?_)
    have hP : va_P (gD g) vwCl ((pic_Rows g a_t r_pile r15.2.1 r15.2.2)) H := hP.sub [0, 1, 2, 3, 4, 5, 6, 7] rfl
    have hD : va_D A ((pic_Rows g a_t r_pile r15.2.1 r15.2.2)) := hD.sub [0, 1, 2, 3, 4, 5, 6, 7] rfl rfl
    by_cases c16 : (r15.1 = 0 ∨ r15.1 = 1)
    rotate_left
    · replace h := (if_neg c16).symm.trans h
      cases h
    replace h := (if_pos c16).symm.trans h
    cases h
    exact W.zret hx hb hr (by rcases c16 with c16 | c16 <;> rw [c16] <;> rfl) (fun t ht hW => ⟨⟨_, (), rfl, rfl, by rw [ht]; exact hP, hD⟩, hS.F ht⟩) hS.2.2 d_Rows_joinTurned_14
theorem c_Rows_joinTurned (l : Launch) (g : Gz) (F : Nat) (a_t : Nat → Nat) (r_pile : Nat) (t : StI) (tL : StL) (x1 : Int32) (res : Int32 × StI × StL) (h : Rows_joinTurned F t tL x1 = some res) : ∀ sz : Nat, Met l y_Rows_joinTurned (.code y_Rows_joinTurned prog_7_method_8_code 2 (some .boolean) :: TBL) rm_Rows_joinTurned (va_Pc [.ref (a_t 0), .int x1] (Pre0 g ((pic_Rows g a_t r_pile t tL)) sz)) (EI g ((pic_Rows g a_t r_pile res.2.1 res.2.2)) res.1 (va_A ((pic_Rows g a_t r_pile t tL)) sz)) 0 0 (va_A ((pic_Rows g a_t r_pile t tL)) sz) :=
  ct_w (Qc := fun A => EI g ((pic_Rows g a_t r_pile res.2.1 res.2.2)) res.1 A) (by decide) (Nat.le_of_ble_eq_true rfl) (fun p e s m args below meth c A hC => k_Rows_joinTurned hC t tL x1 res h)
def Rows_replaceSets_45 (F : Nat) (t : StI) (tL : StL) (x2 : Int32) (x3 : Int32) (x4 : Int32) (y0 : Int32) : Option (Int32 × StI × StL) := if x2 < 0 then none else if y0 < 0 then none else if ((t 2 0) - x2) < 0 then none else if 2400 < x2.toNatClampNeg + ((t 2 0) - x2).toNatClampNeg then none else if 2400 < y0.toNatClampNeg + ((t 2 0) - x2).toNatClampNeg then none else letS (va_up tL 0 (va_cpy (tL 0) (tL 0) x2.toNatClampNeg y0.toNatClampNeg ((t 2 0) - x2).toNatClampNeg)) fun t_28 => if x2 < 0 then none else if y0 < 0 then none else if ((t 2 0) - x2) < 0 then none else if 2400 < x2.toNatClampNeg + ((t 2 0) - x2).toNatClampNeg then none else if 2400 < y0.toNatClampNeg + ((t 2 0) - x2).toNatClampNeg then none else letS (va_up t_28 1 (va_cpy (t_28 1) (t_28 1) x2.toNatClampNeg y0.toNatClampNeg ((t 2 0) - x2).toNatClampNeg)) fun t_35 => if x4 < 0 ∨ 41 ≤ x4.toNatClampNeg then none else letS (va_up t 3 (upd (t 3) x4.toNatClampNeg y0)) fun t_42 => if x4 < 0 ∨ 41 ≤ x4.toNatClampNeg then none else letS (va_up t_42 4 (upd (t_42 4) x4.toNatClampNeg ((y0 + x3) - x2))) fun t_44 => letS (va_up t_44 2 (fun _ => ((y0 + (t_44 2 0)) - x2))) fun t_46 => letS (va_up t_46 5 (fun _ => (x4 + (1 : Int32)))) fun t_47 => if (t_47 5 0) < 0 ∨ 41 ≤ (t_47 5 0).toNatClampNeg then none else letS (va_up t_47 3 (upd (t_47 3) (t_47 5 0).toNatClampNeg (t_47 2 0))) fun t_48 => some ((1 : Int32), t_48, t_35)
def Rows_replaceSets (F : Nat) (t : StI) (tL : StL) (x1 : Int32) (x2 : Int32) (x3 : Int32) : Option (Int32 × StI × StL) := if ((t 5 0) - x1) < 0 then some ((0 : Int32), t, tL) else if (40 : Int32) ≤ ((t 5 0) - x1) then some ((0 : Int32), t, tL) else if x2 ≤ (t 2 0) then if x1 ≤ 0 then Rows_replaceSets_45 F t tL x2 x3 ((t 5 0) - x1) x2 else if ((t 5 0) - x1) < 0 ∨ 41 ≤ ((t 5 0) - x1).toNatClampNeg then none else Rows_replaceSets_45 F t tL x2 x3 ((t 5 0) - x1) ((t 3) ((t 5 0) - x1).toNatClampNeg) else some ((0 : Int32), t, tL)
set_option maxHeartbeats 4000000 in
set_option maxRecDepth 100000 in
theorem k_Rows_replaceSets_45 {p : Program} {l : Launch} {e : Env} {s : State} {m : MethodId} {args : Array Value} {below : List Frame} {meth : Method} {c : Code} {g : Gz} {A : Nat → Prop} {F : Nat} {a_t : Nat → Nat} {r_pile : Nat} (hC : Cx prog_7_method_18_code 6 (some .boolean) R_Rows p s m args meth c g A A) : ∀ (t : StI) (tL : StL) (x2 : Int32) (x3 : Int32) (x4 : Int32) (y0 : Int32) (res : Int32 × StI × StL), Rows_replaceSets_45 F t tL x2 x3 x4 y0 = some res → Go p l e rm_Rows_replaceSets s m args below meth c g A A 6 (MQ below (EI g ((pic_Rows g a_t r_pile res.2.1 res.2.2)) res.1 A) args s 0 0 A) ((pic_Rows g a_t r_pile t tL)) [(0, .ref (a_t 0)), (2, .int x2), (3, .int x3), (4, .int x4)] 45 [.int y0] := by
  obtain ⟨hx, hb, hr, hml, hown, htb, hlocks, hA, hAA, hG⟩ := id hC
  have hK := hG.1
  intro t tL x2 x3 x4 y0 res h H locs ls hP hD hS hl
  rw [Rows_replaceSets_45] at h
  refine lv_istore (lv' := [(5, .int y0), (0, .ref (a_t 0)), (2, .int x2), (3, .int x3), (4, .int x4)]) hx hb d_Rows_replaceSets_45 hl (by decide) rfl (fun ls hl => ?_)
  refine lv_aload_n hx hb d_Rows_replaceSets_47 rfl (lv_at hl 1 rfl) ?_
  refine va_get (D := gD g) (ci := 6) (v := .ref (a_t 1)) (C := R_Rows) (T := T_Rows) (N := 11) hx hb htb in_Rows hown hK hP 0 rfl rfl 0 (by decide) (htb _ L_Rows_11) (fun _ h9 => h9) rfl d_Rows_replaceSets_48 ?_
  refine lv_iload_n hx hb d_Rows_replaceSets_51 rfl (lv_at hl 2 rfl) ?_
  refine lv_aload_n hx hb d_Rows_replaceSets_52 rfl (lv_at hl 1 rfl) ?_
  refine va_get (D := gD g) (ci := 6) (v := .ref (a_t 1)) (C := R_Rows) (T := T_Rows) (N := 11) hx hb htb in_Rows hown hK hP 0 rfl rfl 0 (by decide) (htb _ L_Rows_11) (fun _ h9 => h9) rfl d_Rows_replaceSets_53 ?_
  refine lv_iload hx hb d_Rows_replaceSets_56 (lv_at hl 0 rfl) ?_
  refine lv_aload_n hx hb d_Rows_replaceSets_58 rfl (lv_at hl 1 rfl) ?_
  refine va_get (D := gD g) (ci := 6) (v := .int (t 2 0)) (C := R_Rows) (T := T_Rows) (N := 11) hx hb htb in_Rows hown hK hP 0 rfl rfl 2 (by decide) (htb _ L_Rows_18) (fun _ h9 => h9) rfl d_Rows_replaceSets_59 ?_
  refine lv_iload_n hx hb d_Rows_replaceSets_62 rfl (lv_at hl 2 rfl) ?_
  refine lv_isub hx hb d_Rows_replaceSets_63 ?_
  by_cases c29 : x2 < 0
  · replace h := (if_pos c29).symm.trans h
    cases h
  replace h := (if_neg c29).symm.trans h
  by_cases c30 : y0 < 0
  · replace h := (if_pos c30).symm.trans h
    cases h
  replace h := (if_neg c30).symm.trans h
  by_cases c31 : ((t 2 0) - x2) < 0
  · replace h := (if_pos c31).symm.trans h
    cases h
  replace h := (if_neg c31).symm.trans h
  by_cases c32 : 2400 < x2.toNatClampNeg + ((t 2 0) - x2).toNatClampNeg
  · replace h := (if_pos c32).symm.trans h
    cases h
  replace h := (if_neg c32).symm.trans h
  by_cases c33 : 2400 < y0.toNatClampNeg + ((t 2 0) - x2).toNatClampNeg
  · replace h := (if_pos c33).symm.trans h
    cases h
  replace h := (if_neg c33).symm.trans h
  refine va_copyl hx hb (hml.trans hl.1.symm) hown (htb _ L_Rows_89) (htb _ W_copy_native) (htb _ W_copy_static) (htb _ W_system_init) hK hP hD hS 1 1 3 3 rfl rfl rfl rfl rfl c29 c30 c31 (Nat.not_lt.mp c32) (Nat.not_lt.mp c33) (fun _ _ => rfl) (Nat.le_of_ble_eq_true rfl) (by decide +kernel) d_Rows_replaceSets_64 (fun H locs hP hD hS => ?_)
  obtain ⟨t_28, et_28, h⟩ := letS_el h
  have hP : va_P (gD g) vwCl ((pic_Rows g a_t r_pile t t_28)) H := by rw [et_28]; exact hP
  have hD : va_D A ((pic_Rows g a_t r_pile t t_28)) := by rw [et_28]; exact hD
  refine lv_aload_n hx hb d_Rows_replaceSets_67 rfl (lv_at hl 1 rfl) ?_
  refine va_get (D := gD g) (ci := 6) (v := .ref (a_t 2)) (C := R_Rows) (T := T_Rows) (N := 11) hx hb htb in_Rows hown hK hP 0 rfl rfl 1 (by decide) (htb _ L_Rows_15) (fun _ h9 => h9) rfl d_Rows_replaceSets_68 ?_
  refine lv_iload_n hx hb d_Rows_replaceSets_71 rfl (lv_at hl 2 rfl) ?_
  refine lv_aload_n hx hb d_Rows_replaceSets_72 rfl (lv_at hl 1 rfl) ?_
  refine va_get (D := gD g) (ci := 6) (v := .ref (a_t 2)) (C := R_Rows) (T := T_Rows) (N := 11) hx hb htb in_Rows hown hK hP 0 rfl rfl 1 (by decide) (htb _ L_Rows_15) (fun _ h9 => h9) rfl d_Rows_replaceSets_73 ?_
  refine lv_iload hx hb d_Rows_replaceSets_76 (lv_at hl 0 rfl) ?_
  refine lv_aload_n hx hb d_Rows_replaceSets_78 rfl (lv_at hl 1 rfl) ?_
  refine va_get (D := gD g) (ci := 6) (v := .int (t 2 0)) (C := R_Rows) (T := T_Rows) (N := 11) hx hb htb in_Rows hown hK hP 0 rfl rfl 2 (by decide) (htb _ L_Rows_18) (fun _ h9 => h9) rfl d_Rows_replaceSets_79 ?_
  refine lv_iload_n hx hb d_Rows_replaceSets_82 rfl (lv_at hl 2 rfl) ?_
  refine lv_isub hx hb d_Rows_replaceSets_83 ?_
  by_cases c36 : x2 < 0
  · replace h := (if_pos c36).symm.trans h
    cases h
  replace h := (if_neg c36).symm.trans h
  by_cases c37 : y0 < 0
  · replace h := (if_pos c37).symm.trans h
    cases h
  replace h := (if_neg c37).symm.trans h
  by_cases c38 : ((t 2 0) - x2) < 0
  · replace h := (if_pos c38).symm.trans h
    cases h
  replace h := (if_neg c38).symm.trans h
  by_cases c39 : 2400 < x2.toNatClampNeg + ((t 2 0) - x2).toNatClampNeg
  · replace h := (if_pos c39).symm.trans h
    cases h
  replace h := (if_neg c39).symm.trans h
  by_cases c40 : 2400 < y0.toNatClampNeg + ((t 2 0) - x2).toNatClampNeg
  · replace h := (if_pos c40).symm.trans h
    cases h
  replace h := (if_neg c40).symm.trans h
  refine va_copyl hx hb (hml.trans hl.1.symm) hown (htb _ L_Rows_89) (htb _ W_copy_native) (htb _ W_copy_static) (htb _ W_system_init) hK hP hD hS 2 2 3 3 rfl rfl rfl rfl rfl c36 c37 c38 (Nat.not_lt.mp c39) (Nat.not_lt.mp c40) (fun _ _ => rfl) (Nat.le_of_ble_eq_true rfl) (by decide +kernel) d_Rows_replaceSets_84 (fun H locs hP hD hS => ?_)
  obtain ⟨t_35, et_35, h⟩ := letS_el h
  have hP : va_P (gD g) vwCl ((pic_Rows g a_t r_pile t t_35)) H := by rw [et_35]; exact hP
  have hD : va_D A ((pic_Rows g a_t r_pile t t_35)) := by rw [et_35]; exact hD
  refine lv_aload_n hx hb d_Rows_replaceSets_87 rfl (lv_at hl 1 rfl) ?_
  refine va_get (D := gD g) (ci := 6) (v := .ref (a_t 4)) (C := R_Rows) (T := T_Rows) (N := 11) hx hb htb in_Rows hown hK hP 0 rfl rfl 3 (by decide) (htb _ L_Rows_22) (fun _ h9 => h9) rfl d_Rows_replaceSets_88 ?_
  refine lv_iload hx hb d_Rows_replaceSets_91 (lv_at hl 4 rfl) ?_
  refine lv_iload hx hb d_Rows_replaceSets_93 (lv_at hl 0 rfl) ?_
  by_cases c43 : (x4 < 0 ∨ 41 ≤ x4.toNatClampNeg)
  · replace h := (if_pos c43).symm.trans h
    cases h
  replace h := (if_neg c43).symm.trans h
  refine va_iast hx hb hK hP hD hS 3 0 rfl rfl c43 d_Rows_replaceSets_95 (fun H locs hP hD hS => ?_)
  obtain ⟨t_42, et_42, h⟩ := letS_el h
  have hP : va_P (gD g) vwCl ((pic_Rows g a_t r_pile t_42 t_35)) H := by rw [et_42]; exact hP
  have hD : va_D A ((pic_Rows g a_t r_pile t_42 t_35)) := by rw [et_42]; exact hD
  refine lv_aload_n hx hb d_Rows_replaceSets_96 rfl (lv_at hl 1 rfl) ?_
  refine va_get (D := gD g) (ci := 6) (v := .ref (a_t 5)) (C := R_Rows) (T := T_Rows) (N := 11) hx hb htb in_Rows hown hK hP 0 rfl rfl 4 (by decide) (htb _ L_Rows_26) (fun _ h9 => h9) rfl d_Rows_replaceSets_97 ?_
  refine lv_iload hx hb d_Rows_replaceSets_100 (lv_at hl 4 rfl) ?_
  refine lv_iload hx hb d_Rows_replaceSets_102 (lv_at hl 0 rfl) ?_
  refine lv_iload_n hx hb d_Rows_replaceSets_104 rfl (lv_at hl 3 rfl) ?_
  refine lv_iadd hx hb d_Rows_replaceSets_105 ?_
  refine lv_iload_n hx hb d_Rows_replaceSets_106 rfl (lv_at hl 2 rfl) ?_
  refine lv_isub hx hb d_Rows_replaceSets_107 ?_
  by_cases c45 : (x4 < 0 ∨ 41 ≤ x4.toNatClampNeg)
  · replace h := (if_pos c45).symm.trans h
    cases h
  replace h := (if_neg c45).symm.trans h
  refine va_iast hx hb hK hP hD hS 4 0 rfl rfl c45 d_Rows_replaceSets_108 (fun H locs hP hD hS => ?_)
  obtain ⟨t_44, et_44, h⟩ := letS_el h
  have hP : va_P (gD g) vwCl ((pic_Rows g a_t r_pile t_44 t_35)) H := by rw [et_44]; exact hP
  have hD : va_D A ((pic_Rows g a_t r_pile t_44 t_35)) := by rw [et_44]; exact hD
  refine lv_aload_n hx hb d_Rows_replaceSets_109 rfl (lv_at hl 1 rfl) ?_
  refine lv_iload hx hb d_Rows_replaceSets_110 (lv_at hl 0 rfl) ?_
  refine lv_aload_n hx hb d_Rows_replaceSets_112 rfl (lv_at hl 1 rfl) ?_
  refine va_get (D := gD g) (ci := 6) (v := .int (t_44 2 0)) (C := R_Rows) (T := T_Rows) (N := 11) hx hb htb in_Rows hown hK hP 0 rfl rfl 2 (by decide) (htb _ L_Rows_18) (fun _ h9 => h9) rfl d_Rows_replaceSets_113 ?_
  refine lv_iadd hx hb d_Rows_replaceSets_116 ?_
  refine lv_iload_n hx hb d_Rows_replaceSets_117 rfl (lv_at hl 2 rfl) ?_
  refine lv_isub hx hb d_Rows_replaceSets_118 ?_
  refine va_put (D := gD g) (ci := 6) (v := .int ((y0 + (t_44 2 0)) - x2)) (ty := .int) (C := R_Rows) (T := T_Rows) (N := 11) hx hb htb in_Rows ty_Rows ty_Rows_ok nm_Rows hown hK hP hD hS 0 rfl rfl 2 (by decide) (htb _ L_Rows_18) (fun _ h9 => h9) rfl (by decide +kernel) rfl rfl (Nat.le_of_ble_eq_true rfl) d_Rows_replaceSets_119 (fun H locs hP hD hS => ?_)
  obtain ⟨t_46, et_46, h⟩ := letS_el h
  have hP : va_P (gD g) vwCl ((pic_Rows g a_t r_pile t_46 t_35)) H := by rw [et_46]; exact hP
  have hD : va_D A ((pic_Rows g a_t r_pile t_46 t_35)) := by rw [et_46]; exact hD
  refine lv_aload_n hx hb d_Rows_replaceSets_122 rfl (lv_at hl 1 rfl) ?_
  refine lv_iload hx hb d_Rows_replaceSets_123 (lv_at hl 4 rfl) ?_
  refine lv_iconst (v := 1) hx hb d_Rows_replaceSets_125 (by decide) ?_
  refine lv_iadd hx hb d_Rows_replaceSets_126 ?_
  refine va_put (D := gD g) (ci := 6) (v := .int (x4 + (1 : Int32))) (ty := .int) (C := R_Rows) (T := T_Rows) (N := 11) hx hb htb in_Rows ty_Rows ty_Rows_ok nm_Rows hown hK hP hD hS 0 rfl rfl 5 (by decide) (htb _ L_Rows_29) (fun _ h9 => h9) rfl (by decide +kernel) rfl rfl (Nat.le_of_ble_eq_true rfl) d_Rows_replaceSets_127 (fun H locs hP hD hS => ?_)
  obtain ⟨t_47, et_47, h⟩ := letS_el h
  have hP : va_P (gD g) vwCl ((pic_Rows g a_t r_pile t_47 t_35)) H := by rw [et_47]; exact hP
  have hD : va_D A ((pic_Rows g a_t r_pile t_47 t_35)) := by rw [et_47]; exact hD
  refine lv_aload_n hx hb d_Rows_replaceSets_130 rfl (lv_at hl 1 rfl) ?_
  refine va_get (D := gD g) (ci := 6) (v := .ref (a_t 4)) (C := R_Rows) (T := T_Rows) (N := 11) hx hb htb in_Rows hown hK hP 0 rfl rfl 3 (by decide) (htb _ L_Rows_22) (fun _ h9 => h9) rfl d_Rows_replaceSets_131 ?_
  refine lv_aload_n hx hb d_Rows_replaceSets_134 rfl (lv_at hl 1 rfl) ?_
  refine va_get (D := gD g) (ci := 6) (v := .int (t_47 5 0)) (C := R_Rows) (T := T_Rows) (N := 11) hx hb htb in_Rows hown hK hP 0 rfl rfl 5 (by decide) (htb _ L_Rows_29) (fun _ h9 => h9) rfl d_Rows_replaceSets_135 ?_
  refine lv_aload_n hx hb d_Rows_replaceSets_138 rfl (lv_at hl 1 rfl) ?_
  refine va_get (D := gD g) (ci := 6) (v := .int (t_47 2 0)) (C := R_Rows) (T := T_Rows) (N := 11) hx hb htb in_Rows hown hK hP 0 rfl rfl 2 (by decide) (htb _ L_Rows_18) (fun _ h9 => h9) rfl d_Rows_replaceSets_139 ?_
  by_cases c49 : ((t_47 5 0) < 0 ∨ 41 ≤ (t_47 5 0).toNatClampNeg)
  · replace h := (if_pos c49).symm.trans h
    cases h
  replace h := (if_neg c49).symm.trans h
  refine va_iast hx hb hK hP hD hS 3 0 rfl rfl c49 d_Rows_replaceSets_142 (fun H locs hP hD hS => ?_)
  obtain ⟨t_48, et_48, h⟩ := letS_el h
  have hP : va_P (gD g) vwCl ((pic_Rows g a_t r_pile t_48 t_35)) H := by rw [et_48]; exact hP
  have hD : va_D A ((pic_Rows g a_t r_pile t_48 t_35)) := by rw [et_48]; exact hD
  refine lv_iconst (v := 1) hx hb d_Rows_replaceSets_143 (by decide) ?_
  cases h
  exact W.zret hx hb hr rfl (fun t ht hW => ⟨⟨_, (), rfl, rfl, by rw [ht]; exact hP, hD⟩, hS.F ht⟩) hS.2.2 d_Rows_replaceSets_144
set_option maxHeartbeats 4000000 in
set_option maxRecDepth 100000 in
theorem k_Rows_replaceSets {p : Program} {l : Launch} {e : Env} {s : State} {m : MethodId} {args : Array Value} {below : List Frame} {meth : Method} {c : Code} {g : Gz} {A : Nat → Prop} {F : Nat} {a_t : Nat → Nat} {r_pile : Nat} (hC : Cx prog_7_method_18_code 6 (some .boolean) R_Rows p s m args meth c g A A) : ∀ (t : StI) (tL : StL) (x1 : Int32) (x2 : Int32) (x3 : Int32) (res : Int32 × StI × StL), Rows_replaceSets F t tL x1 x2 x3 = some res → Go p l e rm_Rows_replaceSets s m args below meth c g A A 6 (MQ below (EI g ((pic_Rows g a_t r_pile res.2.1 res.2.2)) res.1 A) args s 0 0 A) ((pic_Rows g a_t r_pile t tL)) [(0, .ref (a_t 0)), (1, .int x1), (2, .int x2), (3, .int x3)] 0 [] := by
  obtain ⟨hx, hb, hr, hml, hown, htb, hlocks, hA, hAA, hG⟩ := id hC
  have hK := hG.1
  intro t tL x1 x2 x3 res h H locs ls hP hD hS hl
  rw [Rows_replaceSets] at h
  refine lv_aload_n hx hb d_Rows_replaceSets_0 rfl (lv_at hl 0 rfl) ?_
  refine va_get (D := gD g) (ci := 6) (v := .int (t 5 0)) (C := R_Rows) (T := T_Rows) (N := 11) hx hb htb in_Rows hown hK hP 0 rfl rfl 5 (by decide) (htb _ L_Rows_29) (fun _ h9 => h9) rfl d_Rows_replaceSets_1 ?_
  refine lv_iload_n hx hb d_Rows_replaceSets_4 rfl (lv_at hl 1 rfl) ?_
  refine lv_isub hx hb d_Rows_replaceSets_5 ?_
  refine lv_istore (lv' := [(4, .int ((t 5 0) - x1)), (0, .ref (a_t 0)), (1, .int x1), (2, .int x2), (3, .int x3)]) hx hb d_Rows_replaceSets_6 hl (by decide) rfl (fun ls hl => ?_)
  refine lv_iload hx hb d_Rows_replaceSets_8 (lv_at hl 0 rfl) ?_
  refine lv_if_lt (tgt := 28) hx hb d_Rows_replaceSets_10 (by decide) (fun c50 => ?_) (fun c50 => ?_)
  · replace h := (if_pos c50).symm.trans h
    refine lv_iconst (v := 0) hx hb d_Rows_replaceSets_28 (by decide) ?_
    cases h
    exact W.zret hx hb hr rfl (fun t ht hW => ⟨⟨_, (), rfl, rfl, by rw [ht]; exact hP, hD⟩, hS.F ht⟩) hS.2.2 d_Rows_replaceSets_29
  · replace h := (if_neg c50).symm.trans h
    refine lv_iload hx hb d_Rows_replaceSets_13 (lv_at hl 0 rfl) ?_
    refine lv_bipush (v := 40) hx hb d_Rows_replaceSets_15 (by decide) ?_
    refine lv_icmp_ge (tgt := 28) hx hb d_Rows_replaceSets_17 (by decide) (fun c51 => ?_) (fun c51 => ?_)
    · replace h := (if_pos c51).symm.trans h
      refine lv_iconst (v := 0) hx hb d_Rows_replaceSets_28 (by decide) ?_
      cases h
      exact W.zret hx hb hr rfl (fun t ht hW => ⟨⟨_, (), rfl, rfl, by rw [ht]; exact hP, hD⟩, hS.F ht⟩) hS.2.2 d_Rows_replaceSets_29
    · replace h := (if_neg c51).symm.trans h
      refine lv_aload_n hx hb d_Rows_replaceSets_20 rfl (lv_at hl 1 rfl) ?_
      refine va_get (D := gD g) (ci := 6) (v := .int (t 2 0)) (C := R_Rows) (T := T_Rows) (N := 11) hx hb htb in_Rows hown hK hP 0 rfl rfl 2 (by decide) (htb _ L_Rows_18) (fun _ h9 => h9) rfl d_Rows_replaceSets_21 ?_
      refine lv_iload_n hx hb d_Rows_replaceSets_24 rfl (lv_at hl 3 rfl) ?_
      refine lv_icmp_ge (tgt := 30) hx hb d_Rows_replaceSets_25 (by decide) (fun c52 => ?_) (fun c52 => ?_)
      · replace h := (if_pos c52).symm.trans h
        refine lv_iload_n hx hb d_Rows_replaceSets_30 rfl (lv_at hl 2 rfl) ?_
        refine lv_if_le (tgt := 44) hx hb d_Rows_replaceSets_31 (by decide) (fun c53 => ?_) (fun c53 => ?_)
        · replace h := (if_pos c53).symm.trans h
          refine lv_iload_n hx hb d_Rows_replaceSets_44 rfl (lv_at hl 3 rfl) ?_
          exact k_Rows_replaceSets_45 hC _ _ _ _ _ _ _ h _ _ _ hP hD hS (lv_sub hl [1, 3, 4, 0] rfl)
        · replace h := (if_neg c53).symm.trans h
          refine lv_aload_n hx hb d_Rows_replaceSets_34 rfl (lv_at hl 1 rfl) ?_
          refine va_get (D := gD g) (ci := 6) (v := .ref (a_t 4)) (C := R_Rows) (T := T_Rows) (N := 11) hx hb htb in_Rows hown hK hP 0 rfl rfl 3 (by decide) (htb _ L_Rows_22) (fun _ h9 => h9) rfl d_Rows_replaceSets_35 ?_
          refine lv_iload hx hb d_Rows_replaceSets_38 (lv_at hl 0 rfl) ?_
          by_cases c54 : (((t 5 0) - x1) < 0 ∨ 41 ≤ ((t 5 0) - x1).toNatClampNeg)
          · replace h := (if_pos c54).symm.trans h
            cases h
          replace h := (if_neg c54).symm.trans h
          refine va_iald hx hb hK hP 3 0 rfl rfl c54 d_Rows_replaceSets_40 ?_
          refine lv_goto (tgt := 45) hx hb d_Rows_replaceSets_41 (by decide) ?_
          exact k_Rows_replaceSets_45 hC _ _ _ _ _ _ _ h _ _ _ hP hD hS (lv_sub hl [1, 3, 4, 0] rfl)
      · replace h := (if_neg c52).symm.trans h
        refine lv_iconst (v := 0) hx hb d_Rows_replaceSets_28 (by decide) ?_
        cases h
        exact W.zret hx hb hr rfl (fun t ht hW => ⟨⟨_, (), rfl, rfl, by rw [ht]; exact hP, hD⟩, hS.F ht⟩) hS.2.2 d_Rows_replaceSets_29
theorem c_Rows_replaceSets (l : Launch) (g : Gz) (F : Nat) (a_t : Nat → Nat) (r_pile : Nat) (t : StI) (tL : StL) (x1 : Int32) (x2 : Int32) (x3 : Int32) (res : Int32 × StI × StL) (h : Rows_replaceSets F t tL x1 x2 x3 = some res) : ∀ sz : Nat, Met l y_Rows_replaceSets (.code y_Rows_replaceSets prog_7_method_18_code 6 (some .boolean) :: TBL) rm_Rows_replaceSets (va_Pc [.ref (a_t 0), .int x1, .int x2, .int x3] (Pre0 g ((pic_Rows g a_t r_pile t tL)) sz)) (EI g ((pic_Rows g a_t r_pile res.2.1 res.2.2)) res.1 (va_A ((pic_Rows g a_t r_pile t tL)) sz)) 0 0 (va_A ((pic_Rows g a_t r_pile t tL)) sz) :=
  ct_w (Qc := fun A => EI g ((pic_Rows g a_t r_pile res.2.1 res.2.2)) res.1 A) (by decide) (Nat.le_of_ble_eq_true rfl) (fun p e s m args below meth c A hC => k_Rows_replaceSets hC t tL x1 x2 x3 res h)
def Rows_makeSet_208 (F : Nat) (t : StI) (tL : StL) (x3 : Int32) (x5 : Int32) (y0 : Int32) : Option (Int32 × StI × StL) := if y0 = 0 then some ((0 : Int32), t, tL) else (Rows_replaceSets F t tL (2 : Int32) x3 x5).bind fun r30 => if r30.1 = 0 then some ((0 : Int32), r30.2.1, r30.2.2) else some ((1 : Int32), r30.2.1, r30.2.2)
def Rows_makeSet_207 (F : Nat) (t : StI) (tL : StL) (x3 : Int32) (x5 : Int32) : Option (Int32 × StI × StL) := Rows_makeSet_208 F t tL x3 x5 (0 : Int32)
def Rows_makeSet_203 (F : Nat) (t : StI) (tL : StL) (x3 : Int32) (x5 : Int32) : Option (Int32 × StI × StL) := Rows_makeSet_208 F t tL x3 x5 (1 : Int32)
def Rows_makeSet_176 (F : Nat) (t : StI) (tL : StL) (x1 : Int32) (x2 : Int32) (x3 : Int32) (y0 : Int32) : Option (Int32 × StI × StL) := if y0 = 0 then Rows_makeSet_207 F t tL x3 (t 2 0) else if (x2 &&& (2 : Int32)) = 0 then Rows_makeSet_203 F t tL x3 (t 2 0) else (Rows_joinTurned F t tL x1).bind fun r34 => if r34.1 = 0 then Rows_makeSet_207 F r34.2.1 r34.2.2 x3 (t 2 0) else Rows_makeSet_203 F r34.2.1 r34.2.2 x3 (t 2 0)
def Rows_makeSet_171 (F : Nat) (t : StI) (tL : StL) (x1 : Int32) (x2 : Int32) (x3 : Int32) : Option (Int32 × StI × StL) := Rows_makeSet_176 F t tL x1 x2 x3 (1 : Int32)
def Rows_makeSet_69 (F : Nat) (t : StI) (tL : StL) (x3 : Int32) (x5 : Int32) (y0 : Int32) : Option (Int32 × StI × StL) := if y0 = 0 then some ((0 : Int32), t, tL) else (Rows_replaceSets F t tL (0 : Int32) x3 x5).bind fun r37 => if r37.1 = 0 then some ((0 : Int32), r37.2.1, r37.2.2) else some ((1 : Int32), r37.2.1, r37.2.2)
def Rows_makeSet_68 (F : Nat) (t : StI) (tL : StL) (x3 : Int32) (x5 : Int32) : Option (Int32 × StI × StL) := Rows_makeSet_69 F t tL x3 x5 (0 : Int32)
def Rows_makeSet_64 (F : Nat) (t : StI) (tL : StL) (x3 : Int32) (x5 : Int32) : Option (Int32 × StI × StL) := Rows_makeSet_69 F t tL x3 x5 (1 : Int32)
def Rows_makeSet_32 (F : Nat) (t : StI) (tL : StL) (x1 : Int32) (x2 : Int32) (x3 : Int32) (y0 : Int32) : Option (Int32 × StI × StL) := if y0 = 0 then Rows_makeSet_68 F t tL x3 (t 2 0) else if (x2 &&& (2 : Int32)) = 0 then Rows_makeSet_64 F t tL x3 (t 2 0) else (Rows_put F t tL (t 2 0) (0 : Int64) ((1 : Int64) <<< (x1.toInt64 &&& 63))).bind fun r41 => if r41.1 = 0 then Rows_makeSet_68 F r41.2.1 r41.2.2 x3 (t 2 0) else Rows_makeSet_64 F r41.2.1 r41.2.2 x3 (t 2 0)
def Rows_makeSet_27 (F : Nat) (t : StI) (tL : StL) (x1 : Int32) (x2 : Int32) (x3 : Int32) : Option (Int32 × StI × StL) := Rows_makeSet_32 F t tL x1 x2 x3 (1 : Int32)
def Rows_makeSet (F : Nat) (t : StI) (tL : StL) (x1 : Int32) (x2 : Int32) : Option (Int32 × StI × StL) := if x1 < 0 then if x1 = (-2 : Int32) then (Rows_putSide F t tL (t 2 0) ((t 5 0) - (1 : Int32)) (2 : Int32)).bind fun r48 => if r48.1 = 0 then some ((0 : Int32), r48.2.1, r48.2.2) else (Rows_putSide F r48.2.1 r48.2.2 (r48.2.1 2 0) ((r48.2.1 5 0) - (1 : Int32)) (1 : Int32)).bind fun r50 => if r50.1 = 0 then some ((0 : Int32), r50.2.1, r50.2.2) else (Rows_replaceSets F r50.2.1 r50.2.2 (1 : Int32) (t 2 0) (r48.2.1 2 0)).bind fun r52 => if r52.1 = 0 then some ((0 : Int32), r52.2.1, r52.2.2) else some ((1 : Int32), r52.2.1, r52.2.2) else if (x2 &&& (1 : Int32)) = 0 then Rows_makeSet_171 F t tL x1 x2 (t 2 0) else (Rows_joinAsIs F t tL x1).bind fun r46 => if r46.1 = 0 then Rows_makeSet_176 F r46.2.1 r46.2.2 x1 x2 (t 2 0) (0 : Int32) else Rows_makeSet_171 F r46.2.1 r46.2.2 x1 x2 (t 2 0) else if (x2 &&& (1 : Int32)) = 0 then Rows_makeSet_27 F t tL x1 x2 (t 2 0) else (Rows_put F t tL (t 2 0) ((1 : Int64) <<< (x1.toInt64 &&& 63)) (0 : Int64)).bind fun r55 => if r55.1 = 0 then Rows_makeSet_32 F r55.2.1 r55.2.2 x1 x2 (t 2 0) (0 : Int32) else Rows_makeSet_27 F r55.2.1 r55.2.2 x1 x2 (t 2 0)
set_option maxHeartbeats 4000000 in
set_option maxRecDepth 100000 in
theorem k_Rows_makeSet_208 {p : Program} {l : Launch} {e : Env} {s : State} {m : MethodId} {args : Array Value} {below : List Frame} {meth : Method} {c : Code} {g : Gz} {A : Nat → Prop} {F : Nat} {a_t : Nat → Nat} {r_pile : Nat} (hC : Cx prog_7_method_6_code 6 (some .boolean) R_Rows p s m args meth c g A A) : ∀ (t : StI) (tL : StL) (x3 : Int32) (x5 : Int32) (y0 : Int32) (res : Int32 × StI × StL), Rows_makeSet_208 F t tL x3 x5 y0 = some res → Go p l e rm_Rows_makeSet s m args below meth c g A A 6 (MQ below (EI g ((pic_Rows g a_t r_pile res.2.1 res.2.2)) res.1 A) args s 0 0 A) ((pic_Rows g a_t r_pile t tL)) [(0, .ref (a_t 0)), (3, .int x3), (5, .int x5)] 208 [.int y0] := by
  obtain ⟨hx, hb, hr, hml, hown, htb, hlocks, hA, hAA, hG⟩ := id hC
  have hK := hG.1
  intro t tL x3 x5 y0 res h H locs ls hP hD hS hl
  rw [Rows_makeSet_208] at h
  refine lv_istore (lv' := [(4, .int y0), (0, .ref (a_t 0)), (3, .int x3), (5, .int x5)]) hx hb d_Rows_makeSet_208 hl (by decide) rfl (fun ls hl => ?_)
  refine lv_iload hx hb d_Rows_makeSet_210 (lv_at hl 0 rfl) ?_
  refine lv_if_eq (tgt := 230) hx hb d_Rows_makeSet_212 (by decide) (fun c29 => ?_) (fun c29 => ?_)
  · replace h := (if_pos c29).symm.trans h
    refine lv_iconst (v := 0) hx hb d_Rows_makeSet_230 (by decide) ?_
    cases h
    exact W.zret hx hb hr rfl (fun t ht hW => ⟨⟨_, (), rfl, rfl, by rw [ht]; exact hP, hD⟩, hS.F ht⟩) hS.2.2 d_Rows_makeSet_231
  · replace h := (if_neg c29).symm.trans h
    refine lv_aload_n hx hb d_Rows_makeSet_215 rfl (lv_at hl 1 rfl) ?_
    refine lv_iconst (v := 2) hx hb d_Rows_makeSet_216 (by decide) ?_
    refine lv_iload_n hx hb d_Rows_makeSet_217 rfl (lv_at hl 2 rfl) ?_
    refine lv_iload hx hb d_Rows_makeSet_218 (lv_at hl 3 rfl) ?_
    obtain ⟨r30, hr30, h⟩ := Option.bind_eq_some_iff.mp h
    refine cl_I (wr := []) [0, 1, 2, 3, 4, 5, 6, 7] [] rfl rfl rfl (by decide) hP hD hS hA (va_runV (As := [.int (2 : Int32), .int x3, .int x5]) (rest := []) ⟨hx, hb, hml, hown, htb⟩ (c_Rows_replaceSets l g F a_t r_pile t tL (2 : Int32) x3 x5 _ hr30 H.size) (cw_V htb mb_Rows_replaceSets (htb _ L_Rows_108) rfl rfl ⟨Nat.le_of_ble_eq_true rfl, Nat.le_of_ble_eq_true rfl⟩) (pre_V (va_recv hK hP (ci := 6) (q0 := 0) rfl rfl) (pre_S [0, 1, 2, 3, 4, 5, 6, 7] rfl rfl hP hD hS hA hAA hG)) rfl rfl hl.1 rfl (lv_room (Nat.le_of_ble_eq_true rfl)) d_Rows_makeSet_220 ⟨Nat.zero_le _, Nat.zero_le _⟩) (fun H locs hP hD hS => ?_)
    have hP : va_P (gD g) vwCl ((pic_Rows g a_t r_pile r30.2.1 r30.2.2)) H := hP.sub [0, 1, 2, 3, 4, 5, 6, 7] rfl
    have hD : va_D A ((pic_Rows g a_t r_pile r30.2.1 r30.2.2)) := hD.sub [0, 1, 2, 3, 4, 5, 6, 7] rfl rfl
    refine lv_if_eq (tgt := 230) hx hb d_Rows_makeSet_223 (by decide) (fun c31 => ?_) (fun c31 => ?_)
    · replace h := (if_pos c31).symm.trans h
      refine lv_iconst (v := 0) hx hb d_Rows_makeSet_230 (by decide) ?_
      cases h
      exact W.zret hx hb hr rfl (fun t ht hW => ⟨⟨_, (), rfl, rfl, by rw [ht]; exact hP, hD⟩, hS.F ht⟩) hS.2.2 d_Rows_makeSet_231
    · replace h := (if_neg c31).symm.trans h
      refine lv_iconst (v := 1) hx hb d_Rows_makeSet_226 (by decide) ?_
      refine lv_goto (tgt := 231) hx hb d_Rows_makeSet_227 (by decide) ?_
      cases h
      exact W.zret hx hb hr rfl (fun t ht hW => ⟨⟨_, (), rfl, rfl, by rw [ht]; exact hP, hD⟩, hS.F ht⟩) hS.2.2 d_Rows_makeSet_231
set_option maxHeartbeats 4000000 in
set_option maxRecDepth 100000 in
theorem k_Rows_makeSet_207 {p : Program} {l : Launch} {e : Env} {s : State} {m : MethodId} {args : Array Value} {below : List Frame} {meth : Method} {c : Code} {g : Gz} {A : Nat → Prop} {F : Nat} {a_t : Nat → Nat} {r_pile : Nat} (hC : Cx prog_7_method_6_code 6 (some .boolean) R_Rows p s m args meth c g A A) : ∀ (t : StI) (tL : StL) (x3 : Int32) (x5 : Int32) (res : Int32 × StI × StL), Rows_makeSet_207 F t tL x3 x5 = some res → Go p l e rm_Rows_makeSet s m args below meth c g A A 6 (MQ below (EI g ((pic_Rows g a_t r_pile res.2.1 res.2.2)) res.1 A) args s 0 0 A) ((pic_Rows g a_t r_pile t tL)) [(0, .ref (a_t 0)), (3, .int x3), (5, .int x5)] 207 [] := by
  obtain ⟨hx, hb, hr, hml, hown, htb, hlocks, hA, hAA, hG⟩ := id hC
  have hK := hG.1
  intro t tL x3 x5 res h H locs ls hP hD hS hl
  rw [Rows_makeSet_207] at h
  refine lv_iconst (v := 0) hx hb d_Rows_makeSet_207 (by decide) ?_
  exact k_Rows_makeSet_208 hC _ _ _ _ _ _ h _ _ _ hP hD hS (lv_sub hl [0, 1, 2] rfl)
set_option maxHeartbeats 4000000 in
set_option maxRecDepth 100000 in
theorem k_Rows_makeSet_203 {p : Program} {l : Launch} {e : Env} {s : State} {m : MethodId} {args : Array Value} {below : List Frame} {meth : Method} {c : Code} {g : Gz} {A : Nat → Prop} {F : Nat} {a_t : Nat → Nat} {r_pile : Nat} (hC : Cx prog_7_method_6_code 6 (some .boolean) R_Rows p s m args meth c g A A) : ∀ (t : StI) (tL : StL) (x3 : Int32) (x5 : Int32) (res : Int32 × StI × StL), Rows_makeSet_203 F t tL x3 x5 = some res → Go p l e rm_Rows_makeSet s m args below meth c g A A 6 (MQ below (EI g ((pic_Rows g a_t r_pile res.2.1 res.2.2)) res.1 A) args s 0 0 A) ((pic_Rows g a_t r_pile t tL)) [(0, .ref (a_t 0)), (3, .int x3), (5, .int x5)] 203 [] := by
  obtain ⟨hx, hb, hr, hml, hown, htb, hlocks, hA, hAA, hG⟩ := id hC
  have hK := hG.1
  intro t tL x3 x5 res h H locs ls hP hD hS hl
  rw [Rows_makeSet_203] at h
  refine lv_iconst (v := 1) hx hb d_Rows_makeSet_203 (by decide) ?_
  refine lv_goto (tgt := 208) hx hb d_Rows_makeSet_204 (by decide) ?_
  exact k_Rows_makeSet_208 hC _ _ _ _ _ _ h _ _ _ hP hD hS (lv_sub hl [0, 1, 2] rfl)
set_option maxHeartbeats 4000000 in
set_option maxRecDepth 100000 in
theorem k_Rows_makeSet_176 {p : Program} {l : Launch} {e : Env} {s : State} {m : MethodId} {args : Array Value} {below : List Frame} {meth : Method} {c : Code} {g : Gz} {A : Nat → Prop} {F : Nat} {a_t : Nat → Nat} {r_pile : Nat} (hC : Cx prog_7_method_6_code 6 (some .boolean) R_Rows p s m args meth c g A A) : ∀ (t : StI) (tL : StL) (x1 : Int32) (x2 : Int32) (x3 : Int32) (y0 : Int32) (res : Int32 × StI × StL), Rows_makeSet_176 F t tL x1 x2 x3 y0 = some res → Go p l e rm_Rows_makeSet s m args below meth c g A A 6 (MQ below (EI g ((pic_Rows g a_t r_pile res.2.1 res.2.2)) res.1 A) args s 0 0 A) ((pic_Rows g a_t r_pile t tL)) [(0, .ref (a_t 0)), (1, .int x1), (2, .int x2), (3, .int x3)] 176 [.int y0] := by
  obtain ⟨hx, hb, hr, hml, hown, htb, hlocks, hA, hAA, hG⟩ := id hC
  have hK := hG.1
  intro t tL x1 x2 x3 y0 res h H locs ls hP hD hS hl
  rw [Rows_makeSet_176] at h
  refine lv_istore (lv' := [(4, .int y0), (0, .ref (a_t 0)), (1, .int x1), (2, .int x2), (3, .int x3)]) hx hb d_Rows_makeSet_176 hl (by decide) rfl (fun ls hl => ?_)
  refine lv_aload_n hx hb d_Rows_makeSet_178 rfl (lv_at hl 1 rfl) ?_
  refine va_get (D := gD g) (ci := 6) (v := .int (t 2 0)) (C := R_Rows) (T := T_Rows) (N := 11) hx hb htb in_Rows hown hK hP 0 rfl rfl 2 (by decide) (htb _ L_Rows_18) (fun _ h9 => h9) rfl d_Rows_makeSet_179 ?_
  refine lv_istore (lv' := [(5, .int (t 2 0)), (4, .int y0), (0, .ref (a_t 0)), (1, .int x1), (2, .int x2), (3, .int x3)]) hx hb d_Rows_makeSet_182 hl (by decide) rfl (fun ls hl => ?_)
  refine lv_iload hx hb d_Rows_makeSet_184 (lv_at hl 1 rfl) ?_
  refine lv_if_eq (tgt := 207) hx hb d_Rows_makeSet_186 (by decide) (fun c32 => ?_) (fun c32 => ?_)
  · replace h := (if_pos c32).symm.trans h
    exact k_Rows_makeSet_207 hC _ _ _ _ _ h _ _ _ hP hD hS (lv_sub hl [2, 5, 0] rfl)
  · replace h := (if_neg c32).symm.trans h
    refine lv_iload_n hx hb d_Rows_makeSet_189 rfl (lv_at hl 4 rfl) ?_
    refine lv_iconst (v := 2) hx hb d_Rows_makeSet_190 (by decide) ?_
    refine lv_iand hx hb d_Rows_makeSet_191 ?_
    refine lv_if_eq (tgt := 203) hx hb d_Rows_makeSet_192 (by decide) (fun c33 => ?_) (fun c33 => ?_)
    · replace h := (if_pos c33).symm.trans h
      exact k_Rows_makeSet_203 hC _ _ _ _ _ h _ _ _ hP hD hS (lv_sub hl [2, 5, 0] rfl)
    · replace h := (if_neg c33).symm.trans h
      refine lv_aload_n hx hb d_Rows_makeSet_195 rfl (lv_at hl 2 rfl) ?_
      refine lv_iload_n hx hb d_Rows_makeSet_196 rfl (lv_at hl 3 rfl) ?_
      obtain ⟨r34, hr34, h⟩ := Option.bind_eq_some_iff.mp h
      refine cl_I (wr := []) [0, 1, 2, 3, 4, 5, 6, 7] [] rfl rfl rfl (by decide) hP hD hS hA (va_runV (As := [.int x1]) (rest := []) ⟨hx, hb, hml, hown, htb⟩ (c_Rows_joinTurned l g F a_t r_pile t tL x1 _ hr34 H.size) (cw_V htb mb_Rows_joinTurned (htb _ L_Rows_119) rfl rfl ⟨Nat.le_of_ble_eq_true rfl, Nat.le_of_ble_eq_true rfl⟩) (pre_V (va_recv hK hP (ci := 6) (q0 := 0) rfl rfl) (pre_S [0, 1, 2, 3, 4, 5, 6, 7] rfl rfl hP hD hS hA hAA hG)) rfl rfl hl.1 rfl (lv_room (Nat.le_of_ble_eq_true rfl)) d_Rows_makeSet_197 ⟨Nat.zero_le _, Nat.zero_le _⟩) (fun H locs hP hD hS => ?_)
      have hP : va_P (gD g) vwCl ((pic_Rows g a_t r_pile r34.2.1 r34.2.2)) H := hP.sub [0, 1, 2, 3, 4, 5, 6, 7] rfl
      have hD : va_D A ((pic_Rows g a_t r_pile r34.2.1 r34.2.2)) := hD.sub [0, 1, 2, 3, 4, 5, 6, 7] rfl rfl
      refine lv_if_eq (tgt := 207) hx hb d_Rows_makeSet_200 (by decide) (fun c35 => ?_) (fun c35 => ?_)
      · replace h := (if_pos c35).symm.trans h
        exact k_Rows_makeSet_207 hC _ _ _ _ _ h _ _ _ hP hD hS (lv_sub hl [2, 5, 0] rfl)
      · replace h := (if_neg c35).symm.trans h
        exact k_Rows_makeSet_203 hC _ _ _ _ _ h _ _ _ hP hD hS (lv_sub hl [2, 5, 0] rfl)
set_option maxHeartbeats 4000000 in
set_option maxRecDepth 100000 in
theorem k_Rows_makeSet_171 {p : Program} {l : Launch} {e : Env} {s : State} {m : MethodId} {args : Array Value} {below : List Frame} {meth : Method} {c : Code} {g : Gz} {A : Nat → Prop} {F : Nat} {a_t : Nat → Nat} {r_pile : Nat} (hC : Cx prog_7_method_6_code 6 (some .boolean) R_Rows p s m args meth c g A A) : ∀ (t : StI) (tL : StL) (x1 : Int32) (x2 : Int32) (x3 : Int32) (res : Int32 × StI × StL), Rows_makeSet_171 F t tL x1 x2 x3 = some res → Go p l e rm_Rows_makeSet s m args below meth c g A A 6 (MQ below (EI g ((pic_Rows g a_t r_pile res.2.1 res.2.2)) res.1 A) args s 0 0 A) ((pic_Rows g a_t r_pile t tL)) [(0, .ref (a_t 0)), (1, .int x1), (2, .int x2), (3, .int x3)] 171 [] := by
  obtain ⟨hx, hb, hr, hml, hown, htb, hlocks, hA, hAA, hG⟩ := id hC
  have hK := hG.1
  intro t tL x1 x2 x3 res h H locs ls hP hD hS hl
  rw [Rows_makeSet_171] at h
  refine lv_iconst (v := 1) hx hb d_Rows_makeSet_171 (by decide) ?_
  refine lv_goto (tgt := 176) hx hb d_Rows_makeSet_172 (by decide) ?_
  exact k_Rows_makeSet_176 hC _ _ _ _ _ _ _ h _ _ _ hP hD hS (lv_sub hl [0, 1, 2, 3] rfl)
set_option maxHeartbeats 4000000 in
set_option maxRecDepth 100000 in
theorem k_Rows_makeSet_69 {p : Program} {l : Launch} {e : Env} {s : State} {m : MethodId} {args : Array Value} {below : List Frame} {meth : Method} {c : Code} {g : Gz} {A : Nat → Prop} {F : Nat} {a_t : Nat → Nat} {r_pile : Nat} (hC : Cx prog_7_method_6_code 6 (some .boolean) R_Rows p s m args meth c g A A) : ∀ (t : StI) (tL : StL) (x3 : Int32) (x5 : Int32) (y0 : Int32) (res : Int32 × StI × StL), Rows_makeSet_69 F t tL x3 x5 y0 = some res → Go p l e rm_Rows_makeSet s m args below meth c g A A 6 (MQ below (EI g ((pic_Rows g a_t r_pile res.2.1 res.2.2)) res.1 A) args s 0 0 A) ((pic_Rows g a_t r_pile t tL)) [(0, .ref (a_t 0)), (3, .int x3), (5, .int x5)] 69 [.int y0] := by
  obtain ⟨hx, hb, hr, hml, hown, htb, hlocks, hA, hAA, hG⟩ := id hC
  have hK := hG.1
  intro t tL x3 x5 y0 res h H locs ls hP hD hS hl
  rw [Rows_makeSet_69] at h
  refine lv_istore (lv' := [(4, .int y0), (0, .ref (a_t 0)), (3, .int x3), (5, .int x5)]) hx hb d_Rows_makeSet_69 hl (by decide) rfl (fun ls hl => ?_)
  refine lv_iload hx hb d_Rows_makeSet_71 (lv_at hl 0 rfl) ?_
  refine lv_if_eq (tgt := 91) hx hb d_Rows_makeSet_73 (by decide) (fun c36 => ?_) (fun c36 => ?_)
  · replace h := (if_pos c36).symm.trans h
    refine lv_iconst (v := 0) hx hb d_Rows_makeSet_91 (by decide) ?_
    cases h
    exact W.zret hx hb hr rfl (fun t ht hW => ⟨⟨_, (), rfl, rfl, by rw [ht]; exact hP, hD⟩, hS.F ht⟩) hS.2.2 d_Rows_makeSet_92
  · replace h := (if_neg c36).symm.trans h
    refine lv_aload_n hx hb d_Rows_makeSet_76 rfl (lv_at hl 1 rfl) ?_
    refine lv_iconst (v := 0) hx hb d_Rows_makeSet_77 (by decide) ?_
    refine lv_iload_n hx hb d_Rows_makeSet_78 rfl (lv_at hl 2 rfl) ?_
    refine lv_iload hx hb d_Rows_makeSet_79 (lv_at hl 3 rfl) ?_
    obtain ⟨r37, hr37, h⟩ := Option.bind_eq_some_iff.mp h
    refine cl_I (wr := []) [0, 1, 2, 3, 4, 5, 6, 7] [] rfl rfl rfl (by decide) hP hD hS hA (va_runV (As := [.int (0 : Int32), .int x3, .int x5]) (rest := []) ⟨hx, hb, hml, hown, htb⟩ (c_Rows_replaceSets l g F a_t r_pile t tL (0 : Int32) x3 x5 _ hr37 H.size) (cw_V htb mb_Rows_replaceSets (htb _ L_Rows_108) rfl rfl ⟨Nat.le_of_ble_eq_true rfl, Nat.le_of_ble_eq_true rfl⟩) (pre_V (va_recv hK hP (ci := 6) (q0 := 0) rfl rfl) (pre_S [0, 1, 2, 3, 4, 5, 6, 7] rfl rfl hP hD hS hA hAA hG)) rfl rfl hl.1 rfl (lv_room (Nat.le_of_ble_eq_true rfl)) d_Rows_makeSet_81 ⟨Nat.zero_le _, Nat.zero_le _⟩) (fun H locs hP hD hS => ?_)
    have hP : va_P (gD g) vwCl ((pic_Rows g a_t r_pile r37.2.1 r37.2.2)) H := hP.sub [0, 1, 2, 3, 4, 5, 6, 7] rfl
    have hD : va_D A ((pic_Rows g a_t r_pile r37.2.1 r37.2.2)) := hD.sub [0, 1, 2, 3, 4, 5, 6, 7] rfl rfl
    refine lv_if_eq (tgt := 91) hx hb d_Rows_makeSet_84 (by decide) (fun c38 => ?_) (fun c38 => ?_)
    · replace h := (if_pos c38).symm.trans h
      refine lv_iconst (v := 0) hx hb d_Rows_makeSet_91 (by decide) ?_
      cases h
      exact W.zret hx hb hr rfl (fun t ht hW => ⟨⟨_, (), rfl, rfl, by rw [ht]; exact hP, hD⟩, hS.F ht⟩) hS.2.2 d_Rows_makeSet_92
    · replace h := (if_neg c38).symm.trans h
      refine lv_iconst (v := 1) hx hb d_Rows_makeSet_87 (by decide) ?_
      refine lv_goto (tgt := 92) hx hb d_Rows_makeSet_88 (by decide) ?_
      cases h
      exact W.zret hx hb hr rfl (fun t ht hW => ⟨⟨_, (), rfl, rfl, by rw [ht]; exact hP, hD⟩, hS.F ht⟩) hS.2.2 d_Rows_makeSet_92
set_option maxHeartbeats 4000000 in
set_option maxRecDepth 100000 in
theorem k_Rows_makeSet_68 {p : Program} {l : Launch} {e : Env} {s : State} {m : MethodId} {args : Array Value} {below : List Frame} {meth : Method} {c : Code} {g : Gz} {A : Nat → Prop} {F : Nat} {a_t : Nat → Nat} {r_pile : Nat} (hC : Cx prog_7_method_6_code 6 (some .boolean) R_Rows p s m args meth c g A A) : ∀ (t : StI) (tL : StL) (x3 : Int32) (x5 : Int32) (res : Int32 × StI × StL), Rows_makeSet_68 F t tL x3 x5 = some res → Go p l e rm_Rows_makeSet s m args below meth c g A A 6 (MQ below (EI g ((pic_Rows g a_t r_pile res.2.1 res.2.2)) res.1 A) args s 0 0 A) ((pic_Rows g a_t r_pile t tL)) [(0, .ref (a_t 0)), (3, .int x3), (5, .int x5)] 68 [] := by
  obtain ⟨hx, hb, hr, hml, hown, htb, hlocks, hA, hAA, hG⟩ := id hC
  have hK := hG.1
  intro t tL x3 x5 res h H locs ls hP hD hS hl
  rw [Rows_makeSet_68] at h
  refine lv_iconst (v := 0) hx hb d_Rows_makeSet_68 (by decide) ?_
  exact k_Rows_makeSet_69 hC _ _ _ _ _ _ h _ _ _ hP hD hS (lv_sub hl [0, 1, 2] rfl)
set_option maxHeartbeats 4000000 in
set_option maxRecDepth 100000 in
theorem k_Rows_makeSet_64 {p : Program} {l : Launch} {e : Env} {s : State} {m : MethodId} {args : Array Value} {below : List Frame} {meth : Method} {c : Code} {g : Gz} {A : Nat → Prop} {F : Nat} {a_t : Nat → Nat} {r_pile : Nat} (hC : Cx prog_7_method_6_code 6 (some .boolean) R_Rows p s m args meth c g A A) : ∀ (t : StI) (tL : StL) (x3 : Int32) (x5 : Int32) (res : Int32 × StI × StL), Rows_makeSet_64 F t tL x3 x5 = some res → Go p l e rm_Rows_makeSet s m args below meth c g A A 6 (MQ below (EI g ((pic_Rows g a_t r_pile res.2.1 res.2.2)) res.1 A) args s 0 0 A) ((pic_Rows g a_t r_pile t tL)) [(0, .ref (a_t 0)), (3, .int x3), (5, .int x5)] 64 [] := by
  obtain ⟨hx, hb, hr, hml, hown, htb, hlocks, hA, hAA, hG⟩ := id hC
  have hK := hG.1
  intro t tL x3 x5 res h H locs ls hP hD hS hl
  rw [Rows_makeSet_64] at h
  refine lv_iconst (v := 1) hx hb d_Rows_makeSet_64 (by decide) ?_
  refine lv_goto (tgt := 69) hx hb d_Rows_makeSet_65 (by decide) ?_
  exact k_Rows_makeSet_69 hC _ _ _ _ _ _ h _ _ _ hP hD hS (lv_sub hl [0, 1, 2] rfl)
set_option maxHeartbeats 4000000 in
set_option maxRecDepth 100000 in
theorem k_Rows_makeSet_32 {p : Program} {l : Launch} {e : Env} {s : State} {m : MethodId} {args : Array Value} {below : List Frame} {meth : Method} {c : Code} {g : Gz} {A : Nat → Prop} {F : Nat} {a_t : Nat → Nat} {r_pile : Nat} (hC : Cx prog_7_method_6_code 6 (some .boolean) R_Rows p s m args meth c g A A) : ∀ (t : StI) (tL : StL) (x1 : Int32) (x2 : Int32) (x3 : Int32) (y0 : Int32) (res : Int32 × StI × StL), Rows_makeSet_32 F t tL x1 x2 x3 y0 = some res → Go p l e rm_Rows_makeSet s m args below meth c g A A 6 (MQ below (EI g ((pic_Rows g a_t r_pile res.2.1 res.2.2)) res.1 A) args s 0 0 A) ((pic_Rows g a_t r_pile t tL)) [(0, .ref (a_t 0)), (1, .int x1), (2, .int x2), (3, .int x3)] 32 [.int y0] := by
  obtain ⟨hx, hb, hr, hml, hown, htb, hlocks, hA, hAA, hG⟩ := id hC
  have hK := hG.1
  intro t tL x1 x2 x3 y0 res h H locs ls hP hD hS hl
  rw [Rows_makeSet_32] at h
  refine lv_istore (lv' := [(4, .int y0), (0, .ref (a_t 0)), (1, .int x1), (2, .int x2), (3, .int x3)]) hx hb d_Rows_makeSet_32 hl (by decide) rfl (fun ls hl => ?_)
  refine lv_aload_n hx hb d_Rows_makeSet_34 rfl (lv_at hl 1 rfl) ?_
  refine va_get (D := gD g) (ci := 6) (v := .int (t 2 0)) (C := R_Rows) (T := T_Rows) (N := 11) hx hb htb in_Rows hown hK hP 0 rfl rfl 2 (by decide) (htb _ L_Rows_18) (fun _ h9 => h9) rfl d_Rows_makeSet_35 ?_
  refine lv_istore (lv' := [(5, .int (t 2 0)), (4, .int y0), (0, .ref (a_t 0)), (1, .int x1), (2, .int x2), (3, .int x3)]) hx hb d_Rows_makeSet_38 hl (by decide) rfl (fun ls hl => ?_)
  refine lv_iload hx hb d_Rows_makeSet_40 (lv_at hl 1 rfl) ?_
  refine lv_if_eq (tgt := 68) hx hb d_Rows_makeSet_42 (by decide) (fun c39 => ?_) (fun c39 => ?_)
  · replace h := (if_pos c39).symm.trans h
    exact k_Rows_makeSet_68 hC _ _ _ _ _ h _ _ _ hP hD hS (lv_sub hl [2, 5, 0] rfl)
  · replace h := (if_neg c39).symm.trans h
    refine lv_iload_n hx hb d_Rows_makeSet_45 rfl (lv_at hl 4 rfl) ?_
    refine lv_iconst (v := 2) hx hb d_Rows_makeSet_46 (by decide) ?_
    refine lv_iand hx hb d_Rows_makeSet_47 ?_
    refine lv_if_eq (tgt := 64) hx hb d_Rows_makeSet_48 (by decide) (fun c40 => ?_) (fun c40 => ?_)
    · replace h := (if_pos c40).symm.trans h
      exact k_Rows_makeSet_64 hC _ _ _ _ _ h _ _ _ hP hD hS (lv_sub hl [2, 5, 0] rfl)
    · replace h := (if_neg c40).symm.trans h
      refine lv_aload_n hx hb d_Rows_makeSet_51 rfl (lv_at hl 2 rfl) ?_
      refine lv_iload hx hb d_Rows_makeSet_52 (lv_at hl 0 rfl) ?_
      refine lv_lconst (v := 0) hx hb d_Rows_makeSet_54 (by decide) ?_
      refine lv_lconst (v := 1) hx hb d_Rows_makeSet_55 (by decide) ?_
      refine lv_iload_n hx hb d_Rows_makeSet_56 rfl (lv_at hl 3 rfl) ?_
      refine lv_lshl hx hb d_Rows_makeSet_57 rfl ?_
      obtain ⟨r41, hr41, h⟩ := Option.bind_eq_some_iff.mp h
      refine cl_I (wr := []) [0, 1, 2, 3, 4, 5, 6, 7] [] rfl rfl rfl (by decide) hP hD hS hA (va_runV (As := [.int (t 2 0), .long (0 : Int64), .long ((1 : Int64) <<< (x1.toInt64 &&& 63))]) (rest := []) ⟨hx, hb, hml, hown, htb⟩ (c_Rows_put l g F a_t r_pile t tL (t 2 0) (0 : Int64) ((1 : Int64) <<< (x1.toInt64 &&& 63)) _ hr41 H.size) (cw_V htb mb_Rows_put (htb _ L_Rows_58) rfl rfl ⟨Nat.le_of_ble_eq_true rfl, Nat.le_of_ble_eq_true rfl⟩) (pre_V (va_recv hK hP (ci := 6) (q0 := 0) rfl rfl) (pre_S [0, 1, 2, 3, 4, 5, 6, 7] rfl rfl hP hD hS hA hAA hG)) rfl rfl hl.1 rfl (lv_room (Nat.le_of_ble_eq_true rfl)) d_Rows_makeSet_58 ⟨Nat.zero_le _, Nat.zero_le _⟩) (fun H locs hP hD hS => ?_)
      have hP : va_P (gD g) vwCl ((pic_Rows g a_t r_pile r41.2.1 r41.2.2)) H := hP.sub [0, 1, 2, 3, 4, 5, 6, 7] rfl
      have hD : va_D A ((pic_Rows g a_t r_pile r41.2.1 r41.2.2)) := hD.sub [0, 1, 2, 3, 4, 5, 6, 7] rfl rfl
      refine lv_if_eq (tgt := 68) hx hb d_Rows_makeSet_61 (by decide) (fun c42 => ?_) (fun c42 => ?_)
      · replace h := (if_pos c42).symm.trans h
        exact k_Rows_makeSet_68 hC _ _ _ _ _ h _ _ _ hP hD hS (lv_sub hl [2, 5, 0] rfl)
      · replace h := (if_neg c42).symm.trans h
        exact k_Rows_makeSet_64 hC _ _ _ _ _ h _ _ _ hP hD hS (lv_sub hl [2, 5, 0] rfl)
set_option maxHeartbeats 4000000 in
set_option maxRecDepth 100000 in
theorem k_Rows_makeSet_27 {p : Program} {l : Launch} {e : Env} {s : State} {m : MethodId} {args : Array Value} {below : List Frame} {meth : Method} {c : Code} {g : Gz} {A : Nat → Prop} {F : Nat} {a_t : Nat → Nat} {r_pile : Nat} (hC : Cx prog_7_method_6_code 6 (some .boolean) R_Rows p s m args meth c g A A) : ∀ (t : StI) (tL : StL) (x1 : Int32) (x2 : Int32) (x3 : Int32) (res : Int32 × StI × StL), Rows_makeSet_27 F t tL x1 x2 x3 = some res → Go p l e rm_Rows_makeSet s m args below meth c g A A 6 (MQ below (EI g ((pic_Rows g a_t r_pile res.2.1 res.2.2)) res.1 A) args s 0 0 A) ((pic_Rows g a_t r_pile t tL)) [(0, .ref (a_t 0)), (1, .int x1), (2, .int x2), (3, .int x3)] 27 [] := by
  obtain ⟨hx, hb, hr, hml, hown, htb, hlocks, hA, hAA, hG⟩ := id hC
  have hK := hG.1
  intro t tL x1 x2 x3 res h H locs ls hP hD hS hl
  rw [Rows_makeSet_27] at h
  refine lv_iconst (v := 1) hx hb d_Rows_makeSet_27 (by decide) ?_
  refine lv_goto (tgt := 32) hx hb d_Rows_makeSet_28 (by decide) ?_
  exact k_Rows_makeSet_32 hC _ _ _ _ _ _ _ h _ _ _ hP hD hS (lv_sub hl [0, 1, 2, 3] rfl)
set_option maxHeartbeats 4000000 in
set_option maxRecDepth 100000 in
theorem k_Rows_makeSet {p : Program} {l : Launch} {e : Env} {s : State} {m : MethodId} {args : Array Value} {below : List Frame} {meth : Method} {c : Code} {g : Gz} {A : Nat → Prop} {F : Nat} {a_t : Nat → Nat} {r_pile : Nat} (hC : Cx prog_7_method_6_code 6 (some .boolean) R_Rows p s m args meth c g A A) : ∀ (t : StI) (tL : StL) (x1 : Int32) (x2 : Int32) (res : Int32 × StI × StL), Rows_makeSet F t tL x1 x2 = some res → Go p l e rm_Rows_makeSet s m args below meth c g A A 6 (MQ below (EI g ((pic_Rows g a_t r_pile res.2.1 res.2.2)) res.1 A) args s 0 0 A) ((pic_Rows g a_t r_pile t tL)) [(0, .ref (a_t 0)), (1, .int x1), (2, .int x2)] 0 [] := by
  obtain ⟨hx, hb, hr, hml, hown, htb, hlocks, hA, hAA, hG⟩ := id hC
  have hK := hG.1
  intro t tL x1 x2 res h H locs ls hP hD hS hl
  rw [Rows_makeSet] at h
  refine lv_aload_n hx hb d_Rows_makeSet_0 rfl (lv_at hl 0 rfl) ?_
  refine va_get (D := gD g) (ci := 6) (v := .int (t 2 0)) (C := R_Rows) (T := T_Rows) (N := 11) hx hb htb in_Rows hown hK hP 0 rfl rfl 2 (by decide) (htb _ L_Rows_18) (fun _ h9 => h9) rfl d_Rows_makeSet_1 ?_
  refine lv_istore_n (lv' := [(3, .int (t 2 0)), (0, .ref (a_t 0)), (1, .int x1), (2, .int x2)]) hx hb d_Rows_makeSet_4 rfl hl (by decide) rfl (fun ls hl => ?_)
  refine lv_iload_n hx hb d_Rows_makeSet_5 rfl (lv_at hl 2 rfl) ?_
  refine lv_if_lt (tgt := 93) hx hb d_Rows_makeSet_6 (by decide) (fun c43 => ?_) (fun c43 => ?_)
  · replace h := (if_pos c43).symm.trans h
    refine lv_iload_n hx hb d_Rows_makeSet_93 rfl (lv_at hl 2 rfl) ?_
    refine lv_bipush (v := -2) hx hb d_Rows_makeSet_94 (by decide) ?_
    refine lv_icmp_ne (tgt := 157) hx hb d_Rows_makeSet_96 (by decide) (fun c44 => ?_) (fun c44 => ?_)
    · replace h := (if_neg c44).symm.trans h
      refine lv_iload_n hx hb d_Rows_makeSet_157 rfl (lv_at hl 3 rfl) ?_
      refine lv_iconst (v := 1) hx hb d_Rows_makeSet_158 (by decide) ?_
      refine lv_iand hx hb d_Rows_makeSet_159 ?_
      refine lv_if_eq (tgt := 171) hx hb d_Rows_makeSet_160 (by decide) (fun c45 => ?_) (fun c45 => ?_)
      · replace h := (if_pos c45).symm.trans h
        exact k_Rows_makeSet_171 hC _ _ _ _ _ _ h _ _ _ hP hD hS (lv_sub hl [1, 2, 3, 0] rfl)
      · replace h := (if_neg c45).symm.trans h
        refine lv_aload_n hx hb d_Rows_makeSet_163 rfl (lv_at hl 1 rfl) ?_
        refine lv_iload_n hx hb d_Rows_makeSet_164 rfl (lv_at hl 2 rfl) ?_
        obtain ⟨r46, hr46, h⟩ := Option.bind_eq_some_iff.mp h
        refine cl_I (wr := []) [0, 1, 2, 3, 4, 5, 6, 7] [] rfl rfl rfl (by decide) hP hD hS hA (va_runV (As := [.int x1]) (rest := []) ⟨hx, hb, hml, hown, htb⟩ (c_Rows_joinAsIs l g F a_t r_pile t tL x1 _ hr46 H.size) (cw_V htb mb_Rows_joinAsIs (htb _ L_Rows_115) rfl rfl ⟨Nat.le_of_ble_eq_true rfl, Nat.le_of_ble_eq_true rfl⟩) (pre_V (va_recv hK hP (ci := 6) (q0 := 0) rfl rfl) (pre_S [0, 1, 2, 3, 4, 5, 6, 7] rfl rfl hP hD hS hA hAA hG)) rfl rfl hl.1 rfl (lv_room (Nat.le_of_ble_eq_true rfl)) d_Rows_makeSet_165 ⟨Nat.zero_le _, Nat.zero_le _⟩) (fun H locs hP hD hS => ?_)
        have hP : va_P (gD g) vwCl ((pic_Rows g a_t r_pile r46.2.1 r46.2.2)) H := hP.sub [0, 1, 2, 3, 4, 5, 6, 7] rfl
        have hD : va_D A ((pic_Rows g a_t r_pile r46.2.1 r46.2.2)) := hD.sub [0, 1, 2, 3, 4, 5, 6, 7] rfl rfl
        refine lv_if_eq (tgt := 175) hx hb d_Rows_makeSet_168 (by decide) (fun c47 => ?_) (fun c47 => ?_)
        · replace h := (if_pos c47).symm.trans h
          refine lv_iconst (v := 0) hx hb d_Rows_makeSet_175 (by decide) ?_
          exact k_Rows_makeSet_176 hC _ _ _ _ _ _ _ h _ _ _ hP hD hS (lv_sub hl [1, 2, 3, 0] rfl)
        · replace h := (if_neg c47).symm.trans h
          exact k_Rows_makeSet_171 hC _ _ _ _ _ _ h _ _ _ hP hD hS (lv_sub hl [1, 2, 3, 0] rfl)
    · replace h := (if_pos c44).symm.trans h
      refine lv_aload_n hx hb d_Rows_makeSet_99 rfl (lv_at hl 1 rfl) ?_
      refine lv_iload_n hx hb d_Rows_makeSet_100 rfl (lv_at hl 0 rfl) ?_
      refine lv_aload_n hx hb d_Rows_makeSet_101 rfl (lv_at hl 1 rfl) ?_
      refine va_get (D := gD g) (ci := 6) (v := .int (t 5 0)) (C := R_Rows) (T := T_Rows) (N := 11) hx hb htb in_Rows hown hK hP 0 rfl rfl 5 (by decide) (htb _ L_Rows_29) (fun _ h9 => h9) rfl d_Rows_makeSet_102 ?_
      refine lv_iconst (v := 1) hx hb d_Rows_makeSet_105 (by decide) ?_
      refine lv_isub hx hb d_Rows_makeSet_106 ?_
      refine lv_iconst (v := 2) hx hb d_Rows_makeSet_107 (by decide) ?_
      obtain ⟨r48, hr48, h⟩ := Option.bind_eq_some_iff.mp h
      refine cl_I (wr := []) [0, 1, 2, 3, 4, 5, 6, 7] [] rfl rfl rfl (by decide) hP hD hS hA (va_runV (As := [.int (t 2 0), .int ((t 5 0) - (1 : Int32)), .int (2 : Int32)]) (rest := []) ⟨hx, hb, hml, hown, htb⟩ (c_Rows_putSide l g F a_t r_pile t tL (t 2 0) ((t 5 0) - (1 : Int32)) (2 : Int32) _ hr48 H.size) (cw_V htb mb_Rows_putSide (htb _ L_Rows_112) rfl rfl ⟨Nat.le_of_ble_eq_true rfl, Nat.le_of_ble_eq_true rfl⟩) (pre_V (va_recv hK hP (ci := 6) (q0 := 0) rfl rfl) (pre_S [0, 1, 2, 3, 4, 5, 6, 7] rfl rfl hP hD hS hA hAA hG)) rfl rfl hl.1 rfl (lv_room (Nat.le_of_ble_eq_true rfl)) d_Rows_makeSet_108 ⟨Nat.zero_le _, Nat.zero_le _⟩) (fun H locs hP hD hS => ?_)
      have hP : va_P (gD g) vwCl ((pic_Rows g a_t r_pile r48.2.1 r48.2.2)) H := hP.sub [0, 1, 2, 3, 4, 5, 6, 7] rfl
      have hD : va_D A ((pic_Rows g a_t r_pile r48.2.1 r48.2.2)) := hD.sub [0, 1, 2, 3, 4, 5, 6, 7] rfl rfl
      refine lv_istore (lv' := [(4, .int r48.1), (3, .int (t 2 0)), (0, .ref (a_t 0)), (1, .int x1), (2, .int x2)]) hx hb d_Rows_makeSet_111 hl (by decide) rfl (fun ls hl => ?_)
      refine lv_aload_n hx hb d_Rows_makeSet_113 rfl (lv_at hl 2 rfl) ?_
      refine va_get (D := gD g) (ci := 6) (v := .int (r48.2.1 2 0)) (C := R_Rows) (T := T_Rows) (N := 11) hx hb htb in_Rows hown hK hP 0 rfl rfl 2 (by decide) (htb _ L_Rows_18) (fun _ h9 => h9) rfl d_Rows_makeSet_114 ?_
      refine lv_istore (lv' := [(5, .int (r48.2.1 2 0)), (4, .int r48.1), (3, .int (t 2 0)), (0, .ref (a_t 0)), (1, .int x1), (2, .int x2)]) hx hb d_Rows_makeSet_117 hl (by decide) rfl (fun ls hl => ?_)
      refine lv_iload hx hb d_Rows_makeSet_119 (lv_at hl 1 rfl) ?_
      refine lv_if_eq (tgt := 155) hx hb d_Rows_makeSet_121 (by decide) (fun c49 => ?_) (fun c49 => ?_)
      · replace h := (if_pos c49).symm.trans h
        refine lv_iconst (v := 0) hx hb d_Rows_makeSet_155 (by decide) ?_
        cases h
        exact W.zret hx hb hr rfl (fun t ht hW => ⟨⟨_, (), rfl, rfl, by rw [ht]; exact hP, hD⟩, hS.F ht⟩) hS.2.2 d_Rows_makeSet_156
      · replace h := (if_neg c49).symm.trans h
        refine lv_aload_n hx hb d_Rows_makeSet_124 rfl (lv_at hl 3 rfl) ?_
        refine lv_iload hx hb d_Rows_makeSet_125 (lv_at hl 0 rfl) ?_
        refine lv_aload_n hx hb d_Rows_makeSet_127 rfl (lv_at hl 3 rfl) ?_
        refine va_get (D := gD g) (ci := 6) (v := .int (r48.2.1 5 0)) (C := R_Rows) (T := T_Rows) (N := 11) hx hb htb in_Rows hown hK hP 0 rfl rfl 5 (by decide) (htb _ L_Rows_29) (fun _ h9 => h9) rfl d_Rows_makeSet_128 ?_
        refine lv_iconst (v := 1) hx hb d_Rows_makeSet_131 (by decide) ?_
        refine lv_isub hx hb d_Rows_makeSet_132 ?_
        refine lv_iconst (v := 1) hx hb d_Rows_makeSet_133 (by decide) ?_
        obtain ⟨r50, hr50, h⟩ := Option.bind_eq_some_iff.mp h
        refine cl_I (wr := []) [0, 1, 2, 3, 4, 5, 6, 7] [] rfl rfl rfl (by decide) hP hD hS hA (va_runV (As := [.int (r48.2.1 2 0), .int ((r48.2.1 5 0) - (1 : Int32)), .int (1 : Int32)]) (rest := []) ⟨hx, hb, hml, hown, htb⟩ (c_Rows_putSide l g F a_t r_pile r48.2.1 r48.2.2 (r48.2.1 2 0) ((r48.2.1 5 0) - (1 : Int32)) (1 : Int32) _ hr50 H.size) (cw_V htb mb_Rows_putSide (htb _ L_Rows_112) rfl rfl ⟨Nat.le_of_ble_eq_true rfl, Nat.le_of_ble_eq_true rfl⟩) (pre_V (va_recv hK hP (ci := 6) (q0 := 0) rfl rfl) (pre_S [0, 1, 2, 3, 4, 5, 6, 7] rfl rfl hP hD hS hA hAA hG)) rfl rfl hl.1 rfl (lv_room (Nat.le_of_ble_eq_true rfl)) d_Rows_makeSet_134 ⟨Nat.zero_le _, Nat.zero_le _⟩) (fun H locs hP hD hS => ?_)
        have hP : va_P (gD g) vwCl ((pic_Rows g a_t r_pile r50.2.1 r50.2.2)) H := hP.sub [0, 1, 2, 3, 4, 5, 6, 7] rfl
        have hD : va_D A ((pic_Rows g a_t r_pile r50.2.1 r50.2.2)) := hD.sub [0, 1, 2, 3, 4, 5, 6, 7] rfl rfl
        refine lv_if_eq (tgt := 155) hx hb d_Rows_makeSet_137 (by decide) (fun c51 => ?_) (fun c51 => ?_)
        · replace h := (if_pos c51).symm.trans h
          refine lv_iconst (v := 0) hx hb d_Rows_makeSet_155 (by decide) ?_
          cases h
          exact W.zret hx hb hr rfl (fun t ht hW => ⟨⟨_, (), rfl, rfl, by rw [ht]; exact hP, hD⟩, hS.F ht⟩) hS.2.2 d_Rows_makeSet_156
        · replace h := (if_neg c51).symm.trans h
          refine lv_aload_n hx hb d_Rows_makeSet_140 rfl (lv_at hl 3 rfl) ?_
          refine lv_iconst (v := 1) hx hb d_Rows_makeSet_141 (by decide) ?_
          refine lv_iload_n hx hb d_Rows_makeSet_142 rfl (lv_at hl 2 rfl) ?_
          refine lv_iload hx hb d_Rows_makeSet_143 (lv_at hl 0 rfl) ?_
          obtain ⟨r52, hr52, h⟩ := Option.bind_eq_some_iff.mp h
          refine cl_I (wr := []) [0, 1, 2, 3, 4, 5, 6, 7] [] rfl rfl rfl (by decide) hP hD hS hA (va_runV (As := [.int (1 : Int32), .int (t 2 0), .int (r48.2.1 2 0)]) (rest := []) ⟨hx, hb, hml, hown, htb⟩ (c_Rows_replaceSets l g F a_t r_pile r50.2.1 r50.2.2 (1 : Int32) (t 2 0) (r48.2.1 2 0) _ hr52 H.size) (cw_V htb mb_Rows_replaceSets (htb _ L_Rows_108) rfl rfl ⟨Nat.le_of_ble_eq_true rfl, Nat.le_of_ble_eq_true rfl⟩) (pre_V (va_recv hK hP (ci := 6) (q0 := 0) rfl rfl) (pre_S [0, 1, 2, 3, 4, 5, 6, 7] rfl rfl hP hD hS hA hAA hG)) rfl rfl hl.1 rfl (lv_room (Nat.le_of_ble_eq_true rfl)) d_Rows_makeSet_145 ⟨Nat.zero_le _, Nat.zero_le _⟩) (fun H locs hP hD hS => ?_)
          have hP : va_P (gD g) vwCl ((pic_Rows g a_t r_pile r52.2.1 r52.2.2)) H := hP.sub [0, 1, 2, 3, 4, 5, 6, 7] rfl
          have hD : va_D A ((pic_Rows g a_t r_pile r52.2.1 r52.2.2)) := hD.sub [0, 1, 2, 3, 4, 5, 6, 7] rfl rfl
          refine lv_if_eq (tgt := 155) hx hb d_Rows_makeSet_148 (by decide) (fun c53 => ?_) (fun c53 => ?_)
          · replace h := (if_pos c53).symm.trans h
            refine lv_iconst (v := 0) hx hb d_Rows_makeSet_155 (by decide) ?_
            cases h
            exact W.zret hx hb hr rfl (fun t ht hW => ⟨⟨_, (), rfl, rfl, by rw [ht]; exact hP, hD⟩, hS.F ht⟩) hS.2.2 d_Rows_makeSet_156
          · replace h := (if_neg c53).symm.trans h
            refine lv_iconst (v := 1) hx hb d_Rows_makeSet_151 (by decide) ?_
            refine lv_goto (tgt := 156) hx hb d_Rows_makeSet_152 (by decide) ?_
            cases h
            exact W.zret hx hb hr rfl (fun t ht hW => ⟨⟨_, (), rfl, rfl, by rw [ht]; exact hP, hD⟩, hS.F ht⟩) hS.2.2 d_Rows_makeSet_156
  · replace h := (if_neg c43).symm.trans h
    refine lv_iload_n hx hb d_Rows_makeSet_9 rfl (lv_at hl 3 rfl) ?_
    refine lv_iconst (v := 1) hx hb d_Rows_makeSet_10 (by decide) ?_
    refine lv_iand hx hb d_Rows_makeSet_11 ?_
    refine lv_if_eq (tgt := 27) hx hb d_Rows_makeSet_12 (by decide) (fun c54 => ?_) (fun c54 => ?_)
    · replace h := (if_pos c54).symm.trans h
      exact k_Rows_makeSet_27 hC _ _ _ _ _ _ h _ _ _ hP hD hS (lv_sub hl [1, 2, 3, 0] rfl)
    · replace h := (if_neg c54).symm.trans h
      refine lv_aload_n hx hb d_Rows_makeSet_15 rfl (lv_at hl 1 rfl) ?_
      refine lv_iload_n hx hb d_Rows_makeSet_16 rfl (lv_at hl 0 rfl) ?_
      refine lv_lconst (v := 1) hx hb d_Rows_makeSet_17 (by decide) ?_
      refine lv_iload_n hx hb d_Rows_makeSet_18 rfl (lv_at hl 2 rfl) ?_
      refine lv_lshl hx hb d_Rows_makeSet_19 rfl ?_
      refine lv_lconst (v := 0) hx hb d_Rows_makeSet_20 (by decide) ?_
      obtain ⟨r55, hr55, h⟩ := Option.bind_eq_some_iff.mp h
      refine cl_I (wr := []) [0, 1, 2, 3, 4, 5, 6, 7] [] rfl rfl rfl (by decide) hP hD hS hA (va_runV (As := [.int (t 2 0), .long ((1 : Int64) <<< (x1.toInt64 &&& 63)), .long (0 : Int64)]) (rest := []) ⟨hx, hb, hml, hown, htb⟩ (c_Rows_put l g F a_t r_pile t tL (t 2 0) ((1 : Int64) <<< (x1.toInt64 &&& 63)) (0 : Int64) _ hr55 H.size) (cw_V htb mb_Rows_put (htb _ L_Rows_58) rfl rfl ⟨Nat.le_of_ble_eq_true rfl, Nat.le_of_ble_eq_true rfl⟩) (pre_V (va_recv hK hP (ci := 6) (q0 := 0) rfl rfl) (pre_S [0, 1, 2, 3, 4, 5, 6, 7] rfl rfl hP hD hS hA hAA hG)) rfl rfl hl.1 rfl (lv_room (Nat.le_of_ble_eq_true rfl)) d_Rows_makeSet_21 ⟨Nat.zero_le _, Nat.zero_le _⟩) (fun H locs hP hD hS => ?_)
      have hP : va_P (gD g) vwCl ((pic_Rows g a_t r_pile r55.2.1 r55.2.2)) H := hP.sub [0, 1, 2, 3, 4, 5, 6, 7] rfl
      have hD : va_D A ((pic_Rows g a_t r_pile r55.2.1 r55.2.2)) := hD.sub [0, 1, 2, 3, 4, 5, 6, 7] rfl rfl
      refine lv_if_eq (tgt := 31) hx hb d_Rows_makeSet_24 (by decide) (fun c56 => ?_) (fun c56 => ?_)
      · replace h := (if_pos c56).symm.trans h
        refine lv_iconst (v := 0) hx hb d_Rows_makeSet_31 (by decide) ?_
        exact k_Rows_makeSet_32 hC _ _ _ _ _ _ _ h _ _ _ hP hD hS (lv_sub hl [1, 2, 3, 0] rfl)
      · replace h := (if_neg c56).symm.trans h
        exact k_Rows_makeSet_27 hC _ _ _ _ _ _ h _ _ _ hP hD hS (lv_sub hl [1, 2, 3, 0] rfl)
theorem c_Rows_makeSet (l : Launch) (g : Gz) (F : Nat) (a_t : Nat → Nat) (r_pile : Nat) (t : StI) (tL : StL) (x1 : Int32) (x2 : Int32) (res : Int32 × StI × StL) (h : Rows_makeSet F t tL x1 x2 = some res) : ∀ sz : Nat, Met l y_Rows_makeSet (.code y_Rows_makeSet prog_7_method_6_code 6 (some .boolean) :: TBL) rm_Rows_makeSet (va_Pc [.ref (a_t 0), .int x1, .int x2] (Pre0 g ((pic_Rows g a_t r_pile t tL)) sz)) (EI g ((pic_Rows g a_t r_pile res.2.1 res.2.2)) res.1 (va_A ((pic_Rows g a_t r_pile t tL)) sz)) 0 0 (va_A ((pic_Rows g a_t r_pile t tL)) sz) :=
  ct_w (Qc := fun A => EI g ((pic_Rows g a_t r_pile res.2.1 res.2.2)) res.1 A) (by decide) (Nat.le_of_ble_eq_true rfl) (fun p e s m args below meth c A hC => k_Rows_makeSet hC t tL x1 x2 res h)
def Rows_noteWhatIsAsked_128 (F : Nat) (k17 : StI → StL → StI → StI → StL → Int32 → Option (StI × StL × StI × StL)) (t : StI) (tL : StL) (p1 : StI) (pile : StI) (pileL : StL) (x2 : Int32) : Option (StI × StL × StI × StL) := k17 t tL p1 pile pileL (x2 + (1 : Int32))
def Rows_noteWhatIsAsked_106 (F : Nat) (k17 : StI → StL → StI → StI → StL → Int32 → Option (StI × StL × StI × StL)) (t : StI) (tL : StL) (p1 : StI) (pile : StI) (pileL : StL) (x2 : Int32) (y0 : Int32) : Option (StI × StL × StI × StL) := (Pile_push F 41 pile pileL y0.toInt64).bind fun r16 => (Pile_push F 41 r16.1 r16.2 y0.toInt64).bind fun r17 => Rows_noteWhatIsAsked_128 F k17 t tL p1 r17.1 r17.2 x2
def Rows_noteWhatIsAsked_83 (F : Nat) (k17 : StI → StL → StI → StI → StL → Int32 → Option (StI × StL × StI × StL)) (t : StI) (tL : StL) (p1 : StI) (pile : StI) (pileL : StL) (x2 : Int32) (y0 : Int64) : Option (StI × StL × StI × StL) := (Pile_push F 41 pile pileL y0).bind fun r18 => Rows_noteWhatIsAsked_128 F k17 t tL p1 r18.1 r18.2 x2
def Rows_noteWhatIsAsked_17 (F : Nat) : Nat → StI → StL → StI → StI → StL → Int32 → Option (StI × StL × StI × StL)
  | 0, _, _, _, _, _, _ => none
  | n + 1, t, tL, p1, pile, pileL, x2 => if (p1 13 0) ≤ x2 then some (t, tL, pile, pileL) else if (229 : Int32) ≤ x2 then some (t, tL, pile, pileL) else (Pile_pop F 41 pile pileL).bind fun r21 => if x2 < 0 ∨ 229 ≤ x2.toNatClampNeg then none else letS (va_up t 6 (upd (t 6) x2.toNatClampNeg r21.1.toInt32)) fun t_22 => (Query_entryAt F p1 x2).bind fun r24 => if r24 = (-2 : Int32) then if r21.1.toInt32 = (3 : Int32) then Rows_noteWhatIsAsked_83 F (Rows_noteWhatIsAsked_17 F n) t_22 tL p1 r21.2.1 r21.2.2 x2 (3 : Int64) else Rows_noteWhatIsAsked_83 F (Rows_noteWhatIsAsked_17 F n) t_22 tL p1 r21.2.1 r21.2.2 x2 (((3 : Int32) - r21.1.toInt32).toInt64) else if 0 ≤ r24 then Rows_noteWhatIsAsked_128 F (Rows_noteWhatIsAsked_17 F n) t_22 tL p1 r21.2.1 r21.2.2 x2 else if r24 = (-5 : Int32) then Rows_noteWhatIsAsked_106 F (Rows_noteWhatIsAsked_17 F n) t_22 tL p1 r21.2.1 r21.2.2 x2 (3 : Int32) else Rows_noteWhatIsAsked_106 F (Rows_noteWhatIsAsked_17 F n) t_22 tL p1 r21.2.1 r21.2.2 x2 r21.1.toInt32
def Rows_noteWhatIsAsked (F : Nat) (t : StI) (tL : StL) (p1 : StI) (pile : StI) (pileL : StL) : Option (StI × StL × StI × StL) := (Pile_clear F 41 pile pileL).bind fun r29 => (Pile_push F 41 r29.1 r29.2 (1 : Int64)).bind fun r30 => Rows_noteWhatIsAsked_17 F F t tL p1 r30.1 r30.2 (0 : Int32)
set_option maxHeartbeats 4000000 in
set_option maxRecDepth 100000 in
theorem k_Rows_noteWhatIsAsked_128 {p : Program} {l : Launch} {e : Env} {s : State} {m : MethodId} {args : Array Value} {below : List Frame} {meth : Method} {c : Code} {g : Gz} {A : Nat → Prop} {F : Nat} {a_t a_p1 a_pile : Nat → Nat} {k17 : StI → StL → StI → StI → StL → Int32 → Option (StI × StL × StI × StL)} (hC : Cx prog_7_method_5_code 6 none R_Rows p s m args meth c g A A) : ∀ (t : StI) (tL : StL) (p1 : StI) (pile : StI) (pileL : StL) (x2 : Int32) (res : StI × StL × StI × StL), Rows_noteWhatIsAsked_128 F k17 t tL p1 pile pileL x2 = some res → (∀ (t : StI) (tL : StL) (p1 : StI) (pile : StI) (pileL : StL) (x2 : Int32), k17 t tL p1 pile pileL x2 = some res → Go p l e rm_Rows_noteWhatIsAsked s m args below meth c g A A 6 (MQ below (EV g ((pic_Rows g a_t (a_pile 0) res.1 res.2.1) ++ (pic_Query g a_p1 p1) ++ (pic_Pile g a_pile 41 res.2.2.1 res.2.2.2)) A) args s 0 0 A) ((pic_Rows g a_t (a_pile 0) t tL) ++ (pic_Query g a_p1 p1) ++ (pic_Pile g a_pile 41 pile pileL)) [(0, .ref (a_t 0)), (1, .ref (a_p1 0)), (2, .int x2)] 17 []) → Go p l e rm_Rows_noteWhatIsAsked s m args below meth c g A A 6 (MQ below (EV g ((pic_Rows g a_t (a_pile 0) res.1 res.2.1) ++ (pic_Query g a_p1 p1) ++ (pic_Pile g a_pile 41 res.2.2.1 res.2.2.2)) A) args s 0 0 A) ((pic_Rows g a_t (a_pile 0) t tL) ++ (pic_Query g a_p1 p1) ++ (pic_Pile g a_pile 41 pile pileL)) [(0, .ref (a_t 0)), (1, .ref (a_p1 0)), (2, .int x2)] 128 [] := by
  obtain ⟨hx, hb, hr, hml, hown, htb, hlocks, hA, hAA, hG⟩ := id hC
  have hK := hG.1
  intro t tL p1 pile pileL x2 res h hk17 H locs ls hP hD hS hl
  rw [Rows_noteWhatIsAsked_128] at h
  refine lv_iinc (v := (x2 + (1 : Int32))) (lv' := [(2, .int (x2 + (1 : Int32))), (0, .ref (a_t 0)), (1, .ref (a_p1 0))]) hx hb d_Rows_noteWhatIsAsked_128 hl (k := 2) rfl rfl (by decide) rfl (fun ls hl => ?_)
  refine lv_goto (tgt := 17) hx hb d_Rows_noteWhatIsAsked_131 (by decide) ?_
  exact hk17 _ _ _ _ _ _ h _ _ _ hP hD hS (lv_sub hl [1, 2, 0] rfl)
set_option maxHeartbeats 4000000 in
set_option maxRecDepth 100000 in
theorem k_Rows_noteWhatIsAsked_106 {p : Program} {l : Launch} {e : Env} {s : State} {m : MethodId} {args : Array Value} {below : List Frame} {meth : Method} {c : Code} {g : Gz} {A : Nat → Prop} {F : Nat} {a_t a_p1 a_pile : Nat → Nat} {k17 : StI → StL → StI → StI → StL → Int32 → Option (StI × StL × StI × StL)} (hC : Cx prog_7_method_5_code 6 none R_Rows p s m args meth c g A A) : ∀ (t : StI) (tL : StL) (p1 : StI) (pile : StI) (pileL : StL) (x2 : Int32) (y0 : Int32) (res : StI × StL × StI × StL), Rows_noteWhatIsAsked_106 F k17 t tL p1 pile pileL x2 y0 = some res → (∀ (t : StI) (tL : StL) (p1 : StI) (pile : StI) (pileL : StL) (x2 : Int32), k17 t tL p1 pile pileL x2 = some res → Go p l e rm_Rows_noteWhatIsAsked s m args below meth c g A A 6 (MQ below (EV g ((pic_Rows g a_t (a_pile 0) res.1 res.2.1) ++ (pic_Query g a_p1 p1) ++ (pic_Pile g a_pile 41 res.2.2.1 res.2.2.2)) A) args s 0 0 A) ((pic_Rows g a_t (a_pile 0) t tL) ++ (pic_Query g a_p1 p1) ++ (pic_Pile g a_pile 41 pile pileL)) [(0, .ref (a_t 0)), (1, .ref (a_p1 0)), (2, .int x2)] 17 []) → Go p l e rm_Rows_noteWhatIsAsked s m args below meth c g A A 6 (MQ below (EV g ((pic_Rows g a_t (a_pile 0) res.1 res.2.1) ++ (pic_Query g a_p1 p1) ++ (pic_Pile g a_pile 41 res.2.2.1 res.2.2.2)) A) args s 0 0 A) ((pic_Rows g a_t (a_pile 0) t tL) ++ (pic_Query g a_p1 p1) ++ (pic_Pile g a_pile 41 pile pileL)) [(0, .ref (a_t 0)), (1, .ref (a_p1 0)), (2, .int x2)] 106 [.int y0] := by
  obtain ⟨hx, hb, hr, hml, hown, htb, hlocks, hA, hAA, hG⟩ := id hC
  have hK := hG.1
  intro t tL p1 pile pileL x2 y0 res h hk17 H locs ls hP hD hS hl
  rw [Rows_noteWhatIsAsked_106] at h
  refine lv_istore (lv' := [(5, .int y0), (0, .ref (a_t 0)), (1, .ref (a_p1 0)), (2, .int x2)]) hx hb d_Rows_noteWhatIsAsked_106 hl (by decide) rfl (fun ls hl => ?_)
  refine lv_aload_n hx hb d_Rows_noteWhatIsAsked_108 rfl (lv_at hl 1 rfl) ?_
  refine va_get (D := gD g) (ci := 6) (v := .ref (a_pile 0)) (C := R_Rows) (T := T_Rows) (N := 11) hx hb htb in_Rows hown hK hP 0 rfl rfl 7 (by decide) (htb _ L_Rows_40) (fun _ h9 => h9) rfl d_Rows_noteWhatIsAsked_109 ?_
  refine lv_iload hx hb d_Rows_noteWhatIsAsked_112 (lv_at hl 0 rfl) ?_
  refine lv_i2l hx hb d_Rows_noteWhatIsAsked_114 rfl ?_
  obtain ⟨r16, hr16, h⟩ := Option.bind_eq_some_iff.mp h
  refine cl_V (wr := (pic_Rows g a_t (a_pile 0) t tL) ++ (pic_Query g a_p1 p1)) [19, 20] [0, 1, 2, 3, 4, 5, 6, 7, 8, 9, 10, 11, 12, 13, 14, 15, 16, 17, 18] rfl rfl rfl (by decide) hP hD hS hA (va_runV (As := [.long y0.toInt64]) (rest := []) ⟨hx, hb, hml, hown, htb⟩ (c_Pile_push l g F a_pile 41 pile pileL y0.toInt64 _ hr16 H.size) (cw_V htb mb_Pile_push (htb _ L_Rows_98) rfl rfl ⟨Nat.le_of_ble_eq_true rfl, Nat.le_of_ble_eq_true rfl⟩) (pre_V (va_recv hK hP (ci := 0) (q0 := 19) rfl rfl) (pre_S [19, 20] rfl rfl hP hD hS hA hAA hG)) rfl rfl hl.1 rfl (lv_room (Nat.le_of_ble_eq_true rfl)) d_Rows_noteWhatIsAsked_115 ⟨Nat.zero_le _, Nat.zero_le _⟩) (fun H locs hP hD hS => ?_)
  have hP : va_P (gD g) vwCl ((pic_Rows g a_t (a_pile 0) t tL) ++ (pic_Query g a_p1 p1) ++ (pic_Pile g a_pile 41 r16.1 r16.2)) H := hP.sub [0, 1, 2, 3, 4, 5, 6, 7, 8, 9, 10, 11, 12, 13, 14, 15, 16, 17, 18, 19, 20] rfl
  have hD : va_D A ((pic_Rows g a_t (a_pile 0) t tL) ++ (pic_Query g a_p1 p1) ++ (pic_Pile g a_pile 41 r16.1 r16.2)) := hD.sub [0, 1, 2, 3, 4, 5, 6, 7, 8, 9, 10, 11, 12, 13, 14, 15, 16, 17, 18, 19, 20] rfl rfl
  refine lv_aload_n hx hb d_Rows_noteWhatIsAsked_118 rfl (lv_at hl 1 rfl) ?_
  refine va_get (D := gD g) (ci := 6) (v := .ref (a_pile 0)) (C := R_Rows) (T := T_Rows) (N := 11) hx hb htb in_Rows hown hK hP 0 rfl rfl 7 (by decide) (htb _ L_Rows_40) (fun _ h9 => h9) rfl d_Rows_noteWhatIsAsked_119 ?_
  refine lv_iload hx hb d_Rows_noteWhatIsAsked_122 (lv_at hl 0 rfl) ?_
  refine lv_i2l hx hb d_Rows_noteWhatIsAsked_124 rfl ?_
  obtain ⟨r17, hr17, h⟩ := Option.bind_eq_some_iff.mp h
  refine cl_V (wr := (pic_Rows g a_t (a_pile 0) t tL) ++ (pic_Query g a_p1 p1)) [19, 20] [0, 1, 2, 3, 4, 5, 6, 7, 8, 9, 10, 11, 12, 13, 14, 15, 16, 17, 18] rfl rfl rfl (by decide) hP hD hS hA (va_runV (As := [.long y0.toInt64]) (rest := []) ⟨hx, hb, hml, hown, htb⟩ (c_Pile_push l g F a_pile 41 r16.1 r16.2 y0.toInt64 _ hr17 H.size) (cw_V htb mb_Pile_push (htb _ L_Rows_98) rfl rfl ⟨Nat.le_of_ble_eq_true rfl, Nat.le_of_ble_eq_true rfl⟩) (pre_V (va_recv hK hP (ci := 0) (q0 := 19) rfl rfl) (pre_S [19, 20] rfl rfl hP hD hS hA hAA hG)) rfl rfl hl.1 rfl (lv_room (Nat.le_of_ble_eq_true rfl)) d_Rows_noteWhatIsAsked_125 ⟨Nat.zero_le _, Nat.zero_le _⟩) (fun H locs hP hD hS => ?_)
  have hP : va_P (gD g) vwCl ((pic_Rows g a_t (a_pile 0) t tL) ++ (pic_Query g a_p1 p1) ++ (pic_Pile g a_pile 41 r17.1 r17.2)) H := hP.sub [0, 1, 2, 3, 4, 5, 6, 7, 8, 9, 10, 11, 12, 13, 14, 15, 16, 17, 18, 19, 20] rfl
  have hD : va_D A ((pic_Rows g a_t (a_pile 0) t tL) ++ (pic_Query g a_p1 p1) ++ (pic_Pile g a_pile 41 r17.1 r17.2)) := hD.sub [0, 1, 2, 3, 4, 5, 6, 7, 8, 9, 10, 11, 12, 13, 14, 15, 16, 17, 18, 19, 20] rfl rfl
  exact k_Rows_noteWhatIsAsked_128 hC _ _ _ _ _ _ _ h hk17 _ _ _ hP hD hS (lv_sub hl [1, 2, 3] rfl)
set_option maxHeartbeats 4000000 in
set_option maxRecDepth 100000 in
theorem k_Rows_noteWhatIsAsked_83 {p : Program} {l : Launch} {e : Env} {s : State} {m : MethodId} {args : Array Value} {below : List Frame} {meth : Method} {c : Code} {g : Gz} {A : Nat → Prop} {F : Nat} {a_t a_p1 a_pile : Nat → Nat} {k17 : StI → StL → StI → StI → StL → Int32 → Option (StI × StL × StI × StL)} (hC : Cx prog_7_method_5_code 6 none R_Rows p s m args meth c g A A) : ∀ (t : StI) (tL : StL) (p1 : StI) (pile : StI) (pileL : StL) (x2 : Int32) (y0 : Int64) (res : StI × StL × StI × StL), Rows_noteWhatIsAsked_83 F k17 t tL p1 pile pileL x2 y0 = some res → (∀ (t : StI) (tL : StL) (p1 : StI) (pile : StI) (pileL : StL) (x2 : Int32), k17 t tL p1 pile pileL x2 = some res → Go p l e rm_Rows_noteWhatIsAsked s m args below meth c g A A 6 (MQ below (EV g ((pic_Rows g a_t (a_pile 0) res.1 res.2.1) ++ (pic_Query g a_p1 p1) ++ (pic_Pile g a_pile 41 res.2.2.1 res.2.2.2)) A) args s 0 0 A) ((pic_Rows g a_t (a_pile 0) t tL) ++ (pic_Query g a_p1 p1) ++ (pic_Pile g a_pile 41 pile pileL)) [(0, .ref (a_t 0)), (1, .ref (a_p1 0)), (2, .int x2)] 17 []) → Go p l e rm_Rows_noteWhatIsAsked s m args below meth c g A A 6 (MQ below (EV g ((pic_Rows g a_t (a_pile 0) res.1 res.2.1) ++ (pic_Query g a_p1 p1) ++ (pic_Pile g a_pile 41 res.2.2.1 res.2.2.2)) A) args s 0 0 A) ((pic_Rows g a_t (a_pile 0) t tL) ++ (pic_Query g a_p1 p1) ++ (pic_Pile g a_pile 41 pile pileL)) [(0, .ref (a_t 0)), (1, .ref (a_p1 0)), (2, .int x2)] 83 [.long y0, .ref (a_pile 0)] := by
  obtain ⟨hx, hb, hr, hml, hown, htb, hlocks, hA, hAA, hG⟩ := id hC
  have hK := hG.1
  intro t tL p1 pile pileL x2 y0 res h hk17 H locs ls hP hD hS hl
  rw [Rows_noteWhatIsAsked_83] at h
  obtain ⟨r18, hr18, h⟩ := Option.bind_eq_some_iff.mp h
  refine cl_V (wr := (pic_Rows g a_t (a_pile 0) t tL) ++ (pic_Query g a_p1 p1)) [19, 20] [0, 1, 2, 3, 4, 5, 6, 7, 8, 9, 10, 11, 12, 13, 14, 15, 16, 17, 18] rfl rfl rfl (by decide) hP hD hS hA (va_runV (As := [.long y0]) (rest := []) ⟨hx, hb, hml, hown, htb⟩ (c_Pile_push l g F a_pile 41 pile pileL y0 _ hr18 H.size) (cw_V htb mb_Pile_push (htb _ L_Rows_98) rfl rfl ⟨Nat.le_of_ble_eq_true rfl, Nat.le_of_ble_eq_true rfl⟩) (pre_V (va_recv hK hP (ci := 0) (q0 := 19) rfl rfl) (pre_S [19, 20] rfl rfl hP hD hS hA hAA hG)) rfl rfl hl.1 rfl (lv_room (Nat.le_of_ble_eq_true rfl)) d_Rows_noteWhatIsAsked_83 ⟨Nat.zero_le _, Nat.zero_le _⟩) (fun H locs hP hD hS => ?_)
  have hP : va_P (gD g) vwCl ((pic_Rows g a_t (a_pile 0) t tL) ++ (pic_Query g a_p1 p1) ++ (pic_Pile g a_pile 41 r18.1 r18.2)) H := hP.sub [0, 1, 2, 3, 4, 5, 6, 7, 8, 9, 10, 11, 12, 13, 14, 15, 16, 17, 18, 19, 20] rfl
  have hD : va_D A ((pic_Rows g a_t (a_pile 0) t tL) ++ (pic_Query g a_p1 p1) ++ (pic_Pile g a_pile 41 r18.1 r18.2)) := hD.sub [0, 1, 2, 3, 4, 5, 6, 7, 8, 9, 10, 11, 12, 13, 14, 15, 16, 17, 18, 19, 20] rfl rfl
  refine lv_goto (tgt := 128) hx hb d_Rows_noteWhatIsAsked_86 (by decide) ?_
  exact k_Rows_noteWhatIsAsked_128 hC _ _ _ _ _ _ _ h hk17 _ _ _ hP hD hS (lv_sub hl [0, 1, 2] rfl)
set_option maxHeartbeats 4000000 in
set_option maxRecDepth 100000 in
theorem k_Rows_noteWhatIsAsked_17 {p : Program} {l : Launch} {e : Env} {s : State} {m : MethodId} {args : Array Value} {below : List Frame} {meth : Method} {c : Code} {g : Gz} {A : Nat → Prop} {F : Nat} {a_t a_p1 a_pile : Nat → Nat} (hC : Cx prog_7_method_5_code 6 none R_Rows p s m args meth c g A A) : ∀ (n : Nat) (t : StI) (tL : StL) (p1 : StI) (pile : StI) (pileL : StL) (x2 : Int32) (res : StI × StL × StI × StL), Rows_noteWhatIsAsked_17 F n t tL p1 pile pileL x2 = some res → Go p l e rm_Rows_noteWhatIsAsked s m args below meth c g A A 6 (MQ below (EV g ((pic_Rows g a_t (a_pile 0) res.1 res.2.1) ++ (pic_Query g a_p1 p1) ++ (pic_Pile g a_pile 41 res.2.2.1 res.2.2.2)) A) args s 0 0 A) ((pic_Rows g a_t (a_pile 0) t tL) ++ (pic_Query g a_p1 p1) ++ (pic_Pile g a_pile 41 pile pileL)) [(0, .ref (a_t 0)), (1, .ref (a_p1 0)), (2, .int x2)] 17 [] := by
  obtain ⟨hx, hb, hr, hml, hown, htb, hlocks, hA, hAA, hG⟩ := id hC
  have hK := hG.1
  intro n
  induction n with
  | zero => intro t tL p1 pile pileL x2 res h; rw [Rows_noteWhatIsAsked_17] at h; cases h
  | succ n ih =>
    intro t tL p1 pile pileL x2 res h H locs ls hP hD hS hl
    rw [Rows_noteWhatIsAsked_17] at h
    refine lv_iload_n hx hb d_Rows_noteWhatIsAsked_17 rfl (lv_at hl 2 rfl) ?_
    refine lv_aload_n hx hb d_Rows_noteWhatIsAsked_18 rfl (lv_at hl 1 rfl) ?_
    refine va_getN (D := gD g) (ci := 1) (v := .int (p1 13 0)) (C := R_Query) (T := T_Query) (N := 14) hx hb htb in_Query hown hK hP 8 rfl rfl 13 (by decide) (nf_of hG N_Rows_53) (fun _ h9 => h9) rfl d_Rows_noteWhatIsAsked_19 ?_
    refine lv_icmp_ge (tgt := 134) hx hb d_Rows_noteWhatIsAsked_22 (by decide) (fun c19 => ?_) (fun c19 => ?_)
    · replace h := (if_pos c19).symm.trans h
      cases h
      exact W.vret hx hb hr (fun t ht hW => ⟨⟨(), rfl, trivial, by rw [ht]; exact hP, hD⟩, hS.F ht⟩) hS.2.2 d_Rows_noteWhatIsAsked_134
    · replace h := (if_neg c19).symm.trans h
      refine lv_iload_n hx hb d_Rows_noteWhatIsAsked_25 rfl (lv_at hl 2 rfl) ?_
      refine lv_aload_n hx hb d_Rows_noteWhatIsAsked_26 rfl (lv_at hl 0 rfl) ?_
      refine va_get (D := gD g) (ci := 6) (v := .ref (a_t 7)) (C := R_Rows) (T := T_Rows) (N := 11) hx hb htb in_Rows hown hK hP 0 rfl rfl 6 (by decide) (htb _ L_Rows_32) (fun _ h9 => h9) rfl d_Rows_noteWhatIsAsked_27 ?_
      refine va_alen hx hb hK hP 5 0 rfl rfl rfl d_Rows_noteWhatIsAsked_30 ?_
      refine lv_icmp_ge (tgt := 134) hx hb d_Rows_noteWhatIsAsked_31 (by decide) (fun c20 => ?_) (fun c20 => ?_)
      · replace h := (if_pos c20).symm.trans h
        cases h
        exact W.vret hx hb hr (fun t ht hW => ⟨⟨(), rfl, trivial, by rw [ht]; exact hP, hD⟩, hS.F ht⟩) hS.2.2 d_Rows_noteWhatIsAsked_134
      · replace h := (if_neg c20).symm.trans h
        refine lv_aload_n hx hb d_Rows_noteWhatIsAsked_34 rfl (lv_at hl 0 rfl) ?_
        refine va_get (D := gD g) (ci := 6) (v := .ref (a_pile 0)) (C := R_Rows) (T := T_Rows) (N := 11) hx hb htb in_Rows hown hK hP 0 rfl rfl 7 (by decide) (htb _ L_Rows_40) (fun _ h9 => h9) rfl d_Rows_noteWhatIsAsked_35 ?_
        obtain ⟨r21, hr21, h⟩ := Option.bind_eq_some_iff.mp h
        refine cl_L (wr := (pic_Rows g a_t (a_pile 0) t tL) ++ (pic_Query g a_p1 p1)) [19, 20] [0, 1, 2, 3, 4, 5, 6, 7, 8, 9, 10, 11, 12, 13, 14, 15, 16, 17, 18] rfl rfl rfl (by decide) hP hD hS hA (va_runV (As := []) (rest := []) ⟨hx, hb, hml, hown, htb⟩ (c_Pile_pop l g F a_pile 41 pile pileL _ hr21 H.size) (cw_V htb mb_Pile_pop (htb _ L_Rows_102) rfl rfl ⟨Nat.le_of_ble_eq_true rfl, Nat.le_of_ble_eq_true rfl⟩) (pre_V (va_recv hK hP (ci := 0) (q0 := 19) rfl rfl) (pre_S [19, 20] rfl rfl hP hD hS hA hAA hG)) rfl rfl hl.1 rfl (lv_room (Nat.le_of_ble_eq_true rfl)) d_Rows_noteWhatIsAsked_38 ⟨Nat.zero_le _, Nat.zero_le _⟩) (fun H locs hP hD hS => ?_)
        have hP : va_P (gD g) vwCl ((pic_Rows g a_t (a_pile 0) t tL) ++ (pic_Query g a_p1 p1) ++ (pic_Pile g a_pile 41 r21.2.1 r21.2.2)) H := hP.sub [0, 1, 2, 3, 4, 5, 6, 7, 8, 9, 10, 11, 12, 13, 14, 15, 16, 17, 18, 19, 20] rfl
        have hD : va_D A ((pic_Rows g a_t (a_pile 0) t tL) ++ (pic_Query g a_p1 p1) ++ (pic_Pile g a_pile 41 r21.2.1 r21.2.2)) := hD.sub [0, 1, 2, 3, 4, 5, 6, 7, 8, 9, 10, 11, 12, 13, 14, 15, 16, 17, 18, 19, 20] rfl rfl
        refine lv_l2i hx hb d_Rows_noteWhatIsAsked_41 rfl ?_
        refine lv_istore_n (lv' := [(3, .int r21.1.toInt32), (0, .ref (a_t 0)), (1, .ref (a_p1 0)), (2, .int x2)]) hx hb d_Rows_noteWhatIsAsked_42 rfl hl (by decide) rfl (fun ls hl => ?_)
        refine lv_aload_n hx hb d_Rows_noteWhatIsAsked_43 rfl (lv_at hl 1 rfl) ?_
        refine va_get (D := gD g) (ci := 6) (v := .ref (a_t 7)) (C := R_Rows) (T := T_Rows) (N := 11) hx hb htb in_Rows hown hK hP 0 rfl rfl 6 (by decide) (htb _ L_Rows_32) (fun _ h9 => h9) rfl d_Rows_noteWhatIsAsked_44 ?_
        refine lv_iload_n hx hb d_Rows_noteWhatIsAsked_47 rfl (lv_at hl 3 rfl) ?_
        refine lv_iload_n hx hb d_Rows_noteWhatIsAsked_48 rfl (lv_at hl 0 rfl) ?_
        by_cases c23 : (x2 < 0 ∨ 229 ≤ x2.toNatClampNeg)
        · replace h := (if_pos c23).symm.trans h
          cases h
        replace h := (if_neg c23).symm.trans h
        refine va_iast hx hb hK hP hD hS 5 0 rfl rfl c23 d_Rows_noteWhatIsAsked_49 (fun H locs hP hD hS => ?_)
        obtain ⟨t_22, et_22, h⟩ := letS_el h
        have hP : va_P (gD g) vwCl ((pic_Rows g a_t (a_pile 0) t_22 tL) ++ (pic_Query g a_p1 p1) ++ (pic_Pile g a_pile 41 r21.2.1 r21.2.2)) H := by rw [et_22]; exact hP
        have hD : va_D A ((pic_Rows g a_t (a_pile 0) t_22 tL) ++ (pic_Query g a_p1 p1) ++ (pic_Pile g a_pile 41 r21.2.1 r21.2.2)) := by rw [et_22]; exact hD
        refine lv_aload_n hx hb d_Rows_noteWhatIsAsked_50 rfl (lv_at hl 2 rfl) ?_
        refine lv_iload_n hx hb d_Rows_noteWhatIsAsked_51 rfl (lv_at hl 3 rfl) ?_
        obtain ⟨r24, hr24, h⟩ := Option.bind_eq_some_iff.mp h
        refine cl_Ir hP hS hA (va_runV (As := [.int x2]) (rest := []) ⟨hx, hb, hml, hown, htb⟩ (c_Query_entryAt l g F a_p1 p1 x2 _ hr24 H.size) (cw_V htb mb_Query_entryAt (htb _ L_Rows_76) rfl rfl ⟨Nat.le_of_ble_eq_true rfl, Nat.le_of_ble_eq_true rfl⟩) (pre_V (va_recv hK hP (ci := 1) (q0 := 8) rfl rfl) (pre_S [8, 9, 10, 11, 12, 13, 14, 15, 16, 17, 18] rfl rfl hP hD hS hA hAA hG)) rfl rfl hl.1 rfl (lv_room (Nat.le_of_ble_eq_true rfl)) d_Rows_noteWhatIsAsked_52 ⟨Nat.zero_le _, Nat.zero_le _⟩) (fun H locs hP hS => ?_)
        refine lv_istore (lv' := [(4, .int r24), (3, .int r21.1.toInt32), (0, .ref (a_t 0)), (1, .ref (a_p1 0)), (2, .int x2)]) hx hb d_Rows_noteWhatIsAsked_55 hl (by decide) rfl (fun ls hl => ?_)
        refine lv_iload hx hb d_Rows_noteWhatIsAsked_57 (lv_at hl 0 rfl) ?_
        refine lv_bipush (v := -2) hx hb d_Rows_noteWhatIsAsked_59 (by decide) ?_
        refine lv_icmp_ne (tgt := 89) hx hb d_Rows_noteWhatIsAsked_61 (by decide) (fun c25 => ?_) (fun c25 => ?_)
        · replace h := (if_neg c25).symm.trans h
          refine lv_iload hx hb d_Rows_noteWhatIsAsked_89 (lv_at hl 0 rfl) ?_
          refine lv_if_ge (tgt := 128) hx hb d_Rows_noteWhatIsAsked_91 (by decide) (fun c26 => ?_) (fun c26 => ?_)
          · replace h := (if_pos c26).symm.trans h
            exact k_Rows_noteWhatIsAsked_128 hC _ _ _ _ _ _ _ h (fun z0 z1 z2 z3 z4 z5 hz => ih z0 z1 z2 z3 z4 z5 _ hz) _ _ _ hP hD hS (lv_sub hl [2, 3, 4] rfl)
          · replace h := (if_neg c26).symm.trans h
            refine lv_iload hx hb d_Rows_noteWhatIsAsked_94 (lv_at hl 0 rfl) ?_
            refine lv_bipush (v := -5) hx hb d_Rows_noteWhatIsAsked_96 (by decide) ?_
            refine lv_icmp_ne (tgt := 105) hx hb d_Rows_noteWhatIsAsked_98 (by decide) (fun c27 => ?_) (fun c27 => ?_)
            · replace h := (if_neg c27).symm.trans h
              refine lv_iload_n hx hb d_Rows_noteWhatIsAsked_105 rfl (lv_at hl 1 rfl) ?_
              exact k_Rows_noteWhatIsAsked_106 hC _ _ _ _ _ _ _ _ h (fun z0 z1 z2 z3 z4 z5 hz => ih z0 z1 z2 z3 z4 z5 _ hz) _ _ _ hP hD hS (lv_sub hl [2, 3, 4] rfl)
            · replace h := (if_pos c27).symm.trans h
              refine lv_iconst (v := 3) hx hb d_Rows_noteWhatIsAsked_101 (by decide) ?_
              refine lv_goto (tgt := 106) hx hb d_Rows_noteWhatIsAsked_102 (by decide) ?_
              exact k_Rows_noteWhatIsAsked_106 hC _ _ _ _ _ _ _ _ h (fun z0 z1 z2 z3 z4 z5 hz => ih z0 z1 z2 z3 z4 z5 _ hz) _ _ _ hP hD hS (lv_sub hl [2, 3, 4] rfl)
        · replace h := (if_pos c25).symm.trans h
          refine lv_aload_n hx hb d_Rows_noteWhatIsAsked_64 rfl (lv_at hl 2 rfl) ?_
          refine va_get (D := gD g) (ci := 6) (v := .ref (a_pile 0)) (C := R_Rows) (T := T_Rows) (N := 11) hx hb htb in_Rows hown hK hP 0 rfl rfl 7 (by decide) (htb _ L_Rows_40) (fun _ h9 => h9) rfl d_Rows_noteWhatIsAsked_65 ?_
          refine lv_iload_n hx hb d_Rows_noteWhatIsAsked_68 rfl (lv_at hl 1 rfl) ?_
          refine lv_iconst (v := 3) hx hb d_Rows_noteWhatIsAsked_69 (by decide) ?_
          refine lv_icmp_ne (tgt := 79) hx hb d_Rows_noteWhatIsAsked_70 (by decide) (fun c28 => ?_) (fun c28 => ?_)
          · replace h := (if_neg c28).symm.trans h
            refine lv_iconst (v := 3) hx hb d_Rows_noteWhatIsAsked_79 (by decide) ?_
            refine lv_iload_n hx hb d_Rows_noteWhatIsAsked_80 rfl (lv_at hl 1 rfl) ?_
            refine lv_isub hx hb d_Rows_noteWhatIsAsked_81 ?_
            refine lv_i2l hx hb d_Rows_noteWhatIsAsked_82 rfl ?_
            exact k_Rows_noteWhatIsAsked_83 hC _ _ _ _ _ _ _ _ h (fun z0 z1 z2 z3 z4 z5 hz => ih z0 z1 z2 z3 z4 z5 _ hz) _ _ _ hP hD hS (lv_sub hl [2, 3, 4] rfl)
          · replace h := (if_pos c28).symm.trans h
            refine lv_ldc2 (v := 3) hx hb hown (htb _ K_Rows_106) d_Rows_noteWhatIsAsked_73 ?_
            refine lv_goto (tgt := 83) hx hb d_Rows_noteWhatIsAsked_76 (by decide) ?_
            exact k_Rows_noteWhatIsAsked_83 hC _ _ _ _ _ _ _ _ h (fun z0 z1 z2 z3 z4 z5 hz => ih z0 z1 z2 z3 z4 z5 _ hz) _ _ _ hP hD hS (lv_sub hl [2, 3, 4] rfl)
set_option maxHeartbeats 4000000 in
set_option maxRecDepth 100000 in
theorem k_Rows_noteWhatIsAsked {p : Program} {l : Launch} {e : Env} {s : State} {m : MethodId} {args : Array Value} {below : List Frame} {meth : Method} {c : Code} {g : Gz} {A : Nat → Prop} {F : Nat} {a_t a_p1 a_pile : Nat → Nat} (hC : Cx prog_7_method_5_code 6 none R_Rows p s m args meth c g A A) : ∀ (t : StI) (tL : StL) (p1 : StI) (pile : StI) (pileL : StL) (res : StI × StL × StI × StL), Rows_noteWhatIsAsked F t tL p1 pile pileL = some res → Go p l e rm_Rows_noteWhatIsAsked s m args below meth c g A A 6 (MQ below (EV g ((pic_Rows g a_t (a_pile 0) res.1 res.2.1) ++ (pic_Query g a_p1 p1) ++ (pic_Pile g a_pile 41 res.2.2.1 res.2.2.2)) A) args s 0 0 A) ((pic_Rows g a_t (a_pile 0) t tL) ++ (pic_Query g a_p1 p1) ++ (pic_Pile g a_pile 41 pile pileL)) [(0, .ref (a_t 0)), (1, .ref (a_p1 0))] 0 [] := by
  obtain ⟨hx, hb, hr, hml, hown, htb, hlocks, hA, hAA, hG⟩ := id hC
  have hK := hG.1
  intro t tL p1 pile pileL res h H locs ls hP hD hS hl
  rw [Rows_noteWhatIsAsked] at h
  refine lv_aload_n hx hb d_Rows_noteWhatIsAsked_0 rfl (lv_at hl 0 rfl) ?_
  refine va_get (D := gD g) (ci := 6) (v := .ref (a_pile 0)) (C := R_Rows) (T := T_Rows) (N := 11) hx hb htb in_Rows hown hK hP 0 rfl rfl 7 (by decide) (htb _ L_Rows_40) (fun _ h9 => h9) rfl d_Rows_noteWhatIsAsked_1 ?_
  obtain ⟨r29, hr29, h⟩ := Option.bind_eq_some_iff.mp h
  refine cl_V (wr := (pic_Rows g a_t (a_pile 0) t tL) ++ (pic_Query g a_p1 p1)) [19, 20] [0, 1, 2, 3, 4, 5, 6, 7, 8, 9, 10, 11, 12, 13, 14, 15, 16, 17, 18] rfl rfl rfl (by decide) hP hD hS hA (va_runV (As := []) (rest := []) ⟨hx, hb, hml, hown, htb⟩ (c_Pile_clear l g F a_pile 41 pile pileL _ hr29 H.size) (cw_V htb mb_Pile_clear (htb _ L_Rows_95) rfl rfl ⟨Nat.le_of_ble_eq_true rfl, Nat.le_of_ble_eq_true rfl⟩) (pre_V (va_recv hK hP (ci := 0) (q0 := 19) rfl rfl) (pre_S [19, 20] rfl rfl hP hD hS hA hAA hG)) rfl rfl hl.1 rfl (lv_room (Nat.le_of_ble_eq_true rfl)) d_Rows_noteWhatIsAsked_4 ⟨Nat.zero_le _, Nat.zero_le _⟩) (fun H locs hP hD hS => ?_)
  have hP : va_P (gD g) vwCl ((pic_Rows g a_t (a_pile 0) t tL) ++ (pic_Query g a_p1 p1) ++ (pic_Pile g a_pile 41 r29.1 r29.2)) H := hP.sub [0, 1, 2, 3, 4, 5, 6, 7, 8, 9, 10, 11, 12, 13, 14, 15, 16, 17, 18, 19, 20] rfl
  have hD : va_D A ((pic_Rows g a_t (a_pile 0) t tL) ++ (pic_Query g a_p1 p1) ++ (pic_Pile g a_pile 41 r29.1 r29.2)) := hD.sub [0, 1, 2, 3, 4, 5, 6, 7, 8, 9, 10, 11, 12, 13, 14, 15, 16, 17, 18, 19, 20] rfl rfl
  refine lv_aload_n hx hb d_Rows_noteWhatIsAsked_7 rfl (lv_at hl 0 rfl) ?_
  refine va_get (D := gD g) (ci := 6) (v := .ref (a_pile 0)) (C := R_Rows) (T := T_Rows) (N := 11) hx hb htb in_Rows hown hK hP 0 rfl rfl 7 (by decide) (htb _ L_Rows_40) (fun _ h9 => h9) rfl d_Rows_noteWhatIsAsked_8 ?_
  refine lv_lconst (v := 1) hx hb d_Rows_noteWhatIsAsked_11 (by decide) ?_
  obtain ⟨r30, hr30, h⟩ := Option.bind_eq_some_iff.mp h
  refine cl_V (wr := (pic_Rows g a_t (a_pile 0) t tL) ++ (pic_Query g a_p1 p1)) [19, 20] [0, 1, 2, 3, 4, 5, 6, 7, 8, 9, 10, 11, 12, 13, 14, 15, 16, 17, 18] rfl rfl rfl (by decide) hP hD hS hA (va_runV (As := [.long (1 : Int64)]) (rest := []) ⟨hx, hb, hml, hown, htb⟩ (c_Pile_push l g F a_pile 41 r29.1 r29.2 (1 : Int64) _ hr30 H.size) (cw_V htb mb_Pile_push (htb _ L_Rows_98) rfl rfl ⟨Nat.le_of_ble_eq_true rfl, Nat.le_of_ble_eq_true rfl⟩) (pre_V (va_recv hK hP (ci := 0) (q0 := 19) rfl rfl) (pre_S [19, 20] rfl rfl hP hD hS hA hAA hG)) rfl rfl hl.1 rfl (lv_room (Nat.le_of_ble_eq_true rfl)) d_Rows_noteWhatIsAsked_12 ⟨Nat.zero_le _, Nat.zero_le _⟩) (fun H locs hP hD hS => ?_)
  have hP : va_P (gD g) vwCl ((pic_Rows g a_t (a_pile 0) t tL) ++ (pic_Query g a_p1 p1) ++ (pic_Pile g a_pile 41 r30.1 r30.2)) H := hP.sub [0, 1, 2, 3, 4, 5, 6, 7, 8, 9, 10, 11, 12, 13, 14, 15, 16, 17, 18, 19, 20] rfl
  have hD : va_D A ((pic_Rows g a_t (a_pile 0) t tL) ++ (pic_Query g a_p1 p1) ++ (pic_Pile g a_pile 41 r30.1 r30.2)) := hD.sub [0, 1, 2, 3, 4, 5, 6, 7, 8, 9, 10, 11, 12, 13, 14, 15, 16, 17, 18, 19, 20] rfl rfl
  refine lv_iconst (v := 0) hx hb d_Rows_noteWhatIsAsked_15 (by decide) ?_
  refine lv_istore_n (lv' := [(2, .int (0 : Int32)), (0, .ref (a_t 0)), (1, .ref (a_p1 0))]) hx hb d_Rows_noteWhatIsAsked_16 rfl hl (by decide) rfl (fun ls hl => ?_)
  exact k_Rows_noteWhatIsAsked_17 hC F _ _ _ _ _ _ _ h _ _ _ hP hD hS (lv_sub hl [1, 2, 0] rfl)
theorem c_Rows_noteWhatIsAsked (l : Launch) (g : Gz) (F : Nat) (a_t : Nat → Nat) (a_p1 : Nat → Nat) (a_pile : Nat → Nat) (t : StI) (tL : StL) (p1 : StI) (pile : StI) (pileL : StL) (res : StI × StL × StI × StL) (h : Rows_noteWhatIsAsked F t tL p1 pile pileL = some res) : ∀ sz : Nat, Met l y_Rows_noteWhatIsAsked (.code y_Rows_noteWhatIsAsked prog_7_method_5_code 6 none :: TBL) rm_Rows_noteWhatIsAsked (va_Pc [.ref (a_t 0), .ref (a_p1 0)] (Pre0 g ((pic_Rows g a_t (a_pile 0) t tL) ++ (pic_Query g a_p1 p1) ++ (pic_Pile g a_pile 41 pile pileL)) sz)) (EV g ((pic_Rows g a_t (a_pile 0) res.1 res.2.1) ++ (pic_Query g a_p1 p1) ++ (pic_Pile g a_pile 41 res.2.2.1 res.2.2.2)) (va_A ((pic_Rows g a_t (a_pile 0) t tL) ++ (pic_Query g a_p1 p1) ++ (pic_Pile g a_pile 41 pile pileL)) sz)) 0 0 (va_A ((pic_Rows g a_t (a_pile 0) t tL) ++ (pic_Query g a_p1 p1) ++ (pic_Pile g a_pile 41 pile pileL)) sz) :=
  ct_w (Qc := fun A => EV g ((pic_Rows g a_t (a_pile 0) res.1 res.2.1) ++ (pic_Query g a_p1 p1) ++ (pic_Pile g a_pile 41 res.2.2.1 res.2.2.2)) A) (by decide) (Nat.le_of_ble_eq_true rfl) (fun p e s m args below meth c A hC => k_Rows_noteWhatIsAsked hC t tL p1 pile pileL res h)
def Rows_keepRows (F : Nat) (t : StI) (tL : StL) (x1 : Int32) : Option (Int32 × StI × StL) := letS (va_up t 10 (fun _ => (if (0 : Int32) < (if (200 : Int32) < x1 then (200 : Int32) else x1) then (if (200 : Int32) < x1 then (200 : Int32) else x1) else (0 : Int32)))) fun t_16 => if (0 : Int32) < 0 then none else if (0 : Int32) < 0 then none else if (t_16 10 0) < 0 then none else if 2400 < (0 : Int32).toNatClampNeg + (t_16 10 0).toNatClampNeg then none else if 200 < (0 : Int32).toNatClampNeg + (t_16 10 0).toNatClampNeg then none else letS (va_up tL 8 (va_cpy (tL 0) (tL 8) (0 : Int32).toNatClampNeg (0 : Int32).toNatClampNeg (t_16 10 0).toNatClampNeg)) fun t_17 => if (0 : Int32) < 0 then none else if (0 : Int32) < 0 then none else if (t_16 10 0) < 0 then none else if 2400 < (0 : Int32).toNatClampNeg + (t_16 10 0).toNatClampNeg then none else if 200 < (0 : Int32).toNatClampNeg + (t_16 10 0).toNatClampNeg then none else letS (va_up t_17 9 (va_cpy (t_17 1) (t_17 9) (0 : Int32).toNatClampNeg (0 : Int32).toNatClampNeg (t_16 10 0).toNatClampNeg)) fun t_24 => some ((t_16 10 0), t_16, t_24)
set_option maxHeartbeats 4000000 in
set_option maxRecDepth 100000 in
theorem k_Rows_keepRows {p : Program} {l : Launch} {e : Env} {s : State} {m : MethodId} {args : Array Value} {below : List Frame} {meth : Method} {c : Code} {g : Gz} {A : Nat → Prop} {F : Nat} {a_t : Nat → Nat} {r_pile : Nat} (hC : Cx prog_7_method_4_code 2 (some .int) R_Rows p s m args meth c g A A) : ∀ (t : StI) (tL : StL) (x1 : Int32) (res : Int32 × StI × StL), Rows_keepRows F t tL x1 = some res → Go p l e rm_Rows_keepRows s m args below meth c g A A 2 (MQ below (EI g ((pic_Rows g a_t r_pile res.2.1 res.2.2)) res.1 A) args s 0 0 A) ((pic_Rows g a_t r_pile t tL)) [(0, .ref (a_t 0)), (1, .int x1)] 0 [] := by
  obtain ⟨hx, hb, hr, hml, hown, htb, hlocks, hA, hAA, hG⟩ := id hC
  have hK := hG.1
  intro t tL x1 res h H locs ls hP hD hS hl
  rw [Rows_keepRows] at h
  refine lv_aload_n hx hb d_Rows_keepRows_0 rfl (lv_at hl 0 rfl) ?_
  refine lv_iconst (v := 0) hx hb d_Rows_keepRows_1 (by decide) ?_
  refine lv_iload_n hx hb d_Rows_keepRows_2 rfl (lv_at hl 1 rfl) ?_
  refine lv_sipush (v := 200) hx hb d_Rows_keepRows_3 (by decide) ?_
  refine va_mmin hx hb (hml.trans hl.1.symm) hown (htb _ L_Rows_70) (htb _ W_math_min_static) (htb _ W_math_init) (htb _ W_math_min_code) (Nat.le_of_ble_eq_true rfl) (Nat.le_of_ble_eq_true rfl) (Nat.zero_le _) (Nat.zero_le _) d_Rows_keepRows_6 ?_
  refine va_mmax hx hb (hml.trans hl.1.symm) hown (htb _ L_Rows_86) (htb _ W_math_max_static) (htb _ W_math_init) (htb _ W_math_max_code) (Nat.le_of_ble_eq_true rfl) (Nat.le_of_ble_eq_true rfl) (Nat.zero_le _) (Nat.zero_le _) d_Rows_keepRows_9 ?_
  refine va_put (D := gD g) (ci := 6) (v := .int (if (0 : Int32) < (if (200 : Int32) < x1 then (200 : Int32) else x1) then (if (200 : Int32) < x1 then (200 : Int32) else x1) else (0 : Int32))) (ty := .int) (C := R_Rows) (T := T_Rows) (N := 11) hx hb htb in_Rows ty_Rows ty_Rows_ok nm_Rows hown hK hP hD hS 0 rfl rfl 10 (by decide) (htb _ L_Rows_50) (fun _ h9 => h9) rfl (by decide +kernel) rfl rfl (Nat.le_of_ble_eq_true rfl) d_Rows_keepRows_12 (fun H locs hP hD hS => ?_)
  obtain ⟨t_16, et_16, h⟩ := letS_el h
  have hP : va_P (gD g) vwCl ((pic_Rows g a_t r_pile t_16 tL)) H := by rw [et_16]; exact hP
  have hD : va_D A ((pic_Rows g a_t r_pile t_16 tL)) := by rw [et_16]; exact hD
  refine lv_aload_n hx hb d_Rows_keepRows_15 rfl (lv_at hl 0 rfl) ?_
  refine va_get (D := gD g) (ci := 6) (v := .ref (a_t 1)) (C := R_Rows) (T := T_Rows) (N := 11) hx hb htb in_Rows hown hK hP 0 rfl rfl 0 (by decide) (htb _ L_Rows_11) (fun _ h9 => h9) rfl d_Rows_keepRows_16 ?_
  refine lv_iconst (v := 0) hx hb d_Rows_keepRows_19 (by decide) ?_
  refine lv_aload_n hx hb d_Rows_keepRows_20 rfl (lv_at hl 0 rfl) ?_
  refine va_get (D := gD g) (ci := 6) (v := .ref (a_t 9)) (C := R_Rows) (T := T_Rows) (N := 11) hx hb htb in_Rows hown hK hP 0 rfl rfl 8 (by decide) (htb _ L_Rows_44) (fun _ h9 => h9) rfl d_Rows_keepRows_21 ?_
  refine lv_iconst (v := 0) hx hb d_Rows_keepRows_24 (by decide) ?_
  refine lv_aload_n hx hb d_Rows_keepRows_25 rfl (lv_at hl 0 rfl) ?_
  refine va_get (D := gD g) (ci := 6) (v := .int (t_16 10 0)) (C := R_Rows) (T := T_Rows) (N := 11) hx hb htb in_Rows hown hK hP 0 rfl rfl 10 (by decide) (htb _ L_Rows_50) (fun _ h9 => h9) rfl d_Rows_keepRows_26 ?_
  by_cases c18 : (0 : Int32) < 0
  · replace h := (if_pos c18).symm.trans h
    cases h
  replace h := (if_neg c18).symm.trans h
  by_cases c19 : (0 : Int32) < 0
  · replace h := (if_pos c19).symm.trans h
    cases h
  replace h := (if_neg c19).symm.trans h
  by_cases c20 : (t_16 10 0) < 0
  · replace h := (if_pos c20).symm.trans h
    cases h
  replace h := (if_neg c20).symm.trans h
  by_cases c21 : 2400 < (0 : Int32).toNatClampNeg + (t_16 10 0).toNatClampNeg
  · replace h := (if_pos c21).symm.trans h
    cases h
  replace h := (if_neg c21).symm.trans h
  by_cases c22 : 200 < (0 : Int32).toNatClampNeg + (t_16 10 0).toNatClampNeg
  · replace h := (if_pos c22).symm.trans h
    cases h
  replace h := (if_neg c22).symm.trans h
  refine va_copyl hx hb (hml.trans hl.1.symm) hown (htb _ L_Rows_89) (htb _ W_copy_native) (htb _ W_copy_static) (htb _ W_system_init) hK hP hD hS 1 6 3 3 rfl rfl rfl rfl rfl c18 c19 c20 (Nat.not_lt.mp c21) (Nat.not_lt.mp c22) (fun _ _ => rfl) (Nat.le_of_ble_eq_true rfl) (by decide +kernel) d_Rows_keepRows_29 (fun H locs hP hD hS => ?_)
  obtain ⟨t_17, et_17, h⟩ := letS_el h
  have hP : va_P (gD g) vwCl ((pic_Rows g a_t r_pile t_16 t_17)) H := by rw [et_17]; exact hP
  have hD : va_D A ((pic_Rows g a_t r_pile t_16 t_17)) := by rw [et_17]; exact hD
  refine lv_aload_n hx hb d_Rows_keepRows_32 rfl (lv_at hl 0 rfl) ?_
  refine va_get (D := gD g) (ci := 6) (v := .ref (a_t 2)) (C := R_Rows) (T := T_Rows) (N := 11) hx hb htb in_Rows hown hK hP 0 rfl rfl 1 (by decide) (htb _ L_Rows_15) (fun _ h9 => h9) rfl d_Rows_keepRows_33 ?_
  refine lv_iconst (v := 0) hx hb d_Rows_keepRows_36 (by decide) ?_
  refine lv_aload_n hx hb d_Rows_keepRows_37 rfl (lv_at hl 0 rfl) ?_
  refine va_get (D := gD g) (ci := 6) (v := .ref (a_t 10)) (C := R_Rows) (T := T_Rows) (N := 11) hx hb htb in_Rows hown hK hP 0 rfl rfl 9 (by decide) (htb _ L_Rows_47) (fun _ h9 => h9) rfl d_Rows_keepRows_38 ?_
  refine lv_iconst (v := 0) hx hb d_Rows_keepRows_41 (by decide) ?_
  refine lv_aload_n hx hb d_Rows_keepRows_42 rfl (lv_at hl 0 rfl) ?_
  refine va_get (D := gD g) (ci := 6) (v := .int (t_16 10 0)) (C := R_Rows) (T := T_Rows) (N := 11) hx hb htb in_Rows hown hK hP 0 rfl rfl 10 (by decide) (htb _ L_Rows_50) (fun _ h9 => h9) rfl d_Rows_keepRows_43 ?_
  by_cases c25 : (0 : Int32) < 0
  · replace h := (if_pos c25).symm.trans h
    cases h
  replace h := (if_neg c25).symm.trans h
  by_cases c26 : (0 : Int32) < 0
  · replace h := (if_pos c26).symm.trans h
    cases h
  replace h := (if_neg c26).symm.trans h
  by_cases c27 : (t_16 10 0) < 0
  · replace h := (if_pos c27).symm.trans h
    cases h
  replace h := (if_neg c27).symm.trans h
  by_cases c28 : 2400 < (0 : Int32).toNatClampNeg + (t_16 10 0).toNatClampNeg
  · replace h := (if_pos c28).symm.trans h
    cases h
  replace h := (if_neg c28).symm.trans h
  by_cases c29 : 200 < (0 : Int32).toNatClampNeg + (t_16 10 0).toNatClampNeg
  · replace h := (if_pos c29).symm.trans h
    cases h
  replace h := (if_neg c29).symm.trans h
  refine va_copyl hx hb (hml.trans hl.1.symm) hown (htb _ L_Rows_89) (htb _ W_copy_native) (htb _ W_copy_static) (htb _ W_system_init) hK hP hD hS 2 7 3 3 rfl rfl rfl rfl rfl c25 c26 c27 (Nat.not_lt.mp c28) (Nat.not_lt.mp c29) (fun _ _ => rfl) (Nat.le_of_ble_eq_true rfl) (by decide +kernel) d_Rows_keepRows_46 (fun H locs hP hD hS => ?_)
  obtain ⟨t_24, et_24, h⟩ := letS_el h
  have hP : va_P (gD g) vwCl ((pic_Rows g a_t r_pile t_16 t_24)) H := by rw [et_24]; exact hP
  have hD : va_D A ((pic_Rows g a_t r_pile t_16 t_24)) := by rw [et_24]; exact hD
  refine lv_aload_n hx hb d_Rows_keepRows_49 rfl (lv_at hl 0 rfl) ?_
  refine va_get (D := gD g) (ci := 6) (v := .int (t_16 10 0)) (C := R_Rows) (T := T_Rows) (N := 11) hx hb htb in_Rows hown hK hP 0 rfl rfl 10 (by decide) (htb _ L_Rows_50) (fun _ h9 => h9) rfl d_Rows_keepRows_50 ?_
  cases h
  exact W.iret hx hb hr (fun t ht hW => ⟨⟨_, (), rfl, rfl, by rw [ht]; exact hP, hD⟩, hS.F ht⟩) hS.2.2 d_Rows_keepRows_53
theorem c_Rows_keepRows (l : Launch) (g : Gz) (F : Nat) (a_t : Nat → Nat) (r_pile : Nat) (t : StI) (tL : StL) (x1 : Int32) (res : Int32 × StI × StL) (h : Rows_keepRows F t tL x1 = some res) : ∀ sz : Nat, Met l y_Rows_keepRows (.code y_Rows_keepRows prog_7_method_4_code 2 (some .int) :: TBL) rm_Rows_keepRows (va_Pc [.ref (a_t 0), .int x1] (Pre0 g ((pic_Rows g a_t r_pile t tL)) sz)) (EI g ((pic_Rows g a_t r_pile res.2.1 res.2.2)) res.1 (va_A ((pic_Rows g a_t r_pile t tL)) sz)) 0 0 (va_A ((pic_Rows g a_t r_pile t tL)) sz) :=
  ct_w (Qc := fun A => EI g ((pic_Rows g a_t r_pile res.2.1 res.2.2)) res.1 A) (by decide) (Nat.le_of_ble_eq_true rfl) (fun p e s m args below meth c A hC => k_Rows_keepRows hC t tL x1 res h)
def Rows_make_54 (F : Nat) : Nat → StI → StL → StI → StI → StL → Int32 → Option (Int32 × StI × StL × StI × StL)
  | 0, _, _, _, _, _, _ => none
  | n + 1, t, tL, p1, pile, pileL, x2 => if x2 < 0 then (Rows_sideTo F t tL (0 : Int32) (1 : Int32)).bind fun r15 => (Rows_keepRows F t tL r15).bind fun r16 => some (r16.1, r16.2.1, r16.2.2, pile, pileL) else (Query_entryAt F p1 x2).bind fun r17 => if x2 < 0 ∨ 229 ≤ x2.toNatClampNeg then none else (Rows_makeSet F t tL r17 ((t 6) x2.toNatClampNeg)).bind fun r19 => if r19.1 = 0 then some ((-1 : Int32), r19.2.1, r19.2.2, pile, pileL) else Rows_make_54 F n r19.2.1 r19.2.2 p1 pile pileL (x2 + (-1 : Int32))
def Rows_make (F : Nat) (t : StI) (tL : StL) (p1 : StI) (pile : StI) (pileL : StL) : Option (Int32 × StI × StL × StI × StL) := letS (va_up t 2 (fun _ => (0 : Int32))) fun t_21 => letS (va_up t_21 5 (fun _ => (0 : Int32))) fun t_22 => if (p1 13 0) = 0 then (Rows_put F t_22 tL (0 : Int32) (0 : Int64) (0 : Int64)).bind fun r25 => (Rows_keepRows F r25.2.1 r25.2.2 (r25.2.1 2 0)).bind fun r26 => some (r26.1, r26.2.1, r26.2.2, pile, pileL) else (Rows_noteWhatIsAsked F t_22 tL p1 pile pileL).bind fun r24 => Rows_make_54 F F r24.1 r24.2.1 p1 r24.2.2.1 r24.2.2.2 ((if (229 : Int32) < (p1 13 0) then (229 : Int32) else (p1 13 0)) - (1 : Int32))
set_option maxHeartbeats 4000000 in
set_option maxRecDepth 100000 in
theorem k_Rows_make_54 {p : Program} {l : Launch} {e : Env} {s : State} {m : MethodId} {args : Array Value} {below : List Frame} {meth : Method} {c : Code} {g : Gz} {A : Nat → Prop} {F : Nat} {a_t a_p1 a_pile : Nat → Nat} (hC : Cx prog_7_method_3_code 3 (some .int) R_Rows p s m args meth c g A A) : ∀ (n : Nat) (t : StI) (tL : StL) (p1 : StI) (pile : StI) (pileL : StL) (x2 : Int32) (res : Int32 × StI × StL × StI × StL), Rows_make_54 F n t tL p1 pile pileL x2 = some res → Go p l e rm_Rows_make s m args below meth c g A A 3 (MQ below (EI g ((pic_Rows g a_t (a_pile 0) res.2.1 res.2.2.1) ++ (pic_Query g a_p1 p1) ++ (pic_Pile g a_pile 41 res.2.2.2.1 res.2.2.2.2)) res.1 A) args s 0 0 A) ((pic_Rows g a_t (a_pile 0) t tL) ++ (pic_Query g a_p1 p1) ++ (pic_Pile g a_pile 41 pile pileL)) [(0, .ref (a_t 0)), (1, .ref (a_p1 0)), (2, .int x2)] 54 [] := by
  obtain ⟨hx, hb, hr, hml, hown, htb, hlocks, hA, hAA, hG⟩ := id hC
  have hK := hG.1
  intro n
  induction n with
  | zero => intro t tL p1 pile pileL x2 res h; rw [Rows_make_54] at h; cases h
  | succ n ih =>
    intro t tL p1 pile pileL x2 res h H locs ls hP hD hS hl
    rw [Rows_make_54] at h
    refine lv_iload_n hx hb d_Rows_make_54 rfl (lv_at hl 2 rfl) ?_
    refine lv_if_lt (tgt := 84) hx hb d_Rows_make_55 (by decide) (fun c14 => ?_) (fun c14 => ?_)
    · replace h := (if_pos c14).symm.trans h
      refine lv_aload_n hx hb d_Rows_make_84 rfl (lv_at hl 0 rfl) ?_
      refine lv_aload_n hx hb d_Rows_make_85 rfl (lv_at hl 0 rfl) ?_
      refine lv_iconst (v := 0) hx hb d_Rows_make_86 (by decide) ?_
      refine lv_iconst (v := 1) hx hb d_Rows_make_87 (by decide) ?_
      obtain ⟨r15, hr15, h⟩ := Option.bind_eq_some_iff.mp h
      refine cl_Ir hP hS hA (va_runV (As := [.int (0 : Int32), .int (1 : Int32)]) (rest := [.ref (a_t 0)]) ⟨hx, hb, hml, hown, htb⟩ (c_Rows_sideTo l g F a_t (a_pile 0) t tL (0 : Int32) (1 : Int32) _ hr15 H.size) (cw_V htb mb_Rows_sideTo (htb _ L_Rows_83) rfl rfl ⟨Nat.le_of_ble_eq_true rfl, Nat.le_of_ble_eq_true rfl⟩) (pre_V (va_recv hK hP (ci := 6) (q0 := 0) rfl rfl) (pre_S [0, 1, 2, 3, 4, 5, 6, 7] rfl rfl hP hD hS hA hAA hG)) rfl rfl hl.1 rfl (lv_room (Nat.le_of_ble_eq_true rfl)) d_Rows_make_88 ⟨Nat.zero_le _, Nat.zero_le _⟩) (fun H locs hP hS => ?_)
      obtain ⟨r16, hr16, h⟩ := Option.bind_eq_some_iff.mp h
      refine cl_I (wr := (pic_Query g a_p1 p1) ++ (pic_Pile g a_pile 41 pile pileL)) [0, 1, 2, 3, 4, 5, 6, 7] [8, 9, 10, 11, 12, 13, 14, 15, 16, 17, 18, 19, 20] rfl rfl rfl (by decide) hP hD hS hA (va_runV (As := [.int r15]) (rest := []) ⟨hx, hb, hml, hown, htb⟩ (c_Rows_keepRows l g F a_t (a_pile 0) t tL r15 _ hr16 H.size) (cw_V htb mb_Rows_keepRows (htb _ L_Rows_62) rfl rfl ⟨Nat.le_of_ble_eq_true rfl, Nat.le_of_ble_eq_true rfl⟩) (pre_V (va_recv hK hP (ci := 6) (q0 := 0) rfl rfl) (pre_S [0, 1, 2, 3, 4, 5, 6, 7] rfl rfl hP hD hS hA hAA hG)) rfl rfl hl.1 rfl (lv_room (Nat.le_of_ble_eq_true rfl)) d_Rows_make_91 ⟨Nat.zero_le _, Nat.zero_le _⟩) (fun H locs hP hD hS => ?_)
      have hP : va_P (gD g) vwCl ((pic_Rows g a_t (a_pile 0) r16.2.1 r16.2.2) ++ (pic_Query g a_p1 p1) ++ (pic_Pile g a_pile 41 pile pileL)) H := hP.sub [13, 14, 15, 16, 17, 18, 19, 20, 0, 1, 2, 3, 4, 5, 6, 7, 8, 9, 10, 11, 12] rfl
      have hD : va_D A ((pic_Rows g a_t (a_pile 0) r16.2.1 r16.2.2) ++ (pic_Query g a_p1 p1) ++ (pic_Pile g a_pile 41 pile pileL)) := hD.sub [13, 14, 15, 16, 17, 18, 19, 20, 0, 1, 2, 3, 4, 5, 6, 7, 8, 9, 10, 11, 12] rfl rfl
      cases h
      exact W.iret hx hb hr (fun t ht hW => ⟨⟨_, (), rfl, rfl, by rw [ht]; exact hP, hD⟩, hS.F ht⟩) hS.2.2 d_Rows_make_94
    · replace h := (if_neg c14).symm.trans h
      refine lv_aload_n hx hb d_Rows_make_58 rfl (lv_at hl 0 rfl) ?_
      refine lv_aload_n hx hb d_Rows_make_59 rfl (lv_at hl 1 rfl) ?_
      refine lv_iload_n hx hb d_Rows_make_60 rfl (lv_at hl 2 rfl) ?_
      obtain ⟨r17, hr17, h⟩ := Option.bind_eq_some_iff.mp h
      refine cl_Ir hP hS hA (va_runV (As := [.int x2]) (rest := [.ref (a_t 0)]) ⟨hx, hb, hml, hown, htb⟩ (c_Query_entryAt l g F a_p1 p1 x2 _ hr17 H.size) (cw_V htb mb_Query_entryAt (htb _ L_Rows_76) rfl rfl ⟨Nat.le_of_ble_eq_true rfl, Nat.le_of_ble_eq_true rfl⟩) (pre_V (va_recv hK hP (ci := 1) (q0 := 8) rfl rfl) (pre_S [8, 9, 10, 11, 12, 13, 14, 15, 16, 17, 18] rfl rfl hP hD hS hA hAA hG)) rfl rfl hl.1 rfl (lv_room (Nat.le_of_ble_eq_true rfl)) d_Rows_make_61 ⟨Nat.zero_le _, Nat.zero_le _⟩) (fun H locs hP hS => ?_)
      refine lv_aload_n hx hb d_Rows_make_64 rfl (lv_at hl 0 rfl) ?_
      refine va_get (D := gD g) (ci := 6) (v := .ref (a_t 7)) (C := R_Rows) (T := T_Rows) (N := 11) hx hb htb in_Rows hown hK hP 0 rfl rfl 6 (by decide) (htb _ L_Rows_32) (fun _ h9 => h9) rfl d_Rows_make_65 ?_
      refine lv_iload_n hx hb d_Rows_make_68 rfl (lv_at hl 2 rfl) ?_
      by_cases c18 : (x2 < 0 ∨ 229 ≤ x2.toNatClampNeg)
      · replace h := (if_pos c18).symm.trans h
        cases h
      replace h := (if_neg c18).symm.trans h
      refine va_iald hx hb hK hP 5 0 rfl rfl c18 d_Rows_make_69 ?_
      obtain ⟨r19, hr19, h⟩ := Option.bind_eq_some_iff.mp h
      refine cl_I (wr := (pic_Query g a_p1 p1) ++ (pic_Pile g a_pile 41 pile pileL)) [0, 1, 2, 3, 4, 5, 6, 7] [8, 9, 10, 11, 12, 13, 14, 15, 16, 17, 18, 19, 20] rfl rfl rfl (by decide) hP hD hS hA (va_runV (As := [.int r17, .int ((t 6) x2.toNatClampNeg)]) (rest := []) ⟨hx, hb, hml, hown, htb⟩ (c_Rows_makeSet l g F a_t (a_pile 0) t tL r17 ((t 6) x2.toNatClampNeg) _ hr19 H.size) (cw_V htb mb_Rows_makeSet (htb _ L_Rows_79) rfl rfl ⟨Nat.le_of_ble_eq_true rfl, Nat.le_of_ble_eq_true rfl⟩) (pre_V (va_recv hK hP (ci := 6) (q0 := 0) rfl rfl) (pre_S [0, 1, 2, 3, 4, 5, 6, 7] rfl rfl hP hD hS hA hAA hG)) rfl rfl hl.1 rfl (lv_room (Nat.le_of_ble_eq_true rfl)) d_Rows_make_70 ⟨Nat.zero_le _, Nat.zero_le _⟩) (fun H locs hP hD hS => ?_)
      have hP : va_P (gD g) vwCl ((pic_Rows g a_t (a_pile 0) r19.2.1 r19.2.2) ++ (pic_Query g a_p1 p1) ++ (pic_Pile g a_pile 41 pile pileL)) H := hP.sub [13, 14, 15, 16, 17, 18, 19, 20, 0, 1, 2, 3, 4, 5, 6, 7, 8, 9, 10, 11, 12] rfl
      have hD : va_D A ((pic_Rows g a_t (a_pile 0) r19.2.1 r19.2.2) ++ (pic_Query g a_p1 p1) ++ (pic_Pile g a_pile 41 pile pileL)) := hD.sub [13, 14, 15, 16, 17, 18, 19, 20, 0, 1, 2, 3, 4, 5, 6, 7, 8, 9, 10, 11, 12] rfl rfl
      refine lv_if_ne (tgt := 78) hx hb d_Rows_make_73 (by decide) (fun c20 => ?_) (fun c20 => ?_)
      · replace h := (if_neg c20).symm.trans h
        refine lv_iinc (v := (x2 + (-1 : Int32))) (lv' := [(2, .int (x2 + (-1 : Int32))), (0, .ref (a_t 0)), (1, .ref (a_p1 0))]) hx hb d_Rows_make_78 hl (k := 2) rfl rfl (by decide) rfl (fun ls hl => ?_)
        refine lv_goto (tgt := 54) hx hb d_Rows_make_81 (by decide) ?_
        exact ih _ _ _ _ _ _ _ h _ _ _ hP hD hS (lv_sub hl [1, 2, 0] rfl)
      · replace h := (if_pos c20).symm.trans h
        refine lv_iconst (v := -1) hx hb d_Rows_make_76 (by decide) ?_
        cases h
        exact W.iret hx hb hr (fun t ht hW => ⟨⟨_, (), rfl, rfl, by rw [ht]; exact hP, hD⟩, hS.F ht⟩) hS.2.2 d_Rows_make_77
set_option maxHeartbeats 4000000 in
set_option maxRecDepth 100000 in
theorem k_Rows_make {p : Program} {l : Launch} {e : Env} {s : State} {m : MethodId} {args : Array Value} {below : List Frame} {meth : Method} {c : Code} {g : Gz} {A : Nat → Prop} {F : Nat} {a_t a_p1 a_pile : Nat → Nat} (hC : Cx prog_7_method_3_code 3 (some .int) R_Rows p s m args meth c g A A) : ∀ (t : StI) (tL : StL) (p1 : StI) (pile : StI) (pileL : StL) (res : Int32 × StI × StL × StI × StL), Rows_make F t tL p1 pile pileL = some res → Go p l e rm_Rows_make s m args below meth c g A A 3 (MQ below (EI g ((pic_Rows g a_t (a_pile 0) res.2.1 res.2.2.1) ++ (pic_Query g a_p1 p1) ++ (pic_Pile g a_pile 41 res.2.2.2.1 res.2.2.2.2)) res.1 A) args s 0 0 A) ((pic_Rows g a_t (a_pile 0) t tL) ++ (pic_Query g a_p1 p1) ++ (pic_Pile g a_pile 41 pile pileL)) [(0, .ref (a_t 0)), (1, .ref (a_p1 0))] 0 [] := by
  obtain ⟨hx, hb, hr, hml, hown, htb, hlocks, hA, hAA, hG⟩ := id hC
  have hK := hG.1
  intro t tL p1 pile pileL res h H locs ls hP hD hS hl
  rw [Rows_make] at h
  refine lv_aload_n hx hb d_Rows_make_0 rfl (lv_at hl 0 rfl) ?_
  refine lv_iconst (v := 0) hx hb d_Rows_make_1 (by decide) ?_
  refine va_put (D := gD g) (ci := 6) (v := .int (0 : Int32)) (ty := .int) (C := R_Rows) (T := T_Rows) (N := 11) hx hb htb in_Rows ty_Rows ty_Rows_ok nm_Rows hown hK hP hD hS 0 rfl rfl 2 (by decide) (htb _ L_Rows_18) (fun _ h9 => h9) rfl (by decide +kernel) rfl rfl (Nat.le_of_ble_eq_true rfl) d_Rows_make_2 (fun H locs hP hD hS => ?_)
  obtain ⟨t_21, et_21, h⟩ := letS_el h
  have hP : va_P (gD g) vwCl ((pic_Rows g a_t (a_pile 0) t_21 tL) ++ (pic_Query g a_p1 p1) ++ (pic_Pile g a_pile 41 pile pileL)) H := by rw [et_21]; exact hP
  have hD : va_D A ((pic_Rows g a_t (a_pile 0) t_21 tL) ++ (pic_Query g a_p1 p1) ++ (pic_Pile g a_pile 41 pile pileL)) := by rw [et_21]; exact hD
  refine lv_aload_n hx hb d_Rows_make_5 rfl (lv_at hl 0 rfl) ?_
  refine lv_iconst (v := 0) hx hb d_Rows_make_6 (by decide) ?_
  refine va_put (D := gD g) (ci := 6) (v := .int (0 : Int32)) (ty := .int) (C := R_Rows) (T := T_Rows) (N := 11) hx hb htb in_Rows ty_Rows ty_Rows_ok nm_Rows hown hK hP hD hS 0 rfl rfl 5 (by decide) (htb _ L_Rows_29) (fun _ h9 => h9) rfl (by decide +kernel) rfl rfl (Nat.le_of_ble_eq_true rfl) d_Rows_make_7 (fun H locs hP hD hS => ?_)
  obtain ⟨t_22, et_22, h⟩ := letS_el h
  have hP : va_P (gD g) vwCl ((pic_Rows g a_t (a_pile 0) t_22 tL) ++ (pic_Query g a_p1 p1) ++ (pic_Pile g a_pile 41 pile pileL)) H := by rw [et_22]; exact hP
  have hD : va_D A ((pic_Rows g a_t (a_pile 0) t_22 tL) ++ (pic_Query g a_p1 p1) ++ (pic_Pile g a_pile 41 pile pileL)) := by rw [et_22]; exact hD
  refine lv_aload_n hx hb d_Rows_make_10 rfl (lv_at hl 1 rfl) ?_
  refine va_getN (D := gD g) (ci := 1) (v := .int (p1 13 0)) (C := R_Query) (T := T_Query) (N := 14) hx hb htb in_Query hown hK hP 8 rfl rfl 13 (by decide) (nf_of hG N_Rows_53) (fun _ h9 => h9) rfl d_Rows_make_11 ?_
  refine lv_if_ne (tgt := 34) hx hb d_Rows_make_14 (by decide) (fun c23 => ?_) (fun c23 => ?_)
  · replace h := (if_neg c23).symm.trans h
    refine lv_aload_n hx hb d_Rows_make_34 rfl (lv_at hl 0 rfl) ?_
    refine lv_aload_n hx hb d_Rows_make_35 rfl (lv_at hl 1 rfl) ?_
    obtain ⟨r24, hr24, h⟩ := Option.bind_eq_some_iff.mp h
    refine cl_V (wr := []) [0, 1, 2, 3, 4, 5, 6, 7, 8, 9, 10, 11, 12, 13, 14, 15, 16, 17, 18, 19, 20] [] rfl rfl rfl (by decide) hP hD hS hA (va_runV (As := [.ref (a_p1 0)]) (rest := []) ⟨hx, hb, hml, hown, htb⟩ (c_Rows_noteWhatIsAsked l g F a_t a_p1 a_pile t_22 tL p1 pile pileL _ hr24 H.size) (cw_V htb mb_Rows_noteWhatIsAsked (htb _ L_Rows_66) rfl rfl ⟨Nat.le_of_ble_eq_true rfl, Nat.le_of_ble_eq_true rfl⟩) (pre_V (va_recv hK hP (ci := 6) (q0 := 0) rfl rfl) (pre_S [0, 1, 2, 3, 4, 5, 6, 7, 8, 9, 10, 11, 12, 13, 14, 15, 16, 17, 18, 19, 20] rfl rfl hP hD hS hA hAA hG)) rfl rfl hl.1 rfl (lv_room (Nat.le_of_ble_eq_true rfl)) d_Rows_make_36 ⟨Nat.zero_le _, Nat.zero_le _⟩) (fun H locs hP hD hS => ?_)
    have hP : va_P (gD g) vwCl ((pic_Rows g a_t (a_pile 0) r24.1 r24.2.1) ++ (pic_Query g a_p1 p1) ++ (pic_Pile g a_pile 41 r24.2.2.1 r24.2.2.2)) H := hP.sub [0, 1, 2, 3, 4, 5, 6, 7, 8, 9, 10, 11, 12, 13, 14, 15, 16, 17, 18, 19, 20] rfl
    have hD : va_D A ((pic_Rows g a_t (a_pile 0) r24.1 r24.2.1) ++ (pic_Query g a_p1 p1) ++ (pic_Pile g a_pile 41 r24.2.2.1 r24.2.2.2)) := hD.sub [0, 1, 2, 3, 4, 5, 6, 7, 8, 9, 10, 11, 12, 13, 14, 15, 16, 17, 18, 19, 20] rfl rfl
    refine lv_aload_n hx hb d_Rows_make_39 rfl (lv_at hl 1 rfl) ?_
    refine va_getN (D := gD g) (ci := 1) (v := .int (p1 13 0)) (C := R_Query) (T := T_Query) (N := 14) hx hb htb in_Query hown hK hP 8 rfl rfl 13 (by decide) (nf_of hG N_Rows_53) (fun _ h9 => h9) rfl d_Rows_make_40 ?_
    refine lv_aload_n hx hb d_Rows_make_43 rfl (lv_at hl 0 rfl) ?_
    refine va_get (D := gD g) (ci := 6) (v := .ref (a_t 7)) (C := R_Rows) (T := T_Rows) (N := 11) hx hb htb in_Rows hown hK hP 0 rfl rfl 6 (by decide) (htb _ L_Rows_32) (fun _ h9 => h9) rfl d_Rows_make_44 ?_
    refine va_alen hx hb hK hP 5 0 rfl rfl rfl d_Rows_make_47 ?_
    refine va_mmin hx hb (hml.trans hl.1.symm) hown (htb _ L_Rows_70) (htb _ W_math_min_static) (htb _ W_math_init) (htb _ W_math_min_code) (Nat.le_of_ble_eq_true rfl) (Nat.le_of_ble_eq_true rfl) (Nat.zero_le _) (Nat.zero_le _) d_Rows_make_48 ?_
    refine lv_iconst (v := 1) hx hb d_Rows_make_51 (by decide) ?_
    refine lv_isub hx hb d_Rows_make_52 ?_
    refine lv_istore_n (lv' := [(2, .int ((if (229 : Int32) < (p1 13 0) then (229 : Int32) else (p1 13 0)) - (1 : Int32))), (0, .ref (a_t 0)), (1, .ref (a_p1 0))]) hx hb d_Rows_make_53 rfl hl (by decide) rfl (fun ls hl => ?_)
    exact k_Rows_make_54 hC F _ _ _ _ _ _ _ h _ _ _ hP hD hS (lv_sub hl [1, 2, 0] rfl)
  · replace h := (if_pos c23).symm.trans h
    refine lv_aload_n hx hb d_Rows_make_17 rfl (lv_at hl 0 rfl) ?_
    refine lv_iconst (v := 0) hx hb d_Rows_make_18 (by decide) ?_
    refine lv_lconst (v := 0) hx hb d_Rows_make_19 (by decide) ?_
    refine lv_lconst (v := 0) hx hb d_Rows_make_20 (by decide) ?_
    obtain ⟨r25, hr25, h⟩ := Option.bind_eq_some_iff.mp h
    refine cl_I (wr := (pic_Query g a_p1 p1) ++ (pic_Pile g a_pile 41 pile pileL)) [0, 1, 2, 3, 4, 5, 6, 7] [8, 9, 10, 11, 12, 13, 14, 15, 16, 17, 18, 19, 20] rfl rfl rfl (by decide) hP hD hS hA (va_runV (As := [.int (0 : Int32), .long (0 : Int64), .long (0 : Int64)]) (rest := []) ⟨hx, hb, hml, hown, htb⟩ (c_Rows_put l g F a_t (a_pile 0) t_22 tL (0 : Int32) (0 : Int64) (0 : Int64) _ hr25 H.size) (cw_V htb mb_Rows_put (htb _ L_Rows_58) rfl rfl ⟨Nat.le_of_ble_eq_true rfl, Nat.le_of_ble_eq_true rfl⟩) (pre_V (va_recv hK hP (ci := 6) (q0 := 0) rfl rfl) (pre_S [0, 1, 2, 3, 4, 5, 6, 7] rfl rfl hP hD hS hA hAA hG)) rfl rfl hl.1 rfl (lv_room (Nat.le_of_ble_eq_true rfl)) d_Rows_make_21 ⟨Nat.zero_le _, Nat.zero_le _⟩) (fun H locs hP hD hS => ?_)
    have hP : va_P (gD g) vwCl ((pic_Rows g a_t (a_pile 0) r25.2.1 r25.2.2) ++ (pic_Query g a_p1 p1) ++ (pic_Pile g a_pile 41 pile pileL)) H := hP.sub [13, 14, 15, 16, 17, 18, 19, 20, 0, 1, 2, 3, 4, 5, 6, 7, 8, 9, 10, 11, 12] rfl
    have hD : va_D A ((pic_Rows g a_t (a_pile 0) r25.2.1 r25.2.2) ++ (pic_Query g a_p1 p1) ++ (pic_Pile g a_pile 41 pile pileL)) := hD.sub [13, 14, 15, 16, 17, 18, 19, 20, 0, 1, 2, 3, 4, 5, 6, 7, 8, 9, 10, 11, 12] rfl rfl
    refine lv_pop hx hb d_Rows_make_24 rfl ?_
    refine lv_aload_n hx hb d_Rows_make_25 rfl (lv_at hl 0 rfl) ?_
    refine lv_aload_n hx hb d_Rows_make_26 rfl (lv_at hl 0 rfl) ?_
    refine va_get (D := gD g) (ci := 6) (v := .int (r25.2.1 2 0)) (C := R_Rows) (T := T_Rows) (N := 11) hx hb htb in_Rows hown hK hP 0 rfl rfl 2 (by decide) (htb _ L_Rows_18) (fun _ h9 => h9) rfl d_Rows_make_27 ?_
    obtain ⟨r26, hr26, h⟩ := Option.bind_eq_some_iff.mp h
    refine cl_I (wr := (pic_Query g a_p1 p1) ++ (pic_Pile g a_pile 41 pile pileL)) [0, 1, 2, 3, 4, 5, 6, 7] [8, 9, 10, 11, 12, 13, 14, 15, 16, 17, 18, 19, 20] rfl rfl rfl (by decide) hP hD hS hA (va_runV (As := [.int (r25.2.1 2 0)]) (rest := []) ⟨hx, hb, hml, hown, htb⟩ (c_Rows_keepRows l g F a_t (a_pile 0) r25.2.1 r25.2.2 (r25.2.1 2 0) _ hr26 H.size) (cw_V htb mb_Rows_keepRows (htb _ L_Rows_62) rfl rfl ⟨Nat.le_of_ble_eq_true rfl, Nat.le_of_ble_eq_true rfl⟩) (pre_V (va_recv hK hP (ci := 6) (q0 := 0) rfl rfl) (pre_S [0, 1, 2, 3, 4, 5, 6, 7] rfl rfl hP hD hS hA hAA hG)) rfl rfl hl.1 rfl (lv_room (Nat.le_of_ble_eq_true rfl)) d_Rows_make_30 ⟨Nat.zero_le _, Nat.zero_le _⟩) (fun H locs hP hD hS => ?_)
    have hP : va_P (gD g) vwCl ((pic_Rows g a_t (a_pile 0) r26.2.1 r26.2.2) ++ (pic_Query g a_p1 p1) ++ (pic_Pile g a_pile 41 pile pileL)) H := hP.sub [13, 14, 15, 16, 17, 18, 19, 20, 0, 1, 2, 3, 4, 5, 6, 7, 8, 9, 10, 11, 12] rfl
    have hD : va_D A ((pic_Rows g a_t (a_pile 0) r26.2.1 r26.2.2) ++ (pic_Query g a_p1 p1) ++ (pic_Pile g a_pile 41 pile pileL)) := hD.sub [13, 14, 15, 16, 17, 18, 19, 20, 0, 1, 2, 3, 4, 5, 6, 7, 8, 9, 10, 11, 12] rfl rfl
    cases h
    exact W.iret hx hb hr (fun t ht hW => ⟨⟨_, (), rfl, rfl, by rw [ht]; exact hP, hD⟩, hS.F ht⟩) hS.2.2 d_Rows_make_33
theorem c_Rows_make (l : Launch) (g : Gz) (F : Nat) (a_t : Nat → Nat) (a_p1 : Nat → Nat) (a_pile : Nat → Nat) (t : StI) (tL : StL) (p1 : StI) (pile : StI) (pileL : StL) (res : Int32 × StI × StL × StI × StL) (h : Rows_make F t tL p1 pile pileL = some res) : ∀ sz : Nat, Met l y_Rows_make (.code y_Rows_make prog_7_method_3_code 3 (some .int) :: TBL) rm_Rows_make (va_Pc [.ref (a_t 0), .ref (a_p1 0)] (Pre0 g ((pic_Rows g a_t (a_pile 0) t tL) ++ (pic_Query g a_p1 p1) ++ (pic_Pile g a_pile 41 pile pileL)) sz)) (EI g ((pic_Rows g a_t (a_pile 0) res.2.1 res.2.2.1) ++ (pic_Query g a_p1 p1) ++ (pic_Pile g a_pile 41 res.2.2.2.1 res.2.2.2.2)) res.1 (va_A ((pic_Rows g a_t (a_pile 0) t tL) ++ (pic_Query g a_p1 p1) ++ (pic_Pile g a_pile 41 pile pileL)) sz)) 0 0 (va_A ((pic_Rows g a_t (a_pile 0) t tL) ++ (pic_Query g a_p1 p1) ++ (pic_Pile g a_pile 41 pile pileL)) sz) :=
  ct_w (Qc := fun A => EI g ((pic_Rows g a_t (a_pile 0) res.2.1 res.2.2.1) ++ (pic_Query g a_p1 p1) ++ (pic_Pile g a_pile 41 res.2.2.2.1 res.2.2.2.2)) res.1 A) (by decide) (Nat.le_of_ble_eq_true rfl) (fun p e s m args below meth c A hC => k_Rows_make hC t tL p1 pile pileL res h)
