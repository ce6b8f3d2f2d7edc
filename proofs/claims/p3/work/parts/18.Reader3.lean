theorem L_Reader_100 : (Jvm.Cond.methodLink "MailQueries$Reader" (100 : Nat) ({ cls := "MailQueries$Query", name := "append", desc := "(I)V" } : Jvm.MethodName)) ∈ TBL := TBL_in (List.mem_of_getElem? (i := 879) (by decide +kernel)) (by decide +kernel)
set_option maxRecDepth 100000 in
theorem W_Reader_takeSign_code : (Jvm.Cond.code ({ cls := "MailQueries$Reader", name := "takeSign", desc := "(III)I" } : Jvm.MethodName) prog_6_method_7_code (4 : Nat) (Option.some Jvm.ClassFile.FieldType.int)) ∈ TBL := TBL_in (List.mem_of_getElem? (i := 878) rfl) rfl
theorem W_Reader_takeSign_in : (Jvm.Cond.instanceMethod ({ cls := "MailQueries$Reader", name := "takeSign", desc := "(III)I" } : Jvm.MethodName)) ∈ TBL := TBL_in (List.mem_of_getElem? (i := 877) (by decide +kernel)) (by decide +kernel)
theorem sel_46 : Cond.selects "MailQueries$Reader" ⟨"MailQueries$Reader", "takeSign", "(III)I"⟩ ⟨"MailQueries$Reader", "takeSign", "(III)I"⟩ ∈ TBL := TBL_in (List.mem_of_getElem? (i := 46) (by decide +kernel)) (by decide +kernel)
set_option maxRecDepth 100000 in
theorem W_Reader_takeClosing_code : (Jvm.Cond.code ({ cls := "MailQueries$Reader", name := "takeClosing", desc := "(I)I" } : Jvm.MethodName) prog_6_method_6_code (2 : Nat) (Option.some Jvm.ClassFile.FieldType.int)) ∈ TBL := TBL_in (List.mem_of_getElem? (i := 743) rfl) rfl
theorem W_Reader_takeClosing_in : (Jvm.Cond.instanceMethod ({ cls := "MailQueries$Reader", name := "takeClosing", desc := "(I)I" } : Jvm.MethodName)) ∈ TBL := TBL_in (List.mem_of_getElem? (i := 742) (by decide +kernel)) (by decide +kernel)
theorem sel_32 : Cond.selects "MailQueries$Reader" ⟨"MailQueries$Reader", "takeClosing", "(I)I"⟩ ⟨"MailQueries$Reader", "takeClosing", "(I)I"⟩ ∈ TBL := TBL_in (List.mem_of_getElem? (i := 32) (by decide +kernel)) (by decide +kernel)
theorem L_Reader_46 : (Jvm.Cond.methodLink "MailQueries$Reader" (46 : Nat) ({ cls := "MailQueries$Reader", name := "beginAny", desc := "()V" } : Jvm.MethodName)) ∈ TBL := TBL_in (List.mem_of_getElem? (i := 696) (by decide +kernel)) (by decide +kernel)
set_option maxRecDepth 100000 in
theorem W_Reader_takeOpening_code : (Jvm.Cond.code ({ cls := "MailQueries$Reader", name := "takeOpening", desc := "(I)I" } : Jvm.MethodName) prog_6_method_5_code (2 : Nat) (Option.some Jvm.ClassFile.FieldType.int)) ∈ TBL := TBL_in (List.mem_of_getElem? (i := 723) rfl) rfl
theorem W_Reader_takeOpening_in : (Jvm.Cond.instanceMethod ({ cls := "MailQueries$Reader", name := "takeOpening", desc := "(I)I" } : Jvm.MethodName)) ∈ TBL := TBL_in (List.mem_of_getElem? (i := 722) (by decide +kernel)) (by decide +kernel)
theorem sel_28 : Cond.selects "MailQueries$Reader" ⟨"MailQueries$Reader", "takeOpening", "(I)I"⟩ ⟨"MailQueries$Reader", "takeOpening", "(I)I"⟩ ∈ TBL := TBL_in (List.mem_of_getElem? (i := 28) (by decide +kernel)) (by decide +kernel)
theorem L_Reader_91 : (Jvm.Cond.methodLink "MailQueries$Reader" (91 : Nat) ({ cls := "MailQueries$Reader", name := "signOf", desc := "(II)I" } : Jvm.MethodName)) ∈ TBL := TBL_in (List.mem_of_getElem? (i := 867) (by decide +kernel)) (by decide +kernel)
theorem L_Reader_94 : (Jvm.Cond.methodLink "MailQueries$Reader" (94 : Nat) ({ cls := "MailQueries$Reader", name := "takeSign", desc := "(III)I" } : Jvm.MethodName)) ∈ TBL := TBL_in (List.mem_of_getElem? (i := 875) (by decide +kernel)) (by decide +kernel)
theorem L_Reader_84 : (Jvm.Cond.methodLink "MailQueries$Reader" (84 : Nat) ({ cls := "MailQueries$Reader", name := "takeAtom", desc := "(III)I" } : Jvm.MethodName)) ∈ TBL := TBL_in (List.mem_of_getElem? (i := 766) (by decide +kernel)) (by decide +kernel)
theorem L_Reader_78 : (Jvm.Cond.methodLink "MailQueries$Reader" (78 : Nat) ({ cls := "MailQueries$Reader", name := "pastLetters", desc := "(I)I" } : Jvm.MethodName)) ∈ TBL := TBL_in (List.mem_of_getElem? (i := 747) (by decide +kernel)) (by decide +kernel)
theorem L_Reader_81 : (Jvm.Cond.methodLink "MailQueries$Reader" (81 : Nat) ({ cls := "MailQueries$Reader", name := "fieldOf", desc := "(II)I" } : Jvm.MethodName)) ∈ TBL := TBL_in (List.mem_of_getElem? (i := 754) (by decide +kernel)) (by decide +kernel)
theorem L_Reader_71 : (Jvm.Cond.methodLink "MailQueries$Reader" (71 : Nat) ({ cls := "MailQueries$Reader", name := "takeClosing", desc := "(I)I" } : Jvm.MethodName)) ∈ TBL := TBL_in (List.mem_of_getElem? (i := 740) (by decide +kernel)) (by decide +kernel)
theorem L_Reader_68 : (Jvm.Cond.methodLink "MailQueries$Reader" (68 : Nat) ({ cls := "MailQueries$Reader", name := "takeOpening", desc := "(I)I" } : Jvm.MethodName)) ∈ TBL := TBL_in (List.mem_of_getElem? (i := 720) (by decide +kernel)) (by decide +kernel)
set_option maxRecDepth 100000 in
theorem W_Reader_takeWord_code : (Jvm.Cond.code ({ cls := "MailQueries$Reader", name := "takeWord", desc := "(I)I" } : Jvm.MethodName) prog_6_method_4_code (6 : Nat) (Option.some Jvm.ClassFile.FieldType.int)) ∈ TBL := TBL_in (List.mem_of_getElem? (i := 719) rfl) rfl
theorem W_Reader_takeWord_in : (Jvm.Cond.instanceMethod ({ cls := "MailQueries$Reader", name := "takeWord", desc := "(I)I" } : Jvm.MethodName)) ∈ TBL := TBL_in (List.mem_of_getElem? (i := 718) (by decide +kernel)) (by decide +kernel)
theorem sel_27 : Cond.selects "MailQueries$Reader" ⟨"MailQueries$Reader", "takeWord", "(I)I"⟩ ⟨"MailQueries$Reader", "takeWord", "(I)I"⟩ ∈ TBL := TBL_in (List.mem_of_getElem? (i := 27) (by decide +kernel)) (by decide +kernel)
theorem L_Reader_58 : (Jvm.Cond.methodLink "MailQueries$Reader" (58 : Nat) ({ cls := "MailQueries$Reader", name := "takeWord", desc := "(I)I" } : Jvm.MethodName)) ∈ TBL := TBL_in (List.mem_of_getElem? (i := 716) (by decide +kernel)) (by decide +kernel)
theorem L_Reader_49 : (Jvm.Cond.methodLink "MailQueries$Reader" (49 : Nat) ({ cls := "MailQueries$Reader", name := "pastSpaces", desc := "(I)I" } : Jvm.MethodName)) ∈ TBL := TBL_in (List.mem_of_getElem? (i := 708) (by decide +kernel)) (by decide +kernel)
set_option maxRecDepth 100000 in
theorem W_Reader_fills_code : (Jvm.Cond.code ({ cls := "MailQueries$Reader", name := "fills", desc := "(LMailQueries$Query;)Z" } : Jvm.MethodName) prog_6_method_2_code (4 : Nat) (Option.some Jvm.ClassFile.FieldType.boolean)) ∈ TBL := TBL_in (List.mem_of_getElem? (i := 695) rfl) rfl
theorem W_Reader_fills_in : (Jvm.Cond.instanceMethod ({ cls := "MailQueries$Reader", name := "fills", desc := "(LMailQueries$Query;)Z" } : Jvm.MethodName)) ∈ TBL := TBL_in (List.mem_of_getElem? (i := 693) (by decide +kernel)) (by decide +kernel)
theorem W_Reader_fills_se : (Jvm.Cond.selects "MailQueries$Reader" ({ cls := "MailQueries$Reader", name := "fills", desc := "(LMailQueries$Query;)Z" } : Jvm.MethodName) ({ cls := "MailQueries$Reader", name := "fills", desc := "(LMailQueries$Query;)Z" } : Jvm.MethodName)) ∈ TBL := TBL_in (List.mem_of_getElem? (i := 694) (by decide +kernel)) (by decide +kernel)
def y_Reader_takeSign : MethodName := ⟨"MailQueries$Reader", "takeSign", "(III)I"⟩
def rm_Reader_takeSign : Room := { frames := 4, cells := 0, slots := 0, locals := 103 }
theorem d_Reader_takeSign_0 : decode prog_6_method_7_code 0 = .ok (.iload_n 1, 1) := by decide +kernel
theorem d_Reader_takeSign_1 : decode prog_6_method_7_code 1 = .ok (.bipush (-2), 2) := by decide +kernel
theorem d_Reader_takeSign_3 : decode prog_6_method_7_code 3 = .ok (.if_icmp .ne 18, 3) := by decide +kernel
theorem d_Reader_takeSign_6 : decode prog_6_method_7_code 6 = .ok (.aload_n 0, 1) := by decide +kernel
theorem d_Reader_takeSign_7 : decode prog_6_method_7_code 7 = .ok (.invokevirtual 97, 3) := by decide +kernel
theorem d_Reader_takeSign_10 : decode prog_6_method_7_code 10 = .ok (.aload_n 0, 1) := by decide +kernel
theorem d_Reader_takeSign_11 : decode prog_6_method_7_code 11 = .ok (.getfield 42, 3) := by decide +kernel
theorem d_Reader_takeSign_14 : decode prog_6_method_7_code 14 = .ok (.bipush (-2), 2) := by decide +kernel
theorem d_Reader_takeSign_16 : decode prog_6_method_7_code 16 = .ok (.invokevirtual 100, 3) := by decide +kernel
theorem d_Reader_takeSign_19 : decode prog_6_method_7_code 19 = .ok (.iload_n 3, 1) := by decide +kernel
theorem d_Reader_takeSign_20 : decode prog_6_method_7_code 20 = .ok (.ireturn, 1) := by decide +kernel
theorem d_Reader_takeSign_21 : decode prog_6_method_7_code 21 = .ok (.aload_n 0, 1) := by decide +kernel
theorem d_Reader_takeSign_22 : decode prog_6_method_7_code 22 = .ok (.getfield 25, 3) := by decide +kernel
theorem d_Reader_takeSign_25 : decode prog_6_method_7_code 25 = .ok (.ifCond .eq 10, 3) := by decide +kernel
theorem d_Reader_takeSign_28 : decode prog_6_method_7_code 28 = .ok (.aload_n 0, 1) := by decide +kernel
theorem d_Reader_takeSign_29 : decode prog_6_method_7_code 29 = .ok (.iconst 1, 1) := by decide +kernel
theorem d_Reader_takeSign_30 : decode prog_6_method_7_code 30 = .ok (.iload_n 2, 1) := by decide +kernel
theorem d_Reader_takeSign_31 : decode prog_6_method_7_code 31 = .ok (.invokevirtual 61, 3) := by decide +kernel
theorem d_Reader_takeSign_34 : decode prog_6_method_7_code 34 = .ok (.ireturn, 1) := by decide +kernel
theorem d_Reader_takeSign_35 : decode prog_6_method_7_code 35 = .ok (.aload_n 0, 1) := by decide +kernel
theorem d_Reader_takeSign_36 : decode prog_6_method_7_code 36 = .ok (.iload_n 1, 1) := by decide +kernel
theorem d_Reader_takeSign_37 : decode prog_6_method_7_code 37 = .ok (.invokevirtual 104, 3) := by decide +kernel
theorem d_Reader_takeSign_40 : decode prog_6_method_7_code 40 = .ok (.iload_n 3, 1) := by decide +kernel
theorem d_Reader_takeSign_41 : decode prog_6_method_7_code 41 = .ok (.ireturn, 1) := by decide +kernel
def y_Reader_takeClosing : MethodName := ⟨"MailQueries$Reader", "takeClosing", "(I)I"⟩
def rm_Reader_takeClosing : Room := { frames := 1, cells := 0, slots := 0, locals := 22 }
theorem d_Reader_takeClosing_0 : decode prog_6_method_6_code 0 = .ok (.aload_n 0, 1) := by decide +kernel
theorem d_Reader_takeClosing_1 : decode prog_6_method_6_code 1 = .ok (.getfield 25, 3) := by decide +kernel
theorem d_Reader_takeClosing_4 : decode prog_6_method_6_code 4 = .ok (.ifCond .ne 10, 3) := by decide +kernel
theorem d_Reader_takeClosing_7 : decode prog_6_method_6_code 7 = .ok (.aload_n 0, 1) := by decide +kernel
theorem d_Reader_takeClosing_8 : decode prog_6_method_6_code 8 = .ok (.getfield 29, 3) := by decide +kernel
theorem d_Reader_takeClosing_11 : decode prog_6_method_6_code 11 = .ok (.ifCond .gt 10, 3) := by decide +kernel
theorem d_Reader_takeClosing_14 : decode prog_6_method_6_code 14 = .ok (.aload_n 0, 1) := by decide +kernel
theorem d_Reader_takeClosing_15 : decode prog_6_method_6_code 15 = .ok (.iconst 1, 1) := by decide +kernel
theorem d_Reader_takeClosing_16 : decode prog_6_method_6_code 16 = .ok (.iload_n 1, 1) := by decide +kernel
theorem d_Reader_takeClosing_17 : decode prog_6_method_6_code 17 = .ok (.invokevirtual 61, 3) := by decide +kernel
theorem d_Reader_takeClosing_20 : decode prog_6_method_6_code 20 = .ok (.ireturn, 1) := by decide +kernel
theorem d_Reader_takeClosing_21 : decode prog_6_method_6_code 21 = .ok (.aload_n 0, 1) := by decide +kernel
theorem d_Reader_takeClosing_22 : decode prog_6_method_6_code 22 = .ok (.dup, 1) := by decide +kernel
theorem d_Reader_takeClosing_23 : decode prog_6_method_6_code 23 = .ok (.getfield 29, 3) := by decide +kernel
theorem d_Reader_takeClosing_26 : decode prog_6_method_6_code 26 = .ok (.iconst 1, 1) := by decide +kernel
theorem d_Reader_takeClosing_27 : decode prog_6_method_6_code 27 = .ok (.isub, 1) := by decide +kernel
theorem d_Reader_takeClosing_28 : decode prog_6_method_6_code 28 = .ok (.putfield 29, 3) := by decide +kernel
theorem d_Reader_takeClosing_31 : decode prog_6_method_6_code 31 = .ok (.iload_n 1, 1) := by decide +kernel
theorem d_Reader_takeClosing_32 : decode prog_6_method_6_code 32 = .ok (.iconst 1, 1) := by decide +kernel
theorem d_Reader_takeClosing_33 : decode prog_6_method_6_code 33 = .ok (.iadd, 1) := by decide +kernel
theorem d_Reader_takeClosing_34 : decode prog_6_method_6_code 34 = .ok (.ireturn, 1) := by decide +kernel
def y_Reader_takeOpening : MethodName := ⟨"MailQueries$Reader", "takeOpening", "(I)I"⟩
def rm_Reader_takeOpening : Room := { frames := 4, cells := 0, slots := 0, locals := 103 }
theorem d_Reader_takeOpening_0 : decode prog_6_method_5_code 0 = .ok (.aload_n 0, 1) := by decide +kernel
theorem d_Reader_takeOpening_1 : decode prog_6_method_5_code 1 = .ok (.getfield 29, 3) := by decide +kernel
theorem d_Reader_takeOpening_4 : decode prog_6_method_5_code 4 = .ok (.bipush 20, 2) := by decide +kernel
theorem d_Reader_takeOpening_6 : decode prog_6_method_5_code 6 = .ok (.if_icmp .lt 10, 3) := by decide +kernel
theorem d_Reader_takeOpening_9 : decode prog_6_method_5_code 9 = .ok (.aload_n 0, 1) := by decide +kernel
theorem d_Reader_takeOpening_10 : decode prog_6_method_5_code 10 = .ok (.iconst 5, 1) := by decide +kernel
theorem d_Reader_takeOpening_11 : decode prog_6_method_5_code 11 = .ok (.iload_n 1, 1) := by decide +kernel
theorem d_Reader_takeOpening_12 : decode prog_6_method_5_code 12 = .ok (.invokevirtual 61, 3) := by decide +kernel
theorem d_Reader_takeOpening_15 : decode prog_6_method_5_code 15 = .ok (.ireturn, 1) := by decide +kernel
theorem d_Reader_takeOpening_16 : decode prog_6_method_5_code 16 = .ok (.aload_n 0, 1) := by decide +kernel
theorem d_Reader_takeOpening_17 : decode prog_6_method_5_code 17 = .ok (.invokevirtual 97, 3) := by decide +kernel
theorem d_Reader_takeOpening_20 : decode prog_6_method_5_code 20 = .ok (.aload_n 0, 1) := by decide +kernel
theorem d_Reader_takeOpening_21 : decode prog_6_method_5_code 21 = .ok (.dup, 1) := by decide +kernel
theorem d_Reader_takeOpening_22 : decode prog_6_method_5_code 22 = .ok (.getfield 29, 3) := by decide +kernel
theorem d_Reader_takeOpening_25 : decode prog_6_method_5_code 25 = .ok (.iconst 1, 1) := by decide +kernel
theorem d_Reader_takeOpening_26 : decode prog_6_method_5_code 26 = .ok (.iadd, 1) := by decide +kernel
theorem d_Reader_takeOpening_27 : decode prog_6_method_5_code 27 = .ok (.putfield 29, 3) := by decide +kernel
theorem d_Reader_takeOpening_30 : decode prog_6_method_5_code 30 = .ok (.aload_n 0, 1) := by decide +kernel
theorem d_Reader_takeOpening_31 : decode prog_6_method_5_code 31 = .ok (.invokevirtual 46, 3) := by decide +kernel
theorem d_Reader_takeOpening_34 : decode prog_6_method_5_code 34 = .ok (.iload_n 1, 1) := by decide +kernel
theorem d_Reader_takeOpening_35 : decode prog_6_method_5_code 35 = .ok (.iconst 1, 1) := by decide +kernel
theorem d_Reader_takeOpening_36 : decode prog_6_method_5_code 36 = .ok (.iadd, 1) := by decide +kernel
theorem d_Reader_takeOpening_37 : decode prog_6_method_5_code 37 = .ok (.ireturn, 1) := by decide +kernel
def y_Reader_takeWord : MethodName := ⟨"MailQueries$Reader", "takeWord", "(I)I"⟩
def rm_Reader_takeWord : Room := { frames := 8, cells := 0, slots := 0, locals := 181 }
theorem d_Reader_takeWord_0 : decode prog_6_method_4_code 0 = .ok (.aload_n 0, 1) := by decide +kernel
theorem d_Reader_takeWord_1 : decode prog_6_method_4_code 1 = .ok (.getfield 42, 3) := by decide +kernel
theorem d_Reader_takeWord_4 : decode prog_6_method_4_code 4 = .ok (.iload_n 1, 1) := by decide +kernel
theorem d_Reader_takeWord_5 : decode prog_6_method_4_code 5 = .ok (.invokevirtual 65, 3) := by decide +kernel
theorem d_Reader_takeWord_8 : decode prog_6_method_4_code 8 = .ok (.istore_n 2, 1) := by decide +kernel
theorem d_Reader_takeWord_9 : decode prog_6_method_4_code 9 = .ok (.iload_n 2, 1) := by decide +kernel
theorem d_Reader_takeWord_10 : decode prog_6_method_4_code 10 = .ok (.bipush 40, 2) := by decide +kernel
theorem d_Reader_takeWord_12 : decode prog_6_method_4_code 12 = .ok (.if_icmp .ne 9, 3) := by decide +kernel
theorem d_Reader_takeWord_15 : decode prog_6_method_4_code 15 = .ok (.aload_n 0, 1) := by decide +kernel
theorem d_Reader_takeWord_16 : decode prog_6_method_4_code 16 = .ok (.iload_n 1, 1) := by decide +kernel
theorem d_Reader_takeWord_17 : decode prog_6_method_4_code 17 = .ok (.invokevirtual 68, 3) := by decide +kernel
theorem d_Reader_takeWord_20 : decode prog_6_method_4_code 20 = .ok (.ireturn, 1) := by decide +kernel
theorem d_Reader_takeWord_21 : decode prog_6_method_4_code 21 = .ok (.iload_n 2, 1) := by decide +kernel
theorem d_Reader_takeWord_22 : decode prog_6_method_4_code 22 = .ok (.bipush 41, 2) := by decide +kernel
theorem d_Reader_takeWord_24 : decode prog_6_method_4_code 24 = .ok (.if_icmp .ne 9, 3) := by decide +kernel
theorem d_Reader_takeWord_27 : decode prog_6_method_4_code 27 = .ok (.aload_n 0, 1) := by decide +kernel
theorem d_Reader_takeWord_28 : decode prog_6_method_4_code 28 = .ok (.iload_n 1, 1) := by decide +kernel
theorem d_Reader_takeWord_29 : decode prog_6_method_4_code 29 = .ok (.invokevirtual 71, 3) := by decide +kernel
theorem d_Reader_takeWord_32 : decode prog_6_method_4_code 32 = .ok (.ireturn, 1) := by decide +kernel
theorem d_Reader_takeWord_33 : decode prog_6_method_4_code 33 = .ok (.iload_n 2, 1) := by decide +kernel
theorem d_Reader_takeWord_34 : decode prog_6_method_4_code 34 = .ok (.bipush 34, 2) := by decide +kernel
theorem d_Reader_takeWord_36 : decode prog_6_method_4_code 36 = .ok (.if_icmp .eq 17, 3) := by decide +kernel
theorem d_Reader_takeWord_39 : decode prog_6_method_4_code 39 = .ok (.iload_n 2, 1) := by decide +kernel
theorem d_Reader_takeWord_40 : decode prog_6_method_4_code 40 = .ok (.invokestatic 74, 3) := by decide +kernel
theorem d_Reader_takeWord_43 : decode prog_6_method_4_code 43 = .ok (.ifCond .ne 10, 3) := by decide +kernel
theorem d_Reader_takeWord_46 : decode prog_6_method_4_code 46 = .ok (.aload_n 0, 1) := by decide +kernel
theorem d_Reader_takeWord_47 : decode prog_6_method_4_code 47 = .ok (.iconst 2, 1) := by decide +kernel
theorem d_Reader_takeWord_48 : decode prog_6_method_4_code 48 = .ok (.iload_n 1, 1) := by decide +kernel
theorem d_Reader_takeWord_49 : decode prog_6_method_4_code 49 = .ok (.invokevirtual 61, 3) := by decide +kernel
theorem d_Reader_takeWord_52 : decode prog_6_method_4_code 52 = .ok (.ireturn, 1) := by decide +kernel
theorem d_Reader_takeWord_53 : decode prog_6_method_4_code 53 = .ok (.aload_n 0, 1) := by decide +kernel
theorem d_Reader_takeWord_54 : decode prog_6_method_4_code 54 = .ok (.iload_n 1, 1) := by decide +kernel
theorem d_Reader_takeWord_55 : decode prog_6_method_4_code 55 = .ok (.invokevirtual 78, 3) := by decide +kernel
theorem d_Reader_takeWord_58 : decode prog_6_method_4_code 58 = .ok (.istore_n 3, 1) := by decide +kernel
theorem d_Reader_takeWord_59 : decode prog_6_method_4_code 59 = .ok (.iload_n 3, 1) := by decide +kernel
theorem d_Reader_takeWord_60 : decode prog_6_method_4_code 60 = .ok (.iload_n 1, 1) := by decide +kernel
theorem d_Reader_takeWord_61 : decode prog_6_method_4_code 61 = .ok (.if_icmp .le 31, 3) := by decide +kernel
theorem d_Reader_takeWord_64 : decode prog_6_method_4_code 64 = .ok (.aload_n 0, 1) := by decide +kernel
theorem d_Reader_takeWord_65 : decode prog_6_method_4_code 65 = .ok (.getfield 42, 3) := by decide +kernel
theorem d_Reader_takeWord_68 : decode prog_6_method_4_code 68 = .ok (.iload_n 3, 1) := by decide +kernel
theorem d_Reader_takeWord_69 : decode prog_6_method_4_code 69 = .ok (.invokevirtual 65, 3) := by decide +kernel
theorem d_Reader_takeWord_72 : decode prog_6_method_4_code 72 = .ok (.bipush 58, 2) := by decide +kernel
theorem d_Reader_takeWord_74 : decode prog_6_method_4_code 74 = .ok (.if_icmp .ne 18, 3) := by decide +kernel
theorem d_Reader_takeWord_77 : decode prog_6_method_4_code 77 = .ok (.aload_n 0, 1) := by decide +kernel
theorem d_Reader_takeWord_78 : decode prog_6_method_4_code 78 = .ok (.aload_n 0, 1) := by decide +kernel
theorem d_Reader_takeWord_79 : decode prog_6_method_4_code 79 = .ok (.iload_n 1, 1) := by decide +kernel
theorem d_Reader_takeWord_80 : decode prog_6_method_4_code 80 = .ok (.iload_n 3, 1) := by decide +kernel
theorem d_Reader_takeWord_81 : decode prog_6_method_4_code 81 = .ok (.invokevirtual 81, 3) := by decide +kernel
theorem d_Reader_takeWord_84 : decode prog_6_method_4_code 84 = .ok (.iload_n 1, 1) := by decide +kernel
theorem d_Reader_takeWord_85 : decode prog_6_method_4_code 85 = .ok (.iload_n 3, 1) := by decide +kernel
theorem d_Reader_takeWord_86 : decode prog_6_method_4_code 86 = .ok (.iconst 1, 1) := by decide +kernel
theorem d_Reader_takeWord_87 : decode prog_6_method_4_code 87 = .ok (.iadd, 1) := by decide +kernel
theorem d_Reader_takeWord_88 : decode prog_6_method_4_code 88 = .ok (.invokevirtual 84, 3) := by decide +kernel
theorem d_Reader_takeWord_91 : decode prog_6_method_4_code 91 = .ok (.ireturn, 1) := by decide +kernel
theorem d_Reader_takeWord_92 : decode prog_6_method_4_code 92 = .ok (.aload_n 0, 1) := by decide +kernel
theorem d_Reader_takeWord_93 : decode prog_6_method_4_code 93 = .ok (.iload_n 1, 1) := by decide +kernel
theorem d_Reader_takeWord_94 : decode prog_6_method_4_code 94 = .ok (.invokevirtual 88, 3) := by decide +kernel
theorem d_Reader_takeWord_97 : decode prog_6_method_4_code 97 = .ok (.istore 4, 2) := by decide +kernel
theorem d_Reader_takeWord_99 : decode prog_6_method_4_code 99 = .ok (.aload_n 0, 1) := by decide +kernel
theorem d_Reader_takeWord_100 : decode prog_6_method_4_code 100 = .ok (.iload_n 1, 1) := by decide +kernel
theorem d_Reader_takeWord_101 : decode prog_6_method_4_code 101 = .ok (.iload 4, 2) := by decide +kernel
theorem d_Reader_takeWord_103 : decode prog_6_method_4_code 103 = .ok (.invokevirtual 91, 3) := by decide +kernel
theorem d_Reader_takeWord_106 : decode prog_6_method_4_code 106 = .ok (.istore 5, 2) := by decide +kernel
theorem d_Reader_takeWord_108 : decode prog_6_method_4_code 108 = .ok (.iload 5, 2) := by decide +kernel
theorem d_Reader_takeWord_110 : decode prog_6_method_4_code 110 = .ok (.iconst (-1), 1) := by decide +kernel
theorem d_Reader_takeWord_111 : decode prog_6_method_4_code 111 = .ok (.if_icmp .ne 13, 3) := by decide +kernel
theorem d_Reader_takeWord_114 : decode prog_6_method_4_code 114 = .ok (.aload_n 0, 1) := by decide +kernel
theorem d_Reader_takeWord_115 : decode prog_6_method_4_code 115 = .ok (.iconst 0, 1) := by decide +kernel
theorem d_Reader_takeWord_116 : decode prog_6_method_4_code 116 = .ok (.iload_n 1, 1) := by decide +kernel
theorem d_Reader_takeWord_117 : decode prog_6_method_4_code 117 = .ok (.iload_n 1, 1) := by decide +kernel
theorem d_Reader_takeWord_118 : decode prog_6_method_4_code 118 = .ok (.invokevirtual 84, 3) := by decide +kernel
theorem d_Reader_takeWord_121 : decode prog_6_method_4_code 121 = .ok (.goto 12, 3) := by decide +kernel
theorem d_Reader_takeWord_124 : decode prog_6_method_4_code 124 = .ok (.aload_n 0, 1) := by decide +kernel
theorem d_Reader_takeWord_125 : decode prog_6_method_4_code 125 = .ok (.iload 5, 2) := by decide +kernel
theorem d_Reader_takeWord_127 : decode prog_6_method_4_code 127 = .ok (.iload_n 1, 1) := by decide +kernel
theorem d_Reader_takeWord_128 : decode prog_6_method_4_code 128 = .ok (.iload 4, 2) := by decide +kernel
theorem d_Reader_takeWord_130 : decode prog_6_method_4_code 130 = .ok (.invokevirtual 94, 3) := by decide +kernel
theorem d_Reader_takeWord_133 : decode prog_6_method_4_code 133 = .ok (.ireturn, 1) := by decide +kernel
def y_Reader_fills : MethodName := ⟨"MailQueries$Reader", "fills", "(LMailQueries$Query;)Z"⟩
def rm_Reader_fills : Room := { frames := 9, cells := 0, slots := 0, locals := 206 }
theorem d_Reader_fills_0 : decode prog_6_method_2_code 0 = .ok (.aload_n 0, 1) := by decide +kernel
theorem d_Reader_fills_1 : decode prog_6_method_2_code 1 = .ok (.aload_n 1, 1) := by decide +kernel
theorem d_Reader_fills_2 : decode prog_6_method_2_code 2 = .ok (.putfield 42, 3) := by decide +kernel
theorem d_Reader_fills_5 : decode prog_6_method_2_code 5 = .ok (.aload_n 0, 1) := by decide +kernel
theorem d_Reader_fills_6 : decode prog_6_method_2_code 6 = .ok (.iconst 0, 1) := by decide +kernel
theorem d_Reader_fills_7 : decode prog_6_method_2_code 7 = .ok (.putfield 18, 3) := by decide +kernel
theorem d_Reader_fills_10 : decode prog_6_method_2_code 10 = .ok (.aload_n 0, 1) := by decide +kernel
theorem d_Reader_fills_11 : decode prog_6_method_2_code 11 = .ok (.iconst (-1), 1) := by decide +kernel
theorem d_Reader_fills_12 : decode prog_6_method_2_code 12 = .ok (.putfield 22, 3) := by decide +kernel
theorem d_Reader_fills_15 : decode prog_6_method_2_code 15 = .ok (.aload_n 0, 1) := by decide +kernel
theorem d_Reader_fills_16 : decode prog_6_method_2_code 16 = .ok (.iconst 1, 1) := by decide +kernel
theorem d_Reader_fills_17 : decode prog_6_method_2_code 17 = .ok (.putfield 25, 3) := by decide +kernel
theorem d_Reader_fills_20 : decode prog_6_method_2_code 20 = .ok (.aload_n 0, 1) := by decide +kernel
theorem d_Reader_fills_21 : decode prog_6_method_2_code 21 = .ok (.iconst 0, 1) := by decide +kernel
theorem d_Reader_fills_22 : decode prog_6_method_2_code 22 = .ok (.putfield 29, 3) := by decide +kernel
theorem d_Reader_fills_25 : decode prog_6_method_2_code 25 = .ok (.aload_n 0, 1) := by decide +kernel
theorem d_Reader_fills_26 : decode prog_6_method_2_code 26 = .ok (.invokevirtual 46, 3) := by decide +kernel
theorem d_Reader_fills_29 : decode prog_6_method_2_code 29 = .ok (.aload_n 0, 1) := by decide +kernel
theorem d_Reader_fills_30 : decode prog_6_method_2_code 30 = .ok (.iconst 0, 1) := by decide +kernel
theorem d_Reader_fills_31 : decode prog_6_method_2_code 31 = .ok (.invokevirtual 49, 3) := by decide +kernel
theorem d_Reader_fills_34 : decode prog_6_method_2_code 34 = .ok (.istore_n 2, 1) := by decide +kernel
theorem d_Reader_fills_35 : decode prog_6_method_2_code 35 = .ok (.iload_n 2, 1) := by decide +kernel
theorem d_Reader_fills_36 : decode prog_6_method_2_code 36 = .ok (.aload_n 0, 1) := by decide +kernel
theorem d_Reader_fills_37 : decode prog_6_method_2_code 37 = .ok (.getfield 42, 3) := by decide +kernel
theorem d_Reader_fills_40 : decode prog_6_method_2_code 40 = .ok (.getfield 53, 3) := by decide +kernel
theorem d_Reader_fills_43 : decode prog_6_method_2_code 43 = .ok (.if_icmp .lt 5, 3) := by decide +kernel
theorem d_Reader_fills_46 : decode prog_6_method_2_code 46 = .ok (.iconst 1, 1) := by decide +kernel
theorem d_Reader_fills_47 : decode prog_6_method_2_code 47 = .ok (.ireturn, 1) := by decide +kernel
theorem d_Reader_fills_48 : decode prog_6_method_2_code 48 = .ok (.iconst 0, 1) := by decide +kernel
theorem d_Reader_fills_49 : decode prog_6_method_2_code 49 = .ok (.istore_n 3, 1) := by decide +kernel
theorem d_Reader_fills_50 : decode prog_6_method_2_code 50 = .ok (.iload_n 3, 1) := by decide +kernel
theorem d_Reader_fills_51 : decode prog_6_method_2_code 51 = .ok (.sipush 600, 3) := by decide +kernel
theorem d_Reader_fills_54 : decode prog_6_method_2_code 54 = .ok (.if_icmp .ge 42, 3) := by decide +kernel
theorem d_Reader_fills_57 : decode prog_6_method_2_code 57 = .ok (.iload_n 2, 1) := by decide +kernel
theorem d_Reader_fills_58 : decode prog_6_method_2_code 58 = .ok (.iconst (-1), 1) := by decide +kernel
theorem d_Reader_fills_59 : decode prog_6_method_2_code 59 = .ok (.if_icmp .eq 37, 3) := by decide +kernel
theorem d_Reader_fills_62 : decode prog_6_method_2_code 62 = .ok (.iload_n 2, 1) := by decide +kernel
theorem d_Reader_fills_63 : decode prog_6_method_2_code 63 = .ok (.aload_n 0, 1) := by decide +kernel
theorem d_Reader_fills_64 : decode prog_6_method_2_code 64 = .ok (.getfield 42, 3) := by decide +kernel
theorem d_Reader_fills_67 : decode prog_6_method_2_code 67 = .ok (.getfield 53, 3) := by decide +kernel
theorem d_Reader_fills_70 : decode prog_6_method_2_code 70 = .ok (.if_icmp .ge 26, 3) := by decide +kernel
theorem d_Reader_fills_73 : decode prog_6_method_2_code 73 = .ok (.aload_n 0, 1) := by decide +kernel
theorem d_Reader_fills_74 : decode prog_6_method_2_code 74 = .ok (.iload_n 2, 1) := by decide +kernel
theorem d_Reader_fills_75 : decode prog_6_method_2_code 75 = .ok (.invokevirtual 58, 3) := by decide +kernel
theorem d_Reader_fills_78 : decode prog_6_method_2_code 78 = .ok (.istore_n 2, 1) := by decide +kernel
theorem d_Reader_fills_79 : decode prog_6_method_2_code 79 = .ok (.iload_n 2, 1) := by decide +kernel
theorem d_Reader_fills_80 : decode prog_6_method_2_code 80 = .ok (.iconst (-1), 1) := by decide +kernel
theorem d_Reader_fills_81 : decode prog_6_method_2_code 81 = .ok (.if_icmp .eq 9, 3) := by decide +kernel
theorem d_Reader_fills_84 : decode prog_6_method_2_code 84 = .ok (.aload_n 0, 1) := by decide +kernel
theorem d_Reader_fills_85 : decode prog_6_method_2_code 85 = .ok (.iload_n 2, 1) := by decide +kernel
theorem d_Reader_fills_86 : decode prog_6_method_2_code 86 = .ok (.invokevirtual 49, 3) := by decide +kernel
theorem d_Reader_fills_89 : decode prog_6_method_2_code 89 = .ok (.istore_n 2, 1) := by decide +kernel
theorem d_Reader_fills_90 : decode prog_6_method_2_code 90 = .ok (.iinc 3 1, 3) := by decide +kernel
theorem d_Reader_fills_93 : decode prog_6_method_2_code 93 = .ok (.goto (-43), 3) := by decide +kernel
theorem d_Reader_fills_96 : decode prog_6_method_2_code 96 = .ok (.iload_n 2, 1) := by decide +kernel
theorem d_Reader_fills_97 : decode prog_6_method_2_code 97 = .ok (.iconst (-1), 1) := by decide +kernel
theorem d_Reader_fills_98 : decode prog_6_method_2_code 98 = .ok (.if_icmp .eq 30, 3) := by decide +kernel
theorem d_Reader_fills_101 : decode prog_6_method_2_code 101 = .ok (.aload_n 0, 1) := by decide +kernel
theorem d_Reader_fills_102 : decode prog_6_method_2_code 102 = .ok (.getfield 25, 3) := by decide +kernel
theorem d_Reader_fills_105 : decode prog_6_method_2_code 105 = .ok (.ifCond .ne 10, 3) := by decide +kernel
theorem d_Reader_fills_108 : decode prog_6_method_2_code 108 = .ok (.aload_n 0, 1) := by decide +kernel
theorem d_Reader_fills_109 : decode prog_6_method_2_code 109 = .ok (.getfield 29, 3) := by decide +kernel
theorem d_Reader_fills_112 : decode prog_6_method_2_code 112 = .ok (.ifCond .le 16, 3) := by decide +kernel
theorem d_Reader_fills_115 : decode prog_6_method_2_code 115 = .ok (.aload_n 0, 1) := by decide +kernel
theorem d_Reader_fills_116 : decode prog_6_method_2_code 116 = .ok (.iconst 1, 1) := by decide +kernel
theorem d_Reader_fills_117 : decode prog_6_method_2_code 117 = .ok (.aload_n 0, 1) := by decide +kernel
theorem d_Reader_fills_118 : decode prog_6_method_2_code 118 = .ok (.getfield 42, 3) := by decide +kernel
theorem d_Reader_fills_121 : decode prog_6_method_2_code 121 = .ok (.getfield 53, 3) := by decide +kernel
theorem d_Reader_fills_124 : decode prog_6_method_2_code 124 = .ok (.invokevirtual 61, 3) := by decide +kernel
theorem d_Reader_fills_127 : decode prog_6_method_2_code 127 = .ok (.istore_n 2, 1) := by decide +kernel
theorem d_Reader_fills_128 : decode prog_6_method_2_code 128 = .ok (.iload_n 2, 1) := by decide +kernel
theorem d_Reader_fills_129 : decode prog_6_method_2_code 129 = .ok (.iconst (-1), 1) := by decide +kernel
theorem d_Reader_fills_130 : decode prog_6_method_2_code 130 = .ok (.if_icmp .eq 7, 3) := by decide +kernel
theorem d_Reader_fills_133 : decode prog_6_method_2_code 133 = .ok (.iconst 1, 1) := by decide +kernel
theorem d_Reader_fills_134 : decode prog_6_method_2_code 134 = .ok (.goto 4, 3) := by decide +kernel
theorem d_Reader_fills_137 : decode prog_6_method_2_code 137 = .ok (.iconst 0, 1) := by decide +kernel
theorem d_Reader_fills_138 : decode prog_6_method_2_code 138 = .ok (.ireturn, 1) := by decide +kernel
theorem mb_Reader_takeSign : Mb y_Reader_takeSign prog_6_method_7_code 4 (some .int) 3 := ⟨W_Reader_takeSign_code, W_Reader_takeSign_in, sel_46, I_Reader, by decide +kernel, by decide +kernel, by decide +kernel⟩
theorem mb_Reader_takeClosing : Mb y_Reader_takeClosing prog_6_method_6_code 2 (some .int) 1 := ⟨W_Reader_takeClosing_code, W_Reader_takeClosing_in, sel_32, I_Reader, by decide +kernel, by decide +kernel, by decide +kernel⟩
theorem mb_Reader_takeOpening : Mb y_Reader_takeOpening prog_6_method_5_code 2 (some .int) 1 := ⟨W_Reader_takeOpening_code, W_Reader_takeOpening_in, sel_28, I_Reader, by decide +kernel, by decide +kernel, by decide +kernel⟩
theorem mb_Reader_takeWord : Mb y_Reader_takeWord prog_6_method_4_code 6 (some .int) 1 := ⟨W_Reader_takeWord_code, W_Reader_takeWord_in, sel_27, I_Reader, by decide +kernel, by decide +kernel, by decide +kernel⟩
theorem mb_Reader_fills : Mb y_Reader_fills prog_6_method_2_code 4 (some .boolean) 1 := ⟨W_Reader_fills_code, W_Reader_fills_in, W_Reader_fills_se, I_Reader, by decide +kernel, by decide +kernel, by decide +kernel⟩
def Reader_takeSign (F : Nat) (t : StI) (query : StI) (x1 : Int32) (x2 : Int32) (x3 : Int32) : Option (Int32 × StI × StI) := if x1 = (-2 : Int32) then (Reader_beginOperand F t query).bind fun r11 => (Query_append F r11.2 (-2 : Int32)).bind fun r12 => some (x3, r11.1, r12) else if (t 4 0) = 0 then (Reader_joinBy F t query x1).bind fun r9 => some (x3, r9.1, r9.2) else (Reader_fail F t (1 : Int32) x2).bind fun r10 => some (r10.1, r10.2, query)
set_option maxHeartbeats 4000000 in
set_option maxRecDepth 100000 in
theorem k_Reader_takeSign {p : Program} {l : Launch} {e : Env} {s : State} {m : MethodId} {args : Array Value} {below : List Frame} {meth : Method} {c : Code} {g : Gz} {A : Nat → Prop} {F : Nat} {a_t a_query : Nat → Nat} {r_span : Nat} (hC : Cx prog_6_method_7_code 4 (some .int) R_Reader p s m args meth c g A A) : ∀ (t : StI) (query : StI) (x1 : Int32) (x2 : Int32) (x3 : Int32) (res : Int32 × StI × StI), Reader_takeSign F t query x1 x2 x3 = some res → Go p l e rm_Reader_takeSign s m args below meth c g A A 4 (MQ below (EI g ((pic_Reader g a_t (a_query 0) r_span res.2.1) ++ (pic_Query g a_query res.2.2)) res.1 A) args s 0 0 A) ((pic_Reader g a_t (a_query 0) r_span t) ++ (pic_Query g a_query query)) [(0, .ref (a_t 0)), (1, .int x1), (2, .int x2), (3, .int x3)] 0 [] := by
  obtain ⟨hx, hb, hr, hml, hown, htb, hlocks, hA, hAA, hG⟩ := id hC
  have hK := hG.1
  intro t query x1 x2 x3 res h H locs ls hP hD hS hl
  rw [Reader_takeSign] at h
  refine lv_iload_n hx hb d_Reader_takeSign_0 rfl (lv_at hl 1 rfl) ?_
  refine lv_bipush (v := -2) hx hb d_Reader_takeSign_1 (by decide) ?_
  refine lv_icmp_ne (tgt := 21) hx hb d_Reader_takeSign_3 (by decide) (fun c7 => ?_) (fun c7 => ?_)
  · replace h := (if_neg c7).symm.trans h
    refine lv_aload_n hx hb d_Reader_takeSign_21 rfl (lv_at hl 0 rfl) ?_
    refine va_get (D := gD g) (ci := 3) (v := .int (t 4 0)) (C := R_Reader) (T := T_Reader) (N := 9) hx hb htb in_Reader hown hK hP 0 rfl rfl 4 (by decide) (htb _ L_Reader_25) (fun _ h9 => h9) rfl d_Reader_takeSign_22 ?_
    refine lv_if_eq (tgt := 35) hx hb d_Reader_takeSign_25 (by decide) (fun c8 => ?_) (fun c8 => ?_)
    · replace h := (if_pos c8).symm.trans h
      refine lv_aload_n hx hb d_Reader_takeSign_35 rfl (lv_at hl 0 rfl) ?_
      refine lv_iload_n hx hb d_Reader_takeSign_36 rfl (lv_at hl 1 rfl) ?_
      obtain ⟨r9, hr9, h⟩ := Option.bind_eq_some_iff.mp h
      refine cl_V (wr := []) [0, 1, 2, 3, 4, 5, 6, 7, 8, 9, 10, 11, 12, 13, 14] [] rfl rfl rfl (by decide) hP hD hS hA (va_runV (As := [.int x1]) (rest := []) ⟨hx, hb, hml, hown, htb⟩ (c_Reader_joinBy l g F a_t a_query r_span t query x1 _ hr9 H.size) (cw_V htb mb_Reader_joinBy (htb _ L_Reader_104) rfl rfl ⟨Nat.le_of_ble_eq_true rfl, Nat.le_of_ble_eq_true rfl⟩) (pre_V (va_recv hK hP (ci := 3) (q0 := 0) rfl rfl) (pre_S [0, 1, 2, 3, 4, 5, 6, 7, 8, 9, 10, 11, 12, 13, 14] rfl rfl hP hD hS hA hAA hG)) rfl rfl hl.1 rfl (lv_room (Nat.le_of_ble_eq_true rfl)) d_Reader_takeSign_37 ⟨Nat.zero_le _, Nat.zero_le _⟩) (fun H locs hP hD hS => ?_)
      have hP : va_P (gD g) vwCl ((pic_Reader g a_t (a_query 0) r_span r9.1) ++ (pic_Query g a_query r9.2)) H := hP.sub [0, 1, 2, 3, 4, 5, 6, 7, 8, 9, 10, 11, 12, 13, 14] rfl
      have hD : va_D A ((pic_Reader g a_t (a_query 0) r_span r9.1) ++ (pic_Query g a_query r9.2)) := hD.sub [0, 1, 2, 3, 4, 5, 6, 7, 8, 9, 10, 11, 12, 13, 14] rfl rfl
      refine lv_iload_n hx hb d_Reader_takeSign_40 rfl (lv_at hl 3 rfl) ?_
      cases h
      exact W.iret hx hb hr (fun t ht hW => ⟨⟨_, (), rfl, rfl, by rw [ht]; exact hP, hD⟩, hS.F ht⟩) hS.2.2 d_Reader_takeSign_41
    · replace h := (if_neg c8).symm.trans h
      refine lv_aload_n hx hb d_Reader_takeSign_28 rfl (lv_at hl 0 rfl) ?_
      refine lv_iconst (v := 1) hx hb d_Reader_takeSign_29 (by decide) ?_
      refine lv_iload_n hx hb d_Reader_takeSign_30 rfl (lv_at hl 2 rfl) ?_
      obtain ⟨r10, hr10, h⟩ := Option.bind_eq_some_iff.mp h
      refine cl_I (wr := (pic_Query g a_query query)) [0, 1, 2, 3] [4, 5, 6, 7, 8, 9, 10, 11, 12, 13, 14] rfl rfl rfl (by decide) hP hD hS hA (va_runV (As := [.int (1 : Int32), .int x2]) (rest := []) ⟨hx, hb, hml, hown, htb⟩ (c_Reader_fail l g F a_t (a_query 0) r_span t (1 : Int32) x2 _ hr10 H.size) (cw_V htb mb_Reader_fail (htb _ L_Reader_61) rfl rfl ⟨Nat.le_of_ble_eq_true rfl, Nat.le_of_ble_eq_true rfl⟩) (pre_V (va_recv hK hP (ci := 3) (q0 := 0) rfl rfl) (pre_S [0, 1, 2, 3] rfl rfl hP hD hS hA hAA hG)) rfl rfl hl.1 rfl (lv_room (Nat.le_of_ble_eq_true rfl)) d_Reader_takeSign_31 ⟨Nat.zero_le _, Nat.zero_le _⟩) (fun H locs hP hD hS => ?_)
      have hP : va_P (gD g) vwCl ((pic_Reader g a_t (a_query 0) r_span r10.2) ++ (pic_Query g a_query query)) H := hP.sub [11, 12, 13, 14, 0, 1, 2, 3, 4, 5, 6, 7, 8, 9, 10] rfl
      have hD : va_D A ((pic_Reader g a_t (a_query 0) r_span r10.2) ++ (pic_Query g a_query query)) := hD.sub [11, 12, 13, 14, 0, 1, 2, 3, 4, 5, 6, 7, 8, 9, 10] rfl rfl
      cases h
      exact W.iret hx hb hr (fun t ht hW => ⟨⟨_, (), rfl, rfl, by rw [ht]; exact hP, hD⟩, hS.F ht⟩) hS.2.2 d_Reader_takeSign_34
  · replace h := (if_pos c7).symm.trans h
    refine lv_aload_n hx hb d_Reader_takeSign_6 rfl (lv_at hl 0 rfl) ?_
    obtain ⟨r11, hr11, h⟩ := Option.bind_eq_some_iff.mp h
    refine cl_V (wr := []) [0, 1, 2, 3, 4, 5, 6, 7, 8, 9, 10, 11, 12, 13, 14] [] rfl rfl rfl (by decide) hP hD hS hA (va_runV (As := []) (rest := []) ⟨hx, hb, hml, hown, htb⟩ (c_Reader_beginOperand l g F a_t a_query r_span t query _ hr11 H.size) (cw_V htb mb_Reader_beginOperand (htb _ L_Reader_97) rfl rfl ⟨Nat.le_of_ble_eq_true rfl, Nat.le_of_ble_eq_true rfl⟩) (pre_V (va_recv hK hP (ci := 3) (q0 := 0) rfl rfl) (pre_S [0, 1, 2, 3, 4, 5, 6, 7, 8, 9, 10, 11, 12, 13, 14] rfl rfl hP hD hS hA hAA hG)) rfl rfl hl.1 rfl (lv_room (Nat.le_of_ble_eq_true rfl)) d_Reader_takeSign_7 ⟨Nat.zero_le _, Nat.zero_le _⟩) (fun H locs hP hD hS => ?_)
    have hP : va_P (gD g) vwCl ((pic_Reader g a_t (a_query 0) r_span r11.1) ++ (pic_Query g a_query r11.2)) H := hP.sub [0, 1, 2, 3, 4, 5, 6, 7, 8, 9, 10, 11, 12, 13, 14] rfl
    have hD : va_D A ((pic_Reader g a_t (a_query 0) r_span r11.1) ++ (pic_Query g a_query r11.2)) := hD.sub [0, 1, 2, 3, 4, 5, 6, 7, 8, 9, 10, 11, 12, 13, 14] rfl rfl
    refine lv_aload_n hx hb d_Reader_takeSign_10 rfl (lv_at hl 0 rfl) ?_
    refine va_get (D := gD g) (ci := 3) (v := .ref (a_query 0)) (C := R_Reader) (T := T_Reader) (N := 9) hx hb htb in_Reader hown hK hP 0 rfl rfl 0 (by decide) (htb _ L_Reader_42) (fun _ h9 => h9) rfl d_Reader_takeSign_11 ?_
    refine lv_bipush (v := -2) hx hb d_Reader_takeSign_14 (by decide) ?_
    obtain ⟨r12, hr12, h⟩ := Option.bind_eq_some_iff.mp h
    refine cl_V (wr := (pic_Reader g a_t (a_query 0) r_span r11.1)) [4, 5, 6, 7, 8, 9, 10, 11, 12, 13, 14] [0, 1, 2, 3] rfl rfl rfl (by decide) hP hD hS hA (va_runV (As := [.int (-2 : Int32)]) (rest := []) ⟨hx, hb, hml, hown, htb⟩ (c_Query_append l g F a_query r11.2 (-2 : Int32) _ hr12 H.size) (cw_V htb mb_Query_append (htb _ L_Reader_100) rfl rfl ⟨Nat.le_of_ble_eq_true rfl, Nat.le_of_ble_eq_true rfl⟩) (pre_V (va_recv hK hP (ci := 1) (q0 := 4) rfl rfl) (pre_S [4, 5, 6, 7, 8, 9, 10, 11, 12, 13, 14] rfl rfl hP hD hS hA hAA hG)) rfl rfl hl.1 rfl (lv_room (Nat.le_of_ble_eq_true rfl)) d_Reader_takeSign_16 ⟨Nat.zero_le _, Nat.zero_le _⟩) (fun H locs hP hD hS => ?_)
    have hP : va_P (gD g) vwCl ((pic_Reader g a_t (a_query 0) r_span r11.1) ++ (pic_Query g a_query r12)) H := hP.sub [0, 1, 2, 3, 4, 5, 6, 7, 8, 9, 10, 11, 12, 13, 14] rfl
    have hD : va_D A ((pic_Reader g a_t (a_query 0) r_span r11.1) ++ (pic_Query g a_query r12)) := hD.sub [0, 1, 2, 3, 4, 5, 6, 7, 8, 9, 10, 11, 12, 13, 14] rfl rfl
    refine lv_iload_n hx hb d_Reader_takeSign_19 rfl (lv_at hl 3 rfl) ?_
    cases h
    exact W.iret hx hb hr (fun t ht hW => ⟨⟨_, (), rfl, rfl, by rw [ht]; exact hP, hD⟩, hS.F ht⟩) hS.2.2 d_Reader_takeSign_20
theorem c_Reader_takeSign (l : Launch) (g : Gz) (F : Nat) (a_t : Nat → Nat) (a_query : Nat → Nat) (r_span : Nat) (t : StI) (query : StI) (x1 : Int32) (x2 : Int32) (x3 : Int32) (res : Int32 × StI × StI) (h : Reader_takeSign F t query x1 x2 x3 = some res) : ∀ sz : Nat, Met l y_Reader_takeSign (.code y_Reader_takeSign prog_6_method_7_code 4 (some .int) :: TBL) rm_Reader_takeSign (va_Pc [.ref (a_t 0), .int x1, .int x2, .int x3] (Pre0 g ((pic_Reader g a_t (a_query 0) r_span t) ++ (pic_Query g a_query query)) sz)) (EI g ((pic_Reader g a_t (a_query 0) r_span res.2.1) ++ (pic_Query g a_query res.2.2)) res.1 (va_A ((pic_Reader g a_t (a_query 0) r_span t) ++ (pic_Query g a_query query)) sz)) 0 0 (va_A ((pic_Reader g a_t (a_query 0) r_span t) ++ (pic_Query g a_query query)) sz) :=
  ct_w (Qc := fun A => EI g ((pic_Reader g a_t (a_query 0) r_span res.2.1) ++ (pic_Query g a_query res.2.2)) res.1 A) (by decide) (Nat.le_of_ble_eq_true rfl) (fun p e s m args below meth c A hC => k_Reader_takeSign hC t query x1 x2 x3 res h)
def Reader_takeClosing_14 (F : Nat) (t : StI) (x1 : Int32) : Option (Int32 × StI) := (Reader_fail F t (1 : Int32) x1).bind fun r5 => some (r5.1, r5.2)
def Reader_takeClosing (F : Nat) (t : StI) (x1 : Int32) : Option (Int32 × StI) := if (t 4 0) = 0 then if 0 < (t 5 0) then letS (va_up t 5 (fun _ => ((t 5 0) - (1 : Int32)))) fun t_8 => some ((x1 + (1 : Int32)), t_8) else Reader_takeClosing_14 F t x1 else Reader_takeClosing_14 F t x1
set_option maxHeartbeats 4000000 in
set_option maxRecDepth 100000 in
theorem k_Reader_takeClosing_14 {p : Program} {l : Launch} {e : Env} {s : State} {m : MethodId} {args : Array Value} {below : List Frame} {meth : Method} {c : Code} {g : Gz} {A : Nat → Prop} {F : Nat} {a_t : Nat → Nat} {r_query r_span : Nat} (hC : Cx prog_6_method_6_code 2 (some .int) R_Reader p s m args meth c g A A) : ∀ (t : StI) (x1 : Int32) (res : Int32 × StI), Reader_takeClosing_14 F t x1 = some res → Go p l e rm_Reader_takeClosing s m args below meth c g A A 2 (MQ below (EI g ((pic_Reader g a_t r_query r_span res.2)) res.1 A) args s 0 0 A) ((pic_Reader g a_t r_query r_span t)) [(0, .ref (a_t 0)), (1, .int x1)] 14 [] := by
  obtain ⟨hx, hb, hr, hml, hown, htb, hlocks, hA, hAA, hG⟩ := id hC
  have hK := hG.1
  intro t x1 res h H locs ls hP hD hS hl
  rw [Reader_takeClosing_14] at h
  refine lv_aload_n hx hb d_Reader_takeClosing_14 rfl (lv_at hl 0 rfl) ?_
  refine lv_iconst (v := 1) hx hb d_Reader_takeClosing_15 (by decide) ?_
  refine lv_iload_n hx hb d_Reader_takeClosing_16 rfl (lv_at hl 1 rfl) ?_
  obtain ⟨r5, hr5, h⟩ := Option.bind_eq_some_iff.mp h
  refine cl_I (wr := []) [0, 1, 2, 3] [] rfl rfl rfl (by decide) hP hD hS hA (va_runV (As := [.int (1 : Int32), .int x1]) (rest := []) ⟨hx, hb, hml, hown, htb⟩ (c_Reader_fail l g F a_t r_query r_span t (1 : Int32) x1 _ hr5 H.size) (cw_V htb mb_Reader_fail (htb _ L_Reader_61) rfl rfl ⟨Nat.le_of_ble_eq_true rfl, Nat.le_of_ble_eq_true rfl⟩) (pre_V (va_recv hK hP (ci := 3) (q0 := 0) rfl rfl) (pre_S [0, 1, 2, 3] rfl rfl hP hD hS hA hAA hG)) rfl rfl hl.1 rfl (lv_room (Nat.le_of_ble_eq_true rfl)) d_Reader_takeClosing_17 ⟨Nat.zero_le _, Nat.zero_le _⟩) (fun H locs hP hD hS => ?_)
  have hP : va_P (gD g) vwCl ((pic_Reader g a_t r_query r_span r5.2)) H := hP.sub [0, 1, 2, 3] rfl
  have hD : va_D A ((pic_Reader g a_t r_query r_span r5.2)) := hD.sub [0, 1, 2, 3] rfl rfl
  cases h
  exact W.iret hx hb hr (fun t ht hW => ⟨⟨_, (), rfl, rfl, by rw [ht]; exact hP, hD⟩, hS.F ht⟩) hS.2.2 d_Reader_takeClosing_20
set_option maxHeartbeats 4000000 in
set_option maxRecDepth 100000 in
theorem k_Reader_takeClosing {p : Program} {l : Launch} {e : Env} {s : State} {m : MethodId} {args : Array Value} {below : List Frame} {meth : Method} {c : Code} {g : Gz} {A : Nat → Prop} {F : Nat} {a_t : Nat → Nat} {r_query r_span : Nat} (hC : Cx prog_6_method_6_code 2 (some .int) R_Reader p s m args meth c g A A) : ∀ (t : StI) (x1 : Int32) (res : Int32 × StI), Reader_takeClosing F t x1 = some res → Go p l e rm_Reader_takeClosing s m args below meth c g A A 2 (MQ below (EI g ((pic_Reader g a_t r_query r_span res.2)) res.1 A) args s 0 0 A) ((pic_Reader g a_t r_query r_span t)) [(0, .ref (a_t 0)), (1, .int x1)] 0 [] := by
  obtain ⟨hx, hb, hr, hml, hown, htb, hlocks, hA, hAA, hG⟩ := id hC
  have hK := hG.1
  intro t x1 res h H locs ls hP hD hS hl
  rw [Reader_takeClosing] at h
  refine lv_aload_n hx hb d_Reader_takeClosing_0 rfl (lv_at hl 0 rfl) ?_
  refine va_get (D := gD g) (ci := 3) (v := .int (t 4 0)) (C := R_Reader) (T := T_Reader) (N := 9) hx hb htb in_Reader hown hK hP 0 rfl rfl 4 (by decide) (htb _ L_Reader_25) (fun _ h9 => h9) rfl d_Reader_takeClosing_1 ?_
  refine lv_if_ne (tgt := 14) hx hb d_Reader_takeClosing_4 (by decide) (fun c6 => ?_) (fun c6 => ?_)
  · replace h := (if_neg c6).symm.trans h
    exact k_Reader_takeClosing_14 hC _ _ _ h _ _ _ hP hD hS (lv_sub hl [0, 1] rfl)
  · replace h := (if_pos c6).symm.trans h
    refine lv_aload_n hx hb d_Reader_takeClosing_7 rfl (lv_at hl 0 rfl) ?_
    refine va_get (D := gD g) (ci := 3) (v := .int (t 5 0)) (C := R_Reader) (T := T_Reader) (N := 9) hx hb htb in_Reader hown hK hP 0 rfl rfl 5 (by decide) (htb _ L_Reader_29) (fun _ h9 => h9) rfl d_Reader_takeClosing_8 ?_
    refine lv_if_gt (tgt := 21) hx hb d_Reader_takeClosing_11 (by decide) (fun c7 => ?_) (fun c7 => ?_)
    · replace h := (if_pos c7).symm.trans h
      refine lv_aload_n hx hb d_Reader_takeClosing_21 rfl (lv_at hl 0 rfl) ?_
      refine lv_dup hx hb d_Reader_takeClosing_22 rfl ?_
      refine va_get (D := gD g) (ci := 3) (v := .int (t 5 0)) (C := R_Reader) (T := T_Reader) (N := 9) hx hb htb in_Reader hown hK hP 0 rfl rfl 5 (by decide) (htb _ L_Reader_29) (fun _ h9 => h9) rfl d_Reader_takeClosing_23 ?_
      refine lv_iconst (v := 1) hx hb d_Reader_takeClosing_26 (by decide) ?_
      refine lv_isub hx hb d_Reader_takeClosing_27 ?_
      refine va_put (D := gD g) (ci := 3) (v := .int ((t 5 0) - (1 : Int32))) (ty := .int) (C := R_Reader) (T := T_Reader) (N := 9) hx hb htb in_Reader ty_Reader ty_Reader_ok nm_Reader hown hK hP hD hS 0 rfl rfl 5 (by decide) (htb _ L_Reader_29) (fun _ h9 => h9) rfl (by decide +kernel) rfl rfl (Nat.le_of_ble_eq_true rfl) d_Reader_takeClosing_28 (fun H locs hP hD hS => ?_)
      obtain ⟨t_8, et_8, h⟩ := letS_el h
      have hP : va_P (gD g) vwCl ((pic_Reader g a_t r_query r_span t_8)) H := by rw [et_8]; exact hP
      have hD : va_D A ((pic_Reader g a_t r_query r_span t_8)) := by rw [et_8]; exact hD
      refine lv_iload_n hx hb d_Reader_takeClosing_31 rfl (lv_at hl 1 rfl) ?_
      refine lv_iconst (v := 1) hx hb d_Reader_takeClosing_32 (by decide) ?_
      refine lv_iadd hx hb d_Reader_takeClosing_33 ?_
      cases h
      exact W.iret hx hb hr (fun t ht hW => ⟨⟨_, (), rfl, rfl, by rw [ht]; exact hP, hD⟩, hS.F ht⟩) hS.2.2 d_Reader_takeClosing_34
    · replace h := (if_neg c7).symm.trans h
      exact k_Reader_takeClosing_14 hC _ _ _ h _ _ _ hP hD hS (lv_sub hl [0, 1] rfl)
theorem c_Reader_takeClosing (l : Launch) (g : Gz) (F : Nat) (a_t : Nat → Nat) (r_query : Nat) (r_span : Nat) (t : StI) (x1 : Int32) (res : Int32 × StI) (h : Reader_takeClosing F t x1 = some res) : ∀ sz : Nat, Met l y_Reader_takeClosing (.code y_Reader_takeClosing prog_6_method_6_code 2 (some .int) :: TBL) rm_Reader_takeClosing (va_Pc [.ref (a_t 0), .int x1] (Pre0 g ((pic_Reader g a_t r_query r_span t)) sz)) (EI g ((pic_Reader g a_t r_query r_span res.2)) res.1 (va_A ((pic_Reader g a_t r_query r_span t)) sz)) 0 0 (va_A ((pic_Reader g a_t r_query r_span t)) sz) :=
  ct_w (Qc := fun A => EI g ((pic_Reader g a_t r_query r_span res.2)) res.1 A) (by decide) (Nat.le_of_ble_eq_true rfl) (fun p e s m args below meth c A hC => k_Reader_takeClosing hC t x1 res h)
def Reader_takeOpening (F : Nat) (t : StI) (query : StI) (x1 : Int32) : Option (Int32 × StI × StI) := if (t 5 0) < (20 : Int32) then (Reader_beginOperand F t query).bind fun r7 => letS (va_up r7.1 5 (fun _ => ((r7.1 5 0) + (1 : Int32)))) fun t_8 => (Reader_beginAny F t_8 r7.2).bind fun r9 => some ((x1 + (1 : Int32)), r9, r7.2) else (Reader_fail F t (5 : Int32) x1).bind fun r10 => some (r10.1, r10.2, query)
set_option maxHeartbeats 4000000 in
set_option maxRecDepth 100000 in
theorem k_Reader_takeOpening {p : Program} {l : Launch} {e : Env} {s : State} {m : MethodId} {args : Array Value} {below : List Frame} {meth : Method} {c : Code} {g : Gz} {A : Nat → Prop} {F : Nat} {a_t a_query : Nat → Nat} {r_span : Nat} (hC : Cx prog_6_method_5_code 2 (some .int) R_Reader p s m args meth c g A A) : ∀ (t : StI) (query : StI) (x1 : Int32) (res : Int32 × StI × StI), Reader_takeOpening F t query x1 = some res → Go p l e rm_Reader_takeOpening s m args below meth c g A A 2 (MQ below (EI g ((pic_Reader g a_t (a_query 0) r_span res.2.1) ++ (pic_Query g a_query res.2.2)) res.1 A) args s 0 0 A) ((pic_Reader g a_t (a_query 0) r_span t) ++ (pic_Query g a_query query)) [(0, .ref (a_t 0)), (1, .int x1)] 0 [] := by
  obtain ⟨hx, hb, hr, hml, hown, htb, hlocks, hA, hAA, hG⟩ := id hC
  have hK := hG.1
  intro t query x1 res h H locs ls hP hD hS hl
  rw [Reader_takeOpening] at h
  refine lv_aload_n hx hb d_Reader_takeOpening_0 rfl (lv_at hl 0 rfl) ?_
  refine va_get (D := gD g) (ci := 3) (v := .int (t 5 0)) (C := R_Reader) (T := T_Reader) (N := 9) hx hb htb in_Reader hown hK hP 0 rfl rfl 5 (by decide) (htb _ L_Reader_29) (fun _ h9 => h9) rfl d_Reader_takeOpening_1 ?_
  refine lv_bipush (v := 20) hx hb d_Reader_takeOpening_4 (by decide) ?_
  refine lv_icmp_lt (tgt := 16) hx hb d_Reader_takeOpening_6 (by decide) (fun c6 => ?_) (fun c6 => ?_)
  · replace h := (if_pos c6).symm.trans h
    refine lv_aload_n hx hb d_Reader_takeOpening_16 rfl (lv_at hl 0 rfl) ?_
    obtain ⟨r7, hr7, h⟩ := Option.bind_eq_some_iff.mp h
    refine cl_V (wr := []) [0, 1, 2, 3, 4, 5, 6, 7, 8, 9, 10, 11, 12, 13, 14] [] rfl rfl rfl (by decide) hP hD hS hA (va_runV (As := []) (rest := []) ⟨hx, hb, hml, hown, htb⟩ (c_Reader_beginOperand l g F a_t a_query r_span t query _ hr7 H.size) (cw_V htb mb_Reader_beginOperand (htb _ L_Reader_97) rfl rfl ⟨Nat.le_of_ble_eq_true rfl, Nat.le_of_ble_eq_true rfl⟩) (pre_V (va_recv hK hP (ci := 3) (q0 := 0) rfl rfl) (pre_S [0, 1, 2, 3, 4, 5, 6, 7, 8, 9, 10, 11, 12, 13, 14] rfl rfl hP hD hS hA hAA hG)) rfl rfl hl.1 rfl (lv_room (Nat.le_of_ble_eq_true rfl)) d_Reader_takeOpening_17 ⟨Nat.zero_le _, Nat.zero_le _⟩) (fun H locs hP hD hS => ?_)
    have hP : va_P (gD g) vwCl ((pic_Reader g a_t (a_query 0) r_span r7.1) ++ (pic_Query g a_query r7.2)) H := hP.sub [0, 1, 2, 3, 4, 5, 6, 7, 8, 9, 10, 11, 12, 13, 14] rfl
    have hD : va_D A ((pic_Reader g a_t (a_query 0) r_span r7.1) ++ (pic_Query g a_query r7.2)) := hD.sub [0, 1, 2, 3, 4, 5, 6, 7, 8, 9, 10, 11, 12, 13, 14] rfl rfl
    refine lv_aload_n hx hb d_Reader_takeOpening_20 rfl (lv_at hl 0 rfl) ?_
    refine lv_dup hx hb d_Reader_takeOpening_21 rfl ?_
    refine va_get (D := gD g) (ci := 3) (v := .int (r7.1 5 0)) (C := R_Reader) (T := T_Reader) (N := 9) hx hb htb in_Reader hown hK hP 0 rfl rfl 5 (by decide) (htb _ L_Reader_29) (fun _ h9 => h9) rfl d_Reader_takeOpening_22 ?_
    refine lv_iconst (v := 1) hx hb d_Reader_takeOpening_25 (by decide) ?_
    refine lv_iadd hx hb d_Reader_takeOpening_26 ?_
    refine va_put (D := gD g) (ci := 3) (v := .int ((r7.1 5 0) + (1 : Int32))) (ty := .int) (C := R_Reader) (T := T_Reader) (N := 9) hx hb htb in_Reader ty_Reader ty_Reader_ok nm_Reader hown hK hP hD hS 0 rfl rfl 5 (by decide) (htb _ L_Reader_29) (fun _ h9 => h9) rfl (by decide +kernel) rfl rfl (Nat.le_of_ble_eq_true rfl) d_Reader_takeOpening_27 (fun H locs hP hD hS => ?_)
    obtain ⟨t_8, et_8, h⟩ := letS_el h
    have hP : va_P (gD g) vwCl ((pic_Reader g a_t (a_query 0) r_span t_8) ++ (pic_Query g a_query r7.2)) H := by rw [et_8]; exact hP
    have hD : va_D A ((pic_Reader g a_t (a_query 0) r_span t_8) ++ (pic_Query g a_query r7.2)) := by rw [et_8]; exact hD
    refine lv_aload_n hx hb d_Reader_takeOpening_30 rfl (lv_at hl 0 rfl) ?_
    obtain ⟨r9, hr9, h⟩ := Option.bind_eq_some_iff.mp h
    refine cl_V (wr := []) [0, 1, 2, 3, 4, 5, 6, 7, 8, 9, 10, 11, 12, 13, 14] [] rfl rfl rfl (by decide) hP hD hS hA (va_runV (As := []) (rest := []) ⟨hx, hb, hml, hown, htb⟩ (c_Reader_beginAny l g F a_t a_query r_span t_8 r7.2 _ hr9 H.size) (cw_V htb mb_Reader_beginAny (htb _ L_Reader_46) rfl rfl ⟨Nat.le_of_ble_eq_true rfl, Nat.le_of_ble_eq_true rfl⟩) (pre_V (va_recv hK hP (ci := 3) (q0 := 0) rfl rfl) (pre_S [0, 1, 2, 3, 4, 5, 6, 7, 8, 9, 10, 11, 12, 13, 14] rfl rfl hP hD hS hA hAA hG)) rfl rfl hl.1 rfl (lv_room (Nat.le_of_ble_eq_true rfl)) d_Reader_takeOpening_31 ⟨Nat.zero_le _, Nat.zero_le _⟩) (fun H locs hP hD hS => ?_)
    have hP : va_P (gD g) vwCl ((pic_Reader g a_t (a_query 0) r_span r9) ++ (pic_Query g a_query r7.2)) H := hP.sub [0, 1, 2, 3, 4, 5, 6, 7, 8, 9, 10, 11, 12, 13, 14] rfl
    have hD : va_D A ((pic_Reader g a_t (a_query 0) r_span r9) ++ (pic_Query g a_query r7.2)) := hD.sub [0, 1, 2, 3, 4, 5, 6, 7, 8, 9, 10, 11, 12, 13, 14] rfl rfl
    refine lv_iload_n hx hb d_Reader_takeOpening_34 rfl (lv_at hl 1 rfl) ?_
    refine lv_iconst (v := 1) hx hb d_Reader_takeOpening_35 (by decide) ?_
    refine lv_iadd hx hb d_Reader_takeOpening_36 ?_
    cases h
    exact W.iret hx hb hr (fun t ht hW => ⟨⟨_, (), rfl, rfl, by rw [ht]; exact hP, hD⟩, hS.F ht⟩) hS.2.2 d_Reader_takeOpening_37
  · replace h := (if_neg c6).symm.trans h
    refine lv_aload_n hx hb d_Reader_takeOpening_9 rfl (lv_at hl 0 rfl) ?_
    refine lv_iconst (v := 5) hx hb d_Reader_takeOpening_10 (by decide) ?_
    refine lv_iload_n hx hb d_Reader_takeOpening_11 rfl (lv_at hl 1 rfl) ?_
    obtain ⟨r10, hr10, h⟩ := Option.bind_eq_some_iff.mp h
    refine cl_I (wr := (pic_Query g a_query query)) [0, 1, 2, 3] [4, 5, 6, 7, 8, 9, 10, 11, 12, 13, 14] rfl rfl rfl (by decide) hP hD hS hA (va_runV (As := [.int (5 : Int32), .int x1]) (rest := []) ⟨hx, hb, hml, hown, htb⟩ (c_Reader_fail l g F a_t (a_query 0) r_span t (5 : Int32) x1 _ hr10 H.size) (cw_V htb mb_Reader_fail (htb _ L_Reader_61) rfl rfl ⟨Nat.le_of_ble_eq_true rfl, Nat.le_of_ble_eq_true rfl⟩) (pre_V (va_recv hK hP (ci := 3) (q0 := 0) rfl rfl) (pre_S [0, 1, 2, 3] rfl rfl hP hD hS hA hAA hG)) rfl rfl hl.1 rfl (lv_room (Nat.le_of_ble_eq_true rfl)) d_Reader_takeOpening_12 ⟨Nat.zero_le _, Nat.zero_le _⟩) (fun H locs hP hD hS => ?_)
    have hP : va_P (gD g) vwCl ((pic_Reader g a_t (a_query 0) r_span r10.2) ++ (pic_Query g a_query query)) H := hP.sub [11, 12, 13, 14, 0, 1, 2, 3, 4, 5, 6, 7, 8, 9, 10] rfl
    have hD : va_D A ((pic_Reader g a_t (a_query 0) r_span r10.2) ++ (pic_Query g a_query query)) := hD.sub [11, 12, 13, 14, 0, 1, 2, 3, 4, 5, 6, 7, 8, 9, 10] rfl rfl
    cases h
    exact W.iret hx hb hr (fun t ht hW => ⟨⟨_, (), rfl, rfl, by rw [ht]; exact hP, hD⟩, hS.F ht⟩) hS.2.2 d_Reader_takeOpening_15
theorem c_Reader_takeOpening (l : Launch) (g : Gz) (F : Nat) (a_t : Nat → Nat) (a_query : Nat → Nat) (r_span : Nat) (t : StI) (query : StI) (x1 : Int32) (res : Int32 × StI × StI) (h : Reader_takeOpening F t query x1 = some res) : ∀ sz : Nat, Met l y_Reader_takeOpening (.code y_Reader_takeOpening prog_6_method_5_code 2 (some .int) :: TBL) rm_Reader_takeOpening (va_Pc [.ref (a_t 0), .int x1] (Pre0 g ((pic_Reader g a_t (a_query 0) r_span t) ++ (pic_Query g a_query query)) sz)) (EI g ((pic_Reader g a_t (a_query 0) r_span res.2.1) ++ (pic_Query g a_query res.2.2)) res.1 (va_A ((pic_Reader g a_t (a_query 0) r_span t) ++ (pic_Query g a_query query)) sz)) 0 0 (va_A ((pic_Reader g a_t (a_query 0) r_span t) ++ (pic_Query g a_query query)) sz) :=
  ct_w (Qc := fun A => EI g ((pic_Reader g a_t (a_query 0) r_span res.2.1) ++ (pic_Query g a_query res.2.2)) res.1 A) (by decide) (Nat.le_of_ble_eq_true rfl) (fun p e s m args below meth c A hC => k_Reader_takeOpening hC t query x1 res h)
def Reader_takeWord_92 (F : Nat) (t : StI) (query : StI) (span : StI) (x1 : Int32) : Option (Int32 × StI × StI × StI) := (Reader_pastTextBytes F t query x1).bind fun r21 => (Reader_signOf F t query x1 r21).bind fun r22 => if r22 = (-1 : Int32) then (Reader_takeAtom F t query span (0 : Int32) x1 x1).bind fun r25 => some (r25.1, r25.2.1, r25.2.2.1, r25.2.2.2) else (Reader_takeSign F t query r22 x1 r21).bind fun r24 => some (r24.1, r24.2.1, r24.2.2, span)
def Reader_takeWord_53 (F : Nat) (t : StI) (query : StI) (span : StI) (x1 : Int32) : Option (Int32 × StI × StI × StI) := (Reader_pastLetters F t query x1).bind fun r26 => if r26 ≤ x1 then Reader_takeWord_92 F t query span x1 else (Query_byteAt F query r26).bind fun r28 => if r28 = (58 : Int32) then (Reader_fieldOf F t query x1 r26).bind fun r30 => (Reader_takeAtom F t query span r30 x1 (r26 + (1 : Int32))).bind fun r31 => some (r31.1, r31.2.1, r31.2.2.1, r31.2.2.2) else Reader_takeWord_92 F t query span x1
def Reader_takeWord (F : Nat) (t : StI) (query : StI) (span : StI) (x1 : Int32) : Option (Int32 × StI × StI × StI) := (Query_byteAt F query x1).bind fun r32 => if r32 = (40 : Int32) then (Reader_takeOpening F t query x1).bind fun r40 => some (r40.1, r40.2.1, r40.2.2, span) else if r32 = (41 : Int32) then (Reader_takeClosing F t x1).bind fun r39 => some (r39.1, r39.2, query, span) else if r32 = (34 : Int32) then Reader_takeWord_53 F t query span x1 else (MQ_isTextByte F r32).bind fun r36 => if r36 = 0 then (Reader_fail F t (2 : Int32) x1).bind fun r38 => some (r38.1, r38.2, query, span) else Reader_takeWord_53 F t query span x1
set_option maxHeartbeats 4000000 in
set_option maxRecDepth 100000 in
theorem k_Reader_takeWord_92 {p : Program} {l : Launch} {e : Env} {s : State} {m : MethodId} {args : Array Value} {below : List Frame} {meth : Method} {c : Code} {g : Gz} {A : Nat → Prop} {F : Nat} {a_t a_query a_span : Nat → Nat} (hC : Cx prog_6_method_4_code 6 (some .int) R_Reader p s m args meth c g A A) : ∀ (t : StI) (query : StI) (span : StI) (x1 : Int32) (res : Int32 × StI × StI × StI), Reader_takeWord_92 F t query span x1 = some res → Go p l e rm_Reader_takeWord s m args below meth c g A A 6 (MQ below (EI g ((pic_Reader g a_t (a_query 0) (a_span 0) res.2.1) ++ (pic_Query g a_query res.2.2.1) ++ (pic_Span g a_span res.2.2.2)) res.1 A) args s 0 0 A) ((pic_Reader g a_t (a_query 0) (a_span 0) t) ++ (pic_Query g a_query query) ++ (pic_Span g a_span span)) [(0, .ref (a_t 0)), (1, .int x1)] 92 [] := by
  obtain ⟨hx, hb, hr, hml, hown, htb, hlocks, hA, hAA, hG⟩ := id hC
  have hK := hG.1
  intro t query span x1 res h H locs ls hP hD hS hl
  rw [Reader_takeWord_92] at h
  refine lv_aload_n hx hb d_Reader_takeWord_92 rfl (lv_at hl 0 rfl) ?_
  refine lv_iload_n hx hb d_Reader_takeWord_93 rfl (lv_at hl 1 rfl) ?_
  obtain ⟨r21, hr21, h⟩ := Option.bind_eq_some_iff.mp h
  refine cl_Ir hP hS hA (va_runV (As := [.int x1]) (rest := []) ⟨hx, hb, hml, hown, htb⟩ (c_Reader_pastTextBytes l g F a_t a_query (a_span 0) t query x1 _ hr21 H.size) (cw_V htb mb_Reader_pastTextBytes (htb _ L_Reader_88) rfl rfl ⟨Nat.le_of_ble_eq_true rfl, Nat.le_of_ble_eq_true rfl⟩) (pre_V (va_recv hK hP (ci := 3) (q0 := 0) rfl rfl) (pre_S [0, 1, 2, 3, 4, 5, 6, 7, 8, 9, 10, 11, 12, 13, 14] rfl rfl hP hD hS hA hAA hG)) rfl rfl hl.1 rfl (lv_room (Nat.le_of_ble_eq_true rfl)) d_Reader_takeWord_94 ⟨Nat.zero_le _, Nat.zero_le _⟩) (fun H locs hP hS => ?_)
  refine lv_istore (lv' := [(4, .int r21), (0, .ref (a_t 0)), (1, .int x1)]) hx hb d_Reader_takeWord_97 hl (by decide) rfl (fun ls hl => ?_)
  refine lv_aload_n hx hb d_Reader_takeWord_99 rfl (lv_at hl 1 rfl) ?_
  refine lv_iload_n hx hb d_Reader_takeWord_100 rfl (lv_at hl 2 rfl) ?_
  refine lv_iload hx hb d_Reader_takeWord_101 (lv_at hl 0 rfl) ?_
  obtain ⟨r22, hr22, h⟩ := Option.bind_eq_some_iff.mp h
  refine cl_Ir hP hS hA (va_runV (As := [.int x1, .int r21]) (rest := []) ⟨hx, hb, hml, hown, htb⟩ (c_Reader_signOf l g F a_t a_query (a_span 0) t query x1 r21 _ hr22 H.size) (cw_V htb mb_Reader_signOf (htb _ L_Reader_91) rfl rfl ⟨Nat.le_of_ble_eq_true rfl, Nat.le_of_ble_eq_true rfl⟩) (pre_V (va_recv hK hP (ci := 3) (q0 := 0) rfl rfl) (pre_S [0, 1, 2, 3, 4, 5, 6, 7, 8, 9, 10, 11, 12, 13, 14] rfl rfl hP hD hS hA hAA hG)) rfl rfl hl.1 rfl (lv_room (Nat.le_of_ble_eq_true rfl)) d_Reader_takeWord_103 ⟨Nat.zero_le _, Nat.zero_le _⟩) (fun H locs hP hS => ?_)
  refine lv_istore (lv' := [(5, .int r22), (4, .int r21), (0, .ref (a_t 0)), (1, .int x1)]) hx hb d_Reader_takeWord_106 hl (by decide) rfl (fun ls hl => ?_)
  refine lv_iload hx hb d_Reader_takeWord_108 (lv_at hl 0 rfl) ?_
  refine lv_iconst (v := -1) hx hb d_Reader_takeWord_110 (by decide) ?_
  refine lv_icmp_ne (tgt := 124) hx hb d_Reader_takeWord_111 (by decide) (fun c23 => ?_) (fun c23 => ?_)
  · replace h := (if_neg c23).symm.trans h
    refine lv_aload_n hx hb d_Reader_takeWord_124 rfl (lv_at hl 2 rfl) ?_
    refine lv_iload hx hb d_Reader_takeWord_125 (lv_at hl 0 rfl) ?_
    refine lv_iload_n hx hb d_Reader_takeWord_127 rfl (lv_at hl 3 rfl) ?_
    refine lv_iload hx hb d_Reader_takeWord_128 (lv_at hl 1 rfl) ?_
    obtain ⟨r24, hr24, h⟩ := Option.bind_eq_some_iff.mp h
    refine cl_I (wr := (pic_Span g a_span span)) [0, 1, 2, 3, 4, 5, 6, 7, 8, 9, 10, 11, 12, 13, 14] [15] rfl rfl rfl (by decide) hP hD hS hA (va_runV (As := [.int r22, .int x1, .int r21]) (rest := []) ⟨hx, hb, hml, hown, htb⟩ (c_Reader_takeSign l g F a_t a_query (a_span 0) t query r22 x1 r21 _ hr24 H.size) (cw_V htb mb_Reader_takeSign (htb _ L_Reader_94) rfl rfl ⟨Nat.le_of_ble_eq_true rfl, Nat.le_of_ble_eq_true rfl⟩) (pre_V (va_recv hK hP (ci := 3) (q0 := 0) rfl rfl) (pre_S [0, 1, 2, 3, 4, 5, 6, 7, 8, 9, 10, 11, 12, 13, 14] rfl rfl hP hD hS hA hAA hG)) rfl rfl hl.1 rfl (lv_room (Nat.le_of_ble_eq_true rfl)) d_Reader_takeWord_130 ⟨Nat.zero_le _, Nat.zero_le _⟩) (fun H locs hP hD hS => ?_)
    have hP : va_P (gD g) vwCl ((pic_Reader g a_t (a_query 0) (a_span 0) r24.2.1) ++ (pic_Query g a_query r24.2.2) ++ (pic_Span g a_span span)) H := hP.sub [1, 2, 3, 4, 5, 6, 7, 8, 9, 10, 11, 12, 13, 14, 15, 0] rfl
    have hD : va_D A ((pic_Reader g a_t (a_query 0) (a_span 0) r24.2.1) ++ (pic_Query g a_query r24.2.2) ++ (pic_Span g a_span span)) := hD.sub [1, 2, 3, 4, 5, 6, 7, 8, 9, 10, 11, 12, 13, 14, 15, 0] rfl rfl
    cases h
    exact W.iret hx hb hr (fun t ht hW => ⟨⟨_, (), rfl, rfl, by rw [ht]; exact hP, hD⟩, hS.F ht⟩) hS.2.2 d_Reader_takeWord_133
  · replace h := (if_pos c23).symm.trans h
    refine lv_aload_n hx hb d_Reader_takeWord_114 rfl (lv_at hl 2 rfl) ?_
    refine lv_iconst (v := 0) hx hb d_Reader_takeWord_115 (by decide) ?_
    refine lv_iload_n hx hb d_Reader_takeWord_116 rfl (lv_at hl 3 rfl) ?_
    refine lv_iload_n hx hb d_Reader_takeWord_117 rfl (lv_at hl 3 rfl) ?_
    obtain ⟨r25, hr25, h⟩ := Option.bind_eq_some_iff.mp h
    refine cl_I (wr := []) [0, 1, 2, 3, 4, 5, 6, 7, 8, 9, 10, 11, 12, 13, 14, 15] [] rfl rfl rfl (by decide) hP hD hS hA (va_runV (As := [.int (0 : Int32), .int x1, .int x1]) (rest := []) ⟨hx, hb, hml, hown, htb⟩ (c_Reader_takeAtom l g F a_t a_query a_span t query span (0 : Int32) x1 x1 _ hr25 H.size) (cw_V htb mb_Reader_takeAtom (htb _ L_Reader_84) rfl rfl ⟨Nat.le_of_ble_eq_true rfl, Nat.le_of_ble_eq_true rfl⟩) (pre_V (va_recv hK hP (ci := 3) (q0 := 0) rfl rfl) (pre_S [0, 1, 2, 3, 4, 5, 6, 7, 8, 9, 10, 11, 12, 13, 14, 15] rfl rfl hP hD hS hA hAA hG)) rfl rfl hl.1 rfl (lv_room (Nat.le_of_ble_eq_true rfl)) d_Reader_takeWord_118 ⟨Nat.zero_le _, Nat.zero_le _⟩) (fun H locs hP hD hS => ?_)
    have hP : va_P (gD g) vwCl ((pic_Reader g a_t (a_query 0) (a_span 0) r25.2.1) ++ (pic_Query g a_query r25.2.2.1) ++ (pic_Span g a_span r25.2.2.2)) H := hP.sub [0, 1, 2, 3, 4, 5, 6, 7, 8, 9, 10, 11, 12, 13, 14, 15] rfl
    have hD : va_D A ((pic_Reader g a_t (a_query 0) (a_span 0) r25.2.1) ++ (pic_Query g a_query r25.2.2.1) ++ (pic_Span g a_span r25.2.2.2)) := hD.sub [0, 1, 2, 3, 4, 5, 6, 7, 8, 9, 10, 11, 12, 13, 14, 15] rfl rfl
    refine lv_goto (tgt := 133) hx hb d_Reader_takeWord_121 (by decide) ?_
    cases h
    exact W.iret hx hb hr (fun t ht hW => ⟨⟨_, (), rfl, rfl, by rw [ht]; exact hP, hD⟩, hS.F ht⟩) hS.2.2 d_Reader_takeWord_133
set_option maxHeartbeats 4000000 in
set_option maxRecDepth 100000 in
theorem k_Reader_takeWord_53 {p : Program} {l : Launch} {e : Env} {s : State} {m : MethodId} {args : Array Value} {below : List Frame} {meth : Method} {c : Code} {g : Gz} {A : Nat → Prop} {F : Nat} {a_t a_query a_span : Nat → Nat} (hC : Cx prog_6_method_4_code 6 (some .int) R_Reader p s m args meth c g A A) : ∀ (t : StI) (query : StI) (span : StI) (x1 : Int32) (res : Int32 × StI × StI × StI), Reader_takeWord_53 F t query span x1 = some res → Go p l e rm_Reader_takeWord s m args below meth c g A A 6 (MQ below (EI g ((pic_Reader g a_t (a_query 0) (a_span 0) res.2.1) ++ (pic_Query g a_query res.2.2.1) ++ (pic_Span g a_span res.2.2.2)) res.1 A) args s 0 0 A) ((pic_Reader g a_t (a_query 0) (a_span 0) t) ++ (pic_Query g a_query query) ++ (pic_Span g a_span span)) [(0, .ref (a_t 0)), (1, .int x1)] 53 [] := by
  obtain ⟨hx, hb, hr, hml, hown, htb, hlocks, hA, hAA, hG⟩ := id hC
  have hK := hG.1
  intro t query span x1 res h H locs ls hP hD hS hl
  rw [Reader_takeWord_53] at h
  refine lv_aload_n hx hb d_Reader_takeWord_53 rfl (lv_at hl 0 rfl) ?_
  refine lv_iload_n hx hb d_Reader_takeWord_54 rfl (lv_at hl 1 rfl) ?_
  obtain ⟨r26, hr26, h⟩ := Option.bind_eq_some_iff.mp h
  refine cl_Ir hP hS hA (va_runV (As := [.int x1]) (rest := []) ⟨hx, hb, hml, hown, htb⟩ (c_Reader_pastLetters l g F a_t a_query (a_span 0) t query x1 _ hr26 H.size) (cw_V htb mb_Reader_pastLetters (htb _ L_Reader_78) rfl rfl ⟨Nat.le_of_ble_eq_true rfl, Nat.le_of_ble_eq_true rfl⟩) (pre_V (va_recv hK hP (ci := 3) (q0 := 0) rfl rfl) (pre_S [0, 1, 2, 3, 4, 5, 6, 7, 8, 9, 10, 11, 12, 13, 14] rfl rfl hP hD hS hA hAA hG)) rfl rfl hl.1 rfl (lv_room (Nat.le_of_ble_eq_true rfl)) d_Reader_takeWord_55 ⟨Nat.zero_le _, Nat.zero_le _⟩) (fun H locs hP hS => ?_)
  refine lv_istore_n (lv' := [(3, .int r26), (0, .ref (a_t 0)), (1, .int x1)]) hx hb d_Reader_takeWord_58 rfl hl (by decide) rfl (fun ls hl => ?_)
  refine lv_iload_n hx hb d_Reader_takeWord_59 rfl (lv_at hl 0 rfl) ?_
  refine lv_iload_n hx hb d_Reader_takeWord_60 rfl (lv_at hl 2 rfl) ?_
  refine lv_icmp_le (tgt := 92) hx hb d_Reader_takeWord_61 (by decide) (fun c27 => ?_) (fun c27 => ?_)
  · replace h := (if_pos c27).symm.trans h
    exact k_Reader_takeWord_92 hC _ _ _ _ _ h _ _ _ hP hD hS (lv_sub hl [1, 2] rfl)
  · replace h := (if_neg c27).symm.trans h
    refine lv_aload_n hx hb d_Reader_takeWord_64 rfl (lv_at hl 1 rfl) ?_
    refine va_get (D := gD g) (ci := 3) (v := .ref (a_query 0)) (C := R_Reader) (T := T_Reader) (N := 9) hx hb htb in_Reader hown hK hP 0 rfl rfl 0 (by decide) (htb _ L_Reader_42) (fun _ h9 => h9) rfl d_Reader_takeWord_65 ?_
    refine lv_iload_n hx hb d_Reader_takeWord_68 rfl (lv_at hl 0 rfl) ?_
    obtain ⟨r28, hr28, h⟩ := Option.bind_eq_some_iff.mp h
    refine cl_Ir hP hS hA (va_runV (As := [.int r26]) (rest := []) ⟨hx, hb, hml, hown, htb⟩ (c_Query_byteAt l g F a_query query r26 _ hr28 H.size) (cw_V htb mb_Query_byteAt (htb _ L_Reader_65) rfl rfl ⟨Nat.le_of_ble_eq_true rfl, Nat.le_of_ble_eq_true rfl⟩) (pre_V (va_recv hK hP (ci := 1) (q0 := 4) rfl rfl) (pre_S [4, 5, 6, 7, 8, 9, 10, 11, 12, 13, 14] rfl rfl hP hD hS hA hAA hG)) rfl rfl hl.1 rfl (lv_room (Nat.le_of_ble_eq_true rfl)) d_Reader_takeWord_69 ⟨Nat.zero_le _, Nat.zero_le _⟩) (fun H locs hP hS => ?_)
    refine lv_bipush (v := 58) hx hb d_Reader_takeWord_72 (by decide) ?_
    refine lv_icmp_ne (tgt := 92) hx hb d_Reader_takeWord_74 (by decide) (fun c29 => ?_) (fun c29 => ?_)
    · replace h := (if_neg c29).symm.trans h
      exact k_Reader_takeWord_92 hC _ _ _ _ _ h _ _ _ hP hD hS (lv_sub hl [1, 2] rfl)
    · replace h := (if_pos c29).symm.trans h
      refine lv_aload_n hx hb d_Reader_takeWord_77 rfl (lv_at hl 1 rfl) ?_
      refine lv_aload_n hx hb d_Reader_takeWord_78 rfl (lv_at hl 1 rfl) ?_
      refine lv_iload_n hx hb d_Reader_takeWord_79 rfl (lv_at hl 2 rfl) ?_
      refine lv_iload_n hx hb d_Reader_takeWord_80 rfl (lv_at hl 0 rfl) ?_
      obtain ⟨r30, hr30, h⟩ := Option.bind_eq_some_iff.mp h
      refine cl_Ir hP hS hA (va_runV (As := [.int x1, .int r26]) (rest := [.ref (a_t 0)]) ⟨hx, hb, hml, hown, htb⟩ (c_Reader_fieldOf l g F a_t a_query (a_span 0) t query x1 r26 _ hr30 H.size) (cw_V htb mb_Reader_fieldOf (htb _ L_Reader_81) rfl rfl ⟨Nat.le_of_ble_eq_true rfl, Nat.le_of_ble_eq_true rfl⟩) (pre_V (va_recv hK hP (ci := 3) (q0 := 0) rfl rfl) (pre_S [0, 1, 2, 3, 4, 5, 6, 7, 8, 9, 10, 11, 12, 13, 14] rfl rfl hP hD hS hA hAA hG)) rfl rfl hl.1 rfl (lv_room (Nat.le_of_ble_eq_true rfl)) d_Reader_takeWord_81 ⟨Nat.zero_le _, Nat.zero_le _⟩) (fun H locs hP hS => ?_)
      refine lv_iload_n hx hb d_Reader_takeWord_84 rfl (lv_at hl 2 rfl) ?_
      refine lv_iload_n hx hb d_Reader_takeWord_85 rfl (lv_at hl 0 rfl) ?_
      refine lv_iconst (v := 1) hx hb d_Reader_takeWord_86 (by decide) ?_
      refine lv_iadd hx hb d_Reader_takeWord_87 ?_
      obtain ⟨r31, hr31, h⟩ := Option.bind_eq_some_iff.mp h
      refine cl_I (wr := []) [0, 1, 2, 3, 4, 5, 6, 7, 8, 9, 10, 11, 12, 13, 14, 15] [] rfl rfl rfl (by decide) hP hD hS hA (va_runV (As := [.int r30, .int x1, .int (r26 + (1 : Int32))]) (rest := []) ⟨hx, hb, hml, hown, htb⟩ (c_Reader_takeAtom l g F a_t a_query a_span t query span r30 x1 (r26 + (1 : Int32)) _ hr31 H.size) (cw_V htb mb_Reader_takeAtom (htb _ L_Reader_84) rfl rfl ⟨Nat.le_of_ble_eq_true rfl, Nat.le_of_ble_eq_true rfl⟩) (pre_V (va_recv hK hP (ci := 3) (q0 := 0) rfl rfl) (pre_S [0, 1, 2, 3, 4, 5, 6, 7, 8, 9, 10, 11, 12, 13, 14, 15] rfl rfl hP hD hS hA hAA hG)) rfl rfl hl.1 rfl (lv_room (Nat.le_of_ble_eq_true rfl)) d_Reader_takeWord_88 ⟨Nat.zero_le _, Nat.zero_le _⟩) (fun H locs hP hD hS => ?_)
      have hP : va_P (gD g) vwCl ((pic_Reader g a_t (a_query 0) (a_span 0) r31.2.1) ++ (pic_Query g a_query r31.2.2.1) ++ (pic_Span g a_span r31.2.2.2)) H := hP.sub [0, 1, 2, 3, 4, 5, 6, 7, 8, 9, 10, 11, 12, 13, 14, 15] rfl
      have hD : va_D A ((pic_Reader g a_t (a_query 0) (a_span 0) r31.2.1) ++ (pic_Query g a_query r31.2.2.1) ++ (pic_Span g a_span r31.2.2.2)) := hD.sub [0, 1, 2, 3, 4, 5, 6, 7, 8, 9, 10, 11, 12, 13, 14, 15] rfl rfl
      cases h
      exact W.iret hx hb hr (fun t ht hW => ⟨⟨_, (), rfl, rfl, by rw [ht]; exact hP, hD⟩, hS.F ht⟩) hS.2.2 d_Reader_takeWord_91
set_option maxHeartbeats 4000000 in
set_option maxRecDepth 100000 in
theorem k_Reader_takeWord {p : Program} {l : Launch} {e : Env} {s : State} {m : MethodId} {args : Array Value} {below : List Frame} {meth : Method} {c : Code} {g : Gz} {A : Nat → Prop} {F : Nat} {a_t a_query a_span : Nat → Nat} (hC : Cx prog_6_method_4_code 6 (some .int) R_Reader p s m args meth c g A A) : ∀ (t : StI) (query : StI) (span : StI) (x1 : Int32) (res : Int32 × StI × StI × StI), Reader_takeWord F t query span x1 = some res → Go p l e rm_Reader_takeWord s m args below meth c g A A 6 (MQ below (EI g ((pic_Reader g a_t (a_query 0) (a_span 0) res.2.1) ++ (pic_Query g a_query res.2.2.1) ++ (pic_Span g a_span res.2.2.2)) res.1 A) args s 0 0 A) ((pic_Reader g a_t (a_query 0) (a_span 0) t) ++ (pic_Query g a_query query) ++ (pic_Span g a_span span)) [(0, .ref (a_t 0)), (1, .int x1)] 0 [] := by
  obtain ⟨hx, hb, hr, hml, hown, htb, hlocks, hA, hAA, hG⟩ := id hC
  have hK := hG.1
  intro t query span x1 res h H locs ls hP hD hS hl
  rw [Reader_takeWord] at h
  refine lv_aload_n hx hb d_Reader_takeWord_0 rfl (lv_at hl 0 rfl) ?_
  refine va_get (D := gD g) (ci := 3) (v := .ref (a_query 0)) (C := R_Reader) (T := T_Reader) (N := 9) hx hb htb in_Reader hown hK hP 0 rfl rfl 0 (by decide) (htb _ L_Reader_42) (fun _ h9 => h9) rfl d_Reader_takeWord_1 ?_
  refine lv_iload_n hx hb d_Reader_takeWord_4 rfl (lv_at hl 1 rfl) ?_
  obtain ⟨r32, hr32, h⟩ := Option.bind_eq_some_iff.mp h
  refine cl_Ir hP hS hA (va_runV (As := [.int x1]) (rest := []) ⟨hx, hb, hml, hown, htb⟩ (c_Query_byteAt l g F a_query query x1 _ hr32 H.size) (cw_V htb mb_Query_byteAt (htb _ L_Reader_65) rfl rfl ⟨Nat.le_of_ble_eq_true rfl, Nat.le_of_ble_eq_true rfl⟩) (pre_V (va_recv hK hP (ci := 1) (q0 := 4) rfl rfl) (pre_S [4, 5, 6, 7, 8, 9, 10, 11, 12, 13, 14] rfl rfl hP hD hS hA hAA hG)) rfl rfl hl.1 rfl (lv_room (Nat.le_of_ble_eq_true rfl)) d_Reader_takeWord_5 ⟨Nat.zero_le _, Nat.zero_le _⟩) (fun H locs hP hS => ?_)
  refine lv_istore_n (lv' := [(2, .int r32), (0, .ref (a_t 0)), (1, .int x1)]) hx hb d_Reader_takeWord_8 rfl hl (by decide) rfl (fun ls hl => ?_)
  refine lv_iload_n hx hb d_Reader_takeWord_9 rfl (lv_at hl 0 rfl) ?_
  refine lv_bipush (v := 40) hx hb d_Reader_takeWord_10 (by decide) ?_
  refine lv_icmp_ne (tgt := 21) hx hb d_Reader_takeWord_12 (by decide) (fun c33 => ?_) (fun c33 => ?_)
  · replace h := (if_neg c33).symm.trans h
    refine lv_iload_n hx hb d_Reader_takeWord_21 rfl (lv_at hl 0 rfl) ?_
    refine lv_bipush (v := 41) hx hb d_Reader_takeWord_22 (by decide) ?_
    refine lv_icmp_ne (tgt := 33) hx hb d_Reader_takeWord_24 (by decide) (fun c34 => ?_) (fun c34 => ?_)
    · replace h := (if_neg c34).symm.trans h
      refine lv_iload_n hx hb d_Reader_takeWord_33 rfl (lv_at hl 0 rfl) ?_
      refine lv_bipush (v := 34) hx hb d_Reader_takeWord_34 (by decide) ?_
      refine lv_icmp_eq (tgt := 53) hx hb d_Reader_takeWord_36 (by decide) (fun c35 => ?_) (fun c35 => ?_)
      · replace h := (if_pos c35).symm.trans h
        exact k_Reader_takeWord_53 hC _ _ _ _ _ h _ _ _ hP hD hS (lv_sub hl [1, 2] rfl)
      · replace h := (if_neg c35).symm.trans h
        refine lv_iload_n hx hb d_Reader_takeWord_39 rfl (lv_at hl 0 rfl) ?_
        obtain ⟨r36, hr36, h⟩ := Option.bind_eq_some_iff.mp h
        refine cl_Ir hP hS hA (va_runSN (As := [.int r32]) (rest := []) ⟨hx, hb, hml, hown, htb⟩ (c_MQ_isTextByte l g F r32 _ hr36 H.size) (cn_S htb mb_MQ_isTextByte (nm_of hG N_Reader_74) rfl rfl ⟨Nat.le_of_ble_eq_true rfl, Nat.le_of_ble_eq_true rfl⟩) (pre_S [] rfl rfl hP hD hS hA hAA hG) rfl rfl hl.1 rfl (lv_room (Nat.le_of_ble_eq_true rfl)) d_Reader_takeWord_40 ⟨Nat.zero_le _, Nat.zero_le _⟩) (fun H locs hP hS => ?_)
        refine lv_if_ne (tgt := 53) hx hb d_Reader_takeWord_43 (by decide) (fun c37 => ?_) (fun c37 => ?_)
        · replace h := (if_neg c37).symm.trans h
          exact k_Reader_takeWord_53 hC _ _ _ _ _ h _ _ _ hP hD hS (lv_sub hl [1, 2] rfl)
        · replace h := (if_pos c37).symm.trans h
          refine lv_aload_n hx hb d_Reader_takeWord_46 rfl (lv_at hl 1 rfl) ?_
          refine lv_iconst (v := 2) hx hb d_Reader_takeWord_47 (by decide) ?_
          refine lv_iload_n hx hb d_Reader_takeWord_48 rfl (lv_at hl 2 rfl) ?_
          obtain ⟨r38, hr38, h⟩ := Option.bind_eq_some_iff.mp h
          refine cl_I (wr := (pic_Query g a_query query) ++ (pic_Span g a_span span)) [0, 1, 2, 3] [4, 5, 6, 7, 8, 9, 10, 11, 12, 13, 14, 15] rfl rfl rfl (by decide) hP hD hS hA (va_runV (As := [.int (2 : Int32), .int x1]) (rest := []) ⟨hx, hb, hml, hown, htb⟩ (c_Reader_fail l g F a_t (a_query 0) (a_span 0) t (2 : Int32) x1 _ hr38 H.size) (cw_V htb mb_Reader_fail (htb _ L_Reader_61) rfl rfl ⟨Nat.le_of_ble_eq_true rfl, Nat.le_of_ble_eq_true rfl⟩) (pre_V (va_recv hK hP (ci := 3) (q0 := 0) rfl rfl) (pre_S [0, 1, 2, 3] rfl rfl hP hD hS hA hAA hG)) rfl rfl hl.1 rfl (lv_room (Nat.le_of_ble_eq_true rfl)) d_Reader_takeWord_49 ⟨Nat.zero_le _, Nat.zero_le _⟩) (fun H locs hP hD hS => ?_)
          have hP : va_P (gD g) vwCl ((pic_Reader g a_t (a_query 0) (a_span 0) r38.2) ++ (pic_Query g a_query query) ++ (pic_Span g a_span span)) H := hP.sub [12, 13, 14, 15, 0, 1, 2, 3, 4, 5, 6, 7, 8, 9, 10, 11] rfl
          have hD : va_D A ((pic_Reader g a_t (a_query 0) (a_span 0) r38.2) ++ (pic_Query g a_query query) ++ (pic_Span g a_span span)) := hD.sub [12, 13, 14, 15, 0, 1, 2, 3, 4, 5, 6, 7, 8, 9, 10, 11] rfl rfl
          cases h
          exact W.iret hx hb hr (fun t ht hW => ⟨⟨_, (), rfl, rfl, by rw [ht]; exact hP, hD⟩, hS.F ht⟩) hS.2.2 d_Reader_takeWord_52
    · replace h := (if_pos c34).symm.trans h
      refine lv_aload_n hx hb d_Reader_takeWord_27 rfl (lv_at hl 1 rfl) ?_
      refine lv_iload_n hx hb d_Reader_takeWord_28 rfl (lv_at hl 2 rfl) ?_
      obtain ⟨r39, hr39, h⟩ := Option.bind_eq_some_iff.mp h
      refine cl_I (wr := (pic_Query g a_query query) ++ (pic_Span g a_span span)) [0, 1, 2, 3] [4, 5, 6, 7, 8, 9, 10, 11, 12, 13, 14, 15] rfl rfl rfl (by decide) hP hD hS hA (va_runV (As := [.int x1]) (rest := []) ⟨hx, hb, hml, hown, htb⟩ (c_Reader_takeClosing l g F a_t (a_query 0) (a_span 0) t x1 _ hr39 H.size) (cw_V htb mb_Reader_takeClosing (htb _ L_Reader_71) rfl rfl ⟨Nat.le_of_ble_eq_true rfl, Nat.le_of_ble_eq_true rfl⟩) (pre_V (va_recv hK hP (ci := 3) (q0 := 0) rfl rfl) (pre_S [0, 1, 2, 3] rfl rfl hP hD hS hA hAA hG)) rfl rfl hl.1 rfl (lv_room (Nat.le_of_ble_eq_true rfl)) d_Reader_takeWord_29 ⟨Nat.zero_le _, Nat.zero_le _⟩) (fun H locs hP hD hS => ?_)
      have hP : va_P (gD g) vwCl ((pic_Reader g a_t (a_query 0) (a_span 0) r39.2) ++ (pic_Query g a_query query) ++ (pic_Span g a_span span)) H := hP.sub [12, 13, 14, 15, 0, 1, 2, 3, 4, 5, 6, 7, 8, 9, 10, 11] rfl
      have hD : va_D A ((pic_Reader g a_t (a_query 0) (a_span 0) r39.2) ++ (pic_Query g a_query query) ++ (pic_Span g a_span span)) := hD.sub [12, 13, 14, 15, 0, 1, 2, 3, 4, 5, 6, 7, 8, 9, 10, 11] rfl rfl
      cases h
      exact W.iret hx hb hr (fun t ht hW => ⟨⟨_, (), rfl, rfl, by rw [ht]; exact hP, hD⟩, hS.F ht⟩) hS.2.2 d_Reader_takeWord_32
  · replace h := (if_pos c33).symm.trans h
    refine lv_aload_n hx hb d_Reader_takeWord_15 rfl (lv_at hl 1 rfl) ?_
    refine lv_iload_n hx hb d_Reader_takeWord_16 rfl (lv_at hl 2 rfl) ?_
    obtain ⟨r40, hr40, h⟩ := Option.bind_eq_some_iff.mp h
    refine cl_I (wr := (pic_Span g a_span span)) [0, 1, 2, 3, 4, 5, 6, 7, 8, 9, 10, 11, 12, 13, 14] [15] rfl rfl rfl (by decide) hP hD hS hA (va_runV (As := [.int x1]) (rest := []) ⟨hx, hb, hml, hown, htb⟩ (c_Reader_takeOpening l g F a_t a_query (a_span 0) t query x1 _ hr40 H.size) (cw_V htb mb_Reader_takeOpening (htb _ L_Reader_68) rfl rfl ⟨Nat.le_of_ble_eq_true rfl, Nat.le_of_ble_eq_true rfl⟩) (pre_V (va_recv hK hP (ci := 3) (q0 := 0) rfl rfl) (pre_S [0, 1, 2, 3, 4, 5, 6, 7, 8, 9, 10, 11, 12, 13, 14] rfl rfl hP hD hS hA hAA hG)) rfl rfl hl.1 rfl (lv_room (Nat.le_of_ble_eq_true rfl)) d_Reader_takeWord_17 ⟨Nat.zero_le _, Nat.zero_le _⟩) (fun H locs hP hD hS => ?_)
    have hP : va_P (gD g) vwCl ((pic_Reader g a_t (a_query 0) (a_span 0) r40.2.1) ++ (pic_Query g a_query r40.2.2) ++ (pic_Span g a_span span)) H := hP.sub [1, 2, 3, 4, 5, 6, 7, 8, 9, 10, 11, 12, 13, 14, 15, 0] rfl
    have hD : va_D A ((pic_Reader g a_t (a_query 0) (a_span 0) r40.2.1) ++ (pic_Query g a_query r40.2.2) ++ (pic_Span g a_span span)) := hD.sub [1, 2, 3, 4, 5, 6, 7, 8, 9, 10, 11, 12, 13, 14, 15, 0] rfl rfl
    cases h
    exact W.iret hx hb hr (fun t ht hW => ⟨⟨_, (), rfl, rfl, by rw [ht]; exact hP, hD⟩, hS.F ht⟩) hS.2.2 d_Reader_takeWord_20
theorem c_Reader_takeWord (l : Launch) (g : Gz) (F : Nat) (a_t : Nat → Nat) (a_query : Nat → Nat) (a_span : Nat → Nat) (t : StI) (query : StI) (span : StI) (x1 : Int32) (res : Int32 × StI × StI × StI) (h : Reader_takeWord F t query span x1 = some res) : ∀ sz : Nat, Met l y_Reader_takeWord (.code y_Reader_takeWord prog_6_method_4_code 6 (some .int) :: TBL) rm_Reader_takeWord (va_Pc [.ref (a_t 0), .int x1] (Pre0 g ((pic_Reader g a_t (a_query 0) (a_span 0) t) ++ (pic_Query g a_query query) ++ (pic_Span g a_span span)) sz)) (EI g ((pic_Reader g a_t (a_query 0) (a_span 0) res.2.1) ++ (pic_Query g a_query res.2.2.1) ++ (pic_Span g a_span res.2.2.2)) res.1 (va_A ((pic_Reader g a_t (a_query 0) (a_span 0) t) ++ (pic_Query g a_query query) ++ (pic_Span g a_span span)) sz)) 0 0 (va_A ((pic_Reader g a_t (a_query 0) (a_span 0) t) ++ (pic_Query g a_query query) ++ (pic_Span g a_span span)) sz) :=
  ct_w (Qc := fun A => EI g ((pic_Reader g a_t (a_query 0) (a_span 0) res.2.1) ++ (pic_Query g a_query res.2.2.1) ++ (pic_Span g a_span res.2.2.2)) res.1 A) (by decide) (Nat.le_of_ble_eq_true rfl) (fun p e s m args below meth c A hC => k_Reader_takeWord hC t query span x1 res h)
def Reader_fills_128 (F : Nat) (t : StI) (p1 : StI) (span : StI) (x2 : Int32) : Option (Int32 × StI × StI × StI) := if x2 = (-1 : Int32) then some ((0 : Int32), t, p1, span) else some ((1 : Int32), t, p1, span)
def Reader_fills_115 (F : Nat) (t : StI) (p1 : StI) (span : StI) : Option (Int32 × StI × StI × StI) := (Reader_fail F t (1 : Int32) (p1 1 0)).bind fun r20 => Reader_fills_128 F r20.2 p1 span r20.1
def Reader_fills_96 (F : Nat) (t : StI) (p1 : StI) (span : StI) (x2 : Int32) : Option (Int32 × StI × StI × StI) := if x2 = (-1 : Int32) then Reader_fills_128 F t p1 span x2 else if (t 4 0) = 0 then if (t 5 0) ≤ 0 then Reader_fills_128 F t p1 span x2 else Reader_fills_115 F t p1 span else Reader_fills_115 F t p1 span
def Reader_fills_90 (F : Nat) (k50 : StI → StI → StI → Int32 → Int32 → Option (Int32 × StI × StI × StI)) (t : StI) (p1 : StI) (span : StI) (x2 : Int32) (x3 : Int32) : Option (Int32 × StI × StI × StI) := k50 t p1 span x2 (x3 + (1 : Int32))
def Reader_fills_50 (F : Nat) : Nat → StI → StI → StI → Int32 → Int32 → Option (Int32 × StI × StI × StI)
  | 0, _, _, _, _, _ => none
  | n + 1, t, p1, span, x2, x3 => if (600 : Int32) ≤ x3 then Reader_fills_96 F t p1 span x2 else if x2 = (-1 : Int32) then Reader_fills_96 F t p1 span x2 else if (p1 1 0) ≤ x2 then Reader_fills_96 F t p1 span x2 else (Reader_takeWord F t p1 span x2).bind fun r27 => if r27.1 = (-1 : Int32) then Reader_fills_90 F (Reader_fills_50 F n) r27.2.1 r27.2.2.1 r27.2.2.2 r27.1 x3 else (Reader_pastSpaces F r27.2.1 r27.2.2.1 r27.1).bind fun r29 => Reader_fills_90 F (Reader_fills_50 F n) r27.2.1 r27.2.2.1 r27.2.2.2 r29 x3
def Reader_fills (F : Nat) (t : StI) (p1 : StI) (span : StI) : Option (Int32 × StI × StI × StI) := letS (va_up t 2 (fun _ => (0 : Int32))) fun t_30 => letS (va_up t_30 3 (fun _ => (-1 : Int32))) fun t_31 => letS (va_up t_31 4 (fun _ => (1 : Int32))) fun t_32 => letS (va_up t_32 5 (fun _ => (0 : Int32))) fun t_33 => (Reader_beginAny F t_33 p1).bind fun r34 => (Reader_pastSpaces F r34 p1 (0 : Int32)).bind fun r35 => if r35 < (p1 1 0) then Reader_fills_50 F F r34 p1 span r35 (0 : Int32) else some ((1 : Int32), r34, p1, span)
set_option maxHeartbeats 4000000 in
set_option maxRecDepth 100000 in
theorem k_Reader_fills_128 {p : Program} {l : Launch} {e : Env} {s : State} {m : MethodId} {args : Array Value} {below : List Frame} {meth : Method} {c : Code} {g : Gz} {A : Nat → Prop} {F : Nat} {a_t a_p1 a_span : Nat → Nat} (hC : Cx prog_6_method_2_code 4 (some .boolean) R_Reader p s m args meth c g A A) : ∀ (t : StI) (p1 : StI) (span : StI) (x2 : Int32) (res : Int32 × StI × StI × StI), Reader_fills_128 F t p1 span x2 = some res → Go p l e rm_Reader_fills s m args below meth c g A A 4 (MQ below (EI g ((pic_Reader g a_t (a_p1 0) (a_span 0) res.2.1) ++ (pic_Query g a_p1 res.2.2.1) ++ (pic_Span g a_span res.2.2.2)) res.1 A) args s 0 0 A) ((pic_Reader g a_t (a_p1 0) (a_span 0) t) ++ (pic_Query g a_p1 p1) ++ (pic_Span g a_span span)) [(2, .int x2)] 128 [] := by
  obtain ⟨hx, hb, hr, hml, hown, htb, hlocks, hA, hAA, hG⟩ := id hC
  have hK := hG.1
  intro t p1 span x2 res h H locs ls hP hD hS hl
  rw [Reader_fills_128] at h
  refine lv_iload_n hx hb d_Reader_fills_128 rfl (lv_at hl 0 rfl) ?_
  refine lv_iconst (v := -1) hx hb d_Reader_fills_129 (by decide) ?_
  refine lv_icmp_eq (tgt := 137) hx hb d_Reader_fills_130 (by decide) (fun c19 => ?_) (fun c19 => ?_)
  · replace h := (if_pos c19).symm.trans h
    refine lv_iconst (v := 0) hx hb d_Reader_fills_137 (by decide) ?_
    cases h
    exact W.zret hx hb hr rfl (fun t ht hW => ⟨⟨_, (), rfl, rfl, by rw [ht]; exact hP, hD⟩, hS.F ht⟩) hS.2.2 d_Reader_fills_138
  · replace h := (if_neg c19).symm.trans h
    refine lv_iconst (v := 1) hx hb d_Reader_fills_133 (by decide) ?_
    refine lv_goto (tgt := 138) hx hb d_Reader_fills_134 (by decide) ?_
    cases h
    exact W.zret hx hb hr rfl (fun t ht hW => ⟨⟨_, (), rfl, rfl, by rw [ht]; exact hP, hD⟩, hS.F ht⟩) hS.2.2 d_Reader_fills_138
set_option maxHeartbeats 4000000 in
set_option maxRecDepth 100000 in
theorem k_Reader_fills_115 {p : Program} {l : Launch} {e : Env} {s : State} {m : MethodId} {args : Array Value} {below : List Frame} {meth : Method} {c : Code} {g : Gz} {A : Nat → Prop} {F : Nat} {a_t a_p1 a_span : Nat → Nat} (hC : Cx prog_6_method_2_code 4 (some .boolean) R_Reader p s m args meth c g A A) : ∀ (t : StI) (p1 : StI) (span : StI) (res : Int32 × StI × StI × StI), Reader_fills_115 F t p1 span = some res → Go p l e rm_Reader_fills s m args below meth c g A A 4 (MQ below (EI g ((pic_Reader g a_t (a_p1 0) (a_span 0) res.2.1) ++ (pic_Query g a_p1 res.2.2.1) ++ (pic_Span g a_span res.2.2.2)) res.1 A) args s 0 0 A) ((pic_Reader g a_t (a_p1 0) (a_span 0) t) ++ (pic_Query g a_p1 p1) ++ (pic_Span g a_span span)) [(0, .ref (a_t 0))] 115 [] := by
  obtain ⟨hx, hb, hr, hml, hown, htb, hlocks, hA, hAA, hG⟩ := id hC
  have hK := hG.1
  intro t p1 span res h H locs ls hP hD hS hl
  rw [Reader_fills_115] at h
  refine lv_aload_n hx hb d_Reader_fills_115 rfl (lv_at hl 0 rfl) ?_
  refine lv_iconst (v := 1) hx hb d_Reader_fills_116 (by decide) ?_
  refine lv_aload_n hx hb d_Reader_fills_117 rfl (lv_at hl 0 rfl) ?_
  refine va_get (D := gD g) (ci := 3) (v := .ref (a_p1 0)) (C := R_Reader) (T := T_Reader) (N := 9) hx hb htb in_Reader hown hK hP 0 rfl rfl 0 (by decide) (htb _ L_Reader_42) (fun _ h9 => h9) rfl d_Reader_fills_118 ?_
  refine va_getN (D := gD g) (ci := 1) (v := .int (p1 1 0)) (C := R_Query) (T := T_Query) (N := 14) hx hb htb in_Query hown hK hP 4 rfl rfl 1 (by decide) (nf_of hG N_Reader_53) (fun _ h9 => h9) rfl d_Reader_fills_121 ?_
  obtain ⟨r20, hr20, h⟩ := Option.bind_eq_some_iff.mp h
  refine cl_I (wr := (pic_Query g a_p1 p1) ++ (pic_Span g a_span span)) [0, 1, 2, 3] [4, 5, 6, 7, 8, 9, 10, 11, 12, 13, 14, 15] rfl rfl rfl (by decide) hP hD hS hA (va_runV (As := [.int (1 : Int32), .int (p1 1 0)]) (rest := []) ⟨hx, hb, hml, hown, htb⟩ (c_Reader_fail l g F a_t (a_p1 0) (a_span 0) t (1 : Int32) (p1 1 0) _ hr20 H.size) (cw_V htb mb_Reader_fail (htb _ L_Reader_61) rfl rfl ⟨Nat.le_of_ble_eq_true rfl, Nat.le_of_ble_eq_true rfl⟩) (pre_V (va_recv hK hP (ci := 3) (q0 := 0) rfl rfl) (pre_S [0, 1, 2, 3] rfl rfl hP hD hS hA hAA hG)) rfl rfl hl.1 rfl (lv_room (Nat.le_of_ble_eq_true rfl)) d_Reader_fills_124 ⟨Nat.zero_le _, Nat.zero_le _⟩) (fun H locs hP hD hS => ?_)
  have hP : va_P (gD g) vwCl ((pic_Reader g a_t (a_p1 0) (a_span 0) r20.2) ++ (pic_Query g a_p1 p1) ++ (pic_Span g a_span span)) H := hP.sub [12, 13, 14, 15, 0, 1, 2, 3, 4, 5, 6, 7, 8, 9, 10, 11] rfl
  have hD : va_D A ((pic_Reader g a_t (a_p1 0) (a_span 0) r20.2) ++ (pic_Query g a_p1 p1) ++ (pic_Span g a_span span)) := hD.sub [12, 13, 14, 15, 0, 1, 2, 3, 4, 5, 6, 7, 8, 9, 10, 11] rfl rfl
  refine lv_istore_n (lv' := [(2, .int r20.1), (0, .ref (a_t 0))]) hx hb d_Reader_fills_127 rfl hl (by decide) rfl (fun ls hl => ?_)
  exact k_Reader_fills_128 hC _ _ _ _ _ h _ _ _ hP hD hS (lv_sub hl [0] rfl)
set_option maxHeartbeats 4000000 in
set_option maxRecDepth 100000 in
theorem k_Reader_fills_96 {p : Program} {l : Launch} {e : Env} {s : State} {m : MethodId} {args : Array Value} {below : List Frame} {meth : Method} {c : Code} {g : Gz} {A : Nat → Prop} {F : Nat} {a_t a_p1 a_span : Nat → Nat} (hC : Cx prog_6_method_2_code 4 (some .boolean) R_Reader p s m args meth c g A A) : ∀ (t : StI) (p1 : StI) (span : StI) (x2 : Int32) (res : Int32 × StI × StI × StI), Reader_fills_96 F t p1 span x2 = some res → Go p l e rm_Reader_fills s m args below meth c g A A 4 (MQ below (EI g ((pic_Reader g a_t (a_p1 0) (a_span 0) res.2.1) ++ (pic_Query g a_p1 res.2.2.1) ++ (pic_Span g a_span res.2.2.2)) res.1 A) args s 0 0 A) ((pic_Reader g a_t (a_p1 0) (a_span 0) t) ++ (pic_Query g a_p1 p1) ++ (pic_Span g a_span span)) [(0, .ref (a_t 0)), (2, .int x2)] 96 [] := by
  obtain ⟨hx, hb, hr, hml, hown, htb, hlocks, hA, hAA, hG⟩ := id hC
  have hK := hG.1
  intro t p1 span x2 res h H locs ls hP hD hS hl
  rw [Reader_fills_96] at h
  refine lv_iload_n hx hb d_Reader_fills_96 rfl (lv_at hl 1 rfl) ?_
  refine lv_iconst (v := -1) hx hb d_Reader_fills_97 (by decide) ?_
  refine lv_icmp_eq (tgt := 128) hx hb d_Reader_fills_98 (by decide) (fun c21 => ?_) (fun c21 => ?_)
  · replace h := (if_pos c21).symm.trans h
    exact k_Reader_fills_128 hC _ _ _ _ _ h _ _ _ hP hD hS (lv_sub hl [1] rfl)
  · replace h := (if_neg c21).symm.trans h
    refine lv_aload_n hx hb d_Reader_fills_101 rfl (lv_at hl 0 rfl) ?_
    refine va_get (D := gD g) (ci := 3) (v := .int (t 4 0)) (C := R_Reader) (T := T_Reader) (N := 9) hx hb htb in_Reader hown hK hP 0 rfl rfl 4 (by decide) (htb _ L_Reader_25) (fun _ h9 => h9) rfl d_Reader_fills_102 ?_
    refine lv_if_ne (tgt := 115) hx hb d_Reader_fills_105 (by decide) (fun c22 => ?_) (fun c22 => ?_)
    · replace h := (if_neg c22).symm.trans h
      exact k_Reader_fills_115 hC _ _ _ _ h _ _ _ hP hD hS (lv_sub hl [0] rfl)
    · replace h := (if_pos c22).symm.trans h
      refine lv_aload_n hx hb d_Reader_fills_108 rfl (lv_at hl 0 rfl) ?_
      refine va_get (D := gD g) (ci := 3) (v := .int (t 5 0)) (C := R_Reader) (T := T_Reader) (N := 9) hx hb htb in_Reader hown hK hP 0 rfl rfl 5 (by decide) (htb _ L_Reader_29) (fun _ h9 => h9) rfl d_Reader_fills_109 ?_
      refine lv_if_le (tgt := 128) hx hb d_Reader_fills_112 (by decide) (fun c23 => ?_) (fun c23 => ?_)
      · replace h := (if_pos c23).symm.trans h
        exact k_Reader_fills_128 hC _ _ _ _ _ h _ _ _ hP hD hS (lv_sub hl [1] rfl)
      · replace h := (if_neg c23).symm.trans h
        exact k_Reader_fills_115 hC _ _ _ _ h _ _ _ hP hD hS (lv_sub hl [0] rfl)
set_option maxHeartbeats 4000000 in
set_option maxRecDepth 100000 in
theorem k_Reader_fills_90 {p : Program} {l : Launch} {e : Env} {s : State} {m : MethodId} {args : Array Value} {below : List Frame} {meth : Method} {c : Code} {g : Gz} {A : Nat → Prop} {F : Nat} {a_t a_p1 a_span : Nat → Nat} {k50 : StI → StI → StI → Int32 → Int32 → Option (Int32 × StI × StI × StI)} (hC : Cx prog_6_method_2_code 4 (some .boolean) R_Reader p s m args meth c g A A) : ∀ (t : StI) (p1 : StI) (span : StI) (x2 : Int32) (x3 : Int32) (res : Int32 × StI × StI × StI), Reader_fills_90 F k50 t p1 span x2 x3 = some res → (∀ (t : StI) (p1 : StI) (span : StI) (x2 : Int32) (x3 : Int32), k50 t p1 span x2 x3 = some res → Go p l e rm_Reader_fills s m args below meth c g A A 4 (MQ below (EI g ((pic_Reader g a_t (a_p1 0) (a_span 0) res.2.1) ++ (pic_Query g a_p1 res.2.2.1) ++ (pic_Span g a_span res.2.2.2)) res.1 A) args s 0 0 A) ((pic_Reader g a_t (a_p1 0) (a_span 0) t) ++ (pic_Query g a_p1 p1) ++ (pic_Span g a_span span)) [(0, .ref (a_t 0)), (2, .int x2), (3, .int x3)] 50 []) → Go p l e rm_Reader_fills s m args below meth c g A A 4 (MQ below (EI g ((pic_Reader g a_t (a_p1 0) (a_span 0) res.2.1) ++ (pic_Query g a_p1 res.2.2.1) ++ (pic_Span g a_span res.2.2.2)) res.1 A) args s 0 0 A) ((pic_Reader g a_t (a_p1 0) (a_span 0) t) ++ (pic_Query g a_p1 p1) ++ (pic_Span g a_span span)) [(0, .ref (a_t 0)), (2, .int x2), (3, .int x3)] 90 [] := by
  obtain ⟨hx, hb, hr, hml, hown, htb, hlocks, hA, hAA, hG⟩ := id hC
  have hK := hG.1
  intro t p1 span x2 x3 res h hk50 H locs ls hP hD hS hl
  rw [Reader_fills_90] at h
  refine lv_iinc (v := (x3 + (1 : Int32))) (lv' := [(3, .int (x3 + (1 : Int32))), (0, .ref (a_t 0)), (2, .int x2)]) hx hb d_Reader_fills_90 hl (k := 2) rfl rfl (by decide) rfl (fun ls hl => ?_)
  refine lv_goto (tgt := 50) hx hb d_Reader_fills_93 (by decide) ?_
  exact hk50 _ _ _ _ _ h _ _ _ hP hD hS (lv_sub hl [1, 2, 0] rfl)
set_option maxHeartbeats 4000000 in
set_option maxRecDepth 100000 in
theorem k_Reader_fills_50 {p : Program} {l : Launch} {e : Env} {s : State} {m : MethodId} {args : Array Value} {below : List Frame} {meth : Method} {c : Code} {g : Gz} {A : Nat → Prop} {F : Nat} {a_t a_p1 a_span : Nat → Nat} (hC : Cx prog_6_method_2_code 4 (some .boolean) R_Reader p s m args meth c g A A) : ∀ (n : Nat) (t : StI) (p1 : StI) (span : StI) (x2 : Int32) (x3 : Int32) (res : Int32 × StI × StI × StI), Reader_fills_50 F n t p1 span x2 x3 = some res → Go p l e rm_Reader_fills s m args below meth c g A A 4 (MQ below (EI g ((pic_Reader g a_t (a_p1 0) (a_span 0) res.2.1) ++ (pic_Query g a_p1 res.2.2.1) ++ (pic_Span g a_span res.2.2.2)) res.1 A) args s 0 0 A) ((pic_Reader g a_t (a_p1 0) (a_span 0) t) ++ (pic_Query g a_p1 p1) ++ (pic_Span g a_span span)) [(0, .ref (a_t 0)), (2, .int x2), (3, .int x3)] 50 [] := by
  obtain ⟨hx, hb, hr, hml, hown, htb, hlocks, hA, hAA, hG⟩ := id hC
  have hK := hG.1
  intro n
  induction n with
  | zero => intro t p1 span x2 x3 res h; rw [Reader_fills_50] at h; cases h
  | succ n ih =>
    intro t p1 span x2 x3 res h H locs ls hP hD hS hl
    rw [Reader_fills_50] at h
    refine lv_iload_n hx hb d_Reader_fills_50 rfl (lv_at hl 2 rfl) ?_
    refine lv_sipush (v := 600) hx hb d_Reader_fills_51 (by decide) ?_
    refine lv_icmp_ge (tgt := 96) hx hb d_Reader_fills_54 (by decide) (fun c24 => ?_) (fun c24 => ?_)
    · replace h := (if_pos c24).symm.trans h
      exact k_Reader_fills_96 hC _ _ _ _ _ h _ _ _ hP hD hS (lv_sub hl [0, 1] rfl)
    · replace h := (if_neg c24).symm.trans h
      refine lv_iload_n hx hb d_Reader_fills_57 rfl (lv_at hl 1 rfl) ?_
      refine lv_iconst (v := -1) hx hb d_Reader_fills_58 (by decide) ?_
      refine lv_icmp_eq (tgt := 96) hx hb d_Reader_fills_59 (by decide) (fun c25 => ?_) (fun c25 => ?_)
      · replace h := (if_pos c25).symm.trans h
        exact k_Reader_fills_96 hC _ _ _ _ _ h _ _ _ hP hD hS (lv_sub hl [0, 1] rfl)
      · replace h := (if_neg c25).symm.trans h
        refine lv_iload_n hx hb d_Reader_fills_62 rfl (lv_at hl 1 rfl) ?_
        refine lv_aload_n hx hb d_Reader_fills_63 rfl (lv_at hl 0 rfl) ?_
        refine va_get (D := gD g) (ci := 3) (v := .ref (a_p1 0)) (C := R_Reader) (T := T_Reader) (N := 9) hx hb htb in_Reader hown hK hP 0 rfl rfl 0 (by decide) (htb _ L_Reader_42) (fun _ h9 => h9) rfl d_Reader_fills_64 ?_
        refine va_getN (D := gD g) (ci := 1) (v := .int (p1 1 0)) (C := R_Query) (T := T_Query) (N := 14) hx hb htb in_Query hown hK hP 4 rfl rfl 1 (by decide) (nf_of hG N_Reader_53) (fun _ h9 => h9) rfl d_Reader_fills_67 ?_
        refine lv_icmp_ge (tgt := 96) hx hb d_Reader_fills_70 (by decide) (fun c26 => ?_) (fun c26 => ?_)
        · replace h := (if_pos c26).symm.trans h
          exact k_Reader_fills_96 hC _ _ _ _ _ h _ _ _ hP hD hS (lv_sub hl [0, 1] rfl)
        · replace h := (if_neg c26).symm.trans h
          refine lv_aload_n hx hb d_Reader_fills_73 rfl (lv_at hl 0 rfl) ?_
          refine lv_iload_n hx hb d_Reader_fills_74 rfl (lv_at hl 1 rfl) ?_
          obtain ⟨r27, hr27, h⟩ := Option.bind_eq_some_iff.mp h
          refine cl_I (wr := []) [0, 1, 2, 3, 4, 5, 6, 7, 8, 9, 10, 11, 12, 13, 14, 15] [] rfl rfl rfl (by decide) hP hD hS hA (va_runV (As := [.int x2]) (rest := []) ⟨hx, hb, hml, hown, htb⟩ (c_Reader_takeWord l g F a_t a_p1 a_span t p1 span x2 _ hr27 H.size) (cw_V htb mb_Reader_takeWord (htb _ L_Reader_58) rfl rfl ⟨Nat.le_of_ble_eq_true rfl, Nat.le_of_ble_eq_true rfl⟩) (pre_V (va_recv hK hP (ci := 3) (q0 := 0) rfl rfl) (pre_S [0, 1, 2, 3, 4, 5, 6, 7, 8, 9, 10, 11, 12, 13, 14, 15] rfl rfl hP hD hS hA hAA hG)) rfl rfl hl.1 rfl (lv_room (Nat.le_of_ble_eq_true rfl)) d_Reader_fills_75 ⟨Nat.zero_le _, Nat.zero_le _⟩) (fun H locs hP hD hS => ?_)
          have hP : va_P (gD g) vwCl ((pic_Reader g a_t (a_p1 0) (a_span 0) r27.2.1) ++ (pic_Query g a_p1 r27.2.2.1) ++ (pic_Span g a_span r27.2.2.2)) H := hP.sub [0, 1, 2, 3, 4, 5, 6, 7, 8, 9, 10, 11, 12, 13, 14, 15] rfl
          have hD : va_D A ((pic_Reader g a_t (a_p1 0) (a_span 0) r27.2.1) ++ (pic_Query g a_p1 r27.2.2.1) ++ (pic_Span g a_span r27.2.2.2)) := hD.sub [0, 1, 2, 3, 4, 5, 6, 7, 8, 9, 10, 11, 12, 13, 14, 15] rfl rfl
          refine lv_istore_n (lv' := [(2, .int r27.1), (0, .ref (a_t 0)), (3, .int x3)]) hx hb d_Reader_fills_78 rfl hl (by decide) rfl (fun ls hl => ?_)
          refine lv_iload_n hx hb d_Reader_fills_79 rfl (lv_at hl 0 rfl) ?_
          refine lv_iconst (v := -1) hx hb d_Reader_fills_80 (by decide) ?_
          refine lv_icmp_eq (tgt := 90) hx hb d_Reader_fills_81 (by decide) (fun c28 => ?_) (fun c28 => ?_)
          · replace h := (if_pos c28).symm.trans h
            exact k_Reader_fills_90 hC _ _ _ _ _ _ h (fun z0 z1 z2 z3 z4 hz => ih z0 z1 z2 z3 z4 _ hz) _ _ _ hP hD hS (lv_sub hl [1, 0, 2] rfl)
          · replace h := (if_neg c28).symm.trans h
            refine lv_aload_n hx hb d_Reader_fills_84 rfl (lv_at hl 1 rfl) ?_
            refine lv_iload_n hx hb d_Reader_fills_85 rfl (lv_at hl 0 rfl) ?_
            obtain ⟨r29, hr29, h⟩ := Option.bind_eq_some_iff.mp h
            refine cl_Ir hP hS hA (va_runV (As := [.int r27.1]) (rest := []) ⟨hx, hb, hml, hown, htb⟩ (c_Reader_pastSpaces l g F a_t a_p1 (a_span 0) r27.2.1 r27.2.2.1 r27.1 _ hr29 H.size) (cw_V htb mb_Reader_pastSpaces (htb _ L_Reader_49) rfl rfl ⟨Nat.le_of_ble_eq_true rfl, Nat.le_of_ble_eq_true rfl⟩) (pre_V (va_recv hK hP (ci := 3) (q0 := 0) rfl rfl) (pre_S [0, 1, 2, 3, 4, 5, 6, 7, 8, 9, 10, 11, 12, 13, 14] rfl rfl hP hD hS hA hAA hG)) rfl rfl hl.1 rfl (lv_room (Nat.le_of_ble_eq_true rfl)) d_Reader_fills_86 ⟨Nat.zero_le _, Nat.zero_le _⟩) (fun H locs hP hS => ?_)
            refine lv_istore_n (lv' := [(2, .int r29), (0, .ref (a_t 0)), (3, .int x3)]) hx hb d_Reader_fills_89 rfl hl (by decide) rfl (fun ls hl => ?_)
            exact k_Reader_fills_90 hC _ _ _ _ _ _ h (fun z0 z1 z2 z3 z4 hz => ih z0 z1 z2 z3 z4 _ hz) _ _ _ hP hD hS (lv_sub hl [1, 0, 2] rfl)
set_option maxHeartbeats 4000000 in
set_option maxRecDepth 100000 in
theorem k_Reader_fills {p : Program} {l : Launch} {e : Env} {s : State} {m : MethodId} {args : Array Value} {below : List Frame} {meth : Method} {c : Code} {g : Gz} {A : Nat → Prop} {F : Nat} {a_t a_p1 a_span : Nat → Nat} {rq : Nat} (hC : Cx prog_6_method_2_code 4 (some .boolean) R_Reader p s m args meth c g A A) : ∀ (t : StI) (p1 : StI) (span : StI) (res : Int32 × StI × StI × StI), Reader_fills F t p1 span = some res → Go p l e rm_Reader_fills s m args below meth c g A A 4 (MQ below (EI g ((pic_Reader g a_t (a_p1 0) (a_span 0) res.2.1) ++ (pic_Query g a_p1 res.2.2.1) ++ (pic_Span g a_span res.2.2.2)) res.1 A) args s 0 0 A) ((pic_Reader g a_t rq (a_span 0) t) ++ (pic_Query g a_p1 p1) ++ (pic_Span g a_span span)) [(0, .ref (a_t 0)), (1, .ref (a_p1 0))] 0 [] := by
  obtain ⟨hx, hb, hr, hml, hown, htb, hlocks, hA, hAA, hG⟩ := id hC
  have hK := hG.1
  intro t p1 span res h H locs ls hP hD hS hl
  rw [Reader_fills] at h
  refine lv_aload_n hx hb d_Reader_fills_0 rfl (lv_at hl 0 rfl) ?_
  refine lv_aload_n hx hb d_Reader_fills_1 rfl (lv_at hl 1 rfl) ?_
  refine va_put (D := gD g) (ci := 3) (v := .ref (a_p1 0)) (ty := .object "MailQueries$Query") (C := R_Reader) (T := T_Reader) (N := 9) hx hb htb in_Reader ty_Reader ty_Reader_ok nm_Reader hown hK hP hD hS 0 rfl rfl 0 (by decide) (htb _ L_Reader_42) (fun _ h9 => h9) rfl (by decide +kernel) rfl rfl (Nat.le_of_ble_eq_true rfl) d_Reader_fills_2 (fun H locs hP hD hS => ?_)
  have hP : va_P (gD g) vwCl ((pic_Reader g a_t (a_p1 0) (a_span 0) t) ++ (pic_Query g a_p1 p1) ++ (pic_Span g a_span span)) H := hP
  have hD : va_D A ((pic_Reader g a_t (a_p1 0) (a_span 0) t) ++ (pic_Query g a_p1 p1) ++ (pic_Span g a_span span)) := hD
  refine lv_aload_n hx hb d_Reader_fills_5 rfl (lv_at hl 0 rfl) ?_
  refine lv_iconst (v := 0) hx hb d_Reader_fills_6 (by decide) ?_
  refine va_put (D := gD g) (ci := 3) (v := .int (0 : Int32)) (ty := .int) (C := R_Reader) (T := T_Reader) (N := 9) hx hb htb in_Reader ty_Reader ty_Reader_ok nm_Reader hown hK hP hD hS 0 rfl rfl 2 (by decide) (htb _ L_Reader_18) (fun _ h9 => h9) rfl (by decide +kernel) rfl rfl (Nat.le_of_ble_eq_true rfl) d_Reader_fills_7 (fun H locs hP hD hS => ?_)
  obtain ⟨t_30, et_30, h⟩ := letS_el h
  have hP : va_P (gD g) vwCl ((pic_Reader g a_t (a_p1 0) (a_span 0) t_30) ++ (pic_Query g a_p1 p1) ++ (pic_Span g a_span span)) H := by rw [et_30]; exact hP
  have hD : va_D A ((pic_Reader g a_t (a_p1 0) (a_span 0) t_30) ++ (pic_Query g a_p1 p1) ++ (pic_Span g a_span span)) := by rw [et_30]; exact hD
  refine lv_aload_n hx hb d_Reader_fills_10 rfl (lv_at hl 0 rfl) ?_
  refine lv_iconst (v := -1) hx hb d_Reader_fills_11 (by decide) ?_
  refine va_put (D := gD g) (ci := 3) (v := .int (-1 : Int32)) (ty := .int) (C := R_Reader) (T := T_Reader) (N := 9) hx hb htb in_Reader ty_Reader ty_Reader_ok nm_Reader hown hK hP hD hS 0 rfl rfl 3 (by decide) (htb _ L_Reader_22) (fun _ h9 => h9) rfl (by decide +kernel) rfl rfl (Nat.le_of_ble_eq_true rfl) d_Reader_fills_12 (fun H locs hP hD hS => ?_)
  obtain ⟨t_31, et_31, h⟩ := letS_el h
  have hP : va_P (gD g) vwCl ((pic_Reader g a_t (a_p1 0) (a_span 0) t_31) ++ (pic_Query g a_p1 p1) ++ (pic_Span g a_span span)) H := by rw [et_31]; exact hP
  have hD : va_D A ((pic_Reader g a_t (a_p1 0) (a_span 0) t_31) ++ (pic_Query g a_p1 p1) ++ (pic_Span g a_span span)) := by rw [et_31]; exact hD
  refine lv_aload_n hx hb d_Reader_fills_15 rfl (lv_at hl 0 rfl) ?_
  refine lv_iconst (v := 1) hx hb d_Reader_fills_16 (by decide) ?_
  refine va_put (D := gD g) (ci := 3) (v := .int (1 : Int32)) (ty := .boolean) (C := R_Reader) (T := T_Reader) (N := 9) hx hb htb in_Reader ty_Reader ty_Reader_ok nm_Reader hown hK hP hD hS 0 rfl rfl 4 (by decide) (htb _ L_Reader_25) (fun _ h9 => h9) rfl (by decide +kernel) rfl rfl (Nat.le_of_ble_eq_true rfl) d_Reader_fills_17 (fun H locs hP hD hS => ?_)
  obtain ⟨t_32, et_32, h⟩ := letS_el h
  have hP : va_P (gD g) vwCl ((pic_Reader g a_t (a_p1 0) (a_span 0) t_32) ++ (pic_Query g a_p1 p1) ++ (pic_Span g a_span span)) H := by rw [et_32]; exact hP
  have hD : va_D A ((pic_Reader g a_t (a_p1 0) (a_span 0) t_32) ++ (pic_Query g a_p1 p1) ++ (pic_Span g a_span span)) := by rw [et_32]; exact hD
  refine lv_aload_n hx hb d_Reader_fills_20 rfl (lv_at hl 0 rfl) ?_
  refine lv_iconst (v := 0) hx hb d_Reader_fills_21 (by decide) ?_
  refine va_put (D := gD g) (ci := 3) (v := .int (0 : Int32)) (ty := .int) (C := R_Reader) (T := T_Reader) (N := 9) hx hb htb in_Reader ty_Reader ty_Reader_ok nm_Reader hown hK hP hD hS 0 rfl rfl 5 (by decide) (htb _ L_Reader_29) (fun _ h9 => h9) rfl (by decide +kernel) rfl rfl (Nat.le_of_ble_eq_true rfl) d_Reader_fills_22 (fun H locs hP hD hS => ?_)
  obtain ⟨t_33, et_33, h⟩ := letS_el h
  have hP : va_P (gD g) vwCl ((pic_Reader g a_t (a_p1 0) (a_span 0) t_33) ++ (pic_Query g a_p1 p1) ++ (pic_Span g a_span span)) H := by rw [et_33]; exact hP
  have hD : va_D A ((pic_Reader g a_t (a_p1 0) (a_span 0) t_33) ++ (pic_Query g a_p1 p1) ++ (pic_Span g a_span span)) := by rw [et_33]; exact hD
  refine lv_aload_n hx hb d_Reader_fills_25 rfl (lv_at hl 0 rfl) ?_
  obtain ⟨r34, hr34, h⟩ := Option.bind_eq_some_iff.mp h
  refine cl_V (wr := (pic_Span g a_span span)) [0, 1, 2, 3, 4, 5, 6, 7, 8, 9, 10, 11, 12, 13, 14] [15] rfl rfl rfl (by decide) hP hD hS hA (va_runV (As := []) (rest := []) ⟨hx, hb, hml, hown, htb⟩ (c_Reader_beginAny l g F a_t a_p1 (a_span 0) t_33 p1 _ hr34 H.size) (cw_V htb mb_Reader_beginAny (htb _ L_Reader_46) rfl rfl ⟨Nat.le_of_ble_eq_true rfl, Nat.le_of_ble_eq_true rfl⟩) (pre_V (va_recv hK hP (ci := 3) (q0 := 0) rfl rfl) (pre_S [0, 1, 2, 3, 4, 5, 6, 7, 8, 9, 10, 11, 12, 13, 14] rfl rfl hP hD hS hA hAA hG)) rfl rfl hl.1 rfl (lv_room (Nat.le_of_ble_eq_true rfl)) d_Reader_fills_26 ⟨Nat.zero_le _, Nat.zero_le _⟩) (fun H locs hP hD hS => ?_)
  have hP : va_P (gD g) vwCl ((pic_Reader g a_t (a_p1 0) (a_span 0) r34) ++ (pic_Query g a_p1 p1) ++ (pic_Span g a_span span)) H := hP.sub [1, 2, 3, 4, 5, 6, 7, 8, 9, 10, 11, 12, 13, 14, 15, 0] rfl
  have hD : va_D A ((pic_Reader g a_t (a_p1 0) (a_span 0) r34) ++ (pic_Query g a_p1 p1) ++ (pic_Span g a_span span)) := hD.sub [1, 2, 3, 4, 5, 6, 7, 8, 9, 10, 11, 12, 13, 14, 15, 0] rfl rfl
  refine lv_aload_n hx hb d_Reader_fills_29 rfl (lv_at hl 0 rfl) ?_
  refine lv_iconst (v := 0) hx hb d_Reader_fills_30 (by decide) ?_
  obtain ⟨r35, hr35, h⟩ := Option.bind_eq_some_iff.mp h
  refine cl_Ir hP hS hA (va_runV (As := [.int (0 : Int32)]) (rest := []) ⟨hx, hb, hml, hown, htb⟩ (c_Reader_pastSpaces l g F a_t a_p1 (a_span 0) r34 p1 (0 : Int32) _ hr35 H.size) (cw_V htb mb_Reader_pastSpaces (htb _ L_Reader_49) rfl rfl ⟨Nat.le_of_ble_eq_true rfl, Nat.le_of_ble_eq_true rfl⟩) (pre_V (va_recv hK hP (ci := 3) (q0 := 0) rfl rfl) (pre_S [0, 1, 2, 3, 4, 5, 6, 7, 8, 9, 10, 11, 12, 13, 14] rfl rfl hP hD hS hA hAA hG)) rfl rfl hl.1 rfl (lv_room (Nat.le_of_ble_eq_true rfl)) d_Reader_fills_31 ⟨Nat.zero_le _, Nat.zero_le _⟩) (fun H locs hP hS => ?_)
  refine lv_istore_n (lv' := [(2, .int r35), (0, .ref (a_t 0)), (1, .ref (a_p1 0))]) hx hb d_Reader_fills_34 rfl hl (by decide) rfl (fun ls hl => ?_)
  refine lv_iload_n hx hb d_Reader_fills_35 rfl (lv_at hl 0 rfl) ?_
  refine lv_aload_n hx hb d_Reader_fills_36 rfl (lv_at hl 1 rfl) ?_
  refine va_get (D := gD g) (ci := 3) (v := .ref (a_p1 0)) (C := R_Reader) (T := T_Reader) (N := 9) hx hb htb in_Reader hown hK hP 0 rfl rfl 0 (by decide) (htb _ L_Reader_42) (fun _ h9 => h9) rfl d_Reader_fills_37 ?_
  refine va_getN (D := gD g) (ci := 1) (v := .int (p1 1 0)) (C := R_Query) (T := T_Query) (N := 14) hx hb htb in_Query hown hK hP 4 rfl rfl 1 (by decide) (nf_of hG N_Reader_53) (fun _ h9 => h9) rfl d_Reader_fills_40 ?_
  refine lv_icmp_lt (tgt := 48) hx hb d_Reader_fills_43 (by decide) (fun c36 => ?_) (fun c36 => ?_)
  · replace h := (if_pos c36).symm.trans h
    refine lv_iconst (v := 0) hx hb d_Reader_fills_48 (by decide) ?_
    refine lv_istore_n (lv' := [(3, .int (0 : Int32)), (2, .int r35), (0, .ref (a_t 0)), (1, .ref (a_p1 0))]) hx hb d_Reader_fills_49 rfl hl (by decide) rfl (fun ls hl => ?_)
    exact k_Reader_fills_50 hC F _ _ _ _ _ _ h _ _ _ hP hD hS (lv_sub hl [2, 1, 0] rfl)
  · replace h := (if_neg c36).symm.trans h
    refine lv_iconst (v := 1) hx hb d_Reader_fills_46 (by decide) ?_
    cases h
    exact W.zret hx hb hr rfl (fun t ht hW => ⟨⟨_, (), rfl, rfl, by rw [ht]; exact hP, hD⟩, hS.F ht⟩) hS.2.2 d_Reader_fills_47
theorem c_Reader_fills (l : Launch) (g : Gz) (F : Nat) (a_t : Nat → Nat) (a_p1 : Nat → Nat) (a_span : Nat → Nat) (rq : Nat) (t : StI) (p1 : StI) (span : StI) (res : Int32 × StI × StI × StI) (h : Reader_fills F t p1 span = some res) : ∀ sz : Nat, Met l y_Reader_fills (.code y_Reader_fills prog_6_method_2_code 4 (some .boolean) :: TBL) rm_Reader_fills (va_Pc [.ref (a_t 0), .ref (a_p1 0)] (Pre0 g ((pic_Reader g a_t rq (a_span 0) t) ++ (pic_Query g a_p1 p1) ++ (pic_Span g a_span span)) sz)) (EI g ((pic_Reader g a_t (a_p1 0) (a_span 0) res.2.1) ++ (pic_Query g a_p1 res.2.2.1) ++ (pic_Span g a_span res.2.2.2)) res.1 (va_A ((pic_Reader g a_t rq (a_span 0) t) ++ (pic_Query g a_p1 p1) ++ (pic_Span g a_span span)) sz)) 0 0 (va_A ((pic_Reader g a_t rq (a_span 0) t) ++ (pic_Query g a_p1 p1) ++ (pic_Span g a_span span)) sz) :=
  ct_w (Qc := fun A => EI g ((pic_Reader g a_t (a_p1 0) (a_span 0) res.2.1) ++ (pic_Query g a_p1 res.2.2.1) ++ (pic_Span g a_span res.2.2.2)) res.1 A) (by decide) (Nat.le_of_ble_eq_true rfl) (fun p e s m args below meth c A hC => k_Reader_fills hC t p1 span res h)
