theorem L_Reader_105 : (Jvm.Cond.methodLink "MailQueries$Reader" (105 : Nat) ({ cls := "MailQueries$Query", name := "append", desc := "(I)V" } : Jvm.MethodName)) ∈ TBL := TBL_in (List.mem_of_getElem? (i := 878) (by decide +kernel)) (by decide +kernel)
set_option maxRecDepth 100000 in
theorem W_Reader_takeSign_code : (Jvm.Cond.code ({ cls := "MailQueries$Reader", name := "takeSign", desc := "(III)I" } : Jvm.MethodName) prog_6_method_8_code (4 : Nat) (Option.some Jvm.ClassFile.FieldType.int)) ∈ TBL := TBL_in (List.mem_of_getElem? (i := 877) rfl) rfl
theorem W_Reader_takeSign_in : (Jvm.Cond.instanceMethod ({ cls := "MailQueries$Reader", name := "takeSign", desc := "(III)I" } : Jvm.MethodName)) ∈ TBL := TBL_in (List.mem_of_getElem? (i := 876) (by decide +kernel)) (by decide +kernel)
theorem sel_46 : Cond.selects "MailQueries$Reader" ⟨"MailQueries$Reader", "takeSign", "(III)I"⟩ ⟨"MailQueries$Reader", "takeSign", "(III)I"⟩ ∈ TBL := TBL_in (List.mem_of_getElem? (i := 46) (by decide +kernel)) (by decide +kernel)
set_option maxRecDepth 100000 in
theorem W_Reader_takeClosing_code : (Jvm.Cond.code ({ cls := "MailQueries$Reader", name := "takeClosing", desc := "(I)I" } : Jvm.MethodName) prog_6_method_7_code (2 : Nat) (Option.some Jvm.ClassFile.FieldType.int)) ∈ TBL := TBL_in (List.mem_of_getElem? (i := 742) rfl) rfl
theorem W_Reader_takeClosing_in : (Jvm.Cond.instanceMethod ({ cls := "MailQueries$Reader", name := "takeClosing", desc := "(I)I" } : Jvm.MethodName)) ∈ TBL := TBL_in (List.mem_of_getElem? (i := 741) (by decide +kernel)) (by decide +kernel)
theorem sel_32 : Cond.selects "MailQueries$Reader" ⟨"MailQueries$Reader", "takeClosing", "(I)I"⟩ ⟨"MailQueries$Reader", "takeClosing", "(I)I"⟩ ∈ TBL := TBL_in (List.mem_of_getElem? (i := 32) (by decide +kernel)) (by decide +kernel)
theorem L_Reader_53 : (Jvm.Cond.methodLink "MailQueries$Reader" (53 : Nat) ({ cls := "MailQueries$Reader", name := "beginAny", desc := "()V" } : Jvm.MethodName)) ∈ TBL := TBL_in (List.mem_of_getElem? (i := 695) (by decide +kernel)) (by decide +kernel)
set_option maxRecDepth 100000 in
theorem W_Reader_takeOpening_code : (Jvm.Cond.code ({ cls := "MailQueries$Reader", name := "takeOpening", desc := "(I)I" } : Jvm.MethodName) prog_6_method_6_code (2 : Nat) (Option.some Jvm.ClassFile.FieldType.int)) ∈ TBL := TBL_in (List.mem_of_getElem? (i := 722) rfl) rfl
theorem W_Reader_takeOpening_in : (Jvm.Cond.instanceMethod ({ cls := "MailQueries$Reader", name := "takeOpening", desc := "(I)I" } : Jvm.MethodName)) ∈ TBL := TBL_in (List.mem_of_getElem? (i := 721) (by decide +kernel)) (by decide +kernel)
theorem sel_28 : Cond.selects "MailQueries$Reader" ⟨"MailQueries$Reader", "takeOpening", "(I)I"⟩ ⟨"MailQueries$Reader", "takeOpening", "(I)I"⟩ ∈ TBL := TBL_in (List.mem_of_getElem? (i := 28) (by decide +kernel)) (by decide +kernel)
theorem L_Reader_96 : (Jvm.Cond.methodLink "MailQueries$Reader" (96 : Nat) ({ cls := "MailQueries$Reader", name := "signOf", desc := "(II)I" } : Jvm.MethodName)) ∈ TBL := TBL_in (List.mem_of_getElem? (i := 866) (by decide +kernel)) (by decide +kernel)
theorem L_Reader_99 : (Jvm.Cond.methodLink "MailQueries$Reader" (99 : Nat) ({ cls := "MailQueries$Reader", name := "takeSign", desc := "(III)I" } : Jvm.MethodName)) ∈ TBL := TBL_in (List.mem_of_getElem? (i := 874) (by decide +kernel)) (by decide +kernel)
theorem L_Reader_89 : (Jvm.Cond.methodLink "MailQueries$Reader" (89 : Nat) ({ cls := "MailQueries$Reader", name := "takeAtom", desc := "(III)I" } : Jvm.MethodName)) ∈ TBL := TBL_in (List.mem_of_getElem? (i := 765) (by decide +kernel)) (by decide +kernel)
theorem L_Reader_83 : (Jvm.Cond.methodLink "MailQueries$Reader" (83 : Nat) ({ cls := "MailQueries$Reader", name := "pastLetters", desc := "(I)I" } : Jvm.MethodName)) ∈ TBL := TBL_in (List.mem_of_getElem? (i := 746) (by decide +kernel)) (by decide +kernel)
theorem L_Reader_86 : (Jvm.Cond.methodLink "MailQueries$Reader" (86 : Nat) ({ cls := "MailQueries$Reader", name := "fieldOf", desc := "(II)I" } : Jvm.MethodName)) ∈ TBL := TBL_in (List.mem_of_getElem? (i := 753) (by decide +kernel)) (by decide +kernel)
theorem L_Reader_76 : (Jvm.Cond.methodLink "MailQueries$Reader" (76 : Nat) ({ cls := "MailQueries$Reader", name := "takeClosing", desc := "(I)I" } : Jvm.MethodName)) ∈ TBL := TBL_in (List.mem_of_getElem? (i := 739) (by decide +kernel)) (by decide +kernel)
theorem L_Reader_73 : (Jvm.Cond.methodLink "MailQueries$Reader" (73 : Nat) ({ cls := "MailQueries$Reader", name := "takeOpening", desc := "(I)I" } : Jvm.MethodName)) ∈ TBL := TBL_in (List.mem_of_getElem? (i := 719) (by decide +kernel)) (by decide +kernel)
set_option maxRecDepth 100000 in
theorem W_Reader_takeWord_code : (Jvm.Cond.code ({ cls := "MailQueries$Reader", name := "takeWord", desc := "(I)I" } : Jvm.MethodName) prog_6_method_5_code (6 : Nat) (Option.some Jvm.ClassFile.FieldType.int)) ∈ TBL := TBL_in (List.mem_of_getElem? (i := 718) rfl) rfl
theorem W_Reader_takeWord_in : (Jvm.Cond.instanceMethod ({ cls := "MailQueries$Reader", name := "takeWord", desc := "(I)I" } : Jvm.MethodName)) ∈ TBL := TBL_in (List.mem_of_getElem? (i := 717) (by decide +kernel)) (by decide +kernel)
theorem sel_27 : Cond.selects "MailQueries$Reader" ⟨"MailQueries$Reader", "takeWord", "(I)I"⟩ ⟨"MailQueries$Reader", "takeWord", "(I)I"⟩ ∈ TBL := TBL_in (List.mem_of_getElem? (i := 27) (by decide +kernel)) (by decide +kernel)
theorem L_Reader_63 : (Jvm.Cond.methodLink "MailQueries$Reader" (63 : Nat) ({ cls := "MailQueries$Reader", name := "takeWord", desc := "(I)I" } : Jvm.MethodName)) ∈ TBL := TBL_in (List.mem_of_getElem? (i := 715) (by decide +kernel)) (by decide +kernel)
theorem L_Reader_56 : (Jvm.Cond.methodLink "MailQueries$Reader" (56 : Nat) ({ cls := "MailQueries$Reader", name := "pastSpaces", desc := "(I)I" } : Jvm.MethodName)) ∈ TBL := TBL_in (List.mem_of_getElem? (i := 707) (by decide +kernel)) (by decide +kernel)
theorem L_Reader_49 : (Jvm.Cond.methodLink "MailQueries$Reader" (49 : Nat) ({ cls := "MailQueries$Query", name := "begin", desc := "([CI)V" } : Jvm.MethodName)) ∈ TBL := TBL_in (List.mem_of_getElem? (i := 688) (by decide +kernel)) (by decide +kernel)
set_option maxRecDepth 100000 in
theorem W_Reader_takesIn_code : (Jvm.Cond.code ({ cls := "MailQueries$Reader", name := "takesIn", desc := "([CI)Z" } : Jvm.MethodName) prog_6_method_3_code (5 : Nat) (Option.some Jvm.ClassFile.FieldType.boolean)) ∈ TBL := TBL_in (List.mem_of_getElem? (i := 687) rfl) rfl
theorem W_Reader_takesIn_in : (Jvm.Cond.instanceMethod ({ cls := "MailQueries$Reader", name := "takesIn", desc := "([CI)Z" } : Jvm.MethodName)) ∈ TBL := TBL_in (List.mem_of_getElem? (i := 685) (by decide +kernel)) (by decide +kernel)
theorem W_Reader_takesIn_se : (Jvm.Cond.selects "MailQueries$Reader" ({ cls := "MailQueries$Reader", name := "takesIn", desc := "([CI)Z" } : Jvm.MethodName) ({ cls := "MailQueries$Reader", name := "takesIn", desc := "([CI)Z" } : Jvm.MethodName)) ∈ TBL := TBL_in (List.mem_of_getElem? (i := 686) (by decide +kernel)) (by decide +kernel)
set_option maxRecDepth 100000 in
theorem W_Reader_exchange_code : (Jvm.Cond.code ({ cls := "MailQueries$Reader", name := "exchange", desc := "(LMailQueries$Query;)LMailQueries$Query;" } : Jvm.MethodName) prog_6_method_2_code (3 : Nat) (Option.some (Jvm.ClassFile.FieldType.object "MailQueries$Query"))) ∈ TBL := TBL_in (List.mem_of_getElem? (i := 947) rfl) rfl
theorem W_Reader_exchange_in : (Jvm.Cond.instanceMethod ({ cls := "MailQueries$Reader", name := "exchange", desc := "(LMailQueries$Query;)LMailQueries$Query;" } : Jvm.MethodName)) ∈ TBL := TBL_in (List.mem_of_getElem? (i := 945) (by decide +kernel)) (by decide +kernel)
theorem W_Reader_exchange_se : (Jvm.Cond.selects "MailQueries$Reader" ({ cls := "MailQueries$Reader", name := "exchange", desc := "(LMailQueries$Query;)LMailQueries$Query;" } : Jvm.MethodName) ({ cls := "MailQueries$Reader", name := "exchange", desc := "(LMailQueries$Query;)LMailQueries$Query;" } : Jvm.MethodName)) ∈ TBL := TBL_in (List.mem_of_getElem? (i := 946) (by decide +kernel)) (by decide +kernel)
def y_Reader_takeSign : MethodName := ⟨"MailQueries$Reader", "takeSign", "(III)I"⟩
def rm_Reader_takeSign : Room := { frames := 4, cells := 0, slots := 0, locals := 103 }
theorem d_Reader_takeSign_0 : decode prog_6_method_8_code 0 = .ok (.iload_n 1, 1) := by decide +kernel
theorem d_Reader_takeSign_1 : decode prog_6_method_8_code 1 = .ok (.bipush (-2), 2) := by decide +kernel
theorem d_Reader_takeSign_3 : decode prog_6_method_8_code 3 = .ok (.if_icmp .ne 18, 3) := by decide +kernel
theorem d_Reader_takeSign_6 : decode prog_6_method_8_code 6 = .ok (.aload_n 0, 1) := by decide +kernel
theorem d_Reader_takeSign_7 : decode prog_6_method_8_code 7 = .ok (.invokevirtual 102, 3) := by decide +kernel
theorem d_Reader_takeSign_10 : decode prog_6_method_8_code 10 = .ok (.aload_n 0, 1) := by decide +kernel
theorem d_Reader_takeSign_11 : decode prog_6_method_8_code 11 = .ok (.getfield 12, 3) := by decide +kernel
theorem d_Reader_takeSign_14 : decode prog_6_method_8_code 14 = .ok (.bipush (-2), 2) := by decide +kernel
theorem d_Reader_takeSign_16 : decode prog_6_method_8_code 16 = .ok (.invokevirtual 105, 3) := by decide +kernel
theorem d_Reader_takeSign_19 : decode prog_6_method_8_code 19 = .ok (.iload_n 3, 1) := by decide +kernel
theorem d_Reader_takeSign_20 : decode prog_6_method_8_code 20 = .ok (.ireturn, 1) := by decide +kernel
theorem d_Reader_takeSign_21 : decode prog_6_method_8_code 21 = .ok (.aload_n 0, 1) := by decide +kernel
theorem d_Reader_takeSign_22 : decode prog_6_method_8_code 22 = .ok (.getfield 32, 3) := by decide +kernel
theorem d_Reader_takeSign_25 : decode prog_6_method_8_code 25 = .ok (.ifCond .eq 10, 3) := by decide +kernel
theorem d_Reader_takeSign_28 : decode prog_6_method_8_code 28 = .ok (.aload_n 0, 1) := by decide +kernel
theorem d_Reader_takeSign_29 : decode prog_6_method_8_code 29 = .ok (.iconst 1, 1) := by decide +kernel
theorem d_Reader_takeSign_30 : decode prog_6_method_8_code 30 = .ok (.iload_n 2, 1) := by decide +kernel
theorem d_Reader_takeSign_31 : decode prog_6_method_8_code 31 = .ok (.invokevirtual 66, 3) := by decide +kernel
theorem d_Reader_takeSign_34 : decode prog_6_method_8_code 34 = .ok (.ireturn, 1) := by decide +kernel
theorem d_Reader_takeSign_35 : decode prog_6_method_8_code 35 = .ok (.aload_n 0, 1) := by decide +kernel
theorem d_Reader_takeSign_36 : decode prog_6_method_8_code 36 = .ok (.iload_n 1, 1) := by decide +kernel
theorem d_Reader_takeSign_37 : decode prog_6_method_8_code 37 = .ok (.invokevirtual 109, 3) := by decide +kernel
theorem d_Reader_takeSign_40 : decode prog_6_method_8_code 40 = .ok (.iload_n 3, 1) := by decide +kernel
theorem d_Reader_takeSign_41 : decode prog_6_method_8_code 41 = .ok (.ireturn, 1) := by decide +kernel
def y_Reader_takeClosing : MethodName := ⟨"MailQueries$Reader", "takeClosing", "(I)I"⟩
def rm_Reader_takeClosing : Room := { frames := 1, cells := 0, slots := 0, locals := 22 }
theorem d_Reader_takeClosing_0 : decode prog_6_method_7_code 0 = .ok (.aload_n 0, 1) := by decide +kernel
theorem d_Reader_takeClosing_1 : decode prog_6_method_7_code 1 = .ok (.getfield 32, 3) := by decide +kernel
theorem d_Reader_takeClosing_4 : decode prog_6_method_7_code 4 = .ok (.ifCond .ne 10, 3) := by decide +kernel
theorem d_Reader_takeClosing_7 : decode prog_6_method_7_code 7 = .ok (.aload_n 0, 1) := by decide +kernel
theorem d_Reader_takeClosing_8 : decode prog_6_method_7_code 8 = .ok (.getfield 36, 3) := by decide +kernel
theorem d_Reader_takeClosing_11 : decode prog_6_method_7_code 11 = .ok (.ifCond .gt 10, 3) := by decide +kernel
theorem d_Reader_takeClosing_14 : decode prog_6_method_7_code 14 = .ok (.aload_n 0, 1) := by decide +kernel
theorem d_Reader_takeClosing_15 : decode prog_6_method_7_code 15 = .ok (.iconst 1, 1) := by decide +kernel
theorem d_Reader_takeClosing_16 : decode prog_6_method_7_code 16 = .ok (.iload_n 1, 1) := by decide +kernel
theorem d_Reader_takeClosing_17 : decode prog_6_method_7_code 17 = .ok (.invokevirtual 66, 3) := by decide +kernel
theorem d_Reader_takeClosing_20 : decode prog_6_method_7_code 20 = .ok (.ireturn, 1) := by decide +kernel
theorem d_Reader_takeClosing_21 : decode prog_6_method_7_code 21 = .ok (.aload_n 0, 1) := by decide +kernel
theorem d_Reader_takeClosing_22 : decode prog_6_method_7_code 22 = .ok (.dup, 1) := by decide +kernel
theorem d_Reader_takeClosing_23 : decode prog_6_method_7_code 23 = .ok (.getfield 36, 3) := by decide +kernel
theorem d_Reader_takeClosing_26 : decode prog_6_method_7_code 26 = .ok (.iconst 1, 1) := by decide +kernel
theorem d_Reader_takeClosing_27 : decode prog_6_method_7_code 27 = .ok (.isub, 1) := by decide +kernel
theorem d_Reader_takeClosing_28 : decode prog_6_method_7_code 28 = .ok (.putfield 36, 3) := by decide +kernel
theorem d_Reader_takeClosing_31 : decode prog_6_method_7_code 31 = .ok (.iload_n 1, 1) := by decide +kernel
theorem d_Reader_takeClosing_32 : decode prog_6_method_7_code 32 = .ok (.iconst 1, 1) := by decide +kernel
theorem d_Reader_takeClosing_33 : decode prog_6_method_7_code 33 = .ok (.iadd, 1) := by decide +kernel
theorem d_Reader_takeClosing_34 : decode prog_6_method_7_code 34 = .ok (.ireturn, 1) := by decide +kernel
def y_Reader_takeOpening : MethodName := ⟨"MailQueries$Reader", "takeOpening", "(I)I"⟩
def rm_Reader_takeOpening : Room := { frames := 4, cells := 0, slots := 0, locals := 103 }
theorem d_Reader_takeOpening_0 : decode prog_6_method_6_code 0 = .ok (.aload_n 0, 1) := by decide +kernel
theorem d_Reader_takeOpening_1 : decode prog_6_method_6_code 1 = .ok (.getfield 36, 3) := by decide +kernel
theorem d_Reader_takeOpening_4 : decode prog_6_method_6_code 4 = .ok (.bipush 20, 2) := by decide +kernel
theorem d_Reader_takeOpening_6 : decode prog_6_method_6_code 6 = .ok (.if_icmp .lt 10, 3) := by decide +kernel
theorem d_Reader_takeOpening_9 : decode prog_6_method_6_code 9 = .ok (.aload_n 0, 1) := by decide +kernel
theorem d_Reader_takeOpening_10 : decode prog_6_method_6_code 10 = .ok (.iconst 5, 1) := by decide +kernel
theorem d_Reader_takeOpening_11 : decode prog_6_method_6_code 11 = .ok (.iload_n 1, 1) := by decide +kernel
theorem d_Reader_takeOpening_12 : decode prog_6_method_6_code 12 = .ok (.invokevirtual 66, 3) := by decide +kernel
theorem d_Reader_takeOpening_15 : decode prog_6_method_6_code 15 = .ok (.ireturn, 1) := by decide +kernel
theorem d_Reader_takeOpening_16 : decode prog_6_method_6_code 16 = .ok (.aload_n 0, 1) := by decide +kernel
theorem d_Reader_takeOpening_17 : decode prog_6_method_6_code 17 = .ok (.invokevirtual 102, 3) := by decide +kernel
theorem d_Reader_takeOpening_20 : decode prog_6_method_6_code 20 = .ok (.aload_n 0, 1) := by decide +kernel
theorem d_Reader_takeOpening_21 : decode prog_6_method_6_code 21 = .ok (.dup, 1) := by decide +kernel
theorem d_Reader_takeOpening_22 : decode prog_6_method_6_code 22 = .ok (.getfield 36, 3) := by decide +kernel
theorem d_Reader_takeOpening_25 : decode prog_6_method_6_code 25 = .ok (.iconst 1, 1) := by decide +kernel
theorem d_Reader_takeOpening_26 : decode prog_6_method_6_code 26 = .ok (.iadd, 1) := by decide +kernel
theorem d_Reader_takeOpening_27 : decode prog_6_method_6_code 27 = .ok (.putfield 36, 3) := by decide +kernel
theorem d_Reader_takeOpening_30 : decode prog_6_method_6_code 30 = .ok (.aload_n 0, 1) := by decide +kernel
theorem d_Reader_takeOpening_31 : decode prog_6_method_6_code 31 = .ok (.invokevirtual 53, 3) := by decide +kernel
theorem d_Reader_takeOpening_34 : decode prog_6_method_6_code 34 = .ok (.iload_n 1, 1) := by decide +kernel
theorem d_Reader_takeOpening_35 : decode prog_6_method_6_code 35 = .ok (.iconst 1, 1) := by decide +kernel
theorem d_Reader_takeOpening_36 : decode prog_6_method_6_code 36 = .ok (.iadd, 1) := by decide +kernel
theorem d_Reader_takeOpening_37 : decode prog_6_method_6_code 37 = .ok (.ireturn, 1) := by decide +kernel
def y_Reader_takeWord : MethodName := ⟨"MailQueries$Reader", "takeWord", "(I)I"⟩
def rm_Reader_takeWord : Room := { frames := 8, cells := 0, slots := 0, locals := 181 }
theorem d_Reader_takeWord_0 : decode prog_6_method_5_code 0 = .ok (.aload_n 0, 1) := by decide +kernel
theorem d_Reader_takeWord_1 : decode prog_6_method_5_code 1 = .ok (.getfield 12, 3) := by decide +kernel
theorem d_Reader_takeWord_4 : decode prog_6_method_5_code 4 = .ok (.iload_n 1, 1) := by decide +kernel
theorem d_Reader_takeWord_5 : decode prog_6_method_5_code 5 = .ok (.invokevirtual 70, 3) := by decide +kernel
theorem d_Reader_takeWord_8 : decode prog_6_method_5_code 8 = .ok (.istore_n 2, 1) := by decide +kernel
theorem d_Reader_takeWord_9 : decode prog_6_method_5_code 9 = .ok (.iload_n 2, 1) := by decide +kernel
theorem d_Reader_takeWord_10 : decode prog_6_method_5_code 10 = .ok (.bipush 40, 2) := by decide +kernel
theorem d_Reader_takeWord_12 : decode prog_6_method_5_code 12 = .ok (.if_icmp .ne 9, 3) := by decide +kernel
theorem d_Reader_takeWord_15 : decode prog_6_method_5_code 15 = .ok (.aload_n 0, 1) := by decide +kernel
theorem d_Reader_takeWord_16 : decode prog_6_method_5_code 16 = .ok (.iload_n 1, 1) := by decide +kernel
theorem d_Reader_takeWord_17 : decode prog_6_method_5_code 17 = .ok (.invokevirtual 73, 3) := by decide +kernel
theorem d_Reader_takeWord_20 : decode prog_6_method_5_code 20 = .ok (.ireturn, 1) := by decide +kernel
theorem d_Reader_takeWord_21 : decode prog_6_method_5_code 21 = .ok (.iload_n 2, 1) := by decide +kernel
theorem d_Reader_takeWord_22 : decode prog_6_method_5_code 22 = .ok (.bipush 41, 2) := by decide +kernel
theorem d_Reader_takeWord_24 : decode prog_6_method_5_code 24 = .ok (.if_icmp .ne 9, 3) := by decide +kernel
theorem d_Reader_takeWord_27 : decode prog_6_method_5_code 27 = .ok (.aload_n 0, 1) := by decide +kernel
theorem d_Reader_takeWord_28 : decode prog_6_method_5_code 28 = .ok (.iload_n 1, 1) := by decide +kernel
theorem d_Reader_takeWord_29 : decode prog_6_method_5_code 29 = .ok (.invokevirtual 76, 3) := by decide +kernel
theorem d_Reader_takeWord_32 : decode prog_6_method_5_code 32 = .ok (.ireturn, 1) := by decide +kernel
theorem d_Reader_takeWord_33 : decode prog_6_method_5_code 33 = .ok (.iload_n 2, 1) := by decide +kernel
theorem d_Reader_takeWord_34 : decode prog_6_method_5_code 34 = .ok (.bipush 34, 2) := by decide +kernel
theorem d_Reader_takeWord_36 : decode prog_6_method_5_code 36 = .ok (.if_icmp .eq 17, 3) := by decide +kernel
theorem d_Reader_takeWord_39 : decode prog_6_method_5_code 39 = .ok (.iload_n 2, 1) := by decide +kernel
theorem d_Reader_takeWord_40 : decode prog_6_method_5_code 40 = .ok (.invokestatic 79, 3) := by decide +kernel
theorem d_Reader_takeWord_43 : decode prog_6_method_5_code 43 = .ok (.ifCond .ne 10, 3) := by decide +kernel
theorem d_Reader_takeWord_46 : decode prog_6_method_5_code 46 = .ok (.aload_n 0, 1) := by decide +kernel
theorem d_Reader_takeWord_47 : decode prog_6_method_5_code 47 = .ok (.iconst 2, 1) := by decide +kernel
theorem d_Reader_takeWord_48 : decode prog_6_method_5_code 48 = .ok (.iload_n 1, 1) := by decide +kernel
theorem d_Reader_takeWord_49 : decode prog_6_method_5_code 49 = .ok (.invokevirtual 66, 3) := by decide +kernel
theorem d_Reader_takeWord_52 : decode prog_6_method_5_code 52 = .ok (.ireturn, 1) := by decide +kernel
theorem d_Reader_takeWord_53 : decode prog_6_method_5_code 53 = .ok (.aload_n 0, 1) := by decide +kernel
theorem d_Reader_takeWord_54 : decode prog_6_method_5_code 54 = .ok (.iload_n 1, 1) := by decide +kernel
theorem d_Reader_takeWord_55 : decode prog_6_method_5_code 55 = .ok (.invokevirtual 83, 3) := by decide +kernel
theorem d_Reader_takeWord_58 : decode prog_6_method_5_code 58 = .ok (.istore_n 3, 1) := by decide +kernel
theorem d_Reader_takeWord_59 : decode prog_6_method_5_code 59 = .ok (.iload_n 3, 1) := by decide +kernel
theorem d_Reader_takeWord_60 : decode prog_6_method_5_code 60 = .ok (.iload_n 1, 1) := by decide +kernel
theorem d_Reader_takeWord_61 : decode prog_6_method_5_code 61 = .ok (.if_icmp .le 31, 3) := by decide +kernel
theorem d_Reader_takeWord_64 : decode prog_6_method_5_code 64 = .ok (.aload_n 0, 1) := by decide +kernel
theorem d_Reader_takeWord_65 : decode prog_6_method_5_code 65 = .ok (.getfield 12, 3) := by decide +kernel
theorem d_Reader_takeWord_68 : decode prog_6_method_5_code 68 = .ok (.iload_n 3, 1) := by decide +kernel
theorem d_Reader_takeWord_69 : decode prog_6_method_5_code 69 = .ok (.invokevirtual 70, 3) := by decide +kernel
theorem d_Reader_takeWord_72 : decode prog_6_method_5_code 72 = .ok (.bipush 58, 2) := by decide +kernel
theorem d_Reader_takeWord_74 : decode prog_6_method_5_code 74 = .ok (.if_icmp .ne 18, 3) := by decide +kernel
theorem d_Reader_takeWord_77 : decode prog_6_method_5_code 77 = .ok (.aload_n 0, 1) := by decide +kernel
theorem d_Reader_takeWord_78 : decode prog_6_method_5_code 78 = .ok (.aload_n 0, 1) := by decide +kernel
theorem d_Reader_takeWord_79 : decode prog_6_method_5_code 79 = .ok (.iload_n 1, 1) := by decide +kernel
theorem d_Reader_takeWord_80 : decode prog_6_method_5_code 80 = .ok (.iload_n 3, 1) := by decide +kernel
theorem d_Reader_takeWord_81 : decode prog_6_method_5_code 81 = .ok (.invokevirtual 86, 3) := by decide +kernel
theorem d_Reader_takeWord_84 : decode prog_6_method_5_code 84 = .ok (.iload_n 1, 1) := by decide +kernel
theorem d_Reader_takeWord_85 : decode prog_6_method_5_code 85 = .ok (.iload_n 3, 1) := by decide +kernel
theorem d_Reader_takeWord_86 : decode prog_6_method_5_code 86 = .ok (.iconst 1, 1) := by decide +kernel
theorem d_Reader_takeWord_87 : decode prog_6_method_5_code 87 = .ok (.iadd, 1) := by decide +kernel
theorem d_Reader_takeWord_88 : decode prog_6_method_5_code 88 = .ok (.invokevirtual 89, 3) := by decide +kernel
theorem d_Reader_takeWord_91 : decode prog_6_method_5_code 91 = .ok (.ireturn, 1) := by decide +kernel
theorem d_Reader_takeWord_92 : decode prog_6_method_5_code 92 = .ok (.aload_n 0, 1) := by decide +kernel
theorem d_Reader_takeWord_93 : decode prog_6_method_5_code 93 = .ok (.iload_n 1, 1) := by decide +kernel
theorem d_Reader_takeWord_94 : decode prog_6_method_5_code 94 = .ok (.invokevirtual 93, 3) := by decide +kernel
theorem d_Reader_takeWord_97 : decode prog_6_method_5_code 97 = .ok (.istore 4, 2) := by decide +kernel
theorem d_Reader_takeWord_99 : decode prog_6_method_5_code 99 = .ok (.aload_n 0, 1) := by decide +kernel
theorem d_Reader_takeWord_100 : decode prog_6_method_5_code 100 = .ok (.iload_n 1, 1) := by decide +kernel
theorem d_Reader_takeWord_101 : decode prog_6_method_5_code 101 = .ok (.iload 4, 2) := by decide +kernel
theorem d_Reader_takeWord_103 : decode prog_6_method_5_code 103 = .ok (.invokevirtual 96, 3) := by decide +kernel
theorem d_Reader_takeWord_106 : decode prog_6_method_5_code 106 = .ok (.istore 5, 2) := by decide +kernel
theorem d_Reader_takeWord_108 : decode prog_6_method_5_code 108 = .ok (.iload 5, 2) := by decide +kernel
theorem d_Reader_takeWord_110 : decode prog_6_method_5_code 110 = .ok (.iconst (-1), 1) := by decide +kernel
theorem d_Reader_takeWord_111 : decode prog_6_method_5_code 111 = .ok (.if_icmp .ne 13, 3) := by decide +kernel
theorem d_Reader_takeWord_114 : decode prog_6_method_5_code 114 = .ok (.aload_n 0, 1) := by decide +kernel
theorem d_Reader_takeWord_115 : decode prog_6_method_5_code 115 = .ok (.iconst 0, 1) := by decide +kernel
theorem d_Reader_takeWord_116 : decode prog_6_method_5_code 116 = .ok (.iload_n 1, 1) := by decide +kernel
theorem d_Reader_takeWord_117 : decode prog_6_method_5_code 117 = .ok (.iload_n 1, 1) := by decide +kernel
theorem d_Reader_takeWord_118 : decode prog_6_method_5_code 118 = .ok (.invokevirtual 89, 3) := by decide +kernel
theorem d_Reader_takeWord_121 : decode prog_6_method_5_code 121 = .ok (.goto 12, 3) := by decide +kernel
theorem d_Reader_takeWord_124 : decode prog_6_method_5_code 124 = .ok (.aload_n 0, 1) := by decide +kernel
theorem d_Reader_takeWord_125 : decode prog_6_method_5_code 125 = .ok (.iload 5, 2) := by decide +kernel
theorem d_Reader_takeWord_127 : decode prog_6_method_5_code 127 = .ok (.iload_n 1, 1) := by decide +kernel
theorem d_Reader_takeWord_128 : decode prog_6_method_5_code 128 = .ok (.iload 4, 2) := by decide +kernel
theorem d_Reader_takeWord_130 : decode prog_6_method_5_code 130 = .ok (.invokevirtual 99, 3) := by decide +kernel
theorem d_Reader_takeWord_133 : decode prog_6_method_5_code 133 = .ok (.ireturn, 1) := by decide +kernel
def y_Reader_takesIn : MethodName := ⟨"MailQueries$Reader", "takesIn", "([CI)Z"⟩
def rm_Reader_takesIn : Room := { frames := 9, cells := 0, slots := 0, locals := 206 }
theorem d_Reader_takesIn_0 : decode prog_6_method_3_code 0 = .ok (.aload_n 0, 1) := by decide +kernel
theorem d_Reader_takesIn_1 : decode prog_6_method_3_code 1 = .ok (.getfield 12, 3) := by decide +kernel
theorem d_Reader_takesIn_4 : decode prog_6_method_3_code 4 = .ok (.aload_n 1, 1) := by decide +kernel
theorem d_Reader_takesIn_5 : decode prog_6_method_3_code 5 = .ok (.iload_n 2, 1) := by decide +kernel
theorem d_Reader_takesIn_6 : decode prog_6_method_3_code 6 = .ok (.invokevirtual 49, 3) := by decide +kernel
theorem d_Reader_takesIn_9 : decode prog_6_method_3_code 9 = .ok (.aload_n 0, 1) := by decide +kernel
theorem d_Reader_takesIn_10 : decode prog_6_method_3_code 10 = .ok (.iconst 0, 1) := by decide +kernel
theorem d_Reader_takesIn_11 : decode prog_6_method_3_code 11 = .ok (.putfield 25, 3) := by decide +kernel
theorem d_Reader_takesIn_14 : decode prog_6_method_3_code 14 = .ok (.aload_n 0, 1) := by decide +kernel
theorem d_Reader_takesIn_15 : decode prog_6_method_3_code 15 = .ok (.iconst (-1), 1) := by decide +kernel
theorem d_Reader_takesIn_16 : decode prog_6_method_3_code 16 = .ok (.putfield 29, 3) := by decide +kernel
theorem d_Reader_takesIn_19 : decode prog_6_method_3_code 19 = .ok (.aload_n 0, 1) := by decide +kernel
theorem d_Reader_takesIn_20 : decode prog_6_method_3_code 20 = .ok (.iconst 1, 1) := by decide +kernel
theorem d_Reader_takesIn_21 : decode prog_6_method_3_code 21 = .ok (.putfield 32, 3) := by decide +kernel
theorem d_Reader_takesIn_24 : decode prog_6_method_3_code 24 = .ok (.aload_n 0, 1) := by decide +kernel
theorem d_Reader_takesIn_25 : decode prog_6_method_3_code 25 = .ok (.iconst 0, 1) := by decide +kernel
theorem d_Reader_takesIn_26 : decode prog_6_method_3_code 26 = .ok (.putfield 36, 3) := by decide +kernel
theorem d_Reader_takesIn_29 : decode prog_6_method_3_code 29 = .ok (.aload_n 0, 1) := by decide +kernel
theorem d_Reader_takesIn_30 : decode prog_6_method_3_code 30 = .ok (.invokevirtual 53, 3) := by decide +kernel
theorem d_Reader_takesIn_33 : decode prog_6_method_3_code 33 = .ok (.aload_n 0, 1) := by decide +kernel
theorem d_Reader_takesIn_34 : decode prog_6_method_3_code 34 = .ok (.iconst 0, 1) := by decide +kernel
theorem d_Reader_takesIn_35 : decode prog_6_method_3_code 35 = .ok (.invokevirtual 56, 3) := by decide +kernel
theorem d_Reader_takesIn_38 : decode prog_6_method_3_code 38 = .ok (.istore_n 3, 1) := by decide +kernel
theorem d_Reader_takesIn_39 : decode prog_6_method_3_code 39 = .ok (.iload_n 3, 1) := by decide +kernel
theorem d_Reader_takesIn_40 : decode prog_6_method_3_code 40 = .ok (.aload_n 0, 1) := by decide +kernel
theorem d_Reader_takesIn_41 : decode prog_6_method_3_code 41 = .ok (.getfield 12, 3) := by decide +kernel
theorem d_Reader_takesIn_44 : decode prog_6_method_3_code 44 = .ok (.getfield 60, 3) := by decide +kernel
theorem d_Reader_takesIn_47 : decode prog_6_method_3_code 47 = .ok (.if_icmp .lt 5, 3) := by decide +kernel
theorem d_Reader_takesIn_50 : decode prog_6_method_3_code 50 = .ok (.iconst 1, 1) := by decide +kernel
theorem d_Reader_takesIn_51 : decode prog_6_method_3_code 51 = .ok (.ireturn, 1) := by decide +kernel
theorem d_Reader_takesIn_52 : decode prog_6_method_3_code 52 = .ok (.iconst 0, 1) := by decide +kernel
theorem d_Reader_takesIn_53 : decode prog_6_method_3_code 53 = .ok (.istore 4, 2) := by decide +kernel
theorem d_Reader_takesIn_55 : decode prog_6_method_3_code 55 = .ok (.iload 4, 2) := by decide +kernel
theorem d_Reader_takesIn_57 : decode prog_6_method_3_code 57 = .ok (.sipush 600, 3) := by decide +kernel
theorem d_Reader_takesIn_60 : decode prog_6_method_3_code 60 = .ok (.if_icmp .ge 42, 3) := by decide +kernel
theorem d_Reader_takesIn_63 : decode prog_6_method_3_code 63 = .ok (.iload_n 3, 1) := by decide +kernel
theorem d_Reader_takesIn_64 : decode prog_6_method_3_code 64 = .ok (.iconst (-1), 1) := by decide +kernel
theorem d_Reader_takesIn_65 : decode prog_6_method_3_code 65 = .ok (.if_icmp .eq 37, 3) := by decide +kernel
theorem d_Reader_takesIn_68 : decode prog_6_method_3_code 68 = .ok (.iload_n 3, 1) := by decide +kernel
theorem d_Reader_takesIn_69 : decode prog_6_method_3_code 69 = .ok (.aload_n 0, 1) := by decide +kernel
theorem d_Reader_takesIn_70 : decode prog_6_method_3_code 70 = .ok (.getfield 12, 3) := by decide +kernel
theorem d_Reader_takesIn_73 : decode prog_6_method_3_code 73 = .ok (.getfield 60, 3) := by decide +kernel
theorem d_Reader_takesIn_76 : decode prog_6_method_3_code 76 = .ok (.if_icmp .ge 26, 3) := by decide +kernel
theorem d_Reader_takesIn_79 : decode prog_6_method_3_code 79 = .ok (.aload_n 0, 1) := by decide +kernel
theorem d_Reader_takesIn_80 : decode prog_6_method_3_code 80 = .ok (.iload_n 3, 1) := by decide +kernel
theorem d_Reader_takesIn_81 : decode prog_6_method_3_code 81 = .ok (.invokevirtual 63, 3) := by decide +kernel
theorem d_Reader_takesIn_84 : decode prog_6_method_3_code 84 = .ok (.istore_n 3, 1) := by decide +kernel
theorem d_Reader_takesIn_85 : decode prog_6_method_3_code 85 = .ok (.iload_n 3, 1) := by decide +kernel
theorem d_Reader_takesIn_86 : decode prog_6_method_3_code 86 = .ok (.iconst (-1), 1) := by decide +kernel
theorem d_Reader_takesIn_87 : decode prog_6_method_3_code 87 = .ok (.if_icmp .eq 9, 3) := by decide +kernel
theorem d_Reader_takesIn_90 : decode prog_6_method_3_code 90 = .ok (.aload_n 0, 1) := by decide +kernel
theorem d_Reader_takesIn_91 : decode prog_6_method_3_code 91 = .ok (.iload_n 3, 1) := by decide +kernel
theorem d_Reader_takesIn_92 : decode prog_6_method_3_code 92 = .ok (.invokevirtual 56, 3) := by decide +kernel
theorem d_Reader_takesIn_95 : decode prog_6_method_3_code 95 = .ok (.istore_n 3, 1) := by decide +kernel
theorem d_Reader_takesIn_96 : decode prog_6_method_3_code 96 = .ok (.iinc 4 1, 3) := by decide +kernel
theorem d_Reader_takesIn_99 : decode prog_6_method_3_code 99 = .ok (.goto (-44), 3) := by decide +kernel
theorem d_Reader_takesIn_102 : decode prog_6_method_3_code 102 = .ok (.iload_n 3, 1) := by decide +kernel
theorem d_Reader_takesIn_103 : decode prog_6_method_3_code 103 = .ok (.iconst (-1), 1) := by decide +kernel
theorem d_Reader_takesIn_104 : decode prog_6_method_3_code 104 = .ok (.if_icmp .eq 30, 3) := by decide +kernel
theorem d_Reader_takesIn_107 : decode prog_6_method_3_code 107 = .ok (.aload_n 0, 1) := by decide +kernel
theorem d_Reader_takesIn_108 : decode prog_6_method_3_code 108 = .ok (.getfield 32, 3) := by decide +kernel
theorem d_Reader_takesIn_111 : decode prog_6_method_3_code 111 = .ok (.ifCond .ne 10, 3) := by decide +kernel
theorem d_Reader_takesIn_114 : decode prog_6_method_3_code 114 = .ok (.aload_n 0, 1) := by decide +kernel
theorem d_Reader_takesIn_115 : decode prog_6_method_3_code 115 = .ok (.getfield 36, 3) := by decide +kernel
theorem d_Reader_takesIn_118 : decode prog_6_method_3_code 118 = .ok (.ifCond .le 16, 3) := by decide +kernel
theorem d_Reader_takesIn_121 : decode prog_6_method_3_code 121 = .ok (.aload_n 0, 1) := by decide +kernel
theorem d_Reader_takesIn_122 : decode prog_6_method_3_code 122 = .ok (.iconst 1, 1) := by decide +kernel
theorem d_Reader_takesIn_123 : decode prog_6_method_3_code 123 = .ok (.aload_n 0, 1) := by decide +kernel
theorem d_Reader_takesIn_124 : decode prog_6_method_3_code 124 = .ok (.getfield 12, 3) := by decide +kernel
theorem d_Reader_takesIn_127 : decode prog_6_method_3_code 127 = .ok (.getfield 60, 3) := by decide +kernel
theorem d_Reader_takesIn_130 : decode prog_6_method_3_code 130 = .ok (.invokevirtual 66, 3) := by decide +kernel
theorem d_Reader_takesIn_133 : decode prog_6_method_3_code 133 = .ok (.istore_n 3, 1) := by decide +kernel
theorem d_Reader_takesIn_134 : decode prog_6_method_3_code 134 = .ok (.iload_n 3, 1) := by decide +kernel
theorem d_Reader_takesIn_135 : decode prog_6_method_3_code 135 = .ok (.iconst (-1), 1) := by decide +kernel
theorem d_Reader_takesIn_136 : decode prog_6_method_3_code 136 = .ok (.if_icmp .eq 7, 3) := by decide +kernel
theorem d_Reader_takesIn_139 : decode prog_6_method_3_code 139 = .ok (.iconst 1, 1) := by decide +kernel
theorem d_Reader_takesIn_140 : decode prog_6_method_3_code 140 = .ok (.goto 4, 3) := by decide +kernel
theorem d_Reader_takesIn_143 : decode prog_6_method_3_code 143 = .ok (.iconst 0, 1) := by decide +kernel
theorem d_Reader_takesIn_144 : decode prog_6_method_3_code 144 = .ok (.ireturn, 1) := by decide +kernel
def y_Reader_exchange : MethodName := ⟨"MailQueries$Reader", "exchange", "(LMailQueries$Query;)LMailQueries$Query;"⟩
def rm_Reader_exchange : Room := { frames := 0, cells := 0, slots := 0, locals := 0 }
theorem d_Reader_exchange_0 : decode prog_6_method_2_code 0 = .ok (.aload_n 0, 1) := by decide +kernel
theorem d_Reader_exchange_1 : decode prog_6_method_2_code 1 = .ok (.getfield 12, 3) := by decide +kernel
theorem d_Reader_exchange_4 : decode prog_6_method_2_code 4 = .ok (.astore_n 2, 1) := by decide +kernel
theorem d_Reader_exchange_5 : decode prog_6_method_2_code 5 = .ok (.aload_n 0, 1) := by decide +kernel
theorem d_Reader_exchange_6 : decode prog_6_method_2_code 6 = .ok (.aload_n 1, 1) := by decide +kernel
theorem d_Reader_exchange_7 : decode prog_6_method_2_code 7 = .ok (.putfield 12, 3) := by decide +kernel
theorem d_Reader_exchange_10 : decode prog_6_method_2_code 10 = .ok (.aload_n 2, 1) := by decide +kernel
theorem d_Reader_exchange_11 : decode prog_6_method_2_code 11 = .ok (.areturn, 1) := by decide +kernel
theorem mb_Reader_takeSign : Mb y_Reader_takeSign prog_6_method_8_code 4 (some .int) 3 := ⟨W_Reader_takeSign_code, W_Reader_takeSign_in, sel_46, I_Reader, by decide +kernel, by decide +kernel, by decide +kernel⟩
theorem mb_Reader_takeClosing : Mb y_Reader_takeClosing prog_6_method_7_code 2 (some .int) 1 := ⟨W_Reader_takeClosing_code, W_Reader_takeClosing_in, sel_32, I_Reader, by decide +kernel, by decide +kernel, by decide +kernel⟩
theorem mb_Reader_takeOpening : Mb y_Reader_takeOpening prog_6_method_6_code 2 (some .int) 1 := ⟨W_Reader_takeOpening_code, W_Reader_takeOpening_in, sel_28, I_Reader, by decide +kernel, by decide +kernel, by decide +kernel⟩
theorem mb_Reader_takeWord : Mb y_Reader_takeWord prog_6_method_5_code 6 (some .int) 1 := ⟨W_Reader_takeWord_code, W_Reader_takeWord_in, sel_27, I_Reader, by decide +kernel, by decide +kernel, by decide +kernel⟩
theorem mb_Reader_takesIn : Mb y_Reader_takesIn prog_6_method_3_code 5 (some .boolean) 2 := ⟨W_Reader_takesIn_code, W_Reader_takesIn_in, W_Reader_takesIn_se, I_Reader, by decide +kernel, by decide +kernel, by decide +kernel⟩
theorem mb_Reader_exchange : Mb y_Reader_exchange prog_6_method_2_code 3 (some (.object "MailQueries$Query")) 1 := ⟨W_Reader_exchange_code, W_Reader_exchange_in, W_Reader_exchange_se, I_Reader, by decide +kernel, by decide +kernel, by decide +kernel⟩
def Reader_takeSign (F : Nat) (t : StI) (query : StI) (x1 : Int32) (x2 : Int32) (x3 : Int32) : Option (Int32 × StI × StI) := if x1 = (-2 : Int32) then (Reader_beginOperand F t query).bind fun r11 => (Query_append F r11.2 (-2 : Int32)).bind fun r12 => some (x3, r11.1, r12) else if (t 4 0) = 0 then (Reader_joinBy F t query x1).bind fun r9 => some (x3, r9.1, r9.2) else (Reader_fail F t (1 : Int32) x2).bind fun r10 => some (r10.1, r10.2, query)
set_option maxHeartbeats 4000000 in
set_option maxRecDepth 100000 in
theorem k_Reader_takeSign {p : Program} {l : Launch} {e : Env} {s : State} {m : MethodId} {args : Array Value} {below : List Frame} {meth : Method} {c : Code} {g : Gz} {A : Nat → Prop} {F : Nat} {a_t a_query : Nat → Nat} {r_span : Nat} (hC : Cx prog_6_method_8_code 4 (some .int) R_Reader p s m args meth c g A A) : ∀ (t : StI) (query : StI) (x1 : Int32) (x2 : Int32) (x3 : Int32) (res : Int32 × StI × StI), Reader_takeSign F t query x1 x2 x3 = some res → Go p l e rm_Reader_takeSign s m args below meth c g A A 4 (MQ below (EI g ((pic_Reader g a_t (a_query 0) r_span res.2.1) ++ (pic_Query g a_query res.2.2)) res.1 A) args s 0 0 A) ((pic_Reader g a_t (a_query 0) r_span t) ++ (pic_Query g a_query query)) [(0, .ref (a_t 0)), (1, .int x1), (2, .int x2), (3, .int x3)] 0 [] := by
  obtain ⟨hx, hb, hr, hml, hown, htb, hlocks, hA, hAA, hG⟩ := id hC
  have hK := hG.1
  intro t query x1 x2 x3 res h H locs ls hP hD hS hl
  rw [Reader_takeSign] at h
  refine lv_iload_n hx hb d_Reader_takeSign_0 rfl (lv_at hl 1 rfl) ?_
  refine lv_bipush (v := -2) hx hb d_Reader_takeSign_1 (by decide) ?_
  refine lv_icmp_ne (tgt := 21) hx hb d_Reader_takeSign_3 (by decide) (fun c7 => ?_) (fun c7 => ?_)
  · replace h := (if_neg c7).symm.trans h
    refine lv_aload_n hx hb d_Reader_takeSign_21 rfl (lv_at hl 0 rfl) ?_
    refine va_get (D := gD g) (ci := 3) (v := .int (t 4 0)) (C := R_Reader) (T := T_Reader) (N := 9) hx hb htb in_Reader hown hK hP 0 rfl rfl 4 (by decide) (htb _ L_Reader_32) (fun _ h9 => h9) rfl d_Reader_takeSign_22 ?_
    refine lv_if_eq (tgt := 35) hx hb d_Reader_takeSign_25 (by decide) (fun c8 => ?_) (fun c8 => ?_)
    · replace h := (if_pos c8).symm.trans h
      refine lv_aload_n hx hb d_Reader_takeSign_35 rfl (lv_at hl 0 rfl) ?_
      refine lv_iload_n hx hb d_Reader_takeSign_36 rfl (lv_at hl 1 rfl) ?_
      obtain ⟨r9, hr9, h⟩ := Option.bind_eq_some_iff.mp h
      refine cl_V (wr := []) [0, 1, 2, 3, 4, 5, 6, 7, 8, 9, 10, 11, 12, 13, 14] [] rfl rfl rfl (by decide) hP hD hS hA (va_runV (As := [.int x1]) (rest := []) ⟨hx, hb, hml, hown, htb⟩ (c_Reader_joinBy l g F a_t a_query r_span t query x1 _ hr9 H.size) (cw_V htb mb_Reader_joinBy (htb _ L_Reader_109) rfl rfl ⟨Nat.le_of_ble_eq_true rfl, Nat.le_of_ble_eq_true rfl⟩) (pre_V (va_recv hK hP (ci := 3) (q0 := 0) rfl rfl) (pre_S [0, 1, 2, 3, 4, 5, 6, 7, 8, 9, 10, 11, 12, 13, 14] rfl rfl hP hD hS hA hAA hG)) rfl rfl hl.1 rfl (lv_room (Nat.le_of_ble_eq_true rfl)) d_Reader_takeSign_37 ⟨Nat.zero_le _, Nat.zero_le _⟩) (fun H locs hP hD hS => ?_)
      have hP : va_P (gD g) vwCl ((pic_Reader g a_t (a_query 0) r_span r9.1) ++ (pic_Query g a_query r9.2)) H := hP.sub [0, 1, 2, 3, 4, 5, 6, 7, 8, 9, 10, 11, 12, 13, 14] rfl
      have hD : va_D A ((pic_Reader g a_t (a_query 0) r_span r9.1) ++ (pic_Query g a_query r9.2)) := hD.sub [0, 1, 2, 3, 4, 5, 6, 7, 8, 9, 10, 11, 12, 13, 14] rfl rfl
      refine lv_iload_n hx hb d_Reader_takeSign_40 rfl (lv_at hl 3 rfl) ?_
      cases h
      exact W.iret hx hb hr (fun t ht hW => ⟨⟨_, (), rfl, rfl, by rw [ht]; exact hP, hD⟩, hS.F ht⟩) hS.2.2 d_Reader_takeSign_41
    · replace h := (if_neg c8).symm.trans h
      refine lv_aload_n hx hb d_Reader_takeSign_28 rfl (lv_at hl 0 rfl) ?_
      refine lv_iconst (v := 1) hx hb d_Reader_takeSign_29 (by decide) ?_
      refine lv_iload_n hx hb d_Reader_takeSign_30 rfl (lv_at hl 2 rfl) ?_
      obtain ⟨r10, hr10, h⟩ := Option.bind_eq_some_iff.mp h
      refine cl_I (wr := (pic_Query g a_query query)) [0, 1, 2, 3] [4, 5, 6, 7, 8, 9, 10, 11, 12, 13, 14] rfl rfl rfl (by decide) hP hD hS hA (va_runV (As := [.int (1 : Int32), .int x2]) (rest := []) ⟨hx, hb, hml, hown, htb⟩ (c_Reader_fail l g F a_t (a_query 0) r_span t (1 : Int32) x2 _ hr10 H.size) (cw_V htb mb_Reader_fail (htb _ L_Reader_66) rfl rfl ⟨Nat.le_of_ble_eq_true rfl, Nat.le_of_ble_eq_true rfl⟩) (pre_V (va_recv hK hP (ci := 3) (q0 := 0) rfl rfl) (pre_S [0, 1, 2, 3] rfl rfl hP hD hS hA hAA hG)) rfl rfl hl.1 rfl (lv_room (Nat.le_of_ble_eq_true rfl)) d_Reader_takeSign_31 ⟨Nat.zero_le _, Nat.zero_le _⟩) (fun H locs hP hD hS => ?_)
      have hP : va_P (gD g) vwCl ((pic_Reader g a_t (a_query 0) r_span r10.2) ++ (pic_Query g a_query query)) H := hP.sub [11, 12, 13, 14, 0, 1, 2, 3, 4, 5, 6, 7, 8, 9, 10] rfl
      have hD : va_D A ((pic_Reader g a_t (a_query 0) r_span r10.2) ++ (pic_Query g a_query query)) := hD.sub [11, 12, 13, 14, 0, 1, 2, 3, 4, 5, 6, 7, 8, 9, 10] rfl rfl
      cases h
      exact W.iret hx hb hr (fun t ht hW => ⟨⟨_, (), rfl, rfl, by rw [ht]; exact hP, hD⟩, hS.F ht⟩) hS.2.2 d_Reader_takeSign_34
  · replace h := (if_pos c7).symm.trans h
    refine lv_aload_n hx hb d_Reader_takeSign_6 rfl (lv_at hl 0 rfl) ?_
    obtain ⟨r11, hr11, h⟩ := Option.bind_eq_some_iff.mp h
    refine cl_V (wr := []) [0, 1, 2, 3, 4, 5, 6, 7, 8, 9, 10, 11, 12, 13, 14] [] rfl rfl rfl (by decide) hP hD hS hA (va_runV (As := []) (rest := []) ⟨hx, hb, hml, hown, htb⟩ (c_Reader_beginOperand l g F a_t a_query r_span t query _ hr11 H.size) (cw_V htb mb_Reader_beginOperand (htb _ L_Reader_102) rfl rfl ⟨Nat.le_of_ble_eq_true rfl, Nat.le_of_ble_eq_true rfl⟩) (pre_V (va_recv hK hP (ci := 3) (q0 := 0) rfl rfl) (pre_S [0, 1, 2, 3, 4, 5, 6, 7, 8, 9, 10, 11, 12, 13, 14] rfl rfl hP hD hS hA hAA hG)) rfl rfl hl.1 rfl (lv_room (Nat.le_of_ble_eq_true rfl)) d_Reader_takeSign_7 ⟨Nat.zero_le _, Nat.zero_le _⟩) (fun H locs hP hD hS => ?_)
    have hP : va_P (gD g) vwCl ((pic_Reader g a_t (a_query 0) r_span r11.1) ++ (pic_Query g a_query r11.2)) H := hP.sub [0, 1, 2, 3, 4, 5, 6, 7, 8, 9, 10, 11, 12, 13, 14] rfl
    have hD : va_D A ((pic_Reader g a_t (a_query 0) r_span r11.1) ++ (pic_Query g a_query r11.2)) := hD.sub [0, 1, 2, 3, 4, 5, 6, 7, 8, 9, 10, 11, 12, 13, 14] rfl rfl
    refine lv_aload_n hx hb d_Reader_takeSign_10 rfl (lv_at hl 0 rfl) ?_
    refine va_get (D := gD g) (ci := 3) (v := .ref (a_query 0)) (C := R_Reader) (T := T_Reader) (N := 9) hx hb htb in_Reader hown hK hP 0 rfl rfl 0 (by decide) (htb _ L_Reader_12) (fun _ h9 => h9) rfl d_Reader_takeSign_11 ?_
    refine lv_bipush (v := -2) hx hb d_Reader_takeSign_14 (by decide) ?_
    obtain ⟨r12, hr12, h⟩ := Option.bind_eq_some_iff.mp h
    refine cl_V (wr := (pic_Reader g a_t (a_query 0) r_span r11.1)) [4, 5, 6, 7, 8, 9, 10, 11, 12, 13, 14] [0, 1, 2, 3] rfl rfl rfl (by decide) hP hD hS hA (va_runV (As := [.int (-2 : Int32)]) (rest := []) ⟨hx, hb, hml, hown, htb⟩ (c_Query_append l g F a_query r11.2 (-2 : Int32) _ hr12 H.size) (cw_V htb mb_Query_append (htb _ L_Reader_105) rfl rfl ⟨Nat.le_of_ble_eq_true rfl, Nat.le_of_ble_eq_true rfl⟩) (pre_V (va_recv hK hP (ci := 1) (q0 := 4) rfl rfl) (pre_S [4, 5, 6, 7, 8, 9, 10, 11, 12, 13, 14] rfl rfl hP hD hS hA hAA hG)) rfl rfl hl.1 rfl (lv_room (Nat.le_of_ble_eq_true rfl)) d_Reader_takeSign_16 ⟨Nat.zero_le _, Nat.zero_le _⟩) (fun H locs hP hD hS => ?_)
    have hP : va_P (gD g) vwCl ((pic_Reader g a_t (a_query 0) r_span r11.1) ++ (pic_Query g a_query r12)) H := hP.sub [0, 1, 2, 3, 4, 5, 6, 7, 8, 9, 10, 11, 12, 13, 14] rfl
    have hD : va_D A ((pic_Reader g a_t (a_query 0) r_span r11.1) ++ (pic_Query g a_query r12)) := hD.sub [0, 1, 2, 3, 4, 5, 6, 7, 8, 9, 10, 11, 12, 13, 14] rfl rfl
    refine lv_iload_n hx hb d_Reader_takeSign_19 rfl (lv_at hl 3 rfl) ?_
    cases h
    exact W.iret hx hb hr (fun t ht hW => ⟨⟨_, (), rfl, rfl, by rw [ht]; exact hP, hD⟩, hS.F ht⟩) hS.2.2 d_Reader_takeSign_20
theorem c_Reader_takeSign (l : Launch) (g : Gz) (F : Nat) (a_t : Nat → Nat) (a_query : Nat → Nat) (r_span : Nat) (t : StI) (query : StI) (x1 : Int32) (x2 : Int32) (x3 : Int32) (res : Int32 × StI × StI) (h : Reader_takeSign F t query x1 x2 x3 = some res) : ∀ sz : Nat, Met l y_Reader_takeSign (.code y_Reader_takeSign prog_6_method_8_code 4 (some .int) :: TBL) rm_Reader_takeSign (va_Pc [.ref (a_t 0), .int x1, .int x2, .int x3] (Pre0 g ((pic_Reader g a_t (a_query 0) r_span t) ++ (pic_Query g a_query query)) sz)) (EI g ((pic_Reader g a_t (a_query 0) r_span res.2.1) ++ (pic_Query g a_query res.2.2)) res.1 (va_A ((pic_Reader g a_t (a_query 0) r_span t) ++ (pic_Query g a_query query)) sz)) 0 0 (va_A ((pic_Reader g a_t (a_query 0) r_span t) ++ (pic_Query g a_query query)) sz) :=
  ct_w (Qc := fun A => EI g ((pic_Reader g a_t (a_query 0) r_span res.2.1) ++ (pic_Query g a_query res.2.2)) res.1 A) (by decide) (Nat.le_of_ble_eq_true rfl) (fun p e s m args below meth c A hC => k_Reader_takeSign hC t query x1 x2 x3 res h)
def Reader_takeClosing_14 (F : Nat) (t : StI) (x1 : Int32) : Option (Int32 × StI) := (Reader_fail F t (1 : Int32) x1).bind fun r5 => some (r5.1, r5.2)
def Reader_takeClosing (F : Nat) (t : StI) (x1 : Int32) : Option (Int32 × StI) := if (t 4 0) = 0 then if 0 < (t 5 0) then letS (va_up t 5 (fun _ => ((t 5 0) - (1 : Int32)))) fun t_8 => some ((x1 + (1 : Int32)), t_8) else Reader_takeClosing_14 F t x1 else Reader_takeClosing_14 F t x1
set_option maxHeartbeats 4000000 in
set_option maxRecDepth 100000 in
theorem k_Reader_takeClosing_14 {p : Program} {l : Launch} {e : Env} {s : State} {m : MethodId} {args : Array Value} {below : List Frame} {meth : Method} {c : Code} {g : Gz} {A : Nat → Prop} {F : Nat} {a_t : Nat → Nat} {r_query r_span : Nat} (hC : Cx prog_6_method_7_code 2 (some .int) R_Reader p s m args meth c g A A) : ∀ (t : StI) (x1 : Int32) (res : Int32 × StI), Reader_takeClosing_14 F t x1 = some res → Go p l e rm_Reader_takeClosing s m args below meth c g A A 2 (MQ below (EI g ((pic_Reader g a_t r_query r_span res.2)) res.1 A) args s 0 0 A) ((pic_Reader g a_t r_query r_span t)) [(0, .ref (a_t 0)), (1, .int x1)] 14 [] := by
  obtain ⟨hx, hb, hr, hml, hown, htb, hlocks, hA, hAA, hG⟩ := id hC
  have hK := hG.1
  intro t x1 res h H locs ls hP hD hS hl
  rw [Reader_takeClosing_14] at h
  refine lv_aload_n hx hb d_Reader_takeClosing_14 rfl (lv_at hl 0 rfl) ?_
  refine lv_iconst (v := 1) hx hb d_Reader_takeClosing_15 (by decide) ?_
  refine lv_iload_n hx hb d_Reader_takeClosing_16 rfl (lv_at hl 1 rfl) ?_
  obtain ⟨r5, hr5, h⟩ := Option.bind_eq_some_iff.mp h
  refine cl_I (wr := []) [0, 1, 2, 3] [] rfl rfl rfl (by decide) hP hD hS hA (va_runV (As := [.int (1 : Int32), .int x1]) (rest := []) ⟨hx, hb, hml, hown, htb⟩ (c_Reader_fail l g F a_t r_query r_span t (1 : Int32) x1 _ hr5 H.size) (cw_V htb mb_Reader_fail (htb _ L_Reader_66) rfl rfl ⟨Nat.le_of_ble_eq_true rfl, Nat.le_of_ble_eq_true rfl⟩) (pre_V (va_recv hK hP (ci := 3) (q0 := 0) rfl rfl) (pre_S [0, 1, 2, 3] rfl rfl hP hD hS hA hAA hG)) rfl rfl hl.1 rfl (lv_room (Nat.le_of_ble_eq_true rfl)) d_Reader_takeClosing_17 ⟨Nat.zero_le _, Nat.zero_le _⟩) (fun H locs hP hD hS => ?_)
  have hP : va_P (gD g) vwCl ((pic_Reader g a_t r_query r_span r5.2)) H := hP.sub [0, 1, 2, 3] rfl
  have hD : va_D A ((pic_Reader g a_t r_query r_span r5.2)) := hD.sub [0, 1, 2, 3] rfl rfl
  cases h
  exact W.iret hx hb hr (fun t ht hW => ⟨⟨_, (), rfl, rfl, by rw [ht]; exact hP, hD⟩, hS.F ht⟩) hS.2.2 d_Reader_takeClosing_20
set_option maxHeartbeats 4000000 in
set_option maxRecDepth 100000 in
theorem k_Reader_takeClosing {p : Program} {l : Launch} {e : Env} {s : State} {m : MethodId} {args : Array Value} {below : List Frame} {meth : Method} {c : Code} {g : Gz} {A : Nat → Prop} {F : Nat} {a_t : Nat → Nat} {r_query r_span : Nat} (hC : Cx prog_6_method_7_code 2 (some .int) R_Reader p s m args meth c g A A) : ∀ (t : StI) (x1 : Int32) (res : Int32 × StI), Reader_takeClosing F t x1 = some res → Go p l e rm_Reader_takeClosing s m args below meth c g A A 2 (MQ below (EI g ((pic_Reader g a_t r_query r_span res.2)) res.1 A) args s 0 0 A) ((pic_Reader g a_t r_query r_span t)) [(0, .ref (a_t 0)), (1, .int x1)] 0 [] := by
  obtain ⟨hx, hb, hr, hml, hown, htb, hlocks, hA, hAA, hG⟩ := id hC
  have hK := hG.1
  intro t x1 res h H locs ls hP hD hS hl
  rw [Reader_takeClosing] at h
  refine lv_aload_n hx hb d_Reader_takeClosing_0 rfl (lv_at hl 0 rfl) ?_
  refine va_get (D := gD g) (ci := 3) (v := .int (t 4 0)) (C := R_Reader) (T := T_Reader) (N := 9) hx hb htb in_Reader hown hK hP 0 rfl rfl 4 (by decide) (htb _ L_Reader_32) (fun _ h9 => h9) rfl d_Reader_takeClosing_1 ?_
  refine lv_if_ne (tgt := 14) hx hb d_Reader_takeClosing_4 (by decide) (fun c6 => ?_) (fun c6 => ?_)
  · replace h := (if_neg c6).symm.trans h
    exact k_Reader_takeClosing_14 hC _ _ _ h _ _ _ hP hD hS (lv_sub hl [0, 1] rfl)
  · replace h := (if_pos c6).symm.trans h
    refine lv_aload_n hx hb d_Reader_takeClosing_7 rfl (lv_at hl 0 rfl) ?_
    refine va_get (D := gD g) (ci := 3) (v := .int (t 5 0)) (C := R_Reader) (T := T_Reader) (N := 9) hx hb htb in_Reader hown hK hP 0 rfl rfl 5 (by decide) (htb _ L_Reader_36) (fun _ h9 => h9) rfl d_Reader_takeClosing_8 ?_
    refine lv_if_gt (tgt := 21) hx hb d_Reader_takeClosing_11 (by decide) (fun c7 => ?_) (fun c7 => ?_)
    · replace h := (if_pos c7).symm.trans h
      refine lv_aload_n hx hb d_Reader_takeClosing_21 rfl (lv_at hl 0 rfl) ?_
      refine lv_dup hx hb d_Reader_takeClosing_22 rfl ?_
      refine va_get (D := gD g) (ci := 3) (v := .int (t 5 0)) (C := R_Reader) (T := T_Reader) (N := 9) hx hb htb in_Reader hown hK hP 0 rfl rfl 5 (by decide) (htb _ L_Reader_36) (fun _ h9 => h9) rfl d_Reader_takeClosing_23 ?_
      refine lv_iconst (v := 1) hx hb d_Reader_takeClosing_26 (by decide) ?_
      refine lv_isub hx hb d_Reader_takeClosing_27 ?_
      refine va_put (D := gD g) (ci := 3) (v := .int ((t 5 0) - (1 : Int32))) (ty := .int) (C := R_Reader) (T := T_Reader) (N := 9) hx hb htb in_Reader ty_Reader ty_Reader_ok nm_Reader hown hK hP hD hS 0 rfl rfl 5 (by decide) (htb _ L_Reader_36) (fun _ h9 => h9) rfl (by decide +kernel) rfl rfl (Nat.le_of_ble_eq_true rfl) d_Reader_takeClosing_28 (fun H locs hP hD hS => ?_)
      obtain ⟨t_8, et_8, h⟩ := letS_el h
      have hP : va_P (gD g) vwCl ((pic_Reader g a_t r_query r_span t_8)) H := by rw [et_8]; exact hP
      have hD : va_D A ((pic_Reader g a_t r_query r_span t_8)) := by rw [et_8]; exact hD
      refine lv_iload_n hx hb d_Reader_takeClosing_31 rfl (lv_at hl 1 rfl) ?_
      refine lv_iconst (v := 1) hx hb d_Reader_takeClosing_32 (by decide) ?_
      refine lv_iadd hx hb d_Reader_takeClosing_33 ?_
      cases h
      exact W.iret hx hb hr (fun t ht hW => ⟨⟨_, (), rfl, rfl, by rw [ht]; exact hP, hD⟩, hS.F ht⟩) hS.2.2 d_Reader_takeClosing_34
    · replace h := (if_neg c7).symm.trans h
      exact k_Reader_takeClosing_14 hC _ _ _ h _ _ _ hP hD hS (lv_sub hl [0, 1] rfl)
theorem c_Reader_takeClosing (l : Launch) (g : Gz) (F : Nat) (a_t : Nat → Nat) (r_query : Nat) (r_span : Nat) (t : StI) (x1 : Int32) (res : Int32 × StI) (h : Reader_takeClosing F t x1 = some res) : ∀ sz : Nat, Met l y_Reader_takeClosing (.code y_Reader_takeClosing prog_6_method_7_code 2 (some .int) :: TBL) rm_Reader_takeClosing (va_Pc [.ref (a_t 0), .int x1] (Pre0 g ((pic_Reader g a_t r_query r_span t)) sz)) (EI g ((pic_Reader g a_t r_query r_span res.2)) res.1 (va_A ((pic_Reader g a_t r_query r_span t)) sz)) 0 0 (va_A ((pic_Reader g a_t r_query r_span t)) sz) :=
  ct_w (Qc := fun A => EI g ((pic_Reader g a_t r_query r_span res.2)) res.1 A) (by decide) (Nat.le_of_ble_eq_true rfl) (fun p e s m args below meth c A hC => k_Reader_takeClosing hC t x1 res h)
def Reader_takeOpening (F : Nat) (t : StI) (query : StI) (x1 : Int32) : Option (Int32 × StI × StI) := if (t 5 0) < (20 : Int32) then (Reader_beginOperand F t query).bind fun r7 => letS (va_up r7.1 5 (fun _ => ((r7.1 5 0) + (1 : Int32)))) fun t_8 => (Reader_beginAny F t_8 r7.2).bind fun r9 => some ((x1 + (1 : Int32)), r9, r7.2) else (Reader_fail F t (5 : Int32) x1).bind fun r10 => some (r10.1, r10.2, query)
set_option maxHeartbeats 4000000 in
set_option maxRecDepth 100000 in
theorem k_Reader_takeOpening {p : Program} {l : Launch} {e : Env} {s : State} {m : MethodId} {args : Array Value} {below : List Frame} {meth : Method} {c : Code} {g : Gz} {A : Nat → Prop} {F : Nat} {a_t a_query : Nat → Nat} {r_span : Nat} (hC : Cx prog_6_method_6_code 2 (some .int) R_Reader p s m args meth c g A A) : ∀ (t : StI) (query : StI) (x1 : Int32) (res : Int32 × StI × StI), Reader_takeOpening F t query x1 = some res → Go p l e rm_Reader_takeOpening s m args below meth c g A A 2 (MQ below (EI g ((pic_Reader g a_t (a_query 0) r_span res.2.1) ++ (pic_Query g a_query res.2.2)) res.1 A) args s 0 0 A) ((pic_Reader g a_t (a_query 0) r_span t) ++ (pic_Query g a_query query)) [(0, .ref (a_t 0)), (1, .int x1)] 0 [] := by
  obtain ⟨hx, hb, hr, hml, hown, htb, hlocks, hA, hAA, hG⟩ := id hC
  have hK := hG.1
  intro t query x1 res h H locs ls hP hD hS hl
  rw [Reader_takeOpening] at h
  refine lv_aload_n hx hb d_Reader_takeOpening_0 rfl (lv_at hl 0 rfl) ?_
  refine va_get (D := gD g) (ci := 3) (v := .int (t 5 0)) (C := R_Reader) (T := T_Reader) (N := 9) hx hb htb in_Reader hown hK hP 0 rfl rfl 5 (by decide) (htb _ L_Reader_36) (fun _ h9 => h9) rfl d_Reader_takeOpening_1 ?_
  refine lv_bipush (v := 20) hx hb d_Reader_takeOpening_4 (by decide) ?_
  refine lv_icmp_lt (tgt := 16) hx hb d_Reader_takeOpening_6 (by decide) (fun c6 => ?_) (fun c6 => ?_)
  · replace h := (if_pos c6).symm.trans h
    refine lv_aload_n hx hb d_Reader_takeOpening_16 rfl (lv_at hl 0 rfl) ?_
    obtain ⟨r7, hr7, h⟩ := Option.bind_eq_some_iff.mp h
    refine cl_V (wr := []) [0, 1, 2, 3, 4, 5, 6, 7, 8, 9, 10, 11, 12, 13, 14] [] rfl rfl rfl (by decide) hP hD hS hA (va_runV (As := []) (rest := []) ⟨hx, hb, hml, hown, htb⟩ (c_Reader_beginOperand l g F a_t a_query r_span t query _ hr7 H.size) (cw_V htb mb_Reader_beginOperand (htb _ L_Reader_102) rfl rfl ⟨Nat.le_of_ble_eq_true rfl, Nat.le_of_ble_eq_true rfl⟩) (pre_V (va_recv hK hP (ci := 3) (q0 := 0) rfl rfl) (pre_S [0, 1, 2, 3, 4, 5, 6, 7, 8, 9, 10, 11, 12, 13, 14] rfl rfl hP hD hS hA hAA hG)) rfl rfl hl.1 rfl (lv_room (Nat.le_of_ble_eq_true rfl)) d_Reader_takeOpening_17 ⟨Nat.zero_le _, Nat.zero_le _⟩) (fun H locs hP hD hS => ?_)
    have hP : va_P (gD g) vwCl ((pic_Reader g a_t (a_query 0) r_span r7.1) ++ (pic_Query g a_query r7.2)) H := hP.sub [0, 1, 2, 3, 4, 5, 6, 7, 8, 9, 10, 11, 12, 13, 14] rfl
    have hD : va_D A ((pic_Reader g a_t (a_query 0) r_span r7.1) ++ (pic_Query g a_query r7.2)) := hD.sub [0, 1, 2, 3, 4, 5, 6, 7, 8, 9, 10, 11, 12, 13, 14] rfl rfl
    refine lv_aload_n hx hb d_Reader_takeOpening_20 rfl (lv_at hl 0 rfl) ?_
    refine lv_dup hx hb d_Reader_takeOpening_21 rfl ?_
    refine va_get (D := gD g) (ci := 3) (v := .int (r7.1 5 0)) (C := R_Reader) (T := T_Reader) (N := 9) hx hb htb in_Reader hown hK hP 0 rfl rfl 5 (by decide) (htb _ L_Reader_36) (fun _ h9 => h9) rfl d_Reader_takeOpening_22 ?_
    refine lv_iconst (v := 1) hx hb d_Reader_takeOpening_25 (by decide) ?_
    refine lv_iadd hx hb d_Reader_takeOpening_26 ?_
    refine va_put (D := gD g) (ci := 3) (v := .int ((r7.1 5 0) + (1 : Int32))) (ty := .int) (C := R_Reader) (T := T_Reader) (N := 9) hx hb htb in_Reader ty_Reader ty_Reader_ok nm_Reader hown hK hP hD hS 0 rfl rfl 5 (by decide) (htb _ L_Reader_36) (fun _ h9 => h9) rfl (by decide +kernel) rfl rfl (Nat.le_of_ble_eq_true rfl) d_Reader_takeOpening_27 (fun H locs hP hD hS => ?_)
    obtain ⟨t_8, et_8, h⟩ := letS_el h
    have hP : va_P (gD g) vwCl ((pic_Reader g a_t (a_query 0) r_span t_8) ++ (pic_Query g a_query r7.2)) H := by rw [et_8]; exact hP
    have hD : va_D A ((pic_Reader g a_t (a_query 0) r_span t_8) ++ (pic_Query g a_query r7.2)) := by rw [et_8]; exact hD
    refine lv_aload_n hx hb d_Reader_takeOpening_30 rfl (lv_at hl 0 rfl) ?_
    obtain ⟨r9, hr9, h⟩ := Option.bind_eq_some_iff.mp h
    refine cl_V (wr := []) [0, 1, 2, 3, 4, 5, 6, 7, 8, 9, 10, 11, 12, 13, 14] [] rfl rfl rfl (by decide) hP hD hS hA (va_runV (As := []) (rest := []) ⟨hx, hb, hml, hown, htb⟩ (c_Reader_beginAny l g F a_t a_query r_span t_8 r7.2 _ hr9 H.size) (cw_V htb mb_Reader_beginAny (htb _ L_Reader_53) rfl rfl ⟨Nat.le_of_ble_eq_true rfl, Nat.le_of_ble_eq_true rfl⟩) (pre_V (va_recv hK hP (ci := 3) (q0 := 0) rfl rfl) (pre_S [0, 1, 2, 3, 4, 5, 6, 7, 8, 9, 10, 11, 12, 13, 14] rfl rfl hP hD hS hA hAA hG)) rfl rfl hl.1 rfl (lv_room (Nat.le_of_ble_eq_true rfl)) d_Reader_takeOpening_31 ⟨Nat.zero_le _, Nat.zero_le _⟩) (fun H locs hP hD hS => ?_)
    have hP : va_P (gD g) vwCl ((pic_Reader g a_t (a_query 0) r_span r9) ++ (pic_Query g a_query r7.2)) H := hP.sub [0, 1, 2, 3, 4, 5, 6, 7, 8, 9, 10, 11, 12, 13, 14] rfl
    have hD : va_D A ((pic_Reader g a_t (a_query 0) r_span r9) ++ (pic_Query g a_query r7.2)) := hD.sub [0, 1, 2, 3, 4, 5, 6, 7, 8, 9, 10, 11, 12, 13, 14] rfl rfl
    refine lv_iload_n hx hb d_Reader_takeOpening_34 rfl (lv_at hl 1 rfl) ?_
    refine lv_iconst (v := 1) hx hb d_Reader_takeOpening_35 (by decide) ?_
    refine lv_iadd hx hb d_Reader_takeOpening_36 ?_
    cases h
    exact W.iret hx hb hr (fun t ht hW => ⟨⟨_, (), rfl, rfl, by rw [ht]; exact hP, hD⟩, hS.F ht⟩) hS.2.2 d_Reader_takeOpening_37
  · replace h := (if_neg c6).symm.trans h
    refine lv_aload_n hx hb d_Reader_takeOpening_9 rfl (lv_at hl 0 rfl) ?_
    refine lv_iconst (v := 5) hx hb d_Reader_takeOpening_10 (by decide) ?_
    refine lv_iload_n hx hb d_Reader_takeOpening_11 rfl (lv_at hl 1 rfl) ?_
    obtain ⟨r10, hr10, h⟩ := Option.bind_eq_some_iff.mp h
    refine cl_I (wr := (pic_Query g a_query query)) [0, 1, 2, 3] [4, 5, 6, 7, 8, 9, 10, 11, 12, 13, 14] rfl rfl rfl (by decide) hP hD hS hA (va_runV (As := [.int (5 : Int32), .int x1]) (rest := []) ⟨hx, hb, hml, hown, htb⟩ (c_Reader_fail l g F a_t (a_query 0) r_span t (5 : Int32) x1 _ hr10 H.size) (cw_V htb mb_Reader_fail (htb _ L_Reader_66) rfl rfl ⟨Nat.le_of_ble_eq_true rfl, Nat.le_of_ble_eq_true rfl⟩) (pre_V (va_recv hK hP (ci := 3) (q0 := 0) rfl rfl) (pre_S [0, 1, 2, 3] rfl rfl hP hD hS hA hAA hG)) rfl rfl hl.1 rfl (lv_room (Nat.le_of_ble_eq_true rfl)) d_Reader_takeOpening_12 ⟨Nat.zero_le _, Nat.zero_le _⟩) (fun H locs hP hD hS => ?_)
    have hP : va_P (gD g) vwCl ((pic_Reader g a_t (a_query 0) r_span r10.2) ++ (pic_Query g a_query query)) H := hP.sub [11, 12, 13, 14, 0, 1, 2, 3, 4, 5, 6, 7, 8, 9, 10] rfl
    have hD : va_D A ((pic_Reader g a_t (a_query 0) r_span r10.2) ++ (pic_Query g a_query query)) := hD.sub [11, 12, 13, 14, 0, 1, 2, 3, 4, 5, 6, 7, 8, 9, 10] rfl rfl
    cases h
    exact W.iret hx hb hr (fun t ht hW => ⟨⟨_, (), rfl, rfl, by rw [ht]; exact hP, hD⟩, hS.F ht⟩) hS.2.2 d_Reader_takeOpening_15
theorem c_Reader_takeOpening (l : Launch) (g : Gz) (F : Nat) (a_t : Nat → Nat) (a_query : Nat → Nat) (r_span : Nat) (t : StI) (query : StI) (x1 : Int32) (res : Int32 × StI × StI) (h : Reader_takeOpening F t query x1 = some res) : ∀ sz : Nat, Met l y_Reader_takeOpening (.code y_Reader_takeOpening prog_6_method_6_code 2 (some .int) :: TBL) rm_Reader_takeOpening (va_Pc [.ref (a_t 0), .int x1] (Pre0 g ((pic_Reader g a_t (a_query 0) r_span t) ++ (pic_Query g a_query query)) sz)) (EI g ((pic_Reader g a_t (a_query 0) r_span res.2.1) ++ (pic_Query g a_query res.2.2)) res.1 (va_A ((pic_Reader g a_t (a_query 0) r_span t) ++ (pic_Query g a_query query)) sz)) 0 0 (va_A ((pic_Reader g a_t (a_query 0) r_span t) ++ (pic_Query g a_query query)) sz) :=
  ct_w (Qc := fun A => EI g ((pic_Reader g a_t (a_query 0) r_span res.2.1) ++ (pic_Query g a_query res.2.2)) res.1 A) (by decide) (Nat.le_of_ble_eq_true rfl) (fun p e s m args below meth c A hC => k_Reader_takeOpening hC t query x1 res h)
def Reader_takeWord_92 (F : Nat) (t : StI) (query : StI) (span : StI) (x1 : Int32) : Option (Int32 × StI × StI × StI) := (Reader_pastTextBytes F t query x1).bind fun r21 => (Reader_signOf F t query x1 r21).bind fun r22 => if r22 = (-1 : Int32) then (Reader_takeAtom F t query span (0 : Int32) x1 x1).bind fun r25 => some (r25.1, r25.2.1, r25.2.2.1, r25.2.2.2) else (Reader_takeSign F t query r22 x1 r21).bind fun r24 => some (r24.1, r24.2.1, r24.2.2, span)
def Reader_takeWord_53 (F : Nat) (t : StI) (query : StI) (span : StI) (x1 : Int32) : Option (Int32 × StI × StI × StI) := (Reader_pastLetters F t query x1).bind fun r26 => if r26 ≤ x1 then Reader_takeWord_92 F t query span x1 else (Query_byteAt F query r26).bind fun r28 => if r28 = (58 : Int32) then (Reader_fieldOf F t query x1 r26).bind fun r30 => (Reader_takeAtom F t query span r30 x1 (r26 + (1 : Int32))).bind fun r31 => some (r31.1, r31.2.1, r31.2.2.1, r31.2.2.2) else Reader_takeWord_92 F t query span x1
def Reader_takeWord (F : Nat) (t : StI) (query : StI) (span : StI) (x1 : Int32) : Option (Int32 × StI × StI × StI) := (Query_byteAt F query x1).bind fun r32 => if r32 = (40 : Int32) then (Reader_takeOpening F t query x1).bind fun r40 => some (r40.1, r40.2.1, r40.2.2, span) else if r32 = (41 : Int32) then (Reader_takeClosing F t x1).bind fun r39 => some (r39.1, r39.2, query, span) else if r32 = (34 : Int32) then Reader_takeWord_53 F t query span x1 else (MQ_isTextByte F r32).bind fun r36 => if r36 = 0 then (Reader_fail F t (2 : Int32) x1).bind fun r38 => some (r38.1, r38.2, query, span) else Reader_takeWord_53 F t query span x1
set_option maxHeartbeats 4000000 in
set_option maxRecDepth 100000 in
theorem k_Reader_takeWord_92 {p : Program} {l : Launch} {e : Env} {s : State} {m : MethodId} {args : Array Value} {below : List Frame} {meth : Method} {c : Code} {g : Gz} {A : Nat → Prop} {F : Nat} {a_t a_query a_span : Nat → Nat} (hC : Cx prog_6_method_5_code 6 (some .int) R_Reader p s m args meth c g A A) : ∀ (t : StI) (query : StI) (span : StI) (x1 : Int32) (res : Int32 × StI × StI × StI), Reader_takeWord_92 F t query span x1 = some res → Go p l e rm_Reader_takeWord s m args below meth c g A A 6 (MQ below (EI g ((pic_Reader g a_t (a_query 0) (a_span 0) res.2.1) ++ (pic_Query g a_query res.2.2.1) ++ (pic_Span g a_span res.2.2.2)) res.1 A) args s 0 0 A) ((pic_Reader g a_t (a_query 0) (a_span 0) t) ++ (pic_Query g a_query query) ++ (pic_Span g a_span span)) [(0, .ref (a_t 0)), (1, .int x1)] 92 [] := by
  obtain ⟨hx, hb, hr, hml, hown, htb, hlocks, hA, hAA, hG⟩ := id hC
  have hK := hG.1
  intro t query span x1 res h H locs ls hP hD hS hl
  rw [Reader_takeWord_92] at h
  refine lv_aload_n hx hb d_Reader_takeWord_92 rfl (lv_at hl 0 rfl) ?_
  refine lv_iload_n hx hb d_Reader_takeWord_93 rfl (lv_at hl 1 rfl) ?_
  obtain ⟨r21, hr21, h⟩ := Option.bind_eq_some_iff.mp h
  refine cl_Ir hP hS hA (va_runV (As := [.int x1]) (rest := []) ⟨hx, hb, hml, hown, htb⟩ (c_Reader_pastTextBytes l g F a_t a_query (a_span 0) t query x1 _ hr21 H.size) (cw_V htb mb_Reader_pastTextBytes (htb _ L_Reader_93) rfl rfl ⟨Nat.le_of_ble_eq_true rfl, Nat.le_of_ble_eq_true rfl⟩) (pre_V (va_recv hK hP (ci := 3) (q0 := 0) rfl rfl) (pre_S [0, 1, 2, 3, 4, 5, 6, 7, 8, 9, 10, 11, 12, 13, 14] rfl rfl hP hD hS hA hAA hG)) rfl rfl hl.1 rfl (lv_room (Nat.le_of_ble_eq_true rfl)) d_Reader_takeWord_94 ⟨Nat.zero_le _, Nat.zero_le _⟩) (fun H locs hP hS => ?_)
  refine lv_istore (lv' := [(4, .int r21), (0, .ref (a_t 0)), (1, .int x1)]) hx hb d_Reader_takeWord_97 hl (by decide) rfl (fun ls hl => ?_)
  refine lv_aload_n hx hb d_Reader_takeWord_99 rfl (lv_at hl 1 rfl) ?_
  refine lv_iload_n hx hb d_Reader_takeWord_100 rfl (lv_at hl 2 rfl) ?_
  refine lv_iload hx hb d_Reader_takeWord_101 (lv_at hl 0 rfl) ?_
  obtain ⟨r22, hr22, h⟩ := Option.bind_eq_some_iff.mp h
  refine cl_Ir hP hS hA (va_runV (As := [.int x1, .int r21]) (rest := []) ⟨hx, hb, hml, hown, htb⟩ (c_Reader_signOf l g F a_t a_query (a_span 0) t query x1 r21 _ hr22 H.size) (cw_V htb mb_Reader_signOf (htb _ L_Reader_96) rfl rfl ⟨Nat.le_of_ble_eq_true rfl, Nat.le_of_ble_eq_true rfl⟩) (pre_V (va_recv hK hP (ci := 3) (q0 := 0) rfl rfl) (pre_S [0, 1, 2, 3, 4, 5, 6, 7, 8, 9, 10, 11, 12, 13, 14] rfl rfl hP hD hS hA hAA hG)) rfl rfl hl.1 rfl (lv_room (Nat.le_of_ble_eq_true rfl)) d_Reader_takeWord_103 ⟨Nat.zero_le _, Nat.zero_le _⟩) (fun H locs hP hS => ?_)
  refine lv_istore (lv' := [(5, .int r22), (4, .int r21), (0, .ref (a_t 0)), (1, .int x1)]) hx hb d_Reader_takeWord_106 hl (by decide) rfl (fun ls hl => ?_)
  refine lv_iload hx hb d_Reader_takeWord_108 (lv_at hl 0 rfl) ?_
  refine lv_iconst (v := -1) hx hb d_Reader_takeWord_110 (by decide) ?_
  refine lv_icmp_ne (tgt := 124) hx hb d_Reader_takeWord_111 (by decide) (fun c23 => ?_) (fun c23 => ?_)
  · replace h := (if_neg c23).symm.trans h
    refine lv_aload_n hx hb d_Reader_takeWord_124 rfl (lv_at hl 2 rfl) ?_
    refine lv_iload hx hb d_Reader_takeWord_125 (lv_at hl 0 rfl) ?_
    refine lv_iload_n hx hb d_Reader_takeWord_127 rfl (lv_at hl 3 rfl) ?_
    refine lv_iload hx hb d_Reader_takeWord_128 (lv_at hl 1 rfl) ?_
    obtain ⟨r24, hr24, h⟩ := Option.bind_eq_some_iff.mp h
    refine cl_I (wr := (pic_Span g a_span span)) [0, 1, 2, 3, 4, 5, 6, 7, 8, 9, 10, 11, 12, 13, 14] [15] rfl rfl rfl (by decide) hP hD hS hA (va_runV (As := [.int r22, .int x1, .int r21]) (rest := []) ⟨hx, hb, hml, hown, htb⟩ (c_Reader_takeSign l g F a_t a_query (a_span 0) t query r22 x1 r21 _ hr24 H.size) (cw_V htb mb_Reader_takeSign (htb _ L_Reader_99) rfl rfl ⟨Nat.le_of_ble_eq_true rfl, Nat.le_of_ble_eq_true rfl⟩) (pre_V (va_recv hK hP (ci := 3) (q0 := 0) rfl rfl) (pre_S [0, 1, 2, 3, 4, 5, 6, 7, 8, 9, 10, 11, 12, 13, 14] rfl rfl hP hD hS hA hAA hG)) rfl rfl hl.1 rfl (lv_room (Nat.le_of_ble_eq_true rfl)) d_Reader_takeWord_130 ⟨Nat.zero_le _, Nat.zero_le _⟩) (fun H locs hP hD hS => ?_)
    have hP : va_P (gD g) vwCl ((pic_Reader g a_t (a_query 0) (a_span 0) r24.2.1) ++ (pic_Query g a_query r24.2.2) ++ (pic_Span g a_span span)) H := hP.sub [1, 2, 3, 4, 5, 6, 7, 8, 9, 10, 11, 12, 13, 14, 15, 0] rfl
    have hD : va_D A ((pic_Reader g a_t (a_query 0) (a_span 0) r24.2.1) ++ (pic_Query g a_query r24.2.2) ++ (pic_Span g a_span span)) := hD.sub [1, 2, 3, 4, 5, 6, 7, 8, 9, 10, 11, 12, 13, 14, 15, 0] rfl rfl
    cases h
    exact W.iret hx hb hr (fun t ht hW => ⟨⟨_, (), rfl, rfl, by rw [ht]; exact hP, hD⟩, hS.F ht⟩) hS.2.2 d_Reader_takeWord_133
  · replace h := (if_pos c23).symm.trans h
    refine lv_aload_n hx hb d_Reader_takeWord_114 rfl (lv_at hl 2 rfl) ?_
    refine lv_iconst (v := 0) hx hb d_Reader_takeWord_115 (by decide) ?_
    refine lv_iload_n hx hb d_Reader_takeWord_116 rfl (lv_at hl 3 rfl) ?_
    refine lv_iload_n hx hb d_Reader_takeWord_117 rfl (lv_at hl 3 rfl) ?_
    obtain ⟨r25, hr25, h⟩ := Option.bind_eq_some_iff.mp h
    refine cl_I (wr := []) [0, 1, 2, 3, 4, 5, 6, 7, 8, 9, 10, 11, 12, 13, 14, 15] [] rfl rfl rfl (by decide) hP hD hS hA (va_runV (As := [.int (0 : Int32), .int x1, .int x1]) (rest := []) ⟨hx, hb, hml, hown, htb⟩ (c_Reader_takeAtom l g F a_t a_query a_span t query span (0 : Int32) x1 x1 _ hr25 H.size) (cw_V htb mb_Reader_takeAtom (htb _ L_Reader_89) rfl rfl ⟨Nat.le_of_ble_eq_true rfl, Nat.le_of_ble_eq_true rfl⟩) (pre_V (va_recv hK hP (ci := 3) (q0 := 0) rfl rfl) (pre_S [0, 1, 2, 3, 4, 5, 6, 7, 8, 9, 10, 11, 12, 13, 14, 15] rfl rfl hP hD hS hA hAA hG)) rfl rfl hl.1 rfl (lv_room (Nat.le_of_ble_eq_true rfl)) d_Reader_takeWord_118 ⟨Nat.zero_le _, Nat.zero_le _⟩) (fun H locs hP hD hS => ?_)
    have hP : va_P (gD g) vwCl ((pic_Reader g a_t (a_query 0) (a_span 0) r25.2.1) ++ (pic_Query g a_query r25.2.2.1) ++ (pic_Span g a_span r25.2.2.2)) H := hP.sub [0, 1, 2, 3, 4, 5, 6, 7, 8, 9, 10, 11, 12, 13, 14, 15] rfl
    have hD : va_D A ((pic_Reader g a_t (a_query 0) (a_span 0) r25.2.1) ++ (pic_Query g a_query r25.2.2.1) ++ (pic_Span g a_span r25.2.2.2)) := hD.sub [0, 1, 2, 3, 4, 5, 6, 7, 8, 9, 10, 11, 12, 13, 14, 15] rfl rfl
    refine lv_goto (tgt := 133) hx hb d_Reader_takeWord_121 (by decide) ?_
    cases h
    exact W.iret hx hb hr (fun t ht hW => ⟨⟨_, (), rfl, rfl, by rw [ht]; exact hP, hD⟩, hS.F ht⟩) hS.2.2 d_Reader_takeWord_133
set_option maxHeartbeats 4000000 in
set_option maxRecDepth 100000 in
theorem k_Reader_takeWord_53 {p : Program} {l : Launch} {e : Env} {s : State} {m : MethodId} {args : Array Value} {below : List Frame} {meth : Method} {c : Code} {g : Gz} {A : Nat → Prop} {F : Nat} {a_t a_query a_span : Nat → Nat} (hC : Cx prog_6_method_5_code 6 (some .int) R_Reader p s m args meth c g A A) : ∀ (t : StI) (query : StI) (span : StI) (x1 : Int32) (res : Int32 × StI × StI × StI), Reader_takeWord_53 F t query span x1 = some res → Go p l e rm_Reader_takeWord s m args below meth c g A A 6 (MQ below (EI g ((pic_Reader g a_t (a_query 0) (a_span 0) res.2.1) ++ (pic_Query g a_query res.2.2.1) ++ (pic_Span g a_span res.2.2.2)) res.1 A) args s 0 0 A) ((pic_Reader g a_t (a_query 0) (a_span 0) t) ++ (pic_Query g a_query query) ++ (pic_Span g a_span span)) [(0, .ref (a_t 0)), (1, .int x1)] 53 [] := by
  obtain ⟨hx, hb, hr, hml, hown, htb, hlocks, hA, hAA, hG⟩ := id hC
  have hK := hG.1
  intro t query span x1 res h H locs ls hP hD hS hl
  rw [Reader_takeWord_53] at h
  refine lv_aload_n hx hb d_Reader_takeWord_53 rfl (lv_at hl 0 rfl) ?_
  refine lv_iload_n hx hb d_Reader_takeWord_54 rfl (lv_at hl 1 rfl) ?_
  obtain ⟨r26, hr26, h⟩ := Option.bind_eq_some_iff.mp h
  refine cl_Ir hP hS hA (va_runV (As := [.int x1]) (rest := []) ⟨hx, hb, hml, hown, htb⟩ (c_Reader_pastLetters l g F a_t a_query (a_span 0) t query x1 _ hr26 H.size) (cw_V htb mb_Reader_pastLetters (htb _ L_Reader_83) rfl rfl ⟨Nat.le_of_ble_eq_true rfl, Nat.le_of_ble_eq_true rfl⟩) (pre_V (va_recv hK hP (ci := 3) (q0 := 0) rfl rfl) (pre_S [0, 1, 2, 3, 4, 5, 6, 7, 8, 9, 10, 11, 12, 13, 14] rfl rfl hP hD hS hA hAA hG)) rfl rfl hl.1 rfl (lv_room (Nat.le_of_ble_eq_true rfl)) d_Reader_takeWord_55 ⟨Nat.zero_le _, Nat.zero_le _⟩) (fun H locs hP hS => ?_)
  refine lv_istore_n (lv' := [(3, .int r26), (0, .ref (a_t 0)), (1, .int x1)]) hx hb d_Reader_takeWord_58 rfl hl (by decide) rfl (fun ls hl => ?_)
  refine lv_iload_n hx hb d_Reader_takeWord_59 rfl (lv_at hl 0 rfl) ?_
  refine lv_iload_n hx hb d_Reader_takeWord_60 rfl (lv_at hl 2 rfl) ?_
  refine lv_icmp_le (tgt := 92) hx hb d_Reader_takeWord_61 (by decide) (fun c27 => ?_) (fun c27 => ?_)
  · replace h := (if_pos c27).symm.trans h
    exact k_Reader_takeWord_92 hC _ _ _ _ _ h _ _ _ hP hD hS (lv_sub hl [1, 2] rfl)
  · replace h := (if_neg c27).symm.trans h
    refine lv_aload_n hx hb d_Reader_takeWord_64 rfl (lv_at hl 1 rfl) ?_
    refine va_get (D := gD g) (ci := 3) (v := .ref (a_query 0)) (C := R_Reader) (T := T_Reader) (N := 9) hx hb htb in_Reader hown hK hP 0 rfl rfl 0 (by decide) (htb _ L_Reader_12) (fun _ h9 => h9) rfl d_Reader_takeWord_65 ?_
    refine lv_iload_n hx hb d_Reader_takeWord_68 rfl (lv_at hl 0 rfl) ?_
    obtain ⟨r28, hr28, h⟩ := Option.bind_eq_some_iff.mp h
    refine cl_Ir hP hS hA (va_runV (As := [.int r26]) (rest := []) ⟨hx, hb, hml, hown, htb⟩ (c_Query_byteAt l g F a_query query r26 _ hr28 H.size) (cw_V htb mb_Query_byteAt (htb _ L_Reader_70) rfl rfl ⟨Nat.le_of_ble_eq_true rfl, Nat.le_of_ble_eq_true rfl⟩) (pre_V (va_recv hK hP (ci := 1) (q0 := 4) rfl rfl) (pre_S [4, 5, 6, 7, 8, 9, 10, 11, 12, 13, 14] rfl rfl hP hD hS hA hAA hG)) rfl rfl hl.1 rfl (lv_room (Nat.le_of_ble_eq_true rfl)) d_Reader_takeWord_69 ⟨Nat.zero_le _, Nat.zero_le _⟩) (fun H locs hP hS => ?_)
    refine lv_bipush (v := 58) hx hb d_Reader_takeWord_72 (by decide) ?_
    refine lv_icmp_ne (tgt := 92) hx hb d_Reader_takeWord_74 (by decide) (fun c29 => ?_) (fun c29 => ?_)
    · replace h := (if_neg c29).symm.trans h
      exact k_Reader_takeWord_92 hC _ _ _ _ _ h _ _ _ hP hD hS (lv_sub hl [1, 2] rfl)
    · replace h := (if_pos c29).symm.trans h
      refine lv_aload_n hx hb d_Reader_takeWord_77 rfl (lv_at hl 1 rfl) ?_
      refine lv_aload_n hx hb d_Reader_takeWord_78 rfl (lv_at hl 1 rfl) ?_
      refine lv_iload_n hx hb d_Reader_takeWord_79 rfl (lv_at hl 2 rfl) ?_
      refine lv_iload_n hx hb d_Reader_takeWord_80 rfl (lv_at hl 0 rfl) ?_
      obtain ⟨r30, hr30, h⟩ := Option.bind_eq_some_iff.mp h
      refine cl_Ir hP hS hA (va_runV (As := [.int x1, .int r26]) (rest := [.ref (a_t 0)]) ⟨hx, hb, hml, hown, htb⟩ (c_Reader_fieldOf l g F a_t a_query (a_span 0) t query x1 r26 _ hr30 H.size) (cw_V htb mb_Reader_fieldOf (htb _ L_Reader_86) rfl rfl ⟨Nat.le_of_ble_eq_true rfl, Nat.le_of_ble_eq_true rfl⟩) (pre_V (va_recv hK hP (ci := 3) (q0 := 0) rfl rfl) (pre_S [0, 1, 2, 3, 4, 5, 6, 7, 8, 9, 10, 11, 12, 13, 14] rfl rfl hP hD hS hA hAA hG)) rfl rfl hl.1 rfl (lv_room (Nat.le_of_ble_eq_true rfl)) d_Reader_takeWord_81 ⟨Nat.zero_le _, Nat.zero_le _⟩) (fun H locs hP hS => ?_)
      refine lv_iload_n hx hb d_Reader_takeWord_84 rfl (lv_at hl 2 rfl) ?_
      refine lv_iload_n hx hb d_Reader_takeWord_85 rfl (lv_at hl 0 rfl) ?_
      refine lv_iconst (v := 1) hx hb d_Reader_takeWord_86 (by decide) ?_
      refine lv_iadd hx hb d_Reader_takeWord_87 ?_
      obtain ⟨r31, hr31, h⟩ := Option.bind_eq_some_iff.mp h
      refine cl_I (wr := []) [0, 1, 2, 3, 4, 5, 6, 7, 8, 9, 10, 11, 12, 13, 14, 15] [] rfl rfl rfl (by decide) hP hD hS hA (va_runV (As := [.int r30, .int x1, .int (r26 + (1 : Int32))]) (rest := []) ⟨hx, hb, hml, hown, htb⟩ (c_Reader_takeAtom l g F a_t a_query a_span t query span r30 x1 (r26 + (1 : Int32)) _ hr31 H.size) (cw_V htb mb_Reader_takeAtom (htb _ L_Reader_89) rfl rfl ⟨Nat.le_of_ble_eq_true rfl, Nat.le_of_ble_eq_true rfl⟩) (pre_V (va_recv hK hP (ci := 3) (q0 := 0) rfl rfl) (pre_S [0, 1, 2, 3, 4, 5, 6, 7, 8, 9, 10, 11, 12, 13, 14, 15] rfl rfl hP hD hS hA hAA hG)) rfl rfl hl.1 rfl (lv_room (Nat.le_of_ble_eq_true rfl)) d_Reader_takeWord_88 ⟨Nat.zero_le _, Nat.zero_le _⟩) (fun H locs hP hD hS => ?_)
      have hP : va_P (gD g) vwCl ((pic_Reader g a_t (a_query 0) (a_span 0) r31.2.1) ++ (pic_Query g a_query r31.2.2.1) ++ (pic_Span g a_span r31.2.2.2)) H := hP.sub [0, 1, 2, 3, 4, 5, 6, 7, 8, 9, 10, 11, 12, 13, 14, 15] rfl
      have hD : va_D A ((pic_Reader g a_t (a_query 0) (a_span 0) r31.2.1) ++ (pic_Query g a_query r31.2.2.1) ++ (pic_Span g a_span r31.2.2.2)) := hD.sub [0, 1, 2, 3, 4, 5, 6, 7, 8, 9, 10, 11, 12, 13, 14, 15] rfl rfl
      cases h
      exact W.iret hx hb hr (fun t ht hW => ⟨⟨_, (), rfl, rfl, by rw [ht]; exact hP, hD⟩, hS.F ht⟩) hS.2.2 d_Reader_takeWord_91
set_option maxHeartbeats 4000000 in
set_option maxRecDepth 100000 in
theorem k_Reader_takeWord {p : Program} {l : Launch} {e : Env} {s : State} {m : MethodId} {args : Array Value} {below : List Frame} {meth : Method} {c : Code} {g : Gz} {A : Nat → Prop} {F : Nat} {a_t a_query a_span : Nat → Nat} (hC : Cx prog_6_method_5_code 6 (some .int) R_Reader p s m args meth c g A A) : ∀ (t : StI) (query : StI) (span : StI) (x1 : Int32) (res : Int32 × StI × StI × StI), Reader_takeWord F t query span x1 = some res → Go p l e rm_Reader_takeWord s m args below meth c g A A 6 (MQ below (EI g ((pic_Reader g a_t (a_query 0) (a_span 0) res.2.1) ++ (pic_Query g a_query res.2.2.1) ++ (pic_Span g a_span res.2.2.2)) res.1 A) args s 0 0 A) ((pic_Reader g a_t (a_query 0) (a_span 0) t) ++ (pic_Query g a_query query) ++ (pic_Span g a_span span)) [(0, .ref (a_t 0)), (1, .int x1)] 0 [] := by
  obtain ⟨hx, hb, hr, hml, hown, htb, hlocks, hA, hAA, hG⟩ := id hC
  have hK := hG.1
  intro t query span x1 res h H locs ls hP hD hS hl
  rw [Reader_takeWord] at h
  refine lv_aload_n hx hb d_Reader_takeWord_0 rfl (lv_at hl 0 rfl) ?_
  refine va_get (D := gD g) (ci := 3) (v := .ref (a_query 0)) (C := R_Reader) (T := T_Reader) (N := 9) hx hb htb in_Reader hown hK hP 0 rfl rfl 0 (by decide) (htb _ L_Reader_12) (fun _ h9 => h9) rfl d_Reader_takeWord_1 ?_
  refine lv_iload_n hx hb d_Reader_takeWord_4 rfl (lv_at hl 1 rfl) ?_
  obtain ⟨r32, hr32, h⟩ := Option.bind_eq_some_iff.mp h
  refine cl_Ir hP hS hA (va_runV (As := [.int x1]) (rest := []) ⟨hx, hb, hml, hown, htb⟩ (c_Query_byteAt l g F a_query query x1 _ hr32 H.size) (cw_V htb mb_Query_byteAt (htb _ L_Reader_70) rfl rfl ⟨Nat.le_of_ble_eq_true rfl, Nat.le_of_ble_eq_true rfl⟩) (pre_V (va_recv hK hP (ci := 1) (q0 := 4) rfl rfl) (pre_S [4, 5, 6, 7, 8, 9, 10, 11, 12, 13, 14] rfl rfl hP hD hS hA hAA hG)) rfl rfl hl.1 rfl (lv_room (Nat.le_of_ble_eq_true rfl)) d_Reader_takeWord_5 ⟨Nat.zero_le _, Nat.zero_le _⟩) (fun H locs hP hS => ?_)
  refine lv_istore_n (lv' := [(2, .int r32), (0, .ref (a_t 0)), (1, .int x1)]) hx hb d_Reader_takeWord_8 rfl hl (by decide) rfl (fun ls hl => ?_)
  refine lv_iload_n hx hb d_Reader_takeWord_9 rfl (lv_at hl 0 rfl) ?_
  refine lv_bipush (v := 40) hx hb d_Reader_takeWord_10 (by decide) ?_
  refine lv_icmp_ne (tgt := 21) hx hb d_Reader_takeWord_12 (by decide) (fun c33 => ?_) (fun c33 => ?_)
  · replace h := (if_neg c33).symm.trans h
    refine lv_iload_n hx hb d_Reader_takeWord_21 rfl (lv_at hl 0 rfl) ?_
    refine lv_bipush (v := 41) hx hb d_Reader_takeWord_22 (by decide) ?_
    refine lv_icmp_ne (tgt := 33) hx hb d_Reader_takeWord_24 (by decide) (fun c34 => ?_) (fun c34 => ?_)
    · replace h := (if_neg c34).symm.trans h
      refine lv_iload_n hx hb d_Reader_takeWord_33 rfl (lv_at hl 0 rfl) ?_
      refine lv_bipush (v := 34) hx hb d_Reader_takeWord_34 (by decide) ?_
      refine lv_icmp_eq (tgt := 53) hx hb d_Reader_takeWord_36 (by decide) (fun c35 => ?_) (fun c35 => ?_)
      · replace h := (if_pos c35).symm.trans h
        exact k_Reader_takeWord_53 hC _ _ _ _ _ h _ _ _ hP hD hS (lv_sub hl [1, 2] rfl)
      · replace h := (if_neg c35).symm.trans h
        refine lv_iload_n hx hb d_Reader_takeWord_39 rfl (lv_at hl 0 rfl) ?_
        obtain ⟨r36, hr36, h⟩ := Option.bind_eq_some_iff.mp h
        refine cl_Ir hP hS hA (va_runSN (As := [.int r32]) (rest := []) ⟨hx, hb, hml, hown, htb⟩ (c_MQ_isTextByte l g F r32 _ hr36 H.size) (cn_S htb mb_MQ_isTextByte (nm_of hG N_Reader_79) rfl rfl ⟨Nat.le_of_ble_eq_true rfl, Nat.le_of_ble_eq_true rfl⟩) (pre_S [] rfl rfl hP hD hS hA hAA hG) rfl rfl hl.1 rfl (lv_room (Nat.le_of_ble_eq_true rfl)) d_Reader_takeWord_40 ⟨Nat.zero_le _, Nat.zero_le _⟩) (fun H locs hP hS => ?_)
        refine lv_if_ne (tgt := 53) hx hb d_Reader_takeWord_43 (by decide) (fun c37 => ?_) (fun c37 => ?_)
        · replace h := (if_neg c37).symm.trans h
          exact k_Reader_takeWord_53 hC _ _ _ _ _ h _ _ _ hP hD hS (lv_sub hl [1, 2] rfl)
        · replace h := (if_pos c37).symm.trans h
          refine lv_aload_n hx hb d_Reader_takeWord_46 rfl (lv_at hl 1 rfl) ?_
          refine lv_iconst (v := 2) hx hb d_Reader_takeWord_47 (by decide) ?_
          refine lv_iload_n hx hb d_Reader_takeWord_48 rfl (lv_at hl 2 rfl) ?_
          obtain ⟨r38, hr38, h⟩ := Option.bind_eq_some_iff.mp h
          refine cl_I (wr := (pic_Query g a_query query) ++ (pic_Span g a_span span)) [0, 1, 2, 3] [4, 5, 6, 7, 8, 9, 10, 11, 12, 13, 14, 15] rfl rfl rfl (by decide) hP hD hS hA (va_runV (As := [.int (2 : Int32), .int x1]) (rest := []) ⟨hx, hb, hml, hown, htb⟩ (c_Reader_fail l g F a_t (a_query 0) (a_span 0) t (2 : Int32) x1 _ hr38 H.size) (cw_V htb mb_Reader_fail (htb _ L_Reader_66) rfl rfl ⟨Nat.le_of_ble_eq_true rfl, Nat.le_of_ble_eq_true rfl⟩) (pre_V (va_recv hK hP (ci := 3) (q0 := 0) rfl rfl) (pre_S [0, 1, 2, 3] rfl rfl hP hD hS hA hAA hG)) rfl rfl hl.1 rfl (lv_room (Nat.le_of_ble_eq_true rfl)) d_Reader_takeWord_49 ⟨Nat.zero_le _, Nat.zero_le _⟩) (fun H locs hP hD hS => ?_)
          have hP : va_P (gD g) vwCl ((pic_Reader g a_t (a_query 0) (a_span 0) r38.2) ++ (pic_Query g a_query query) ++ (pic_Span g a_span span)) H := hP.sub [12, 13, 14, 15, 0, 1, 2, 3, 4, 5, 6, 7, 8, 9, 10, 11] rfl
          have hD : va_D A ((pic_Reader g a_t (a_query 0) (a_span 0) r38.2) ++ (pic_Query g a_query query) ++ (pic_Span g a_span span)) := hD.sub [12, 13, 14, 15, 0, 1, 2, 3, 4, 5, 6, 7, 8, 9, 10, 11] rfl rfl
          cases h
          exact W.iret hx hb hr (fun t ht hW => ⟨⟨_, (), rfl, rfl, by rw [ht]; exact hP, hD⟩, hS.F ht⟩) hS.2.2 d_Reader_takeWord_52
    · replace h := (if_pos c34).symm.trans h
      refine lv_aload_n hx hb d_Reader_takeWord_27 rfl (lv_at hl 1 rfl) ?_
      refine lv_iload_n hx hb d_Reader_takeWord_28 rfl (lv_at hl 2 rfl) ?_
      obtain ⟨r39, hr39, h⟩ := Option.bind_eq_some_iff.mp h
      refine cl_I (wr := (pic_Query g a_query query) ++ (pic_Span g a_span span)) [0, 1, 2, 3] [4, 5, 6, 7, 8, 9, 10, 11, 12, 13, 14, 15] rfl rfl rfl (by decide) hP hD hS hA (va_runV (As := [.int x1]) (rest := []) ⟨hx, hb, hml, hown, htb⟩ (c_Reader_takeClosing l g F a_t (a_query 0) (a_span 0) t x1 _ hr39 H.size) (cw_V htb mb_Reader_takeClosing (htb _ L_Reader_76) rfl rfl ⟨Nat.le_of_ble_eq_true rfl, Nat.le_of_ble_eq_true rfl⟩) (pre_V (va_recv hK hP (ci := 3) (q0 := 0) rfl rfl) (pre_S [0, 1, 2, 3] rfl rfl hP hD hS hA hAA hG)) rfl rfl hl.1 rfl (lv_room (Nat.le_of_ble_eq_true rfl)) d_Reader_takeWord_29 ⟨Nat.zero_le _, Nat.zero_le _⟩) (fun H locs hP hD hS => ?_)
      have hP : va_P (gD g) vwCl ((pic_Reader g a_t (a_query 0) (a_span 0) r39.2) ++ (pic_Query g a_query query) ++ (pic_Span g a_span span)) H := hP.sub [12, 13, 14, 15, 0, 1, 2, 3, 4, 5, 6, 7, 8, 9, 10, 11] rfl
      have hD : va_D A ((pic_Reader g a_t (a_query 0) (a_span 0) r39.2) ++ (pic_Query g a_query query) ++ (pic_Span g a_span span)) := hD.sub [12, 13, 14, 15, 0, 1, 2, 3, 4, 5, 6, 7, 8, 9, 10, 11] rfl rfl
      cases h
      exact W.iret hx hb hr (fun t ht hW => ⟨⟨_, (), rfl, rfl, by rw [ht]; exact hP, hD⟩, hS.F ht⟩) hS.2.2 d_Reader_takeWord_32
  · replace h := (if_pos c33).symm.trans h
    refine lv_aload_n hx hb d_Reader_takeWord_15 rfl (lv_at hl 1 rfl) ?_
    refine lv_iload_n hx hb d_Reader_takeWord_16 rfl (lv_at hl 2 rfl) ?_
    obtain ⟨r40, hr40, h⟩ := Option.bind_eq_some_iff.mp h
    refine cl_I (wr := (pic_Span g a_span span)) [0, 1, 2, 3, 4, 5, 6, 7, 8, 9, 10, 11, 12, 13, 14] [15] rfl rfl rfl (by decide) hP hD hS hA (va_runV (As := [.int x1]) (rest := []) ⟨hx, hb, hml, hown, htb⟩ (c_Reader_takeOpening l g F a_t a_query (a_span 0) t query x1 _ hr40 H.size) (cw_V htb mb_Reader_takeOpening (htb _ L_Reader_73) rfl rfl ⟨Nat.le_of_ble_eq_true rfl, Nat.le_of_ble_eq_true rfl⟩) (pre_V (va_recv hK hP (ci := 3) (q0 := 0) rfl rfl) (pre_S [0, 1, 2, 3, 4, 5, 6, 7, 8, 9, 10, 11, 12, 13, 14] rfl rfl hP hD hS hA hAA hG)) rfl rfl hl.1 rfl (lv_room (Nat.le_of_ble_eq_true rfl)) d_Reader_takeWord_17 ⟨Nat.zero_le _, Nat.zero_le _⟩) (fun H locs hP hD hS => ?_)
    have hP : va_P (gD g) vwCl ((pic_Reader g a_t (a_query 0) (a_span 0) r40.2.1) ++ (pic_Query g a_query r40.2.2) ++ (pic_Span g a_span span)) H := hP.sub [1, 2, 3, 4, 5, 6, 7, 8, 9, 10, 11, 12, 13, 14, 15, 0] rfl
    have hD : va_D A ((pic_Reader g a_t (a_query 0) (a_span 0) r40.2.1) ++ (pic_Query g a_query r40.2.2) ++ (pic_Span g a_span span)) := hD.sub [1, 2, 3, 4, 5, 6, 7, 8, 9, 10, 11, 12, 13, 14, 15, 0] rfl rfl
    cases h
    exact W.iret hx hb hr (fun t ht hW => ⟨⟨_, (), rfl, rfl, by rw [ht]; exact hP, hD⟩, hS.F ht⟩) hS.2.2 d_Reader_takeWord_20
theorem c_Reader_takeWord (l : Launch) (g : Gz) (F : Nat) (a_t : Nat → Nat) (a_query : Nat → Nat) (a_span : Nat → Nat) (t : StI) (query : StI) (span : StI) (x1 : Int32) (res : Int32 × StI × StI × StI) (h : Reader_takeWord F t query span x1 = some res) : ∀ sz : Nat, Met l y_Reader_takeWord (.code y_Reader_takeWord prog_6_method_5_code 6 (some .int) :: TBL) rm_Reader_takeWord (va_Pc [.ref (a_t 0), .int x1] (Pre0 g ((pic_Reader g a_t (a_query 0) (a_span 0) t) ++ (pic_Query g a_query query) ++ (pic_Span g a_span span)) sz)) (EI g ((pic_Reader g a_t (a_query 0) (a_span 0) res.2.1) ++ (pic_Query g a_query res.2.2.1) ++ (pic_Span g a_span res.2.2.2)) res.1 (va_A ((pic_Reader g a_t (a_query 0) (a_span 0) t) ++ (pic_Query g a_query query) ++ (pic_Span g a_span span)) sz)) 0 0 (va_A ((pic_Reader g a_t (a_query 0) (a_span 0) t) ++ (pic_Query g a_query query) ++ (pic_Span g a_span span)) sz) :=
  ct_w (Qc := fun A => EI g ((pic_Reader g a_t (a_query 0) (a_span 0) res.2.1) ++ (pic_Query g a_query res.2.2.1) ++ (pic_Span g a_span res.2.2.2)) res.1 A) (by decide) (Nat.le_of_ble_eq_true rfl) (fun p e s m args below meth c A hC => k_Reader_takeWord hC t query span x1 res h)
def Reader_takesIn_134 (F : Nat) (t : StI) (p1N : Nat) (p1 : StI) (query : StI) (span : StI) (x3 : Int32) : Option (Int32 × StI × StI × StI) := if x3 = (-1 : Int32) then some ((0 : Int32), t, query, span) else some ((1 : Int32), t, query, span)
def Reader_takesIn_121 (F : Nat) (t : StI) (p1N : Nat) (p1 : StI) (query : StI) (span : StI) : Option (Int32 × StI × StI × StI) := (Reader_fail F t (1 : Int32) (query 1 0)).bind fun r21 => Reader_takesIn_134 F r21.2 p1N p1 query span r21.1
def Reader_takesIn_102 (F : Nat) (t : StI) (p1N : Nat) (p1 : StI) (query : StI) (span : StI) (x3 : Int32) : Option (Int32 × StI × StI × StI) := if x3 = (-1 : Int32) then Reader_takesIn_134 F t p1N p1 query span x3 else if (t 4 0) = 0 then if (t 5 0) ≤ 0 then Reader_takesIn_134 F t p1N p1 query span x3 else Reader_takesIn_121 F t p1N p1 query span else Reader_takesIn_121 F t p1N p1 query span
def Reader_takesIn_96 (F : Nat) (k55 : StI → Nat → StI → StI → StI → Int32 → Int32 → Option (Int32 × StI × StI × StI)) (t : StI) (p1N : Nat) (p1 : StI) (query : StI) (span : StI) (x3 : Int32) (x4 : Int32) : Option (Int32 × StI × StI × StI) := k55 t p1N p1 query span x3 (x4 + (1 : Int32))
def Reader_takesIn_55 (F : Nat) : Nat → StI → Nat → StI → StI → StI → Int32 → Int32 → Option (Int32 × StI × StI × StI)
  | 0, _, _, _, _, _, _, _ => none
  | n + 1, t, p1N, p1, query, span, x3, x4 => if (600 : Int32) ≤ x4 then Reader_takesIn_102 F t p1N p1 query span x3 else if x3 = (-1 : Int32) then Reader_takesIn_102 F t p1N p1 query span x3 else if (query 1 0) ≤ x3 then Reader_takesIn_102 F t p1N p1 query span x3 else (Reader_takeWord F t query span x3).bind fun r28 => if r28.1 = (-1 : Int32) then Reader_takesIn_96 F (Reader_takesIn_55 F n) r28.2.1 p1N p1 r28.2.2.1 r28.2.2.2 r28.1 x4 else (Reader_pastSpaces F r28.2.1 r28.2.2.1 r28.1).bind fun r30 => Reader_takesIn_96 F (Reader_takesIn_55 F n) r28.2.1 p1N p1 r28.2.2.1 r28.2.2.2 r30 x4
def Reader_takesIn (F : Nat) (t : StI) (p1N : Nat) (p1 : StI) (query : StI) (span : StI) (x2 : Int32) : Option (Int32 × StI × StI × StI) := (Query_begin F query p1N (fun _ => (p1 0)) x2).bind fun r31 => letS (va_up t 2 (fun _ => (0 : Int32))) fun t_32 => letS (va_up t_32 3 (fun _ => (-1 : Int32))) fun t_33 => letS (va_up t_33 4 (fun _ => (1 : Int32))) fun t_34 => letS (va_up t_34 5 (fun _ => (0 : Int32))) fun t_35 => (Reader_beginAny F t_35 r31).bind fun r36 => (Reader_pastSpaces F r36 r31 (0 : Int32)).bind fun r37 => if r37 < (r31 1 0) then Reader_takesIn_55 F F r36 p1N p1 r31 span r37 (0 : Int32) else some ((1 : Int32), r36, r31, span)
set_option maxHeartbeats 4000000 in
set_option maxRecDepth 100000 in
theorem k_Reader_takesIn_134 {p : Program} {l : Launch} {e : Env} {s : State} {m : MethodId} {args : Array Value} {below : List Frame} {meth : Method} {c : Code} {g : Gz} {A : Nat → Prop} {F : Nat} {a_t a_p1 a_query a_span : Nat → Nat} (hC : Cx prog_6_method_3_code 5 (some .boolean) R_Reader p s m args meth c g A A) : ∀ (t : StI) (p1N : Nat) (p1 : StI) (query : StI) (span : StI) (x3 : Int32) (res : Int32 × StI × StI × StI), Reader_takesIn_134 F t p1N p1 query span x3 = some res → Go p l e rm_Reader_takesIn s m args below meth c g A A 5 (MQ below (EI g ((pic_Reader g a_t (a_query 0) (a_span 0) res.2.1) ++ (pic_ArrC g a_p1 p1N p1) ++ (pic_Query g a_query res.2.2.1) ++ (pic_Span g a_span res.2.2.2)) res.1 A) args s 0 0 A) ((pic_Reader g a_t (a_query 0) (a_span 0) t) ++ (pic_ArrC g a_p1 p1N p1) ++ (pic_Query g a_query query) ++ (pic_Span g a_span span)) [(3, .int x3)] 134 [] := by
  obtain ⟨hx, hb, hr, hml, hown, htb, hlocks, hA, hAA, hG⟩ := id hC
  have hK := hG.1
  intro t p1N p1 query span x3 res h H locs ls hP hD hS hl
  rw [Reader_takesIn_134] at h
  refine lv_iload_n hx hb d_Reader_takesIn_134 rfl (lv_at hl 0 rfl) ?_
  refine lv_iconst (v := -1) hx hb d_Reader_takesIn_135 (by decide) ?_
  refine lv_icmp_eq (tgt := 143) hx hb d_Reader_takesIn_136 (by decide) (fun c20 => ?_) (fun c20 => ?_)
  · replace h := (if_pos c20).symm.trans h
    refine lv_iconst (v := 0) hx hb d_Reader_takesIn_143 (by decide) ?_
    cases h
    exact W.zret hx hb hr rfl (fun t ht hW => ⟨⟨_, (), rfl, rfl, by rw [ht]; exact hP, hD⟩, hS.F ht⟩) hS.2.2 d_Reader_takesIn_144
  · replace h := (if_neg c20).symm.trans h
    refine lv_iconst (v := 1) hx hb d_Reader_takesIn_139 (by decide) ?_
    refine lv_goto (tgt := 144) hx hb d_Reader_takesIn_140 (by decide) ?_
    cases h
    exact W.zret hx hb hr rfl (fun t ht hW => ⟨⟨_, (), rfl, rfl, by rw [ht]; exact hP, hD⟩, hS.F ht⟩) hS.2.2 d_Reader_takesIn_144
set_option maxHeartbeats 4000000 in
set_option maxRecDepth 100000 in
theorem k_Reader_takesIn_121 {p : Program} {l : Launch} {e : Env} {s : State} {m : MethodId} {args : Array Value} {below : List Frame} {meth : Method} {c : Code} {g : Gz} {A : Nat → Prop} {F : Nat} {a_t a_p1 a_query a_span : Nat → Nat} (hC : Cx prog_6_method_3_code 5 (some .boolean) R_Reader p s m args meth c g A A) : ∀ (t : StI) (p1N : Nat) (p1 : StI) (query : StI) (span : StI) (res : Int32 × StI × StI × StI), Reader_takesIn_121 F t p1N p1 query span = some res → Go p l e rm_Reader_takesIn s m args below meth c g A A 5 (MQ below (EI g ((pic_Reader g a_t (a_query 0) (a_span 0) res.2.1) ++ (pic_ArrC g a_p1 p1N p1) ++ (pic_Query g a_query res.2.2.1) ++ (pic_Span g a_span res.2.2.2)) res.1 A) args s 0 0 A) ((pic_Reader g a_t (a_query 0) (a_span 0) t) ++ (pic_ArrC g a_p1 p1N p1) ++ (pic_Query g a_query query) ++ (pic_Span g a_span span)) [(0, .ref (a_t 0))] 121 [] := by
  obtain ⟨hx, hb, hr, hml, hown, htb, hlocks, hA, hAA, hG⟩ := id hC
  have hK := hG.1
  intro t p1N p1 query span res h H locs ls hP hD hS hl
  rw [Reader_takesIn_121] at h
  refine lv_aload_n hx hb d_Reader_takesIn_121 rfl (lv_at hl 0 rfl) ?_
  refine lv_iconst (v := 1) hx hb d_Reader_takesIn_122 (by decide) ?_
  refine lv_aload_n hx hb d_Reader_takesIn_123 rfl (lv_at hl 0 rfl) ?_
  refine va_get (D := gD g) (ci := 3) (v := .ref (a_query 0)) (C := R_Reader) (T := T_Reader) (N := 9) hx hb htb in_Reader hown hK hP 0 rfl rfl 0 (by decide) (htb _ L_Reader_12) (fun _ h9 => h9) rfl d_Reader_takesIn_124 ?_
  refine va_getN (D := gD g) (ci := 1) (v := .int (query 1 0)) (C := R_Query) (T := T_Query) (N := 14) hx hb htb in_Query hown hK hP 5 rfl rfl 1 (by decide) (nf_of hG N_Reader_60) (fun _ h9 => h9) rfl d_Reader_takesIn_127 ?_
  obtain ⟨r21, hr21, h⟩ := Option.bind_eq_some_iff.mp h
  refine cl_I (wr := (pic_ArrC g a_p1 p1N p1) ++ (pic_Query g a_query query) ++ (pic_Span g a_span span)) [0, 1, 2, 3] [4, 5, 6, 7, 8, 9, 10, 11, 12, 13, 14, 15, 16] rfl rfl rfl (by decide) hP hD hS hA (va_runV (As := [.int (1 : Int32), .int (query 1 0)]) (rest := []) ⟨hx, hb, hml, hown, htb⟩ (c_Reader_fail l g F a_t (a_query 0) (a_span 0) t (1 : Int32) (query 1 0) _ hr21 H.size) (cw_V htb mb_Reader_fail (htb _ L_Reader_66) rfl rfl ⟨Nat.le_of_ble_eq_true rfl, Nat.le_of_ble_eq_true rfl⟩) (pre_V (va_recv hK hP (ci := 3) (q0 := 0) rfl rfl) (pre_S [0, 1, 2, 3] rfl rfl hP hD hS hA hAA hG)) rfl rfl hl.1 rfl (lv_room (Nat.le_of_ble_eq_true rfl)) d_Reader_takesIn_130 ⟨Nat.zero_le _, Nat.zero_le _⟩) (fun H locs hP hD hS => ?_)
  have hP : va_P (gD g) vwCl ((pic_Reader g a_t (a_query 0) (a_span 0) r21.2) ++ (pic_ArrC g a_p1 p1N p1) ++ (pic_Query g a_query query) ++ (pic_Span g a_span span)) H := hP.sub [13, 14, 15, 16, 0, 1, 2, 3, 4, 5, 6, 7, 8, 9, 10, 11, 12] rfl
  have hD : va_D A ((pic_Reader g a_t (a_query 0) (a_span 0) r21.2) ++ (pic_ArrC g a_p1 p1N p1) ++ (pic_Query g a_query query) ++ (pic_Span g a_span span)) := hD.sub [13, 14, 15, 16, 0, 1, 2, 3, 4, 5, 6, 7, 8, 9, 10, 11, 12] rfl rfl
  refine lv_istore_n (lv' := [(3, .int r21.1), (0, .ref (a_t 0))]) hx hb d_Reader_takesIn_133 rfl hl (by decide) rfl (fun ls hl => ?_)
  exact k_Reader_takesIn_134 hC _ _ _ _ _ _ _ h _ _ _ hP hD hS (lv_sub hl [0] rfl)
set_option maxHeartbeats 4000000 in
set_option maxRecDepth 100000 in
theorem k_Reader_takesIn_102 {p : Program} {l : Launch} {e : Env} {s : State} {m : MethodId} {args : Array Value} {below : List Frame} {meth : Method} {c : Code} {g : Gz} {A : Nat → Prop} {F : Nat} {a_t a_p1 a_query a_span : Nat → Nat} (hC : Cx prog_6_method_3_code 5 (some .boolean) R_Reader p s m args meth c g A A) : ∀ (t : StI) (p1N : Nat) (p1 : StI) (query : StI) (span : StI) (x3 : Int32) (res : Int32 × StI × StI × StI), Reader_takesIn_102 F t p1N p1 query span x3 = some res → Go p l e rm_Reader_takesIn s m args below meth c g A A 5 (MQ below (EI g ((pic_Reader g a_t (a_query 0) (a_span 0) res.2.1) ++ (pic_ArrC g a_p1 p1N p1) ++ (pic_Query g a_query res.2.2.1) ++ (pic_Span g a_span res.2.2.2)) res.1 A) args s 0 0 A) ((pic_Reader g a_t (a_query 0) (a_span 0) t) ++ (pic_ArrC g a_p1 p1N p1) ++ (pic_Query g a_query query) ++ (pic_Span g a_span span)) [(0, .ref (a_t 0)), (3, .int x3)] 102 [] := by
  obtain ⟨hx, hb, hr, hml, hown, htb, hlocks, hA, hAA, hG⟩ := id hC
  have hK := hG.1
  intro t p1N p1 query span x3 res h H locs ls hP hD hS hl
  rw [Reader_takesIn_102] at h
  refine lv_iload_n hx hb d_Reader_takesIn_102 rfl (lv_at hl 1 rfl) ?_
  refine lv_iconst (v := -1) hx hb d_Reader_takesIn_103 (by decide) ?_
  refine lv_icmp_eq (tgt := 134) hx hb d_Reader_takesIn_104 (by decide) (fun c22 => ?_) (fun c22 => ?_)
  · replace h := (if_pos c22).symm.trans h
    exact k_Reader_takesIn_134 hC _ _ _ _ _ _ _ h _ _ _ hP hD hS (lv_sub hl [1] rfl)
  · replace h := (if_neg c22).symm.trans h
    refine lv_aload_n hx hb d_Reader_takesIn_107 rfl (lv_at hl 0 rfl) ?_
    refine va_get (D := gD g) (ci := 3) (v := .int (t 4 0)) (C := R_Reader) (T := T_Reader) (N := 9) hx hb htb in_Reader hown hK hP 0 rfl rfl 4 (by decide) (htb _ L_Reader_32) (fun _ h9 => h9) rfl d_Reader_takesIn_108 ?_
    refine lv_if_ne (tgt := 121) hx hb d_Reader_takesIn_111 (by decide) (fun c23 => ?_) (fun c23 => ?_)
    · replace h := (if_neg c23).symm.trans h
      exact k_Reader_takesIn_121 hC _ _ _ _ _ _ h _ _ _ hP hD hS (lv_sub hl [0] rfl)
    · replace h := (if_pos c23).symm.trans h
      refine lv_aload_n hx hb d_Reader_takesIn_114 rfl (lv_at hl 0 rfl) ?_
      refine va_get (D := gD g) (ci := 3) (v := .int (t 5 0)) (C := R_Reader) (T := T_Reader) (N := 9) hx hb htb in_Reader hown hK hP 0 rfl rfl 5 (by decide) (htb _ L_Reader_36) (fun _ h9 => h9) rfl d_Reader_takesIn_115 ?_
      refine lv_if_le (tgt := 134) hx hb d_Reader_takesIn_118 (by decide) (fun c24 => ?_) (fun c24 => ?_)
      · replace h := (if_pos c24).symm.trans h
        exact k_Reader_takesIn_134 hC _ _ _ _ _ _ _ h _ _ _ hP hD hS (lv_sub hl [1] rfl)
      · replace h := (if_neg c24).symm.trans h
        exact k_Reader_takesIn_121 hC _ _ _ _ _ _ h _ _ _ hP hD hS (lv_sub hl [0] rfl)
set_option maxHeartbeats 4000000 in
set_option maxRecDepth 100000 in
theorem k_Reader_takesIn_96 {p : Program} {l : Launch} {e : Env} {s : State} {m : MethodId} {args : Array Value} {below : List Frame} {meth : Method} {c : Code} {g : Gz} {A : Nat → Prop} {F : Nat} {a_t a_p1 a_query a_span : Nat → Nat} {k55 : StI → Nat → StI → StI → StI → Int32 → Int32 → Option (Int32 × StI × StI × StI)} (hC : Cx prog_6_method_3_code 5 (some .boolean) R_Reader p s m args meth c g A A) : ∀ (t : StI) (p1N : Nat) (p1 : StI) (query : StI) (span : StI) (x3 : Int32) (x4 : Int32) (res : Int32 × StI × StI × StI), Reader_takesIn_96 F k55 t p1N p1 query span x3 x4 = some res → (∀ (t : StI) (p1N : Nat) (p1 : StI) (query : StI) (span : StI) (x3 : Int32) (x4 : Int32), k55 t p1N p1 query span x3 x4 = some res → Go p l e rm_Reader_takesIn s m args below meth c g A A 5 (MQ below (EI g ((pic_Reader g a_t (a_query 0) (a_span 0) res.2.1) ++ (pic_ArrC g a_p1 p1N p1) ++ (pic_Query g a_query res.2.2.1) ++ (pic_Span g a_span res.2.2.2)) res.1 A) args s 0 0 A) ((pic_Reader g a_t (a_query 0) (a_span 0) t) ++ (pic_ArrC g a_p1 p1N p1) ++ (pic_Query g a_query query) ++ (pic_Span g a_span span)) [(0, .ref (a_t 0)), (3, .int x3), (4, .int x4)] 55 []) → Go p l e rm_Reader_takesIn s m args below meth c g A A 5 (MQ below (EI g ((pic_Reader g a_t (a_query 0) (a_span 0) res.2.1) ++ (pic_ArrC g a_p1 p1N p1) ++ (pic_Query g a_query res.2.2.1) ++ (pic_Span g a_span res.2.2.2)) res.1 A) args s 0 0 A) ((pic_Reader g a_t (a_query 0) (a_span 0) t) ++ (pic_ArrC g a_p1 p1N p1) ++ (pic_Query g a_query query) ++ (pic_Span g a_span span)) [(0, .ref (a_t 0)), (3, .int x3), (4, .int x4)] 96 [] := by
  obtain ⟨hx, hb, hr, hml, hown, htb, hlocks, hA, hAA, hG⟩ := id hC
  have hK := hG.1
  intro t p1N p1 query span x3 x4 res h hk55 H locs ls hP hD hS hl
  rw [Reader_takesIn_96] at h
  refine lv_iinc (v := (x4 + (1 : Int32))) (lv' := [(4, .int (x4 + (1 : Int32))), (0, .ref (a_t 0)), (3, .int x3)]) hx hb d_Reader_takesIn_96 hl (k := 2) rfl rfl (by decide) rfl (fun ls hl => ?_)
  refine lv_goto (tgt := 55) hx hb d_Reader_takesIn_99 (by decide) ?_
  exact hk55 _ _ _ _ _ _ _ h _ _ _ hP hD hS (lv_sub hl [1, 2, 0] rfl)
set_option maxHeartbeats 4000000 in
set_option maxRecDepth 100000 in
theorem k_Reader_takesIn_55 {p : Program} {l : Launch} {e : Env} {s : State} {m : MethodId} {args : Array Value} {below : List Frame} {meth : Method} {c : Code} {g : Gz} {A : Nat → Prop} {F : Nat} {a_t a_p1 a_query a_span : Nat → Nat} (hC : Cx prog_6_method_3_code 5 (some .boolean) R_Reader p s m args meth c g A A) : ∀ (n : Nat) (t : StI) (p1N : Nat) (p1 : StI) (query : StI) (span : StI) (x3 : Int32) (x4 : Int32) (res : Int32 × StI × StI × StI), Reader_takesIn_55 F n t p1N p1 query span x3 x4 = some res → Go p l e rm_Reader_takesIn s m args below meth c g A A 5 (MQ below (EI g ((pic_Reader g a_t (a_query 0) (a_span 0) res.2.1) ++ (pic_ArrC g a_p1 p1N p1) ++ (pic_Query g a_query res.2.2.1) ++ (pic_Span g a_span res.2.2.2)) res.1 A) args s 0 0 A) ((pic_Reader g a_t (a_query 0) (a_span 0) t) ++ (pic_ArrC g a_p1 p1N p1) ++ (pic_Query g a_query query) ++ (pic_Span g a_span span)) [(0, .ref (a_t 0)), (3, .int x3), (4, .int x4)] 55 [] := by
  obtain ⟨hx, hb, hr, hml, hown, htb, hlocks, hA, hAA, hG⟩ := id hC
  have hK := hG.1
  intro n
  induction n with
  | zero => intro t p1N p1 query span x3 x4 res h; rw [Reader_takesIn_55] at h; cases h
  | succ n ih =>
    intro t p1N p1 query span x3 x4 res h H locs ls hP hD hS hl
    rw [Reader_takesIn_55] at h
    refine lv_iload hx hb d_Reader_takesIn_55 (lv_at hl 2 rfl) ?_
    refine lv_sipush (v := 600) hx hb d_Reader_takesIn_57 (by decide) ?_
    refine lv_icmp_ge (tgt := 102) hx hb d_Reader_takesIn_60 (by decide) (fun c25 => ?_) (fun c25 => ?_)
    · replace h := (if_pos c25).symm.trans h
      exact k_Reader_takesIn_102 hC _ _ _ _ _ _ _ h _ _ _ hP hD hS (lv_sub hl [0, 1] rfl)
    · replace h := (if_neg c25).symm.trans h
      refine lv_iload_n hx hb d_Reader_takesIn_63 rfl (lv_at hl 1 rfl) ?_
      refine lv_iconst (v := -1) hx hb d_Reader_takesIn_64 (by decide) ?_
      refine lv_icmp_eq (tgt := 102) hx hb d_Reader_takesIn_65 (by decide) (fun c26 => ?_) (fun c26 => ?_)
      · replace h := (if_pos c26).symm.trans h
        exact k_Reader_takesIn_102 hC _ _ _ _ _ _ _ h _ _ _ hP hD hS (lv_sub hl [0, 1] rfl)
      · replace h := (if_neg c26).symm.trans h
        refine lv_iload_n hx hb d_Reader_takesIn_68 rfl (lv_at hl 1 rfl) ?_
        refine lv_aload_n hx hb d_Reader_takesIn_69 rfl (lv_at hl 0 rfl) ?_
        refine va_get (D := gD g) (ci := 3) (v := .ref (a_query 0)) (C := R_Reader) (T := T_Reader) (N := 9) hx hb htb in_Reader hown hK hP 0 rfl rfl 0 (by decide) (htb _ L_Reader_12) (fun _ h9 => h9) rfl d_Reader_takesIn_70 ?_
        refine va_getN (D := gD g) (ci := 1) (v := .int (query 1 0)) (C := R_Query) (T := T_Query) (N := 14) hx hb htb in_Query hown hK hP 5 rfl rfl 1 (by decide) (nf_of hG N_Reader_60) (fun _ h9 => h9) rfl d_Reader_takesIn_73 ?_
        refine lv_icmp_ge (tgt := 102) hx hb d_Reader_takesIn_76 (by decide) (fun c27 => ?_) (fun c27 => ?_)
        · replace h := (if_pos c27).symm.trans h
          exact k_Reader_takesIn_102 hC _ _ _ _ _ _ _ h _ _ _ hP hD hS (lv_sub hl [0, 1] rfl)
        · replace h := (if_neg c27).symm.trans h
          refine lv_aload_n hx hb d_Reader_takesIn_79 rfl (lv_at hl 0 rfl) ?_
          refine lv_iload_n hx hb d_Reader_takesIn_80 rfl (lv_at hl 1 rfl) ?_
          obtain ⟨r28, hr28, h⟩ := Option.bind_eq_some_iff.mp h
          refine cl_I (wr := (pic_ArrC g a_p1 p1N p1)) [0, 1, 2, 3, 5, 6, 7, 8, 9, 10, 11, 12, 13, 14, 15, 16] [4] rfl rfl rfl (by decide) hP hD hS hA (va_runV (As := [.int x3]) (rest := []) ⟨hx, hb, hml, hown, htb⟩ (c_Reader_takeWord l g F a_t a_query a_span t query span x3 _ hr28 H.size) (cw_V htb mb_Reader_takeWord (htb _ L_Reader_63) rfl rfl ⟨Nat.le_of_ble_eq_true rfl, Nat.le_of_ble_eq_true rfl⟩) (pre_V (va_recv hK hP (ci := 3) (q0 := 0) rfl rfl) (pre_S [0, 1, 2, 3, 5, 6, 7, 8, 9, 10, 11, 12, 13, 14, 15, 16] rfl rfl hP hD hS hA hAA hG)) rfl rfl hl.1 rfl (lv_room (Nat.le_of_ble_eq_true rfl)) d_Reader_takesIn_81 ⟨Nat.zero_le _, Nat.zero_le _⟩) (fun H locs hP hD hS => ?_)
          have hP : va_P (gD g) vwCl ((pic_Reader g a_t (a_query 0) (a_span 0) r28.2.1) ++ (pic_ArrC g a_p1 p1N p1) ++ (pic_Query g a_query r28.2.2.1) ++ (pic_Span g a_span r28.2.2.2)) H := hP.sub [1, 2, 3, 4, 0, 5, 6, 7, 8, 9, 10, 11, 12, 13, 14, 15, 16] rfl
          have hD : va_D A ((pic_Reader g a_t (a_query 0) (a_span 0) r28.2.1) ++ (pic_ArrC g a_p1 p1N p1) ++ (pic_Query g a_query r28.2.2.1) ++ (pic_Span g a_span r28.2.2.2)) := hD.sub [1, 2, 3, 4, 0, 5, 6, 7, 8, 9, 10, 11, 12, 13, 14, 15, 16] rfl rfl
          refine lv_istore_n (lv' := [(3, .int r28.1), (0, .ref (a_t 0)), (4, .int x4)]) hx hb d_Reader_takesIn_84 rfl hl (by decide) rfl (fun ls hl => ?_)
          refine lv_iload_n hx hb d_Reader_takesIn_85 rfl (lv_at hl 0 rfl) ?_
          refine lv_iconst (v := -1) hx hb d_Reader_takesIn_86 (by decide) ?_
          refine lv_icmp_eq (tgt := 96) hx hb d_Reader_takesIn_87 (by decide) (fun c29 => ?_) (fun c29 => ?_)
          · replace h := (if_pos c29).symm.trans h
            exact k_Reader_takesIn_96 hC _ _ _ _ _ _ _ _ h (fun z0 z1 z2 z3 z4 z5 z6 hz => ih z0 z1 z2 z3 z4 z5 z6 _ hz) _ _ _ hP hD hS (lv_sub hl [1, 0, 2] rfl)
          · replace h := (if_neg c29).symm.trans h
            refine lv_aload_n hx hb d_Reader_takesIn_90 rfl (lv_at hl 1 rfl) ?_
            refine lv_iload_n hx hb d_Reader_takesIn_91 rfl (lv_at hl 0 rfl) ?_
            obtain ⟨r30, hr30, h⟩ := Option.bind_eq_some_iff.mp h
            refine cl_Ir hP hS hA (va_runV (As := [.int r28.1]) (rest := []) ⟨hx, hb, hml, hown, htb⟩ (c_Reader_pastSpaces l g F a_t a_query (a_span 0) r28.2.1 r28.2.2.1 r28.1 _ hr30 H.size) (cw_V htb mb_Reader_pastSpaces (htb _ L_Reader_56) rfl rfl ⟨Nat.le_of_ble_eq_true rfl, Nat.le_of_ble_eq_true rfl⟩) (pre_V (va_recv hK hP (ci := 3) (q0 := 0) rfl rfl) (pre_S [0, 1, 2, 3, 5, 6, 7, 8, 9, 10, 11, 12, 13, 14, 15] rfl rfl hP hD hS hA hAA hG)) rfl rfl hl.1 rfl (lv_room (Nat.le_of_ble_eq_true rfl)) d_Reader_takesIn_92 ⟨Nat.zero_le _, Nat.zero_le _⟩) (fun H locs hP hS => ?_)
            refine lv_istore_n (lv' := [(3, .int r30), (0, .ref (a_t 0)), (4, .int x4)]) hx hb d_Reader_takesIn_95 rfl hl (by decide) rfl (fun ls hl => ?_)
            exact k_Reader_takesIn_96 hC _ _ _ _ _ _ _ _ h (fun z0 z1 z2 z3 z4 z5 z6 hz => ih z0 z1 z2 z3 z4 z5 z6 _ hz) _ _ _ hP hD hS (lv_sub hl [1, 0, 2] rfl)
set_option maxHeartbeats 4000000 in
set_option maxRecDepth 100000 in
theorem k_Reader_takesIn {p : Program} {l : Launch} {e : Env} {s : State} {m : MethodId} {args : Array Value} {below : List Frame} {meth : Method} {c : Code} {g : Gz} {A : Nat → Prop} {F : Nat} {a_t a_p1 a_query a_span : Nat → Nat} (hC : Cx prog_6_method_3_code 5 (some .boolean) R_Reader p s m args meth c g A A) : ∀ (t : StI) (p1N : Nat) (p1 : StI) (query : StI) (span : StI) (x2 : Int32) (res : Int32 × StI × StI × StI), Reader_takesIn F t p1N p1 query span x2 = some res → Go p l e rm_Reader_takesIn s m args below meth c g A A 5 (MQ below (EI g ((pic_Reader g a_t (a_query 0) (a_span 0) res.2.1) ++ (pic_ArrC g a_p1 p1N p1) ++ (pic_Query g a_query res.2.2.1) ++ (pic_Span g a_span res.2.2.2)) res.1 A) args s 0 0 A) ((pic_Reader g a_t (a_query 0) (a_span 0) t) ++ (pic_ArrC g a_p1 p1N p1) ++ (pic_Query g a_query query) ++ (pic_Span g a_span span)) [(0, .ref (a_t 0)), (1, .ref (a_p1 1)), (2, .int x2)] 0 [] := by
  obtain ⟨hx, hb, hr, hml, hown, htb, hlocks, hA, hAA, hG⟩ := id hC
  have hK := hG.1
  intro t p1N p1 query span x2 res h H locs ls hP hD hS hl
  rw [Reader_takesIn] at h
  refine lv_aload_n hx hb d_Reader_takesIn_0 rfl (lv_at hl 0 rfl) ?_
  refine va_get (D := gD g) (ci := 3) (v := .ref (a_query 0)) (C := R_Reader) (T := T_Reader) (N := 9) hx hb htb in_Reader hown hK hP 0 rfl rfl 0 (by decide) (htb _ L_Reader_12) (fun _ h9 => h9) rfl d_Reader_takesIn_1 ?_
  refine lv_aload_n hx hb d_Reader_takesIn_4 rfl (lv_at hl 1 rfl) ?_
  refine lv_iload_n hx hb d_Reader_takesIn_5 rfl (lv_at hl 2 rfl) ?_
  obtain ⟨r31, hr31, h⟩ := Option.bind_eq_some_iff.mp h
  refine cl_V (wr := ([0, 1, 2, 3, 16]).filterMap (fun i => ((pic_Reader g a_t (a_query 0) (a_span 0) t) ++ (pic_ArrC g a_p1 p1N p1) ++ (pic_Query g a_query query) ++ (pic_Span g a_span span))[i]?)) [5, 6, 7, 8, 9, 10, 11, 12, 13, 14, 15, 4] [0, 1, 2, 3, 16] rfl rfl rfl (by decide) hP hD hS hA (va_runV (As := [.ref (a_p1 1), .int x2]) (rest := []) ⟨hx, hb, hml, hown, htb⟩ (c_Query_begin l g F a_query (fun _ => a_p1 1) query p1N (fun _ => (p1 0)) x2 _ hr31 H.size) (cw_V htb mb_Query_begin (htb _ L_Reader_49) rfl rfl ⟨Nat.le_of_ble_eq_true rfl, Nat.le_of_ble_eq_true rfl⟩) (pre_V (va_recv hK hP (ci := 1) (q0 := 5) rfl rfl) (pre_S [5, 6, 7, 8, 9, 10, 11, 12, 13, 14, 15, 4] rfl rfl hP hD hS hA hAA hG)) rfl rfl hl.1 rfl (lv_room (Nat.le_of_ble_eq_true rfl)) d_Reader_takesIn_6 ⟨Nat.zero_le _, Nat.zero_le _⟩) (fun H locs hP hD hS => ?_)
  have hP : va_P (gD g) vwCl ((pic_Reader g a_t (a_query 0) (a_span 0) t) ++ (pic_ArrC g a_p1 p1N p1) ++ (pic_Query g a_query r31) ++ (pic_Span g a_span span)) H := hP.sub [0, 1, 2, 3, 16, 5, 6, 7, 8, 9, 10, 11, 12, 13, 14, 15, 4] rfl
  have hD : va_D A ((pic_Reader g a_t (a_query 0) (a_span 0) t) ++ (pic_ArrC g a_p1 p1N p1) ++ (pic_Query g a_query r31) ++ (pic_Span g a_span span)) := hD.sub [0, 1, 2, 3, 16, 5, 6, 7, 8, 9, 10, 11, 12, 13, 14, 15, 4] rfl rfl
  refine lv_aload_n hx hb d_Reader_takesIn_9 rfl (lv_at hl 0 rfl) ?_
  refine lv_iconst (v := 0) hx hb d_Reader_takesIn_10 (by decide) ?_
  refine va_put (D := gD g) (ci := 3) (v := .int (0 : Int32)) (ty := .int) (C := R_Reader) (T := T_Reader) (N := 9) hx hb htb in_Reader ty_Reader ty_Reader_ok nm_Reader hown hK hP hD hS 0 rfl rfl 2 (by decide) (htb _ L_Reader_25) (fun _ h9 => h9) rfl (by decide +kernel) rfl rfl (Nat.le_of_ble_eq_true rfl) d_Reader_takesIn_11 (fun H locs hP hD hS => ?_)
  obtain ⟨t_32, et_32, h⟩ := letS_el h
  have hP : va_P (gD g) vwCl ((pic_Reader g a_t (a_query 0) (a_span 0) t_32) ++ (pic_ArrC g a_p1 p1N p1) ++ (pic_Query g a_query r31) ++ (pic_Span g a_span span)) H := by rw [et_32]; exact hP
  have hD : va_D A ((pic_Reader g a_t (a_query 0) (a_span 0) t_32) ++ (pic_ArrC g a_p1 p1N p1) ++ (pic_Query g a_query r31) ++ (pic_Span g a_span span)) := by rw [et_32]; exact hD
  refine lv_aload_n hx hb d_Reader_takesIn_14 rfl (lv_at hl 0 rfl) ?_
  refine lv_iconst (v := -1) hx hb d_Reader_takesIn_15 (by decide) ?_
  refine va_put (D := gD g) (ci := 3) (v := .int (-1 : Int32)) (ty := .int) (C := R_Reader) (T := T_Reader) (N := 9) hx hb htb in_Reader ty_Reader ty_Reader_ok nm_Reader hown hK hP hD hS 0 rfl rfl 3 (by decide) (htb _ L_Reader_29) (fun _ h9 => h9) rfl (by decide +kernel) rfl rfl (Nat.le_of_ble_eq_true rfl) d_Reader_takesIn_16 (fun H locs hP hD hS => ?_)
  obtain ⟨t_33, et_33, h⟩ := letS_el h
  have hP : va_P (gD g) vwCl ((pic_Reader g a_t (a_query 0) (a_span 0) t_33) ++ (pic_ArrC g a_p1 p1N p1) ++ (pic_Query g a_query r31) ++ (pic_Span g a_span span)) H := by rw [et_33]; exact hP
  have hD : va_D A ((pic_Reader g a_t (a_query 0) (a_span 0) t_33) ++ (pic_ArrC g a_p1 p1N p1) ++ (pic_Query g a_query r31) ++ (pic_Span g a_span span)) := by rw [et_33]; exact hD
  refine lv_aload_n hx hb d_Reader_takesIn_19 rfl (lv_at hl 0 rfl) ?_
  refine lv_iconst (v := 1) hx hb d_Reader_takesIn_20 (by decide) ?_
  refine va_put (D := gD g) (ci := 3) (v := .int (1 : Int32)) (ty := .boolean) (C := R_Reader) (T := T_Reader) (N := 9) hx hb htb in_Reader ty_Reader ty_Reader_ok nm_Reader hown hK hP hD hS 0 rfl rfl 4 (by decide) (htb _ L_Reader_32) (fun _ h9 => h9) rfl (by decide +kernel) rfl rfl (Nat.le_of_ble_eq_true rfl) d_Reader_takesIn_21 (fun H locs hP hD hS => ?_)
  obtain ⟨t_34, et_34, h⟩ := letS_el h
  have hP : va_P (gD g) vwCl ((pic_Reader g a_t (a_query 0) (a_span 0) t_34) ++ (pic_ArrC g a_p1 p1N p1) ++ (pic_Query g a_query r31) ++ (pic_Span g a_span span)) H := by rw [et_34]; exact hP
  have hD : va_D A ((pic_Reader g a_t (a_query 0) (a_span 0) t_34) ++ (pic_ArrC g a_p1 p1N p1) ++ (pic_Query g a_query r31) ++ (pic_Span g a_span span)) := by rw [et_34]; exact hD
  refine lv_aload_n hx hb d_Reader_takesIn_24 rfl (lv_at hl 0 rfl) ?_
  refine lv_iconst (v := 0) hx hb d_Reader_takesIn_25 (by decide) ?_
  refine va_put (D := gD g) (ci := 3) (v := .int (0 : Int32)) (ty := .int) (C := R_Reader) (T := T_Reader) (N := 9) hx hb htb in_Reader ty_Reader ty_Reader_ok nm_Reader hown hK hP hD hS 0 rfl rfl 5 (by decide) (htb _ L_Reader_36) (fun _ h9 => h9) rfl (by decide +kernel) rfl rfl (Nat.le_of_ble_eq_true rfl) d_Reader_takesIn_26 (fun H locs hP hD hS => ?_)
  obtain ⟨t_35, et_35, h⟩ := letS_el h
  have hP : va_P (gD g) vwCl ((pic_Reader g a_t (a_query 0) (a_span 0) t_35) ++ (pic_ArrC g a_p1 p1N p1) ++ (pic_Query g a_query r31) ++ (pic_Span g a_span span)) H := by rw [et_35]; exact hP
  have hD : va_D A ((pic_Reader g a_t (a_query 0) (a_span 0) t_35) ++ (pic_ArrC g a_p1 p1N p1) ++ (pic_Query g a_query r31) ++ (pic_Span g a_span span)) := by rw [et_35]; exact hD
  refine lv_aload_n hx hb d_Reader_takesIn_29 rfl (lv_at hl 0 rfl) ?_
  obtain ⟨r36, hr36, h⟩ := Option.bind_eq_some_iff.mp h
  refine cl_V (wr := (pic_ArrC g a_p1 p1N p1) ++ (pic_Span g a_span span)) [0, 1, 2, 3, 5, 6, 7, 8, 9, 10, 11, 12, 13, 14, 15] [4, 16] rfl rfl rfl (by decide) hP hD hS hA (va_runV (As := []) (rest := []) ⟨hx, hb, hml, hown, htb⟩ (c_Reader_beginAny l g F a_t a_query (a_span 0) t_35 r31 _ hr36 H.size) (cw_V htb mb_Reader_beginAny (htb _ L_Reader_53) rfl rfl ⟨Nat.le_of_ble_eq_true rfl, Nat.le_of_ble_eq_true rfl⟩) (pre_V (va_recv hK hP (ci := 3) (q0 := 0) rfl rfl) (pre_S [0, 1, 2, 3, 5, 6, 7, 8, 9, 10, 11, 12, 13, 14, 15] rfl rfl hP hD hS hA hAA hG)) rfl rfl hl.1 rfl (lv_room (Nat.le_of_ble_eq_true rfl)) d_Reader_takesIn_30 ⟨Nat.zero_le _, Nat.zero_le _⟩) (fun H locs hP hD hS => ?_)
  have hP : va_P (gD g) vwCl ((pic_Reader g a_t (a_query 0) (a_span 0) r36) ++ (pic_ArrC g a_p1 p1N p1) ++ (pic_Query g a_query r31) ++ (pic_Span g a_span span)) H := hP.sub [2, 3, 4, 5, 0, 6, 7, 8, 9, 10, 11, 12, 13, 14, 15, 16, 1] rfl
  have hD : va_D A ((pic_Reader g a_t (a_query 0) (a_span 0) r36) ++ (pic_ArrC g a_p1 p1N p1) ++ (pic_Query g a_query r31) ++ (pic_Span g a_span span)) := hD.sub [2, 3, 4, 5, 0, 6, 7, 8, 9, 10, 11, 12, 13, 14, 15, 16, 1] rfl rfl
  refine lv_aload_n hx hb d_Reader_takesIn_33 rfl (lv_at hl 0 rfl) ?_
  refine lv_iconst (v := 0) hx hb d_Reader_takesIn_34 (by decide) ?_
  obtain ⟨r37, hr37, h⟩ := Option.bind_eq_some_iff.mp h
  refine cl_Ir hP hS hA (va_runV (As := [.int (0 : Int32)]) (rest := []) ⟨hx, hb, hml, hown, htb⟩ (c_Reader_pastSpaces l g F a_t a_query (a_span 0) r36 r31 (0 : Int32) _ hr37 H.size) (cw_V htb mb_Reader_pastSpaces (htb _ L_Reader_56) rfl rfl ⟨Nat.le_of_ble_eq_true rfl, Nat.le_of_ble_eq_true rfl⟩) (pre_V (va_recv hK hP (ci := 3) (q0 := 0) rfl rfl) (pre_S [0, 1, 2, 3, 5, 6, 7, 8, 9, 10, 11, 12, 13, 14, 15] rfl rfl hP hD hS hA hAA hG)) rfl rfl hl.1 rfl (lv_room (Nat.le_of_ble_eq_true rfl)) d_Reader_takesIn_35 ⟨Nat.zero_le _, Nat.zero_le _⟩) (fun H locs hP hS => ?_)
  refine lv_istore_n (lv' := [(3, .int r37), (0, .ref (a_t 0)), (1, .ref (a_p1 1)), (2, .int x2)]) hx hb d_Reader_takesIn_38 rfl hl (by decide) rfl (fun ls hl => ?_)
  refine lv_iload_n hx hb d_Reader_takesIn_39 rfl (lv_at hl 0 rfl) ?_
  refine lv_aload_n hx hb d_Reader_takesIn_40 rfl (lv_at hl 1 rfl) ?_
  refine va_get (D := gD g) (ci := 3) (v := .ref (a_query 0)) (C := R_Reader) (T := T_Reader) (N := 9) hx hb htb in_Reader hown hK hP 0 rfl rfl 0 (by decide) (htb _ L_Reader_12) (fun _ h9 => h9) rfl d_Reader_takesIn_41 ?_
  refine va_getN (D := gD g) (ci := 1) (v := .int (r31 1 0)) (C := R_Query) (T := T_Query) (N := 14) hx hb htb in_Query hown hK hP 5 rfl rfl 1 (by decide) (nf_of hG N_Reader_60) (fun _ h9 => h9) rfl d_Reader_takesIn_44 ?_
  refine lv_icmp_lt (tgt := 52) hx hb d_Reader_takesIn_47 (by decide) (fun c38 => ?_) (fun c38 => ?_)
  · replace h := (if_pos c38).symm.trans h
    refine lv_iconst (v := 0) hx hb d_Reader_takesIn_52 (by decide) ?_
    refine lv_istore (lv' := [(4, .int (0 : Int32)), (3, .int r37), (0, .ref (a_t 0)), (1, .ref (a_p1 1)), (2, .int x2)]) hx hb d_Reader_takesIn_53 hl (by decide) rfl (fun ls hl => ?_)
    exact k_Reader_takesIn_55 hC F _ _ _ _ _ _ _ _ h _ _ _ hP hD hS (lv_sub hl [2, 1, 0] rfl)
  · replace h := (if_neg c38).symm.trans h
    refine lv_iconst (v := 1) hx hb d_Reader_takesIn_50 (by decide) ?_
    cases h
    exact W.zret hx hb hr rfl (fun t ht hW => ⟨⟨_, (), rfl, rfl, by rw [ht]; exact hP, hD⟩, hS.F ht⟩) hS.2.2 d_Reader_takesIn_51
theorem c_Reader_takesIn (l : Launch) (g : Gz) (F : Nat) (a_t : Nat → Nat) (a_p1 : Nat → Nat) (a_query : Nat → Nat) (a_span : Nat → Nat) (t : StI) (p1N : Nat) (p1 : StI) (query : StI) (span : StI) (x2 : Int32) (res : Int32 × StI × StI × StI) (h : Reader_takesIn F t p1N p1 query span x2 = some res) : ∀ sz : Nat, Met l y_Reader_takesIn (.code y_Reader_takesIn prog_6_method_3_code 5 (some .boolean) :: TBL) rm_Reader_takesIn (va_Pc [.ref (a_t 0), .ref (a_p1 1), .int x2] (Pre0 g ((pic_Reader g a_t (a_query 0) (a_span 0) t) ++ (pic_ArrC g a_p1 p1N p1) ++ (pic_Query g a_query query) ++ (pic_Span g a_span span)) sz)) (EI g ((pic_Reader g a_t (a_query 0) (a_span 0) res.2.1) ++ (pic_ArrC g a_p1 p1N p1) ++ (pic_Query g a_query res.2.2.1) ++ (pic_Span g a_span res.2.2.2)) res.1 (va_A ((pic_Reader g a_t (a_query 0) (a_span 0) t) ++ (pic_ArrC g a_p1 p1N p1) ++ (pic_Query g a_query query) ++ (pic_Span g a_span span)) sz)) 0 0 (va_A ((pic_Reader g a_t (a_query 0) (a_span 0) t) ++ (pic_ArrC g a_p1 p1N p1) ++ (pic_Query g a_query query) ++ (pic_Span g a_span span)) sz) :=
  ct_w (Qc := fun A => EI g ((pic_Reader g a_t (a_query 0) (a_span 0) res.2.1) ++ (pic_ArrC g a_p1 p1N p1) ++ (pic_Query g a_query res.2.2.1) ++ (pic_Span g a_span res.2.2.2)) res.1 A) (by decide) (Nat.le_of_ble_eq_true rfl) (fun p e s m args below meth c A hC => k_Reader_takesIn hC t p1N p1 query span x2 res h)
