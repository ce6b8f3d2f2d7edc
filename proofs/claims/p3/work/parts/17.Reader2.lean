theorem L_Reader_36 : (Jvm.Cond.fieldLink "MailQueries$Reader" (36 : Nat) "MailQueries$Reader" "open" "I") ∈ TBL := TBL_in (List.mem_of_getElem? (i := 232) (by decide +kernel)) (by decide +kernel)
theorem L_Reader_46 : (Jvm.Cond.fieldLink "MailQueries$Reader" (46 : Nat) "MailQueries$Reader" "andFrom" "[I") ∈ TBL := TBL_in (List.mem_of_getElem? (i := 235) (by decide +kernel)) (by decide +kernel)
set_option maxRecDepth 100000 in
theorem W_Reader_beginAll_code : (Jvm.Cond.code ({ cls := "MailQueries$Reader", name := "beginAll", desc := "()V" } : Jvm.MethodName) prog_6_method_13_code (1 : Nat) (Option.none : Option Jvm.ClassFile.FieldType)) ∈ TBL := TBL_in (List.mem_of_getElem? (i := 706) rfl) rfl
theorem W_Reader_beginAll_in : (Jvm.Cond.instanceMethod ({ cls := "MailQueries$Reader", name := "beginAll", desc := "()V" } : Jvm.MethodName)) ∈ TBL := TBL_in (List.mem_of_getElem? (i := 705) (by decide +kernel)) (by decide +kernel)
theorem sel_25 : Cond.selects "MailQueries$Reader" ⟨"MailQueries$Reader", "beginAll", "()V"⟩ ⟨"MailQueries$Reader", "beginAll", "()V"⟩ ∈ TBL := TBL_in (List.mem_of_getElem? (i := 25) (by decide +kernel)) (by decide +kernel)
theorem L_Reader_43 : (Jvm.Cond.fieldLink "MailQueries$Reader" (43 : Nat) "MailQueries$Reader" "xorFrom" "[I") ∈ TBL := TBL_in (List.mem_of_getElem? (i := 234) (by decide +kernel)) (by decide +kernel)
theorem L_Reader_137 : (Jvm.Cond.methodLink "MailQueries$Reader" (137 : Nat) ({ cls := "MailQueries$Reader", name := "beginAll", desc := "()V" } : Jvm.MethodName)) ∈ TBL := TBL_in (List.mem_of_getElem? (i := 703) (by decide +kernel)) (by decide +kernel)
set_option maxRecDepth 100000 in
theorem W_Reader_beginEither_code : (Jvm.Cond.code ({ cls := "MailQueries$Reader", name := "beginEither", desc := "()V" } : Jvm.MethodName) prog_6_method_12_code (1 : Nat) (Option.none : Option Jvm.ClassFile.FieldType)) ∈ TBL := TBL_in (List.mem_of_getElem? (i := 702) rfl) rfl
theorem W_Reader_beginEither_in : (Jvm.Cond.instanceMethod ({ cls := "MailQueries$Reader", name := "beginEither", desc := "()V" } : Jvm.MethodName)) ∈ TBL := TBL_in (List.mem_of_getElem? (i := 701) (by decide +kernel)) (by decide +kernel)
theorem sel_24 : Cond.selects "MailQueries$Reader" ⟨"MailQueries$Reader", "beginEither", "()V"⟩ ⟨"MailQueries$Reader", "beginEither", "()V"⟩ ∈ TBL := TBL_in (List.mem_of_getElem? (i := 24) (by decide +kernel)) (by decide +kernel)
theorem L_Reader_39 : (Jvm.Cond.fieldLink "MailQueries$Reader" (39 : Nat) "MailQueries$Reader" "orFrom" "[I") ∈ TBL := TBL_in (List.mem_of_getElem? (i := 233) (by decide +kernel)) (by decide +kernel)
theorem L_Reader_134 : (Jvm.Cond.methodLink "MailQueries$Reader" (134 : Nat) ({ cls := "MailQueries$Reader", name := "beginEither", desc := "()V" } : Jvm.MethodName)) ∈ TBL := TBL_in (List.mem_of_getElem? (i := 699) (by decide +kernel)) (by decide +kernel)
set_option maxRecDepth 100000 in
theorem W_Reader_beginAny_code : (Jvm.Cond.code ({ cls := "MailQueries$Reader", name := "beginAny", desc := "()V" } : Jvm.MethodName) prog_6_method_11_code (1 : Nat) (Option.none : Option Jvm.ClassFile.FieldType)) ∈ TBL := TBL_in (List.mem_of_getElem? (i := 698) rfl) rfl
theorem W_Reader_beginAny_in : (Jvm.Cond.instanceMethod ({ cls := "MailQueries$Reader", name := "beginAny", desc := "()V" } : Jvm.MethodName)) ∈ TBL := TBL_in (List.mem_of_getElem? (i := 697) (by decide +kernel)) (by decide +kernel)
theorem sel_23 : Cond.selects "MailQueries$Reader" ⟨"MailQueries$Reader", "beginAny", "()V"⟩ ⟨"MailQueries$Reader", "beginAny", "()V"⟩ ∈ TBL := TBL_in (List.mem_of_getElem? (i := 23) (by decide +kernel)) (by decide +kernel)
theorem L_Reader_32 : (Jvm.Cond.fieldLink "MailQueries$Reader" (32 : Nat) "MailQueries$Reader" "operandDue" "Z") ∈ TBL := TBL_in (List.mem_of_getElem? (i := 231) (by decide +kernel)) (by decide +kernel)
theorem L_Reader_140 : (Jvm.Cond.methodLink "MailQueries$Reader" (140 : Nat) ({ cls := "MailQueries$Query", name := "insert", desc := "(II)V" } : Jvm.MethodName)) ∈ TBL := TBL_in (List.mem_of_getElem? (i := 735) (by decide +kernel)) (by decide +kernel)
set_option maxRecDepth 100000 in
theorem W_Reader_joinBy_code : (Jvm.Cond.code ({ cls := "MailQueries$Reader", name := "joinBy", desc := "(I)V" } : Jvm.MethodName) prog_6_method_15_code (2 : Nat) (Option.none : Option Jvm.ClassFile.FieldType)) ∈ TBL := TBL_in (List.mem_of_getElem? (i := 734) rfl) rfl
theorem W_Reader_joinBy_in : (Jvm.Cond.instanceMethod ({ cls := "MailQueries$Reader", name := "joinBy", desc := "(I)V" } : Jvm.MethodName)) ∈ TBL := TBL_in (List.mem_of_getElem? (i := 733) (by decide +kernel)) (by decide +kernel)
theorem sel_31 : Cond.selects "MailQueries$Reader" ⟨"MailQueries$Reader", "joinBy", "(I)V"⟩ ⟨"MailQueries$Reader", "joinBy", "(I)V"⟩ ∈ TBL := TBL_in (List.mem_of_getElem? (i := 31) (by decide +kernel)) (by decide +kernel)
theorem L_Reader_109 : (Jvm.Cond.methodLink "MailQueries$Reader" (109 : Nat) ({ cls := "MailQueries$Reader", name := "joinBy", desc := "(I)V" } : Jvm.MethodName)) ∈ TBL := TBL_in (List.mem_of_getElem? (i := 731) (by decide +kernel)) (by decide +kernel)
set_option maxRecDepth 100000 in
theorem W_Reader_beginOperand_code : (Jvm.Cond.code ({ cls := "MailQueries$Reader", name := "beginOperand", desc := "()V" } : Jvm.MethodName) prog_6_method_14_code (1 : Nat) (Option.none : Option Jvm.ClassFile.FieldType)) ∈ TBL := TBL_in (List.mem_of_getElem? (i := 730) rfl) rfl
theorem W_Reader_beginOperand_in : (Jvm.Cond.instanceMethod ({ cls := "MailQueries$Reader", name := "beginOperand", desc := "()V" } : Jvm.MethodName)) ∈ TBL := TBL_in (List.mem_of_getElem? (i := 729) (by decide +kernel)) (by decide +kernel)
theorem sel_30 : Cond.selects "MailQueries$Reader" ⟨"MailQueries$Reader", "beginOperand", "()V"⟩ ⟨"MailQueries$Reader", "beginOperand", "()V"⟩ ∈ TBL := TBL_in (List.mem_of_getElem? (i := 30) (by decide +kernel)) (by decide +kernel)
theorem L_Reader_123 : (Jvm.Cond.methodLink "MailQueries$Reader" (123 : Nat) ({ cls := "MailQueries$Query", name := "isFull", desc := "()Z" } : Jvm.MethodName)) ∈ TBL := TBL_in (List.mem_of_getElem? (i := 773) (by decide +kernel)) (by decide +kernel)
theorem L_Reader_66 : (Jvm.Cond.methodLink "MailQueries$Reader" (66 : Nat) ({ cls := "MailQueries$Reader", name := "fail", desc := "(II)I" } : Jvm.MethodName)) ∈ TBL := TBL_in (List.mem_of_getElem? (i := 723) (by decide +kernel)) (by decide +kernel)
set_option maxRecDepth 100000 in
theorem W_Reader_isBegun_code : (Jvm.Cond.code ({ cls := "MailQueries$Reader", name := "isBegun", desc := "(III)Z" } : Jvm.MethodName) prog_6_method_10_code (5 : Nat) (Option.some Jvm.ClassFile.FieldType.boolean)) ∈ TBL := TBL_in (List.mem_of_getElem? (i := 772) rfl) rfl
theorem W_Reader_isBegun_in : (Jvm.Cond.instanceMethod ({ cls := "MailQueries$Reader", name := "isBegun", desc := "(III)Z" } : Jvm.MethodName)) ∈ TBL := TBL_in (List.mem_of_getElem? (i := 771) (by decide +kernel)) (by decide +kernel)
theorem sel_36 : Cond.selects "MailQueries$Reader" ⟨"MailQueries$Reader", "isBegun", "(III)Z"⟩ ⟨"MailQueries$Reader", "isBegun", "(III)Z"⟩ ∈ TBL := TBL_in (List.mem_of_getElem? (i := 36) (by decide +kernel)) (by decide +kernel)
theorem L_Reader_119 : (Jvm.Cond.methodLink "MailQueries$Reader" (119 : Nat) ({ cls := "MailQueries$Reader", name := "fieldHas", desc := "(IZII)Z" } : Jvm.MethodName)) ∈ TBL := TBL_in (List.mem_of_getElem? (i := 785) (by decide +kernel)) (by decide +kernel)
theorem L_Reader_102 : (Jvm.Cond.methodLink "MailQueries$Reader" (102 : Nat) ({ cls := "MailQueries$Reader", name := "beginOperand", desc := "()V" } : Jvm.MethodName)) ∈ TBL := TBL_in (List.mem_of_getElem? (i := 727) (by decide +kernel)) (by decide +kernel)
theorem L_Reader_127 : (Jvm.Cond.methodLink "MailQueries$Reader" (127 : Nat) ({ cls := "MailQueries$Query", name := "take", desc := "(IZIILMailQueries$Span;)V" } : Jvm.MethodName)) ∈ TBL := TBL_in (List.mem_of_getElem? (i := 845) (by decide +kernel)) (by decide +kernel)
theorem L_Reader_93 : (Jvm.Cond.methodLink "MailQueries$Reader" (93 : Nat) ({ cls := "MailQueries$Reader", name := "pastTextBytes", desc := "(I)I" } : Jvm.MethodName)) ∈ TBL := TBL_in (List.mem_of_getElem? (i := 781) (by decide +kernel)) (by decide +kernel)
theorem L_Reader_112 : (Jvm.Cond.methodLink "MailQueries$Reader" (112 : Nat) ({ cls := "MailQueries$Reader", name := "isBegun", desc := "(III)Z" } : Jvm.MethodName)) ∈ TBL := TBL_in (List.mem_of_getElem? (i := 769) (by decide +kernel)) (by decide +kernel)
set_option maxRecDepth 100000 in
theorem W_Reader_takeAtom_code : (Jvm.Cond.code ({ cls := "MailQueries$Reader", name := "takeAtom", desc := "(III)I" } : Jvm.MethodName) prog_6_method_9_code (7 : Nat) (Option.some Jvm.ClassFile.FieldType.int)) ∈ TBL := TBL_in (List.mem_of_getElem? (i := 768) rfl) rfl
theorem W_Reader_takeAtom_in : (Jvm.Cond.instanceMethod ({ cls := "MailQueries$Reader", name := "takeAtom", desc := "(III)I" } : Jvm.MethodName)) ∈ TBL := TBL_in (List.mem_of_getElem? (i := 767) (by decide +kernel)) (by decide +kernel)
theorem sel_35 : Cond.selects "MailQueries$Reader" ⟨"MailQueries$Reader", "takeAtom", "(III)I"⟩ ⟨"MailQueries$Reader", "takeAtom", "(III)I"⟩ ∈ TBL := TBL_in (List.mem_of_getElem? (i := 35) (by decide +kernel)) (by decide +kernel)
def y_Reader_beginAll : MethodName := ⟨"MailQueries$Reader", "beginAll", "()V"⟩
def rm_Reader_beginAll : Room := { frames := 0, cells := 0, slots := 0, locals := 0 }
theorem d_Reader_beginAll_0 : decode prog_6_method_13_code 0 = .ok (.aload_n 0, 1) := by decide +kernel
theorem d_Reader_beginAll_1 : decode prog_6_method_13_code 1 = .ok (.getfield 36, 3) := by decide +kernel
theorem d_Reader_beginAll_4 : decode prog_6_method_13_code 4 = .ok (.ifCond .lt 28, 3) := by decide +kernel
theorem d_Reader_beginAll_7 : decode prog_6_method_13_code 7 = .ok (.aload_n 0, 1) := by decide +kernel
theorem d_Reader_beginAll_8 : decode prog_6_method_13_code 8 = .ok (.getfield 36, 3) := by decide +kernel
theorem d_Reader_beginAll_11 : decode prog_6_method_13_code 11 = .ok (.bipush 20, 2) := by decide +kernel
theorem d_Reader_beginAll_13 : decode prog_6_method_13_code 13 = .ok (.if_icmp .gt 19, 3) := by decide +kernel
theorem d_Reader_beginAll_16 : decode prog_6_method_13_code 16 = .ok (.aload_n 0, 1) := by decide +kernel
theorem d_Reader_beginAll_17 : decode prog_6_method_13_code 17 = .ok (.getfield 46, 3) := by decide +kernel
theorem d_Reader_beginAll_20 : decode prog_6_method_13_code 20 = .ok (.aload_n 0, 1) := by decide +kernel
theorem d_Reader_beginAll_21 : decode prog_6_method_13_code 21 = .ok (.getfield 36, 3) := by decide +kernel
theorem d_Reader_beginAll_24 : decode prog_6_method_13_code 24 = .ok (.aload_n 0, 1) := by decide +kernel
theorem d_Reader_beginAll_25 : decode prog_6_method_13_code 25 = .ok (.getfield 12, 3) := by decide +kernel
theorem d_Reader_beginAll_28 : decode prog_6_method_13_code 28 = .ok (.getfield 131, 3) := by decide +kernel
theorem d_Reader_beginAll_31 : decode prog_6_method_13_code 31 = .ok (.iastore, 1) := by decide +kernel
theorem d_Reader_beginAll_32 : decode prog_6_method_13_code 32 = .ok (.return_, 1) := by decide +kernel
def y_Reader_beginEither : MethodName := ⟨"MailQueries$Reader", "beginEither", "()V"⟩
def rm_Reader_beginEither : Room := { frames := 1, cells := 0, slots := 0, locals := 20 }
theorem d_Reader_beginEither_0 : decode prog_6_method_12_code 0 = .ok (.aload_n 0, 1) := by decide +kernel
theorem d_Reader_beginEither_1 : decode prog_6_method_12_code 1 = .ok (.getfield 36, 3) := by decide +kernel
theorem d_Reader_beginEither_4 : decode prog_6_method_12_code 4 = .ok (.ifCond .lt 32, 3) := by decide +kernel
theorem d_Reader_beginEither_7 : decode prog_6_method_12_code 7 = .ok (.aload_n 0, 1) := by decide +kernel
theorem d_Reader_beginEither_8 : decode prog_6_method_12_code 8 = .ok (.getfield 36, 3) := by decide +kernel
theorem d_Reader_beginEither_11 : decode prog_6_method_12_code 11 = .ok (.bipush 20, 2) := by decide +kernel
theorem d_Reader_beginEither_13 : decode prog_6_method_12_code 13 = .ok (.if_icmp .gt 23, 3) := by decide +kernel
theorem d_Reader_beginEither_16 : decode prog_6_method_12_code 16 = .ok (.aload_n 0, 1) := by decide +kernel
theorem d_Reader_beginEither_17 : decode prog_6_method_12_code 17 = .ok (.getfield 43, 3) := by decide +kernel
theorem d_Reader_beginEither_20 : decode prog_6_method_12_code 20 = .ok (.aload_n 0, 1) := by decide +kernel
theorem d_Reader_beginEither_21 : decode prog_6_method_12_code 21 = .ok (.getfield 36, 3) := by decide +kernel
theorem d_Reader_beginEither_24 : decode prog_6_method_12_code 24 = .ok (.aload_n 0, 1) := by decide +kernel
theorem d_Reader_beginEither_25 : decode prog_6_method_12_code 25 = .ok (.getfield 12, 3) := by decide +kernel
theorem d_Reader_beginEither_28 : decode prog_6_method_12_code 28 = .ok (.getfield 131, 3) := by decide +kernel
theorem d_Reader_beginEither_31 : decode prog_6_method_12_code 31 = .ok (.iastore, 1) := by decide +kernel
theorem d_Reader_beginEither_32 : decode prog_6_method_12_code 32 = .ok (.aload_n 0, 1) := by decide +kernel
theorem d_Reader_beginEither_33 : decode prog_6_method_12_code 33 = .ok (.invokevirtual 137, 3) := by decide +kernel
theorem d_Reader_beginEither_36 : decode prog_6_method_12_code 36 = .ok (.return_, 1) := by decide +kernel
def y_Reader_beginAny : MethodName := ⟨"MailQueries$Reader", "beginAny", "()V"⟩
def rm_Reader_beginAny : Room := { frames := 2, cells := 0, slots := 0, locals := 40 }
theorem d_Reader_beginAny_0 : decode prog_6_method_11_code 0 = .ok (.aload_n 0, 1) := by decide +kernel
theorem d_Reader_beginAny_1 : decode prog_6_method_11_code 1 = .ok (.getfield 36, 3) := by decide +kernel
theorem d_Reader_beginAny_4 : decode prog_6_method_11_code 4 = .ok (.ifCond .lt 32, 3) := by decide +kernel
theorem d_Reader_beginAny_7 : decode prog_6_method_11_code 7 = .ok (.aload_n 0, 1) := by decide +kernel
theorem d_Reader_beginAny_8 : decode prog_6_method_11_code 8 = .ok (.getfield 36, 3) := by decide +kernel
theorem d_Reader_beginAny_11 : decode prog_6_method_11_code 11 = .ok (.bipush 20, 2) := by decide +kernel
theorem d_Reader_beginAny_13 : decode prog_6_method_11_code 13 = .ok (.if_icmp .gt 23, 3) := by decide +kernel
theorem d_Reader_beginAny_16 : decode prog_6_method_11_code 16 = .ok (.aload_n 0, 1) := by decide +kernel
theorem d_Reader_beginAny_17 : decode prog_6_method_11_code 17 = .ok (.getfield 39, 3) := by decide +kernel
theorem d_Reader_beginAny_20 : decode prog_6_method_11_code 20 = .ok (.aload_n 0, 1) := by decide +kernel
theorem d_Reader_beginAny_21 : decode prog_6_method_11_code 21 = .ok (.getfield 36, 3) := by decide +kernel
theorem d_Reader_beginAny_24 : decode prog_6_method_11_code 24 = .ok (.aload_n 0, 1) := by decide +kernel
theorem d_Reader_beginAny_25 : decode prog_6_method_11_code 25 = .ok (.getfield 12, 3) := by decide +kernel
theorem d_Reader_beginAny_28 : decode prog_6_method_11_code 28 = .ok (.getfield 131, 3) := by decide +kernel
theorem d_Reader_beginAny_31 : decode prog_6_method_11_code 31 = .ok (.iastore, 1) := by decide +kernel
theorem d_Reader_beginAny_32 : decode prog_6_method_11_code 32 = .ok (.aload_n 0, 1) := by decide +kernel
theorem d_Reader_beginAny_33 : decode prog_6_method_11_code 33 = .ok (.invokevirtual 134, 3) := by decide +kernel
theorem d_Reader_beginAny_36 : decode prog_6_method_11_code 36 = .ok (.return_, 1) := by decide +kernel
def y_Reader_joinBy : MethodName := ⟨"MailQueries$Reader", "joinBy", "(I)V"⟩
def rm_Reader_joinBy : Room := { frames := 2, cells := 0, slots := 0, locals := 62 }
theorem d_Reader_joinBy_0 : decode prog_6_method_15_code 0 = .ok (.aload_n 0, 1) := by decide +kernel
theorem d_Reader_joinBy_1 : decode prog_6_method_15_code 1 = .ok (.iconst 1, 1) := by decide +kernel
theorem d_Reader_joinBy_2 : decode prog_6_method_15_code 2 = .ok (.putfield 32, 3) := by decide +kernel
theorem d_Reader_joinBy_5 : decode prog_6_method_15_code 5 = .ok (.aload_n 0, 1) := by decide +kernel
theorem d_Reader_joinBy_6 : decode prog_6_method_15_code 6 = .ok (.getfield 36, 3) := by decide +kernel
theorem d_Reader_joinBy_9 : decode prog_6_method_15_code 9 = .ok (.ifCond .lt 12, 3) := by decide +kernel
theorem d_Reader_joinBy_12 : decode prog_6_method_15_code 12 = .ok (.aload_n 0, 1) := by decide +kernel
theorem d_Reader_joinBy_13 : decode prog_6_method_15_code 13 = .ok (.getfield 36, 3) := by decide +kernel
theorem d_Reader_joinBy_16 : decode prog_6_method_15_code 16 = .ok (.bipush 20, 2) := by decide +kernel
theorem d_Reader_joinBy_18 : decode prog_6_method_15_code 18 = .ok (.if_icmp .le 4, 3) := by decide +kernel
theorem d_Reader_joinBy_21 : decode prog_6_method_15_code 21 = .ok (.return_, 1) := by decide +kernel
theorem d_Reader_joinBy_22 : decode prog_6_method_15_code 22 = .ok (.iload_n 1, 1) := by decide +kernel
theorem d_Reader_joinBy_23 : decode prog_6_method_15_code 23 = .ok (.bipush (-4), 2) := by decide +kernel
theorem d_Reader_joinBy_25 : decode prog_6_method_15_code 25 = .ok (.if_icmp .ne 28, 3) := by decide +kernel
theorem d_Reader_joinBy_28 : decode prog_6_method_15_code 28 = .ok (.aload_n 0, 1) := by decide +kernel
theorem d_Reader_joinBy_29 : decode prog_6_method_15_code 29 = .ok (.getfield 12, 3) := by decide +kernel
theorem d_Reader_joinBy_32 : decode prog_6_method_15_code 32 = .ok (.aload_n 0, 1) := by decide +kernel
theorem d_Reader_joinBy_33 : decode prog_6_method_15_code 33 = .ok (.getfield 39, 3) := by decide +kernel
theorem d_Reader_joinBy_36 : decode prog_6_method_15_code 36 = .ok (.aload_n 0, 1) := by decide +kernel
theorem d_Reader_joinBy_37 : decode prog_6_method_15_code 37 = .ok (.getfield 36, 3) := by decide +kernel
theorem d_Reader_joinBy_40 : decode prog_6_method_15_code 40 = .ok (.iaload, 1) := by decide +kernel
theorem d_Reader_joinBy_41 : decode prog_6_method_15_code 41 = .ok (.bipush (-4), 2) := by decide +kernel
theorem d_Reader_joinBy_43 : decode prog_6_method_15_code 43 = .ok (.invokevirtual 140, 3) := by decide +kernel
theorem d_Reader_joinBy_46 : decode prog_6_method_15_code 46 = .ok (.aload_n 0, 1) := by decide +kernel
theorem d_Reader_joinBy_47 : decode prog_6_method_15_code 47 = .ok (.invokevirtual 134, 3) := by decide +kernel
theorem d_Reader_joinBy_50 : decode prog_6_method_15_code 50 = .ok (.goto 52, 3) := by decide +kernel
theorem d_Reader_joinBy_53 : decode prog_6_method_15_code 53 = .ok (.iload_n 1, 1) := by decide +kernel
theorem d_Reader_joinBy_54 : decode prog_6_method_15_code 54 = .ok (.bipush (-5), 2) := by decide +kernel
theorem d_Reader_joinBy_56 : decode prog_6_method_15_code 56 = .ok (.if_icmp .ne 28, 3) := by decide +kernel
theorem d_Reader_joinBy_59 : decode prog_6_method_15_code 59 = .ok (.aload_n 0, 1) := by decide +kernel
theorem d_Reader_joinBy_60 : decode prog_6_method_15_code 60 = .ok (.getfield 12, 3) := by decide +kernel
theorem d_Reader_joinBy_63 : decode prog_6_method_15_code 63 = .ok (.aload_n 0, 1) := by decide +kernel
theorem d_Reader_joinBy_64 : decode prog_6_method_15_code 64 = .ok (.getfield 43, 3) := by decide +kernel
theorem d_Reader_joinBy_67 : decode prog_6_method_15_code 67 = .ok (.aload_n 0, 1) := by decide +kernel
theorem d_Reader_joinBy_68 : decode prog_6_method_15_code 68 = .ok (.getfield 36, 3) := by decide +kernel
theorem d_Reader_joinBy_71 : decode prog_6_method_15_code 71 = .ok (.iaload, 1) := by decide +kernel
theorem d_Reader_joinBy_72 : decode prog_6_method_15_code 72 = .ok (.bipush (-5), 2) := by decide +kernel
theorem d_Reader_joinBy_74 : decode prog_6_method_15_code 74 = .ok (.invokevirtual 140, 3) := by decide +kernel
theorem d_Reader_joinBy_77 : decode prog_6_method_15_code 77 = .ok (.aload_n 0, 1) := by decide +kernel
theorem d_Reader_joinBy_78 : decode prog_6_method_15_code 78 = .ok (.invokevirtual 137, 3) := by decide +kernel
theorem d_Reader_joinBy_81 : decode prog_6_method_15_code 81 = .ok (.goto 21, 3) := by decide +kernel
theorem d_Reader_joinBy_84 : decode prog_6_method_15_code 84 = .ok (.aload_n 0, 1) := by decide +kernel
theorem d_Reader_joinBy_85 : decode prog_6_method_15_code 85 = .ok (.getfield 12, 3) := by decide +kernel
theorem d_Reader_joinBy_88 : decode prog_6_method_15_code 88 = .ok (.aload_n 0, 1) := by decide +kernel
theorem d_Reader_joinBy_89 : decode prog_6_method_15_code 89 = .ok (.getfield 46, 3) := by decide +kernel
theorem d_Reader_joinBy_92 : decode prog_6_method_15_code 92 = .ok (.aload_n 0, 1) := by decide +kernel
theorem d_Reader_joinBy_93 : decode prog_6_method_15_code 93 = .ok (.getfield 36, 3) := by decide +kernel
theorem d_Reader_joinBy_96 : decode prog_6_method_15_code 96 = .ok (.iaload, 1) := by decide +kernel
theorem d_Reader_joinBy_97 : decode prog_6_method_15_code 97 = .ok (.bipush (-3), 2) := by decide +kernel
theorem d_Reader_joinBy_99 : decode prog_6_method_15_code 99 = .ok (.invokevirtual 140, 3) := by decide +kernel
theorem d_Reader_joinBy_102 : decode prog_6_method_15_code 102 = .ok (.return_, 1) := by decide +kernel
def y_Reader_beginOperand : MethodName := ⟨"MailQueries$Reader", "beginOperand", "()V"⟩
def rm_Reader_beginOperand : Room := { frames := 3, cells := 0, slots := 0, locals := 83 }
theorem d_Reader_beginOperand_0 : decode prog_6_method_14_code 0 = .ok (.aload_n 0, 1) := by decide +kernel
theorem d_Reader_beginOperand_1 : decode prog_6_method_14_code 1 = .ok (.getfield 32, 3) := by decide +kernel
theorem d_Reader_beginOperand_4 : decode prog_6_method_14_code 4 = .ok (.ifCond .ne 9, 3) := by decide +kernel
theorem d_Reader_beginOperand_7 : decode prog_6_method_14_code 7 = .ok (.aload_n 0, 1) := by decide +kernel
theorem d_Reader_beginOperand_8 : decode prog_6_method_14_code 8 = .ok (.bipush (-3), 2) := by decide +kernel
theorem d_Reader_beginOperand_10 : decode prog_6_method_14_code 10 = .ok (.invokevirtual 109, 3) := by decide +kernel
theorem d_Reader_beginOperand_13 : decode prog_6_method_14_code 13 = .ok (.return_, 1) := by decide +kernel
def y_Reader_isBegun : MethodName := ⟨"MailQueries$Reader", "isBegun", "(III)Z"⟩
def rm_Reader_isBegun : Room := { frames := 1, cells := 0, slots := 0, locals := 22 }
theorem d_Reader_isBegun_0 : decode prog_6_method_10_code 0 = .ok (.aload_n 0, 1) := by decide +kernel
theorem d_Reader_isBegun_1 : decode prog_6_method_10_code 1 = .ok (.getfield 12, 3) := by decide +kernel
theorem d_Reader_isBegun_4 : decode prog_6_method_10_code 4 = .ok (.iload_n 3, 1) := by decide +kernel
theorem d_Reader_isBegun_5 : decode prog_6_method_10_code 5 = .ok (.invokevirtual 70, 3) := by decide +kernel
theorem d_Reader_isBegun_8 : decode prog_6_method_10_code 8 = .ok (.istore 4, 2) := by decide +kernel
theorem d_Reader_isBegun_10 : decode prog_6_method_10_code 10 = .ok (.iload_n 1, 1) := by decide +kernel
theorem d_Reader_isBegun_11 : decode prog_6_method_10_code 11 = .ok (.iconst (-1), 1) := by decide +kernel
theorem d_Reader_isBegun_12 : decode prog_6_method_10_code 12 = .ok (.if_icmp .ne 13, 3) := by decide +kernel
theorem d_Reader_isBegun_15 : decode prog_6_method_10_code 15 = .ok (.aload_n 0, 1) := by decide +kernel
theorem d_Reader_isBegun_16 : decode prog_6_method_10_code 16 = .ok (.iconst 3, 1) := by decide +kernel
theorem d_Reader_isBegun_17 : decode prog_6_method_10_code 17 = .ok (.iload_n 2, 1) := by decide +kernel
theorem d_Reader_isBegun_18 : decode prog_6_method_10_code 18 = .ok (.invokevirtual 66, 3) := by decide +kernel
theorem d_Reader_isBegun_21 : decode prog_6_method_10_code 21 = .ok (.pop, 1) := by decide +kernel
theorem d_Reader_isBegun_22 : decode prog_6_method_10_code 22 = .ok (.goto 45, 3) := by decide +kernel
theorem d_Reader_isBegun_25 : decode prog_6_method_10_code 25 = .ok (.aload_n 0, 1) := by decide +kernel
theorem d_Reader_isBegun_26 : decode prog_6_method_10_code 26 = .ok (.getfield 12, 3) := by decide +kernel
theorem d_Reader_isBegun_29 : decode prog_6_method_10_code 29 = .ok (.invokevirtual 123, 3) := by decide +kernel
theorem d_Reader_isBegun_32 : decode prog_6_method_10_code 32 = .ok (.ifCond .eq 13, 3) := by decide +kernel
theorem d_Reader_isBegun_35 : decode prog_6_method_10_code 35 = .ok (.aload_n 0, 1) := by decide +kernel
theorem d_Reader_isBegun_36 : decode prog_6_method_10_code 36 = .ok (.iconst 5, 1) := by decide +kernel
theorem d_Reader_isBegun_37 : decode prog_6_method_10_code 37 = .ok (.iload_n 2, 1) := by decide +kernel
theorem d_Reader_isBegun_38 : decode prog_6_method_10_code 38 = .ok (.invokevirtual 66, 3) := by decide +kernel
theorem d_Reader_isBegun_41 : decode prog_6_method_10_code 41 = .ok (.pop, 1) := by decide +kernel
theorem d_Reader_isBegun_42 : decode prog_6_method_10_code 42 = .ok (.goto 25, 3) := by decide +kernel
theorem d_Reader_isBegun_45 : decode prog_6_method_10_code 45 = .ok (.iload 4, 2) := by decide +kernel
theorem d_Reader_isBegun_47 : decode prog_6_method_10_code 47 = .ok (.bipush 34, 2) := by decide +kernel
theorem d_Reader_isBegun_49 : decode prog_6_method_10_code 49 = .ok (.if_icmp .eq 18, 3) := by decide +kernel
theorem d_Reader_isBegun_52 : decode prog_6_method_10_code 52 = .ok (.iload 4, 2) := by decide +kernel
theorem d_Reader_isBegun_54 : decode prog_6_method_10_code 54 = .ok (.invokestatic 79, 3) := by decide +kernel
theorem d_Reader_isBegun_57 : decode prog_6_method_10_code 57 = .ok (.ifCond .ne 10, 3) := by decide +kernel
theorem d_Reader_isBegun_60 : decode prog_6_method_10_code 60 = .ok (.aload_n 0, 1) := by decide +kernel
theorem d_Reader_isBegun_61 : decode prog_6_method_10_code 61 = .ok (.iconst 1, 1) := by decide +kernel
theorem d_Reader_isBegun_62 : decode prog_6_method_10_code 62 = .ok (.iload_n 3, 1) := by decide +kernel
theorem d_Reader_isBegun_63 : decode prog_6_method_10_code 63 = .ok (.invokevirtual 66, 3) := by decide +kernel
theorem d_Reader_isBegun_66 : decode prog_6_method_10_code 66 = .ok (.pop, 1) := by decide +kernel
theorem d_Reader_isBegun_67 : decode prog_6_method_10_code 67 = .ok (.aload_n 0, 1) := by decide +kernel
theorem d_Reader_isBegun_68 : decode prog_6_method_10_code 68 = .ok (.getfield 25, 3) := by decide +kernel
theorem d_Reader_isBegun_71 : decode prog_6_method_10_code 71 = .ok (.ifCond .ne 7, 3) := by decide +kernel
theorem d_Reader_isBegun_74 : decode prog_6_method_10_code 74 = .ok (.iconst 1, 1) := by decide +kernel
theorem d_Reader_isBegun_75 : decode prog_6_method_10_code 75 = .ok (.goto 4, 3) := by decide +kernel
theorem d_Reader_isBegun_78 : decode prog_6_method_10_code 78 = .ok (.iconst 0, 1) := by decide +kernel
theorem d_Reader_isBegun_79 : decode prog_6_method_10_code 79 = .ok (.ireturn, 1) := by decide +kernel
def y_Reader_takeAtom : MethodName := ⟨"MailQueries$Reader", "takeAtom", "(III)I"⟩
def rm_Reader_takeAtom : Room := { frames := 7, cells := 0, slots := 0, locals := 155 }
theorem d_Reader_takeAtom_0 : decode prog_6_method_9_code 0 = .ok (.iload_n 1, 1) := by decide +kernel
theorem d_Reader_takeAtom_1 : decode prog_6_method_9_code 1 = .ok (.ifCond .eq 15, 3) := by decide +kernel
theorem d_Reader_takeAtom_4 : decode prog_6_method_9_code 4 = .ok (.aload_n 0, 1) := by decide +kernel
theorem d_Reader_takeAtom_5 : decode prog_6_method_9_code 5 = .ok (.iload_n 1, 1) := by decide +kernel
theorem d_Reader_takeAtom_6 : decode prog_6_method_9_code 6 = .ok (.iload_n 2, 1) := by decide +kernel
theorem d_Reader_takeAtom_7 : decode prog_6_method_9_code 7 = .ok (.iload_n 3, 1) := by decide +kernel
theorem d_Reader_takeAtom_8 : decode prog_6_method_9_code 8 = .ok (.invokevirtual 112, 3) := by decide +kernel
theorem d_Reader_takeAtom_11 : decode prog_6_method_9_code 11 = .ok (.ifCond .ne 5, 3) := by decide +kernel
theorem d_Reader_takeAtom_14 : decode prog_6_method_9_code 14 = .ok (.iconst (-1), 1) := by decide +kernel
theorem d_Reader_takeAtom_15 : decode prog_6_method_9_code 15 = .ok (.ireturn, 1) := by decide +kernel
theorem d_Reader_takeAtom_16 : decode prog_6_method_9_code 16 = .ok (.aload_n 0, 1) := by decide +kernel
theorem d_Reader_takeAtom_17 : decode prog_6_method_9_code 17 = .ok (.getfield 12, 3) := by decide +kernel
theorem d_Reader_takeAtom_20 : decode prog_6_method_9_code 20 = .ok (.iload_n 3, 1) := by decide +kernel
theorem d_Reader_takeAtom_21 : decode prog_6_method_9_code 21 = .ok (.invokevirtual 70, 3) := by decide +kernel
theorem d_Reader_takeAtom_24 : decode prog_6_method_9_code 24 = .ok (.bipush 34, 2) := by decide +kernel
theorem d_Reader_takeAtom_26 : decode prog_6_method_9_code 26 = .ok (.if_icmp .ne 7, 3) := by decide +kernel
theorem d_Reader_takeAtom_29 : decode prog_6_method_9_code 29 = .ok (.iconst 1, 1) := by decide +kernel
theorem d_Reader_takeAtom_30 : decode prog_6_method_9_code 30 = .ok (.goto 4, 3) := by decide +kernel
theorem d_Reader_takeAtom_33 : decode prog_6_method_9_code 33 = .ok (.iconst 0, 1) := by decide +kernel
theorem d_Reader_takeAtom_34 : decode prog_6_method_9_code 34 = .ok (.istore 4, 2) := by decide +kernel
theorem d_Reader_takeAtom_36 : decode prog_6_method_9_code 36 = .ok (.iload 4, 2) := by decide +kernel
theorem d_Reader_takeAtom_38 : decode prog_6_method_9_code 38 = .ok (.ifCond .eq 9, 3) := by decide +kernel
theorem d_Reader_takeAtom_41 : decode prog_6_method_9_code 41 = .ok (.iload_n 3, 1) := by decide +kernel
theorem d_Reader_takeAtom_42 : decode prog_6_method_9_code 42 = .ok (.iconst 1, 1) := by decide +kernel
theorem d_Reader_takeAtom_43 : decode prog_6_method_9_code 43 = .ok (.iadd, 1) := by decide +kernel
theorem d_Reader_takeAtom_44 : decode prog_6_method_9_code 44 = .ok (.goto 4, 3) := by decide +kernel
theorem d_Reader_takeAtom_47 : decode prog_6_method_9_code 47 = .ok (.iload_n 3, 1) := by decide +kernel
theorem d_Reader_takeAtom_48 : decode prog_6_method_9_code 48 = .ok (.istore 5, 2) := by decide +kernel
theorem d_Reader_takeAtom_50 : decode prog_6_method_9_code 50 = .ok (.iload 4, 2) := by decide +kernel
theorem d_Reader_takeAtom_52 : decode prog_6_method_9_code 52 = .ok (.ifCond .eq 24, 3) := by decide +kernel
theorem d_Reader_takeAtom_55 : decode prog_6_method_9_code 55 = .ok (.aload_n 0, 1) := by decide +kernel
theorem d_Reader_takeAtom_56 : decode prog_6_method_9_code 56 = .ok (.getfield 12, 3) := by decide +kernel
theorem d_Reader_takeAtom_59 : decode prog_6_method_9_code 59 = .ok (.bipush 34, 2) := by decide +kernel
theorem d_Reader_takeAtom_61 : decode prog_6_method_9_code 61 = .ok (.iload 5, 2) := by decide +kernel
theorem d_Reader_takeAtom_63 : decode prog_6_method_9_code 63 = .ok (.aload_n 0, 1) := by decide +kernel
theorem d_Reader_takeAtom_64 : decode prog_6_method_9_code 64 = .ok (.getfield 12, 3) := by decide +kernel
theorem d_Reader_takeAtom_67 : decode prog_6_method_9_code 67 = .ok (.getfield 60, 3) := by decide +kernel
theorem d_Reader_takeAtom_70 : decode prog_6_method_9_code 70 = .ok (.invokevirtual 116, 3) := by decide +kernel
theorem d_Reader_takeAtom_73 : decode prog_6_method_9_code 73 = .ok (.goto 9, 3) := by decide +kernel
theorem d_Reader_takeAtom_76 : decode prog_6_method_9_code 76 = .ok (.aload_n 0, 1) := by decide +kernel
theorem d_Reader_takeAtom_77 : decode prog_6_method_9_code 77 = .ok (.iload 5, 2) := by decide +kernel
theorem d_Reader_takeAtom_79 : decode prog_6_method_9_code 79 = .ok (.invokevirtual 93, 3) := by decide +kernel
theorem d_Reader_takeAtom_82 : decode prog_6_method_9_code 82 = .ok (.istore 6, 2) := by decide +kernel
theorem d_Reader_takeAtom_84 : decode prog_6_method_9_code 84 = .ok (.iload 6, 2) := by decide +kernel
theorem d_Reader_takeAtom_86 : decode prog_6_method_9_code 86 = .ok (.iconst (-1), 1) := by decide +kernel
theorem d_Reader_takeAtom_87 : decode prog_6_method_9_code 87 = .ok (.if_icmp .eq 10, 3) := by decide +kernel
theorem d_Reader_takeAtom_90 : decode prog_6_method_9_code 90 = .ok (.iload 6, 2) := by decide +kernel
theorem d_Reader_takeAtom_92 : decode prog_6_method_9_code 92 = .ok (.iload 5, 2) := by decide +kernel
theorem d_Reader_takeAtom_94 : decode prog_6_method_9_code 94 = .ok (.if_icmp .ne 10, 3) := by decide +kernel
theorem d_Reader_takeAtom_97 : decode prog_6_method_9_code 97 = .ok (.aload_n 0, 1) := by decide +kernel
theorem d_Reader_takeAtom_98 : decode prog_6_method_9_code 98 = .ok (.iconst 2, 1) := by decide +kernel
theorem d_Reader_takeAtom_99 : decode prog_6_method_9_code 99 = .ok (.iload_n 3, 1) := by decide +kernel
theorem d_Reader_takeAtom_100 : decode prog_6_method_9_code 100 = .ok (.invokevirtual 66, 3) := by decide +kernel
theorem d_Reader_takeAtom_103 : decode prog_6_method_9_code 103 = .ok (.ireturn, 1) := by decide +kernel
theorem d_Reader_takeAtom_104 : decode prog_6_method_9_code 104 = .ok (.aload_n 0, 1) := by decide +kernel
theorem d_Reader_takeAtom_105 : decode prog_6_method_9_code 105 = .ok (.iload_n 1, 1) := by decide +kernel
theorem d_Reader_takeAtom_106 : decode prog_6_method_9_code 106 = .ok (.iload 4, 2) := by decide +kernel
theorem d_Reader_takeAtom_108 : decode prog_6_method_9_code 108 = .ok (.iload 5, 2) := by decide +kernel
theorem d_Reader_takeAtom_110 : decode prog_6_method_9_code 110 = .ok (.iload 6, 2) := by decide +kernel
theorem d_Reader_takeAtom_112 : decode prog_6_method_9_code 112 = .ok (.invokevirtual 119, 3) := by decide +kernel
theorem d_Reader_takeAtom_115 : decode prog_6_method_9_code 115 = .ok (.ifCond .ne 10, 3) := by decide +kernel
theorem d_Reader_takeAtom_118 : decode prog_6_method_9_code 118 = .ok (.aload_n 0, 1) := by decide +kernel
theorem d_Reader_takeAtom_119 : decode prog_6_method_9_code 119 = .ok (.iconst 4, 1) := by decide +kernel
theorem d_Reader_takeAtom_120 : decode prog_6_method_9_code 120 = .ok (.iload_n 3, 1) := by decide +kernel
theorem d_Reader_takeAtom_121 : decode prog_6_method_9_code 121 = .ok (.invokevirtual 66, 3) := by decide +kernel
theorem d_Reader_takeAtom_124 : decode prog_6_method_9_code 124 = .ok (.ireturn, 1) := by decide +kernel
theorem d_Reader_takeAtom_125 : decode prog_6_method_9_code 125 = .ok (.aload_n 0, 1) := by decide +kernel
theorem d_Reader_takeAtom_126 : decode prog_6_method_9_code 126 = .ok (.getfield 12, 3) := by decide +kernel
theorem d_Reader_takeAtom_129 : decode prog_6_method_9_code 129 = .ok (.invokevirtual 123, 3) := by decide +kernel
theorem d_Reader_takeAtom_132 : decode prog_6_method_9_code 132 = .ok (.ifCond .eq 10, 3) := by decide +kernel
theorem d_Reader_takeAtom_135 : decode prog_6_method_9_code 135 = .ok (.aload_n 0, 1) := by decide +kernel
theorem d_Reader_takeAtom_136 : decode prog_6_method_9_code 136 = .ok (.iconst 5, 1) := by decide +kernel
theorem d_Reader_takeAtom_137 : decode prog_6_method_9_code 137 = .ok (.iload_n 2, 1) := by decide +kernel
theorem d_Reader_takeAtom_138 : decode prog_6_method_9_code 138 = .ok (.invokevirtual 66, 3) := by decide +kernel
theorem d_Reader_takeAtom_141 : decode prog_6_method_9_code 141 = .ok (.ireturn, 1) := by decide +kernel
theorem d_Reader_takeAtom_142 : decode prog_6_method_9_code 142 = .ok (.aload_n 0, 1) := by decide +kernel
theorem d_Reader_takeAtom_143 : decode prog_6_method_9_code 143 = .ok (.invokevirtual 102, 3) := by decide +kernel
theorem d_Reader_takeAtom_146 : decode prog_6_method_9_code 146 = .ok (.aload_n 0, 1) := by decide +kernel
theorem d_Reader_takeAtom_147 : decode prog_6_method_9_code 147 = .ok (.getfield 12, 3) := by decide +kernel
theorem d_Reader_takeAtom_150 : decode prog_6_method_9_code 150 = .ok (.iload_n 1, 1) := by decide +kernel
theorem d_Reader_takeAtom_151 : decode prog_6_method_9_code 151 = .ok (.iload 4, 2) := by decide +kernel
theorem d_Reader_takeAtom_153 : decode prog_6_method_9_code 153 = .ok (.iload 5, 2) := by decide +kernel
theorem d_Reader_takeAtom_155 : decode prog_6_method_9_code 155 = .ok (.iload 6, 2) := by decide +kernel
theorem d_Reader_takeAtom_157 : decode prog_6_method_9_code 157 = .ok (.aload_n 0, 1) := by decide +kernel
theorem d_Reader_takeAtom_158 : decode prog_6_method_9_code 158 = .ok (.getfield 21, 3) := by decide +kernel
theorem d_Reader_takeAtom_161 : decode prog_6_method_9_code 161 = .ok (.invokevirtual 127, 3) := by decide +kernel
theorem d_Reader_takeAtom_164 : decode prog_6_method_9_code 164 = .ok (.aload_n 0, 1) := by decide +kernel
theorem d_Reader_takeAtom_165 : decode prog_6_method_9_code 165 = .ok (.iconst 0, 1) := by decide +kernel
theorem d_Reader_takeAtom_166 : decode prog_6_method_9_code 166 = .ok (.putfield 32, 3) := by decide +kernel
theorem d_Reader_takeAtom_169 : decode prog_6_method_9_code 169 = .ok (.iload 4, 2) := by decide +kernel
theorem d_Reader_takeAtom_171 : decode prog_6_method_9_code 171 = .ok (.ifCond .eq 10, 3) := by decide +kernel
theorem d_Reader_takeAtom_174 : decode prog_6_method_9_code 174 = .ok (.iload 6, 2) := by decide +kernel
theorem d_Reader_takeAtom_176 : decode prog_6_method_9_code 176 = .ok (.iconst 1, 1) := by decide +kernel
theorem d_Reader_takeAtom_177 : decode prog_6_method_9_code 177 = .ok (.iadd, 1) := by decide +kernel
theorem d_Reader_takeAtom_178 : decode prog_6_method_9_code 178 = .ok (.goto 5, 3) := by decide +kernel
theorem d_Reader_takeAtom_181 : decode prog_6_method_9_code 181 = .ok (.iload 6, 2) := by decide +kernel
theorem d_Reader_takeAtom_183 : decode prog_6_method_9_code 183 = .ok (.ireturn, 1) := by decide +kernel
theorem mb_Reader_beginAll : Mb y_Reader_beginAll prog_6_method_13_code 1 none 0 := ⟨W_Reader_beginAll_code, W_Reader_beginAll_in, sel_25, I_Reader, by decide +kernel, by decide +kernel, by decide +kernel⟩
theorem mb_Reader_beginEither : Mb y_Reader_beginEither prog_6_method_12_code 1 none 0 := ⟨W_Reader_beginEither_code, W_Reader_beginEither_in, sel_24, I_Reader, by decide +kernel, by decide +kernel, by decide +kernel⟩
theorem mb_Reader_beginAny : Mb y_Reader_beginAny prog_6_method_11_code 1 none 0 := ⟨W_Reader_beginAny_code, W_Reader_beginAny_in, sel_23, I_Reader, by decide +kernel, by decide +kernel, by decide +kernel⟩
theorem mb_Reader_joinBy : Mb y_Reader_joinBy prog_6_method_15_code 2 none 1 := ⟨W_Reader_joinBy_code, W_Reader_joinBy_in, sel_31, I_Reader, by decide +kernel, by decide +kernel, by decide +kernel⟩
theorem mb_Reader_beginOperand : Mb y_Reader_beginOperand prog_6_method_14_code 1 none 0 := ⟨W_Reader_beginOperand_code, W_Reader_beginOperand_in, sel_30, I_Reader, by decide +kernel, by decide +kernel, by decide +kernel⟩
theorem mb_Reader_isBegun : Mb y_Reader_isBegun prog_6_method_10_code 5 (some .boolean) 3 := ⟨W_Reader_isBegun_code, W_Reader_isBegun_in, sel_36, I_Reader, by decide +kernel, by decide +kernel, by decide +kernel⟩
theorem mb_Reader_takeAtom : Mb y_Reader_takeAtom prog_6_method_9_code 7 (some .int) 3 := ⟨W_Reader_takeAtom_code, W_Reader_takeAtom_in, sel_35, I_Reader, by decide +kernel, by decide +kernel, by decide +kernel⟩
def Reader_beginAll (F : Nat) (t : StI) (query : StI) : Option (StI) := if (t 5 0) < 0 then some t else if (20 : Int32) < (t 5 0) then some t else if (t 5 0) < 0 ∨ 21 ≤ (t 5 0).toNatClampNeg then none else letS (va_up t 8 (upd (t 8) (t 5 0).toNatClampNeg (query 13 0))) fun t_7 => some t_7
set_option maxHeartbeats 4000000 in
set_option maxRecDepth 100000 in
theorem k_Reader_beginAll {p : Program} {l : Launch} {e : Env} {s : State} {m : MethodId} {args : Array Value} {below : List Frame} {meth : Method} {c : Code} {g : Gz} {A : Nat → Prop} {F : Nat} {a_t a_query : Nat → Nat} {r_span : Nat} (hC : Cx prog_6_method_13_code 1 none R_Reader p s m args meth c g A A) : ∀ (t : StI) (query : StI) (res : StI), Reader_beginAll F t query = some res → Go p l e rm_Reader_beginAll s m args below meth c g A A 1 (MQ below (EV g ((pic_Reader g a_t (a_query 0) r_span res) ++ (pic_Query g a_query query)) A) args s 0 0 A) ((pic_Reader g a_t (a_query 0) r_span t) ++ (pic_Query g a_query query)) [(0, .ref (a_t 0))] 0 [] := by
  obtain ⟨hx, hb, hr, hml, hown, htb, hlocks, hA, hAA, hG⟩ := id hC
  have hK := hG.1
  intro t query res h H locs ls hP hD hS hl
  rw [Reader_beginAll] at h
  refine lv_aload_n hx hb d_Reader_beginAll_0 rfl (lv_at hl 0 rfl) ?_
  refine va_get (D := gD g) (ci := 3) (v := .int (t 5 0)) (C := R_Reader) (T := T_Reader) (N := 9) hx hb htb in_Reader hown hK hP 0 rfl rfl 5 (by decide) (htb _ L_Reader_36) (fun _ h9 => h9) rfl d_Reader_beginAll_1 ?_
  refine lv_if_lt (tgt := 32) hx hb d_Reader_beginAll_4 (by decide) (fun c5 => ?_) (fun c5 => ?_)
  · replace h := (if_pos c5).symm.trans h
    cases h
    exact W.vret hx hb hr (fun t ht hW => ⟨⟨(), rfl, trivial, by rw [ht]; exact hP, hD⟩, hS.F ht⟩) hS.2.2 d_Reader_beginAll_32
  · replace h := (if_neg c5).symm.trans h
    refine lv_aload_n hx hb d_Reader_beginAll_7 rfl (lv_at hl 0 rfl) ?_
    refine va_get (D := gD g) (ci := 3) (v := .int (t 5 0)) (C := R_Reader) (T := T_Reader) (N := 9) hx hb htb in_Reader hown hK hP 0 rfl rfl 5 (by decide) (htb _ L_Reader_36) (fun _ h9 => h9) rfl d_Reader_beginAll_8 ?_
    refine lv_bipush (v := 20) hx hb d_Reader_beginAll_11 (by decide) ?_
    refine lv_icmp_gt (tgt := 32) hx hb d_Reader_beginAll_13 (by decide) (fun c6 => ?_) (fun c6 => ?_)
    · replace h := (if_pos c6).symm.trans h
      cases h
      exact W.vret hx hb hr (fun t ht hW => ⟨⟨(), rfl, trivial, by rw [ht]; exact hP, hD⟩, hS.F ht⟩) hS.2.2 d_Reader_beginAll_32
    · replace h := (if_neg c6).symm.trans h
      refine lv_aload_n hx hb d_Reader_beginAll_16 rfl (lv_at hl 0 rfl) ?_
      refine va_get (D := gD g) (ci := 3) (v := .ref (a_t 9)) (C := R_Reader) (T := T_Reader) (N := 9) hx hb htb in_Reader hown hK hP 0 rfl rfl 8 (by decide) (htb _ L_Reader_46) (fun _ h9 => h9) rfl d_Reader_beginAll_17 ?_
      refine lv_aload_n hx hb d_Reader_beginAll_20 rfl (lv_at hl 0 rfl) ?_
      refine va_get (D := gD g) (ci := 3) (v := .int (t 5 0)) (C := R_Reader) (T := T_Reader) (N := 9) hx hb htb in_Reader hown hK hP 0 rfl rfl 5 (by decide) (htb _ L_Reader_36) (fun _ h9 => h9) rfl d_Reader_beginAll_21 ?_
      refine lv_aload_n hx hb d_Reader_beginAll_24 rfl (lv_at hl 0 rfl) ?_
      refine va_get (D := gD g) (ci := 3) (v := .ref (a_query 0)) (C := R_Reader) (T := T_Reader) (N := 9) hx hb htb in_Reader hown hK hP 0 rfl rfl 0 (by decide) (htb _ L_Reader_12) (fun _ h9 => h9) rfl d_Reader_beginAll_25 ?_
      refine va_getN (D := gD g) (ci := 1) (v := .int (query 13 0)) (C := R_Query) (T := T_Query) (N := 14) hx hb htb in_Query hown hK hP 4 rfl rfl 13 (by decide) (nf_of hG N_Reader_131) (fun _ h9 => h9) rfl d_Reader_beginAll_28 ?_
      by_cases c8 : ((t 5 0) < 0 ∨ 21 ≤ (t 5 0).toNatClampNeg)
      · replace h := (if_pos c8).symm.trans h
        cases h
      replace h := (if_neg c8).symm.trans h
      refine va_iast hx hb hK hP hD hS 3 0 rfl rfl c8 d_Reader_beginAll_31 (fun H locs hP hD hS => ?_)
      obtain ⟨t_7, et_7, h⟩ := letS_el h
      have hP : va_P (gD g) vwCl ((pic_Reader g a_t (a_query 0) r_span t_7) ++ (pic_Query g a_query query)) H := by rw [et_7]; exact hP
      have hD : va_D A ((pic_Reader g a_t (a_query 0) r_span t_7) ++ (pic_Query g a_query query)) := by rw [et_7]; exact hD
      cases h
      exact W.vret hx hb hr (fun t ht hW => ⟨⟨(), rfl, trivial, by rw [ht]; exact hP, hD⟩, hS.F ht⟩) hS.2.2 d_Reader_beginAll_32
theorem c_Reader_beginAll (l : Launch) (g : Gz) (F : Nat) (a_t : Nat → Nat) (a_query : Nat → Nat) (r_span : Nat) (t : StI) (query : StI) (res : StI) (h : Reader_beginAll F t query = some res) : ∀ sz : Nat, Met l y_Reader_beginAll (.code y_Reader_beginAll prog_6_method_13_code 1 none :: TBL) rm_Reader_beginAll (va_Pc [.ref (a_t 0)] (Pre0 g ((pic_Reader g a_t (a_query 0) r_span t) ++ (pic_Query g a_query query)) sz)) (EV g ((pic_Reader g a_t (a_query 0) r_span res) ++ (pic_Query g a_query query)) (va_A ((pic_Reader g a_t (a_query 0) r_span t) ++ (pic_Query g a_query query)) sz)) 0 0 (va_A ((pic_Reader g a_t (a_query 0) r_span t) ++ (pic_Query g a_query query)) sz) :=
  ct_w (Qc := fun A => EV g ((pic_Reader g a_t (a_query 0) r_span res) ++ (pic_Query g a_query query)) A) (by decide) (Nat.le_of_ble_eq_true rfl) (fun p e s m args below meth c A hC => k_Reader_beginAll hC t query res h)
def Reader_beginEither (F : Nat) (t : StI) (query : StI) : Option (StI) := if (t 5 0) < 0 then some t else if (20 : Int32) < (t 5 0) then some t else if (t 5 0) < 0 ∨ 21 ≤ (t 5 0).toNatClampNeg then none else letS (va_up t 7 (upd (t 7) (t 5 0).toNatClampNeg (query 13 0))) fun t_8 => (Reader_beginAll F t_8 query).bind fun r10 => some r10
set_option maxHeartbeats 4000000 in
set_option maxRecDepth 100000 in
theorem k_Reader_beginEither {p : Program} {l : Launch} {e : Env} {s : State} {m : MethodId} {args : Array Value} {below : List Frame} {meth : Method} {c : Code} {g : Gz} {A : Nat → Prop} {F : Nat} {a_t a_query : Nat → Nat} {r_span : Nat} (hC : Cx prog_6_method_12_code 1 none R_Reader p s m args meth c g A A) : ∀ (t : StI) (query : StI) (res : StI), Reader_beginEither F t query = some res → Go p l e rm_Reader_beginEither s m args below meth c g A A 1 (MQ below (EV g ((pic_Reader g a_t (a_query 0) r_span res) ++ (pic_Query g a_query query)) A) args s 0 0 A) ((pic_Reader g a_t (a_query 0) r_span t) ++ (pic_Query g a_query query)) [(0, .ref (a_t 0))] 0 [] := by
  obtain ⟨hx, hb, hr, hml, hown, htb, hlocks, hA, hAA, hG⟩ := id hC
  have hK := hG.1
  intro t query res h H locs ls hP hD hS hl
  rw [Reader_beginEither] at h
  refine lv_aload_n hx hb d_Reader_beginEither_0 rfl (lv_at hl 0 rfl) ?_
  refine va_get (D := gD g) (ci := 3) (v := .int (t 5 0)) (C := R_Reader) (T := T_Reader) (N := 9) hx hb htb in_Reader hown hK hP 0 rfl rfl 5 (by decide) (htb _ L_Reader_36) (fun _ h9 => h9) rfl d_Reader_beginEither_1 ?_
  refine lv_if_lt (tgt := 36) hx hb d_Reader_beginEither_4 (by decide) (fun c6 => ?_) (fun c6 => ?_)
  · replace h := (if_pos c6).symm.trans h
    cases h
    exact W.vret hx hb hr (fun t ht hW => ⟨⟨(), rfl, trivial, by rw [ht]; exact hP, hD⟩, hS.F ht⟩) hS.2.2 d_Reader_beginEither_36
  · replace h := (if_neg c6).symm.trans h
    refine lv_aload_n hx hb d_Reader_beginEither_7 rfl (lv_at hl 0 rfl) ?_
    refine va_get (D := gD g) (ci := 3) (v := .int (t 5 0)) (C := R_Reader) (T := T_Reader) (N := 9) hx hb htb in_Reader hown hK hP 0 rfl rfl 5 (by decide) (htb _ L_Reader_36) (fun _ h9 => h9) rfl d_Reader_beginEither_8 ?_
    refine lv_bipush (v := 20) hx hb d_Reader_beginEither_11 (by decide) ?_
    refine lv_icmp_gt (tgt := 36) hx hb d_Reader_beginEither_13 (by decide) (fun c7 => ?_) (fun c7 => ?_)
    · replace h := (if_pos c7).symm.trans h
      cases h
      exact W.vret hx hb hr (fun t ht hW => ⟨⟨(), rfl, trivial, by rw [ht]; exact hP, hD⟩, hS.F ht⟩) hS.2.2 d_Reader_beginEither_36
    · replace h := (if_neg c7).symm.trans h
      refine lv_aload_n hx hb d_Reader_beginEither_16 rfl (lv_at hl 0 rfl) ?_
      refine va_get (D := gD g) (ci := 3) (v := .ref (a_t 8)) (C := R_Reader) (T := T_Reader) (N := 9) hx hb htb in_Reader hown hK hP 0 rfl rfl 7 (by decide) (htb _ L_Reader_43) (fun _ h9 => h9) rfl d_Reader_beginEither_17 ?_
      refine lv_aload_n hx hb d_Reader_beginEither_20 rfl (lv_at hl 0 rfl) ?_
      refine va_get (D := gD g) (ci := 3) (v := .int (t 5 0)) (C := R_Reader) (T := T_Reader) (N := 9) hx hb htb in_Reader hown hK hP 0 rfl rfl 5 (by decide) (htb _ L_Reader_36) (fun _ h9 => h9) rfl d_Reader_beginEither_21 ?_
      refine lv_aload_n hx hb d_Reader_beginEither_24 rfl (lv_at hl 0 rfl) ?_
      refine va_get (D := gD g) (ci := 3) (v := .ref (a_query 0)) (C := R_Reader) (T := T_Reader) (N := 9) hx hb htb in_Reader hown hK hP 0 rfl rfl 0 (by decide) (htb _ L_Reader_12) (fun _ h9 => h9) rfl d_Reader_beginEither_25 ?_
      refine va_getN (D := gD g) (ci := 1) (v := .int (query 13 0)) (C := R_Query) (T := T_Query) (N := 14) hx hb htb in_Query hown hK hP 4 rfl rfl 13 (by decide) (nf_of hG N_Reader_131) (fun _ h9 => h9) rfl d_Reader_beginEither_28 ?_
      by_cases c9 : ((t 5 0) < 0 ∨ 21 ≤ (t 5 0).toNatClampNeg)
      · replace h := (if_pos c9).symm.trans h
        cases h
      replace h := (if_neg c9).symm.trans h
      refine va_iast hx hb hK hP hD hS 2 0 rfl rfl c9 d_Reader_beginEither_31 (fun H locs hP hD hS => ?_)
      obtain ⟨t_8, et_8, h⟩ := letS_el h
      have hP : va_P (gD g) vwCl ((pic_Reader g a_t (a_query 0) r_span t_8) ++ (pic_Query g a_query query)) H := by rw [et_8]; exact hP
      have hD : va_D A ((pic_Reader g a_t (a_query 0) r_span t_8) ++ (pic_Query g a_query query)) := by rw [et_8]; exact hD
      refine lv_aload_n hx hb d_Reader_beginEither_32 rfl (lv_at hl 0 rfl) ?_
      obtain ⟨r10, hr10, h⟩ := Option.bind_eq_some_iff.mp h
      refine cl_V (wr := []) [0, 1, 2, 3, 4, 5, 6, 7, 8, 9, 10, 11, 12, 13, 14] [] rfl rfl rfl (by decide) hP hD hS hA (va_runV (As := []) (rest := []) ⟨hx, hb, hml, hown, htb⟩ (c_Reader_beginAll l g F a_t a_query r_span t_8 query _ hr10 H.size) (cw_V htb mb_Reader_beginAll (htb _ L_Reader_137) rfl rfl ⟨Nat.le_of_ble_eq_true rfl, Nat.le_of_ble_eq_true rfl⟩) (pre_V (va_recv hK hP (ci := 3) (q0 := 0) rfl rfl) (pre_S [0, 1, 2, 3, 4, 5, 6, 7, 8, 9, 10, 11, 12, 13, 14] rfl rfl hP hD hS hA hAA hG)) rfl rfl hl.1 rfl (lv_room (Nat.le_of_ble_eq_true rfl)) d_Reader_beginEither_33 ⟨Nat.zero_le _, Nat.zero_le _⟩) (fun H locs hP hD hS => ?_)
      have hP : va_P (gD g) vwCl ((pic_Reader g a_t (a_query 0) r_span r10) ++ (pic_Query g a_query query)) H := hP.sub [0, 1, 2, 3, 4, 5, 6, 7, 8, 9, 10, 11, 12, 13, 14] rfl
      have hD : va_D A ((pic_Reader g a_t (a_query 0) r_span r10) ++ (pic_Query g a_query query)) := hD.sub [0, 1, 2, 3, 4, 5, 6, 7, 8, 9, 10, 11, 12, 13, 14] rfl rfl
      cases h
      exact W.vret hx hb hr (fun t ht hW => ⟨⟨(), rfl, trivial, by rw [ht]; exact hP, hD⟩, hS.F ht⟩) hS.2.2 d_Reader_beginEither_36
theorem c_Reader_beginEither (l : Launch) (g : Gz) (F : Nat) (a_t : Nat → Nat) (a_query : Nat → Nat) (r_span : Nat) (t : StI) (query : StI) (res : StI) (h : Reader_beginEither F t query = some res) : ∀ sz : Nat, Met l y_Reader_beginEither (.code y_Reader_beginEither prog_6_method_12_code 1 none :: TBL) rm_Reader_beginEither (va_Pc [.ref (a_t 0)] (Pre0 g ((pic_Reader g a_t (a_query 0) r_span t) ++ (pic_Query g a_query query)) sz)) (EV g ((pic_Reader g a_t (a_query 0) r_span res) ++ (pic_Query g a_query query)) (va_A ((pic_Reader g a_t (a_query 0) r_span t) ++ (pic_Query g a_query query)) sz)) 0 0 (va_A ((pic_Reader g a_t (a_query 0) r_span t) ++ (pic_Query g a_query query)) sz) :=
  ct_w (Qc := fun A => EV g ((pic_Reader g a_t (a_query 0) r_span res) ++ (pic_Query g a_query query)) A) (by decide) (Nat.le_of_ble_eq_true rfl) (fun p e s m args below meth c A hC => k_Reader_beginEither hC t query res h)
def Reader_beginAny (F : Nat) (t : StI) (query : StI) : Option (StI) := if (t 5 0) < 0 then some t else if (20 : Int32) < (t 5 0) then some t else if (t 5 0) < 0 ∨ 21 ≤ (t 5 0).toNatClampNeg then none else letS (va_up t 6 (upd (t 6) (t 5 0).toNatClampNeg (query 13 0))) fun t_8 => (Reader_beginEither F t_8 query).bind fun r10 => some r10
set_option maxHeartbeats 4000000 in
set_option maxRecDepth 100000 in
theorem k_Reader_beginAny {p : Program} {l : Launch} {e : Env} {s : State} {m : MethodId} {args : Array Value} {below : List Frame} {meth : Method} {c : Code} {g : Gz} {A : Nat → Prop} {F : Nat} {a_t a_query : Nat → Nat} {r_span : Nat} (hC : Cx prog_6_method_11_code 1 none R_Reader p s m args meth c g A A) : ∀ (t : StI) (query : StI) (res : StI), Reader_beginAny F t query = some res → Go p l e rm_Reader_beginAny s m args below meth c g A A 1 (MQ below (EV g ((pic_Reader g a_t (a_query 0) r_span res) ++ (pic_Query g a_query query)) A) args s 0 0 A) ((pic_Reader g a_t (a_query 0) r_span t) ++ (pic_Query g a_query query)) [(0, .ref (a_t 0))] 0 [] := by
  obtain ⟨hx, hb, hr, hml, hown, htb, hlocks, hA, hAA, hG⟩ := id hC
  have hK := hG.1
  intro t query res h H locs ls hP hD hS hl
  rw [Reader_beginAny] at h
  refine lv_aload_n hx hb d_Reader_beginAny_0 rfl (lv_at hl 0 rfl) ?_
  refine va_get (D := gD g) (ci := 3) (v := .int (t 5 0)) (C := R_Reader) (T := T_Reader) (N := 9) hx hb htb in_Reader hown hK hP 0 rfl rfl 5 (by decide) (htb _ L_Reader_36) (fun _ h9 => h9) rfl d_Reader_beginAny_1 ?_
  refine lv_if_lt (tgt := 36) hx hb d_Reader_beginAny_4 (by decide) (fun c6 => ?_) (fun c6 => ?_)
  · replace h := (if_pos c6).symm.trans h
    cases h
    exact W.vret hx hb hr (fun t ht hW => ⟨⟨(), rfl, trivial, by rw [ht]; exact hP, hD⟩, hS.F ht⟩) hS.2.2 d_Reader_beginAny_36
  · replace h := (if_neg c6).symm.trans h
    refine lv_aload_n hx hb d_Reader_beginAny_7 rfl (lv_at hl 0 rfl) ?_
    refine va_get (D := gD g) (ci := 3) (v := .int (t 5 0)) (C := R_Reader) (T := T_Reader) (N := 9) hx hb htb in_Reader hown hK hP 0 rfl rfl 5 (by decide) (htb _ L_Reader_36) (fun _ h9 => h9) rfl d_Reader_beginAny_8 ?_
    refine lv_bipush (v := 20) hx hb d_Reader_beginAny_11 (by decide) ?_
    refine lv_icmp_gt (tgt := 36) hx hb d_Reader_beginAny_13 (by decide) (fun c7 => ?_) (fun c7 => ?_)
    · replace h := (if_pos c7).symm.trans h
      cases h
      exact W.vret hx hb hr (fun t ht hW => ⟨⟨(), rfl, trivial, by rw [ht]; exact hP, hD⟩, hS.F ht⟩) hS.2.2 d_Reader_beginAny_36
    · replace h := (if_neg c7).symm.trans h
      refine lv_aload_n hx hb d_Reader_beginAny_16 rfl (lv_at hl 0 rfl) ?_
      refine va_get (D := gD g) (ci := 3) (v := .ref (a_t 7)) (C := R_Reader) (T := T_Reader) (N := 9) hx hb htb in_Reader hown hK hP 0 rfl rfl 6 (by decide) (htb _ L_Reader_39) (fun _ h9 => h9) rfl d_Reader_beginAny_17 ?_
      refine lv_aload_n hx hb d_Reader_beginAny_20 rfl (lv_at hl 0 rfl) ?_
      refine va_get (D := gD g) (ci := 3) (v := .int (t 5 0)) (C := R_Reader) (T := T_Reader) (N := 9) hx hb htb in_Reader hown hK hP 0 rfl rfl 5 (by decide) (htb _ L_Reader_36) (fun _ h9 => h9) rfl d_Reader_beginAny_21 ?_
      refine lv_aload_n hx hb d_Reader_beginAny_24 rfl (lv_at hl 0 rfl) ?_
      refine va_get (D := gD g) (ci := 3) (v := .ref (a_query 0)) (C := R_Reader) (T := T_Reader) (N := 9) hx hb htb in_Reader hown hK hP 0 rfl rfl 0 (by decide) (htb _ L_Reader_12) (fun _ h9 => h9) rfl d_Reader_beginAny_25 ?_
      refine va_getN (D := gD g) (ci := 1) (v := .int (query 13 0)) (C := R_Query) (T := T_Query) (N := 14) hx hb htb in_Query hown hK hP 4 rfl rfl 13 (by decide) (nf_of hG N_Reader_131) (fun _ h9 => h9) rfl d_Reader_beginAny_28 ?_
      by_cases c9 : ((t 5 0) < 0 ∨ 21 ≤ (t 5 0).toNatClampNeg)
      · replace h := (if_pos c9).symm.trans h
        cases h
      replace h := (if_neg c9).symm.trans h
      refine va_iast hx hb hK hP hD hS 1 0 rfl rfl c9 d_Reader_beginAny_31 (fun H locs hP hD hS => ?_)
      obtain ⟨t_8, et_8, h⟩ := letS_el h
      have hP : va_P (gD g) vwCl ((pic_Reader g a_t (a_query 0) r_span t_8) ++ (pic_Query g a_query query)) H := by rw [et_8]; exact hP
      have hD : va_D A ((pic_Reader g a_t (a_query 0) r_span t_8) ++ (pic_Query g a_query query)) := by rw [et_8]; exact hD
      refine lv_aload_n hx hb d_Reader_beginAny_32 rfl (lv_at hl 0 rfl) ?_
      obtain ⟨r10, hr10, h⟩ := Option.bind_eq_some_iff.mp h
      refine cl_V (wr := []) [0, 1, 2, 3, 4, 5, 6, 7, 8, 9, 10, 11, 12, 13, 14] [] rfl rfl rfl (by decide) hP hD hS hA (va_runV (As := []) (rest := []) ⟨hx, hb, hml, hown, htb⟩ (c_Reader_beginEither l g F a_t a_query r_span t_8 query _ hr10 H.size) (cw_V htb mb_Reader_beginEither (htb _ L_Reader_134) rfl rfl ⟨Nat.le_of_ble_eq_true rfl, Nat.le_of_ble_eq_true rfl⟩) (pre_V (va_recv hK hP (ci := 3) (q0 := 0) rfl rfl) (pre_S [0, 1, 2, 3, 4, 5, 6, 7, 8, 9, 10, 11, 12, 13, 14] rfl rfl hP hD hS hA hAA hG)) rfl rfl hl.1 rfl (lv_room (Nat.le_of_ble_eq_true rfl)) d_Reader_beginAny_33 ⟨Nat.zero_le _, Nat.zero_le _⟩) (fun H locs hP hD hS => ?_)
      have hP : va_P (gD g) vwCl ((pic_Reader g a_t (a_query 0) r_span r10) ++ (pic_Query g a_query query)) H := hP.sub [0, 1, 2, 3, 4, 5, 6, 7, 8, 9, 10, 11, 12, 13, 14] rfl
      have hD : va_D A ((pic_Reader g a_t (a_query 0) r_span r10) ++ (pic_Query g a_query query)) := hD.sub [0, 1, 2, 3, 4, 5, 6, 7, 8, 9, 10, 11, 12, 13, 14] rfl rfl
      cases h
      exact W.vret hx hb hr (fun t ht hW => ⟨⟨(), rfl, trivial, by rw [ht]; exact hP, hD⟩, hS.F ht⟩) hS.2.2 d_Reader_beginAny_36
theorem c_Reader_beginAny (l : Launch) (g : Gz) (F : Nat) (a_t : Nat → Nat) (a_query : Nat → Nat) (r_span : Nat) (t : StI) (query : StI) (res : StI) (h : Reader_beginAny F t query = some res) : ∀ sz : Nat, Met l y_Reader_beginAny (.code y_Reader_beginAny prog_6_method_11_code 1 none :: TBL) rm_Reader_beginAny (va_Pc [.ref (a_t 0)] (Pre0 g ((pic_Reader g a_t (a_query 0) r_span t) ++ (pic_Query g a_query query)) sz)) (EV g ((pic_Reader g a_t (a_query 0) r_span res) ++ (pic_Query g a_query query)) (va_A ((pic_Reader g a_t (a_query 0) r_span t) ++ (pic_Query g a_query query)) sz)) 0 0 (va_A ((pic_Reader g a_t (a_query 0) r_span t) ++ (pic_Query g a_query query)) sz) :=
  ct_w (Qc := fun A => EV g ((pic_Reader g a_t (a_query 0) r_span res) ++ (pic_Query g a_query query)) A) (by decide) (Nat.le_of_ble_eq_true rfl) (fun p e s m args below meth c A hC => k_Reader_beginAny hC t query res h)
def Reader_joinBy (F : Nat) (t : StI) (query : StI) (x1 : Int32) : Option (StI × StI) := letS (va_up t 4 (fun _ => (1 : Int32))) fun t_14 => if (t_14 5 0) < 0 then some (t_14, query) else if (t_14 5 0) ≤ (20 : Int32) then if x1 = (-4 : Int32) then if (t_14 5 0) < 0 ∨ 21 ≤ (t_14 5 0).toNatClampNeg then none else (Query_insert F query ((t_14 6) (t_14 5 0).toNatClampNeg) (-4 : Int32)).bind fun r25 => (Reader_beginEither F t_14 r25).bind fun r26 => some (r26, r25) else if x1 = (-5 : Int32) then if (t_14 5 0) < 0 ∨ 21 ≤ (t_14 5 0).toNatClampNeg then none else (Query_insert F query ((t_14 7) (t_14 5 0).toNatClampNeg) (-5 : Int32)).bind fun r22 => (Reader_beginAll F t_14 r22).bind fun r23 => some (r23, r22) else if (t_14 5 0) < 0 ∨ 21 ≤ (t_14 5 0).toNatClampNeg then none else (Query_insert F query ((t_14 8) (t_14 5 0).toNatClampNeg) (-3 : Int32)).bind fun r20 => some (t_14, r20) else some (t_14, query)
set_option maxHeartbeats 4000000 in
set_option maxRecDepth 100000 in
theorem k_Reader_joinBy {p : Program} {l : Launch} {e : Env} {s : State} {m : MethodId} {args : Array Value} {below : List Frame} {meth : Method} {c : Code} {g : Gz} {A : Nat → Prop} {F : Nat} {a_t a_query : Nat → Nat} {r_span : Nat} (hC : Cx prog_6_method_15_code 2 none R_Reader p s m args meth c g A A) : ∀ (t : StI) (query : StI) (x1 : Int32) (res : StI × StI), Reader_joinBy F t query x1 = some res → Go p l e rm_Reader_joinBy s m args below meth c g A A 2 (MQ below (EV g ((pic_Reader g a_t (a_query 0) r_span res.1) ++ (pic_Query g a_query res.2)) A) args s 0 0 A) ((pic_Reader g a_t (a_query 0) r_span t) ++ (pic_Query g a_query query)) [(0, .ref (a_t 0)), (1, .int x1)] 0 [] := by
  obtain ⟨hx, hb, hr, hml, hown, htb, hlocks, hA, hAA, hG⟩ := id hC
  have hK := hG.1
  intro t query x1 res h H locs ls hP hD hS hl
  rw [Reader_joinBy] at h
  refine lv_aload_n hx hb d_Reader_joinBy_0 rfl (lv_at hl 0 rfl) ?_
  refine lv_iconst (v := 1) hx hb d_Reader_joinBy_1 (by decide) ?_
  refine va_put (D := gD g) (ci := 3) (v := .int (1 : Int32)) (ty := .boolean) (C := R_Reader) (T := T_Reader) (N := 9) hx hb htb in_Reader ty_Reader ty_Reader_ok nm_Reader hown hK hP hD hS 0 rfl rfl 4 (by decide) (htb _ L_Reader_32) (fun _ h9 => h9) rfl (by decide +kernel) rfl rfl (Nat.le_of_ble_eq_true rfl) d_Reader_joinBy_2 (fun H locs hP hD hS => ?_)
  obtain ⟨t_14, et_14, h⟩ := letS_el h
  have hP : va_P (gD g) vwCl ((pic_Reader g a_t (a_query 0) r_span t_14) ++ (pic_Query g a_query query)) H := by rw [et_14]; exact hP
  have hD : va_D A ((pic_Reader g a_t (a_query 0) r_span t_14) ++ (pic_Query g a_query query)) := by rw [et_14]; exact hD
  refine lv_aload_n hx hb d_Reader_joinBy_5 rfl (lv_at hl 0 rfl) ?_
  refine va_get (D := gD g) (ci := 3) (v := .int (t_14 5 0)) (C := R_Reader) (T := T_Reader) (N := 9) hx hb htb in_Reader hown hK hP 0 rfl rfl 5 (by decide) (htb _ L_Reader_36) (fun _ h9 => h9) rfl d_Reader_joinBy_6 ?_
  refine lv_if_lt (tgt := 21) hx hb d_Reader_joinBy_9 (by decide) (fun c15 => ?_) (fun c15 => ?_)
  · replace h := (if_pos c15).symm.trans h
    cases h
    exact W.vret hx hb hr (fun t ht hW => ⟨⟨(), rfl, trivial, by rw [ht]; exact hP, hD⟩, hS.F ht⟩) hS.2.2 d_Reader_joinBy_21
  · replace h := (if_neg c15).symm.trans h
    refine lv_aload_n hx hb d_Reader_joinBy_12 rfl (lv_at hl 0 rfl) ?_
    refine va_get (D := gD g) (ci := 3) (v := .int (t_14 5 0)) (C := R_Reader) (T := T_Reader) (N := 9) hx hb htb in_Reader hown hK hP 0 rfl rfl 5 (by decide) (htb _ L_Reader_36) (fun _ h9 => h9) rfl d_Reader_joinBy_13 ?_
    refine lv_bipush (v := 20) hx hb d_Reader_joinBy_16 (by decide) ?_
    refine lv_icmp_le (tgt := 22) hx hb d_Reader_joinBy_18 (by decide) (fun c16 => ?_) (fun c16 => ?_)
    · replace h := (if_pos c16).symm.trans h
      refine lv_iload_n hx hb d_Reader_joinBy_22 rfl (lv_at hl 1 rfl) ?_
      refine lv_bipush (v := -4) hx hb d_Reader_joinBy_23 (by decide) ?_
      refine lv_icmp_ne (tgt := 53) hx hb d_Reader_joinBy_25 (by decide) (fun c17 => ?_) (fun c17 => ?_)
      · replace h := (if_neg c17).symm.trans h
        refine lv_iload_n hx hb d_Reader_joinBy_53 rfl (lv_at hl 1 rfl) ?_
        refine lv_bipush (v := -5) hx hb d_Reader_joinBy_54 (by decide) ?_
        refine lv_icmp_ne (tgt := 84) hx hb d_Reader_joinBy_56 (by decide) (fun c18 => ?_) (fun c18 => ?_)
        · replace h := (if_neg c18).symm.trans h
          refine lv_aload_n hx hb d_Reader_joinBy_84 rfl (lv_at hl 0 rfl) ?_
          refine va_get (D := gD g) (ci := 3) (v := .ref (a_query 0)) (C := R_Reader) (T := T_Reader) (N := 9) hx hb htb in_Reader hown hK hP 0 rfl rfl 0 (by decide) (htb _ L_Reader_12) (fun _ h9 => h9) rfl d_Reader_joinBy_85 ?_
          refine lv_aload_n hx hb d_Reader_joinBy_88 rfl (lv_at hl 0 rfl) ?_
          refine va_get (D := gD g) (ci := 3) (v := .ref (a_t 9)) (C := R_Reader) (T := T_Reader) (N := 9) hx hb htb in_Reader hown hK hP 0 rfl rfl 8 (by decide) (htb _ L_Reader_46) (fun _ h9 => h9) rfl d_Reader_joinBy_89 ?_
          refine lv_aload_n hx hb d_Reader_joinBy_92 rfl (lv_at hl 0 rfl) ?_
          refine va_get (D := gD g) (ci := 3) (v := .int (t_14 5 0)) (C := R_Reader) (T := T_Reader) (N := 9) hx hb htb in_Reader hown hK hP 0 rfl rfl 5 (by decide) (htb _ L_Reader_36) (fun _ h9 => h9) rfl d_Reader_joinBy_93 ?_
          by_cases c19 : ((t_14 5 0) < 0 ∨ 21 ≤ (t_14 5 0).toNatClampNeg)
          · replace h := (if_pos c19).symm.trans h
            cases h
          replace h := (if_neg c19).symm.trans h
          refine va_iald hx hb hK hP 3 0 rfl rfl c19 d_Reader_joinBy_96 ?_
          refine lv_bipush (v := -3) hx hb d_Reader_joinBy_97 (by decide) ?_
          obtain ⟨r20, hr20, h⟩ := Option.bind_eq_some_iff.mp h
          refine cl_V (wr := (pic_Reader g a_t (a_query 0) r_span t_14)) [4, 5, 6, 7, 8, 9, 10, 11, 12, 13, 14] [0, 1, 2, 3] rfl rfl rfl (by decide) hP hD hS hA (va_runV (As := [.int ((t_14 8) (t_14 5 0).toNatClampNeg), .int (-3 : Int32)]) (rest := []) ⟨hx, hb, hml, hown, htb⟩ (c_Query_insert l g F a_query query ((t_14 8) (t_14 5 0).toNatClampNeg) (-3 : Int32) _ hr20 H.size) (cw_V htb mb_Query_insert (htb _ L_Reader_140) rfl rfl ⟨Nat.le_of_ble_eq_true rfl, Nat.le_of_ble_eq_true rfl⟩) (pre_V (va_recv hK hP (ci := 1) (q0 := 4) rfl rfl) (pre_S [4, 5, 6, 7, 8, 9, 10, 11, 12, 13, 14] rfl rfl hP hD hS hA hAA hG)) rfl rfl hl.1 rfl (lv_room (Nat.le_of_ble_eq_true rfl)) d_Reader_joinBy_99 ⟨Nat.zero_le _, Nat.zero_le _⟩) (fun H locs hP hD hS => ?_)
          have hP : va_P (gD g) vwCl ((pic_Reader g a_t (a_query 0) r_span t_14) ++ (pic_Query g a_query r20)) H := hP.sub [0, 1, 2, 3, 4, 5, 6, 7, 8, 9, 10, 11, 12, 13, 14] rfl
          have hD : va_D A ((pic_Reader g a_t (a_query 0) r_span t_14) ++ (pic_Query g a_query r20)) := hD.sub [0, 1, 2, 3, 4, 5, 6, 7, 8, 9, 10, 11, 12, 13, 14] rfl rfl
          cases h
          exact W.vret hx hb hr (fun t ht hW => ⟨⟨(), rfl, trivial, by rw [ht]; exact hP, hD⟩, hS.F ht⟩) hS.2.2 d_Reader_joinBy_102
        · replace h := (if_pos c18).symm.trans h
          refine lv_aload_n hx hb d_Reader_joinBy_59 rfl (lv_at hl 0 rfl) ?_
          refine va_get (D := gD g) (ci := 3) (v := .ref (a_query 0)) (C := R_Reader) (T := T_Reader) (N := 9) hx hb htb in_Reader hown hK hP 0 rfl rfl 0 (by decide) (htb _ L_Reader_12) (fun _ h9 => h9) rfl d_Reader_joinBy_60 ?_
          refine lv_aload_n hx hb d_Reader_joinBy_63 rfl (lv_at hl 0 rfl) ?_
          refine va_get (D := gD g) (ci := 3) (v := .ref (a_t 8)) (C := R_Reader) (T := T_Reader) (N := 9) hx hb htb in_Reader hown hK hP 0 rfl rfl 7 (by decide) (htb _ L_Reader_43) (fun _ h9 => h9) rfl d_Reader_joinBy_64 ?_
          refine lv_aload_n hx hb d_Reader_joinBy_67 rfl (lv_at hl 0 rfl) ?_
          refine va_get (D := gD g) (ci := 3) (v := .int (t_14 5 0)) (C := R_Reader) (T := T_Reader) (N := 9) hx hb htb in_Reader hown hK hP 0 rfl rfl 5 (by decide) (htb _ L_Reader_36) (fun _ h9 => h9) rfl d_Reader_joinBy_68 ?_
          by_cases c21 : ((t_14 5 0) < 0 ∨ 21 ≤ (t_14 5 0).toNatClampNeg)
          · replace h := (if_pos c21).symm.trans h
            cases h
          replace h := (if_neg c21).symm.trans h
          refine va_iald hx hb hK hP 2 0 rfl rfl c21 d_Reader_joinBy_71 ?_
          refine lv_bipush (v := -5) hx hb d_Reader_joinBy_72 (by decide) ?_
          obtain ⟨r22, hr22, h⟩ := Option.bind_eq_some_iff.mp h
          refine cl_V (wr := (pic_Reader g a_t (a_query 0) r_span t_14)) [4, 5, 6, 7, 8, 9, 10, 11, 12, 13, 14] [0, 1, 2, 3] rfl rfl rfl (by decide) hP hD hS hA (va_runV (As := [.int ((t_14 7) (t_14 5 0).toNatClampNeg), .int (-5 : Int32)]) (rest := []) ⟨hx, hb, hml, hown, htb⟩ (c_Query_insert l g F a_query query ((t_14 7) (t_14 5 0).toNatClampNeg) (-5 : Int32) _ hr22 H.size) (cw_V htb mb_Query_insert (htb _ L_Reader_140) rfl rfl ⟨Nat.le_of_ble_eq_true rfl, Nat.le_of_ble_eq_true rfl⟩) (pre_V (va_recv hK hP (ci := 1) (q0 := 4) rfl rfl) (pre_S [4, 5, 6, 7, 8, 9, 10, 11, 12, 13, 14] rfl rfl hP hD hS hA hAA hG)) rfl rfl hl.1 rfl (lv_room (Nat.le_of_ble_eq_true rfl)) d_Reader_joinBy_74 ⟨Nat.zero_le _, Nat.zero_le _⟩) (fun H locs hP hD hS => ?_)
          have hP : va_P (gD g) vwCl ((pic_Reader g a_t (a_query 0) r_span t_14) ++ (pic_Query g a_query r22)) H := hP.sub [0, 1, 2, 3, 4, 5, 6, 7, 8, 9, 10, 11, 12, 13, 14] rfl
          have hD : va_D A ((pic_Reader g a_t (a_query 0) r_span t_14) ++ (pic_Query g a_query r22)) := hD.sub [0, 1, 2, 3, 4, 5, 6, 7, 8, 9, 10, 11, 12, 13, 14] rfl rfl
          refine lv_aload_n hx hb d_Reader_joinBy_77 rfl (lv_at hl 0 rfl) ?_
          obtain ⟨r23, hr23, h⟩ := Option.bind_eq_some_iff.mp h
          refine cl_V (wr := []) [0, 1, 2, 3, 4, 5, 6, 7, 8, 9, 10, 11, 12, 13, 14] [] rfl rfl rfl (by decide) hP hD hS hA (va_runV (As := []) (rest := []) ⟨hx, hb, hml, hown, htb⟩ (c_Reader_beginAll l g F a_t a_query r_span t_14 r22 _ hr23 H.size) (cw_V htb mb_Reader_beginAll (htb _ L_Reader_137) rfl rfl ⟨Nat.le_of_ble_eq_true rfl, Nat.le_of_ble_eq_true rfl⟩) (pre_V (va_recv hK hP (ci := 3) (q0 := 0) rfl rfl) (pre_S [0, 1, 2, 3, 4, 5, 6, 7, 8, 9, 10, 11, 12, 13, 14] rfl rfl hP hD hS hA hAA hG)) rfl rfl hl.1 rfl (lv_room (Nat.le_of_ble_eq_true rfl)) d_Reader_joinBy_78 ⟨Nat.zero_le _, Nat.zero_le _⟩) (fun H locs hP hD hS => ?_)
          have hP : va_P (gD g) vwCl ((pic_Reader g a_t (a_query 0) r_span r23) ++ (pic_Query g a_query r22)) H := hP.sub [0, 1, 2, 3, 4, 5, 6, 7, 8, 9, 10, 11, 12, 13, 14] rfl
          have hD : va_D A ((pic_Reader g a_t (a_query 0) r_span r23) ++ (pic_Query g a_query r22)) := hD.sub [0, 1, 2, 3, 4, 5, 6, 7, 8, 9, 10, 11, 12, 13, 14] rfl rfl
          refine lv_goto (tgt := 102) hx hb d_Reader_joinBy_81 (by decide) ?_
          cases h
          exact W.vret hx hb hr (fun t ht hW => ⟨⟨(), rfl, trivial, by rw [ht]; exact hP, hD⟩, hS.F ht⟩) hS.2.2 d_Reader_joinBy_102
      · replace h := (if_pos c17).symm.trans h
        refine lv_aload_n hx hb d_Reader_joinBy_28 rfl (lv_at hl 0 rfl) ?_
        refine va_get (D := gD g) (ci := 3) (v := .ref (a_query 0)) (C := R_Reader) (T := T_Reader) (N := 9) hx hb htb in_Reader hown hK hP 0 rfl rfl 0 (by decide) (htb _ L_Reader_12) (fun _ h9 => h9) rfl d_Reader_joinBy_29 ?_
        refine lv_aload_n hx hb d_Reader_joinBy_32 rfl (lv_at hl 0 rfl) ?_
        refine va_get (D := gD g) (ci := 3) (v := .ref (a_t 7)) (C := R_Reader) (T := T_Reader) (N := 9) hx hb htb in_Reader hown hK hP 0 rfl rfl 6 (by decide) (htb _ L_Reader_39) (fun _ h9 => h9) rfl d_Reader_joinBy_33 ?_
        refine lv_aload_n hx hb d_Reader_joinBy_36 rfl (lv_at hl 0 rfl) ?_
        refine va_get (D := gD g) (ci := 3) (v := .int (t_14 5 0)) (C := R_Reader) (T := T_Reader) (N := 9) hx hb htb in_Reader hown hK hP 0 rfl rfl 5 (by decide) (htb _ L_Reader_36) (fun _ h9 => h9) rfl d_Reader_joinBy_37 ?_
        by_cases c24 : ((t_14 5 0) < 0 ∨ 21 ≤ (t_14 5 0).toNatClampNeg)
        · replace h := (if_pos c24).symm.trans h
          cases h
        replace h := (if_neg c24).symm.trans h
        refine va_iald hx hb hK hP 1 0 rfl rfl c24 d_Reader_joinBy_40 ?_
        refine lv_bipush (v := -4) hx hb d_Reader_joinBy_41 (by decide) ?_
        obtain ⟨r25, hr25, h⟩ := Option.bind_eq_some_iff.mp h
        refine cl_V (wr := (pic_Reader g a_t (a_query 0) r_span t_14)) [4, 5, 6, 7, 8, 9, 10, 11, 12, 13, 14] [0, 1, 2, 3] rfl rfl rfl (by decide) hP hD hS hA (va_runV (As := [.int ((t_14 6) (t_14 5 0).toNatClampNeg), .int (-4 : Int32)]) (rest := []) ⟨hx, hb, hml, hown, htb⟩ (c_Query_insert l g F a_query query ((t_14 6) (t_14 5 0).toNatClampNeg) (-4 : Int32) _ hr25 H.size) (cw_V htb mb_Query_insert (htb _ L_Reader_140) rfl rfl ⟨Nat.le_of_ble_eq_true rfl, Nat.le_of_ble_eq_true rfl⟩) (pre_V (va_recv hK hP (ci := 1) (q0 := 4) rfl rfl) (pre_S [4, 5, 6, 7, 8, 9, 10, 11, 12, 13, 14] rfl rfl hP hD hS hA hAA hG)) rfl rfl hl.1 rfl (lv_room (Nat.le_of_ble_eq_true rfl)) d_Reader_joinBy_43 ⟨Nat.zero_le _, Nat.zero_le _⟩) (fun H locs hP hD hS => ?_)
        have hP : va_P (gD g) vwCl ((pic_Reader g a_t (a_query 0) r_span t_14) ++ (pic_Query g a_query r25)) H := hP.sub [0, 1, 2, 3, 4, 5, 6, 7, 8, 9, 10, 11, 12, 13, 14] rfl
        have hD : va_D A ((pic_Reader g a_t (a_query 0) r_span t_14) ++ (pic_Query g a_query r25)) := hD.sub [0, 1, 2, 3, 4, 5, 6, 7, 8, 9, 10, 11, 12, 13, 14] rfl rfl
        refine lv_aload_n hx hb d_Reader_joinBy_46 rfl (lv_at hl 0 rfl) ?_
        obtain ⟨r26, hr26, h⟩ := Option.bind_eq_some_iff.mp h
        refine cl_V (wr := []) [0, 1, 2, 3, 4, 5, 6, 7, 8, 9, 10, 11, 12, 13, 14] [] rfl rfl rfl (by decide) hP hD hS hA (va_runV (As := []) (rest := []) ⟨hx, hb, hml, hown, htb⟩ (c_Reader_beginEither l g F a_t a_query r_span t_14 r25 _ hr26 H.size) (cw_V htb mb_Reader_beginEither (htb _ L_Reader_134) rfl rfl ⟨Nat.le_of_ble_eq_true rfl, Nat.le_of_ble_eq_true rfl⟩) (pre_V (va_recv hK hP (ci := 3) (q0 := 0) rfl rfl) (pre_S [0, 1, 2, 3, 4, 5, 6, 7, 8, 9, 10, 11, 12, 13, 14] rfl rfl hP hD hS hA hAA hG)) rfl rfl hl.1 rfl (lv_room (Nat.le_of_ble_eq_true rfl)) d_Reader_joinBy_47 ⟨Nat.zero_le _, Nat.zero_le _⟩) (fun H locs hP hD hS => ?_)
        have hP : va_P (gD g) vwCl ((pic_Reader g a_t (a_query 0) r_span r26) ++ (pic_Query g a_query r25)) H := hP.sub [0, 1, 2, 3, 4, 5, 6, 7, 8, 9, 10, 11, 12, 13, 14] rfl
        have hD : va_D A ((pic_Reader g a_t (a_query 0) r_span r26) ++ (pic_Query g a_query r25)) := hD.sub [0, 1, 2, 3, 4, 5, 6, 7, 8, 9, 10, 11, 12, 13, 14] rfl rfl
        refine lv_goto (tgt := 102) hx hb d_Reader_joinBy_50 (by decide) ?_
        cases h
        exact W.vret hx hb hr (fun t ht hW => ⟨⟨(), rfl, trivial, by rw [ht]; exact hP, hD⟩, hS.F ht⟩) hS.2.2 d_Reader_joinBy_102
    · replace h := (if_neg c16).symm.trans h
      cases h
      exact W.vret hx hb hr (fun t ht hW => ⟨⟨(), rfl, trivial, by rw [ht]; exact hP, hD⟩, hS.F ht⟩) hS.2.2 d_Reader_joinBy_21
theorem c_Reader_joinBy (l : Launch) (g : Gz) (F : Nat) (a_t : Nat → Nat) (a_query : Nat → Nat) (r_span : Nat) (t : StI) (query : StI) (x1 : Int32) (res : StI × StI) (h : Reader_joinBy F t query x1 = some res) : ∀ sz : Nat, Met l y_Reader_joinBy (.code y_Reader_joinBy prog_6_method_15_code 2 none :: TBL) rm_Reader_joinBy (va_Pc [.ref (a_t 0), .int x1] (Pre0 g ((pic_Reader g a_t (a_query 0) r_span t) ++ (pic_Query g a_query query)) sz)) (EV g ((pic_Reader g a_t (a_query 0) r_span res.1) ++ (pic_Query g a_query res.2)) (va_A ((pic_Reader g a_t (a_query 0) r_span t) ++ (pic_Query g a_query query)) sz)) 0 0 (va_A ((pic_Reader g a_t (a_query 0) r_span t) ++ (pic_Query g a_query query)) sz) :=
  ct_w (Qc := fun A => EV g ((pic_Reader g a_t (a_query 0) r_span res.1) ++ (pic_Query g a_query res.2)) A) (by decide) (Nat.le_of_ble_eq_true rfl) (fun p e s m args below meth c A hC => k_Reader_joinBy hC t query x1 res h)
def Reader_beginOperand (F : Nat) (t : StI) (query : StI) : Option (StI × StI) := if (t 4 0) = 0 then (Reader_joinBy F t query (-3 : Int32)).bind fun r4 => some (r4.1, r4.2) else some (t, query)
set_option maxHeartbeats 4000000 in
set_option maxRecDepth 100000 in
theorem k_Reader_beginOperand {p : Program} {l : Launch} {e : Env} {s : State} {m : MethodId} {args : Array Value} {below : List Frame} {meth : Method} {c : Code} {g : Gz} {A : Nat → Prop} {F : Nat} {a_t a_query : Nat → Nat} {r_span : Nat} (hC : Cx prog_6_method_14_code 1 none R_Reader p s m args meth c g A A) : ∀ (t : StI) (query : StI) (res : StI × StI), Reader_beginOperand F t query = some res → Go p l e rm_Reader_beginOperand s m args below meth c g A A 1 (MQ below (EV g ((pic_Reader g a_t (a_query 0) r_span res.1) ++ (pic_Query g a_query res.2)) A) args s 0 0 A) ((pic_Reader g a_t (a_query 0) r_span t) ++ (pic_Query g a_query query)) [(0, .ref (a_t 0))] 0 [] := by
  obtain ⟨hx, hb, hr, hml, hown, htb, hlocks, hA, hAA, hG⟩ := id hC
  have hK := hG.1
  intro t query res h H locs ls hP hD hS hl
  rw [Reader_beginOperand] at h
  refine lv_aload_n hx hb d_Reader_beginOperand_0 rfl (lv_at hl 0 rfl) ?_
  refine va_get (D := gD g) (ci := 3) (v := .int (t 4 0)) (C := R_Reader) (T := T_Reader) (N := 9) hx hb htb in_Reader hown hK hP 0 rfl rfl 4 (by decide) (htb _ L_Reader_32) (fun _ h9 => h9) rfl d_Reader_beginOperand_1 ?_
  refine lv_if_ne (tgt := 13) hx hb d_Reader_beginOperand_4 (by decide) (fun c3 => ?_) (fun c3 => ?_)
  · replace h := (if_neg c3).symm.trans h
    cases h
    exact W.vret hx hb hr (fun t ht hW => ⟨⟨(), rfl, trivial, by rw [ht]; exact hP, hD⟩, hS.F ht⟩) hS.2.2 d_Reader_beginOperand_13
  · replace h := (if_pos c3).symm.trans h
    refine lv_aload_n hx hb d_Reader_beginOperand_7 rfl (lv_at hl 0 rfl) ?_
    refine lv_bipush (v := -3) hx hb d_Reader_beginOperand_8 (by decide) ?_
    obtain ⟨r4, hr4, h⟩ := Option.bind_eq_some_iff.mp h
    refine cl_V (wr := []) [0, 1, 2, 3, 4, 5, 6, 7, 8, 9, 10, 11, 12, 13, 14] [] rfl rfl rfl (by decide) hP hD hS hA (va_runV (As := [.int (-3 : Int32)]) (rest := []) ⟨hx, hb, hml, hown, htb⟩ (c_Reader_joinBy l g F a_t a_query r_span t query (-3 : Int32) _ hr4 H.size) (cw_V htb mb_Reader_joinBy (htb _ L_Reader_109) rfl rfl ⟨Nat.le_of_ble_eq_true rfl, Nat.le_of_ble_eq_true rfl⟩) (pre_V (va_recv hK hP (ci := 3) (q0 := 0) rfl rfl) (pre_S [0, 1, 2, 3, 4, 5, 6, 7, 8, 9, 10, 11, 12, 13, 14] rfl rfl hP hD hS hA hAA hG)) rfl rfl hl.1 rfl (lv_room (Nat.le_of_ble_eq_true rfl)) d_Reader_beginOperand_10 ⟨Nat.zero_le _, Nat.zero_le _⟩) (fun H locs hP hD hS => ?_)
    have hP : va_P (gD g) vwCl ((pic_Reader g a_t (a_query 0) r_span r4.1) ++ (pic_Query g a_query r4.2)) H := hP.sub [0, 1, 2, 3, 4, 5, 6, 7, 8, 9, 10, 11, 12, 13, 14] rfl
    have hD : va_D A ((pic_Reader g a_t (a_query 0) r_span r4.1) ++ (pic_Query g a_query r4.2)) := hD.sub [0, 1, 2, 3, 4, 5, 6, 7, 8, 9, 10, 11, 12, 13, 14] rfl rfl
    cases h
    exact W.vret hx hb hr (fun t ht hW => ⟨⟨(), rfl, trivial, by rw [ht]; exact hP, hD⟩, hS.F ht⟩) hS.2.2 d_Reader_beginOperand_13
theorem c_Reader_beginOperand (l : Launch) (g : Gz) (F : Nat) (a_t : Nat → Nat) (a_query : Nat → Nat) (r_span : Nat) (t : StI) (query : StI) (res : StI × StI) (h : Reader_beginOperand F t query = some res) : ∀ sz : Nat, Met l y_Reader_beginOperand (.code y_Reader_beginOperand prog_6_method_14_code 1 none :: TBL) rm_Reader_beginOperand (va_Pc [.ref (a_t 0)] (Pre0 g ((pic_Reader g a_t (a_query 0) r_span t) ++ (pic_Query g a_query query)) sz)) (EV g ((pic_Reader g a_t (a_query 0) r_span res.1) ++ (pic_Query g a_query res.2)) (va_A ((pic_Reader g a_t (a_query 0) r_span t) ++ (pic_Query g a_query query)) sz)) 0 0 (va_A ((pic_Reader g a_t (a_query 0) r_span t) ++ (pic_Query g a_query query)) sz) :=
  ct_w (Qc := fun A => EV g ((pic_Reader g a_t (a_query 0) r_span res.1) ++ (pic_Query g a_query res.2)) A) (by decide) (Nat.le_of_ble_eq_true rfl) (fun p e s m args below meth c A hC => k_Reader_beginOperand hC t query res h)
def Reader_isBegun_67 (F : Nat) (t : StI) (query : StI) : Option (Int32 × StI) := if (t 2 0) = 0 then some ((1 : Int32), t) else some ((0 : Int32), t)
def Reader_isBegun (F : Nat) (t : StI) (query : StI) (x1 : Int32) (x2 : Int32) (x3 : Int32) : Option (Int32 × StI) := (Query_byteAt F query x3).bind fun r13 => if x1 = (-1 : Int32) then (Reader_fail F t (3 : Int32) x2).bind fun r22 => Reader_isBegun_67 F r22.2 query else (Query_isFull F query).bind fun r15 => if r15 = 0 then if r13 = (34 : Int32) then Reader_isBegun_67 F t query else (MQ_isTextByte F r13).bind fun r18 => if r18 = 0 then (Reader_fail F t (1 : Int32) x3).bind fun r20 => Reader_isBegun_67 F r20.2 query else Reader_isBegun_67 F t query else (Reader_fail F t (5 : Int32) x2).bind fun r21 => Reader_isBegun_67 F r21.2 query
set_option maxHeartbeats 4000000 in
set_option maxRecDepth 100000 in
theorem k_Reader_isBegun_67 {p : Program} {l : Launch} {e : Env} {s : State} {m : MethodId} {args : Array Value} {below : List Frame} {meth : Method} {c : Code} {g : Gz} {A : Nat → Prop} {F : Nat} {a_t a_query : Nat → Nat} {r_span : Nat} (hC : Cx prog_6_method_10_code 5 (some .boolean) R_Reader p s m args meth c g A A) : ∀ (t : StI) (query : StI) (res : Int32 × StI), Reader_isBegun_67 F t query = some res → Go p l e rm_Reader_isBegun s m args below meth c g A A 5 (MQ below (EI g ((pic_Reader g a_t (a_query 0) r_span res.2) ++ (pic_Query g a_query query)) res.1 A) args s 0 0 A) ((pic_Reader g a_t (a_query 0) r_span t) ++ (pic_Query g a_query query)) [(0, .ref (a_t 0))] 67 [] := by
  obtain ⟨hx, hb, hr, hml, hown, htb, hlocks, hA, hAA, hG⟩ := id hC
  have hK := hG.1
  intro t query res h H locs ls hP hD hS hl
  rw [Reader_isBegun_67] at h
  refine lv_aload_n hx hb d_Reader_isBegun_67 rfl (lv_at hl 0 rfl) ?_
  refine va_get (D := gD g) (ci := 3) (v := .int (t 2 0)) (C := R_Reader) (T := T_Reader) (N := 9) hx hb htb in_Reader hown hK hP 0 rfl rfl 2 (by decide) (htb _ L_Reader_25) (fun _ h9 => h9) rfl d_Reader_isBegun_68 ?_
  refine lv_if_ne (tgt := 78) hx hb d_Reader_isBegun_71 (by decide) (fun c12 => ?_) (fun c12 => ?_)
  · replace h := (if_neg c12).symm.trans h
    refine lv_iconst (v := 0) hx hb d_Reader_isBegun_78 (by decide) ?_
    cases h
    exact W.zret hx hb hr rfl (fun t ht hW => ⟨⟨_, (), rfl, rfl, by rw [ht]; exact hP, hD⟩, hS.F ht⟩) hS.2.2 d_Reader_isBegun_79
  · replace h := (if_pos c12).symm.trans h
    refine lv_iconst (v := 1) hx hb d_Reader_isBegun_74 (by decide) ?_
    refine lv_goto (tgt := 79) hx hb d_Reader_isBegun_75 (by decide) ?_
    cases h
    exact W.zret hx hb hr rfl (fun t ht hW => ⟨⟨_, (), rfl, rfl, by rw [ht]; exact hP, hD⟩, hS.F ht⟩) hS.2.2 d_Reader_isBegun_79
set_option maxHeartbeats 4000000 in
set_option maxRecDepth 100000 in
theorem k_Reader_isBegun {p : Program} {l : Launch} {e : Env} {s : State} {m : MethodId} {args : Array Value} {below : List Frame} {meth : Method} {c : Code} {g : Gz} {A : Nat → Prop} {F : Nat} {a_t a_query : Nat → Nat} {r_span : Nat} (hC : Cx prog_6_method_10_code 5 (some .boolean) R_Reader p s m args meth c g A A) : ∀ (t : StI) (query : StI) (x1 : Int32) (x2 : Int32) (x3 : Int32) (res : Int32 × StI), Reader_isBegun F t query x1 x2 x3 = some res → Go p l e rm_Reader_isBegun s m args below meth c g A A 5 (MQ below (EI g ((pic_Reader g a_t (a_query 0) r_span res.2) ++ (pic_Query g a_query query)) res.1 A) args s 0 0 A) ((pic_Reader g a_t (a_query 0) r_span t) ++ (pic_Query g a_query query)) [(0, .ref (a_t 0)), (1, .int x1), (2, .int x2), (3, .int x3)] 0 [] := by
  obtain ⟨hx, hb, hr, hml, hown, htb, hlocks, hA, hAA, hG⟩ := id hC
  have hK := hG.1
  intro t query x1 x2 x3 res h H locs ls hP hD hS hl
  rw [Reader_isBegun] at h
  refine lv_aload_n hx hb d_Reader_isBegun_0 rfl (lv_at hl 0 rfl) ?_
  refine va_get (D := gD g) (ci := 3) (v := .ref (a_query 0)) (C := R_Reader) (T := T_Reader) (N := 9) hx hb htb in_Reader hown hK hP 0 rfl rfl 0 (by decide) (htb _ L_Reader_12) (fun _ h9 => h9) rfl d_Reader_isBegun_1 ?_
  refine lv_iload_n hx hb d_Reader_isBegun_4 rfl (lv_at hl 3 rfl) ?_
  obtain ⟨r13, hr13, h⟩ := Option.bind_eq_some_iff.mp h
  refine cl_Ir hP hS hA (va_runV (As := [.int x3]) (rest := []) ⟨hx, hb, hml, hown, htb⟩ (c_Query_byteAt l g F a_query query x3 _ hr13 H.size) (cw_V htb mb_Query_byteAt (htb _ L_Reader_70) rfl rfl ⟨Nat.le_of_ble_eq_true rfl, Nat.le_of_ble_eq_true rfl⟩) (pre_V (va_recv hK hP (ci := 1) (q0 := 4) rfl rfl) (pre_S [4, 5, 6, 7, 8, 9, 10, 11, 12, 13, 14] rfl rfl hP hD hS hA hAA hG)) rfl rfl hl.1 rfl (lv_room (Nat.le_of_ble_eq_true rfl)) d_Reader_isBegun_5 ⟨Nat.zero_le _, Nat.zero_le _⟩) (fun H locs hP hS => ?_)
  refine lv_istore (lv' := [(4, .int r13), (0, .ref (a_t 0)), (1, .int x1), (2, .int x2), (3, .int x3)]) hx hb d_Reader_isBegun_8 hl (by decide) rfl (fun ls hl => ?_)
  refine lv_iload_n hx hb d_Reader_isBegun_10 rfl (lv_at hl 2 rfl) ?_
  refine lv_iconst (v := -1) hx hb d_Reader_isBegun_11 (by decide) ?_
  refine lv_icmp_ne (tgt := 25) hx hb d_Reader_isBegun_12 (by decide) (fun c14 => ?_) (fun c14 => ?_)
  · replace h := (if_neg c14).symm.trans h
    refine lv_aload_n hx hb d_Reader_isBegun_25 rfl (lv_at hl 1 rfl) ?_
    refine va_get (D := gD g) (ci := 3) (v := .ref (a_query 0)) (C := R_Reader) (T := T_Reader) (N := 9) hx hb htb in_Reader hown hK hP 0 rfl rfl 0 (by decide) (htb _ L_Reader_12) (fun _ h9 => h9) rfl d_Reader_isBegun_26 ?_
    obtain ⟨r15, hr15, h⟩ := Option.bind_eq_some_iff.mp h
    refine cl_Ir hP hS hA (va_runV (As := []) (rest := []) ⟨hx, hb, hml, hown, htb⟩ (c_Query_isFull l g F a_query query _ hr15 H.size) (cw_V htb mb_Query_isFull (htb _ L_Reader_123) rfl rfl ⟨Nat.le_of_ble_eq_true rfl, Nat.le_of_ble_eq_true rfl⟩) (pre_V (va_recv hK hP (ci := 1) (q0 := 4) rfl rfl) (pre_S [4, 5, 6, 7, 8, 9, 10, 11, 12, 13, 14] rfl rfl hP hD hS hA hAA hG)) rfl rfl hl.1 rfl (lv_room (Nat.le_of_ble_eq_true rfl)) d_Reader_isBegun_29 ⟨Nat.zero_le _, Nat.zero_le _⟩) (fun H locs hP hS => ?_)
    refine lv_if_eq (tgt := 45) hx hb d_Reader_isBegun_32 (by decide) (fun c16 => ?_) (fun c16 => ?_)
    · replace h := (if_pos c16).symm.trans h
      refine lv_iload hx hb d_Reader_isBegun_45 (lv_at hl 0 rfl) ?_
      refine lv_bipush (v := 34) hx hb d_Reader_isBegun_47 (by decide) ?_
      refine lv_icmp_eq (tgt := 67) hx hb d_Reader_isBegun_49 (by decide) (fun c17 => ?_) (fun c17 => ?_)
      · replace h := (if_pos c17).symm.trans h
        exact k_Reader_isBegun_67 hC _ _ _ h _ _ _ hP hD hS (lv_sub hl [1] rfl)
      · replace h := (if_neg c17).symm.trans h
        refine lv_iload hx hb d_Reader_isBegun_52 (lv_at hl 0 rfl) ?_
        obtain ⟨r18, hr18, h⟩ := Option.bind_eq_some_iff.mp h
        refine cl_Ir hP hS hA (va_runSN (As := [.int r13]) (rest := []) ⟨hx, hb, hml, hown, htb⟩ (c_MQ_isTextByte l g F r13 _ hr18 H.size) (cn_S htb mb_MQ_isTextByte (nm_of hG N_Reader_79) rfl rfl ⟨Nat.le_of_ble_eq_true rfl, Nat.le_of_ble_eq_true rfl⟩) (pre_S [] rfl rfl hP hD hS hA hAA hG) rfl rfl hl.1 rfl (lv_room (Nat.le_of_ble_eq_true rfl)) d_Reader_isBegun_54 ⟨Nat.zero_le _, Nat.zero_le _⟩) (fun H locs hP hS => ?_)
        refine lv_if_ne (tgt := 67) hx hb d_Reader_isBegun_57 (by decide) (fun c19 => ?_) (fun c19 => ?_)
        · replace h := (if_neg c19).symm.trans h
          exact k_Reader_isBegun_67 hC _ _ _ h _ _ _ hP hD hS (lv_sub hl [1] rfl)
        · replace h := (if_pos c19).symm.trans h
          refine lv_aload_n hx hb d_Reader_isBegun_60 rfl (lv_at hl 1 rfl) ?_
          refine lv_iconst (v := 1) hx hb d_Reader_isBegun_61 (by decide) ?_
          refine lv_iload_n hx hb d_Reader_isBegun_62 rfl (lv_at hl 4 rfl) ?_
          obtain ⟨r20, hr20, h⟩ := Option.bind_eq_some_iff.mp h
          refine cl_I (wr := (pic_Query g a_query query)) [0, 1, 2, 3] [4, 5, 6, 7, 8, 9, 10, 11, 12, 13, 14] rfl rfl rfl (by decide) hP hD hS hA (va_runV (As := [.int (1 : Int32), .int x3]) (rest := []) ⟨hx, hb, hml, hown, htb⟩ (c_Reader_fail l g F a_t (a_query 0) r_span t (1 : Int32) x3 _ hr20 H.size) (cw_V htb mb_Reader_fail (htb _ L_Reader_66) rfl rfl ⟨Nat.le_of_ble_eq_true rfl, Nat.le_of_ble_eq_true rfl⟩) (pre_V (va_recv hK hP (ci := 3) (q0 := 0) rfl rfl) (pre_S [0, 1, 2, 3] rfl rfl hP hD hS hA hAA hG)) rfl rfl hl.1 rfl (lv_room (Nat.le_of_ble_eq_true rfl)) d_Reader_isBegun_63 ⟨Nat.zero_le _, Nat.zero_le _⟩) (fun H locs hP hD hS => ?_)
          have hP : va_P (gD g) vwCl ((pic_Reader g a_t (a_query 0) r_span r20.2) ++ (pic_Query g a_query query)) H := hP.sub [11, 12, 13, 14, 0, 1, 2, 3, 4, 5, 6, 7, 8, 9, 10] rfl
          have hD : va_D A ((pic_Reader g a_t (a_query 0) r_span r20.2) ++ (pic_Query g a_query query)) := hD.sub [11, 12, 13, 14, 0, 1, 2, 3, 4, 5, 6, 7, 8, 9, 10] rfl rfl
          refine lv_pop hx hb d_Reader_isBegun_66 rfl ?_
          exact k_Reader_isBegun_67 hC _ _ _ h _ _ _ hP hD hS (lv_sub hl [1] rfl)
    · replace h := (if_neg c16).symm.trans h
      refine lv_aload_n hx hb d_Reader_isBegun_35 rfl (lv_at hl 1 rfl) ?_
      refine lv_iconst (v := 5) hx hb d_Reader_isBegun_36 (by decide) ?_
      refine lv_iload_n hx hb d_Reader_isBegun_37 rfl (lv_at hl 3 rfl) ?_
      obtain ⟨r21, hr21, h⟩ := Option.bind_eq_some_iff.mp h
      refine cl_I (wr := (pic_Query g a_query query)) [0, 1, 2, 3] [4, 5, 6, 7, 8, 9, 10, 11, 12, 13, 14] rfl rfl rfl (by decide) hP hD hS hA (va_runV (As := [.int (5 : Int32), .int x2]) (rest := []) ⟨hx, hb, hml, hown, htb⟩ (c_Reader_fail l g F a_t (a_query 0) r_span t (5 : Int32) x2 _ hr21 H.size) (cw_V htb mb_Reader_fail (htb _ L_Reader_66) rfl rfl ⟨Nat.le_of_ble_eq_true rfl, Nat.le_of_ble_eq_true rfl⟩) (pre_V (va_recv hK hP (ci := 3) (q0 := 0) rfl rfl) (pre_S [0, 1, 2, 3] rfl rfl hP hD hS hA hAA hG)) rfl rfl hl.1 rfl (lv_room (Nat.le_of_ble_eq_true rfl)) d_Reader_isBegun_38 ⟨Nat.zero_le _, Nat.zero_le _⟩) (fun H locs hP hD hS => ?_)
      have hP : va_P (gD g) vwCl ((pic_Reader g a_t (a_query 0) r_span r21.2) ++ (pic_Query g a_query query)) H := hP.sub [11, 12, 13, 14, 0, 1, 2, 3, 4, 5, 6, 7, 8, 9, 10] rfl
      have hD : va_D A ((pic_Reader g a_t (a_query 0) r_span r21.2) ++ (pic_Query g a_query query)) := hD.sub [11, 12, 13, 14, 0, 1, 2, 3, 4, 5, 6, 7, 8, 9, 10] rfl rfl
      refine lv_pop hx hb d_Reader_isBegun_41 rfl ?_
      refine lv_goto (tgt := 67) hx hb d_Reader_isBegun_42 (by decide) ?_
      exact k_Reader_isBegun_67 hC _ _ _ h _ _ _ hP hD hS (lv_sub hl [1] rfl)
  · replace h := (if_pos c14).symm.trans h
    refine lv_aload_n hx hb d_Reader_isBegun_15 rfl (lv_at hl 1 rfl) ?_
    refine lv_iconst (v := 3) hx hb d_Reader_isBegun_16 (by decide) ?_
    refine lv_iload_n hx hb d_Reader_isBegun_17 rfl (lv_at hl 3 rfl) ?_
    obtain ⟨r22, hr22, h⟩ := Option.bind_eq_some_iff.mp h
    refine cl_I (wr := (pic_Query g a_query query)) [0, 1, 2, 3] [4, 5, 6, 7, 8, 9, 10, 11, 12, 13, 14] rfl rfl rfl (by decide) hP hD hS hA (va_runV (As := [.int (3 : Int32), .int x2]) (rest := []) ⟨hx, hb, hml, hown, htb⟩ (c_Reader_fail l g F a_t (a_query 0) r_span t (3 : Int32) x2 _ hr22 H.size) (cw_V htb mb_Reader_fail (htb _ L_Reader_66) rfl rfl ⟨Nat.le_of_ble_eq_true rfl, Nat.le_of_ble_eq_true rfl⟩) (pre_V (va_recv hK hP (ci := 3) (q0 := 0) rfl rfl) (pre_S [0, 1, 2, 3] rfl rfl hP hD hS hA hAA hG)) rfl rfl hl.1 rfl (lv_room (Nat.le_of_ble_eq_true rfl)) d_Reader_isBegun_18 ⟨Nat.zero_le _, Nat.zero_le _⟩) (fun H locs hP hD hS => ?_)
    have hP : va_P (gD g) vwCl ((pic_Reader g a_t (a_query 0) r_span r22.2) ++ (pic_Query g a_query query)) H := hP.sub [11, 12, 13, 14, 0, 1, 2, 3, 4, 5, 6, 7, 8, 9, 10] rfl
    have hD : va_D A ((pic_Reader g a_t (a_query 0) r_span r22.2) ++ (pic_Query g a_query query)) := hD.sub [11, 12, 13, 14, 0, 1, 2, 3, 4, 5, 6, 7, 8, 9, 10] rfl rfl
    refine lv_pop hx hb d_Reader_isBegun_21 rfl ?_
    refine lv_goto (tgt := 67) hx hb d_Reader_isBegun_22 (by decide) ?_
    exact k_Reader_isBegun_67 hC _ _ _ h _ _ _ hP hD hS (lv_sub hl [1] rfl)
theorem c_Reader_isBegun (l : Launch) (g : Gz) (F : Nat) (a_t : Nat → Nat) (a_query : Nat → Nat) (r_span : Nat) (t : StI) (query : StI) (x1 : Int32) (x2 : Int32) (x3 : Int32) (res : Int32 × StI) (h : Reader_isBegun F t query x1 x2 x3 = some res) : ∀ sz : Nat, Met l y_Reader_isBegun (.code y_Reader_isBegun prog_6_method_10_code 5 (some .boolean) :: TBL) rm_Reader_isBegun (va_Pc [.ref (a_t 0), .int x1, .int x2, .int x3] (Pre0 g ((pic_Reader g a_t (a_query 0) r_span t) ++ (pic_Query g a_query query)) sz)) (EI g ((pic_Reader g a_t (a_query 0) r_span res.2) ++ (pic_Query g a_query query)) res.1 (va_A ((pic_Reader g a_t (a_query 0) r_span t) ++ (pic_Query g a_query query)) sz)) 0 0 (va_A ((pic_Reader g a_t (a_query 0) r_span t) ++ (pic_Query g a_query query)) sz) :=
  ct_w (Qc := fun A => EI g ((pic_Reader g a_t (a_query 0) r_span res.2) ++ (pic_Query g a_query query)) res.1 A) (by decide) (Nat.le_of_ble_eq_true rfl) (fun p e s m args below meth c A hC => k_Reader_isBegun hC t query x1 x2 x3 res h)
def Reader_takeAtom_97 (F : Nat) (t : StI) (query : StI) (span : StI) (x3 : Int32) : Option (Int32 × StI × StI × StI) := (Reader_fail F t (2 : Int32) x3).bind fun r23 => some (r23.1, r23.2, query, span)
def Reader_takeAtom_82 (F : Nat) (t : StI) (query : StI) (span : StI) (x1 : Int32) (x2 : Int32) (x3 : Int32) (x4 : Int32) (x5 : Int32) (y0 : Int32) : Option (Int32 × StI × StI × StI) := if y0 = (-1 : Int32) then Reader_takeAtom_97 F t query span x3 else if y0 = x5 then Reader_takeAtom_97 F t query span x3 else (Reader_fieldHas F t query span x1 x4 x5 y0).bind fun r26 => if r26.1 = 0 then (Reader_fail F t (4 : Int32) x3).bind fun r35 => some (r35.1, r35.2, query, r26.2) else (Query_isFull F query).bind fun r28 => if r28 = 0 then (Reader_beginOperand F t query).bind fun r30 => (Query_take F r30.2 r26.2 x1 x4 x5 y0).bind fun r31 => letS (va_up r30.1 4 (fun _ => (0 : Int32))) fun t_32 => if x4 = 0 then some (y0, t_32, r31, r26.2) else some ((y0 + (1 : Int32)), t_32, r31, r26.2) else (Reader_fail F t (5 : Int32) x2).bind fun r34 => some (r34.1, r34.2, query, r26.2)
def Reader_takeAtom_48 (F : Nat) (t : StI) (query : StI) (span : StI) (x1 : Int32) (x2 : Int32) (x3 : Int32) (x4 : Int32) (y0 : Int32) : Option (Int32 × StI × StI × StI) := if x4 = 0 then (Reader_pastTextBytes F t query y0).bind fun r37 => Reader_takeAtom_82 F t query span x1 x2 x3 x4 y0 r37 else (Query_find F query (34 : Int32) y0 (query 1 0)).bind fun r38 => Reader_takeAtom_82 F t query span x1 x2 x3 x4 y0 r38
def Reader_takeAtom_34 (F : Nat) (t : StI) (query : StI) (span : StI) (x1 : Int32) (x2 : Int32) (x3 : Int32) (y0 : Int32) : Option (Int32 × StI × StI × StI) := if y0 = 0 then Reader_takeAtom_48 F t query span x1 x2 x3 y0 x3 else Reader_takeAtom_48 F t query span x1 x2 x3 y0 (x3 + (1 : Int32))
def Reader_takeAtom_16 (F : Nat) (t : StI) (query : StI) (span : StI) (x1 : Int32) (x2 : Int32) (x3 : Int32) : Option (Int32 × StI × StI × StI) := (Query_byteAt F query x3).bind fun r40 => if r40 = (34 : Int32) then Reader_takeAtom_34 F t query span x1 x2 x3 (1 : Int32) else Reader_takeAtom_34 F t query span x1 x2 x3 (0 : Int32)
def Reader_takeAtom (F : Nat) (t : StI) (query : StI) (span : StI) (x1 : Int32) (x2 : Int32) (x3 : Int32) : Option (Int32 × StI × StI × StI) := if x1 = 0 then Reader_takeAtom_16 F t query span x1 x2 x3 else (Reader_isBegun F t query x1 x2 x3).bind fun r43 => if r43.1 = 0 then some ((-1 : Int32), r43.2, query, span) else Reader_takeAtom_16 F r43.2 query span x1 x2 x3
set_option maxHeartbeats 4000000 in
set_option maxRecDepth 100000 in
theorem k_Reader_takeAtom_97 {p : Program} {l : Launch} {e : Env} {s : State} {m : MethodId} {args : Array Value} {below : List Frame} {meth : Method} {c : Code} {g : Gz} {A : Nat → Prop} {F : Nat} {a_t a_query a_span : Nat → Nat} (hC : Cx prog_6_method_9_code 7 (some .int) R_Reader p s m args meth c g A A) : ∀ (t : StI) (query : StI) (span : StI) (x3 : Int32) (res : Int32 × StI × StI × StI), Reader_takeAtom_97 F t query span x3 = some res → Go p l e rm_Reader_takeAtom s m args below meth c g A A 7 (MQ below (EI g ((pic_Reader g a_t (a_query 0) (a_span 0) res.2.1) ++ (pic_Query g a_query res.2.2.1) ++ (pic_Span g a_span res.2.2.2)) res.1 A) args s 0 0 A) ((pic_Reader g a_t (a_query 0) (a_span 0) t) ++ (pic_Query g a_query query) ++ (pic_Span g a_span span)) [(0, .ref (a_t 0)), (3, .int x3)] 97 [] := by
  obtain ⟨hx, hb, hr, hml, hown, htb, hlocks, hA, hAA, hG⟩ := id hC
  have hK := hG.1
  intro t query span x3 res h H locs ls hP hD hS hl
  rw [Reader_takeAtom_97] at h
  refine lv_aload_n hx hb d_Reader_takeAtom_97 rfl (lv_at hl 0 rfl) ?_
  refine lv_iconst (v := 2) hx hb d_Reader_takeAtom_98 (by decide) ?_
  refine lv_iload_n hx hb d_Reader_takeAtom_99 rfl (lv_at hl 1 rfl) ?_
  obtain ⟨r23, hr23, h⟩ := Option.bind_eq_some_iff.mp h
  refine cl_I (wr := (pic_Query g a_query query) ++ (pic_Span g a_span span)) [0, 1, 2, 3] [4, 5, 6, 7, 8, 9, 10, 11, 12, 13, 14, 15] rfl rfl rfl (by decide) hP hD hS hA (va_runV (As := [.int (2 : Int32), .int x3]) (rest := []) ⟨hx, hb, hml, hown, htb⟩ (c_Reader_fail l g F a_t (a_query 0) (a_span 0) t (2 : Int32) x3 _ hr23 H.size) (cw_V htb mb_Reader_fail (htb _ L_Reader_66) rfl rfl ⟨Nat.le_of_ble_eq_true rfl, Nat.le_of_ble_eq_true rfl⟩) (pre_V (va_recv hK hP (ci := 3) (q0 := 0) rfl rfl) (pre_S [0, 1, 2, 3] rfl rfl hP hD hS hA hAA hG)) rfl rfl hl.1 rfl (lv_room (Nat.le_of_ble_eq_true rfl)) d_Reader_takeAtom_100 ⟨Nat.zero_le _, Nat.zero_le _⟩) (fun H locs hP hD hS => ?_)
  have hP : va_P (gD g) vwCl ((pic_Reader g a_t (a_query 0) (a_span 0) r23.2) ++ (pic_Query g a_query query) ++ (pic_Span g a_span span)) H := hP.sub [12, 13, 14, 15, 0, 1, 2, 3, 4, 5, 6, 7, 8, 9, 10, 11] rfl
  have hD : va_D A ((pic_Reader g a_t (a_query 0) (a_span 0) r23.2) ++ (pic_Query g a_query query) ++ (pic_Span g a_span span)) := hD.sub [12, 13, 14, 15, 0, 1, 2, 3, 4, 5, 6, 7, 8, 9, 10, 11] rfl rfl
  cases h
  exact W.iret hx hb hr (fun t ht hW => ⟨⟨_, (), rfl, rfl, by rw [ht]; exact hP, hD⟩, hS.F ht⟩) hS.2.2 d_Reader_takeAtom_103
set_option maxHeartbeats 4000000 in
set_option maxRecDepth 100000 in
theorem k_Reader_takeAtom_82 {p : Program} {l : Launch} {e : Env} {s : State} {m : MethodId} {args : Array Value} {below : List Frame} {meth : Method} {c : Code} {g : Gz} {A : Nat → Prop} {F : Nat} {a_t a_query a_span : Nat → Nat} (hC : Cx prog_6_method_9_code 7 (some .int) R_Reader p s m args meth c g A A) : ∀ (t : StI) (query : StI) (span : StI) (x1 : Int32) (x2 : Int32) (x3 : Int32) (x4 : Int32) (x5 : Int32) (y0 : Int32) (res : Int32 × StI × StI × StI), Reader_takeAtom_82 F t query span x1 x2 x3 x4 x5 y0 = some res → Go p l e rm_Reader_takeAtom s m args below meth c g A A 7 (MQ below (EI g ((pic_Reader g a_t (a_query 0) (a_span 0) res.2.1) ++ (pic_Query g a_query res.2.2.1) ++ (pic_Span g a_span res.2.2.2)) res.1 A) args s 0 0 A) ((pic_Reader g a_t (a_query 0) (a_span 0) t) ++ (pic_Query g a_query query) ++ (pic_Span g a_span span)) [(0, .ref (a_t 0)), (1, .int x1), (2, .int x2), (3, .int x3), (4, .int x4), (5, .int x5)] 82 [.int y0] := by
  obtain ⟨hx, hb, hr, hml, hown, htb, hlocks, hA, hAA, hG⟩ := id hC
  have hK := hG.1
  intro t query span x1 x2 x3 x4 x5 y0 res h H locs ls hP hD hS hl
  rw [Reader_takeAtom_82] at h
  refine lv_istore (lv' := [(6, .int y0), (0, .ref (a_t 0)), (1, .int x1), (2, .int x2), (3, .int x3), (4, .int x4), (5, .int x5)]) hx hb d_Reader_takeAtom_82 hl (by decide) rfl (fun ls hl => ?_)
  refine lv_iload hx hb d_Reader_takeAtom_84 (lv_at hl 0 rfl) ?_
  refine lv_iconst (v := -1) hx hb d_Reader_takeAtom_86 (by decide) ?_
  refine lv_icmp_eq (tgt := 97) hx hb d_Reader_takeAtom_87 (by decide) (fun c24 => ?_) (fun c24 => ?_)
  · replace h := (if_pos c24).symm.trans h
    exact k_Reader_takeAtom_97 hC _ _ _ _ _ h _ _ _ hP hD hS (lv_sub hl [1, 4] rfl)
  · replace h := (if_neg c24).symm.trans h
    refine lv_iload hx hb d_Reader_takeAtom_90 (lv_at hl 0 rfl) ?_
    refine lv_iload hx hb d_Reader_takeAtom_92 (lv_at hl 6 rfl) ?_
    refine lv_icmp_ne (tgt := 104) hx hb d_Reader_takeAtom_94 (by decide) (fun c25 => ?_) (fun c25 => ?_)
    · replace h := (if_neg c25).symm.trans h
      refine lv_aload_n hx hb d_Reader_takeAtom_104 rfl (lv_at hl 1 rfl) ?_
      refine lv_iload_n hx hb d_Reader_takeAtom_105 rfl (lv_at hl 2 rfl) ?_
      refine lv_iload hx hb d_Reader_takeAtom_106 (lv_at hl 5 rfl) ?_
      refine lv_iload hx hb d_Reader_takeAtom_108 (lv_at hl 6 rfl) ?_
      refine lv_iload hx hb d_Reader_takeAtom_110 (lv_at hl 0 rfl) ?_
      obtain ⟨r26, hr26, h⟩ := Option.bind_eq_some_iff.mp h
      refine cl_I (wr := []) [0, 1, 2, 3, 4, 5, 6, 7, 8, 9, 10, 11, 12, 13, 14, 15] [] rfl rfl rfl (by decide) hP hD hS hA (va_runV (As := [.int x1, .int x4, .int x5, .int y0]) (rest := []) ⟨hx, hb, hml, hown, htb⟩ (c_Reader_fieldHas l g F a_t a_query a_span t query span x1 x4 x5 y0 _ hr26 H.size) (cw_V htb mb_Reader_fieldHas (htb _ L_Reader_119) rfl rfl ⟨Nat.le_of_ble_eq_true rfl, Nat.le_of_ble_eq_true rfl⟩) (pre_V (va_recv hK hP (ci := 3) (q0 := 0) rfl rfl) (pre_S [0, 1, 2, 3, 4, 5, 6, 7, 8, 9, 10, 11, 12, 13, 14, 15] rfl rfl hP hD hS hA hAA hG)) rfl rfl hl.1 rfl (lv_room (Nat.le_of_ble_eq_true rfl)) d_Reader_takeAtom_112 ⟨Nat.zero_le _, Nat.zero_le _⟩) (fun H locs hP hD hS => ?_)
      have hP : va_P (gD g) vwCl ((pic_Reader g a_t (a_query 0) (a_span 0) t) ++ (pic_Query g a_query query) ++ (pic_Span g a_span r26.2)) H := hP.sub [0, 1, 2, 3, 4, 5, 6, 7, 8, 9, 10, 11, 12, 13, 14, 15] rfl
      have hD : va_D A ((pic_Reader g a_t (a_query 0) (a_span 0) t) ++ (pic_Query g a_query query) ++ (pic_Span g a_span r26.2)) := hD.sub [0, 1, 2, 3, 4, 5, 6, 7, 8, 9, 10, 11, 12, 13, 14, 15] rfl rfl
      refine lv_if_ne (tgt := 125) hx hb d_Reader_takeAtom_115 (by decide) (fun c27 => ?_) (fun c27 => ?_)
      · replace h := (if_neg c27).symm.trans h
        refine lv_aload_n hx hb d_Reader_takeAtom_125 rfl (lv_at hl 1 rfl) ?_
        refine va_get (D := gD g) (ci := 3) (v := .ref (a_query 0)) (C := R_Reader) (T := T_Reader) (N := 9) hx hb htb in_Reader hown hK hP 0 rfl rfl 0 (by decide) (htb _ L_Reader_12) (fun _ h9 => h9) rfl d_Reader_takeAtom_126 ?_
        obtain ⟨r28, hr28, h⟩ := Option.bind_eq_some_iff.mp h
        refine cl_Ir hP hS hA (va_runV (As := []) (rest := []) ⟨hx, hb, hml, hown, htb⟩ (c_Query_isFull l g F a_query query _ hr28 H.size) (cw_V htb mb_Query_isFull (htb _ L_Reader_123) rfl rfl ⟨Nat.le_of_ble_eq_true rfl, Nat.le_of_ble_eq_true rfl⟩) (pre_V (va_recv hK hP (ci := 1) (q0 := 4) rfl rfl) (pre_S [4, 5, 6, 7, 8, 9, 10, 11, 12, 13, 14] rfl rfl hP hD hS hA hAA hG)) rfl rfl hl.1 rfl (lv_room (Nat.le_of_ble_eq_true rfl)) d_Reader_takeAtom_129 ⟨Nat.zero_le _, Nat.zero_le _⟩) (fun H locs hP hS => ?_)
        refine lv_if_eq (tgt := 142) hx hb d_Reader_takeAtom_132 (by decide) (fun c29 => ?_) (fun c29 => ?_)
        · replace h := (if_pos c29).symm.trans h
          refine lv_aload_n hx hb d_Reader_takeAtom_142 rfl (lv_at hl 1 rfl) ?_
          obtain ⟨r30, hr30, h⟩ := Option.bind_eq_some_iff.mp h
          refine cl_V (wr := (pic_Span g a_span r26.2)) [0, 1, 2, 3, 4, 5, 6, 7, 8, 9, 10, 11, 12, 13, 14] [15] rfl rfl rfl (by decide) hP hD hS hA (va_runV (As := []) (rest := []) ⟨hx, hb, hml, hown, htb⟩ (c_Reader_beginOperand l g F a_t a_query (a_span 0) t query _ hr30 H.size) (cw_V htb mb_Reader_beginOperand (htb _ L_Reader_102) rfl rfl ⟨Nat.le_of_ble_eq_true rfl, Nat.le_of_ble_eq_true rfl⟩) (pre_V (va_recv hK hP (ci := 3) (q0 := 0) rfl rfl) (pre_S [0, 1, 2, 3, 4, 5, 6, 7, 8, 9, 10, 11, 12, 13, 14] rfl rfl hP hD hS hA hAA hG)) rfl rfl hl.1 rfl (lv_room (Nat.le_of_ble_eq_true rfl)) d_Reader_takeAtom_143 ⟨Nat.zero_le _, Nat.zero_le _⟩) (fun H locs hP hD hS => ?_)
          have hP : va_P (gD g) vwCl ((pic_Reader g a_t (a_query 0) (a_span 0) r30.1) ++ (pic_Query g a_query r30.2) ++ (pic_Span g a_span r26.2)) H := hP.sub [1, 2, 3, 4, 5, 6, 7, 8, 9, 10, 11, 12, 13, 14, 15, 0] rfl
          have hD : va_D A ((pic_Reader g a_t (a_query 0) (a_span 0) r30.1) ++ (pic_Query g a_query r30.2) ++ (pic_Span g a_span r26.2)) := hD.sub [1, 2, 3, 4, 5, 6, 7, 8, 9, 10, 11, 12, 13, 14, 15, 0] rfl rfl
          refine lv_aload_n hx hb d_Reader_takeAtom_146 rfl (lv_at hl 1 rfl) ?_
          refine va_get (D := gD g) (ci := 3) (v := .ref (a_query 0)) (C := R_Reader) (T := T_Reader) (N := 9) hx hb htb in_Reader hown hK hP 0 rfl rfl 0 (by decide) (htb _ L_Reader_12) (fun _ h9 => h9) rfl d_Reader_takeAtom_147 ?_
          refine lv_iload_n hx hb d_Reader_takeAtom_150 rfl (lv_at hl 2 rfl) ?_
          refine lv_iload hx hb d_Reader_takeAtom_151 (lv_at hl 5 rfl) ?_
          refine lv_iload hx hb d_Reader_takeAtom_153 (lv_at hl 6 rfl) ?_
          refine lv_iload hx hb d_Reader_takeAtom_155 (lv_at hl 0 rfl) ?_
          refine lv_aload_n hx hb d_Reader_takeAtom_157 rfl (lv_at hl 1 rfl) ?_
          refine va_get (D := gD g) (ci := 3) (v := .ref (a_span 0)) (C := R_Reader) (T := T_Reader) (N := 9) hx hb htb in_Reader hown hK hP 0 rfl rfl 1 (by decide) (htb _ L_Reader_21) (fun _ h9 => h9) rfl d_Reader_takeAtom_158 ?_
          obtain ⟨r31, hr31, h⟩ := Option.bind_eq_some_iff.mp h
          refine cl_V (wr := (pic_Reader g a_t (a_query 0) (a_span 0) r30.1)) [4, 5, 6, 7, 8, 9, 10, 11, 12, 13, 14, 15] [0, 1, 2, 3] rfl rfl rfl (by decide) hP hD hS hA (va_runV (As := [.int x1, .int x4, .int x5, .int y0, .ref (a_span 0)]) (rest := []) ⟨hx, hb, hml, hown, htb⟩ (c_Query_take l g F a_query a_span r30.2 r26.2 x1 x4 x5 y0 _ hr31 H.size) (cw_V htb mb_Query_take (htb _ L_Reader_127) rfl rfl ⟨Nat.le_of_ble_eq_true rfl, Nat.le_of_ble_eq_true rfl⟩) (pre_V (va_recv hK hP (ci := 1) (q0 := 4) rfl rfl) (pre_S [4, 5, 6, 7, 8, 9, 10, 11, 12, 13, 14, 15] rfl rfl hP hD hS hA hAA hG)) rfl rfl hl.1 rfl (lv_room (Nat.le_of_ble_eq_true rfl)) d_Reader_takeAtom_161 ⟨Nat.zero_le _, Nat.zero_le _⟩) (fun H locs hP hD hS => ?_)
          have hP : va_P (gD g) vwCl ((pic_Reader g a_t (a_query 0) (a_span 0) r30.1) ++ (pic_Query g a_query r31) ++ (pic_Span g a_span r26.2)) H := hP.sub [0, 1, 2, 3, 4, 5, 6, 7, 8, 9, 10, 11, 12, 13, 14, 15] rfl
          have hD : va_D A ((pic_Reader g a_t (a_query 0) (a_span 0) r30.1) ++ (pic_Query g a_query r31) ++ (pic_Span g a_span r26.2)) := hD.sub [0, 1, 2, 3, 4, 5, 6, 7, 8, 9, 10, 11, 12, 13, 14, 15] rfl rfl
          refine lv_aload_n hx hb d_Reader_takeAtom_164 rfl (lv_at hl 1 rfl) ?_
          refine lv_iconst (v := 0) hx hb d_Reader_takeAtom_165 (by decide) ?_
          refine va_put (D := gD g) (ci := 3) (v := .int (0 : Int32)) (ty := .boolean) (C := R_Reader) (T := T_Reader) (N := 9) hx hb htb in_Reader ty_Reader ty_Reader_ok nm_Reader hown hK hP hD hS 0 rfl rfl 4 (by decide) (htb _ L_Reader_32) (fun _ h9 => h9) rfl (by decide +kernel) rfl rfl (Nat.le_of_ble_eq_true rfl) d_Reader_takeAtom_166 (fun H locs hP hD hS => ?_)
          obtain ⟨t_32, et_32, h⟩ := letS_el h
          have hP : va_P (gD g) vwCl ((pic_Reader g a_t (a_query 0) (a_span 0) t_32) ++ (pic_Query g a_query r31) ++ (pic_Span g a_span r26.2)) H := by rw [et_32]; exact hP
          have hD : va_D A ((pic_Reader g a_t (a_query 0) (a_span 0) t_32) ++ (pic_Query g a_query r31) ++ (pic_Span g a_span r26.2)) := by rw [et_32]; exact hD
          refine lv_iload hx hb d_Reader_takeAtom_169 (lv_at hl 5 rfl) ?_
          refine lv_if_eq (tgt := 181) hx hb d_Reader_takeAtom_171 (by decide) (fun c33 => ?_) (fun c33 => ?_)
          · replace h := (if_pos c33).symm.trans h
            refine lv_iload hx hb d_Reader_takeAtom_181 (lv_at hl 0 rfl) ?_
            cases h
            exact W.iret hx hb hr (fun t ht hW => ⟨⟨_, (), rfl, rfl, by rw [ht]; exact hP, hD⟩, hS.F ht⟩) hS.2.2 d_Reader_takeAtom_183
          · replace h := (if_neg c33).symm.trans h
            refine lv_iload hx hb d_Reader_takeAtom_174 (lv_at hl 0 rfl) ?_
            refine lv_iconst (v := 1) hx hb d_Reader_takeAtom_176 (by decide) ?_
            refine lv_iadd hx hb d_Reader_takeAtom_177 ?_
            refine lv_goto (tgt := 183) hx hb d_Reader_takeAtom_178 (by decide) ?_
            cases h
            exact W.iret hx hb hr (fun t ht hW => ⟨⟨_, (), rfl, rfl, by rw [ht]; exact hP, hD⟩, hS.F ht⟩) hS.2.2 d_Reader_takeAtom_183
        · replace h := (if_neg c29).symm.trans h
          refine lv_aload_n hx hb d_Reader_takeAtom_135 rfl (lv_at hl 1 rfl) ?_
          refine lv_iconst (v := 5) hx hb d_Reader_takeAtom_136 (by decide) ?_
          refine lv_iload_n hx hb d_Reader_takeAtom_137 rfl (lv_at hl 3 rfl) ?_
          obtain ⟨r34, hr34, h⟩ := Option.bind_eq_some_iff.mp h
          refine cl_I (wr := (pic_Query g a_query query) ++ (pic_Span g a_span r26.2)) [0, 1, 2, 3] [4, 5, 6, 7, 8, 9, 10, 11, 12, 13, 14, 15] rfl rfl rfl (by decide) hP hD hS hA (va_runV (As := [.int (5 : Int32), .int x2]) (rest := []) ⟨hx, hb, hml, hown, htb⟩ (c_Reader_fail l g F a_t (a_query 0) (a_span 0) t (5 : Int32) x2 _ hr34 H.size) (cw_V htb mb_Reader_fail (htb _ L_Reader_66) rfl rfl ⟨Nat.le_of_ble_eq_true rfl, Nat.le_of_ble_eq_true rfl⟩) (pre_V (va_recv hK hP (ci := 3) (q0 := 0) rfl rfl) (pre_S [0, 1, 2, 3] rfl rfl hP hD hS hA hAA hG)) rfl rfl hl.1 rfl (lv_room (Nat.le_of_ble_eq_true rfl)) d_Reader_takeAtom_138 ⟨Nat.zero_le _, Nat.zero_le _⟩) (fun H locs hP hD hS => ?_)
          have hP : va_P (gD g) vwCl ((pic_Reader g a_t (a_query 0) (a_span 0) r34.2) ++ (pic_Query g a_query query) ++ (pic_Span g a_span r26.2)) H := hP.sub [12, 13, 14, 15, 0, 1, 2, 3, 4, 5, 6, 7, 8, 9, 10, 11] rfl
          have hD : va_D A ((pic_Reader g a_t (a_query 0) (a_span 0) r34.2) ++ (pic_Query g a_query query) ++ (pic_Span g a_span r26.2)) := hD.sub [12, 13, 14, 15, 0, 1, 2, 3, 4, 5, 6, 7, 8, 9, 10, 11] rfl rfl
          cases h
          exact W.iret hx hb hr (fun t ht hW => ⟨⟨_, (), rfl, rfl, by rw [ht]; exact hP, hD⟩, hS.F ht⟩) hS.2.2 d_Reader_takeAtom_141
      · replace h := (if_pos c27).symm.trans h
        refine lv_aload_n hx hb d_Reader_takeAtom_118 rfl (lv_at hl 1 rfl) ?_
        refine lv_iconst (v := 4) hx hb d_Reader_takeAtom_119 (by decide) ?_
        refine lv_iload_n hx hb d_Reader_takeAtom_120 rfl (lv_at hl 4 rfl) ?_
        obtain ⟨r35, hr35, h⟩ := Option.bind_eq_some_iff.mp h
        refine cl_I (wr := (pic_Query g a_query query) ++ (pic_Span g a_span r26.2)) [0, 1, 2, 3] [4, 5, 6, 7, 8, 9, 10, 11, 12, 13, 14, 15] rfl rfl rfl (by decide) hP hD hS hA (va_runV (As := [.int (4 : Int32), .int x3]) (rest := []) ⟨hx, hb, hml, hown, htb⟩ (c_Reader_fail l g F a_t (a_query 0) (a_span 0) t (4 : Int32) x3 _ hr35 H.size) (cw_V htb mb_Reader_fail (htb _ L_Reader_66) rfl rfl ⟨Nat.le_of_ble_eq_true rfl, Nat.le_of_ble_eq_true rfl⟩) (pre_V (va_recv hK hP (ci := 3) (q0 := 0) rfl rfl) (pre_S [0, 1, 2, 3] rfl rfl hP hD hS hA hAA hG)) rfl rfl hl.1 rfl (lv_room (Nat.le_of_ble_eq_true rfl)) d_Reader_takeAtom_121 ⟨Nat.zero_le _, Nat.zero_le _⟩) (fun H locs hP hD hS => ?_)
        have hP : va_P (gD g) vwCl ((pic_Reader g a_t (a_query 0) (a_span 0) r35.2) ++ (pic_Query g a_query query) ++ (pic_Span g a_span r26.2)) H := hP.sub [12, 13, 14, 15, 0, 1, 2, 3, 4, 5, 6, 7, 8, 9, 10, 11] rfl
        have hD : va_D A ((pic_Reader g a_t (a_query 0) (a_span 0) r35.2) ++ (pic_Query g a_query query) ++ (pic_Span g a_span r26.2)) := hD.sub [12, 13, 14, 15, 0, 1, 2, 3, 4, 5, 6, 7, 8, 9, 10, 11] rfl rfl
        cases h
        exact W.iret hx hb hr (fun t ht hW => ⟨⟨_, (), rfl, rfl, by rw [ht]; exact hP, hD⟩, hS.F ht⟩) hS.2.2 d_Reader_takeAtom_124
    · replace h := (if_pos c25).symm.trans h
      exact k_Reader_takeAtom_97 hC _ _ _ _ _ h _ _ _ hP hD hS (lv_sub hl [1, 4] rfl)
set_option maxHeartbeats 4000000 in
set_option maxRecDepth 100000 in
theorem k_Reader_takeAtom_48 {p : Program} {l : Launch} {e : Env} {s : State} {m : MethodId} {args : Array Value} {below : List Frame} {meth : Method} {c : Code} {g : Gz} {A : Nat → Prop} {F : Nat} {a_t a_query a_span : Nat → Nat} (hC : Cx prog_6_method_9_code 7 (some .int) R_Reader p s m args meth c g A A) : ∀ (t : StI) (query : StI) (span : StI) (x1 : Int32) (x2 : Int32) (x3 : Int32) (x4 : Int32) (y0 : Int32) (res : Int32 × StI × StI × StI), Reader_takeAtom_48 F t query span x1 x2 x3 x4 y0 = some res → Go p l e rm_Reader_takeAtom s m args below meth c g A A 7 (MQ below (EI g ((pic_Reader g a_t (a_query 0) (a_span 0) res.2.1) ++ (pic_Query g a_query res.2.2.1) ++ (pic_Span g a_span res.2.2.2)) res.1 A) args s 0 0 A) ((pic_Reader g a_t (a_query 0) (a_span 0) t) ++ (pic_Query g a_query query) ++ (pic_Span g a_span span)) [(0, .ref (a_t 0)), (1, .int x1), (2, .int x2), (3, .int x3), (4, .int x4)] 48 [.int y0] := by
  obtain ⟨hx, hb, hr, hml, hown, htb, hlocks, hA, hAA, hG⟩ := id hC
  have hK := hG.1
  intro t query span x1 x2 x3 x4 y0 res h H locs ls hP hD hS hl
  rw [Reader_takeAtom_48] at h
  refine lv_istore (lv' := [(5, .int y0), (0, .ref (a_t 0)), (1, .int x1), (2, .int x2), (3, .int x3), (4, .int x4)]) hx hb d_Reader_takeAtom_48 hl (by decide) rfl (fun ls hl => ?_)
  refine lv_iload hx hb d_Reader_takeAtom_50 (lv_at hl 5 rfl) ?_
  refine lv_if_eq (tgt := 76) hx hb d_Reader_takeAtom_52 (by decide) (fun c36 => ?_) (fun c36 => ?_)
  · replace h := (if_pos c36).symm.trans h
    refine lv_aload_n hx hb d_Reader_takeAtom_76 rfl (lv_at hl 1 rfl) ?_
    refine lv_iload hx hb d_Reader_takeAtom_77 (lv_at hl 0 rfl) ?_
    obtain ⟨r37, hr37, h⟩ := Option.bind_eq_some_iff.mp h
    refine cl_Ir hP hS hA (va_runV (As := [.int y0]) (rest := []) ⟨hx, hb, hml, hown, htb⟩ (c_Reader_pastTextBytes l g F a_t a_query (a_span 0) t query y0 _ hr37 H.size) (cw_V htb mb_Reader_pastTextBytes (htb _ L_Reader_93) rfl rfl ⟨Nat.le_of_ble_eq_true rfl, Nat.le_of_ble_eq_true rfl⟩) (pre_V (va_recv hK hP (ci := 3) (q0 := 0) rfl rfl) (pre_S [0, 1, 2, 3, 4, 5, 6, 7, 8, 9, 10, 11, 12, 13, 14] rfl rfl hP hD hS hA hAA hG)) rfl rfl hl.1 rfl (lv_room (Nat.le_of_ble_eq_true rfl)) d_Reader_takeAtom_79 ⟨Nat.zero_le _, Nat.zero_le _⟩) (fun H locs hP hS => ?_)
    exact k_Reader_takeAtom_82 hC _ _ _ _ _ _ _ _ _ _ h _ _ _ hP hD hS (lv_sub hl [1, 2, 3, 4, 5, 0] rfl)
  · replace h := (if_neg c36).symm.trans h
    refine lv_aload_n hx hb d_Reader_takeAtom_55 rfl (lv_at hl 1 rfl) ?_
    refine va_get (D := gD g) (ci := 3) (v := .ref (a_query 0)) (C := R_Reader) (T := T_Reader) (N := 9) hx hb htb in_Reader hown hK hP 0 rfl rfl 0 (by decide) (htb _ L_Reader_12) (fun _ h9 => h9) rfl d_Reader_takeAtom_56 ?_
    refine lv_bipush (v := 34) hx hb d_Reader_takeAtom_59 (by decide) ?_
    refine lv_iload hx hb d_Reader_takeAtom_61 (lv_at hl 0 rfl) ?_
    refine lv_aload_n hx hb d_Reader_takeAtom_63 rfl (lv_at hl 1 rfl) ?_
    refine va_get (D := gD g) (ci := 3) (v := .ref (a_query 0)) (C := R_Reader) (T := T_Reader) (N := 9) hx hb htb in_Reader hown hK hP 0 rfl rfl 0 (by decide) (htb _ L_Reader_12) (fun _ h9 => h9) rfl d_Reader_takeAtom_64 ?_
    refine va_getN (D := gD g) (ci := 1) (v := .int (query 1 0)) (C := R_Query) (T := T_Query) (N := 14) hx hb htb in_Query hown hK hP 4 rfl rfl 1 (by decide) (nf_of hG N_Reader_60) (fun _ h9 => h9) rfl d_Reader_takeAtom_67 ?_
    obtain ⟨r38, hr38, h⟩ := Option.bind_eq_some_iff.mp h
    refine cl_Ir hP hS hA (va_runV (As := [.int (34 : Int32), .int y0, .int (query 1 0)]) (rest := []) ⟨hx, hb, hml, hown, htb⟩ (c_Query_find l g F a_query query (34 : Int32) y0 (query 1 0) _ hr38 H.size) (cw_V htb mb_Query_find (htb _ L_Reader_116) rfl rfl ⟨Nat.le_of_ble_eq_true rfl, Nat.le_of_ble_eq_true rfl⟩) (pre_V (va_recv hK hP (ci := 1) (q0 := 4) rfl rfl) (pre_S [4, 5, 6, 7, 8, 9, 10, 11, 12, 13, 14] rfl rfl hP hD hS hA hAA hG)) rfl rfl hl.1 rfl (lv_room (Nat.le_of_ble_eq_true rfl)) d_Reader_takeAtom_70 ⟨Nat.zero_le _, Nat.zero_le _⟩) (fun H locs hP hS => ?_)
    refine lv_goto (tgt := 82) hx hb d_Reader_takeAtom_73 (by decide) ?_
    exact k_Reader_takeAtom_82 hC _ _ _ _ _ _ _ _ _ _ h _ _ _ hP hD hS (lv_sub hl [1, 2, 3, 4, 5, 0] rfl)
set_option maxHeartbeats 4000000 in
set_option maxRecDepth 100000 in
theorem k_Reader_takeAtom_34 {p : Program} {l : Launch} {e : Env} {s : State} {m : MethodId} {args : Array Value} {below : List Frame} {meth : Method} {c : Code} {g : Gz} {A : Nat → Prop} {F : Nat} {a_t a_query a_span : Nat → Nat} (hC : Cx prog_6_method_9_code 7 (some .int) R_Reader p s m args meth c g A A) : ∀ (t : StI) (query : StI) (span : StI) (x1 : Int32) (x2 : Int32) (x3 : Int32) (y0 : Int32) (res : Int32 × StI × StI × StI), Reader_takeAtom_34 F t query span x1 x2 x3 y0 = some res → Go p l e rm_Reader_takeAtom s m args below meth c g A A 7 (MQ below (EI g ((pic_Reader g a_t (a_query 0) (a_span 0) res.2.1) ++ (pic_Query g a_query res.2.2.1) ++ (pic_Span g a_span res.2.2.2)) res.1 A) args s 0 0 A) ((pic_Reader g a_t (a_query 0) (a_span 0) t) ++ (pic_Query g a_query query) ++ (pic_Span g a_span span)) [(0, .ref (a_t 0)), (1, .int x1), (2, .int x2), (3, .int x3)] 34 [.int y0] := by
  obtain ⟨hx, hb, hr, hml, hown, htb, hlocks, hA, hAA, hG⟩ := id hC
  have hK := hG.1
  intro t query span x1 x2 x3 y0 res h H locs ls hP hD hS hl
  rw [Reader_takeAtom_34] at h
  refine lv_istore (lv' := [(4, .int y0), (0, .ref (a_t 0)), (1, .int x1), (2, .int x2), (3, .int x3)]) hx hb d_Reader_takeAtom_34 hl (by decide) rfl (fun ls hl => ?_)
  refine lv_iload hx hb d_Reader_takeAtom_36 (lv_at hl 0 rfl) ?_
  refine lv_if_eq (tgt := 47) hx hb d_Reader_takeAtom_38 (by decide) (fun c39 => ?_) (fun c39 => ?_)
  · replace h := (if_pos c39).symm.trans h
    refine lv_iload_n hx hb d_Reader_takeAtom_47 rfl (lv_at hl 4 rfl) ?_
    exact k_Reader_takeAtom_48 hC _ _ _ _ _ _ _ _ _ h _ _ _ hP hD hS (lv_sub hl [1, 2, 3, 4, 0] rfl)
  · replace h := (if_neg c39).symm.trans h
    refine lv_iload_n hx hb d_Reader_takeAtom_41 rfl (lv_at hl 4 rfl) ?_
    refine lv_iconst (v := 1) hx hb d_Reader_takeAtom_42 (by decide) ?_
    refine lv_iadd hx hb d_Reader_takeAtom_43 ?_
    refine lv_goto (tgt := 48) hx hb d_Reader_takeAtom_44 (by decide) ?_
    exact k_Reader_takeAtom_48 hC _ _ _ _ _ _ _ _ _ h _ _ _ hP hD hS (lv_sub hl [1, 2, 3, 4, 0] rfl)
set_option maxHeartbeats 4000000 in
set_option maxRecDepth 100000 in
theorem k_Reader_takeAtom_16 {p : Program} {l : Launch} {e : Env} {s : State} {m : MethodId} {args : Array Value} {below : List Frame} {meth : Method} {c : Code} {g : Gz} {A : Nat → Prop} {F : Nat} {a_t a_query a_span : Nat → Nat} (hC : Cx prog_6_method_9_code 7 (some .int) R_Reader p s m args meth c g A A) : ∀ (t : StI) (query : StI) (span : StI) (x1 : Int32) (x2 : Int32) (x3 : Int32) (res : Int32 × StI × StI × StI), Reader_takeAtom_16 F t query span x1 x2 x3 = some res → Go p l e rm_Reader_takeAtom s m args below meth c g A A 7 (MQ below (EI g ((pic_Reader g a_t (a_query 0) (a_span 0) res.2.1) ++ (pic_Query g a_query res.2.2.1) ++ (pic_Span g a_span res.2.2.2)) res.1 A) args s 0 0 A) ((pic_Reader g a_t (a_query 0) (a_span 0) t) ++ (pic_Query g a_query query) ++ (pic_Span g a_span span)) [(0, .ref (a_t 0)), (1, .int x1), (2, .int x2), (3, .int x3)] 16 [] := by
  obtain ⟨hx, hb, hr, hml, hown, htb, hlocks, hA, hAA, hG⟩ := id hC
  have hK := hG.1
  intro t query span x1 x2 x3 res h H locs ls hP hD hS hl
  rw [Reader_takeAtom_16] at h
  refine lv_aload_n hx hb d_Reader_takeAtom_16 rfl (lv_at hl 0 rfl) ?_
  refine va_get (D := gD g) (ci := 3) (v := .ref (a_query 0)) (C := R_Reader) (T := T_Reader) (N := 9) hx hb htb in_Reader hown hK hP 0 rfl rfl 0 (by decide) (htb _ L_Reader_12) (fun _ h9 => h9) rfl d_Reader_takeAtom_17 ?_
  refine lv_iload_n hx hb d_Reader_takeAtom_20 rfl (lv_at hl 3 rfl) ?_
  obtain ⟨r40, hr40, h⟩ := Option.bind_eq_some_iff.mp h
  refine cl_Ir hP hS hA (va_runV (As := [.int x3]) (rest := []) ⟨hx, hb, hml, hown, htb⟩ (c_Query_byteAt l g F a_query query x3 _ hr40 H.size) (cw_V htb mb_Query_byteAt (htb _ L_Reader_70) rfl rfl ⟨Nat.le_of_ble_eq_true rfl, Nat.le_of_ble_eq_true rfl⟩) (pre_V (va_recv hK hP (ci := 1) (q0 := 4) rfl rfl) (pre_S [4, 5, 6, 7, 8, 9, 10, 11, 12, 13, 14] rfl rfl hP hD hS hA hAA hG)) rfl rfl hl.1 rfl (lv_room (Nat.le_of_ble_eq_true rfl)) d_Reader_takeAtom_21 ⟨Nat.zero_le _, Nat.zero_le _⟩) (fun H locs hP hS => ?_)
  refine lv_bipush (v := 34) hx hb d_Reader_takeAtom_24 (by decide) ?_
  refine lv_icmp_ne (tgt := 33) hx hb d_Reader_takeAtom_26 (by decide) (fun c41 => ?_) (fun c41 => ?_)
  · replace h := (if_neg c41).symm.trans h
    refine lv_iconst (v := 0) hx hb d_Reader_takeAtom_33 (by decide) ?_
    exact k_Reader_takeAtom_34 hC _ _ _ _ _ _ _ _ h _ _ _ hP hD hS (lv_sub hl [0, 1, 2, 3] rfl)
  · replace h := (if_pos c41).symm.trans h
    refine lv_iconst (v := 1) hx hb d_Reader_takeAtom_29 (by decide) ?_
    refine lv_goto (tgt := 34) hx hb d_Reader_takeAtom_30 (by decide) ?_
    exact k_Reader_takeAtom_34 hC _ _ _ _ _ _ _ _ h _ _ _ hP hD hS (lv_sub hl [0, 1, 2, 3] rfl)
set_option maxHeartbeats 4000000 in
set_option maxRecDepth 100000 in
theorem k_Reader_takeAtom {p : Program} {l : Launch} {e : Env} {s : State} {m : MethodId} {args : Array Value} {below : List Frame} {meth : Method} {c : Code} {g : Gz} {A : Nat → Prop} {F : Nat} {a_t a_query a_span : Nat → Nat} (hC : Cx prog_6_method_9_code 7 (some .int) R_Reader p s m args meth c g A A) : ∀ (t : StI) (query : StI) (span : StI) (x1 : Int32) (x2 : Int32) (x3 : Int32) (res : Int32 × StI × StI × StI), Reader_takeAtom F t query span x1 x2 x3 = some res → Go p l e rm_Reader_takeAtom s m args below meth c g A A 7 (MQ below (EI g ((pic_Reader g a_t (a_query 0) (a_span 0) res.2.1) ++ (pic_Query g a_query res.2.2.1) ++ (pic_Span g a_span res.2.2.2)) res.1 A) args s 0 0 A) ((pic_Reader g a_t (a_query 0) (a_span 0) t) ++ (pic_Query g a_query query) ++ (pic_Span g a_span span)) [(0, .ref (a_t 0)), (1, .int x1), (2, .int x2), (3, .int x3)] 0 [] := by
  obtain ⟨hx, hb, hr, hml, hown, htb, hlocks, hA, hAA, hG⟩ := id hC
  have hK := hG.1
  intro t query span x1 x2 x3 res h H locs ls hP hD hS hl
  rw [Reader_takeAtom] at h
  refine lv_iload_n hx hb d_Reader_takeAtom_0 rfl (lv_at hl 1 rfl) ?_
  refine lv_if_eq (tgt := 16) hx hb d_Reader_takeAtom_1 (by decide) (fun c42 => ?_) (fun c42 => ?_)
  · replace h := (if_pos c42).symm.trans h
    exact k_Reader_takeAtom_16 hC _ _ _ _ _ _ _ h _ _ _ hP hD hS (lv_sub hl [0, 1, 2, 3] rfl)
  · replace h := (if_neg c42).symm.trans h
    refine lv_aload_n hx hb d_Reader_takeAtom_4 rfl (lv_at hl 0 rfl) ?_
    refine lv_iload_n hx hb d_Reader_takeAtom_5 rfl (lv_at hl 1 rfl) ?_
    refine lv_iload_n hx hb d_Reader_takeAtom_6 rfl (lv_at hl 2 rfl) ?_
    refine lv_iload_n hx hb d_Reader_takeAtom_7 rfl (lv_at hl 3 rfl) ?_
    obtain ⟨r43, hr43, h⟩ := Option.bind_eq_some_iff.mp h
    refine cl_I (wr := (pic_Span g a_span span)) [0, 1, 2, 3, 4, 5, 6, 7, 8, 9, 10, 11, 12, 13, 14] [15] rfl rfl rfl (by decide) hP hD hS hA (va_runV (As := [.int x1, .int x2, .int x3]) (rest := []) ⟨hx, hb, hml, hown, htb⟩ (c_Reader_isBegun l g F a_t a_query (a_span 0) t query x1 x2 x3 _ hr43 H.size) (cw_V htb mb_Reader_isBegun (htb _ L_Reader_112) rfl rfl ⟨Nat.le_of_ble_eq_true rfl, Nat.le_of_ble_eq_true rfl⟩) (pre_V (va_recv hK hP (ci := 3) (q0 := 0) rfl rfl) (pre_S [0, 1, 2, 3, 4, 5, 6, 7, 8, 9, 10, 11, 12, 13, 14] rfl rfl hP hD hS hA hAA hG)) rfl rfl hl.1 rfl (lv_room (Nat.le_of_ble_eq_true rfl)) d_Reader_takeAtom_8 ⟨Nat.zero_le _, Nat.zero_le _⟩) (fun H locs hP hD hS => ?_)
    have hP : va_P (gD g) vwCl ((pic_Reader g a_t (a_query 0) (a_span 0) r43.2) ++ (pic_Query g a_query query) ++ (pic_Span g a_span span)) H := hP.sub [1, 2, 3, 4, 5, 6, 7, 8, 9, 10, 11, 12, 13, 14, 15, 0] rfl
    have hD : va_D A ((pic_Reader g a_t (a_query 0) (a_span 0) r43.2) ++ (pic_Query g a_query query) ++ (pic_Span g a_span span)) := hD.sub [1, 2, 3, 4, 5, 6, 7, 8, 9, 10, 11, 12, 13, 14, 15, 0] rfl rfl
    refine lv_if_ne (tgt := 16) hx hb d_Reader_takeAtom_11 (by decide) (fun c44 => ?_) (fun c44 => ?_)
    · replace h := (if_neg c44).symm.trans h
      exact k_Reader_takeAtom_16 hC _ _ _ _ _ _ _ h _ _ _ hP hD hS (lv_sub hl [0, 1, 2, 3] rfl)
    · replace h := (if_pos c44).symm.trans h
      refine lv_iconst (v := -1) hx hb d_Reader_takeAtom_14 (by decide) ?_
      cases h
      exact W.iret hx hb hr (fun t ht hW => ⟨⟨_, (), rfl, rfl, by rw [ht]; exact hP, hD⟩, hS.F ht⟩) hS.2.2 d_Reader_takeAtom_15
theorem c_Reader_takeAtom (l : Launch) (g : Gz) (F : Nat) (a_t : Nat → Nat) (a_query : Nat → Nat) (a_span : Nat → Nat) (t : StI) (query : StI) (span : StI) (x1 : Int32) (x2 : Int32) (x3 : Int32) (res : Int32 × StI × StI × StI) (h : Reader_takeAtom F t query span x1 x2 x3 = some res) : ∀ sz : Nat, Met l y_Reader_takeAtom (.code y_Reader_takeAtom prog_6_method_9_code 7 (some .int) :: TBL) rm_Reader_takeAtom (va_Pc [.ref (a_t 0), .int x1, .int x2, .int x3] (Pre0 g ((pic_Reader g a_t (a_query 0) (a_span 0) t) ++ (pic_Query g a_query query) ++ (pic_Span g a_span span)) sz)) (EI g ((pic_Reader g a_t (a_query 0) (a_span 0) res.2.1) ++ (pic_Query g a_query res.2.2.1) ++ (pic_Span g a_span res.2.2.2)) res.1 (va_A ((pic_Reader g a_t (a_query 0) (a_span 0) t) ++ (pic_Query g a_query query) ++ (pic_Span g a_span span)) sz)) 0 0 (va_A ((pic_Reader g a_t (a_query 0) (a_span 0) t) ++ (pic_Query g a_query query) ++ (pic_Span g a_span span)) sz) :=
  ct_w (Qc := fun A => EI g ((pic_Reader g a_t (a_query 0) (a_span 0) res.2.1) ++ (pic_Query g a_query res.2.2.1) ++ (pic_Span g a_span res.2.2.2)) res.1 A) (by decide) (Nat.le_of_ble_eq_true rfl) (fun p e s m args below meth c A hC => k_Reader_takeAtom hC t query span x1 x2 x3 res h)
