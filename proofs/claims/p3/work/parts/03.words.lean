theorem L_Pile_7 : (Jvm.Cond.fieldLink "MailQueries$Pile" (7 : Nat) "MailQueries$Pile" "top" "I") ∈ TBL := TBL_in (List.mem_of_getElem? (i := 266) (by decide +kernel)) (by decide +kernel)
set_option maxRecDepth 100000 in
theorem W_Pile_clear_code : (Jvm.Cond.code ({ cls := "MailQueries$Pile", name := "clear", desc := "()V" } : Jvm.MethodName) prog_3_method_2_code (1 : Nat) (Option.none : Option Jvm.ClassFile.FieldType)) ∈ TBL := TBL_in (List.mem_of_getElem? (i := 430) rfl) rfl
theorem I_Pile : (Jvm.Cond.initialized "MailQueries$Pile") ∈ TBL := TBL_in (List.mem_of_getElem? (i := 106) (by decide +kernel)) (by decide +kernel)
theorem W_Pile_clear_in : (Jvm.Cond.instanceMethod ({ cls := "MailQueries$Pile", name := "clear", desc := "()V" } : Jvm.MethodName)) ∈ TBL := TBL_in (List.mem_of_getElem? (i := 428) (by decide +kernel)) (by decide +kernel)
theorem W_Pile_clear_se : (Jvm.Cond.selects "MailQueries$Pile" ({ cls := "MailQueries$Pile", name := "clear", desc := "()V" } : Jvm.MethodName) ({ cls := "MailQueries$Pile", name := "clear", desc := "()V" } : Jvm.MethodName)) ∈ TBL := TBL_in (List.mem_of_getElem? (i := 429) (by decide +kernel)) (by decide +kernel)
set_option maxRecDepth 100000 in
theorem W_Pile_isEmpty_code : (Jvm.Cond.code ({ cls := "MailQueries$Pile", name := "isEmpty", desc := "()Z" } : Jvm.MethodName) prog_3_method_3_code (1 : Nat) (Option.some Jvm.ClassFile.FieldType.boolean)) ∈ TBL := TBL_in (List.mem_of_getElem? (i := 438) rfl) rfl
theorem W_Pile_isEmpty_in : (Jvm.Cond.instanceMethod ({ cls := "MailQueries$Pile", name := "isEmpty", desc := "()Z" } : Jvm.MethodName)) ∈ TBL := TBL_in (List.mem_of_getElem? (i := 436) (by decide +kernel)) (by decide +kernel)
theorem W_Pile_isEmpty_se : (Jvm.Cond.selects "MailQueries$Pile" ({ cls := "MailQueries$Pile", name := "isEmpty", desc := "()Z" } : Jvm.MethodName) ({ cls := "MailQueries$Pile", name := "isEmpty", desc := "()Z" } : Jvm.MethodName)) ∈ TBL := TBL_in (List.mem_of_getElem? (i := 437) (by decide +kernel)) (by decide +kernel)
theorem L_Pile_13 : (Jvm.Cond.fieldLink "MailQueries$Pile" (13 : Nat) "MailQueries$Pile" "held" "[J") ∈ TBL := TBL_in (List.mem_of_getElem? (i := 265) (by decide +kernel)) (by decide +kernel)
set_option maxRecDepth 100000 in
theorem W_Pile_push_code : (Jvm.Cond.code ({ cls := "MailQueries$Pile", name := "push", desc := "(J)V" } : Jvm.MethodName) prog_3_method_4_code (3 : Nat) (Option.none : Option Jvm.ClassFile.FieldType)) ∈ TBL := TBL_in (List.mem_of_getElem? (i := 434) rfl) rfl
theorem W_Pile_push_in : (Jvm.Cond.instanceMethod ({ cls := "MailQueries$Pile", name := "push", desc := "(J)V" } : Jvm.MethodName)) ∈ TBL := TBL_in (List.mem_of_getElem? (i := 432) (by decide +kernel)) (by decide +kernel)
theorem W_Pile_push_se : (Jvm.Cond.selects "MailQueries$Pile" ({ cls := "MailQueries$Pile", name := "push", desc := "(J)V" } : Jvm.MethodName) ({ cls := "MailQueries$Pile", name := "push", desc := "(J)V" } : Jvm.MethodName)) ∈ TBL := TBL_in (List.mem_of_getElem? (i := 433) (by decide +kernel)) (by decide +kernel)
set_option maxRecDepth 100000 in
theorem W_Pile_pop_code : (Jvm.Cond.code ({ cls := "MailQueries$Pile", name := "pop", desc := "()J" } : Jvm.MethodName) prog_3_method_5_code (1 : Nat) (Option.some Jvm.ClassFile.FieldType.long)) ∈ TBL := TBL_in (List.mem_of_getElem? (i := 442) rfl) rfl
theorem W_Pile_pop_in : (Jvm.Cond.instanceMethod ({ cls := "MailQueries$Pile", name := "pop", desc := "()J" } : Jvm.MethodName)) ∈ TBL := TBL_in (List.mem_of_getElem? (i := 440) (by decide +kernel)) (by decide +kernel)
theorem W_Pile_pop_se : (Jvm.Cond.selects "MailQueries$Pile" ({ cls := "MailQueries$Pile", name := "pop", desc := "()J" } : Jvm.MethodName) ({ cls := "MailQueries$Pile", name := "pop", desc := "()J" } : Jvm.MethodName)) ∈ TBL := TBL_in (List.mem_of_getElem? (i := 441) (by decide +kernel)) (by decide +kernel)
theorem L_Query_22 : (Jvm.Cond.fieldLink "MailQueries$Query" (22 : Nat) "MailQueries$Query" "different" "I") ∈ TBL := TBL_in (List.mem_of_getElem? (i := 141) (by decide +kernel)) (by decide +kernel)
set_option maxRecDepth 100000 in
theorem W_Query_has_code : (Jvm.Cond.code ({ cls := "MailQueries$Query", name := "has", desc := "(I)Z" } : Jvm.MethodName) prog_5_method_3_code (2 : Nat) (Option.some Jvm.ClassFile.FieldType.boolean)) ∈ TBL := TBL_in (List.mem_of_getElem? (i := 398) rfl) rfl
theorem I_Query : (Jvm.Cond.initialized "MailQueries$Query") ∈ TBL := TBL_in (List.mem_of_getElem? (i := 102) (by decide +kernel)) (by decide +kernel)
theorem W_Query_has_in : (Jvm.Cond.instanceMethod ({ cls := "MailQueries$Query", name := "has", desc := "(I)Z" } : Jvm.MethodName)) ∈ TBL := TBL_in (List.mem_of_getElem? (i := 396) (by decide +kernel)) (by decide +kernel)
theorem W_Query_has_se : (Jvm.Cond.selects "MailQueries$Query" ({ cls := "MailQueries$Query", name := "has", desc := "(I)Z" } : Jvm.MethodName) ({ cls := "MailQueries$Query", name := "has", desc := "(I)Z" } : Jvm.MethodName)) ∈ TBL := TBL_in (List.mem_of_getElem? (i := 397) (by decide +kernel)) (by decide +kernel)
theorem L_Query_19 : (Jvm.Cond.fieldLink "MailQueries$Query" (19 : Nat) "MailQueries$Query" "taken" "I") ∈ TBL := TBL_in (List.mem_of_getElem? (i := 140) (by decide +kernel)) (by decide +kernel)
set_option maxRecDepth 100000 in
theorem W_Query_isFull_code : (Jvm.Cond.code ({ cls := "MailQueries$Query", name := "isFull", desc := "()Z" } : Jvm.MethodName) prog_5_method_4_code (1 : Nat) (Option.some Jvm.ClassFile.FieldType.boolean)) ∈ TBL := TBL_in (List.mem_of_getElem? (i := 777) rfl) rfl
theorem W_Query_isFull_in : (Jvm.Cond.instanceMethod ({ cls := "MailQueries$Query", name := "isFull", desc := "()Z" } : Jvm.MethodName)) ∈ TBL := TBL_in (List.mem_of_getElem? (i := 775) (by decide +kernel)) (by decide +kernel)
theorem W_Query_isFull_se : (Jvm.Cond.selects "MailQueries$Query" ({ cls := "MailQueries$Query", name := "isFull", desc := "()Z" } : Jvm.MethodName) ({ cls := "MailQueries$Query", name := "isFull", desc := "()Z" } : Jvm.MethodName)) ∈ TBL := TBL_in (List.mem_of_getElem? (i := 776) (by decide +kernel)) (by decide +kernel)
theorem L_Query_15 : (Jvm.Cond.fieldLink "MailQueries$Query" (15 : Nat) "MailQueries$Query" "length" "I") ∈ TBL := TBL_in (List.mem_of_getElem? (i := 137) (by decide +kernel)) (by decide +kernel)
theorem L_Query_9 : (Jvm.Cond.fieldLink "MailQueries$Query" (9 : Nat) "MailQueries$Query" "text" "[C") ∈ TBL := TBL_in (List.mem_of_getElem? (i := 135) (by decide +kernel)) (by decide +kernel)
set_option maxRecDepth 100000 in
theorem W_Query_byteAt_code : (Jvm.Cond.code ({ cls := "MailQueries$Query", name := "byteAt", desc := "(I)I" } : Jvm.MethodName) prog_5_method_5_code (2 : Nat) (Option.some Jvm.ClassFile.FieldType.int)) ∈ TBL := TBL_in (List.mem_of_getElem? (i := 406) rfl) rfl
theorem W_Query_byteAt_in : (Jvm.Cond.instanceMethod ({ cls := "MailQueries$Query", name := "byteAt", desc := "(I)I" } : Jvm.MethodName)) ∈ TBL := TBL_in (List.mem_of_getElem? (i := 404) (by decide +kernel)) (by decide +kernel)
theorem W_Query_byteAt_se : (Jvm.Cond.selects "MailQueries$Query" ({ cls := "MailQueries$Query", name := "byteAt", desc := "(I)I" } : Jvm.MethodName) ({ cls := "MailQueries$Query", name := "byteAt", desc := "(I)I" } : Jvm.MethodName)) ∈ TBL := TBL_in (List.mem_of_getElem? (i := 405) (by decide +kernel)) (by decide +kernel)
theorem L_Query_54 : (Jvm.Cond.fieldLink "MailQueries$Query" (54 : Nat) "MailQueries$Query" "treeSize" "I") ∈ TBL := TBL_in (List.mem_of_getElem? (i := 165) (by decide +kernel)) (by decide +kernel)
theorem L_Query_51 : (Jvm.Cond.fieldLink "MailQueries$Query" (51 : Nat) "MailQueries$Query" "entries" "[I") ∈ TBL := TBL_in (List.mem_of_getElem? (i := 164) (by decide +kernel)) (by decide +kernel)
set_option maxRecDepth 100000 in
theorem W_Query_entryAt_code : (Jvm.Cond.code ({ cls := "MailQueries$Query", name := "entryAt", desc := "(I)I" } : Jvm.MethodName) prog_5_method_6_code (2 : Nat) (Option.some Jvm.ClassFile.FieldType.int)) ∈ TBL := TBL_in (List.mem_of_getElem? (i := 418) rfl) rfl
theorem W_Query_entryAt_in : (Jvm.Cond.instanceMethod ({ cls := "MailQueries$Query", name := "entryAt", desc := "(I)I" } : Jvm.MethodName)) ∈ TBL := TBL_in (List.mem_of_getElem? (i := 416) (by decide +kernel)) (by decide +kernel)
theorem W_Query_entryAt_se : (Jvm.Cond.selects "MailQueries$Query" ({ cls := "MailQueries$Query", name := "entryAt", desc := "(I)I" } : Jvm.MethodName) ({ cls := "MailQueries$Query", name := "entryAt", desc := "(I)I" } : Jvm.MethodName)) ∈ TBL := TBL_in (List.mem_of_getElem? (i := 417) (by decide +kernel)) (by decide +kernel)
theorem L_Query_72 : (Jvm.Cond.methodLink "MailQueries$Query" (72 : Nat) ({ cls := "MailQueries$Query", name := "byteAt", desc := "(I)I" } : Jvm.MethodName)) ∈ TBL := TBL_in (List.mem_of_getElem? (i := 764) (by decide +kernel)) (by decide +kernel)
set_option maxRecDepth 100000 in
theorem W_Query_find_code : (Jvm.Cond.code ({ cls := "MailQueries$Query", name := "find", desc := "(III)I" } : Jvm.MethodName) prog_5_method_7_code (5 : Nat) (Option.some Jvm.ClassFile.FieldType.int)) ∈ TBL := TBL_in (List.mem_of_getElem? (i := 781) rfl) rfl
theorem W_Query_find_in : (Jvm.Cond.instanceMethod ({ cls := "MailQueries$Query", name := "find", desc := "(III)I" } : Jvm.MethodName)) ∈ TBL := TBL_in (List.mem_of_getElem? (i := 779) (by decide +kernel)) (by decide +kernel)
theorem W_Query_find_se : (Jvm.Cond.selects "MailQueries$Query" ({ cls := "MailQueries$Query", name := "find", desc := "(III)I" } : Jvm.MethodName) ({ cls := "MailQueries$Query", name := "find", desc := "(III)I" } : Jvm.MethodName)) ∈ TBL := TBL_in (List.mem_of_getElem? (i := 780) (by decide +kernel)) (by decide +kernel)
theorem L_Query_66 : (Jvm.Cond.methodLink "MailQueries$Query" (66 : Nat) ({ cls := "java/lang/System", name := "arraycopy", desc := "(Ljava/lang/Object;ILjava/lang/Object;II)V" } : Jvm.MethodName)) ∈ TBL := TBL_in (List.mem_of_getElem? (i := 691) (by decide +kernel)) (by decide +kernel)
set_option maxRecDepth 100000 in
theorem W_Query_insert_code : (Jvm.Cond.code ({ cls := "MailQueries$Query", name := "insert", desc := "(II)V" } : Jvm.MethodName) prog_5_method_9_code (3 : Nat) (Option.none : Option Jvm.ClassFile.FieldType)) ∈ TBL := TBL_in (List.mem_of_getElem? (i := 739) rfl) rfl
theorem W_Query_insert_in : (Jvm.Cond.instanceMethod ({ cls := "MailQueries$Query", name := "insert", desc := "(II)V" } : Jvm.MethodName)) ∈ TBL := TBL_in (List.mem_of_getElem? (i := 737) (by decide +kernel)) (by decide +kernel)
theorem W_Query_insert_se : (Jvm.Cond.selects "MailQueries$Query" ({ cls := "MailQueries$Query", name := "insert", desc := "(II)V" } : Jvm.MethodName) ({ cls := "MailQueries$Query", name := "insert", desc := "(II)V" } : Jvm.MethodName)) ∈ TBL := TBL_in (List.mem_of_getElem? (i := 738) (by decide +kernel)) (by decide +kernel)
theorem L_Query_85 : (Jvm.Cond.methodLink "MailQueries$Query" (85 : Nat) ({ cls := "MailQueries$Query", name := "insert", desc := "(II)V" } : Jvm.MethodName)) ∈ TBL := TBL_in (List.mem_of_getElem? (i := 866) (by decide +kernel)) (by decide +kernel)
set_option maxRecDepth 100000 in
theorem W_Query_append_code : (Jvm.Cond.code ({ cls := "MailQueries$Query", name := "append", desc := "(I)V" } : Jvm.MethodName) prog_5_method_10_code (2 : Nat) (Option.none : Option Jvm.ClassFile.FieldType)) ∈ TBL := TBL_in (List.mem_of_getElem? (i := 865) rfl) rfl
theorem W_Query_append_in : (Jvm.Cond.instanceMethod ({ cls := "MailQueries$Query", name := "append", desc := "(I)V" } : Jvm.MethodName)) ∈ TBL := TBL_in (List.mem_of_getElem? (i := 863) (by decide +kernel)) (by decide +kernel)
theorem W_Query_append_se : (Jvm.Cond.selects "MailQueries$Query" ({ cls := "MailQueries$Query", name := "append", desc := "(I)V" } : Jvm.MethodName) ({ cls := "MailQueries$Query", name := "append", desc := "(I)V" } : Jvm.MethodName)) ∈ TBL := TBL_in (List.mem_of_getElem? (i := 864) (by decide +kernel)) (by decide +kernel)
def y_Pile_clear : MethodName := ⟨"MailQueries$Pile", "clear", "()V"⟩
def rm_Pile_clear : Room := { frames := 0, cells := 0, slots := 0, locals := 0 }
theorem d_Pile_clear_0 : decode prog_3_method_2_code 0 = .ok (.aload_n 0, 1) := by decide +kernel
theorem d_Pile_clear_1 : decode prog_3_method_2_code 1 = .ok (.iconst 0, 1) := by decide +kernel
theorem d_Pile_clear_2 : decode prog_3_method_2_code 2 = .ok (.putfield 7, 3) := by decide +kernel
theorem d_Pile_clear_5 : decode prog_3_method_2_code 5 = .ok (.return_, 1) := by decide +kernel
def y_Pile_isEmpty : MethodName := ⟨"MailQueries$Pile", "isEmpty", "()Z"⟩
def rm_Pile_isEmpty : Room := { frames := 0, cells := 0, slots := 0, locals := 0 }
theorem d_Pile_isEmpty_0 : decode prog_3_method_3_code 0 = .ok (.aload_n 0, 1) := by decide +kernel
theorem d_Pile_isEmpty_1 : decode prog_3_method_3_code 1 = .ok (.getfield 7, 3) := by decide +kernel
theorem d_Pile_isEmpty_4 : decode prog_3_method_3_code 4 = .ok (.ifCond .ne 7, 3) := by decide +kernel
theorem d_Pile_isEmpty_7 : decode prog_3_method_3_code 7 = .ok (.iconst 1, 1) := by decide +kernel
theorem d_Pile_isEmpty_8 : decode prog_3_method_3_code 8 = .ok (.goto 4, 3) := by decide +kernel
theorem d_Pile_isEmpty_11 : decode prog_3_method_3_code 11 = .ok (.iconst 0, 1) := by decide +kernel
theorem d_Pile_isEmpty_12 : decode prog_3_method_3_code 12 = .ok (.ireturn, 1) := by decide +kernel
def y_Pile_push : MethodName := ⟨"MailQueries$Pile", "push", "(J)V"⟩
def rm_Pile_push : Room := { frames := 0, cells := 0, slots := 0, locals := 0 }
theorem d_Pile_push_0 : decode prog_3_method_4_code 0 = .ok (.aload_n 0, 1) := by decide +kernel
theorem d_Pile_push_1 : decode prog_3_method_4_code 1 = .ok (.getfield 7, 3) := by decide +kernel
theorem d_Pile_push_4 : decode prog_3_method_4_code 4 = .ok (.aload_n 0, 1) := by decide +kernel
theorem d_Pile_push_5 : decode prog_3_method_4_code 5 = .ok (.getfield 13, 3) := by decide +kernel
theorem d_Pile_push_8 : decode prog_3_method_4_code 8 = .ok (.arraylength, 1) := by decide +kernel
theorem d_Pile_push_9 : decode prog_3_method_4_code 9 = .ok (.if_icmp .ge 23, 3) := by decide +kernel
theorem d_Pile_push_12 : decode prog_3_method_4_code 12 = .ok (.aload_n 0, 1) := by decide +kernel
theorem d_Pile_push_13 : decode prog_3_method_4_code 13 = .ok (.getfield 13, 3) := by decide +kernel
theorem d_Pile_push_16 : decode prog_3_method_4_code 16 = .ok (.aload_n 0, 1) := by decide +kernel
theorem d_Pile_push_17 : decode prog_3_method_4_code 17 = .ok (.getfield 7, 3) := by decide +kernel
theorem d_Pile_push_20 : decode prog_3_method_4_code 20 = .ok (.lload_n 1, 1) := by decide +kernel
theorem d_Pile_push_21 : decode prog_3_method_4_code 21 = .ok (.lastore, 1) := by decide +kernel
theorem d_Pile_push_22 : decode prog_3_method_4_code 22 = .ok (.aload_n 0, 1) := by decide +kernel
theorem d_Pile_push_23 : decode prog_3_method_4_code 23 = .ok (.dup, 1) := by decide +kernel
theorem d_Pile_push_24 : decode prog_3_method_4_code 24 = .ok (.getfield 7, 3) := by decide +kernel
theorem d_Pile_push_27 : decode prog_3_method_4_code 27 = .ok (.iconst 1, 1) := by decide +kernel
theorem d_Pile_push_28 : decode prog_3_method_4_code 28 = .ok (.iadd, 1) := by decide +kernel
theorem d_Pile_push_29 : decode prog_3_method_4_code 29 = .ok (.putfield 7, 3) := by decide +kernel
theorem d_Pile_push_32 : decode prog_3_method_4_code 32 = .ok (.return_, 1) := by decide +kernel
def y_Pile_pop : MethodName := ⟨"MailQueries$Pile", "pop", "()J"⟩
def rm_Pile_pop : Room := { frames := 0, cells := 0, slots := 0, locals := 0 }
theorem d_Pile_pop_0 : decode prog_3_method_5_code 0 = .ok (.aload_n 0, 1) := by decide +kernel
theorem d_Pile_pop_1 : decode prog_3_method_5_code 1 = .ok (.getfield 7, 3) := by decide +kernel
theorem d_Pile_pop_4 : decode prog_3_method_5_code 4 = .ok (.ifCond .gt 5, 3) := by decide +kernel
theorem d_Pile_pop_7 : decode prog_3_method_5_code 7 = .ok (.lconst 0, 1) := by decide +kernel
theorem d_Pile_pop_8 : decode prog_3_method_5_code 8 = .ok (.lreturn, 1) := by decide +kernel
theorem d_Pile_pop_9 : decode prog_3_method_5_code 9 = .ok (.aload_n 0, 1) := by decide +kernel
theorem d_Pile_pop_10 : decode prog_3_method_5_code 10 = .ok (.dup, 1) := by decide +kernel
theorem d_Pile_pop_11 : decode prog_3_method_5_code 11 = .ok (.getfield 7, 3) := by decide +kernel
theorem d_Pile_pop_14 : decode prog_3_method_5_code 14 = .ok (.iconst 1, 1) := by decide +kernel
theorem d_Pile_pop_15 : decode prog_3_method_5_code 15 = .ok (.isub, 1) := by decide +kernel
theorem d_Pile_pop_16 : decode prog_3_method_5_code 16 = .ok (.putfield 7, 3) := by decide +kernel
theorem d_Pile_pop_19 : decode prog_3_method_5_code 19 = .ok (.aload_n 0, 1) := by decide +kernel
theorem d_Pile_pop_20 : decode prog_3_method_5_code 20 = .ok (.getfield 13, 3) := by decide +kernel
theorem d_Pile_pop_23 : decode prog_3_method_5_code 23 = .ok (.aload_n 0, 1) := by decide +kernel
theorem d_Pile_pop_24 : decode prog_3_method_5_code 24 = .ok (.getfield 7, 3) := by decide +kernel
theorem d_Pile_pop_27 : decode prog_3_method_5_code 27 = .ok (.laload, 1) := by decide +kernel
theorem d_Pile_pop_28 : decode prog_3_method_5_code 28 = .ok (.lreturn, 1) := by decide +kernel
def y_Query_has : MethodName := ⟨"MailQueries$Query", "has", "(I)Z"⟩
def rm_Query_has : Room := { frames := 0, cells := 0, slots := 0, locals := 0 }
theorem d_Query_has_0 : decode prog_5_method_3_code 0 = .ok (.iload_n 1, 1) := by decide +kernel
theorem d_Query_has_1 : decode prog_5_method_3_code 1 = .ok (.ifCond .lt 15, 3) := by decide +kernel
theorem d_Query_has_4 : decode prog_5_method_3_code 4 = .ok (.iload_n 1, 1) := by decide +kernel
theorem d_Query_has_5 : decode prog_5_method_3_code 5 = .ok (.aload_n 0, 1) := by decide +kernel
theorem d_Query_has_6 : decode prog_5_method_3_code 6 = .ok (.getfield 22, 3) := by decide +kernel
theorem d_Query_has_9 : decode prog_5_method_3_code 9 = .ok (.if_icmp .ge 7, 3) := by decide +kernel
theorem d_Query_has_12 : decode prog_5_method_3_code 12 = .ok (.iconst 1, 1) := by decide +kernel
theorem d_Query_has_13 : decode prog_5_method_3_code 13 = .ok (.goto 4, 3) := by decide +kernel
theorem d_Query_has_16 : decode prog_5_method_3_code 16 = .ok (.iconst 0, 1) := by decide +kernel
theorem d_Query_has_17 : decode prog_5_method_3_code 17 = .ok (.ireturn, 1) := by decide +kernel
def y_Query_isFull : MethodName := ⟨"MailQueries$Query", "isFull", "()Z"⟩
def rm_Query_isFull : Room := { frames := 0, cells := 0, slots := 0, locals := 0 }
theorem d_Query_isFull_0 : decode prog_5_method_4_code 0 = .ok (.aload_n 0, 1) := by decide +kernel
theorem d_Query_isFull_1 : decode prog_5_method_4_code 1 = .ok (.getfield 19, 3) := by decide +kernel
theorem d_Query_isFull_4 : decode prog_5_method_4_code 4 = .ok (.bipush 40, 2) := by decide +kernel
theorem d_Query_isFull_6 : decode prog_5_method_4_code 6 = .ok (.if_icmp .lt 7, 3) := by decide +kernel
theorem d_Query_isFull_9 : decode prog_5_method_4_code 9 = .ok (.iconst 1, 1) := by decide +kernel
theorem d_Query_isFull_10 : decode prog_5_method_4_code 10 = .ok (.goto 4, 3) := by decide +kernel
theorem d_Query_isFull_13 : decode prog_5_method_4_code 13 = .ok (.iconst 0, 1) := by decide +kernel
theorem d_Query_isFull_14 : decode prog_5_method_4_code 14 = .ok (.ireturn, 1) := by decide +kernel
def y_Query_byteAt : MethodName := ⟨"MailQueries$Query", "byteAt", "(I)I"⟩
def rm_Query_byteAt : Room := { frames := 0, cells := 0, slots := 0, locals := 0 }
theorem d_Query_byteAt_0 : decode prog_5_method_5_code 0 = .ok (.iload_n 1, 1) := by decide +kernel
theorem d_Query_byteAt_1 : decode prog_5_method_5_code 1 = .ok (.ifCond .lt 20, 3) := by decide +kernel
theorem d_Query_byteAt_4 : decode prog_5_method_5_code 4 = .ok (.iload_n 1, 1) := by decide +kernel
theorem d_Query_byteAt_5 : decode prog_5_method_5_code 5 = .ok (.aload_n 0, 1) := by decide +kernel
theorem d_Query_byteAt_6 : decode prog_5_method_5_code 6 = .ok (.getfield 15, 3) := by decide +kernel
theorem d_Query_byteAt_9 : decode prog_5_method_5_code 9 = .ok (.if_icmp .ge 12, 3) := by decide +kernel
theorem d_Query_byteAt_12 : decode prog_5_method_5_code 12 = .ok (.aload_n 0, 1) := by decide +kernel
theorem d_Query_byteAt_13 : decode prog_5_method_5_code 13 = .ok (.getfield 9, 3) := by decide +kernel
theorem d_Query_byteAt_16 : decode prog_5_method_5_code 16 = .ok (.iload_n 1, 1) := by decide +kernel
theorem d_Query_byteAt_17 : decode prog_5_method_5_code 17 = .ok (.caload, 1) := by decide +kernel
theorem d_Query_byteAt_18 : decode prog_5_method_5_code 18 = .ok (.goto 4, 3) := by decide +kernel
theorem d_Query_byteAt_21 : decode prog_5_method_5_code 21 = .ok (.iconst (-1), 1) := by decide +kernel
theorem d_Query_byteAt_22 : decode prog_5_method_5_code 22 = .ok (.ireturn, 1) := by decide +kernel
def y_Query_entryAt : MethodName := ⟨"MailQueries$Query", "entryAt", "(I)I"⟩
def rm_Query_entryAt : Room := { frames := 0, cells := 0, slots := 0, locals := 0 }
theorem d_Query_entryAt_0 : decode prog_5_method_6_code 0 = .ok (.iload_n 1, 1) := by decide +kernel
theorem d_Query_entryAt_1 : decode prog_5_method_6_code 1 = .ok (.ifCond .lt 20, 3) := by decide +kernel
theorem d_Query_entryAt_4 : decode prog_5_method_6_code 4 = .ok (.iload_n 1, 1) := by decide +kernel
theorem d_Query_entryAt_5 : decode prog_5_method_6_code 5 = .ok (.aload_n 0, 1) := by decide +kernel
theorem d_Query_entryAt_6 : decode prog_5_method_6_code 6 = .ok (.getfield 54, 3) := by decide +kernel
theorem d_Query_entryAt_9 : decode prog_5_method_6_code 9 = .ok (.if_icmp .ge 12, 3) := by decide +kernel
theorem d_Query_entryAt_12 : decode prog_5_method_6_code 12 = .ok (.aload_n 0, 1) := by decide +kernel
theorem d_Query_entryAt_13 : decode prog_5_method_6_code 13 = .ok (.getfield 51, 3) := by decide +kernel
theorem d_Query_entryAt_16 : decode prog_5_method_6_code 16 = .ok (.iload_n 1, 1) := by decide +kernel
theorem d_Query_entryAt_17 : decode prog_5_method_6_code 17 = .ok (.iaload, 1) := by decide +kernel
theorem d_Query_entryAt_18 : decode prog_5_method_6_code 18 = .ok (.goto 4, 3) := by decide +kernel
theorem d_Query_entryAt_21 : decode prog_5_method_6_code 21 = .ok (.iconst (-1), 1) := by decide +kernel
theorem d_Query_entryAt_22 : decode prog_5_method_6_code 22 = .ok (.ireturn, 1) := by decide +kernel
def y_Query_find : MethodName := ⟨"MailQueries$Query", "find", "(III)I"⟩
def rm_Query_find : Room := { frames := 1, cells := 0, slots := 0, locals := 21 }
theorem d_Query_find_0 : decode prog_5_method_7_code 0 = .ok (.iload_n 2, 1) := by decide +kernel
theorem d_Query_find_1 : decode prog_5_method_7_code 1 = .ok (.istore 4, 2) := by decide +kernel
theorem d_Query_find_3 : decode prog_5_method_7_code 3 = .ok (.iload 4, 2) := by decide +kernel
theorem d_Query_find_5 : decode prog_5_method_7_code 5 = .ok (.iload_n 3, 1) := by decide +kernel
theorem d_Query_find_6 : decode prog_5_method_7_code 6 = .ok (.if_icmp .ge 22, 3) := by decide +kernel
theorem d_Query_find_9 : decode prog_5_method_7_code 9 = .ok (.aload_n 0, 1) := by decide +kernel
theorem d_Query_find_10 : decode prog_5_method_7_code 10 = .ok (.iload 4, 2) := by decide +kernel
theorem d_Query_find_12 : decode prog_5_method_7_code 12 = .ok (.invokevirtual 72, 3) := by decide +kernel
theorem d_Query_find_15 : decode prog_5_method_7_code 15 = .ok (.iload_n 1, 1) := by decide +kernel
theorem d_Query_find_16 : decode prog_5_method_7_code 16 = .ok (.if_icmp .ne 6, 3) := by decide +kernel
theorem d_Query_find_19 : decode prog_5_method_7_code 19 = .ok (.iload 4, 2) := by decide +kernel
theorem d_Query_find_21 : decode prog_5_method_7_code 21 = .ok (.ireturn, 1) := by decide +kernel
theorem d_Query_find_22 : decode prog_5_method_7_code 22 = .ok (.iinc 4 1, 3) := by decide +kernel
theorem d_Query_find_25 : decode prog_5_method_7_code 25 = .ok (.goto (-22), 3) := by decide +kernel
theorem d_Query_find_28 : decode prog_5_method_7_code 28 = .ok (.iconst (-1), 1) := by decide +kernel
theorem d_Query_find_29 : decode prog_5_method_7_code 29 = .ok (.ireturn, 1) := by decide +kernel
def y_Query_insert : MethodName := ⟨"MailQueries$Query", "insert", "(II)V"⟩
def rm_Query_insert : Room := { frames := 1, cells := 0, slots := 0, locals := 40 }
theorem d_Query_insert_0 : decode prog_5_method_9_code 0 = .ok (.iload_n 1, 1) := by decide +kernel
theorem d_Query_insert_1 : decode prog_5_method_9_code 1 = .ok (.ifCond .lt 23, 3) := by decide +kernel
theorem d_Query_insert_4 : decode prog_5_method_9_code 4 = .ok (.iload_n 1, 1) := by decide +kernel
theorem d_Query_insert_5 : decode prog_5_method_9_code 5 = .ok (.aload_n 0, 1) := by decide +kernel
theorem d_Query_insert_6 : decode prog_5_method_9_code 6 = .ok (.getfield 54, 3) := by decide +kernel
theorem d_Query_insert_9 : decode prog_5_method_9_code 9 = .ok (.if_icmp .gt 15, 3) := by decide +kernel
theorem d_Query_insert_12 : decode prog_5_method_9_code 12 = .ok (.aload_n 0, 1) := by decide +kernel
theorem d_Query_insert_13 : decode prog_5_method_9_code 13 = .ok (.getfield 54, 3) := by decide +kernel
theorem d_Query_insert_16 : decode prog_5_method_9_code 16 = .ok (.aload_n 0, 1) := by decide +kernel
theorem d_Query_insert_17 : decode prog_5_method_9_code 17 = .ok (.getfield 51, 3) := by decide +kernel
theorem d_Query_insert_20 : decode prog_5_method_9_code 20 = .ok (.arraylength, 1) := by decide +kernel
theorem d_Query_insert_21 : decode prog_5_method_9_code 21 = .ok (.if_icmp .lt 4, 3) := by decide +kernel
theorem d_Query_insert_24 : decode prog_5_method_9_code 24 = .ok (.return_, 1) := by decide +kernel
theorem d_Query_insert_25 : decode prog_5_method_9_code 25 = .ok (.aload_n 0, 1) := by decide +kernel
theorem d_Query_insert_26 : decode prog_5_method_9_code 26 = .ok (.getfield 51, 3) := by decide +kernel
theorem d_Query_insert_29 : decode prog_5_method_9_code 29 = .ok (.iload_n 1, 1) := by decide +kernel
theorem d_Query_insert_30 : decode prog_5_method_9_code 30 = .ok (.aload_n 0, 1) := by decide +kernel
theorem d_Query_insert_31 : decode prog_5_method_9_code 31 = .ok (.getfield 51, 3) := by decide +kernel
theorem d_Query_insert_34 : decode prog_5_method_9_code 34 = .ok (.iload_n 1, 1) := by decide +kernel
theorem d_Query_insert_35 : decode prog_5_method_9_code 35 = .ok (.iconst 1, 1) := by decide +kernel
theorem d_Query_insert_36 : decode prog_5_method_9_code 36 = .ok (.iadd, 1) := by decide +kernel
theorem d_Query_insert_37 : decode prog_5_method_9_code 37 = .ok (.aload_n 0, 1) := by decide +kernel
theorem d_Query_insert_38 : decode prog_5_method_9_code 38 = .ok (.getfield 54, 3) := by decide +kernel
theorem d_Query_insert_41 : decode prog_5_method_9_code 41 = .ok (.iload_n 1, 1) := by decide +kernel
theorem d_Query_insert_42 : decode prog_5_method_9_code 42 = .ok (.isub, 1) := by decide +kernel
theorem d_Query_insert_43 : decode prog_5_method_9_code 43 = .ok (.invokestatic 66, 3) := by decide +kernel
theorem d_Query_insert_46 : decode prog_5_method_9_code 46 = .ok (.aload_n 0, 1) := by decide +kernel
theorem d_Query_insert_47 : decode prog_5_method_9_code 47 = .ok (.getfield 51, 3) := by decide +kernel
theorem d_Query_insert_50 : decode prog_5_method_9_code 50 = .ok (.iload_n 1, 1) := by decide +kernel
theorem d_Query_insert_51 : decode prog_5_method_9_code 51 = .ok (.iload_n 2, 1) := by decide +kernel
theorem d_Query_insert_52 : decode prog_5_method_9_code 52 = .ok (.iastore, 1) := by decide +kernel
theorem d_Query_insert_53 : decode prog_5_method_9_code 53 = .ok (.aload_n 0, 1) := by decide +kernel
theorem d_Query_insert_54 : decode prog_5_method_9_code 54 = .ok (.dup, 1) := by decide +kernel
theorem d_Query_insert_55 : decode prog_5_method_9_code 55 = .ok (.getfield 54, 3) := by decide +kernel
theorem d_Query_insert_58 : decode prog_5_method_9_code 58 = .ok (.iconst 1, 1) := by decide +kernel
theorem d_Query_insert_59 : decode prog_5_method_9_code 59 = .ok (.iadd, 1) := by decide +kernel
theorem d_Query_insert_60 : decode prog_5_method_9_code 60 = .ok (.putfield 54, 3) := by decide +kernel
theorem d_Query_insert_63 : decode prog_5_method_9_code 63 = .ok (.return_, 1) := by decide +kernel
def y_Query_append : MethodName := ⟨"MailQueries$Query", "append", "(I)V"⟩
def rm_Query_append : Room := { frames := 2, cells := 0, slots := 0, locals := 62 }
theorem d_Query_append_0 : decode prog_5_method_10_code 0 = .ok (.aload_n 0, 1) := by decide +kernel
theorem d_Query_append_1 : decode prog_5_method_10_code 1 = .ok (.aload_n 0, 1) := by decide +kernel
theorem d_Query_append_2 : decode prog_5_method_10_code 2 = .ok (.getfield 54, 3) := by decide +kernel
theorem d_Query_append_5 : decode prog_5_method_10_code 5 = .ok (.iload_n 1, 1) := by decide +kernel
theorem d_Query_append_6 : decode prog_5_method_10_code 6 = .ok (.invokevirtual 85, 3) := by decide +kernel
theorem d_Query_append_9 : decode prog_5_method_10_code 9 = .ok (.return_, 1) := by decide +kernel
