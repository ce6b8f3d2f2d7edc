theorem L_MQ_9 : (Jvm.Cond.fieldLink "MailQueries" (9 : Nat) "MailQueries" "ready" "[C") ∈ TBL := TBL_in (List.mem_of_getElem? (i := 345) (by decide +kernel)) (by decide +kernel)
set_option maxRecDepth 100000 in
theorem W_MQ_makeReady_code : (Jvm.Cond.code ({ cls := "MailQueries", name := "makeReady", desc := "(II)V" } : Jvm.MethodName) prog_1_method_3_code (5 : Nat) (Option.none : Option Jvm.ClassFile.FieldType)) ∈ TBL := TBL_in (List.mem_of_getElem? (i := 377) rfl) rfl
theorem W_MQ_makeReady_in : (Jvm.Cond.instanceMethod ({ cls := "MailQueries", name := "makeReady", desc := "(II)V" } : Jvm.MethodName)) ∈ TBL := TBL_in (List.mem_of_getElem? (i := 376) (by decide +kernel)) (by decide +kernel)
theorem sel_0 : Cond.selects "MailQueries" ⟨"MailQueries", "makeReady", "(II)V"⟩ ⟨"MailQueries", "makeReady", "(II)V"⟩ ∈ TBL := TBL_in (List.mem_of_getElem? (i := 0) (by decide +kernel)) (by decide +kernel)
theorem L_MQ_55 : (Jvm.Cond.methodLink "MailQueries" (55 : Nat) ({ cls := "MailQueries", name := "makeReady", desc := "(II)V" } : Jvm.MethodName)) ∈ TBL := TBL_in (List.mem_of_getElem? (i := 374) (by decide +kernel)) (by decide +kernel)
set_option maxRecDepth 100000 in
theorem W_MQ_feed_code : (Jvm.Cond.code ({ cls := "MailQueries", name := "feed", desc := "(IIIII)V" } : Jvm.MethodName) prog_1_method_2_code (6 : Nat) (Option.none : Option Jvm.ClassFile.FieldType)) ∈ TBL := TBL_in (List.mem_of_getElem? (i := 373) rfl) rfl
theorem W_MQ_feed_in : (Jvm.Cond.instanceMethod ({ cls := "MailQueries", name := "feed", desc := "(IIIII)V" } : Jvm.MethodName)) ∈ TBL := TBL_in (List.mem_of_getElem? (i := 371) (by decide +kernel)) (by decide +kernel)
theorem W_MQ_feed_se : (Jvm.Cond.selects "MailQueries" ({ cls := "MailQueries", name := "feed", desc := "(IIIII)V" } : Jvm.MethodName) ({ cls := "MailQueries", name := "feed", desc := "(IIIII)V" } : Jvm.MethodName)) ∈ TBL := TBL_in (List.mem_of_getElem? (i := 372) (by decide +kernel)) (by decide +kernel)
theorem L_MQ_16 : (Jvm.Cond.fieldLink "MailQueries" (16 : Nat) "MailQueries" "handLength" "I") ∈ TBL := TBL_in (List.mem_of_getElem? (i := 347) (by decide +kernel)) (by decide +kernel)
theorem L_MQ_13 : (Jvm.Cond.fieldLink "MailQueries" (13 : Nat) "MailQueries" "hand" "[C") ∈ TBL := TBL_in (List.mem_of_getElem? (i := 346) (by decide +kernel)) (by decide +kernel)
theorem L_MQ_59 : (Jvm.Cond.methodLink "MailQueries" (59 : Nat) ({ cls := "java/lang/System", name := "arraycopy", desc := "(Ljava/lang/Object;ILjava/lang/Object;II)V" } : Jvm.MethodName)) ∈ TBL := TBL_in (List.mem_of_getElem? (i := 382) (by decide +kernel)) (by decide +kernel)
theorem L_MQ_65 : (Jvm.Cond.methodLink "MailQueries" (65 : Nat) ({ cls := "MailQueries", name := "feed", desc := "(IIIII)V" } : Jvm.MethodName)) ∈ TBL := TBL_in (List.mem_of_getElem? (i := 385) (by decide +kernel)) (by decide +kernel)
set_option maxRecDepth 100000 in
theorem W_MQ_end_code : (Jvm.Cond.code ({ cls := "MailQueries", name := "end", desc := "(I)I" } : Jvm.MethodName) prog_1_method_4_code (2 : Nat) (Option.some Jvm.ClassFile.FieldType.int)) ∈ TBL := TBL_in (List.mem_of_getElem? (i := 381) rfl) rfl
theorem W_MQ_end_in : (Jvm.Cond.instanceMethod ({ cls := "MailQueries", name := "end", desc := "(I)I" } : Jvm.MethodName)) ∈ TBL := TBL_in (List.mem_of_getElem? (i := 379) (by decide +kernel)) (by decide +kernel)
theorem W_MQ_end_se : (Jvm.Cond.selects "MailQueries" ({ cls := "MailQueries", name := "end", desc := "(I)I" } : Jvm.MethodName) ({ cls := "MailQueries", name := "end", desc := "(I)I" } : Jvm.MethodName)) ∈ TBL := TBL_in (List.mem_of_getElem? (i := 380) (by decide +kernel)) (by decide +kernel)
theorem L_MQ_30 : (Jvm.Cond.fieldLink "MailQueries" (30 : Nat) "MailQueries" "reader" "LMailQueries$Reader;") ∈ TBL := TBL_in (List.mem_of_getElem? (i := 349) (by decide +kernel)) (by decide +kernel)
set_option maxRecDepth 100000 in
theorem W_MQ_fault_code : (Jvm.Cond.code ({ cls := "MailQueries", name := "fault", desc := "(I)I" } : Jvm.MethodName) prog_1_method_6_code (2 : Nat) (Option.some Jvm.ClassFile.FieldType.int)) ∈ TBL := TBL_in (List.mem_of_getElem? (i := 389) rfl) rfl
theorem W_MQ_fault_in : (Jvm.Cond.instanceMethod ({ cls := "MailQueries", name := "fault", desc := "(I)I" } : Jvm.MethodName)) ∈ TBL := TBL_in (List.mem_of_getElem? (i := 387) (by decide +kernel)) (by decide +kernel)
theorem W_MQ_fault_se : (Jvm.Cond.selects "MailQueries" ({ cls := "MailQueries", name := "fault", desc := "(I)I" } : Jvm.MethodName) ({ cls := "MailQueries", name := "fault", desc := "(I)I" } : Jvm.MethodName)) ∈ TBL := TBL_in (List.mem_of_getElem? (i := 388) (by decide +kernel)) (by decide +kernel)
theorem L_MQ_23 : (Jvm.Cond.fieldLink "MailQueries" (23 : Nat) "MailQueries" "query" "LMailQueries$Query;") ∈ TBL := TBL_in (List.mem_of_getElem? (i := 348) (by decide +kernel)) (by decide +kernel)
theorem L_MQ_93 : (Jvm.Cond.methodLink "MailQueries" (93 : Nat) ({ cls := "MailQueries$Query", name := "has", desc := "(I)Z" } : Jvm.MethodName)) ∈ TBL := TBL_in (List.mem_of_getElem? (i := 394) (by decide +kernel)) (by decide +kernel)
set_option maxRecDepth 100000 in
theorem W_MQ_atom_code : (Jvm.Cond.code ({ cls := "MailQueries", name := "atom", desc := "(II)I" } : Jvm.MethodName) prog_1_method_7_code (3 : Nat) (Option.some Jvm.ClassFile.FieldType.int)) ∈ TBL := TBL_in (List.mem_of_getElem? (i := 393) rfl) rfl
theorem W_MQ_atom_in : (Jvm.Cond.instanceMethod ({ cls := "MailQueries", name := "atom", desc := "(II)I" } : Jvm.MethodName)) ∈ TBL := TBL_in (List.mem_of_getElem? (i := 391) (by decide +kernel)) (by decide +kernel)
theorem W_MQ_atom_se : (Jvm.Cond.selects "MailQueries" ({ cls := "MailQueries", name := "atom", desc := "(II)I" } : Jvm.MethodName) ({ cls := "MailQueries", name := "atom", desc := "(II)I" } : Jvm.MethodName)) ∈ TBL := TBL_in (List.mem_of_getElem? (i := 392) (by decide +kernel)) (by decide +kernel)
theorem L_MQ_117 : (Jvm.Cond.methodLink "MailQueries" (117 : Nat) ({ cls := "MailQueries$Query", name := "byteAt", desc := "(I)I" } : Jvm.MethodName)) ∈ TBL := TBL_in (List.mem_of_getElem? (i := 402) (by decide +kernel)) (by decide +kernel)
set_option maxRecDepth 100000 in
theorem W_MQ_atomByte_code : (Jvm.Cond.code ({ cls := "MailQueries", name := "atomByte", desc := "(II)I" } : Jvm.MethodName) prog_1_method_8_code (3 : Nat) (Option.some Jvm.ClassFile.FieldType.int)) ∈ TBL := TBL_in (List.mem_of_getElem? (i := 401) rfl) rfl
theorem W_MQ_atomByte_in : (Jvm.Cond.instanceMethod ({ cls := "MailQueries", name := "atomByte", desc := "(II)I" } : Jvm.MethodName)) ∈ TBL := TBL_in (List.mem_of_getElem? (i := 399) (by decide +kernel)) (by decide +kernel)
theorem W_MQ_atomByte_se : (Jvm.Cond.selects "MailQueries" ({ cls := "MailQueries", name := "atomByte", desc := "(II)I" } : Jvm.MethodName) ({ cls := "MailQueries", name := "atomByte", desc := "(II)I" } : Jvm.MethodName)) ∈ TBL := TBL_in (List.mem_of_getElem? (i := 400) (by decide +kernel)) (by decide +kernel)
set_option maxRecDepth 100000 in
theorem W_MQ_range_code : (Jvm.Cond.code ({ cls := "MailQueries", name := "range", desc := "(II)I" } : Jvm.MethodName) prog_1_method_9_code (3 : Nat) (Option.some Jvm.ClassFile.FieldType.int)) ∈ TBL := TBL_in (List.mem_of_getElem? (i := 409) rfl) rfl
theorem W_MQ_range_in : (Jvm.Cond.instanceMethod ({ cls := "MailQueries", name := "range", desc := "(II)I" } : Jvm.MethodName)) ∈ TBL := TBL_in (List.mem_of_getElem? (i := 407) (by decide +kernel)) (by decide +kernel)
theorem W_MQ_range_se : (Jvm.Cond.selects "MailQueries" ({ cls := "MailQueries", name := "range", desc := "(II)I" } : Jvm.MethodName) ({ cls := "MailQueries", name := "range", desc := "(II)I" } : Jvm.MethodName)) ∈ TBL := TBL_in (List.mem_of_getElem? (i := 408) (by decide +kernel)) (by decide +kernel)
theorem L_MQ_127 : (Jvm.Cond.methodLink "MailQueries" (127 : Nat) ({ cls := "MailQueries$Query", name := "entryAt", desc := "(I)I" } : Jvm.MethodName)) ∈ TBL := TBL_in (List.mem_of_getElem? (i := 414) (by decide +kernel)) (by decide +kernel)
set_option maxRecDepth 100000 in
theorem W_MQ_tree_code : (Jvm.Cond.code ({ cls := "MailQueries", name := "tree", desc := "(I)I" } : Jvm.MethodName) prog_1_method_10_code (2 : Nat) (Option.some Jvm.ClassFile.FieldType.int)) ∈ TBL := TBL_in (List.mem_of_getElem? (i := 413) rfl) rfl
theorem W_MQ_tree_in : (Jvm.Cond.instanceMethod ({ cls := "MailQueries", name := "tree", desc := "(I)I" } : Jvm.MethodName)) ∈ TBL := TBL_in (List.mem_of_getElem? (i := 411) (by decide +kernel)) (by decide +kernel)
theorem W_MQ_tree_se : (Jvm.Cond.selects "MailQueries" ({ cls := "MailQueries", name := "tree", desc := "(I)I" } : Jvm.MethodName) ({ cls := "MailQueries", name := "tree", desc := "(I)I" } : Jvm.MethodName)) ∈ TBL := TBL_in (List.mem_of_getElem? (i := 412) (by decide +kernel)) (by decide +kernel)
theorem L_MQ_37 : (Jvm.Cond.fieldLink "MailQueries" (37 : Nat) "MailQueries" "printer" "LMailQueries$Printer;") ∈ TBL := TBL_in (List.mem_of_getElem? (i := 350) (by decide +kernel)) (by decide +kernel)
theorem L_MQ_130 : (Jvm.Cond.methodLink "MailQueries" (130 : Nat) ({ cls := "MailQueries$Printer", name := "write", desc := "(LMailQueries$Query;)I" } : Jvm.MethodName)) ∈ TBL := TBL_in (List.mem_of_getElem? (i := 422) (by decide +kernel)) (by decide +kernel)
set_option maxRecDepth 100000 in
theorem W_MQ_print_code : (Jvm.Cond.code ({ cls := "MailQueries", name := "print", desc := "()I" } : Jvm.MethodName) prog_1_method_11_code (1 : Nat) (Option.some Jvm.ClassFile.FieldType.int)) ∈ TBL := TBL_in (List.mem_of_getElem? (i := 421) rfl) rfl
theorem W_MQ_print_in : (Jvm.Cond.instanceMethod ({ cls := "MailQueries", name := "print", desc := "()I" } : Jvm.MethodName)) ∈ TBL := TBL_in (List.mem_of_getElem? (i := 419) (by decide +kernel)) (by decide +kernel)
theorem W_MQ_print_se : (Jvm.Cond.selects "MailQueries" ({ cls := "MailQueries", name := "print", desc := "()I" } : Jvm.MethodName) ({ cls := "MailQueries", name := "print", desc := "()I" } : Jvm.MethodName)) ∈ TBL := TBL_in (List.mem_of_getElem? (i := 420) (by decide +kernel)) (by decide +kernel)
theorem L_MQ_134 : (Jvm.Cond.methodLink "MailQueries" (134 : Nat) ({ cls := "MailQueries$Printer", name := "byteAt", desc := "(I)I" } : Jvm.MethodName)) ∈ TBL := TBL_in (List.mem_of_getElem? (i := 543) (by decide +kernel)) (by decide +kernel)
set_option maxRecDepth 100000 in
theorem W_MQ_printed_code : (Jvm.Cond.code ({ cls := "MailQueries", name := "printed", desc := "(I)I" } : Jvm.MethodName) prog_1_method_12_code (2 : Nat) (Option.some Jvm.ClassFile.FieldType.int)) ∈ TBL := TBL_in (List.mem_of_getElem? (i := 542) rfl) rfl
theorem W_MQ_printed_in : (Jvm.Cond.instanceMethod ({ cls := "MailQueries", name := "printed", desc := "(I)I" } : Jvm.MethodName)) ∈ TBL := TBL_in (List.mem_of_getElem? (i := 540) (by decide +kernel)) (by decide +kernel)
theorem W_MQ_printed_se : (Jvm.Cond.selects "MailQueries" ({ cls := "MailQueries", name := "printed", desc := "(I)I" } : Jvm.MethodName) ({ cls := "MailQueries", name := "printed", desc := "(I)I" } : Jvm.MethodName)) ∈ TBL := TBL_in (List.mem_of_getElem? (i := 541) (by decide +kernel)) (by decide +kernel)
theorem L_MQ_44 : (Jvm.Cond.fieldLink "MailQueries" (44 : Nat) "MailQueries" "rows" "LMailQueries$Rows;") ∈ TBL := TBL_in (List.mem_of_getElem? (i := 351) (by decide +kernel)) (by decide +kernel)
theorem L_MQ_135 : (Jvm.Cond.methodLink "MailQueries" (135 : Nat) ({ cls := "MailQueries$Rows", name := "make", desc := "(LMailQueries$Query;)I" } : Jvm.MethodName)) ∈ TBL := TBL_in (List.mem_of_getElem? (i := 551) (by decide +kernel)) (by decide +kernel)
set_option maxRecDepth 100000 in
theorem W_MQ_normal_code : (Jvm.Cond.code ({ cls := "MailQueries", name := "normal", desc := "()I" } : Jvm.MethodName) prog_1_method_13_code (1 : Nat) (Option.some Jvm.ClassFile.FieldType.int)) ∈ TBL := TBL_in (List.mem_of_getElem? (i := 550) rfl) rfl
theorem W_MQ_normal_in : (Jvm.Cond.instanceMethod ({ cls := "MailQueries", name := "normal", desc := "()I" } : Jvm.MethodName)) ∈ TBL := TBL_in (List.mem_of_getElem? (i := 548) (by decide +kernel)) (by decide +kernel)
theorem W_MQ_normal_se : (Jvm.Cond.selects "MailQueries" ({ cls := "MailQueries", name := "normal", desc := "()I" } : Jvm.MethodName) ({ cls := "MailQueries", name := "normal", desc := "()I" } : Jvm.MethodName)) ∈ TBL := TBL_in (List.mem_of_getElem? (i := 549) (by decide +kernel)) (by decide +kernel)
theorem L_MQ_138 : (Jvm.Cond.methodLink "MailQueries" (138 : Nat) ({ cls := "MailQueries$Rows", name := "bitsOf", desc := "(IZ)J" } : Jvm.MethodName)) ∈ TBL := TBL_in (List.mem_of_getElem? (i := 632) (by decide +kernel)) (by decide +kernel)
set_option maxRecDepth 100000 in
theorem W_MQ_row_code : (Jvm.Cond.code ({ cls := "MailQueries", name := "row", desc := "(IZ)J" } : Jvm.MethodName) prog_1_method_14_code (3 : Nat) (Option.some Jvm.ClassFile.FieldType.long)) ∈ TBL := TBL_in (List.mem_of_getElem? (i := 631) rfl) rfl
theorem W_MQ_row_in : (Jvm.Cond.instanceMethod ({ cls := "MailQueries", name := "row", desc := "(IZ)J" } : Jvm.MethodName)) ∈ TBL := TBL_in (List.mem_of_getElem? (i := 629) (by decide +kernel)) (by decide +kernel)
theorem W_MQ_row_se : (Jvm.Cond.selects "MailQueries" ({ cls := "MailQueries", name := "row", desc := "(IZ)J" } : Jvm.MethodName) ({ cls := "MailQueries", name := "row", desc := "(IZ)J" } : Jvm.MethodName)) ∈ TBL := TBL_in (List.mem_of_getElem? (i := 630) (by decide +kernel)) (by decide +kernel)
theorem L_MQ_51 : (Jvm.Cond.fieldLink "MailQueries" (51 : Nat) "MailQueries" "judge" "LMailQueries$Judge;") ∈ TBL := TBL_in (List.mem_of_getElem? (i := 352) (by decide +kernel)) (by decide +kernel)
theorem L_MQ_142 : (Jvm.Cond.methodLink "MailQueries" (142 : Nat) ({ cls := "MailQueries$Judge", name := "accepts", desc := "(LMailQueries$Query;J)Z" } : Jvm.MethodName)) ∈ TBL := TBL_in (List.mem_of_getElem? (i := 640) (by decide +kernel)) (by decide +kernel)
set_option maxRecDepth 100000 in
theorem W_MQ_ask_code : (Jvm.Cond.code ({ cls := "MailQueries", name := "ask", desc := "(J)Z" } : Jvm.MethodName) prog_1_method_15_code (3 : Nat) (Option.some Jvm.ClassFile.FieldType.boolean)) ∈ TBL := TBL_in (List.mem_of_getElem? (i := 639) rfl) rfl
theorem W_MQ_ask_in : (Jvm.Cond.instanceMethod ({ cls := "MailQueries", name := "ask", desc := "(J)Z" } : Jvm.MethodName)) ∈ TBL := TBL_in (List.mem_of_getElem? (i := 637) (by decide +kernel)) (by decide +kernel)
theorem W_MQ_ask_se : (Jvm.Cond.selects "MailQueries" ({ cls := "MailQueries", name := "ask", desc := "(J)Z" } : Jvm.MethodName) ({ cls := "MailQueries", name := "ask", desc := "(J)Z" } : Jvm.MethodName)) ∈ TBL := TBL_in (List.mem_of_getElem? (i := 638) (by decide +kernel)) (by decide +kernel)
theorem L_MQ_146 : (Jvm.Cond.methodLink "MailQueries" (146 : Nat) ({ cls := "MailQueries$Judge", name := "countWays", desc := "(LMailQueries$Query;)I" } : Jvm.MethodName)) ∈ TBL := TBL_in (List.mem_of_getElem? (i := 660) (by decide +kernel)) (by decide +kernel)
set_option maxRecDepth 100000 in
theorem W_MQ_ways_code : (Jvm.Cond.code ({ cls := "MailQueries", name := "ways", desc := "()I" } : Jvm.MethodName) prog_1_method_16_code (1 : Nat) (Option.some Jvm.ClassFile.FieldType.int)) ∈ TBL := TBL_in (List.mem_of_getElem? (i := 659) rfl) rfl
theorem W_MQ_ways_in : (Jvm.Cond.instanceMethod ({ cls := "MailQueries", name := "ways", desc := "()I" } : Jvm.MethodName)) ∈ TBL := TBL_in (List.mem_of_getElem? (i := 657) (by decide +kernel)) (by decide +kernel)
theorem W_MQ_ways_se : (Jvm.Cond.selects "MailQueries" ({ cls := "MailQueries", name := "ways", desc := "()I" } : Jvm.MethodName) ({ cls := "MailQueries", name := "ways", desc := "()I" } : Jvm.MethodName)) ∈ TBL := TBL_in (List.mem_of_getElem? (i := 658) (by decide +kernel)) (by decide +kernel)
def y_MQ_makeReady : MethodName := ⟨"MailQueries", "makeReady", "(II)V"⟩
def rm_MQ_makeReady : Room := { frames := 0, cells := 0, slots := 0, locals := 0 }
theorem d_MQ_makeReady_0 : decode prog_1_method_3_code 0 = .ok (.iconst 0, 1) := by decide +kernel
theorem d_MQ_makeReady_1 : decode prog_1_method_3_code 1 = .ok (.istore_n 3, 1) := by decide +kernel
theorem d_MQ_makeReady_2 : decode prog_1_method_3_code 2 = .ok (.iload_n 3, 1) := by decide +kernel
theorem d_MQ_makeReady_3 : decode prog_1_method_3_code 3 = .ok (.iconst 4, 1) := by decide +kernel
theorem d_MQ_makeReady_4 : decode prog_1_method_3_code 4 = .ok (.if_icmp .ge 50, 3) := by decide +kernel
theorem d_MQ_makeReady_7 : decode prog_1_method_3_code 7 = .ok (.iload_n 1, 1) := by decide +kernel
theorem d_MQ_makeReady_8 : decode prog_1_method_3_code 8 = .ok (.iload_n 3, 1) := by decide +kernel
theorem d_MQ_makeReady_9 : decode prog_1_method_3_code 9 = .ok (.iadd, 1) := by decide +kernel
theorem d_MQ_makeReady_10 : decode prog_1_method_3_code 10 = .ok (.istore 4, 2) := by decide +kernel
theorem d_MQ_makeReady_12 : decode prog_1_method_3_code 12 = .ok (.iload 4, 2) := by decide +kernel
theorem d_MQ_makeReady_14 : decode prog_1_method_3_code 14 = .ok (.ifCond .lt 34, 3) := by decide +kernel
theorem d_MQ_makeReady_17 : decode prog_1_method_3_code 17 = .ok (.iload 4, 2) := by decide +kernel
theorem d_MQ_makeReady_19 : decode prog_1_method_3_code 19 = .ok (.aload_n 0, 1) := by decide +kernel
theorem d_MQ_makeReady_20 : decode prog_1_method_3_code 20 = .ok (.getfield 9, 3) := by decide +kernel
theorem d_MQ_makeReady_23 : decode prog_1_method_3_code 23 = .ok (.arraylength, 1) := by decide +kernel
theorem d_MQ_makeReady_24 : decode prog_1_method_3_code 24 = .ok (.if_icmp .ge 24, 3) := by decide +kernel
theorem d_MQ_makeReady_27 : decode prog_1_method_3_code 27 = .ok (.aload_n 0, 1) := by decide +kernel
theorem d_MQ_makeReady_28 : decode prog_1_method_3_code 28 = .ok (.getfield 9, 3) := by decide +kernel
theorem d_MQ_makeReady_31 : decode prog_1_method_3_code 31 = .ok (.iload 4, 2) := by decide +kernel
theorem d_MQ_makeReady_33 : decode prog_1_method_3_code 33 = .ok (.iload_n 2, 1) := by decide +kernel
theorem d_MQ_makeReady_34 : decode prog_1_method_3_code 34 = .ok (.bipush 24, 2) := by decide +kernel
theorem d_MQ_makeReady_36 : decode prog_1_method_3_code 36 = .ok (.bipush 8, 2) := by decide +kernel
theorem d_MQ_makeReady_38 : decode prog_1_method_3_code 38 = .ok (.iload_n 3, 1) := by decide +kernel
theorem d_MQ_makeReady_39 : decode prog_1_method_3_code 39 = .ok (.imul, 1) := by decide +kernel
theorem d_MQ_makeReady_40 : decode prog_1_method_3_code 40 = .ok (.isub, 1) := by decide +kernel
theorem d_MQ_makeReady_41 : decode prog_1_method_3_code 41 = .ok (.iushr, 1) := by decide +kernel
theorem d_MQ_makeReady_42 : decode prog_1_method_3_code 42 = .ok (.sipush 255, 3) := by decide +kernel
theorem d_MQ_makeReady_45 : decode prog_1_method_3_code 45 = .ok (.iand, 1) := by decide +kernel
theorem d_MQ_makeReady_46 : decode prog_1_method_3_code 46 = .ok (.i2c, 1) := by decide +kernel
theorem d_MQ_makeReady_47 : decode prog_1_method_3_code 47 = .ok (.castore, 1) := by decide +kernel
theorem d_MQ_makeReady_48 : decode prog_1_method_3_code 48 = .ok (.iinc 3 1, 3) := by decide +kernel
theorem d_MQ_makeReady_51 : decode prog_1_method_3_code 51 = .ok (.goto (-49), 3) := by decide +kernel
theorem d_MQ_makeReady_54 : decode prog_1_method_3_code 54 = .ok (.return_, 1) := by decide +kernel
def y_MQ_feed : MethodName := ⟨"MailQueries", "feed", "(IIIII)V"⟩
def rm_MQ_feed : Room := { frames := 1, cells := 0, slots := 0, locals := 24 }
theorem d_MQ_feed_0 : decode prog_1_method_2_code 0 = .ok (.aload_n 0, 1) := by decide +kernel
theorem d_MQ_feed_1 : decode prog_1_method_2_code 1 = .ok (.iconst 0, 1) := by decide +kernel
theorem d_MQ_feed_2 : decode prog_1_method_2_code 2 = .ok (.iload_n 1, 1) := by decide +kernel
theorem d_MQ_feed_3 : decode prog_1_method_2_code 3 = .ok (.invokevirtual 55, 3) := by decide +kernel
theorem d_MQ_feed_6 : decode prog_1_method_2_code 6 = .ok (.aload_n 0, 1) := by decide +kernel
theorem d_MQ_feed_7 : decode prog_1_method_2_code 7 = .ok (.iconst 4, 1) := by decide +kernel
theorem d_MQ_feed_8 : decode prog_1_method_2_code 8 = .ok (.iload_n 2, 1) := by decide +kernel
theorem d_MQ_feed_9 : decode prog_1_method_2_code 9 = .ok (.invokevirtual 55, 3) := by decide +kernel
theorem d_MQ_feed_12 : decode prog_1_method_2_code 12 = .ok (.aload_n 0, 1) := by decide +kernel
theorem d_MQ_feed_13 : decode prog_1_method_2_code 13 = .ok (.bipush 8, 2) := by decide +kernel
theorem d_MQ_feed_15 : decode prog_1_method_2_code 15 = .ok (.iload_n 3, 1) := by decide +kernel
theorem d_MQ_feed_16 : decode prog_1_method_2_code 16 = .ok (.invokevirtual 55, 3) := by decide +kernel
theorem d_MQ_feed_19 : decode prog_1_method_2_code 19 = .ok (.aload_n 0, 1) := by decide +kernel
theorem d_MQ_feed_20 : decode prog_1_method_2_code 20 = .ok (.bipush 12, 2) := by decide +kernel
theorem d_MQ_feed_22 : decode prog_1_method_2_code 22 = .ok (.iload 4, 2) := by decide +kernel
theorem d_MQ_feed_24 : decode prog_1_method_2_code 24 = .ok (.invokevirtual 55, 3) := by decide +kernel
theorem d_MQ_feed_27 : decode prog_1_method_2_code 27 = .ok (.aload_n 0, 1) := by decide +kernel
theorem d_MQ_feed_28 : decode prog_1_method_2_code 28 = .ok (.bipush 16, 2) := by decide +kernel
theorem d_MQ_feed_30 : decode prog_1_method_2_code 30 = .ok (.iload 5, 2) := by decide +kernel
theorem d_MQ_feed_32 : decode prog_1_method_2_code 32 = .ok (.invokevirtual 55, 3) := by decide +kernel
theorem d_MQ_feed_35 : decode prog_1_method_2_code 35 = .ok (.return_, 1) := by decide +kernel
def y_MQ_end : MethodName := ⟨"MailQueries", "end", "(I)I"⟩
def rm_MQ_end : Room := { frames := 2, cells := 0, slots := 0, locals := 49 }
theorem d_MQ_end_0 : decode prog_1_method_4_code 0 = .ok (.iload_n 1, 1) := by decide +kernel
theorem d_MQ_end_1 : decode prog_1_method_4_code 1 = .ok (.ifCond .lt 21, 3) := by decide +kernel
theorem d_MQ_end_4 : decode prog_1_method_4_code 4 = .ok (.iload_n 1, 1) := by decide +kernel
theorem d_MQ_end_5 : decode prog_1_method_4_code 5 = .ok (.bipush 20, 2) := by decide +kernel
theorem d_MQ_end_7 : decode prog_1_method_4_code 7 = .ok (.if_icmp .gt 15, 3) := by decide +kernel
theorem d_MQ_end_10 : decode prog_1_method_4_code 10 = .ok (.aload_n 0, 1) := by decide +kernel
theorem d_MQ_end_11 : decode prog_1_method_4_code 11 = .ok (.getfield 16, 3) := by decide +kernel
theorem d_MQ_end_14 : decode prog_1_method_4_code 14 = .ok (.iload_n 1, 1) := by decide +kernel
theorem d_MQ_end_15 : decode prog_1_method_4_code 15 = .ok (.iadd, 1) := by decide +kernel
theorem d_MQ_end_16 : decode prog_1_method_4_code 16 = .ok (.sipush 600, 3) := by decide +kernel
theorem d_MQ_end_19 : decode prog_1_method_4_code 19 = .ok (.if_icmp .le 5, 3) := by decide +kernel
theorem d_MQ_end_22 : decode prog_1_method_4_code 22 = .ok (.iconst (-1), 1) := by decide +kernel
theorem d_MQ_end_23 : decode prog_1_method_4_code 23 = .ok (.ireturn, 1) := by decide +kernel
theorem d_MQ_end_24 : decode prog_1_method_4_code 24 = .ok (.aload_n 0, 1) := by decide +kernel
theorem d_MQ_end_25 : decode prog_1_method_4_code 25 = .ok (.getfield 9, 3) := by decide +kernel
theorem d_MQ_end_28 : decode prog_1_method_4_code 28 = .ok (.iconst 0, 1) := by decide +kernel
theorem d_MQ_end_29 : decode prog_1_method_4_code 29 = .ok (.aload_n 0, 1) := by decide +kernel
theorem d_MQ_end_30 : decode prog_1_method_4_code 30 = .ok (.getfield 13, 3) := by decide +kernel
theorem d_MQ_end_33 : decode prog_1_method_4_code 33 = .ok (.aload_n 0, 1) := by decide +kernel
theorem d_MQ_end_34 : decode prog_1_method_4_code 34 = .ok (.getfield 16, 3) := by decide +kernel
theorem d_MQ_end_37 : decode prog_1_method_4_code 37 = .ok (.iload_n 1, 1) := by decide +kernel
theorem d_MQ_end_38 : decode prog_1_method_4_code 38 = .ok (.invokestatic 59, 3) := by decide +kernel
theorem d_MQ_end_41 : decode prog_1_method_4_code 41 = .ok (.aload_n 0, 1) := by decide +kernel
theorem d_MQ_end_42 : decode prog_1_method_4_code 42 = .ok (.dup, 1) := by decide +kernel
theorem d_MQ_end_43 : decode prog_1_method_4_code 43 = .ok (.getfield 16, 3) := by decide +kernel
theorem d_MQ_end_46 : decode prog_1_method_4_code 46 = .ok (.iload_n 1, 1) := by decide +kernel
theorem d_MQ_end_47 : decode prog_1_method_4_code 47 = .ok (.iadd, 1) := by decide +kernel
theorem d_MQ_end_48 : decode prog_1_method_4_code 48 = .ok (.putfield 16, 3) := by decide +kernel
theorem d_MQ_end_51 : decode prog_1_method_4_code 51 = .ok (.aload_n 0, 1) := by decide +kernel
theorem d_MQ_end_52 : decode prog_1_method_4_code 52 = .ok (.iconst 0, 1) := by decide +kernel
theorem d_MQ_end_53 : decode prog_1_method_4_code 53 = .ok (.iconst 0, 1) := by decide +kernel
theorem d_MQ_end_54 : decode prog_1_method_4_code 54 = .ok (.iconst 0, 1) := by decide +kernel
theorem d_MQ_end_55 : decode prog_1_method_4_code 55 = .ok (.iconst 0, 1) := by decide +kernel
theorem d_MQ_end_56 : decode prog_1_method_4_code 56 = .ok (.iconst 0, 1) := by decide +kernel
theorem d_MQ_end_57 : decode prog_1_method_4_code 57 = .ok (.invokevirtual 65, 3) := by decide +kernel
theorem d_MQ_end_60 : decode prog_1_method_4_code 60 = .ok (.aload_n 0, 1) := by decide +kernel
theorem d_MQ_end_61 : decode prog_1_method_4_code 61 = .ok (.getfield 16, 3) := by decide +kernel
theorem d_MQ_end_64 : decode prog_1_method_4_code 64 = .ok (.ireturn, 1) := by decide +kernel
def y_MQ_fault : MethodName := ⟨"MailQueries", "fault", "(I)I"⟩
def rm_MQ_fault : Room := { frames := 0, cells := 0, slots := 0, locals := 0 }
theorem d_MQ_fault_0 : decode prog_1_method_6_code 0 = .ok (.iload_n 1, 1) := by decide +kernel
theorem d_MQ_fault_1 : decode prog_1_method_6_code 1 = .ok (.lookupswitch 43 #[(0, 27), (1, 35)], 27) := by decide +kernel
theorem d_MQ_fault_28 : decode prog_1_method_6_code 28 = .ok (.aload_n 0, 1) := by decide +kernel
theorem d_MQ_fault_29 : decode prog_1_method_6_code 29 = .ok (.getfield 30, 3) := by decide +kernel
theorem d_MQ_fault_32 : decode prog_1_method_6_code 32 = .ok (.getfield 87, 3) := by decide +kernel
theorem d_MQ_fault_35 : decode prog_1_method_6_code 35 = .ok (.ireturn, 1) := by decide +kernel
theorem d_MQ_fault_36 : decode prog_1_method_6_code 36 = .ok (.aload_n 0, 1) := by decide +kernel
theorem d_MQ_fault_37 : decode prog_1_method_6_code 37 = .ok (.getfield 30, 3) := by decide +kernel
theorem d_MQ_fault_40 : decode prog_1_method_6_code 40 = .ok (.getfield 90, 3) := by decide +kernel
theorem d_MQ_fault_43 : decode prog_1_method_6_code 43 = .ok (.ireturn, 1) := by decide +kernel
theorem d_MQ_fault_44 : decode prog_1_method_6_code 44 = .ok (.iconst (-1), 1) := by decide +kernel
theorem d_MQ_fault_45 : decode prog_1_method_6_code 45 = .ok (.ireturn, 1) := by decide +kernel
def y_MQ_atom : MethodName := ⟨"MailQueries", "atom", "(II)I"⟩
def rm_MQ_atom : Room := { frames := 1, cells := 0, slots := 0, locals := 21 }
theorem d_MQ_atom_0 : decode prog_1_method_7_code 0 = .ok (.aload_n 0, 1) := by decide +kernel
theorem d_MQ_atom_1 : decode prog_1_method_7_code 1 = .ok (.getfield 23, 3) := by decide +kernel
theorem d_MQ_atom_4 : decode prog_1_method_7_code 4 = .ok (.iload_n 1, 1) := by decide +kernel
theorem d_MQ_atom_5 : decode prog_1_method_7_code 5 = .ok (.invokevirtual 93, 3) := by decide +kernel
theorem d_MQ_atom_8 : decode prog_1_method_7_code 8 = .ok (.ifCond .ne 5, 3) := by decide +kernel
theorem d_MQ_atom_11 : decode prog_1_method_7_code 11 = .ok (.iconst (-1), 1) := by decide +kernel
theorem d_MQ_atom_12 : decode prog_1_method_7_code 12 = .ok (.ireturn, 1) := by decide +kernel
theorem d_MQ_atom_13 : decode prog_1_method_7_code 13 = .ok (.iload_n 2, 1) := by decide +kernel
theorem d_MQ_atom_14 : decode prog_1_method_7_code 14 = .ok (.tableswitch 92 0 4 #[34, 44, 62, 72, 82], 34) := by decide +kernel
theorem d_MQ_atom_48 : decode prog_1_method_7_code 48 = .ok (.aload_n 0, 1) := by decide +kernel
theorem d_MQ_atom_49 : decode prog_1_method_7_code 49 = .ok (.getfield 23, 3) := by decide +kernel
theorem d_MQ_atom_52 : decode prog_1_method_7_code 52 = .ok (.getfield 97, 3) := by decide +kernel
theorem d_MQ_atom_55 : decode prog_1_method_7_code 55 = .ok (.iload_n 1, 1) := by decide +kernel
theorem d_MQ_atom_56 : decode prog_1_method_7_code 56 = .ok (.iaload, 1) := by decide +kernel
theorem d_MQ_atom_57 : decode prog_1_method_7_code 57 = .ok (.ireturn, 1) := by decide +kernel
theorem d_MQ_atom_58 : decode prog_1_method_7_code 58 = .ok (.aload_n 0, 1) := by decide +kernel
theorem d_MQ_atom_59 : decode prog_1_method_7_code 59 = .ok (.getfield 23, 3) := by decide +kernel
theorem d_MQ_atom_62 : decode prog_1_method_7_code 62 = .ok (.getfield 101, 3) := by decide +kernel
theorem d_MQ_atom_65 : decode prog_1_method_7_code 65 = .ok (.iload_n 1, 1) := by decide +kernel
theorem d_MQ_atom_66 : decode prog_1_method_7_code 66 = .ok (.baload, 1) := by decide +kernel
theorem d_MQ_atom_67 : decode prog_1_method_7_code 67 = .ok (.ifCond .eq 7, 3) := by decide +kernel
theorem d_MQ_atom_70 : decode prog_1_method_7_code 70 = .ok (.iconst 1, 1) := by decide +kernel
theorem d_MQ_atom_71 : decode prog_1_method_7_code 71 = .ok (.goto 4, 3) := by decide +kernel
theorem d_MQ_atom_74 : decode prog_1_method_7_code 74 = .ok (.iconst 0, 1) := by decide +kernel
theorem d_MQ_atom_75 : decode prog_1_method_7_code 75 = .ok (.ireturn, 1) := by decide +kernel
theorem d_MQ_atom_76 : decode prog_1_method_7_code 76 = .ok (.aload_n 0, 1) := by decide +kernel
theorem d_MQ_atom_77 : decode prog_1_method_7_code 77 = .ok (.getfield 23, 3) := by decide +kernel
theorem d_MQ_atom_80 : decode prog_1_method_7_code 80 = .ok (.getfield 105, 3) := by decide +kernel
theorem d_MQ_atom_83 : decode prog_1_method_7_code 83 = .ok (.iload_n 1, 1) := by decide +kernel
theorem d_MQ_atom_84 : decode prog_1_method_7_code 84 = .ok (.iaload, 1) := by decide +kernel
theorem d_MQ_atom_85 : decode prog_1_method_7_code 85 = .ok (.ireturn, 1) := by decide +kernel
theorem d_MQ_atom_86 : decode prog_1_method_7_code 86 = .ok (.aload_n 0, 1) := by decide +kernel
theorem d_MQ_atom_87 : decode prog_1_method_7_code 87 = .ok (.getfield 23, 3) := by decide +kernel
theorem d_MQ_atom_90 : decode prog_1_method_7_code 90 = .ok (.getfield 108, 3) := by decide +kernel
theorem d_MQ_atom_93 : decode prog_1_method_7_code 93 = .ok (.iload_n 1, 1) := by decide +kernel
theorem d_MQ_atom_94 : decode prog_1_method_7_code 94 = .ok (.iaload, 1) := by decide +kernel
theorem d_MQ_atom_95 : decode prog_1_method_7_code 95 = .ok (.ireturn, 1) := by decide +kernel
theorem d_MQ_atom_96 : decode prog_1_method_7_code 96 = .ok (.aload_n 0, 1) := by decide +kernel
theorem d_MQ_atom_97 : decode prog_1_method_7_code 97 = .ok (.getfield 23, 3) := by decide +kernel
theorem d_MQ_atom_100 : decode prog_1_method_7_code 100 = .ok (.getfield 111, 3) := by decide +kernel
theorem d_MQ_atom_103 : decode prog_1_method_7_code 103 = .ok (.iload_n 1, 1) := by decide +kernel
theorem d_MQ_atom_104 : decode prog_1_method_7_code 104 = .ok (.iaload, 1) := by decide +kernel
theorem d_MQ_atom_105 : decode prog_1_method_7_code 105 = .ok (.ireturn, 1) := by decide +kernel
theorem d_MQ_atom_106 : decode prog_1_method_7_code 106 = .ok (.iconst (-1), 1) := by decide +kernel
theorem d_MQ_atom_107 : decode prog_1_method_7_code 107 = .ok (.ireturn, 1) := by decide +kernel
def y_MQ_atomByte : MethodName := ⟨"MailQueries", "atomByte", "(II)I"⟩
def rm_MQ_atomByte : Room := { frames := 1, cells := 0, slots := 0, locals := 21 }
theorem d_MQ_atomByte_0 : decode prog_1_method_8_code 0 = .ok (.aload_n 0, 1) := by decide +kernel
theorem d_MQ_atomByte_1 : decode prog_1_method_8_code 1 = .ok (.getfield 23, 3) := by decide +kernel
theorem d_MQ_atomByte_4 : decode prog_1_method_8_code 4 = .ok (.iload_n 1, 1) := by decide +kernel
theorem d_MQ_atomByte_5 : decode prog_1_method_8_code 5 = .ok (.invokevirtual 93, 3) := by decide +kernel
theorem d_MQ_atomByte_8 : decode prog_1_method_8_code 8 = .ok (.ifCond .eq 20, 3) := by decide +kernel
theorem d_MQ_atomByte_11 : decode prog_1_method_8_code 11 = .ok (.iload_n 2, 1) := by decide +kernel
theorem d_MQ_atomByte_12 : decode prog_1_method_8_code 12 = .ok (.ifCond .lt 16, 3) := by decide +kernel
theorem d_MQ_atomByte_15 : decode prog_1_method_8_code 15 = .ok (.iload_n 2, 1) := by decide +kernel
theorem d_MQ_atomByte_16 : decode prog_1_method_8_code 16 = .ok (.aload_n 0, 1) := by decide +kernel
theorem d_MQ_atomByte_17 : decode prog_1_method_8_code 17 = .ok (.getfield 23, 3) := by decide +kernel
theorem d_MQ_atomByte_20 : decode prog_1_method_8_code 20 = .ok (.getfield 105, 3) := by decide +kernel
theorem d_MQ_atomByte_23 : decode prog_1_method_8_code 23 = .ok (.iload_n 1, 1) := by decide +kernel
theorem d_MQ_atomByte_24 : decode prog_1_method_8_code 24 = .ok (.iaload, 1) := by decide +kernel
theorem d_MQ_atomByte_25 : decode prog_1_method_8_code 25 = .ok (.if_icmp .lt 5, 3) := by decide +kernel
theorem d_MQ_atomByte_28 : decode prog_1_method_8_code 28 = .ok (.iconst (-1), 1) := by decide +kernel
theorem d_MQ_atomByte_29 : decode prog_1_method_8_code 29 = .ok (.ireturn, 1) := by decide +kernel
theorem d_MQ_atomByte_30 : decode prog_1_method_8_code 30 = .ok (.aload_n 0, 1) := by decide +kernel
theorem d_MQ_atomByte_31 : decode prog_1_method_8_code 31 = .ok (.getfield 23, 3) := by decide +kernel
theorem d_MQ_atomByte_34 : decode prog_1_method_8_code 34 = .ok (.aload_n 0, 1) := by decide +kernel
theorem d_MQ_atomByte_35 : decode prog_1_method_8_code 35 = .ok (.getfield 23, 3) := by decide +kernel
theorem d_MQ_atomByte_38 : decode prog_1_method_8_code 38 = .ok (.getfield 114, 3) := by decide +kernel
theorem d_MQ_atomByte_41 : decode prog_1_method_8_code 41 = .ok (.iload_n 1, 1) := by decide +kernel
theorem d_MQ_atomByte_42 : decode prog_1_method_8_code 42 = .ok (.iaload, 1) := by decide +kernel
theorem d_MQ_atomByte_43 : decode prog_1_method_8_code 43 = .ok (.iload_n 2, 1) := by decide +kernel
theorem d_MQ_atomByte_44 : decode prog_1_method_8_code 44 = .ok (.iadd, 1) := by decide +kernel
theorem d_MQ_atomByte_45 : decode prog_1_method_8_code 45 = .ok (.invokevirtual 117, 3) := by decide +kernel
theorem d_MQ_atomByte_48 : decode prog_1_method_8_code 48 = .ok (.ireturn, 1) := by decide +kernel
def y_MQ_range : MethodName := ⟨"MailQueries", "range", "(II)I"⟩
def rm_MQ_range : Room := { frames := 1, cells := 0, slots := 0, locals := 21 }
theorem d_MQ_range_0 : decode prog_1_method_9_code 0 = .ok (.aload_n 0, 1) := by decide +kernel
theorem d_MQ_range_1 : decode prog_1_method_9_code 1 = .ok (.getfield 23, 3) := by decide +kernel
theorem d_MQ_range_4 : decode prog_1_method_9_code 4 = .ok (.iload_n 1, 1) := by decide +kernel
theorem d_MQ_range_5 : decode prog_1_method_9_code 5 = .ok (.invokevirtual 93, 3) := by decide +kernel
theorem d_MQ_range_8 : decode prog_1_method_9_code 8 = .ok (.ifCond .ne 5, 3) := by decide +kernel
theorem d_MQ_range_11 : decode prog_1_method_9_code 11 = .ok (.iconst 0, 1) := by decide +kernel
theorem d_MQ_range_12 : decode prog_1_method_9_code 12 = .ok (.ireturn, 1) := by decide +kernel
theorem d_MQ_range_13 : decode prog_1_method_9_code 13 = .ok (.iload_n 2, 1) := by decide +kernel
theorem d_MQ_range_14 : decode prog_1_method_9_code 14 = .ok (.lookupswitch 46 #[(0, 26), (1, 36)], 26) := by decide +kernel
theorem d_MQ_range_40 : decode prog_1_method_9_code 40 = .ok (.aload_n 0, 1) := by decide +kernel
theorem d_MQ_range_41 : decode prog_1_method_9_code 41 = .ok (.getfield 23, 3) := by decide +kernel
theorem d_MQ_range_44 : decode prog_1_method_9_code 44 = .ok (.getfield 121, 3) := by decide +kernel
theorem d_MQ_range_47 : decode prog_1_method_9_code 47 = .ok (.iload_n 1, 1) := by decide +kernel
theorem d_MQ_range_48 : decode prog_1_method_9_code 48 = .ok (.iaload, 1) := by decide +kernel
theorem d_MQ_range_49 : decode prog_1_method_9_code 49 = .ok (.ireturn, 1) := by decide +kernel
theorem d_MQ_range_50 : decode prog_1_method_9_code 50 = .ok (.aload_n 0, 1) := by decide +kernel
theorem d_MQ_range_51 : decode prog_1_method_9_code 51 = .ok (.getfield 23, 3) := by decide +kernel
theorem d_MQ_range_54 : decode prog_1_method_9_code 54 = .ok (.getfield 124, 3) := by decide +kernel
theorem d_MQ_range_57 : decode prog_1_method_9_code 57 = .ok (.iload_n 1, 1) := by decide +kernel
theorem d_MQ_range_58 : decode prog_1_method_9_code 58 = .ok (.iaload, 1) := by decide +kernel
theorem d_MQ_range_59 : decode prog_1_method_9_code 59 = .ok (.ireturn, 1) := by decide +kernel
theorem d_MQ_range_60 : decode prog_1_method_9_code 60 = .ok (.iconst 0, 1) := by decide +kernel
theorem d_MQ_range_61 : decode prog_1_method_9_code 61 = .ok (.ireturn, 1) := by decide +kernel
def y_MQ_tree : MethodName := ⟨"MailQueries", "tree", "(I)I"⟩
def rm_MQ_tree : Room := { frames := 1, cells := 0, slots := 0, locals := 21 }
theorem d_MQ_tree_0 : decode prog_1_method_10_code 0 = .ok (.aload_n 0, 1) := by decide +kernel
theorem d_MQ_tree_1 : decode prog_1_method_10_code 1 = .ok (.getfield 23, 3) := by decide +kernel
theorem d_MQ_tree_4 : decode prog_1_method_10_code 4 = .ok (.iload_n 1, 1) := by decide +kernel
theorem d_MQ_tree_5 : decode prog_1_method_10_code 5 = .ok (.invokevirtual 127, 3) := by decide +kernel
theorem d_MQ_tree_8 : decode prog_1_method_10_code 8 = .ok (.ireturn, 1) := by decide +kernel
def y_MQ_print : MethodName := ⟨"MailQueries", "print", "()I"⟩
def rm_MQ_print : Room := { frames := 8, cells := 0, slots := 0, locals := 178 }
theorem d_MQ_print_0 : decode prog_1_method_11_code 0 = .ok (.aload_n 0, 1) := by decide +kernel
theorem d_MQ_print_1 : decode prog_1_method_11_code 1 = .ok (.getfield 37, 3) := by decide +kernel
theorem d_MQ_print_4 : decode prog_1_method_11_code 4 = .ok (.aload_n 0, 1) := by decide +kernel
theorem d_MQ_print_5 : decode prog_1_method_11_code 5 = .ok (.getfield 23, 3) := by decide +kernel
theorem d_MQ_print_8 : decode prog_1_method_11_code 8 = .ok (.invokevirtual 130, 3) := by decide +kernel
theorem d_MQ_print_11 : decode prog_1_method_11_code 11 = .ok (.ireturn, 1) := by decide +kernel
def y_MQ_printed : MethodName := ⟨"MailQueries", "printed", "(I)I"⟩
def rm_MQ_printed : Room := { frames := 1, cells := 0, slots := 0, locals := 21 }
theorem d_MQ_printed_0 : decode prog_1_method_12_code 0 = .ok (.aload_n 0, 1) := by decide +kernel
theorem d_MQ_printed_1 : decode prog_1_method_12_code 1 = .ok (.getfield 37, 3) := by decide +kernel
theorem d_MQ_printed_4 : decode prog_1_method_12_code 4 = .ok (.iload_n 1, 1) := by decide +kernel
theorem d_MQ_printed_5 : decode prog_1_method_12_code 5 = .ok (.invokevirtual 134, 3) := by decide +kernel
theorem d_MQ_printed_8 : decode prog_1_method_12_code 8 = .ok (.ireturn, 1) := by decide +kernel
def y_MQ_normal : MethodName := ⟨"MailQueries", "normal", "()I"⟩
def rm_MQ_normal : Room := { frames := 7, cells := 0, slots := 0, locals := 178 }
theorem d_MQ_normal_0 : decode prog_1_method_13_code 0 = .ok (.aload_n 0, 1) := by decide +kernel
theorem d_MQ_normal_1 : decode prog_1_method_13_code 1 = .ok (.getfield 44, 3) := by decide +kernel
theorem d_MQ_normal_4 : decode prog_1_method_13_code 4 = .ok (.aload_n 0, 1) := by decide +kernel
theorem d_MQ_normal_5 : decode prog_1_method_13_code 5 = .ok (.getfield 23, 3) := by decide +kernel
theorem d_MQ_normal_8 : decode prog_1_method_13_code 8 = .ok (.invokevirtual 135, 3) := by decide +kernel
theorem d_MQ_normal_11 : decode prog_1_method_13_code 11 = .ok (.ireturn, 1) := by decide +kernel
def y_MQ_row : MethodName := ⟨"MailQueries", "row", "(IZ)J"⟩
def rm_MQ_row : Room := { frames := 1, cells := 0, slots := 0, locals := 22 }
theorem d_MQ_row_0 : decode prog_1_method_14_code 0 = .ok (.aload_n 0, 1) := by decide +kernel
theorem d_MQ_row_1 : decode prog_1_method_14_code 1 = .ok (.getfield 44, 3) := by decide +kernel
theorem d_MQ_row_4 : decode prog_1_method_14_code 4 = .ok (.iload_n 1, 1) := by decide +kernel
theorem d_MQ_row_5 : decode prog_1_method_14_code 5 = .ok (.iload_n 2, 1) := by decide +kernel
theorem d_MQ_row_6 : decode prog_1_method_14_code 6 = .ok (.invokevirtual 138, 3) := by decide +kernel
theorem d_MQ_row_9 : decode prog_1_method_14_code 9 = .ok (.lreturn, 1) := by decide +kernel
def y_MQ_ask : MethodName := ⟨"MailQueries", "ask", "(J)Z"⟩
def rm_MQ_ask : Room := { frames := 3, cells := 0, slots := 0, locals := 73 }
theorem d_MQ_ask_0 : decode prog_1_method_15_code 0 = .ok (.aload_n 0, 1) := by decide +kernel
theorem d_MQ_ask_1 : decode prog_1_method_15_code 1 = .ok (.getfield 51, 3) := by decide +kernel
theorem d_MQ_ask_4 : decode prog_1_method_15_code 4 = .ok (.aload_n 0, 1) := by decide +kernel
theorem d_MQ_ask_5 : decode prog_1_method_15_code 5 = .ok (.getfield 23, 3) := by decide +kernel
theorem d_MQ_ask_8 : decode prog_1_method_15_code 8 = .ok (.lload_n 1, 1) := by decide +kernel
theorem d_MQ_ask_9 : decode prog_1_method_15_code 9 = .ok (.invokevirtual 142, 3) := by decide +kernel
theorem d_MQ_ask_12 : decode prog_1_method_15_code 12 = .ok (.ireturn, 1) := by decide +kernel
def y_MQ_ways : MethodName := ⟨"MailQueries", "ways", "()I"⟩
def rm_MQ_ways : Room := { frames := 3, cells := 0, slots := 0, locals := 76 }
theorem d_MQ_ways_0 : decode prog_1_method_16_code 0 = .ok (.aload_n 0, 1) := by decide +kernel
theorem d_MQ_ways_1 : decode prog_1_method_16_code 1 = .ok (.getfield 51, 3) := by decide +kernel
theorem d_MQ_ways_4 : decode prog_1_method_16_code 4 = .ok (.aload_n 0, 1) := by decide +kernel
theorem d_MQ_ways_5 : decode prog_1_method_16_code 5 = .ok (.getfield 23, 3) := by decide +kernel
theorem d_MQ_ways_8 : decode prog_1_method_16_code 8 = .ok (.invokevirtual 146, 3) := by decide +kernel
theorem d_MQ_ways_11 : decode prog_1_method_16_code 11 = .ok (.ireturn, 1) := by decide +kernel
theorem mb_MQ_makeReady : Mb y_MQ_makeReady prog_1_method_3_code 5 none 2 := ⟨W_MQ_makeReady_code, W_MQ_makeReady_in, sel_0, I_MQ, by decide +kernel, by decide +kernel, by decide +kernel⟩
theorem mb_MQ_feed : Mb y_MQ_feed prog_1_method_2_code 6 none 5 := ⟨W_MQ_feed_code, W_MQ_feed_in, W_MQ_feed_se, I_MQ, by decide +kernel, by decide +kernel, by decide +kernel⟩
theorem mb_MQ_end : Mb y_MQ_end prog_1_method_4_code 2 (some .int) 1 := ⟨W_MQ_end_code, W_MQ_end_in, W_MQ_end_se, I_MQ, by decide +kernel, by decide +kernel, by decide +kernel⟩
theorem mb_MQ_fault : Mb y_MQ_fault prog_1_method_6_code 2 (some .int) 1 := ⟨W_MQ_fault_code, W_MQ_fault_in, W_MQ_fault_se, I_MQ, by decide +kernel, by decide +kernel, by decide +kernel⟩
theorem mb_MQ_atom : Mb y_MQ_atom prog_1_method_7_code 3 (some .int) 2 := ⟨W_MQ_atom_code, W_MQ_atom_in, W_MQ_atom_se, I_MQ, by decide +kernel, by decide +kernel, by decide +kernel⟩
theorem mb_MQ_atomByte : Mb y_MQ_atomByte prog_1_method_8_code 3 (some .int) 2 := ⟨W_MQ_atomByte_code, W_MQ_atomByte_in, W_MQ_atomByte_se, I_MQ, by decide +kernel, by decide +kernel, by decide +kernel⟩
theorem mb_MQ_range : Mb y_MQ_range prog_1_method_9_code 3 (some .int) 2 := ⟨W_MQ_range_code, W_MQ_range_in, W_MQ_range_se, I_MQ, by decide +kernel, by decide +kernel, by decide +kernel⟩
theorem mb_MQ_tree : Mb y_MQ_tree prog_1_method_10_code 2 (some .int) 1 := ⟨W_MQ_tree_code, W_MQ_tree_in, W_MQ_tree_se, I_MQ, by decide +kernel, by decide +kernel, by decide +kernel⟩
theorem mb_MQ_print : Mb y_MQ_print prog_1_method_11_code 1 (some .int) 0 := ⟨W_MQ_print_code, W_MQ_print_in, W_MQ_print_se, I_MQ, by decide +kernel, by decide +kernel, by decide +kernel⟩
theorem mb_MQ_printed : Mb y_MQ_printed prog_1_method_12_code 2 (some .int) 1 := ⟨W_MQ_printed_code, W_MQ_printed_in, W_MQ_printed_se, I_MQ, by decide +kernel, by decide +kernel, by decide +kernel⟩
theorem mb_MQ_normal : Mb y_MQ_normal prog_1_method_13_code 1 (some .int) 0 := ⟨W_MQ_normal_code, W_MQ_normal_in, W_MQ_normal_se, I_MQ, by decide +kernel, by decide +kernel, by decide +kernel⟩
theorem mb_MQ_row : Mb y_MQ_row prog_1_method_14_code 3 (some .long) 2 := ⟨W_MQ_row_code, W_MQ_row_in, W_MQ_row_se, I_MQ, by decide +kernel, by decide +kernel, by decide +kernel⟩
theorem mb_MQ_ask : Mb y_MQ_ask prog_1_method_15_code 3 (some .boolean) 1 := ⟨W_MQ_ask_code, W_MQ_ask_in, W_MQ_ask_se, I_MQ, by decide +kernel, by decide +kernel, by decide +kernel⟩
theorem mb_MQ_ways : Mb y_MQ_ways prog_1_method_16_code 1 (some .int) 0 := ⟨W_MQ_ways_code, W_MQ_ways_in, W_MQ_ways_se, I_MQ, by decide +kernel, by decide +kernel, by decide +kernel⟩
def MQ_makeReady_48 (F : Nat) (k2 : StI → Int32 → Int32 → Int32 → Option (StI)) (t : StI) (x1 : Int32) (x2 : Int32) (x3 : Int32) : Option (StI) := k2 t x1 x2 (x3 + (1 : Int32))
def MQ_makeReady_2 (F : Nat) : Nat → StI → Int32 → Int32 → Int32 → Option (StI)
  | 0, _, _, _, _ => none
  | n + 1, t, x1, x2, x3 => if (4 : Int32) ≤ x3 then some t else if (x1 + x3) < 0 then MQ_makeReady_48 F (MQ_makeReady_2 F n) t x1 x2 x3 else if (20 : Int32) ≤ (x1 + x3) then MQ_makeReady_48 F (MQ_makeReady_2 F n) t x1 x2 x3 else if (x1 + x3) < 0 ∨ 20 ≤ (x1 + x3).toNatClampNeg then none else letS (va_up t 0 (upd (t 0) (x1 + x3).toNatClampNeg (vp_nar .char ((((x2.toUInt32 >>> (((24 : Int32) - ((8 : Int32) * x3)).toUInt32 &&& Int32.toUInt32 31)).toInt32 &&& (255 : Int32)).toUInt32 % 65536).toInt32)))) fun t_9 => MQ_makeReady_48 F (MQ_makeReady_2 F n) t_9 x1 x2 x3
def MQ_makeReady (F : Nat) (t : StI) (x1 : Int32) (x2 : Int32) : Option (StI) := MQ_makeReady_2 F F t x1 x2 (0 : Int32)
set_option maxHeartbeats 4000000 in
set_option maxRecDepth 100000 in
theorem k_MQ_makeReady_48 {p : Program} {l : Launch} {e : Env} {s : State} {m : MethodId} {args : Array Value} {below : List Frame} {meth : Method} {c : Code} {g : Gz} {A : Nat → Prop} {F : Nat} {a_t : Nat → Nat} {r_query r_reader r_printer r_rows r_judge : Nat} {k2 : StI → Int32 → Int32 → Int32 → Option (StI)} (hC : Cx prog_1_method_3_code 5 none R_MQ p s m args meth c g A A) : ∀ (t : StI) (x1 : Int32) (x2 : Int32) (x3 : Int32) (res : StI), MQ_makeReady_48 F k2 t x1 x2 x3 = some res → (∀ (t : StI) (x1 : Int32) (x2 : Int32) (x3 : Int32), k2 t x1 x2 x3 = some res → Go p l e rm_MQ_makeReady s m args below meth c g A A 5 (MQ below (EV g ((pic_MQ g a_t r_query r_reader r_printer r_rows r_judge res)) A) args s 0 0 A) ((pic_MQ g a_t r_query r_reader r_printer r_rows r_judge t)) [(0, .ref (a_t 0)), (1, .int x1), (2, .int x2), (3, .int x3)] 2 []) → Go p l e rm_MQ_makeReady s m args below meth c g A A 5 (MQ below (EV g ((pic_MQ g a_t r_query r_reader r_printer r_rows r_judge res)) A) args s 0 0 A) ((pic_MQ g a_t r_query r_reader r_printer r_rows r_judge t)) [(0, .ref (a_t 0)), (1, .int x1), (2, .int x2), (3, .int x3)] 48 [] := by
  obtain ⟨hx, hb, hr, hml, hown, htb, hlocks, hA, hAA, hG⟩ := id hC
  have hK := hG.1
  intro t x1 x2 x3 res h hk2 H locs ls hP hD hS hl
  rw [MQ_makeReady_48] at h
  refine lv_iinc (v := (x3 + (1 : Int32))) (lv' := [(3, .int (x3 + (1 : Int32))), (0, .ref (a_t 0)), (1, .int x1), (2, .int x2)]) hx hb d_MQ_makeReady_48 hl (k := 3) rfl rfl (by decide) rfl (fun ls hl => ?_)
  refine lv_goto (tgt := 2) hx hb d_MQ_makeReady_51 (by decide) ?_
  exact hk2 _ _ _ _ h _ _ _ hP hD hS (lv_sub hl [1, 2, 3, 0] rfl)
set_option maxHeartbeats 4000000 in
set_option maxRecDepth 100000 in
theorem k_MQ_makeReady_2 {p : Program} {l : Launch} {e : Env} {s : State} {m : MethodId} {args : Array Value} {below : List Frame} {meth : Method} {c : Code} {g : Gz} {A : Nat → Prop} {F : Nat} {a_t : Nat → Nat} {r_query r_reader r_printer r_rows r_judge : Nat} (hC : Cx prog_1_method_3_code 5 none R_MQ p s m args meth c g A A) : ∀ (n : Nat) (t : StI) (x1 : Int32) (x2 : Int32) (x3 : Int32) (res : StI), MQ_makeReady_2 F n t x1 x2 x3 = some res → Go p l e rm_MQ_makeReady s m args below meth c g A A 5 (MQ below (EV g ((pic_MQ g a_t r_query r_reader r_printer r_rows r_judge res)) A) args s 0 0 A) ((pic_MQ g a_t r_query r_reader r_printer r_rows r_judge t)) [(0, .ref (a_t 0)), (1, .int x1), (2, .int x2), (3, .int x3)] 2 [] := by
  obtain ⟨hx, hb, hr, hml, hown, htb, hlocks, hA, hAA, hG⟩ := id hC
  have hK := hG.1
  intro n
  induction n with
  | zero => intro t x1 x2 x3 res h; rw [MQ_makeReady_2] at h; cases h
  | succ n ih =>
    intro t x1 x2 x3 res h H locs ls hP hD hS hl
    rw [MQ_makeReady_2] at h
    refine lv_iload_n hx hb d_MQ_makeReady_2 rfl (lv_at hl 3 rfl) ?_
    refine lv_iconst (v := 4) hx hb d_MQ_makeReady_3 (by decide) ?_
    refine lv_icmp_ge (tgt := 54) hx hb d_MQ_makeReady_4 (by decide) (fun c6 => ?_) (fun c6 => ?_)
    · replace h := (if_pos c6).symm.trans h
      cases h
      exact W.vret hx hb hr (fun t ht hW => ⟨⟨(), rfl, trivial, by rw [ht]; exact hP, hD⟩, hS.F ht⟩) hS.2.2 d_MQ_makeReady_54
    · replace h := (if_neg c6).symm.trans h
      refine lv_iload_n hx hb d_MQ_makeReady_7 rfl (lv_at hl 1 rfl) ?_
      refine lv_iload_n hx hb d_MQ_makeReady_8 rfl (lv_at hl 3 rfl) ?_
      refine lv_iadd hx hb d_MQ_makeReady_9 ?_
      refine lv_istore (lv' := [(4, .int (x1 + x3)), (0, .ref (a_t 0)), (1, .int x1), (2, .int x2), (3, .int x3)]) hx hb d_MQ_makeReady_10 hl (by decide) rfl (fun ls hl => ?_)
      refine lv_iload hx hb d_MQ_makeReady_12 (lv_at hl 0 rfl) ?_
      refine lv_if_lt (tgt := 48) hx hb d_MQ_makeReady_14 (by decide) (fun c7 => ?_) (fun c7 => ?_)
      · replace h := (if_pos c7).symm.trans h
        exact k_MQ_makeReady_48 hC _ _ _ _ _ h (fun z0 z1 z2 z3 hz => ih z0 z1 z2 z3 _ hz) _ _ _ hP hD hS (lv_sub hl [1, 2, 3, 4] rfl)
      · replace h := (if_neg c7).symm.trans h
        refine lv_iload hx hb d_MQ_makeReady_17 (lv_at hl 0 rfl) ?_
        refine lv_aload_n hx hb d_MQ_makeReady_19 rfl (lv_at hl 1 rfl) ?_
        refine va_get (D := gD g) (ci := 7) (v := .ref (a_t 1)) (C := R_MQ) (T := T_MQ) (N := 8) hx hb htb in_MQ hown hK hP 0 rfl rfl 0 (by decide) (htb _ L_MQ_9) (fun _ h9 => h9) rfl d_MQ_makeReady_20 ?_
        refine va_alen hx hb hK hP 1 1 rfl rfl rfl d_MQ_makeReady_23 ?_
        refine lv_icmp_ge (tgt := 48) hx hb d_MQ_makeReady_24 (by decide) (fun c8 => ?_) (fun c8 => ?_)
        · replace h := (if_pos c8).symm.trans h
          exact k_MQ_makeReady_48 hC _ _ _ _ _ h (fun z0 z1 z2 z3 hz => ih z0 z1 z2 z3 _ hz) _ _ _ hP hD hS (lv_sub hl [1, 2, 3, 4] rfl)
        · replace h := (if_neg c8).symm.trans h
          refine lv_aload_n hx hb d_MQ_makeReady_27 rfl (lv_at hl 1 rfl) ?_
          refine va_get (D := gD g) (ci := 7) (v := .ref (a_t 1)) (C := R_MQ) (T := T_MQ) (N := 8) hx hb htb in_MQ hown hK hP 0 rfl rfl 0 (by decide) (htb _ L_MQ_9) (fun _ h9 => h9) rfl d_MQ_makeReady_28 ?_
          refine lv_iload hx hb d_MQ_makeReady_31 (lv_at hl 0 rfl) ?_
          refine lv_iload_n hx hb d_MQ_makeReady_33 rfl (lv_at hl 3 rfl) ?_
          refine lv_bipush (v := 24) hx hb d_MQ_makeReady_34 (by decide) ?_
          refine lv_bipush (v := 8) hx hb d_MQ_makeReady_36 (by decide) ?_
          refine lv_iload_n hx hb d_MQ_makeReady_38 rfl (lv_at hl 4 rfl) ?_
          refine lv_imul hx hb d_MQ_makeReady_39 ?_
          refine lv_isub hx hb d_MQ_makeReady_40 ?_
          refine lv_iushr hx hb d_MQ_makeReady_41 rfl ?_
          refine lv_sipush (v := 255) hx hb d_MQ_makeReady_42 (by decide) ?_
          refine lv_iand hx hb d_MQ_makeReady_45 ?_
          refine lv_i2c hx hb d_MQ_makeReady_46 rfl ?_
          by_cases c10 : ((x1 + x3) < 0 ∨ 20 ≤ (x1 + x3).toNatClampNeg)
          · replace h := (if_pos c10).symm.trans h
            cases h
          replace h := (if_neg c10).symm.trans h
          refine va_cast hx hb hK hP hD hS 1 1 rfl rfl c10 d_MQ_makeReady_47 (fun H locs hP hD hS => ?_)
          obtain ⟨t_9, et_9, h⟩ := letS_el h
          have hP : va_P (gD g) vwCl ((pic_MQ g a_t r_query r_reader r_printer r_rows r_judge t_9)) H := by rw [et_9]; exact hP
          have hD : va_D A ((pic_MQ g a_t r_query r_reader r_printer r_rows r_judge t_9)) := by rw [et_9]; exact hD
          exact k_MQ_makeReady_48 hC _ _ _ _ _ h (fun z0 z1 z2 z3 hz => ih z0 z1 z2 z3 _ hz) _ _ _ hP hD hS (lv_sub hl [1, 2, 3, 4] rfl)
set_option maxHeartbeats 4000000 in
set_option maxRecDepth 100000 in
theorem k_MQ_makeReady {p : Program} {l : Launch} {e : Env} {s : State} {m : MethodId} {args : Array Value} {below : List Frame} {meth : Method} {c : Code} {g : Gz} {A : Nat → Prop} {F : Nat} {a_t : Nat → Nat} {r_query r_reader r_printer r_rows r_judge : Nat} (hC : Cx prog_1_method_3_code 5 none R_MQ p s m args meth c g A A) : ∀ (t : StI) (x1 : Int32) (x2 : Int32) (res : StI), MQ_makeReady F t x1 x2 = some res → Go p l e rm_MQ_makeReady s m args below meth c g A A 5 (MQ below (EV g ((pic_MQ g a_t r_query r_reader r_printer r_rows r_judge res)) A) args s 0 0 A) ((pic_MQ g a_t r_query r_reader r_printer r_rows r_judge t)) [(0, .ref (a_t 0)), (1, .int x1), (2, .int x2)] 0 [] := by
  obtain ⟨hx, hb, hr, hml, hown, htb, hlocks, hA, hAA, hG⟩ := id hC
  have hK := hG.1
  intro t x1 x2 res h H locs ls hP hD hS hl
  rw [MQ_makeReady] at h
  refine lv_iconst (v := 0) hx hb d_MQ_makeReady_0 (by decide) ?_
  refine lv_istore_n (lv' := [(3, .int (0 : Int32)), (0, .ref (a_t 0)), (1, .int x1), (2, .int x2)]) hx hb d_MQ_makeReady_1 rfl hl (by decide) rfl (fun ls hl => ?_)
  exact k_MQ_makeReady_2 hC F _ _ _ _ _ h _ _ _ hP hD hS (lv_sub hl [1, 2, 3, 0] rfl)
theorem c_MQ_makeReady (l : Launch) (g : Gz) (F : Nat) (a_t : Nat → Nat) (r_query : Nat) (r_reader : Nat) (r_printer : Nat) (r_rows : Nat) (r_judge : Nat) (t : StI) (x1 : Int32) (x2 : Int32) (res : StI) (h : MQ_makeReady F t x1 x2 = some res) : ∀ sz : Nat, Met l y_MQ_makeReady (.code y_MQ_makeReady prog_1_method_3_code 5 none :: TBL) rm_MQ_makeReady (va_Pc [.ref (a_t 0), .int x1, .int x2] (Pre0 g ((pic_MQ g a_t r_query r_reader r_printer r_rows r_judge t)) sz)) (EV g ((pic_MQ g a_t r_query r_reader r_printer r_rows r_judge res)) (va_A ((pic_MQ g a_t r_query r_reader r_printer r_rows r_judge t)) sz)) 0 0 (va_A ((pic_MQ g a_t r_query r_reader r_printer r_rows r_judge t)) sz) :=
  ct_w (Qc := fun A => EV g ((pic_MQ g a_t r_query r_reader r_printer r_rows r_judge res)) A) (by decide) (Nat.le_of_ble_eq_true rfl) (fun p e s m args below meth c A hC => k_MQ_makeReady hC t x1 x2 res h)
def MQ_feed (F : Nat) (t : StI) (x1 : Int32) (x2 : Int32) (x3 : Int32) (x4 : Int32) (x5 : Int32) : Option (StI) := (MQ_makeReady F t (0 : Int32) x1).bind fun r6 => (MQ_makeReady F r6 (4 : Int32) x2).bind fun r7 => (MQ_makeReady F r7 (8 : Int32) x3).bind fun r8 => (MQ_makeReady F r8 (12 : Int32) x4).bind fun r9 => (MQ_makeReady F r9 (16 : Int32) x5).bind fun r10 => some r10
set_option maxHeartbeats 4000000 in
set_option maxRecDepth 100000 in
theorem k_MQ_feed {p : Program} {l : Launch} {e : Env} {s : State} {m : MethodId} {args : Array Value} {below : List Frame} {meth : Method} {c : Code} {g : Gz} {A : Nat → Prop} {F : Nat} {a_t : Nat → Nat} {r_query r_reader r_printer r_rows r_judge : Nat} (hC : Cx prog_1_method_2_code 6 none R_MQ p s m args meth c g A A) : ∀ (t : StI) (x1 : Int32) (x2 : Int32) (x3 : Int32) (x4 : Int32) (x5 : Int32) (res : StI), MQ_feed F t x1 x2 x3 x4 x5 = some res → Go p l e rm_MQ_feed s m args below meth c g A A 6 (MQ below (EV g ((pic_MQ g a_t r_query r_reader r_printer r_rows r_judge res)) A) args s 0 0 A) ((pic_MQ g a_t r_query r_reader r_printer r_rows r_judge t)) [(0, .ref (a_t 0)), (1, .int x1), (2, .int x2), (3, .int x3), (4, .int x4), (5, .int x5)] 0 [] := by
  obtain ⟨hx, hb, hr, hml, hown, htb, hlocks, hA, hAA, hG⟩ := id hC
  have hK := hG.1
  intro t x1 x2 x3 x4 x5 res h H locs ls hP hD hS hl
  rw [MQ_feed] at h
  refine lv_aload_n hx hb d_MQ_feed_0 rfl (lv_at hl 0 rfl) ?_
  refine lv_iconst (v := 0) hx hb d_MQ_feed_1 (by decide) ?_
  refine lv_iload_n hx hb d_MQ_feed_2 rfl (lv_at hl 1 rfl) ?_
  obtain ⟨r6, hr6, h⟩ := Option.bind_eq_some_iff.mp h
  refine cl_V (wr := []) [0, 1, 2] [] rfl rfl rfl (by decide) hP hD hS hA (va_runV (As := [.int (0 : Int32), .int x1]) (rest := []) ⟨hx, hb, hml, hown, htb⟩ (c_MQ_makeReady l g F a_t r_query r_reader r_printer r_rows r_judge t (0 : Int32) x1 _ hr6 H.size) (cw_V htb mb_MQ_makeReady (htb _ L_MQ_55) rfl rfl ⟨Nat.le_of_ble_eq_true rfl, Nat.le_of_ble_eq_true rfl⟩) (pre_V (va_recv hK hP (ci := 7) (q0 := 0) rfl rfl) (pre_S [0, 1, 2] rfl rfl hP hD hS hA hAA hG)) rfl rfl hl.1 rfl (lv_room (Nat.le_of_ble_eq_true rfl)) d_MQ_feed_3 ⟨Nat.zero_le _, Nat.zero_le _⟩) (fun H locs hP hD hS => ?_)
  have hP : va_P (gD g) vwCl ((pic_MQ g a_t r_query r_reader r_printer r_rows r_judge r6)) H := hP.sub [0, 1, 2] rfl
  have hD : va_D A ((pic_MQ g a_t r_query r_reader r_printer r_rows r_judge r6)) := hD.sub [0, 1, 2] rfl rfl
  refine lv_aload_n hx hb d_MQ_feed_6 rfl (lv_at hl 0 rfl) ?_
  refine lv_iconst (v := 4) hx hb d_MQ_feed_7 (by decide) ?_
  refine lv_iload_n hx hb d_MQ_feed_8 rfl (lv_at hl 2 rfl) ?_
  obtain ⟨r7, hr7, h⟩ := Option.bind_eq_some_iff.mp h
  refine cl_V (wr := []) [0, 1, 2] [] rfl rfl rfl (by decide) hP hD hS hA (va_runV (As := [.int (4 : Int32), .int x2]) (rest := []) ⟨hx, hb, hml, hown, htb⟩ (c_MQ_makeReady l g F a_t r_query r_reader r_printer r_rows r_judge r6 (4 : Int32) x2 _ hr7 H.size) (cw_V htb mb_MQ_makeReady (htb _ L_MQ_55) rfl rfl ⟨Nat.le_of_ble_eq_true rfl, Nat.le_of_ble_eq_true rfl⟩) (pre_V (va_recv hK hP (ci := 7) (q0 := 0) rfl rfl) (pre_S [0, 1, 2] rfl rfl hP hD hS hA hAA hG)) rfl rfl hl.1 rfl (lv_room (Nat.le_of_ble_eq_true rfl)) d_MQ_feed_9 ⟨Nat.zero_le _, Nat.zero_le _⟩) (fun H locs hP hD hS => ?_)
  have hP : va_P (gD g) vwCl ((pic_MQ g a_t r_query r_reader r_printer r_rows r_judge r7)) H := hP.sub [0, 1, 2] rfl
  have hD : va_D A ((pic_MQ g a_t r_query r_reader r_printer r_rows r_judge r7)) := hD.sub [0, 1, 2] rfl rfl
  refine lv_aload_n hx hb d_MQ_feed_12 rfl (lv_at hl 0 rfl) ?_
  refine lv_bipush (v := 8) hx hb d_MQ_feed_13 (by decide) ?_
  refine lv_iload_n hx hb d_MQ_feed_15 rfl (lv_at hl 3 rfl) ?_
  obtain ⟨r8, hr8, h⟩ := Option.bind_eq_some_iff.mp h
  refine cl_V (wr := []) [0, 1, 2] [] rfl rfl rfl (by decide) hP hD hS hA (va_runV (As := [.int (8 : Int32), .int x3]) (rest := []) ⟨hx, hb, hml, hown, htb⟩ (c_MQ_makeReady l g F a_t r_query r_reader r_printer r_rows r_judge r7 (8 : Int32) x3 _ hr8 H.size) (cw_V htb mb_MQ_makeReady (htb _ L_MQ_55) rfl rfl ⟨Nat.le_of_ble_eq_true rfl, Nat.le_of_ble_eq_true rfl⟩) (pre_V (va_recv hK hP (ci := 7) (q0 := 0) rfl rfl) (pre_S [0, 1, 2] rfl rfl hP hD hS hA hAA hG)) rfl rfl hl.1 rfl (lv_room (Nat.le_of_ble_eq_true rfl)) d_MQ_feed_16 ⟨Nat.zero_le _, Nat.zero_le _⟩) (fun H locs hP hD hS => ?_)
  have hP : va_P (gD g) vwCl ((pic_MQ g a_t r_query r_reader r_printer r_rows r_judge r8)) H := hP.sub [0, 1, 2] rfl
  have hD : va_D A ((pic_MQ g a_t r_query r_reader r_printer r_rows r_judge r8)) := hD.sub [0, 1, 2] rfl rfl
  refine lv_aload_n hx hb d_MQ_feed_19 rfl (lv_at hl 0 rfl) ?_
  refine lv_bipush (v := 12) hx hb d_MQ_feed_20 (by decide) ?_
  refine lv_iload hx hb d_MQ_feed_22 (lv_at hl 4 rfl) ?_
  obtain ⟨r9, hr9, h⟩ := Option.bind_eq_some_iff.mp h
  refine cl_V (wr := []) [0, 1, 2] [] rfl rfl rfl (by decide) hP hD hS hA (va_runV (As := [.int (12 : Int32), .int x4]) (rest := []) ⟨hx, hb, hml, hown, htb⟩ (c_MQ_makeReady l g F a_t r_query r_reader r_printer r_rows r_judge r8 (12 : Int32) x4 _ hr9 H.size) (cw_V htb mb_MQ_makeReady (htb _ L_MQ_55) rfl rfl ⟨Nat.le_of_ble_eq_true rfl, Nat.le_of_ble_eq_true rfl⟩) (pre_V (va_recv hK hP (ci := 7) (q0 := 0) rfl rfl) (pre_S [0, 1, 2] rfl rfl hP hD hS hA hAA hG)) rfl rfl hl.1 rfl (lv_room (Nat.le_of_ble_eq_true rfl)) d_MQ_feed_24 ⟨Nat.zero_le _, Nat.zero_le _⟩) (fun H locs hP hD hS => ?_)
  have hP : va_P (gD g) vwCl ((pic_MQ g a_t r_query r_reader r_printer r_rows r_judge r9)) H := hP.sub [0, 1, 2] rfl
  have hD : va_D A ((pic_MQ g a_t r_query r_reader r_printer r_rows r_judge r9)) := hD.sub [0, 1, 2] rfl rfl
  refine lv_aload_n hx hb d_MQ_feed_27 rfl (lv_at hl 0 rfl) ?_
  refine lv_bipush (v := 16) hx hb d_MQ_feed_28 (by decide) ?_
  refine lv_iload hx hb d_MQ_feed_30 (lv_at hl 5 rfl) ?_
  obtain ⟨r10, hr10, h⟩ := Option.bind_eq_some_iff.mp h
  refine cl_V (wr := []) [0, 1, 2] [] rfl rfl rfl (by decide) hP hD hS hA (va_runV (As := [.int (16 : Int32), .int x5]) (rest := []) ⟨hx, hb, hml, hown, htb⟩ (c_MQ_makeReady l g F a_t r_query r_reader r_printer r_rows r_judge r9 (16 : Int32) x5 _ hr10 H.size) (cw_V htb mb_MQ_makeReady (htb _ L_MQ_55) rfl rfl ⟨Nat.le_of_ble_eq_true rfl, Nat.le_of_ble_eq_true rfl⟩) (pre_V (va_recv hK hP (ci := 7) (q0 := 0) rfl rfl) (pre_S [0, 1, 2] rfl rfl hP hD hS hA hAA hG)) rfl rfl hl.1 rfl (lv_room (Nat.le_of_ble_eq_true rfl)) d_MQ_feed_32 ⟨Nat.zero_le _, Nat.zero_le _⟩) (fun H locs hP hD hS => ?_)
  have hP : va_P (gD g) vwCl ((pic_MQ g a_t r_query r_reader r_printer r_rows r_judge r10)) H := hP.sub [0, 1, 2] rfl
  have hD : va_D A ((pic_MQ g a_t r_query r_reader r_printer r_rows r_judge r10)) := hD.sub [0, 1, 2] rfl rfl
  cases h
  exact W.vret hx hb hr (fun t ht hW => ⟨⟨(), rfl, trivial, by rw [ht]; exact hP, hD⟩, hS.F ht⟩) hS.2.2 d_MQ_feed_35
theorem c_MQ_feed (l : Launch) (g : Gz) (F : Nat) (a_t : Nat → Nat) (r_query : Nat) (r_reader : Nat) (r_printer : Nat) (r_rows : Nat) (r_judge : Nat) (t : StI) (x1 : Int32) (x2 : Int32) (x3 : Int32) (x4 : Int32) (x5 : Int32) (res : StI) (h : MQ_feed F t x1 x2 x3 x4 x5 = some res) : ∀ sz : Nat, Met l y_MQ_feed (.code y_MQ_feed prog_1_method_2_code 6 none :: TBL) rm_MQ_feed (va_Pc [.ref (a_t 0), .int x1, .int x2, .int x3, .int x4, .int x5] (Pre0 g ((pic_MQ g a_t r_query r_reader r_printer r_rows r_judge t)) sz)) (EV g ((pic_MQ g a_t r_query r_reader r_printer r_rows r_judge res)) (va_A ((pic_MQ g a_t r_query r_reader r_printer r_rows r_judge t)) sz)) 0 0 (va_A ((pic_MQ g a_t r_query r_reader r_printer r_rows r_judge t)) sz) :=
  ct_w (Qc := fun A => EV g ((pic_MQ g a_t r_query r_reader r_printer r_rows r_judge res)) A) (by decide) (Nat.le_of_ble_eq_true rfl) (fun p e s m args below meth c A hC => k_MQ_feed hC t x1 x2 x3 x4 x5 res h)
def MQ_end (F : Nat) (t : StI) (x1 : Int32) : Option (Int32 × StI) := if x1 < 0 then some ((-1 : Int32), t) else if (20 : Int32) < x1 then some ((-1 : Int32), t) else if ((t 2 0) + x1) ≤ (600 : Int32) then if (0 : Int32) < 0 then none else if (t 2 0) < 0 then none else if x1 < 0 then none else if 20 < (0 : Int32).toNatClampNeg + x1.toNatClampNeg then none else if 600 < (t 2 0).toNatClampNeg + x1.toNatClampNeg then none else if ∀ i, i < x1.toNatClampNeg → fits .char (.int ((t 0) ((0 : Int32).toNatClampNeg + i))) = true then letS (va_up t 1 (va_cpy (t 0) (t 1) (0 : Int32).toNatClampNeg (t 2 0).toNatClampNeg x1.toNatClampNeg)) fun t_16 => letS (va_up t_16 2 (fun _ => ((t_16 2 0) + x1))) fun t_23 => (MQ_feed F t_23 (0 : Int32) (0 : Int32) (0 : Int32) (0 : Int32) (0 : Int32)).bind fun r24 => some ((r24 2 0), r24) else none else some ((-1 : Int32), t)
set_option maxHeartbeats 4000000 in
set_option maxRecDepth 100000 in
theorem k_MQ_end {p : Program} {l : Launch} {e : Env} {s : State} {m : MethodId} {args : Array Value} {below : List Frame} {meth : Method} {c : Code} {g : Gz} {A : Nat → Prop} {F : Nat} {a_t : Nat → Nat} {r_query r_reader r_printer r_rows r_judge : Nat} (hC : Cx prog_1_method_4_code 2 (some .int) R_MQ p s m args meth c g A A) : ∀ (t : StI) (x1 : Int32) (res : Int32 × StI), MQ_end F t x1 = some res → Go p l e rm_MQ_end s m args below meth c g A A 2 (MQ below (EI g ((pic_MQ g a_t r_query r_reader r_printer r_rows r_judge res.2)) res.1 A) args s 0 0 A) ((pic_MQ g a_t r_query r_reader r_printer r_rows r_judge t)) [(0, .ref (a_t 0)), (1, .int x1)] 0 [] := by
  obtain ⟨hx, hb, hr, hml, hown, htb, hlocks, hA, hAA, hG⟩ := id hC
  have hK := hG.1
  intro t x1 res h H locs ls hP hD hS hl
  rw [MQ_end] at h
  refine lv_iload_n hx hb d_MQ_end_0 rfl (lv_at hl 1 rfl) ?_
  refine lv_if_lt (tgt := 22) hx hb d_MQ_end_1 (by decide) (fun c13 => ?_) (fun c13 => ?_)
  · replace h := (if_pos c13).symm.trans h
    refine lv_iconst (v := -1) hx hb d_MQ_end_22 (by decide) ?_
    cases h
    exact W.iret hx hb hr (fun t ht hW => ⟨⟨_, (), rfl, rfl, by rw [ht]; exact hP, hD⟩, hS.F ht⟩) hS.2.2 d_MQ_end_23
  · replace h := (if_neg c13).symm.trans h
    refine lv_iload_n hx hb d_MQ_end_4 rfl (lv_at hl 1 rfl) ?_
    refine lv_bipush (v := 20) hx hb d_MQ_end_5 (by decide) ?_
    refine lv_icmp_gt (tgt := 22) hx hb d_MQ_end_7 (by decide) (fun c14 => ?_) (fun c14 => ?_)
    · replace h := (if_pos c14).symm.trans h
      refine lv_iconst (v := -1) hx hb d_MQ_end_22 (by decide) ?_
      cases h
      exact W.iret hx hb hr (fun t ht hW => ⟨⟨_, (), rfl, rfl, by rw [ht]; exact hP, hD⟩, hS.F ht⟩) hS.2.2 d_MQ_end_23
    · replace h := (if_neg c14).symm.trans h
      refine lv_aload_n hx hb d_MQ_end_10 rfl (lv_at hl 0 rfl) ?_
      refine va_get (D := gD g) (ci := 7) (v := .int (t 2 0)) (C := R_MQ) (T := T_MQ) (N := 8) hx hb htb in_MQ hown hK hP 0 rfl rfl 2 (by decide) (htb _ L_MQ_16) (fun _ h9 => h9) rfl d_MQ_end_11 ?_
      refine lv_iload_n hx hb d_MQ_end_14 rfl (lv_at hl 1 rfl) ?_
      refine lv_iadd hx hb d_MQ_end_15 ?_
      refine lv_sipush (v := 600) hx hb d_MQ_end_16 (by decide) ?_
      refine lv_icmp_le (tgt := 24) hx hb d_MQ_end_19 (by decide) (fun c15 => ?_) (fun c15 => ?_)
      · replace h := (if_pos c15).symm.trans h
        refine lv_aload_n hx hb d_MQ_end_24 rfl (lv_at hl 0 rfl) ?_
        refine va_get (D := gD g) (ci := 7) (v := .ref (a_t 1)) (C := R_MQ) (T := T_MQ) (N := 8) hx hb htb in_MQ hown hK hP 0 rfl rfl 0 (by decide) (htb _ L_MQ_9) (fun _ h9 => h9) rfl d_MQ_end_25 ?_
        refine lv_iconst (v := 0) hx hb d_MQ_end_28 (by decide) ?_
        refine lv_aload_n hx hb d_MQ_end_29 rfl (lv_at hl 0 rfl) ?_
        refine va_get (D := gD g) (ci := 7) (v := .ref (a_t 2)) (C := R_MQ) (T := T_MQ) (N := 8) hx hb htb in_MQ hown hK hP 0 rfl rfl 1 (by decide) (htb _ L_MQ_13) (fun _ h9 => h9) rfl d_MQ_end_30 ?_
        refine lv_aload_n hx hb d_MQ_end_33 rfl (lv_at hl 0 rfl) ?_
        refine va_get (D := gD g) (ci := 7) (v := .int (t 2 0)) (C := R_MQ) (T := T_MQ) (N := 8) hx hb htb in_MQ hown hK hP 0 rfl rfl 2 (by decide) (htb _ L_MQ_16) (fun _ h9 => h9) rfl d_MQ_end_34 ?_
        refine lv_iload_n hx hb d_MQ_end_37 rfl (lv_at hl 1 rfl) ?_
        by_cases c17 : (0 : Int32) < 0
        · replace h := (if_pos c17).symm.trans h
          cases h
        replace h := (if_neg c17).symm.trans h
        by_cases c18 : (t 2 0) < 0
        · replace h := (if_pos c18).symm.trans h
          cases h
        replace h := (if_neg c18).symm.trans h
        by_cases c19 : x1 < 0
        · replace h := (if_pos c19).symm.trans h
          cases h
        replace h := (if_neg c19).symm.trans h
        by_cases c20 : 20 < (0 : Int32).toNatClampNeg + x1.toNatClampNeg
        · replace h := (if_pos c20).symm.trans h
          cases h
        replace h := (if_neg c20).symm.trans h
        by_cases c21 : 600 < (t 2 0).toNatClampNeg + x1.toNatClampNeg
        · replace h := (if_pos c21).symm.trans h
          cases h
        replace h := (if_neg c21).symm.trans h
        by_cases c22 : (∀ i, i < x1.toNatClampNeg → fits .char (.int ((t 0) ((0 : Int32).toNatClampNeg + i))) = true)
        rotate_left
        · replace h := (if_neg c22).symm.trans h
          cases h
        replace h := (if_pos c22).symm.trans h
        refine va_copyi hx hb (hml.trans hl.1.symm) hown (htb _ L_MQ_59) (htb _ W_copy_native) (htb _ W_copy_static) (htb _ W_system_init) hK hP hD hS 1 2 1 1 rfl rfl rfl rfl rfl c17 c18 c19 (Nat.not_lt.mp c20) (Nat.not_lt.mp c21) c22 (Nat.le_of_ble_eq_true rfl) (by decide +kernel) d_MQ_end_38 (fun H locs hP hD hS => ?_)
        obtain ⟨t_16, et_16, h⟩ := letS_el h
        have hP : va_P (gD g) vwCl ((pic_MQ g a_t r_query r_reader r_printer r_rows r_judge t_16)) H := by rw [et_16]; exact hP
        have hD : va_D A ((pic_MQ g a_t r_query r_reader r_printer r_rows r_judge t_16)) := by rw [et_16]; exact hD
        refine lv_aload_n hx hb d_MQ_end_41 rfl (lv_at hl 0 rfl) ?_
        refine lv_dup hx hb d_MQ_end_42 rfl ?_
        refine va_get (D := gD g) (ci := 7) (v := .int (t_16 2 0)) (C := R_MQ) (T := T_MQ) (N := 8) hx hb htb in_MQ hown hK hP 0 rfl rfl 2 (by decide) (htb _ L_MQ_16) (fun _ h9 => h9) rfl d_MQ_end_43 ?_
        refine lv_iload_n hx hb d_MQ_end_46 rfl (lv_at hl 1 rfl) ?_
        refine lv_iadd hx hb d_MQ_end_47 ?_
        refine va_put (D := gD g) (ci := 7) (v := .int ((t_16 2 0) + x1)) (ty := .int) (C := R_MQ) (T := T_MQ) (N := 8) hx hb htb in_MQ ty_MQ ty_MQ_ok nm_MQ hown hK hP hD hS 0 rfl rfl 2 (by decide) (htb _ L_MQ_16) (fun _ h9 => h9) rfl (by decide +kernel) rfl rfl (Nat.le_of_ble_eq_true rfl) d_MQ_end_48 (fun H locs hP hD hS => ?_)
        obtain ⟨t_23, et_23, h⟩ := letS_el h
        have hP : va_P (gD g) vwCl ((pic_MQ g a_t r_query r_reader r_printer r_rows r_judge t_23)) H := by rw [et_23]; exact hP
        have hD : va_D A ((pic_MQ g a_t r_query r_reader r_printer r_rows r_judge t_23)) := by rw [et_23]; exact hD
        refine lv_aload_n hx hb d_MQ_end_51 rfl (lv_at hl 0 rfl) ?_
        refine lv_iconst (v := 0) hx hb d_MQ_end_52 (by decide) ?_
        refine lv_iconst (v := 0) hx hb d_MQ_end_53 (by decide) ?_
        refine lv_iconst (v := 0) hx hb d_MQ_end_54 (by decide) ?_
        refine lv_iconst (v := 0) hx hb d_MQ_end_55 (by decide) ?_
        refine lv_iconst (v := 0) hx hb d_MQ_end_56 (by decide) ?_
        obtain ⟨r24, hr24, h⟩ := Option.bind_eq_some_iff.mp h
        refine cl_V (wr := []) [0, 1, 2] [] rfl rfl rfl (by decide) hP hD hS hA (va_runV (As := [.int (0 : Int32), .int (0 : Int32), .int (0 : Int32), .int (0 : Int32), .int (0 : Int32)]) (rest := []) ⟨hx, hb, hml, hown, htb⟩ (c_MQ_feed l g F a_t r_query r_reader r_printer r_rows r_judge t_23 (0 : Int32) (0 : Int32) (0 : Int32) (0 : Int32) (0 : Int32) _ hr24 H.size) (cw_V htb mb_MQ_feed (htb _ L_MQ_65) rfl rfl ⟨Nat.le_of_ble_eq_true rfl, Nat.le_of_ble_eq_true rfl⟩) (pre_V (va_recv hK hP (ci := 7) (q0 := 0) rfl rfl) (pre_S [0, 1, 2] rfl rfl hP hD hS hA hAA hG)) rfl rfl hl.1 rfl (lv_room (Nat.le_of_ble_eq_true rfl)) d_MQ_end_57 ⟨Nat.zero_le _, Nat.zero_le _⟩) (fun H locs hP hD hS => ?_)
        have hP : va_P (gD g) vwCl ((pic_MQ g a_t r_query r_reader r_printer r_rows r_judge r24)) H := hP.sub [0, 1, 2] rfl
        have hD : va_D A ((pic_MQ g a_t r_query r_reader r_printer r_rows r_judge r24)) := hD.sub [0, 1, 2] rfl rfl
        refine lv_aload_n hx hb d_MQ_end_60 rfl (lv_at hl 0 rfl) ?_
        refine va_get (D := gD g) (ci := 7) (v := .int (r24 2 0)) (C := R_MQ) (T := T_MQ) (N := 8) hx hb htb in_MQ hown hK hP 0 rfl rfl 2 (by decide) (htb _ L_MQ_16) (fun _ h9 => h9) rfl d_MQ_end_61 ?_
        cases h
        exact W.iret hx hb hr (fun t ht hW => ⟨⟨_, (), rfl, rfl, by rw [ht]; exact hP, hD⟩, hS.F ht⟩) hS.2.2 d_MQ_end_64
      · replace h := (if_neg c15).symm.trans h
        refine lv_iconst (v := -1) hx hb d_MQ_end_22 (by decide) ?_
        cases h
        exact W.iret hx hb hr (fun t ht hW => ⟨⟨_, (), rfl, rfl, by rw [ht]; exact hP, hD⟩, hS.F ht⟩) hS.2.2 d_MQ_end_23
theorem c_MQ_end (l : Launch) (g : Gz) (F : Nat) (a_t : Nat → Nat) (r_query : Nat) (r_reader : Nat) (r_printer : Nat) (r_rows : Nat) (r_judge : Nat) (t : StI) (x1 : Int32) (res : Int32 × StI) (h : MQ_end F t x1 = some res) : ∀ sz : Nat, Met l y_MQ_end (.code y_MQ_end prog_1_method_4_code 2 (some .int) :: TBL) rm_MQ_end (va_Pc [.ref (a_t 0), .int x1] (Pre0 g ((pic_MQ g a_t r_query r_reader r_printer r_rows r_judge t)) sz)) (EI g ((pic_MQ g a_t r_query r_reader r_printer r_rows r_judge res.2)) res.1 (va_A ((pic_MQ g a_t r_query r_reader r_printer r_rows r_judge t)) sz)) 0 0 (va_A ((pic_MQ g a_t r_query r_reader r_printer r_rows r_judge t)) sz) :=
  ct_w (Qc := fun A => EI g ((pic_MQ g a_t r_query r_reader r_printer r_rows r_judge res.2)) res.1 A) (by decide) (Nat.le_of_ble_eq_true rfl) (fun p e s m args below meth c A hC => k_MQ_end hC t x1 res h)
def MQ_fault (F : Nat) (t : StI) (reader : StI) (x1 : Int32) : Option (Int32) := if x1 = (0 : Int32) then some (reader 2 0) else if x1 = (1 : Int32) then some (reader 3 0) else some (-1 : Int32)
set_option maxHeartbeats 4000000 in
set_option maxRecDepth 100000 in
theorem k_MQ_fault {p : Program} {l : Launch} {e : Env} {s : State} {m : MethodId} {args : Array Value} {below : List Frame} {meth : Method} {c : Code} {g : Gz} {A2 A : Nat → Prop} {F : Nat} {a_t a_reader : Nat → Nat} {r_query r_printer r_rows r_judge r_reader_query r_reader_span : Nat} (hC : Cx prog_1_method_6_code 2 (some .int) R_MQ p s m args meth c g A2 A) : ∀ (t : StI) (reader : StI) (x1 : Int32) (res : Int32), MQ_fault F t reader x1 = some res → Go p l e rm_MQ_fault s m args below meth c g A2 A 2 (MQ below (RI res A) args s 0 0 A) ((pic_MQ g a_t r_query (a_reader 0) r_printer r_rows r_judge t) ++ (pic_Reader g a_reader r_reader_query r_reader_span reader)) [(0, .ref (a_t 0)), (1, .int x1)] 0 [] := by
  obtain ⟨hx, hb, hr, hml, hown, htb, hlocks, hA, hAA, hG⟩ := id hC
  have hK := hG.1
  intro t reader x1 res h H locs ls hP hD hS hl
  rw [MQ_fault] at h
  refine lv_iload_n hx hb d_MQ_fault_0 rfl (lv_at hl 1 rfl) ?_
  by_cases c3 : x1 = (0 : Int32)
  · replace h := (if_pos c3).symm.trans h
    refine lv_lookup (off := 27) (tgt := 28) hx hb d_MQ_fault_1 (by decide) (by rw [c3]; rfl) (by decide) ?_
    refine lv_aload_n hx hb d_MQ_fault_28 rfl (lv_at hl 0 rfl) ?_
    refine va_get (D := gD g) (ci := 7) (v := .ref (a_reader 0)) (C := R_MQ) (T := T_MQ) (N := 8) hx hb htb in_MQ hown hK hP 0 rfl rfl 4 (by decide) (htb _ L_MQ_30) (fun _ h9 => h9) rfl d_MQ_fault_29 ?_
    refine va_getN (D := gD g) (ci := 3) (v := .int (reader 2 0)) (C := R_Reader) (T := T_Reader) (N := 9) hx hb htb in_Reader hown hK hP 3 rfl rfl 2 (by decide) (nf_of hG N_MQ_87) (fun _ h9 => h9) rfl d_MQ_fault_32 ?_
    cases h
    exact W.iret hx hb hr (fun t ht hW => ⟨⟨_, (), rfl, rfl, trivial⟩, hS.F ht⟩) hS.2.2 d_MQ_fault_35
  replace h := (if_neg c3).symm.trans h
  by_cases c4 : x1 = (1 : Int32)
  · replace h := (if_pos c4).symm.trans h
    refine lv_lookup (off := 35) (tgt := 36) hx hb d_MQ_fault_1 (by decide) (by rw [c4]; rfl) (by decide) ?_
    refine lv_aload_n hx hb d_MQ_fault_36 rfl (lv_at hl 0 rfl) ?_
    refine va_get (D := gD g) (ci := 7) (v := .ref (a_reader 0)) (C := R_MQ) (T := T_MQ) (N := 8) hx hb htb in_MQ hown hK hP 0 rfl rfl 4 (by decide) (htb _ L_MQ_30) (fun _ h9 => h9) rfl d_MQ_fault_37 ?_
    refine va_getN (D := gD g) (ci := 3) (v := .int (reader 3 0)) (C := R_Reader) (T := T_Reader) (N := 9) hx hb htb in_Reader hown hK hP 3 rfl rfl 3 (by decide) (nf_of hG N_MQ_90) (fun _ h9 => h9) rfl d_MQ_fault_40 ?_
    cases h
    exact W.iret hx hb hr (fun t ht hW => ⟨⟨_, (), rfl, rfl, trivial⟩, hS.F ht⟩) hS.2.2 d_MQ_fault_43
  replace h := (if_neg c4).symm.trans h
  refine lv_lookup (off := 43) (tgt := 44) hx hb d_MQ_fault_1 (by decide) (by show Op.lookupswitch.offset [(0, 27), (1, 35)] (43) _ = _; rw [lv_osw c3 (by decide), lv_osw c4 (by decide)]; rfl) (by decide) ?_
  refine lv_iconst (v := -1) hx hb d_MQ_fault_44 (by decide) ?_
  cases h
  exact W.iret hx hb hr (fun t ht hW => ⟨⟨_, (), rfl, rfl, trivial⟩, hS.F ht⟩) hS.2.2 d_MQ_fault_45
theorem c_MQ_fault (l : Launch) (g : Gz) (F : Nat) (a_t : Nat → Nat) (a_reader : Nat → Nat) (r_query : Nat) (r_printer : Nat) (r_rows : Nat) (r_judge : Nat) (r_reader_query : Nat) (r_reader_span : Nat) (t : StI) (reader : StI) (x1 : Int32) (res : Int32) (h : MQ_fault F t reader x1 = some res) : ∀ sz : Nat, Met l y_MQ_fault (.code y_MQ_fault prog_1_method_6_code 2 (some .int) :: TBL) rm_MQ_fault (va_Pc [.ref (a_t 0), .int x1] (Pre0 g ((pic_MQ g a_t r_query (a_reader 0) r_printer r_rows r_judge t) ++ (pic_Reader g a_reader r_reader_query r_reader_span reader)) sz)) (RI res (fun q => sz ≤ q)) 0 0 (fun q => sz ≤ q) :=
  ct_r (Qc := fun A => RI res A) (by decide) (Nat.le_of_ble_eq_true rfl) (fun p e s m args below meth c A2 A hC => k_MQ_fault hC t reader x1 res h)
def MQ_atom (F : Nat) (t : StI) (query : StI) (x1 : Int32) (x2 : Int32) : Option (Int32) := (Query_has F query x1).bind fun r14 => if r14 = 0 then some (-1 : Int32) else if x2 = (0 : Int32) then if x1 < 0 ∨ 40 ≤ x1.toNatClampNeg then none else some ((query 4) x1.toNatClampNeg) else if x2 = (1 : Int32) then if x1 < 0 ∨ 40 ≤ x1.toNatClampNeg then none else if ((query 5) x1.toNatClampNeg) = 0 then some (0 : Int32) else some (1 : Int32) else if x2 = (2 : Int32) then if x1 < 0 ∨ 40 ≤ x1.toNatClampNeg then none else some ((query 7) x1.toNatClampNeg) else if x2 = (3 : Int32) then if x1 < 0 ∨ 40 ≤ x1.toNatClampNeg then none else some ((query 8) x1.toNatClampNeg) else if x2 = (4 : Int32) then if x1 < 0 ∨ 40 ≤ x1.toNatClampNeg then none else some ((query 11) x1.toNatClampNeg) else some (-1 : Int32)
set_option maxHeartbeats 4000000 in
set_option maxRecDepth 100000 in
theorem k_MQ_atom {p : Program} {l : Launch} {e : Env} {s : State} {m : MethodId} {args : Array Value} {below : List Frame} {meth : Method} {c : Code} {g : Gz} {A2 A : Nat → Prop} {F : Nat} {a_t a_query : Nat → Nat} {r_reader r_printer r_rows r_judge : Nat} (hC : Cx prog_1_method_7_code 3 (some .int) R_MQ p s m args meth c g A2 A) : ∀ (t : StI) (query : StI) (x1 : Int32) (x2 : Int32) (res : Int32), MQ_atom F t query x1 x2 = some res → Go p l e rm_MQ_atom s m args below meth c g A2 A 3 (MQ below (RI res A) args s 0 0 A) ((pic_MQ g a_t (a_query 0) r_reader r_printer r_rows r_judge t) ++ (pic_Query g a_query query)) [(0, .ref (a_t 0)), (1, .int x1), (2, .int x2)] 0 [] := by
  obtain ⟨hx, hb, hr, hml, hown, htb, hlocks, hA, hAA, hG⟩ := id hC
  have hK := hG.1
  intro t query x1 x2 res h H locs ls hP hD hS hl
  rw [MQ_atom] at h
  refine lv_aload_n hx hb d_MQ_atom_0 rfl (lv_at hl 0 rfl) ?_
  refine va_get (D := gD g) (ci := 7) (v := .ref (a_query 0)) (C := R_MQ) (T := T_MQ) (N := 8) hx hb htb in_MQ hown hK hP 0 rfl rfl 3 (by decide) (htb _ L_MQ_23) (fun _ h9 => h9) rfl d_MQ_atom_1 ?_
  refine lv_iload_n hx hb d_MQ_atom_4 rfl (lv_at hl 1 rfl) ?_
  obtain ⟨r14, hr14, h⟩ := Option.bind_eq_some_iff.mp h
  refine cl_Ir hP hS hA (va_runV (As := [.int x1]) (rest := []) ⟨hx, hb, hml, hown, htb⟩ (c_Query_has l g F a_query query x1 _ hr14 H.size) (cw_V htb mb_Query_has (htb _ L_MQ_93) rfl rfl ⟨Nat.le_of_ble_eq_true rfl, Nat.le_of_ble_eq_true rfl⟩) (pre_V (va_recv hK hP (ci := 1) (q0 := 3) rfl rfl) (pre_S [3, 4, 5, 6, 7, 8, 9, 10, 11, 12, 13] rfl rfl hP hD hS hA hAA hG)) rfl rfl hl.1 rfl (lv_room (Nat.le_of_ble_eq_true rfl)) d_MQ_atom_5 ⟨Nat.zero_le _, Nat.zero_le _⟩) (fun H locs hP hS => ?_)
  refine lv_if_ne (tgt := 13) hx hb d_MQ_atom_8 (by decide) (fun c15 => ?_) (fun c15 => ?_)
  · replace h := (if_neg c15).symm.trans h
    refine lv_iload_n hx hb d_MQ_atom_13 rfl (lv_at hl 2 rfl) ?_
    by_cases c16 : x2 = (0 : Int32)
    · replace h := (if_pos c16).symm.trans h
      refine lv_tableIn (off := 34) (tgt := 48) hx hb d_MQ_atom_14 (by rw [c16]; decide) (by rw [c16]; decide) (by rw [c16]; rfl) (by decide) ?_
      refine lv_aload_n hx hb d_MQ_atom_48 rfl (lv_at hl 0 rfl) ?_
      refine va_get (D := gD g) (ci := 7) (v := .ref (a_query 0)) (C := R_MQ) (T := T_MQ) (N := 8) hx hb htb in_MQ hown hK hP 0 rfl rfl 3 (by decide) (htb _ L_MQ_23) (fun _ h9 => h9) rfl d_MQ_atom_49 ?_
      refine va_getN (D := gD g) (ci := 1) (v := .ref (a_query 5)) (C := R_Query) (T := T_Query) (N := 14) hx hb htb in_Query hown hK hP 3 rfl rfl 4 (by decide) (nf_of hG N_MQ_97) (fun _ h9 => h9) rfl d_MQ_atom_52 ?_
      refine lv_iload_n hx hb d_MQ_atom_55 rfl (lv_at hl 1 rfl) ?_
      by_cases c26 : (x1 < 0 ∨ 40 ≤ x1.toNatClampNeg)
      · replace h := (if_pos c26).symm.trans h
        cases h
      replace h := (if_neg c26).symm.trans h
      refine va_iald hx hb hK hP 5 0 rfl rfl c26 d_MQ_atom_56 ?_
      cases h
      exact W.iret hx hb hr (fun t ht hW => ⟨⟨_, (), rfl, rfl, trivial⟩, hS.F ht⟩) hS.2.2 d_MQ_atom_57
    replace h := (if_neg c16).symm.trans h
    by_cases c17 : x2 = (1 : Int32)
    · replace h := (if_pos c17).symm.trans h
      refine lv_tableIn (off := 44) (tgt := 58) hx hb d_MQ_atom_14 (by rw [c17]; decide) (by rw [c17]; decide) (by rw [c17]; rfl) (by decide) ?_
      refine lv_aload_n hx hb d_MQ_atom_58 rfl (lv_at hl 0 rfl) ?_
      refine va_get (D := gD g) (ci := 7) (v := .ref (a_query 0)) (C := R_MQ) (T := T_MQ) (N := 8) hx hb htb in_MQ hown hK hP 0 rfl rfl 3 (by decide) (htb _ L_MQ_23) (fun _ h9 => h9) rfl d_MQ_atom_59 ?_
      refine va_getN (D := gD g) (ci := 1) (v := .ref (a_query 6)) (C := R_Query) (T := T_Query) (N := 14) hx hb htb in_Query hown hK hP 3 rfl rfl 5 (by decide) (nf_of hG N_MQ_101) (fun _ h9 => h9) rfl d_MQ_atom_62 ?_
      refine lv_iload_n hx hb d_MQ_atom_65 rfl (lv_at hl 1 rfl) ?_
      by_cases c24 : (x1 < 0 ∨ 40 ≤ x1.toNatClampNeg)
      · replace h := (if_pos c24).symm.trans h
        cases h
      replace h := (if_neg c24).symm.trans h
      refine va_zald hx hb hK hP 6 2 rfl rfl c24 d_MQ_atom_66 ?_
      refine lv_if_eq (tgt := 74) hx hb d_MQ_atom_67 (by decide) (fun c25 => ?_) (fun c25 => ?_)
      · replace h := (if_pos c25).symm.trans h
        refine lv_iconst (v := 0) hx hb d_MQ_atom_74 (by decide) ?_
        cases h
        exact W.iret hx hb hr (fun t ht hW => ⟨⟨_, (), rfl, rfl, trivial⟩, hS.F ht⟩) hS.2.2 d_MQ_atom_75
      · replace h := (if_neg c25).symm.trans h
        refine lv_iconst (v := 1) hx hb d_MQ_atom_70 (by decide) ?_
        refine lv_goto (tgt := 75) hx hb d_MQ_atom_71 (by decide) ?_
        cases h
        exact W.iret hx hb hr (fun t ht hW => ⟨⟨_, (), rfl, rfl, trivial⟩, hS.F ht⟩) hS.2.2 d_MQ_atom_75
    replace h := (if_neg c17).symm.trans h
    by_cases c18 : x2 = (2 : Int32)
    · replace h := (if_pos c18).symm.trans h
      refine lv_tableIn (off := 62) (tgt := 76) hx hb d_MQ_atom_14 (by rw [c18]; decide) (by rw [c18]; decide) (by rw [c18]; rfl) (by decide) ?_
      refine lv_aload_n hx hb d_MQ_atom_76 rfl (lv_at hl 0 rfl) ?_
      refine va_get (D := gD g) (ci := 7) (v := .ref (a_query 0)) (C := R_MQ) (T := T_MQ) (N := 8) hx hb htb in_MQ hown hK hP 0 rfl rfl 3 (by decide) (htb _ L_MQ_23) (fun _ h9 => h9) rfl d_MQ_atom_77 ?_
      refine va_getN (D := gD g) (ci := 1) (v := .ref (a_query 8)) (C := R_Query) (T := T_Query) (N := 14) hx hb htb in_Query hown hK hP 3 rfl rfl 7 (by decide) (nf_of hG N_MQ_105) (fun _ h9 => h9) rfl d_MQ_atom_80 ?_
      refine lv_iload_n hx hb d_MQ_atom_83 rfl (lv_at hl 1 rfl) ?_
      by_cases c23 : (x1 < 0 ∨ 40 ≤ x1.toNatClampNeg)
      · replace h := (if_pos c23).symm.trans h
        cases h
      replace h := (if_neg c23).symm.trans h
      refine va_iald hx hb hK hP 8 0 rfl rfl c23 d_MQ_atom_84 ?_
      cases h
      exact W.iret hx hb hr (fun t ht hW => ⟨⟨_, (), rfl, rfl, trivial⟩, hS.F ht⟩) hS.2.2 d_MQ_atom_85
    replace h := (if_neg c18).symm.trans h
    by_cases c19 : x2 = (3 : Int32)
    · replace h := (if_pos c19).symm.trans h
      refine lv_tableIn (off := 72) (tgt := 86) hx hb d_MQ_atom_14 (by rw [c19]; decide) (by rw [c19]; decide) (by rw [c19]; rfl) (by decide) ?_
      refine lv_aload_n hx hb d_MQ_atom_86 rfl (lv_at hl 0 rfl) ?_
      refine va_get (D := gD g) (ci := 7) (v := .ref (a_query 0)) (C := R_MQ) (T := T_MQ) (N := 8) hx hb htb in_MQ hown hK hP 0 rfl rfl 3 (by decide) (htb _ L_MQ_23) (fun _ h9 => h9) rfl d_MQ_atom_87 ?_
      refine va_getN (D := gD g) (ci := 1) (v := .ref (a_query 9)) (C := R_Query) (T := T_Query) (N := 14) hx hb htb in_Query hown hK hP 3 rfl rfl 8 (by decide) (nf_of hG N_MQ_108) (fun _ h9 => h9) rfl d_MQ_atom_90 ?_
      refine lv_iload_n hx hb d_MQ_atom_93 rfl (lv_at hl 1 rfl) ?_
      by_cases c22 : (x1 < 0 ∨ 40 ≤ x1.toNatClampNeg)
      · replace h := (if_pos c22).symm.trans h
        cases h
      replace h := (if_neg c22).symm.trans h
      refine va_iald hx hb hK hP 9 0 rfl rfl c22 d_MQ_atom_94 ?_
      cases h
      exact W.iret hx hb hr (fun t ht hW => ⟨⟨_, (), rfl, rfl, trivial⟩, hS.F ht⟩) hS.2.2 d_MQ_atom_95
    replace h := (if_neg c19).symm.trans h
    by_cases c20 : x2 = (4 : Int32)
    · replace h := (if_pos c20).symm.trans h
      refine lv_tableIn (off := 82) (tgt := 96) hx hb d_MQ_atom_14 (by rw [c20]; decide) (by rw [c20]; decide) (by rw [c20]; rfl) (by decide) ?_
      refine lv_aload_n hx hb d_MQ_atom_96 rfl (lv_at hl 0 rfl) ?_
      refine va_get (D := gD g) (ci := 7) (v := .ref (a_query 0)) (C := R_MQ) (T := T_MQ) (N := 8) hx hb htb in_MQ hown hK hP 0 rfl rfl 3 (by decide) (htb _ L_MQ_23) (fun _ h9 => h9) rfl d_MQ_atom_97 ?_
      refine va_getN (D := gD g) (ci := 1) (v := .ref (a_query 12)) (C := R_Query) (T := T_Query) (N := 14) hx hb htb in_Query hown hK hP 3 rfl rfl 11 (by decide) (nf_of hG N_MQ_111) (fun _ h9 => h9) rfl d_MQ_atom_100 ?_
      refine lv_iload_n hx hb d_MQ_atom_103 rfl (lv_at hl 1 rfl) ?_
      by_cases c21 : (x1 < 0 ∨ 40 ≤ x1.toNatClampNeg)
      · replace h := (if_pos c21).symm.trans h
        cases h
      replace h := (if_neg c21).symm.trans h
      refine va_iald hx hb hK hP 12 0 rfl rfl c21 d_MQ_atom_104 ?_
      cases h
      exact W.iret hx hb hr (fun t ht hW => ⟨⟨_, (), rfl, rfl, trivial⟩, hS.F ht⟩) hS.2.2 d_MQ_atom_105
    replace h := (if_neg c20).symm.trans h
    refine lv_tableOut (tgt := 106) hx hb d_MQ_atom_14 (by have z0 := lv_neT (a := 0) c16 (by decide); have z1 := lv_neT (a := 1) c17 (by decide); have z2 := lv_neT (a := 2) c18 (by decide); have z3 := lv_neT (a := 3) c19 (by decide); have z4 := lv_neT (a := 4) c20 (by decide); omega) (by decide) ?_
    refine lv_iconst (v := -1) hx hb d_MQ_atom_106 (by decide) ?_
    cases h
    exact W.iret hx hb hr (fun t ht hW => ⟨⟨_, (), rfl, rfl, trivial⟩, hS.F ht⟩) hS.2.2 d_MQ_atom_107
  · replace h := (if_pos c15).symm.trans h
    refine lv_iconst (v := -1) hx hb d_MQ_atom_11 (by decide) ?_
    cases h
    exact W.iret hx hb hr (fun t ht hW => ⟨⟨_, (), rfl, rfl, trivial⟩, hS.F ht⟩) hS.2.2 d_MQ_atom_12
theorem c_MQ_atom (l : Launch) (g : Gz) (F : Nat) (a_t : Nat → Nat) (a_query : Nat → Nat) (r_reader : Nat) (r_printer : Nat) (r_rows : Nat) (r_judge : Nat) (t : StI) (query : StI) (x1 : Int32) (x2 : Int32) (res : Int32) (h : MQ_atom F t query x1 x2 = some res) : ∀ sz : Nat, Met l y_MQ_atom (.code y_MQ_atom prog_1_method_7_code 3 (some .int) :: TBL) rm_MQ_atom (va_Pc [.ref (a_t 0), .int x1, .int x2] (Pre0 g ((pic_MQ g a_t (a_query 0) r_reader r_printer r_rows r_judge t) ++ (pic_Query g a_query query)) sz)) (RI res (fun q => sz ≤ q)) 0 0 (fun q => sz ≤ q) :=
  ct_r (Qc := fun A => RI res A) (by decide) (Nat.le_of_ble_eq_true rfl) (fun p e s m args below meth c A2 A hC => k_MQ_atom hC t query x1 x2 res h)
def MQ_atomByte (F : Nat) (t : StI) (query : StI) (x1 : Int32) (x2 : Int32) : Option (Int32) := (Query_has F query x1).bind fun r8 => if r8 = 0 then some (-1 : Int32) else if x2 < 0 then some (-1 : Int32) else if x1 < 0 ∨ 40 ≤ x1.toNatClampNeg then none else if x2 < ((query 7) x1.toNatClampNeg) then if x1 < 0 ∨ 40 ≤ x1.toNatClampNeg then none else (Query_byteAt F query (((query 6) x1.toNatClampNeg) + x2)).bind fun r14 => some r14 else some (-1 : Int32)
set_option maxHeartbeats 4000000 in
set_option maxRecDepth 100000 in
theorem k_MQ_atomByte {p : Program} {l : Launch} {e : Env} {s : State} {m : MethodId} {args : Array Value} {below : List Frame} {meth : Method} {c : Code} {g : Gz} {A2 A : Nat → Prop} {F : Nat} {a_t a_query : Nat → Nat} {r_reader r_printer r_rows r_judge : Nat} (hC : Cx prog_1_method_8_code 3 (some .int) R_MQ p s m args meth c g A2 A) : ∀ (t : StI) (query : StI) (x1 : Int32) (x2 : Int32) (res : Int32), MQ_atomByte F t query x1 x2 = some res → Go p l e rm_MQ_atomByte s m args below meth c g A2 A 3 (MQ below (RI res A) args s 0 0 A) ((pic_MQ g a_t (a_query 0) r_reader r_printer r_rows r_judge t) ++ (pic_Query g a_query query)) [(0, .ref (a_t 0)), (1, .int x1), (2, .int x2)] 0 [] := by
  obtain ⟨hx, hb, hr, hml, hown, htb, hlocks, hA, hAA, hG⟩ := id hC
  have hK := hG.1
  intro t query x1 x2 res h H locs ls hP hD hS hl
  rw [MQ_atomByte] at h
  refine lv_aload_n hx hb d_MQ_atomByte_0 rfl (lv_at hl 0 rfl) ?_
  refine va_get (D := gD g) (ci := 7) (v := .ref (a_query 0)) (C := R_MQ) (T := T_MQ) (N := 8) hx hb htb in_MQ hown hK hP 0 rfl rfl 3 (by decide) (htb _ L_MQ_23) (fun _ h9 => h9) rfl d_MQ_atomByte_1 ?_
  refine lv_iload_n hx hb d_MQ_atomByte_4 rfl (lv_at hl 1 rfl) ?_
  obtain ⟨r8, hr8, h⟩ := Option.bind_eq_some_iff.mp h
  refine cl_Ir hP hS hA (va_runV (As := [.int x1]) (rest := []) ⟨hx, hb, hml, hown, htb⟩ (c_Query_has l g F a_query query x1 _ hr8 H.size) (cw_V htb mb_Query_has (htb _ L_MQ_93) rfl rfl ⟨Nat.le_of_ble_eq_true rfl, Nat.le_of_ble_eq_true rfl⟩) (pre_V (va_recv hK hP (ci := 1) (q0 := 3) rfl rfl) (pre_S [3, 4, 5, 6, 7, 8, 9, 10, 11, 12, 13] rfl rfl hP hD hS hA hAA hG)) rfl rfl hl.1 rfl (lv_room (Nat.le_of_ble_eq_true rfl)) d_MQ_atomByte_5 ⟨Nat.zero_le _, Nat.zero_le _⟩) (fun H locs hP hS => ?_)
  refine lv_if_eq (tgt := 28) hx hb d_MQ_atomByte_8 (by decide) (fun c9 => ?_) (fun c9 => ?_)
  · replace h := (if_pos c9).symm.trans h
    refine lv_iconst (v := -1) hx hb d_MQ_atomByte_28 (by decide) ?_
    cases h
    exact W.iret hx hb hr (fun t ht hW => ⟨⟨_, (), rfl, rfl, trivial⟩, hS.F ht⟩) hS.2.2 d_MQ_atomByte_29
  · replace h := (if_neg c9).symm.trans h
    refine lv_iload_n hx hb d_MQ_atomByte_11 rfl (lv_at hl 2 rfl) ?_
    refine lv_if_lt (tgt := 28) hx hb d_MQ_atomByte_12 (by decide) (fun c10 => ?_) (fun c10 => ?_)
    · replace h := (if_pos c10).symm.trans h
      refine lv_iconst (v := -1) hx hb d_MQ_atomByte_28 (by decide) ?_
      cases h
      exact W.iret hx hb hr (fun t ht hW => ⟨⟨_, (), rfl, rfl, trivial⟩, hS.F ht⟩) hS.2.2 d_MQ_atomByte_29
    · replace h := (if_neg c10).symm.trans h
      refine lv_iload_n hx hb d_MQ_atomByte_15 rfl (lv_at hl 2 rfl) ?_
      refine lv_aload_n hx hb d_MQ_atomByte_16 rfl (lv_at hl 0 rfl) ?_
      refine va_get (D := gD g) (ci := 7) (v := .ref (a_query 0)) (C := R_MQ) (T := T_MQ) (N := 8) hx hb htb in_MQ hown hK hP 0 rfl rfl 3 (by decide) (htb _ L_MQ_23) (fun _ h9 => h9) rfl d_MQ_atomByte_17 ?_
      refine va_getN (D := gD g) (ci := 1) (v := .ref (a_query 8)) (C := R_Query) (T := T_Query) (N := 14) hx hb htb in_Query hown hK hP 3 rfl rfl 7 (by decide) (nf_of hG N_MQ_105) (fun _ h9 => h9) rfl d_MQ_atomByte_20 ?_
      refine lv_iload_n hx hb d_MQ_atomByte_23 rfl (lv_at hl 1 rfl) ?_
      by_cases c11 : (x1 < 0 ∨ 40 ≤ x1.toNatClampNeg)
      · replace h := (if_pos c11).symm.trans h
        cases h
      replace h := (if_neg c11).symm.trans h
      refine va_iald hx hb hK hP 8 0 rfl rfl c11 d_MQ_atomByte_24 ?_
      refine lv_icmp_lt (tgt := 30) hx hb d_MQ_atomByte_25 (by decide) (fun c12 => ?_) (fun c12 => ?_)
      · replace h := (if_pos c12).symm.trans h
        refine lv_aload_n hx hb d_MQ_atomByte_30 rfl (lv_at hl 0 rfl) ?_
        refine va_get (D := gD g) (ci := 7) (v := .ref (a_query 0)) (C := R_MQ) (T := T_MQ) (N := 8) hx hb htb in_MQ hown hK hP 0 rfl rfl 3 (by decide) (htb _ L_MQ_23) (fun _ h9 => h9) rfl d_MQ_atomByte_31 ?_
        refine lv_aload_n hx hb d_MQ_atomByte_34 rfl (lv_at hl 0 rfl) ?_
        refine va_get (D := gD g) (ci := 7) (v := .ref (a_query 0)) (C := R_MQ) (T := T_MQ) (N := 8) hx hb htb in_MQ hown hK hP 0 rfl rfl 3 (by decide) (htb _ L_MQ_23) (fun _ h9 => h9) rfl d_MQ_atomByte_35 ?_
        refine va_getN (D := gD g) (ci := 1) (v := .ref (a_query 7)) (C := R_Query) (T := T_Query) (N := 14) hx hb htb in_Query hown hK hP 3 rfl rfl 6 (by decide) (nf_of hG N_MQ_114) (fun _ h9 => h9) rfl d_MQ_atomByte_38 ?_
        refine lv_iload_n hx hb d_MQ_atomByte_41 rfl (lv_at hl 1 rfl) ?_
        by_cases c13 : (x1 < 0 ∨ 40 ≤ x1.toNatClampNeg)
        · replace h := (if_pos c13).symm.trans h
          cases h
        replace h := (if_neg c13).symm.trans h
        refine va_iald hx hb hK hP 7 0 rfl rfl c13 d_MQ_atomByte_42 ?_
        refine lv_iload_n hx hb d_MQ_atomByte_43 rfl (lv_at hl 2 rfl) ?_
        refine lv_iadd hx hb d_MQ_atomByte_44 ?_
        obtain ⟨r14, hr14, h⟩ := Option.bind_eq_some_iff.mp h
        refine cl_Ir hP hS hA (va_runV (As := [.int (((query 6) x1.toNatClampNeg) + x2)]) (rest := []) ⟨hx, hb, hml, hown, htb⟩ (c_Query_byteAt l g F a_query query (((query 6) x1.toNatClampNeg) + x2) _ hr14 H.size) (cw_V htb mb_Query_byteAt (htb _ L_MQ_117) rfl rfl ⟨Nat.le_of_ble_eq_true rfl, Nat.le_of_ble_eq_true rfl⟩) (pre_V (va_recv hK hP (ci := 1) (q0 := 3) rfl rfl) (pre_S [3, 4, 5, 6, 7, 8, 9, 10, 11, 12, 13] rfl rfl hP hD hS hA hAA hG)) rfl rfl hl.1 rfl (lv_room (Nat.le_of_ble_eq_true rfl)) d_MQ_atomByte_45 ⟨Nat.zero_le _, Nat.zero_le _⟩) (fun H locs hP hS => ?_)
        cases h
        exact W.iret hx hb hr (fun t ht hW => ⟨⟨_, (), rfl, rfl, trivial⟩, hS.F ht⟩) hS.2.2 d_MQ_atomByte_48
      · replace h := (if_neg c12).symm.trans h
        refine lv_iconst (v := -1) hx hb d_MQ_atomByte_28 (by decide) ?_
        cases h
        exact W.iret hx hb hr (fun t ht hW => ⟨⟨_, (), rfl, rfl, trivial⟩, hS.F ht⟩) hS.2.2 d_MQ_atomByte_29
theorem c_MQ_atomByte (l : Launch) (g : Gz) (F : Nat) (a_t : Nat → Nat) (a_query : Nat → Nat) (r_reader : Nat) (r_printer : Nat) (r_rows : Nat) (r_judge : Nat) (t : StI) (query : StI) (x1 : Int32) (x2 : Int32) (res : Int32) (h : MQ_atomByte F t query x1 x2 = some res) : ∀ sz : Nat, Met l y_MQ_atomByte (.code y_MQ_atomByte prog_1_method_8_code 3 (some .int) :: TBL) rm_MQ_atomByte (va_Pc [.ref (a_t 0), .int x1, .int x2] (Pre0 g ((pic_MQ g a_t (a_query 0) r_reader r_printer r_rows r_judge t) ++ (pic_Query g a_query query)) sz)) (RI res (fun q => sz ≤ q)) 0 0 (fun q => sz ≤ q) :=
  ct_r (Qc := fun A => RI res A) (by decide) (Nat.le_of_ble_eq_true rfl) (fun p e s m args below meth c A2 A hC => k_MQ_atomByte hC t query x1 x2 res h)
def MQ_range (F : Nat) (t : StI) (query : StI) (x1 : Int32) (x2 : Int32) : Option (Int32) := (Query_has F query x1).bind fun r7 => if r7 = 0 then some (0 : Int32) else if x2 = (0 : Int32) then if x1 < 0 ∨ 40 ≤ x1.toNatClampNeg then none else some ((query 9) x1.toNatClampNeg) else if x2 = (1 : Int32) then if x1 < 0 ∨ 40 ≤ x1.toNatClampNeg then none else some ((query 10) x1.toNatClampNeg) else some (0 : Int32)
set_option maxHeartbeats 4000000 in
set_option maxRecDepth 100000 in
theorem k_MQ_range {p : Program} {l : Launch} {e : Env} {s : State} {m : MethodId} {args : Array Value} {below : List Frame} {meth : Method} {c : Code} {g : Gz} {A2 A : Nat → Prop} {F : Nat} {a_t a_query : Nat → Nat} {r_reader r_printer r_rows r_judge : Nat} (hC : Cx prog_1_method_9_code 3 (some .int) R_MQ p s m args meth c g A2 A) : ∀ (t : StI) (query : StI) (x1 : Int32) (x2 : Int32) (res : Int32), MQ_range F t query x1 x2 = some res → Go p l e rm_MQ_range s m args below meth c g A2 A 3 (MQ below (RI res A) args s 0 0 A) ((pic_MQ g a_t (a_query 0) r_reader r_printer r_rows r_judge t) ++ (pic_Query g a_query query)) [(0, .ref (a_t 0)), (1, .int x1), (2, .int x2)] 0 [] := by
  obtain ⟨hx, hb, hr, hml, hown, htb, hlocks, hA, hAA, hG⟩ := id hC
  have hK := hG.1
  intro t query x1 x2 res h H locs ls hP hD hS hl
  rw [MQ_range] at h
  refine lv_aload_n hx hb d_MQ_range_0 rfl (lv_at hl 0 rfl) ?_
  refine va_get (D := gD g) (ci := 7) (v := .ref (a_query 0)) (C := R_MQ) (T := T_MQ) (N := 8) hx hb htb in_MQ hown hK hP 0 rfl rfl 3 (by decide) (htb _ L_MQ_23) (fun _ h9 => h9) rfl d_MQ_range_1 ?_
  refine lv_iload_n hx hb d_MQ_range_4 rfl (lv_at hl 1 rfl) ?_
  obtain ⟨r7, hr7, h⟩ := Option.bind_eq_some_iff.mp h
  refine cl_Ir hP hS hA (va_runV (As := [.int x1]) (rest := []) ⟨hx, hb, hml, hown, htb⟩ (c_Query_has l g F a_query query x1 _ hr7 H.size) (cw_V htb mb_Query_has (htb _ L_MQ_93) rfl rfl ⟨Nat.le_of_ble_eq_true rfl, Nat.le_of_ble_eq_true rfl⟩) (pre_V (va_recv hK hP (ci := 1) (q0 := 3) rfl rfl) (pre_S [3, 4, 5, 6, 7, 8, 9, 10, 11, 12, 13] rfl rfl hP hD hS hA hAA hG)) rfl rfl hl.1 rfl (lv_room (Nat.le_of_ble_eq_true rfl)) d_MQ_range_5 ⟨Nat.zero_le _, Nat.zero_le _⟩) (fun H locs hP hS => ?_)
  refine lv_if_ne (tgt := 13) hx hb d_MQ_range_8 (by decide) (fun c8 => ?_) (fun c8 => ?_)
  · replace h := (if_neg c8).symm.trans h
    refine lv_iload_n hx hb d_MQ_range_13 rfl (lv_at hl 2 rfl) ?_
    by_cases c9 : x2 = (0 : Int32)
    · replace h := (if_pos c9).symm.trans h
      refine lv_lookup (off := 26) (tgt := 40) hx hb d_MQ_range_14 (by decide) (by rw [c9]; rfl) (by decide) ?_
      refine lv_aload_n hx hb d_MQ_range_40 rfl (lv_at hl 0 rfl) ?_
      refine va_get (D := gD g) (ci := 7) (v := .ref (a_query 0)) (C := R_MQ) (T := T_MQ) (N := 8) hx hb htb in_MQ hown hK hP 0 rfl rfl 3 (by decide) (htb _ L_MQ_23) (fun _ h9 => h9) rfl d_MQ_range_41 ?_
      refine va_getN (D := gD g) (ci := 1) (v := .ref (a_query 10)) (C := R_Query) (T := T_Query) (N := 14) hx hb htb in_Query hown hK hP 3 rfl rfl 9 (by decide) (nf_of hG N_MQ_121) (fun _ h9 => h9) rfl d_MQ_range_44 ?_
      refine lv_iload_n hx hb d_MQ_range_47 rfl (lv_at hl 1 rfl) ?_
      by_cases c12 : (x1 < 0 ∨ 40 ≤ x1.toNatClampNeg)
      · replace h := (if_pos c12).symm.trans h
        cases h
      replace h := (if_neg c12).symm.trans h
      refine va_iald hx hb hK hP 10 0 rfl rfl c12 d_MQ_range_48 ?_
      cases h
      exact W.iret hx hb hr (fun t ht hW => ⟨⟨_, (), rfl, rfl, trivial⟩, hS.F ht⟩) hS.2.2 d_MQ_range_49
    replace h := (if_neg c9).symm.trans h
    by_cases c10 : x2 = (1 : Int32)
    · replace h := (if_pos c10).symm.trans h
      refine lv_lookup (off := 36) (tgt := 50) hx hb d_MQ_range_14 (by decide) (by rw [c10]; rfl) (by decide) ?_
      refine lv_aload_n hx hb d_MQ_range_50 rfl (lv_at hl 0 rfl) ?_
      refine va_get (D := gD g) (ci := 7) (v := .ref (a_query 0)) (C := R_MQ) (T := T_MQ) (N := 8) hx hb htb in_MQ hown hK hP 0 rfl rfl 3 (by decide) (htb _ L_MQ_23) (fun _ h9 => h9) rfl d_MQ_range_51 ?_
      refine va_getN (D := gD g) (ci := 1) (v := .ref (a_query 11)) (C := R_Query) (T := T_Query) (N := 14) hx hb htb in_Query hown hK hP 3 rfl rfl 10 (by decide) (nf_of hG N_MQ_124) (fun _ h9 => h9) rfl d_MQ_range_54 ?_
      refine lv_iload_n hx hb d_MQ_range_57 rfl (lv_at hl 1 rfl) ?_
      by_cases c11 : (x1 < 0 ∨ 40 ≤ x1.toNatClampNeg)
      · replace h := (if_pos c11).symm.trans h
        cases h
      replace h := (if_neg c11).symm.trans h
      refine va_iald hx hb hK hP 11 0 rfl rfl c11 d_MQ_range_58 ?_
      cases h
      exact W.iret hx hb hr (fun t ht hW => ⟨⟨_, (), rfl, rfl, trivial⟩, hS.F ht⟩) hS.2.2 d_MQ_range_59
    replace h := (if_neg c10).symm.trans h
    refine lv_lookup (off := 46) (tgt := 60) hx hb d_MQ_range_14 (by decide) (by show Op.lookupswitch.offset [(0, 26), (1, 36)] (46) _ = _; rw [lv_osw c9 (by decide), lv_osw c10 (by decide)]; rfl) (by decide) ?_
    refine lv_iconst (v := 0) hx hb d_MQ_range_60 (by decide) ?_
    cases h
    exact W.iret hx hb hr (fun t ht hW => ⟨⟨_, (), rfl, rfl, trivial⟩, hS.F ht⟩) hS.2.2 d_MQ_range_61
  · replace h := (if_pos c8).symm.trans h
    refine lv_iconst (v := 0) hx hb d_MQ_range_11 (by decide) ?_
    cases h
    exact W.iret hx hb hr (fun t ht hW => ⟨⟨_, (), rfl, rfl, trivial⟩, hS.F ht⟩) hS.2.2 d_MQ_range_12
theorem c_MQ_range (l : Launch) (g : Gz) (F : Nat) (a_t : Nat → Nat) (a_query : Nat → Nat) (r_reader : Nat) (r_printer : Nat) (r_rows : Nat) (r_judge : Nat) (t : StI) (query : StI) (x1 : Int32) (x2 : Int32) (res : Int32) (h : MQ_range F t query x1 x2 = some res) : ∀ sz : Nat, Met l y_MQ_range (.code y_MQ_range prog_1_method_9_code 3 (some .int) :: TBL) rm_MQ_range (va_Pc [.ref (a_t 0), .int x1, .int x2] (Pre0 g ((pic_MQ g a_t (a_query 0) r_reader r_printer r_rows r_judge t) ++ (pic_Query g a_query query)) sz)) (RI res (fun q => sz ≤ q)) 0 0 (fun q => sz ≤ q) :=
  ct_r (Qc := fun A => RI res A) (by decide) (Nat.le_of_ble_eq_true rfl) (fun p e s m args below meth c A2 A hC => k_MQ_range hC t query x1 x2 res h)
def MQ_tree (F : Nat) (t : StI) (query : StI) (x1 : Int32) : Option (Int32) := (Query_entryAt F query x1).bind fun r2 => some r2
set_option maxHeartbeats 4000000 in
set_option maxRecDepth 100000 in
theorem k_MQ_tree {p : Program} {l : Launch} {e : Env} {s : State} {m : MethodId} {args : Array Value} {below : List Frame} {meth : Method} {c : Code} {g : Gz} {A2 A : Nat → Prop} {F : Nat} {a_t a_query : Nat → Nat} {r_reader r_printer r_rows r_judge : Nat} (hC : Cx prog_1_method_10_code 2 (some .int) R_MQ p s m args meth c g A2 A) : ∀ (t : StI) (query : StI) (x1 : Int32) (res : Int32), MQ_tree F t query x1 = some res → Go p l e rm_MQ_tree s m args below meth c g A2 A 2 (MQ below (RI res A) args s 0 0 A) ((pic_MQ g a_t (a_query 0) r_reader r_printer r_rows r_judge t) ++ (pic_Query g a_query query)) [(0, .ref (a_t 0)), (1, .int x1)] 0 [] := by
  obtain ⟨hx, hb, hr, hml, hown, htb, hlocks, hA, hAA, hG⟩ := id hC
  have hK := hG.1
  intro t query x1 res h H locs ls hP hD hS hl
  rw [MQ_tree] at h
  refine lv_aload_n hx hb d_MQ_tree_0 rfl (lv_at hl 0 rfl) ?_
  refine va_get (D := gD g) (ci := 7) (v := .ref (a_query 0)) (C := R_MQ) (T := T_MQ) (N := 8) hx hb htb in_MQ hown hK hP 0 rfl rfl 3 (by decide) (htb _ L_MQ_23) (fun _ h9 => h9) rfl d_MQ_tree_1 ?_
  refine lv_iload_n hx hb d_MQ_tree_4 rfl (lv_at hl 1 rfl) ?_
  obtain ⟨r2, hr2, h⟩ := Option.bind_eq_some_iff.mp h
  refine cl_Ir hP hS hA (va_runV (As := [.int x1]) (rest := []) ⟨hx, hb, hml, hown, htb⟩ (c_Query_entryAt l g F a_query query x1 _ hr2 H.size) (cw_V htb mb_Query_entryAt (htb _ L_MQ_127) rfl rfl ⟨Nat.le_of_ble_eq_true rfl, Nat.le_of_ble_eq_true rfl⟩) (pre_V (va_recv hK hP (ci := 1) (q0 := 3) rfl rfl) (pre_S [3, 4, 5, 6, 7, 8, 9, 10, 11, 12, 13] rfl rfl hP hD hS hA hAA hG)) rfl rfl hl.1 rfl (lv_room (Nat.le_of_ble_eq_true rfl)) d_MQ_tree_5 ⟨Nat.zero_le _, Nat.zero_le _⟩) (fun H locs hP hS => ?_)
  cases h
  exact W.iret hx hb hr (fun t ht hW => ⟨⟨_, (), rfl, rfl, trivial⟩, hS.F ht⟩) hS.2.2 d_MQ_tree_8
theorem c_MQ_tree (l : Launch) (g : Gz) (F : Nat) (a_t : Nat → Nat) (a_query : Nat → Nat) (r_reader : Nat) (r_printer : Nat) (r_rows : Nat) (r_judge : Nat) (t : StI) (query : StI) (x1 : Int32) (res : Int32) (h : MQ_tree F t query x1 = some res) : ∀ sz : Nat, Met l y_MQ_tree (.code y_MQ_tree prog_1_method_10_code 2 (some .int) :: TBL) rm_MQ_tree (va_Pc [.ref (a_t 0), .int x1] (Pre0 g ((pic_MQ g a_t (a_query 0) r_reader r_printer r_rows r_judge t) ++ (pic_Query g a_query query)) sz)) (RI res (fun q => sz ≤ q)) 0 0 (fun q => sz ≤ q) :=
  ct_r (Qc := fun A => RI res A) (by decide) (Nat.le_of_ble_eq_true rfl) (fun p e s m args below meth c A2 A hC => k_MQ_tree hC t query x1 res h)
def MQ_print (F : Nat) (t : StI) (printer : StI) (query : StI) (printer_due : StI) (printer_dueL : StL) : Option (Int32 × StI × StI × StL) := (Printer_write F printer query printer_due printer_dueL).bind fun r2 => some (r2.1, r2.2.1, r2.2.2.1, r2.2.2.2)
set_option maxHeartbeats 4000000 in
set_option maxRecDepth 100000 in
theorem k_MQ_print {p : Program} {l : Launch} {e : Env} {s : State} {m : MethodId} {args : Array Value} {below : List Frame} {meth : Method} {c : Code} {g : Gz} {A : Nat → Prop} {F : Nat} {a_t a_printer a_query a_printer_due : Nat → Nat} {r_reader r_rows r_judge : Nat} (hC : Cx prog_1_method_11_code 1 (some .int) R_MQ p s m args meth c g A A) : ∀ (t : StI) (printer : StI) (query : StI) (printer_due : StI) (printer_dueL : StL) (res : Int32 × StI × StI × StL), MQ_print F t printer query printer_due printer_dueL = some res → Go p l e rm_MQ_print s m args below meth c g A A 1 (MQ below (EI g ((pic_MQ g a_t (a_query 0) r_reader (a_printer 0) r_rows r_judge t) ++ (pic_Printer g a_printer (a_printer_due 0) res.2.1) ++ (pic_Query g a_query query) ++ (pic_Pile g a_printer_due 160 res.2.2.1 res.2.2.2)) res.1 A) args s 0 0 A) ((pic_MQ g a_t (a_query 0) r_reader (a_printer 0) r_rows r_judge t) ++ (pic_Printer g a_printer (a_printer_due 0) printer) ++ (pic_Query g a_query query) ++ (pic_Pile g a_printer_due 160 printer_due printer_dueL)) [(0, .ref (a_t 0))] 0 [] := by
  obtain ⟨hx, hb, hr, hml, hown, htb, hlocks, hA, hAA, hG⟩ := id hC
  have hK := hG.1
  intro t printer query printer_due printer_dueL res h H locs ls hP hD hS hl
  rw [MQ_print] at h
  refine lv_aload_n hx hb d_MQ_print_0 rfl (lv_at hl 0 rfl) ?_
  refine va_get (D := gD g) (ci := 7) (v := .ref (a_printer 0)) (C := R_MQ) (T := T_MQ) (N := 8) hx hb htb in_MQ hown hK hP 0 rfl rfl 5 (by decide) (htb _ L_MQ_37) (fun _ h9 => h9) rfl d_MQ_print_1 ?_
  refine lv_aload_n hx hb d_MQ_print_4 rfl (lv_at hl 0 rfl) ?_
  refine va_get (D := gD g) (ci := 7) (v := .ref (a_query 0)) (C := R_MQ) (T := T_MQ) (N := 8) hx hb htb in_MQ hown hK hP 0 rfl rfl 3 (by decide) (htb _ L_MQ_23) (fun _ h9 => h9) rfl d_MQ_print_5 ?_
  obtain ⟨r2, hr2, h⟩ := Option.bind_eq_some_iff.mp h
  refine cl_I (wr := (pic_MQ g a_t (a_query 0) r_reader (a_printer 0) r_rows r_judge t)) [3, 4, 5, 6, 7, 8, 9, 10, 11, 12, 13, 14, 15, 16, 17] [0, 1, 2] rfl rfl rfl (by decide) hP hD hS hA (va_runV (As := [.ref (a_query 0)]) (rest := []) ⟨hx, hb, hml, hown, htb⟩ (c_Printer_write l g F a_printer a_query a_printer_due printer query printer_due printer_dueL _ hr2 H.size) (cw_V htb mb_Printer_write (htb _ L_MQ_130) rfl rfl ⟨Nat.le_of_ble_eq_true rfl, Nat.le_of_ble_eq_true rfl⟩) (pre_V (va_recv hK hP (ci := 4) (q0 := 3) rfl rfl) (pre_S [3, 4, 5, 6, 7, 8, 9, 10, 11, 12, 13, 14, 15, 16, 17] rfl rfl hP hD hS hA hAA hG)) rfl rfl hl.1 rfl (lv_room (Nat.le_of_ble_eq_true rfl)) d_MQ_print_8 ⟨Nat.zero_le _, Nat.zero_le _⟩) (fun H locs hP hD hS => ?_)
  have hP : va_P (gD g) vwCl ((pic_MQ g a_t (a_query 0) r_reader (a_printer 0) r_rows r_judge t) ++ (pic_Printer g a_printer (a_printer_due 0) r2.2.1) ++ (pic_Query g a_query query) ++ (pic_Pile g a_printer_due 160 r2.2.2.1 r2.2.2.2)) H := hP.sub [0, 1, 2, 3, 4, 5, 6, 7, 8, 9, 10, 11, 12, 13, 14, 15, 16, 17] rfl
  have hD : va_D A ((pic_MQ g a_t (a_query 0) r_reader (a_printer 0) r_rows r_judge t) ++ (pic_Printer g a_printer (a_printer_due 0) r2.2.1) ++ (pic_Query g a_query query) ++ (pic_Pile g a_printer_due 160 r2.2.2.1 r2.2.2.2)) := hD.sub [0, 1, 2, 3, 4, 5, 6, 7, 8, 9, 10, 11, 12, 13, 14, 15, 16, 17] rfl rfl
  cases h
  exact W.iret hx hb hr (fun t ht hW => ⟨⟨_, (), rfl, rfl, by rw [ht]; exact hP, hD⟩, hS.F ht⟩) hS.2.2 d_MQ_print_11
theorem c_MQ_print (l : Launch) (g : Gz) (F : Nat) (a_t : Nat → Nat) (a_printer : Nat → Nat) (a_query : Nat → Nat) (a_printer_due : Nat → Nat) (r_reader : Nat) (r_rows : Nat) (r_judge : Nat) (t : StI) (printer : StI) (query : StI) (printer_due : StI) (printer_dueL : StL) (res : Int32 × StI × StI × StL) (h : MQ_print F t printer query printer_due printer_dueL = some res) : ∀ sz : Nat, Met l y_MQ_print (.code y_MQ_print prog_1_method_11_code 1 (some .int) :: TBL) rm_MQ_print (va_Pc [.ref (a_t 0)] (Pre0 g ((pic_MQ g a_t (a_query 0) r_reader (a_printer 0) r_rows r_judge t) ++ (pic_Printer g a_printer (a_printer_due 0) printer) ++ (pic_Query g a_query query) ++ (pic_Pile g a_printer_due 160 printer_due printer_dueL)) sz)) (EI g ((pic_MQ g a_t (a_query 0) r_reader (a_printer 0) r_rows r_judge t) ++ (pic_Printer g a_printer (a_printer_due 0) res.2.1) ++ (pic_Query g a_query query) ++ (pic_Pile g a_printer_due 160 res.2.2.1 res.2.2.2)) res.1 (va_A ((pic_MQ g a_t (a_query 0) r_reader (a_printer 0) r_rows r_judge t) ++ (pic_Printer g a_printer (a_printer_due 0) printer) ++ (pic_Query g a_query query) ++ (pic_Pile g a_printer_due 160 printer_due printer_dueL)) sz)) 0 0 (va_A ((pic_MQ g a_t (a_query 0) r_reader (a_printer 0) r_rows r_judge t) ++ (pic_Printer g a_printer (a_printer_due 0) printer) ++ (pic_Query g a_query query) ++ (pic_Pile g a_printer_due 160 printer_due printer_dueL)) sz) :=
  ct_w (Qc := fun A => EI g ((pic_MQ g a_t (a_query 0) r_reader (a_printer 0) r_rows r_judge t) ++ (pic_Printer g a_printer (a_printer_due 0) res.2.1) ++ (pic_Query g a_query query) ++ (pic_Pile g a_printer_due 160 res.2.2.1 res.2.2.2)) res.1 A) (by decide) (Nat.le_of_ble_eq_true rfl) (fun p e s m args below meth c A hC => k_MQ_print hC t printer query printer_due printer_dueL res h)
def MQ_printed (F : Nat) (t : StI) (printer : StI) (x1 : Int32) : Option (Int32) := (Printer_byteAt F printer x1).bind fun r2 => some r2
set_option maxHeartbeats 4000000 in
set_option maxRecDepth 100000 in
theorem k_MQ_printed {p : Program} {l : Launch} {e : Env} {s : State} {m : MethodId} {args : Array Value} {below : List Frame} {meth : Method} {c : Code} {g : Gz} {A2 A : Nat → Prop} {F : Nat} {a_t a_printer : Nat → Nat} {r_query r_reader r_rows r_judge r_printer_due : Nat} (hC : Cx prog_1_method_12_code 2 (some .int) R_MQ p s m args meth c g A2 A) : ∀ (t : StI) (printer : StI) (x1 : Int32) (res : Int32), MQ_printed F t printer x1 = some res → Go p l e rm_MQ_printed s m args below meth c g A2 A 2 (MQ below (RI res A) args s 0 0 A) ((pic_MQ g a_t r_query r_reader (a_printer 0) r_rows r_judge t) ++ (pic_Printer g a_printer r_printer_due printer)) [(0, .ref (a_t 0)), (1, .int x1)] 0 [] := by
  obtain ⟨hx, hb, hr, hml, hown, htb, hlocks, hA, hAA, hG⟩ := id hC
  have hK := hG.1
  intro t printer x1 res h H locs ls hP hD hS hl
  rw [MQ_printed] at h
  refine lv_aload_n hx hb d_MQ_printed_0 rfl (lv_at hl 0 rfl) ?_
  refine va_get (D := gD g) (ci := 7) (v := .ref (a_printer 0)) (C := R_MQ) (T := T_MQ) (N := 8) hx hb htb in_MQ hown hK hP 0 rfl rfl 5 (by decide) (htb _ L_MQ_37) (fun _ h9 => h9) rfl d_MQ_printed_1 ?_
  refine lv_iload_n hx hb d_MQ_printed_4 rfl (lv_at hl 1 rfl) ?_
  obtain ⟨r2, hr2, h⟩ := Option.bind_eq_some_iff.mp h
  refine cl_Ir hP hS hA (va_runV (As := [.int x1]) (rest := []) ⟨hx, hb, hml, hown, htb⟩ (c_Printer_byteAt l g F a_printer r_printer_due printer x1 _ hr2 H.size) (cw_V htb mb_Printer_byteAt (htb _ L_MQ_134) rfl rfl ⟨Nat.le_of_ble_eq_true rfl, Nat.le_of_ble_eq_true rfl⟩) (pre_V (va_recv hK hP (ci := 4) (q0 := 3) rfl rfl) (pre_S [3, 4] rfl rfl hP hD hS hA hAA hG)) rfl rfl hl.1 rfl (lv_room (Nat.le_of_ble_eq_true rfl)) d_MQ_printed_5 ⟨Nat.zero_le _, Nat.zero_le _⟩) (fun H locs hP hS => ?_)
  cases h
  exact W.iret hx hb hr (fun t ht hW => ⟨⟨_, (), rfl, rfl, trivial⟩, hS.F ht⟩) hS.2.2 d_MQ_printed_8
theorem c_MQ_printed (l : Launch) (g : Gz) (F : Nat) (a_t : Nat → Nat) (a_printer : Nat → Nat) (r_query : Nat) (r_reader : Nat) (r_rows : Nat) (r_judge : Nat) (r_printer_due : Nat) (t : StI) (printer : StI) (x1 : Int32) (res : Int32) (h : MQ_printed F t printer x1 = some res) : ∀ sz : Nat, Met l y_MQ_printed (.code y_MQ_printed prog_1_method_12_code 2 (some .int) :: TBL) rm_MQ_printed (va_Pc [.ref (a_t 0), .int x1] (Pre0 g ((pic_MQ g a_t r_query r_reader (a_printer 0) r_rows r_judge t) ++ (pic_Printer g a_printer r_printer_due printer)) sz)) (RI res (fun q => sz ≤ q)) 0 0 (fun q => sz ≤ q) :=
  ct_r (Qc := fun A => RI res A) (by decide) (Nat.le_of_ble_eq_true rfl) (fun p e s m args below meth c A2 A hC => k_MQ_printed hC t printer x1 res h)
def MQ_normal (F : Nat) (t : StI) (query : StI) (rows : StI) (rowsL : StL) (rows_pile : StI) (rows_pileL : StL) : Option (Int32 × StI × StL × StI × StL) := (Rows_make F rows rowsL query rows_pile rows_pileL).bind fun r2 => some (r2.1, r2.2.1, r2.2.2.1, r2.2.2.2.1, r2.2.2.2.2)
set_option maxHeartbeats 4000000 in
set_option maxRecDepth 100000 in
theorem k_MQ_normal {p : Program} {l : Launch} {e : Env} {s : State} {m : MethodId} {args : Array Value} {below : List Frame} {meth : Method} {c : Code} {g : Gz} {A : Nat → Prop} {F : Nat} {a_t a_query a_rows a_rows_pile : Nat → Nat} {r_reader r_printer r_judge : Nat} (hC : Cx prog_1_method_13_code 1 (some .int) R_MQ p s m args meth c g A A) : ∀ (t : StI) (query : StI) (rows : StI) (rowsL : StL) (rows_pile : StI) (rows_pileL : StL) (res : Int32 × StI × StL × StI × StL), MQ_normal F t query rows rowsL rows_pile rows_pileL = some res → Go p l e rm_MQ_normal s m args below meth c g A A 1 (MQ below (EI g ((pic_MQ g a_t (a_query 0) r_reader r_printer (a_rows 0) r_judge t) ++ (pic_Query g a_query query) ++ (pic_Rows g a_rows (a_rows_pile 0) res.2.1 res.2.2.1) ++ (pic_Pile g a_rows_pile 41 res.2.2.2.1 res.2.2.2.2)) res.1 A) args s 0 0 A) ((pic_MQ g a_t (a_query 0) r_reader r_printer (a_rows 0) r_judge t) ++ (pic_Query g a_query query) ++ (pic_Rows g a_rows (a_rows_pile 0) rows rowsL) ++ (pic_Pile g a_rows_pile 41 rows_pile rows_pileL)) [(0, .ref (a_t 0))] 0 [] := by
  obtain ⟨hx, hb, hr, hml, hown, htb, hlocks, hA, hAA, hG⟩ := id hC
  have hK := hG.1
  intro t query rows rowsL rows_pile rows_pileL res h H locs ls hP hD hS hl
  rw [MQ_normal] at h
  refine lv_aload_n hx hb d_MQ_normal_0 rfl (lv_at hl 0 rfl) ?_
  refine va_get (D := gD g) (ci := 7) (v := .ref (a_rows 0)) (C := R_MQ) (T := T_MQ) (N := 8) hx hb htb in_MQ hown hK hP 0 rfl rfl 6 (by decide) (htb _ L_MQ_44) (fun _ h9 => h9) rfl d_MQ_normal_1 ?_
  refine lv_aload_n hx hb d_MQ_normal_4 rfl (lv_at hl 0 rfl) ?_
  refine va_get (D := gD g) (ci := 7) (v := .ref (a_query 0)) (C := R_MQ) (T := T_MQ) (N := 8) hx hb htb in_MQ hown hK hP 0 rfl rfl 3 (by decide) (htb _ L_MQ_23) (fun _ h9 => h9) rfl d_MQ_normal_5 ?_
  obtain ⟨r2, hr2, h⟩ := Option.bind_eq_some_iff.mp h
  refine cl_I (wr := (pic_MQ g a_t (a_query 0) r_reader r_printer (a_rows 0) r_judge t)) [14, 15, 16, 17, 18, 19, 20, 21, 3, 4, 5, 6, 7, 8, 9, 10, 11, 12, 13, 22, 23] [0, 1, 2] rfl rfl rfl (by decide) hP hD hS hA (va_runV (As := [.ref (a_query 0)]) (rest := []) ⟨hx, hb, hml, hown, htb⟩ (c_Rows_make l g F a_rows a_query a_rows_pile rows rowsL query rows_pile rows_pileL _ hr2 H.size) (cw_V htb mb_Rows_make (htb _ L_MQ_135) rfl rfl ⟨Nat.le_of_ble_eq_true rfl, Nat.le_of_ble_eq_true rfl⟩) (pre_V (va_recv hK hP (ci := 6) (q0 := 14) rfl rfl) (pre_S [14, 15, 16, 17, 18, 19, 20, 21, 3, 4, 5, 6, 7, 8, 9, 10, 11, 12, 13, 22, 23] rfl rfl hP hD hS hA hAA hG)) rfl rfl hl.1 rfl (lv_room (Nat.le_of_ble_eq_true rfl)) d_MQ_normal_8 ⟨Nat.zero_le _, Nat.zero_le _⟩) (fun H locs hP hD hS => ?_)
  have hP : va_P (gD g) vwCl ((pic_MQ g a_t (a_query 0) r_reader r_printer (a_rows 0) r_judge t) ++ (pic_Query g a_query query) ++ (pic_Rows g a_rows (a_rows_pile 0) r2.2.1 r2.2.2.1) ++ (pic_Pile g a_rows_pile 41 r2.2.2.2.1 r2.2.2.2.2)) H := hP.sub [0, 1, 2, 11, 12, 13, 14, 15, 16, 17, 18, 19, 20, 21, 3, 4, 5, 6, 7, 8, 9, 10, 22, 23] rfl
  have hD : va_D A ((pic_MQ g a_t (a_query 0) r_reader r_printer (a_rows 0) r_judge t) ++ (pic_Query g a_query query) ++ (pic_Rows g a_rows (a_rows_pile 0) r2.2.1 r2.2.2.1) ++ (pic_Pile g a_rows_pile 41 r2.2.2.2.1 r2.2.2.2.2)) := hD.sub [0, 1, 2, 11, 12, 13, 14, 15, 16, 17, 18, 19, 20, 21, 3, 4, 5, 6, 7, 8, 9, 10, 22, 23] rfl rfl
  cases h
  exact W.iret hx hb hr (fun t ht hW => ⟨⟨_, (), rfl, rfl, by rw [ht]; exact hP, hD⟩, hS.F ht⟩) hS.2.2 d_MQ_normal_11
theorem c_MQ_normal (l : Launch) (g : Gz) (F : Nat) (a_t : Nat → Nat) (a_query : Nat → Nat) (a_rows : Nat → Nat) (a_rows_pile : Nat → Nat) (r_reader : Nat) (r_printer : Nat) (r_judge : Nat) (t : StI) (query : StI) (rows : StI) (rowsL : StL) (rows_pile : StI) (rows_pileL : StL) (res : Int32 × StI × StL × StI × StL) (h : MQ_normal F t query rows rowsL rows_pile rows_pileL = some res) : ∀ sz : Nat, Met l y_MQ_normal (.code y_MQ_normal prog_1_method_13_code 1 (some .int) :: TBL) rm_MQ_normal (va_Pc [.ref (a_t 0)] (Pre0 g ((pic_MQ g a_t (a_query 0) r_reader r_printer (a_rows 0) r_judge t) ++ (pic_Query g a_query query) ++ (pic_Rows g a_rows (a_rows_pile 0) rows rowsL) ++ (pic_Pile g a_rows_pile 41 rows_pile rows_pileL)) sz)) (EI g ((pic_MQ g a_t (a_query 0) r_reader r_printer (a_rows 0) r_judge t) ++ (pic_Query g a_query query) ++ (pic_Rows g a_rows (a_rows_pile 0) res.2.1 res.2.2.1) ++ (pic_Pile g a_rows_pile 41 res.2.2.2.1 res.2.2.2.2)) res.1 (va_A ((pic_MQ g a_t (a_query 0) r_reader r_printer (a_rows 0) r_judge t) ++ (pic_Query g a_query query) ++ (pic_Rows g a_rows (a_rows_pile 0) rows rowsL) ++ (pic_Pile g a_rows_pile 41 rows_pile rows_pileL)) sz)) 0 0 (va_A ((pic_MQ g a_t (a_query 0) r_reader r_printer (a_rows 0) r_judge t) ++ (pic_Query g a_query query) ++ (pic_Rows g a_rows (a_rows_pile 0) rows rowsL) ++ (pic_Pile g a_rows_pile 41 rows_pile rows_pileL)) sz) :=
  ct_w (Qc := fun A => EI g ((pic_MQ g a_t (a_query 0) r_reader r_printer (a_rows 0) r_judge t) ++ (pic_Query g a_query query) ++ (pic_Rows g a_rows (a_rows_pile 0) res.2.1 res.2.2.1) ++ (pic_Pile g a_rows_pile 41 res.2.2.2.1 res.2.2.2.2)) res.1 A) (by decide) (Nat.le_of_ble_eq_true rfl) (fun p e s m args below meth c A hC => k_MQ_normal hC t query rows rowsL rows_pile rows_pileL res h)
def MQ_row (F : Nat) (t : StI) (rows : StI) (rowsL : StL) (x1 : Int32) (x2 : Int32) : Option (Int64) := (Rows_bitsOf F rows rowsL x1 x2).bind fun r2 => some r2
set_option maxHeartbeats 4000000 in
set_option maxRecDepth 100000 in
theorem k_MQ_row {p : Program} {l : Launch} {e : Env} {s : State} {m : MethodId} {args : Array Value} {below : List Frame} {meth : Method} {c : Code} {g : Gz} {A2 A : Nat → Prop} {F : Nat} {a_t a_rows : Nat → Nat} {r_query r_reader r_printer r_judge r_rows_pile : Nat} (hC : Cx prog_1_method_14_code 3 (some .long) R_MQ p s m args meth c g A2 A) : ∀ (t : StI) (rows : StI) (rowsL : StL) (x1 : Int32) (x2 : Int32) (res : Int64), MQ_row F t rows rowsL x1 x2 = some res → Go p l e rm_MQ_row s m args below meth c g A2 A 3 (MQ below (RL res A) args s 0 0 A) ((pic_MQ g a_t r_query r_reader r_printer (a_rows 0) r_judge t) ++ (pic_Rows g a_rows r_rows_pile rows rowsL)) [(0, .ref (a_t 0)), (1, .int x1), (2, .int x2)] 0 [] := by
  obtain ⟨hx, hb, hr, hml, hown, htb, hlocks, hA, hAA, hG⟩ := id hC
  have hK := hG.1
  intro t rows rowsL x1 x2 res h H locs ls hP hD hS hl
  rw [MQ_row] at h
  refine lv_aload_n hx hb d_MQ_row_0 rfl (lv_at hl 0 rfl) ?_
  refine va_get (D := gD g) (ci := 7) (v := .ref (a_rows 0)) (C := R_MQ) (T := T_MQ) (N := 8) hx hb htb in_MQ hown hK hP 0 rfl rfl 6 (by decide) (htb _ L_MQ_44) (fun _ h9 => h9) rfl d_MQ_row_1 ?_
  refine lv_iload_n hx hb d_MQ_row_4 rfl (lv_at hl 1 rfl) ?_
  refine lv_iload_n hx hb d_MQ_row_5 rfl (lv_at hl 2 rfl) ?_
  obtain ⟨r2, hr2, h⟩ := Option.bind_eq_some_iff.mp h
  refine cl_Lr hP hS hA (va_runV (As := [.int x1, .int x2]) (rest := []) ⟨hx, hb, hml, hown, htb⟩ (c_Rows_bitsOf l g F a_rows r_rows_pile rows rowsL x1 x2 _ hr2 H.size) (cw_V htb mb_Rows_bitsOf (htb _ L_MQ_138) rfl rfl ⟨Nat.le_of_ble_eq_true rfl, Nat.le_of_ble_eq_true rfl⟩) (pre_V (va_recv hK hP (ci := 6) (q0 := 3) rfl rfl) (pre_S [3, 4, 5, 6, 7, 8, 9, 10] rfl rfl hP hD hS hA hAA hG)) rfl rfl hl.1 rfl (lv_room (Nat.le_of_ble_eq_true rfl)) d_MQ_row_6 ⟨Nat.zero_le _, Nat.zero_le _⟩) (fun H locs hP hS => ?_)
  cases h
  exact W.lret hx hb hr (fun t ht hW => ⟨⟨_, (), rfl, rfl, trivial⟩, hS.F ht⟩) hS.2.2 d_MQ_row_9
theorem c_MQ_row (l : Launch) (g : Gz) (F : Nat) (a_t : Nat → Nat) (a_rows : Nat → Nat) (r_query : Nat) (r_reader : Nat) (r_printer : Nat) (r_judge : Nat) (r_rows_pile : Nat) (t : StI) (rows : StI) (rowsL : StL) (x1 : Int32) (x2 : Int32) (res : Int64) (h : MQ_row F t rows rowsL x1 x2 = some res) : ∀ sz : Nat, Met l y_MQ_row (.code y_MQ_row prog_1_method_14_code 3 (some .long) :: TBL) rm_MQ_row (va_Pc [.ref (a_t 0), .int x1, .int x2] (Pre0 g ((pic_MQ g a_t r_query r_reader r_printer (a_rows 0) r_judge t) ++ (pic_Rows g a_rows r_rows_pile rows rowsL)) sz)) (RL res (fun q => sz ≤ q)) 0 0 (fun q => sz ≤ q) :=
  ct_r (Qc := fun A => RL res A) (by decide) (Nat.le_of_ble_eq_true rfl) (fun p e s m args below meth c A2 A hC => k_MQ_row hC t rows rowsL x1 x2 res h)
def MQ_ask (F : Nat) (t : StI) (judgeL : StL) (query : StI) (judge_pile : StI) (judge_pileL : StL) (x1 : Int64) : Option (Int32 × StL × StI × StL) := (Judge_accepts F judgeL query judge_pile judge_pileL x1).bind fun r3 => if r3.1 = 0 ∨ r3.1 = 1 then some (r3.1, r3.2.1, r3.2.2.1, r3.2.2.2) else none
set_option maxHeartbeats 4000000 in
set_option maxRecDepth 100000 in
theorem k_MQ_ask {p : Program} {l : Launch} {e : Env} {s : State} {m : MethodId} {args : Array Value} {below : List Frame} {meth : Method} {c : Code} {g : Gz} {A : Nat → Prop} {F : Nat} {a_t a_judge a_query a_judge_pile : Nat → Nat} {r_reader r_printer r_rows : Nat} (hC : Cx prog_1_method_15_code 3 (some .boolean) R_MQ p s m args meth c g A A) : ∀ (t : StI) (judgeL : StL) (query : StI) (judge_pile : StI) (judge_pileL : StL) (x1 : Int64) (res : Int32 × StL × StI × StL), MQ_ask F t judgeL query judge_pile judge_pileL x1 = some res → Go p l e rm_MQ_ask s m args below meth c g A A 3 (MQ below (EI g ((pic_MQ g a_t (a_query 0) r_reader r_printer r_rows (a_judge 0) t) ++ (pic_Judge g a_judge (a_judge_pile 0) res.2.1) ++ (pic_Query g a_query query) ++ (pic_Pile g a_judge_pile 40 res.2.2.1 res.2.2.2)) res.1 A) args s 0 0 A) ((pic_MQ g a_t (a_query 0) r_reader r_printer r_rows (a_judge 0) t) ++ (pic_Judge g a_judge (a_judge_pile 0) judgeL) ++ (pic_Query g a_query query) ++ (pic_Pile g a_judge_pile 40 judge_pile judge_pileL)) [(0, .ref (a_t 0)), (1, .long x1)] 0 [] := by
  obtain ⟨hx, hb, hr, hml, hown, htb, hlocks, hA, hAA, hG⟩ := id hC
  have hK := hG.1
  intro t judgeL query judge_pile judge_pileL x1 res h H locs ls hP hD hS hl
  rw [MQ_ask] at h
  refine lv_aload_n hx hb d_MQ_ask_0 rfl (lv_at hl 0 rfl) ?_
  refine va_get (D := gD g) (ci := 7) (v := .ref (a_judge 0)) (C := R_MQ) (T := T_MQ) (N := 8) hx hb htb in_MQ hown hK hP 0 rfl rfl 7 (by decide) (htb _ L_MQ_51) (fun _ h9 => h9) rfl d_MQ_ask_1 ?_
  refine lv_aload_n hx hb d_MQ_ask_4 rfl (lv_at hl 0 rfl) ?_
  refine va_get (D := gD g) (ci := 7) (v := .ref (a_query 0)) (C := R_MQ) (T := T_MQ) (N := 8) hx hb htb in_MQ hown hK hP 0 rfl rfl 3 (by decide) (htb _ L_MQ_23) (fun _ h9 => h9) rfl d_MQ_ask_5 ?_
  refine lv_lload_n hx hb d_MQ_ask_8 rfl (lv_at hl 1 rfl) ?_
  obtain ⟨r3, hr3, h⟩ := Option.bind_eq_some_iff.mp h
  refine cl_I (wr := (pic_MQ g a_t (a_query 0) r_reader r_printer r_rows (a_judge 0) t)) [3, 4, 5, 6, 7, 8, 9, 10, 11, 12, 13, 14, 15, 16, 17] [0, 1, 2] rfl rfl rfl (by decide) hP hD hS hA (va_runV (As := [.ref (a_query 0), .long x1]) (rest := []) ⟨hx, hb, hml, hown, htb⟩ (c_Judge_accepts l g F a_judge a_query a_judge_pile judgeL query judge_pile judge_pileL x1 _ hr3 H.size) (cw_V htb mb_Judge_accepts (htb _ L_MQ_142) rfl rfl ⟨Nat.le_of_ble_eq_true rfl, Nat.le_of_ble_eq_true rfl⟩) (pre_V (va_recv hK hP (ci := 5) (q0 := 3) rfl rfl) (pre_S [3, 4, 5, 6, 7, 8, 9, 10, 11, 12, 13, 14, 15, 16, 17] rfl rfl hP hD hS hA hAA hG)) rfl rfl hl.1 rfl (lv_room (Nat.le_of_ble_eq_true rfl)) d_MQ_ask_9 ⟨Nat.zero_le _, Nat.zero_le _⟩) (fun H locs hP hD hS => ?_)
  have hP : va_P (gD g) vwCl ((pic_MQ g a_t (a_query 0) r_reader r_printer r_rows (a_judge 0) t) ++ (pic_Judge g a_judge (a_judge_pile 0) r3.2.1) ++ (pic_Query g a_query query) ++ (pic_Pile g a_judge_pile 40 r3.2.2.1 r3.2.2.2)) H := hP.sub [0, 1, 2, 3, 4, 5, 6, 7, 8, 9, 10, 11, 12, 13, 14, 15, 16, 17] rfl
  have hD : va_D A ((pic_MQ g a_t (a_query 0) r_reader r_printer r_rows (a_judge 0) t) ++ (pic_Judge g a_judge (a_judge_pile 0) r3.2.1) ++ (pic_Query g a_query query) ++ (pic_Pile g a_judge_pile 40 r3.2.2.1 r3.2.2.2)) := hD.sub [0, 1, 2, 3, 4, 5, 6, 7, 8, 9, 10, 11, 12, 13, 14, 15, 16, 17] rfl rfl
  by_cases c4 : (r3.1 = 0 ∨ r3.1 = 1)
  rotate_left
  · replace h := (if_neg c4).symm.trans h
    cases h
  replace h := (if_pos c4).symm.trans h
  cases h
  exact W.zret hx hb hr (by rcases c4 with c4 | c4 <;> rw [c4] <;> rfl) (fun t ht hW => ⟨⟨_, (), rfl, rfl, by rw [ht]; exact hP, hD⟩, hS.F ht⟩) hS.2.2 d_MQ_ask_12
theorem c_MQ_ask (l : Launch) (g : Gz) (F : Nat) (a_t : Nat → Nat) (a_judge : Nat → Nat) (a_query : Nat → Nat) (a_judge_pile : Nat → Nat) (r_reader : Nat) (r_printer : Nat) (r_rows : Nat) (t : StI) (judgeL : StL) (query : StI) (judge_pile : StI) (judge_pileL : StL) (x1 : Int64) (res : Int32 × StL × StI × StL) (h : MQ_ask F t judgeL query judge_pile judge_pileL x1 = some res) : ∀ sz : Nat, Met l y_MQ_ask (.code y_MQ_ask prog_1_method_15_code 3 (some .boolean) :: TBL) rm_MQ_ask (va_Pc [.ref (a_t 0), .long x1] (Pre0 g ((pic_MQ g a_t (a_query 0) r_reader r_printer r_rows (a_judge 0) t) ++ (pic_Judge g a_judge (a_judge_pile 0) judgeL) ++ (pic_Query g a_query query) ++ (pic_Pile g a_judge_pile 40 judge_pile judge_pileL)) sz)) (EI g ((pic_MQ g a_t (a_query 0) r_reader r_printer r_rows (a_judge 0) t) ++ (pic_Judge g a_judge (a_judge_pile 0) res.2.1) ++ (pic_Query g a_query query) ++ (pic_Pile g a_judge_pile 40 res.2.2.1 res.2.2.2)) res.1 (va_A ((pic_MQ g a_t (a_query 0) r_reader r_printer r_rows (a_judge 0) t) ++ (pic_Judge g a_judge (a_judge_pile 0) judgeL) ++ (pic_Query g a_query query) ++ (pic_Pile g a_judge_pile 40 judge_pile judge_pileL)) sz)) 0 0 (va_A ((pic_MQ g a_t (a_query 0) r_reader r_printer r_rows (a_judge 0) t) ++ (pic_Judge g a_judge (a_judge_pile 0) judgeL) ++ (pic_Query g a_query query) ++ (pic_Pile g a_judge_pile 40 judge_pile judge_pileL)) sz) :=
  ct_w (Qc := fun A => EI g ((pic_MQ g a_t (a_query 0) r_reader r_printer r_rows (a_judge 0) t) ++ (pic_Judge g a_judge (a_judge_pile 0) res.2.1) ++ (pic_Query g a_query query) ++ (pic_Pile g a_judge_pile 40 res.2.2.1 res.2.2.2)) res.1 A) (by decide) (Nat.le_of_ble_eq_true rfl) (fun p e s m args below meth c A hC => k_MQ_ask hC t judgeL query judge_pile judge_pileL x1 res h)
def MQ_ways (F : Nat) (t : StI) (judgeL : StL) (query : StI) (judge_pile : StI) (judge_pileL : StL) : Option (Int32 × StL × StI × StL) := (Judge_countWays F judgeL query judge_pile judge_pileL).bind fun r2 => some (r2.1, r2.2.1, r2.2.2.1, r2.2.2.2)
set_option maxHeartbeats 4000000 in
set_option maxRecDepth 100000 in
theorem k_MQ_ways {p : Program} {l : Launch} {e : Env} {s : State} {m : MethodId} {args : Array Value} {below : List Frame} {meth : Method} {c : Code} {g : Gz} {A : Nat → Prop} {F : Nat} {a_t a_judge a_query a_judge_pile : Nat → Nat} {r_reader r_printer r_rows : Nat} (hC : Cx prog_1_method_16_code 1 (some .int) R_MQ p s m args meth c g A A) : ∀ (t : StI) (judgeL : StL) (query : StI) (judge_pile : StI) (judge_pileL : StL) (res : Int32 × StL × StI × StL), MQ_ways F t judgeL query judge_pile judge_pileL = some res → Go p l e rm_MQ_ways s m args below meth c g A A 1 (MQ below (EI g ((pic_MQ g a_t (a_query 0) r_reader r_printer r_rows (a_judge 0) t) ++ (pic_Judge g a_judge (a_judge_pile 0) res.2.1) ++ (pic_Query g a_query query) ++ (pic_Pile g a_judge_pile 40 res.2.2.1 res.2.2.2)) res.1 A) args s 0 0 A) ((pic_MQ g a_t (a_query 0) r_reader r_printer r_rows (a_judge 0) t) ++ (pic_Judge g a_judge (a_judge_pile 0) judgeL) ++ (pic_Query g a_query query) ++ (pic_Pile g a_judge_pile 40 judge_pile judge_pileL)) [(0, .ref (a_t 0))] 0 [] := by
  obtain ⟨hx, hb, hr, hml, hown, htb, hlocks, hA, hAA, hG⟩ := id hC
  have hK := hG.1
  intro t judgeL query judge_pile judge_pileL res h H locs ls hP hD hS hl
  rw [MQ_ways] at h
  refine lv_aload_n hx hb d_MQ_ways_0 rfl (lv_at hl 0 rfl) ?_
  refine va_get (D := gD g) (ci := 7) (v := .ref (a_judge 0)) (C := R_MQ) (T := T_MQ) (N := 8) hx hb htb in_MQ hown hK hP 0 rfl rfl 7 (by decide) (htb _ L_MQ_51) (fun _ h9 => h9) rfl d_MQ_ways_1 ?_
  refine lv_aload_n hx hb d_MQ_ways_4 rfl (lv_at hl 0 rfl) ?_
  refine va_get (D := gD g) (ci := 7) (v := .ref (a_query 0)) (C := R_MQ) (T := T_MQ) (N := 8) hx hb htb in_MQ hown hK hP 0 rfl rfl 3 (by decide) (htb _ L_MQ_23) (fun _ h9 => h9) rfl d_MQ_ways_5 ?_
  obtain ⟨r2, hr2, h⟩ := Option.bind_eq_some_iff.mp h
  refine cl_I (wr := (pic_MQ g a_t (a_query 0) r_reader r_printer r_rows (a_judge 0) t)) [3, 4, 5, 6, 7, 8, 9, 10, 11, 12, 13, 14, 15, 16, 17] [0, 1, 2] rfl rfl rfl (by decide) hP hD hS hA (va_runV (As := [.ref (a_query 0)]) (rest := []) ⟨hx, hb, hml, hown, htb⟩ (c_Judge_countWays l g F a_judge a_query a_judge_pile judgeL query judge_pile judge_pileL _ hr2 H.size) (cw_V htb mb_Judge_countWays (htb _ L_MQ_146) rfl rfl ⟨Nat.le_of_ble_eq_true rfl, Nat.le_of_ble_eq_true rfl⟩) (pre_V (va_recv hK hP (ci := 5) (q0 := 3) rfl rfl) (pre_S [3, 4, 5, 6, 7, 8, 9, 10, 11, 12, 13, 14, 15, 16, 17] rfl rfl hP hD hS hA hAA hG)) rfl rfl hl.1 rfl (lv_room (Nat.le_of_ble_eq_true rfl)) d_MQ_ways_8 ⟨Nat.zero_le _, Nat.zero_le _⟩) (fun H locs hP hD hS => ?_)
  have hP : va_P (gD g) vwCl ((pic_MQ g a_t (a_query 0) r_reader r_printer r_rows (a_judge 0) t) ++ (pic_Judge g a_judge (a_judge_pile 0) r2.2.1) ++ (pic_Query g a_query query) ++ (pic_Pile g a_judge_pile 40 r2.2.2.1 r2.2.2.2)) H := hP.sub [0, 1, 2, 3, 4, 5, 6, 7, 8, 9, 10, 11, 12, 13, 14, 15, 16, 17] rfl
  have hD : va_D A ((pic_MQ g a_t (a_query 0) r_reader r_printer r_rows (a_judge 0) t) ++ (pic_Judge g a_judge (a_judge_pile 0) r2.2.1) ++ (pic_Query g a_query query) ++ (pic_Pile g a_judge_pile 40 r2.2.2.1 r2.2.2.2)) := hD.sub [0, 1, 2, 3, 4, 5, 6, 7, 8, 9, 10, 11, 12, 13, 14, 15, 16, 17] rfl rfl
  cases h
  exact W.iret hx hb hr (fun t ht hW => ⟨⟨_, (), rfl, rfl, by rw [ht]; exact hP, hD⟩, hS.F ht⟩) hS.2.2 d_MQ_ways_11
theorem c_MQ_ways (l : Launch) (g : Gz) (F : Nat) (a_t : Nat → Nat) (a_judge : Nat → Nat) (a_query : Nat → Nat) (a_judge_pile : Nat → Nat) (r_reader : Nat) (r_printer : Nat) (r_rows : Nat) (t : StI) (judgeL : StL) (query : StI) (judge_pile : StI) (judge_pileL : StL) (res : Int32 × StL × StI × StL) (h : MQ_ways F t judgeL query judge_pile judge_pileL = some res) : ∀ sz : Nat, Met l y_MQ_ways (.code y_MQ_ways prog_1_method_16_code 1 (some .int) :: TBL) rm_MQ_ways (va_Pc [.ref (a_t 0)] (Pre0 g ((pic_MQ g a_t (a_query 0) r_reader r_printer r_rows (a_judge 0) t) ++ (pic_Judge g a_judge (a_judge_pile 0) judgeL) ++ (pic_Query g a_query query) ++ (pic_Pile g a_judge_pile 40 judge_pile judge_pileL)) sz)) (EI g ((pic_MQ g a_t (a_query 0) r_reader r_printer r_rows (a_judge 0) t) ++ (pic_Judge g a_judge (a_judge_pile 0) res.2.1) ++ (pic_Query g a_query query) ++ (pic_Pile g a_judge_pile 40 res.2.2.1 res.2.2.2)) res.1 (va_A ((pic_MQ g a_t (a_query 0) r_reader r_printer r_rows (a_judge 0) t) ++ (pic_Judge g a_judge (a_judge_pile 0) judgeL) ++ (pic_Query g a_query query) ++ (pic_Pile g a_judge_pile 40 judge_pile judge_pileL)) sz)) 0 0 (va_A ((pic_MQ g a_t (a_query 0) r_reader r_printer r_rows (a_judge 0) t) ++ (pic_Judge g a_judge (a_judge_pile 0) judgeL) ++ (pic_Query g a_query query) ++ (pic_Pile g a_judge_pile 40 judge_pile judge_pileL)) sz) :=
  ct_w (Qc := fun A => EI g ((pic_MQ g a_t (a_query 0) r_reader r_printer r_rows (a_judge 0) t) ++ (pic_Judge g a_judge (a_judge_pile 0) res.2.1) ++ (pic_Query g a_query query) ++ (pic_Pile g a_judge_pile 40 res.2.2.1 res.2.2.2)) res.1 A) (by decide) (Nat.le_of_ble_eq_true rfl) (fun p e s m args below meth c A hC => k_MQ_ways hC t judgeL query judge_pile judge_pileL res h)
