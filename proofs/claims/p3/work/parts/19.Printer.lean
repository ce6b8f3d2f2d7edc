theorem L_Printer_15 : (Jvm.Cond.fieldLink "MailQueries$Printer" (15 : Nat) "MailQueries$Printer" "length" "I") ∈ TBL := TBL_in (List.mem_of_getElem? (i := 276) (by decide +kernel)) (by decide +kernel)
theorem L_Printer_9 : (Jvm.Cond.fieldLink "MailQueries$Printer" (9 : Nat) "MailQueries$Printer" "bytes" "[C") ∈ TBL := TBL_in (List.mem_of_getElem? (i := 275) (by decide +kernel)) (by decide +kernel)
set_option maxRecDepth 100000 in
theorem W_Printer_byteAt_code : (Jvm.Cond.code ({ cls := "MailQueries$Printer", name := "byteAt", desc := "(I)I" } : Jvm.MethodName) prog_4_method_2_code (2 : Nat) (Option.some Jvm.ClassFile.FieldType.int)) ∈ TBL := TBL_in (List.mem_of_getElem? (i := 546) rfl) rfl
theorem I_Printer : (Jvm.Cond.initialized "MailQueries$Printer") ∈ TBL := TBL_in (List.mem_of_getElem? (i := 105) (by decide +kernel)) (by decide +kernel)
theorem W_Printer_byteAt_in : (Jvm.Cond.instanceMethod ({ cls := "MailQueries$Printer", name := "byteAt", desc := "(I)I" } : Jvm.MethodName)) ∈ TBL := TBL_in (List.mem_of_getElem? (i := 544) (by decide +kernel)) (by decide +kernel)
theorem W_Printer_byteAt_se : (Jvm.Cond.selects "MailQueries$Printer" ({ cls := "MailQueries$Printer", name := "byteAt", desc := "(I)I" } : Jvm.MethodName) ({ cls := "MailQueries$Printer", name := "byteAt", desc := "(I)I" } : Jvm.MethodName)) ∈ TBL := TBL_in (List.mem_of_getElem? (i := 545) (by decide +kernel)) (by decide +kernel)
set_option maxRecDepth 100000 in
theorem W_Printer_put_code : (Jvm.Cond.code ({ cls := "MailQueries$Printer", name := "put", desc := "(I)V" } : Jvm.MethodName) prog_4_method_9_code (2 : Nat) (Option.none : Option Jvm.ClassFile.FieldType)) ∈ TBL := TBL_in (List.mem_of_getElem? (i := 475) rfl) rfl
theorem W_Printer_put_in : (Jvm.Cond.instanceMethod ({ cls := "MailQueries$Printer", name := "put", desc := "(I)V" } : Jvm.MethodName)) ∈ TBL := TBL_in (List.mem_of_getElem? (i := 474) (by decide +kernel)) (by decide +kernel)
theorem sel_4 : Cond.selects "MailQueries$Printer" ⟨"MailQueries$Printer", "put", "(I)V"⟩ ⟨"MailQueries$Printer", "put", "(I)V"⟩ ∈ TBL := TBL_in (List.mem_of_getElem? (i := 4) (by decide +kernel)) (by decide +kernel)
theorem L_Printer_114 : (Jvm.Cond.methodLink "MailQueries$Printer" (114 : Nat) ({ cls := "java/lang/String", name := "length", desc := "()I" } : Jvm.MethodName)) ∈ TBL := TBL_in (List.mem_of_getElem? (i := 476) (by decide +kernel)) (by decide +kernel)
theorem L_Printer_119 : (Jvm.Cond.methodLink "MailQueries$Printer" (119 : Nat) ({ cls := "java/lang/String", name := "charAt", desc := "(I)C" } : Jvm.MethodName)) ∈ TBL := TBL_in (List.mem_of_getElem? (i := 486) (by decide +kernel)) (by decide +kernel)
theorem L_Printer_60 : (Jvm.Cond.methodLink "MailQueries$Printer" (60 : Nat) ({ cls := "MailQueries$Printer", name := "put", desc := "(I)V" } : Jvm.MethodName)) ∈ TBL := TBL_in (List.mem_of_getElem? (i := 472) (by decide +kernel)) (by decide +kernel)
theorem L_Printer_19 : (Jvm.Cond.fieldLink "MailQueries$Printer" (19 : Nat) "MailQueries$Printer" "wordBefore" "Z") ∈ TBL := TBL_in (List.mem_of_getElem? (i := 277) (by decide +kernel)) (by decide +kernel)
set_option maxRecDepth 100000 in
theorem W_Printer_writeWord_code : (Jvm.Cond.code ({ cls := "MailQueries$Printer", name := "writeWord", desc := "(Ljava/lang/String;)V" } : Jvm.MethodName) prog_4_method_8_code (3 : Nat) (Option.none : Option Jvm.ClassFile.FieldType)) ∈ TBL := TBL_in (List.mem_of_getElem? (i := 471) rfl) rfl
theorem W_Printer_writeWord_in : (Jvm.Cond.instanceMethod ({ cls := "MailQueries$Printer", name := "writeWord", desc := "(Ljava/lang/String;)V" } : Jvm.MethodName)) ∈ TBL := TBL_in (List.mem_of_getElem? (i := 470) (by decide +kernel)) (by decide +kernel)
theorem sel_3 : Cond.selects "MailQueries$Printer" ⟨"MailQueries$Printer", "writeWord", "(Ljava/lang/String;)V"⟩ ⟨"MailQueries$Printer", "writeWord", "(Ljava/lang/String;)V"⟩ ∈ TBL := TBL_in (List.mem_of_getElem? (i := 3) (by decide +kernel)) (by decide +kernel)
theorem L_Printer_72 : (Jvm.Cond.methodLink "MailQueries$Printer" (72 : Nat) ({ cls := "MailQueries$Printer", name := "writeWord", desc := "(Ljava/lang/String;)V" } : Jvm.MethodName)) ∈ TBL := TBL_in (List.mem_of_getElem? (i := 468) (by decide +kernel)) (by decide +kernel)
set_option maxRecDepth 100000 in
theorem W_Printer_writeSign_code : (Jvm.Cond.code ({ cls := "MailQueries$Printer", name := "writeSign", desc := "(I)V" } : Jvm.MethodName) prog_4_method_6_code (2 : Nat) (Option.none : Option Jvm.ClassFile.FieldType)) ∈ TBL := TBL_in (List.mem_of_getElem? (i := 535) rfl) rfl
theorem W_Printer_writeSign_in : (Jvm.Cond.instanceMethod ({ cls := "MailQueries$Printer", name := "writeSign", desc := "(I)V" } : Jvm.MethodName)) ∈ TBL := TBL_in (List.mem_of_getElem? (i := 534) (by decide +kernel)) (by decide +kernel)
theorem sel_5 : Cond.selects "MailQueries$Printer" ⟨"MailQueries$Printer", "writeSign", "(I)V"⟩ ⟨"MailQueries$Printer", "writeSign", "(I)V"⟩ ∈ TBL := TBL_in (List.mem_of_getElem? (i := 5) (by decide +kernel)) (by decide +kernel)
set_option maxRecDepth 100000 in
theorem W_Printer_tightnessOf_code : (Jvm.Cond.code ({ cls := "MailQueries$Printer", name := "tightnessOf", desc := "(I)I" } : Jvm.MethodName) prog_4_method_5_code (1 : Nat) (Option.some Jvm.ClassFile.FieldType.int)) ∈ TBL := TBL_in (List.mem_of_getElem? (i := 529) rfl) rfl
theorem W_Printer_tightnessOf_st : (Jvm.Cond.static ({ cls := "MailQueries$Printer", name := "tightnessOf", desc := "(I)I" } : Jvm.MethodName)) ∈ TBL := TBL_in (List.mem_of_getElem? (i := 528) (by decide +kernel)) (by decide +kernel)
theorem L_Printer_111 : (Jvm.Cond.methodLink "MailQueries$Printer" (111 : Nat) ({ cls := "MailQueries$Query", name := "byteAt", desc := "(I)I" } : Jvm.MethodName)) ∈ TBL := TBL_in (List.mem_of_getElem? (i := 524) (by decide +kernel)) (by decide +kernel)
theorem L_Printer_89 : (Jvm.Cond.methodLink "MailQueries$Printer" (89 : Nat) ({ cls := "MailQueries$Query", name := "has", desc := "(I)Z" } : Jvm.MethodName)) ∈ TBL := TBL_in (List.mem_of_getElem? (i := 451) (by decide +kernel)) (by decide +kernel)
set_option maxRecDepth 100000 in
theorem W_Printer_writeAtom_code : (Jvm.Cond.code ({ cls := "MailQueries$Printer", name := "writeAtom", desc := "(LMailQueries$Query;I)V" } : Jvm.MethodName) prog_4_method_7_code (4 : Nat) (Option.none : Option Jvm.ClassFile.FieldType)) ∈ TBL := TBL_in (List.mem_of_getElem? (i := 450) rfl) rfl
theorem W_Printer_writeAtom_in : (Jvm.Cond.instanceMethod ({ cls := "MailQueries$Printer", name := "writeAtom", desc := "(LMailQueries$Query;I)V" } : Jvm.MethodName)) ∈ TBL := TBL_in (List.mem_of_getElem? (i := 449) (by decide +kernel)) (by decide +kernel)
theorem sel_2 : Cond.selects "MailQueries$Printer" ⟨"MailQueries$Printer", "writeAtom", "(LMailQueries$Query;I)V"⟩ ⟨"MailQueries$Printer", "writeAtom", "(LMailQueries$Query;I)V"⟩ ∈ TBL := TBL_in (List.mem_of_getElem? (i := 2) (by decide +kernel)) (by decide +kernel)
theorem K_Printer_83 : (Jvm.Cond.constantLong "MailQueries$Printer" (83 : Nat) (-1 : Int64)) ∈ TBL := TBL_in (List.mem_of_getElem? (i := 531) (by decide +kernel)) (by decide +kernel)
theorem K_Printer_76 : (Jvm.Cond.constantLong "MailQueries$Printer" (76 : Nat) (3 : Int64)) ∈ TBL := TBL_in (List.mem_of_getElem? (i := 526) (by decide +kernel)) (by decide +kernel)
theorem L_Printer_28 : (Jvm.Cond.fieldLink "MailQueries$Printer" (28 : Nat) "MailQueries$Printer" "due" "LMailQueries$Pile;") ∈ TBL := TBL_in (List.mem_of_getElem? (i := 278) (by decide +kernel)) (by decide +kernel)
theorem L_Printer_40 : (Jvm.Cond.methodLink "MailQueries$Printer" (40 : Nat) ({ cls := "MailQueries$Pile", name := "push", desc := "(J)V" } : Jvm.MethodName)) ∈ TBL := TBL_in (List.mem_of_getElem? (i := 430) (by decide +kernel)) (by decide +kernel)
theorem L_Printer_78 : (Jvm.Cond.methodLink "MailQueries$Printer" (78 : Nat) ({ cls := "MailQueries$Printer", name := "tightnessOf", desc := "(I)I" } : Jvm.MethodName)) ∈ TBL := TBL_in (List.mem_of_getElem? (i := 527) (by decide +kernel)) (by decide +kernel)
theorem L_Printer_66 : (Jvm.Cond.methodLink "MailQueries$Printer" (66 : Nat) ({ cls := "MailQueries$Printer", name := "writeAtom", desc := "(LMailQueries$Query;I)V" } : Jvm.MethodName)) ∈ TBL := TBL_in (List.mem_of_getElem? (i := 447) (by decide +kernel)) (by decide +kernel)
set_option maxRecDepth 100000 in
theorem W_Printer_writeOperand_code : (Jvm.Cond.code ({ cls := "MailQueries$Printer", name := "writeOperand", desc := "(LMailQueries$Query;II)V" } : Jvm.MethodName) prog_4_method_4_code (5 : Nat) (Option.none : Option Jvm.ClassFile.FieldType)) ∈ TBL := TBL_in (List.mem_of_getElem? (i := 446) rfl) rfl
theorem W_Printer_writeOperand_in : (Jvm.Cond.instanceMethod ({ cls := "MailQueries$Printer", name := "writeOperand", desc := "(LMailQueries$Query;II)V" } : Jvm.MethodName)) ∈ TBL := TBL_in (List.mem_of_getElem? (i := 445) (by decide +kernel)) (by decide +kernel)
theorem sel_1 : Cond.selects "MailQueries$Printer" ⟨"MailQueries$Printer", "writeOperand", "(LMailQueries$Query;II)V"⟩ ⟨"MailQueries$Printer", "writeOperand", "(LMailQueries$Query;II)V"⟩ ∈ TBL := TBL_in (List.mem_of_getElem? (i := 1) (by decide +kernel)) (by decide +kernel)
theorem L_Printer_44 : (Jvm.Cond.methodLink "MailQueries$Printer" (44 : Nat) ({ cls := "MailQueries$Pile", name := "isEmpty", desc := "()Z" } : Jvm.MethodName)) ∈ TBL := TBL_in (List.mem_of_getElem? (i := 434) (by decide +kernel)) (by decide +kernel)
theorem L_Printer_48 : (Jvm.Cond.methodLink "MailQueries$Printer" (48 : Nat) ({ cls := "MailQueries$Pile", name := "pop", desc := "()J" } : Jvm.MethodName)) ∈ TBL := TBL_in (List.mem_of_getElem? (i := 438) (by decide +kernel)) (by decide +kernel)
theorem L_Printer_63 : (Jvm.Cond.methodLink "MailQueries$Printer" (63 : Nat) ({ cls := "MailQueries$Printer", name := "writeSign", desc := "(I)V" } : Jvm.MethodName)) ∈ TBL := TBL_in (List.mem_of_getElem? (i := 532) (by decide +kernel)) (by decide +kernel)
theorem L_Printer_52 : (Jvm.Cond.methodLink "MailQueries$Printer" (52 : Nat) ({ cls := "MailQueries$Query", name := "entryAt", desc := "(I)I" } : Jvm.MethodName)) ∈ TBL := TBL_in (List.mem_of_getElem? (i := 442) (by decide +kernel)) (by decide +kernel)
theorem L_Printer_56 : (Jvm.Cond.methodLink "MailQueries$Printer" (56 : Nat) ({ cls := "MailQueries$Printer", name := "writeOperand", desc := "(LMailQueries$Query;II)V" } : Jvm.MethodName)) ∈ TBL := TBL_in (List.mem_of_getElem? (i := 443) (by decide +kernel)) (by decide +kernel)
theorem L_Printer_32 : (Jvm.Cond.methodLink "MailQueries$Printer" (32 : Nat) ({ cls := "MailQueries$Pile", name := "clear", desc := "()V" } : Jvm.MethodName)) ∈ TBL := TBL_in (List.mem_of_getElem? (i := 426) (by decide +kernel)) (by decide +kernel)
set_option maxRecDepth 100000 in
theorem W_Printer_write_code : (Jvm.Cond.code ({ cls := "MailQueries$Printer", name := "write", desc := "(LMailQueries$Query;)I" } : Jvm.MethodName) prog_4_method_3_code (5 : Nat) (Option.some Jvm.ClassFile.FieldType.int)) ∈ TBL := TBL_in (List.mem_of_getElem? (i := 425) rfl) rfl
theorem W_Printer_write_in : (Jvm.Cond.instanceMethod ({ cls := "MailQueries$Printer", name := "write", desc := "(LMailQueries$Query;)I" } : Jvm.MethodName)) ∈ TBL := TBL_in (List.mem_of_getElem? (i := 423) (by decide +kernel)) (by decide +kernel)
theorem W_Printer_write_se : (Jvm.Cond.selects "MailQueries$Printer" ({ cls := "MailQueries$Printer", name := "write", desc := "(LMailQueries$Query;)I" } : Jvm.MethodName) ({ cls := "MailQueries$Printer", name := "write", desc := "(LMailQueries$Query;)I" } : Jvm.MethodName)) ∈ TBL := TBL_in (List.mem_of_getElem? (i := 424) (by decide +kernel)) (by decide +kernel)
def y_Printer_byteAt : MethodName := ⟨"MailQueries$Printer", "byteAt", "(I)I"⟩
def rm_Printer_byteAt : Room := { frames := 0, cells := 0, slots := 0, locals := 0 }
theorem d_Printer_byteAt_0 : decode prog_4_method_2_code 0 = .ok (.iload_n 1, 1) := by decide +kernel
theorem d_Printer_byteAt_1 : decode prog_4_method_2_code 1 = .ok (.ifCond .lt 20, 3) := by decide +kernel
theorem d_Printer_byteAt_4 : decode prog_4_method_2_code 4 = .ok (.iload_n 1, 1) := by decide +kernel
theorem d_Printer_byteAt_5 : decode prog_4_method_2_code 5 = .ok (.aload_n 0, 1) := by decide +kernel
theorem d_Printer_byteAt_6 : decode prog_4_method_2_code 6 = .ok (.getfield 15, 3) := by decide +kernel
theorem d_Printer_byteAt_9 : decode prog_4_method_2_code 9 = .ok (.if_icmp .ge 12, 3) := by decide +kernel
theorem d_Printer_byteAt_12 : decode prog_4_method_2_code 12 = .ok (.aload_n 0, 1) := by decide +kernel
theorem d_Printer_byteAt_13 : decode prog_4_method_2_code 13 = .ok (.getfield 9, 3) := by decide +kernel
theorem d_Printer_byteAt_16 : decode prog_4_method_2_code 16 = .ok (.iload_n 1, 1) := by decide +kernel
theorem d_Printer_byteAt_17 : decode prog_4_method_2_code 17 = .ok (.caload, 1) := by decide +kernel
theorem d_Printer_byteAt_18 : decode prog_4_method_2_code 18 = .ok (.goto 4, 3) := by decide +kernel
theorem d_Printer_byteAt_21 : decode prog_4_method_2_code 21 = .ok (.iconst (-1), 1) := by decide +kernel
theorem d_Printer_byteAt_22 : decode prog_4_method_2_code 22 = .ok (.ireturn, 1) := by decide +kernel
def y_Printer_put : MethodName := ⟨"MailQueries$Printer", "put", "(I)V"⟩
def rm_Printer_put : Room := { frames := 0, cells := 0, slots := 0, locals := 0 }
theorem d_Printer_put_0 : decode prog_4_method_9_code 0 = .ok (.aload_n 0, 1) := by decide +kernel
theorem d_Printer_put_1 : decode prog_4_method_9_code 1 = .ok (.getfield 15, 3) := by decide +kernel
theorem d_Printer_put_4 : decode prog_4_method_9_code 4 = .ok (.aload_n 0, 1) := by decide +kernel
theorem d_Printer_put_5 : decode prog_4_method_9_code 5 = .ok (.getfield 9, 3) := by decide +kernel
theorem d_Printer_put_8 : decode prog_4_method_9_code 8 = .ok (.arraylength, 1) := by decide +kernel
theorem d_Printer_put_9 : decode prog_4_method_9_code 9 = .ok (.if_icmp .ge 24, 3) := by decide +kernel
theorem d_Printer_put_12 : decode prog_4_method_9_code 12 = .ok (.aload_n 0, 1) := by decide +kernel
theorem d_Printer_put_13 : decode prog_4_method_9_code 13 = .ok (.getfield 9, 3) := by decide +kernel
theorem d_Printer_put_16 : decode prog_4_method_9_code 16 = .ok (.aload_n 0, 1) := by decide +kernel
theorem d_Printer_put_17 : decode prog_4_method_9_code 17 = .ok (.getfield 15, 3) := by decide +kernel
theorem d_Printer_put_20 : decode prog_4_method_9_code 20 = .ok (.iload_n 1, 1) := by decide +kernel
theorem d_Printer_put_21 : decode prog_4_method_9_code 21 = .ok (.i2c, 1) := by decide +kernel
theorem d_Printer_put_22 : decode prog_4_method_9_code 22 = .ok (.castore, 1) := by decide +kernel
theorem d_Printer_put_23 : decode prog_4_method_9_code 23 = .ok (.aload_n 0, 1) := by decide +kernel
theorem d_Printer_put_24 : decode prog_4_method_9_code 24 = .ok (.dup, 1) := by decide +kernel
theorem d_Printer_put_25 : decode prog_4_method_9_code 25 = .ok (.getfield 15, 3) := by decide +kernel
theorem d_Printer_put_28 : decode prog_4_method_9_code 28 = .ok (.iconst 1, 1) := by decide +kernel
theorem d_Printer_put_29 : decode prog_4_method_9_code 29 = .ok (.iadd, 1) := by decide +kernel
theorem d_Printer_put_30 : decode prog_4_method_9_code 30 = .ok (.putfield 15, 3) := by decide +kernel
theorem d_Printer_put_33 : decode prog_4_method_9_code 33 = .ok (.return_, 1) := by decide +kernel
def y_Printer_writeWord : MethodName := ⟨"MailQueries$Printer", "writeWord", "(Ljava/lang/String;)V"⟩
def rm_Printer_writeWord : Room := { frames := 4, cells := 0, slots := 0, locals := 85 }
theorem d_Printer_writeWord_0 : decode prog_4_method_8_code 0 = .ok (.aload_n 0, 1) := by decide +kernel
theorem d_Printer_writeWord_1 : decode prog_4_method_8_code 1 = .ok (.getfield 19, 3) := by decide +kernel
theorem d_Printer_writeWord_4 : decode prog_4_method_8_code 4 = .ok (.ifCond .eq 9, 3) := by decide +kernel
theorem d_Printer_writeWord_7 : decode prog_4_method_8_code 7 = .ok (.aload_n 0, 1) := by decide +kernel
theorem d_Printer_writeWord_8 : decode prog_4_method_8_code 8 = .ok (.bipush 32, 2) := by decide +kernel
theorem d_Printer_writeWord_10 : decode prog_4_method_8_code 10 = .ok (.invokevirtual 60, 3) := by decide +kernel
theorem d_Printer_writeWord_13 : decode prog_4_method_8_code 13 = .ok (.aload_n 0, 1) := by decide +kernel
theorem d_Printer_writeWord_14 : decode prog_4_method_8_code 14 = .ok (.iconst 1, 1) := by decide +kernel
theorem d_Printer_writeWord_15 : decode prog_4_method_8_code 15 = .ok (.putfield 19, 3) := by decide +kernel
theorem d_Printer_writeWord_18 : decode prog_4_method_8_code 18 = .ok (.iconst 0, 1) := by decide +kernel
theorem d_Printer_writeWord_19 : decode prog_4_method_8_code 19 = .ok (.istore_n 2, 1) := by decide +kernel
theorem d_Printer_writeWord_20 : decode prog_4_method_8_code 20 = .ok (.iload_n 2, 1) := by decide +kernel
theorem d_Printer_writeWord_21 : decode prog_4_method_8_code 21 = .ok (.aload_n 1, 1) := by decide +kernel
theorem d_Printer_writeWord_22 : decode prog_4_method_8_code 22 = .ok (.invokevirtual 114, 3) := by decide +kernel
theorem d_Printer_writeWord_25 : decode prog_4_method_8_code 25 = .ok (.if_icmp .ge 18, 3) := by decide +kernel
theorem d_Printer_writeWord_28 : decode prog_4_method_8_code 28 = .ok (.aload_n 0, 1) := by decide +kernel
theorem d_Printer_writeWord_29 : decode prog_4_method_8_code 29 = .ok (.aload_n 1, 1) := by decide +kernel
theorem d_Printer_writeWord_30 : decode prog_4_method_8_code 30 = .ok (.iload_n 2, 1) := by decide +kernel
theorem d_Printer_writeWord_31 : decode prog_4_method_8_code 31 = .ok (.invokevirtual 119, 3) := by decide +kernel
theorem d_Printer_writeWord_34 : decode prog_4_method_8_code 34 = .ok (.invokevirtual 60, 3) := by decide +kernel
theorem d_Printer_writeWord_37 : decode prog_4_method_8_code 37 = .ok (.iinc 2 1, 3) := by decide +kernel
theorem d_Printer_writeWord_40 : decode prog_4_method_8_code 40 = .ok (.goto (-20), 3) := by decide +kernel
theorem d_Printer_writeWord_43 : decode prog_4_method_8_code 43 = .ok (.return_, 1) := by decide +kernel
def y_Printer_writeSign : MethodName := ⟨"MailQueries$Printer", "writeSign", "(I)V"⟩
def rm_Printer_writeSign : Room := { frames := 5, cells := 0, slots := 0, locals := 107 }
theorem d_Printer_writeSign_0 : decode prog_4_method_6_code 0 = .ok (.iload_n 1, 1) := by decide +kernel
theorem d_Printer_writeSign_1 : decode prog_4_method_6_code 1 = .ok (.bipush (-4), 2) := by decide +kernel
theorem d_Printer_writeSign_3 : decode prog_4_method_6_code 3 = .ok (.if_icmp .ne 12, 3) := by decide +kernel
theorem d_Printer_writeSign_6 : decode prog_4_method_6_code 6 = .ok (.aload_n 0, 1) := by decide +kernel
theorem d_Printer_writeSign_7 : decode prog_4_method_6_code 7 = .ok (.ldc 85, 2) := by decide +kernel
theorem d_Printer_writeSign_9 : decode prog_4_method_6_code 9 = .ok (.invokevirtual 72, 3) := by decide +kernel
theorem d_Printer_writeSign_12 : decode prog_4_method_6_code 12 = .ok (.goto 15, 3) := by decide +kernel
theorem d_Printer_writeSign_15 : decode prog_4_method_6_code 15 = .ok (.iload_n 1, 1) := by decide +kernel
theorem d_Printer_writeSign_16 : decode prog_4_method_6_code 16 = .ok (.bipush (-5), 2) := by decide +kernel
theorem d_Printer_writeSign_18 : decode prog_4_method_6_code 18 = .ok (.if_icmp .ne 9, 3) := by decide +kernel
theorem d_Printer_writeSign_21 : decode prog_4_method_6_code 21 = .ok (.aload_n 0, 1) := by decide +kernel
theorem d_Printer_writeSign_22 : decode prog_4_method_6_code 22 = .ok (.ldc 87, 2) := by decide +kernel
theorem d_Printer_writeSign_24 : decode prog_4_method_6_code 24 = .ok (.invokevirtual 72, 3) := by decide +kernel
theorem d_Printer_writeSign_27 : decode prog_4_method_6_code 27 = .ok (.return_, 1) := by decide +kernel
def y_Printer_tightnessOf : MethodName := ⟨"MailQueries$Printer", "tightnessOf", "(I)I"⟩
def rm_Printer_tightnessOf : Room := { frames := 0, cells := 0, slots := 0, locals := 0 }
theorem d_Printer_tightnessOf_0 : decode prog_4_method_5_code 0 = .ok (.iload_n 0, 1) := by decide +kernel
theorem d_Printer_tightnessOf_1 : decode prog_4_method_5_code 1 = .ok (.bipush (-4), 2) := by decide +kernel
theorem d_Printer_tightnessOf_3 : decode prog_4_method_5_code 3 = .ok (.if_icmp .ne 7, 3) := by decide +kernel
theorem d_Printer_tightnessOf_6 : decode prog_4_method_5_code 6 = .ok (.iconst 0, 1) := by decide +kernel
theorem d_Printer_tightnessOf_7 : decode prog_4_method_5_code 7 = .ok (.goto 14, 3) := by decide +kernel
theorem d_Printer_tightnessOf_10 : decode prog_4_method_5_code 10 = .ok (.iload_n 0, 1) := by decide +kernel
theorem d_Printer_tightnessOf_11 : decode prog_4_method_5_code 11 = .ok (.bipush (-5), 2) := by decide +kernel
theorem d_Printer_tightnessOf_13 : decode prog_4_method_5_code 13 = .ok (.if_icmp .ne 7, 3) := by decide +kernel
theorem d_Printer_tightnessOf_16 : decode prog_4_method_5_code 16 = .ok (.iconst 1, 1) := by decide +kernel
theorem d_Printer_tightnessOf_17 : decode prog_4_method_5_code 17 = .ok (.goto 4, 3) := by decide +kernel
theorem d_Printer_tightnessOf_20 : decode prog_4_method_5_code 20 = .ok (.iconst 2, 1) := by decide +kernel
theorem d_Printer_tightnessOf_21 : decode prog_4_method_5_code 21 = .ok (.ireturn, 1) := by decide +kernel
def y_Printer_writeAtom : MethodName := ⟨"MailQueries$Printer", "writeAtom", "(LMailQueries$Query;I)V"⟩
def rm_Printer_writeAtom : Room := { frames := 5, cells := 0, slots := 0, locals := 107 }
theorem d_Printer_writeAtom_0 : decode prog_4_method_7_code 0 = .ok (.aload_n 1, 1) := by decide +kernel
theorem d_Printer_writeAtom_1 : decode prog_4_method_7_code 1 = .ok (.iload_n 2, 1) := by decide +kernel
theorem d_Printer_writeAtom_2 : decode prog_4_method_7_code 2 = .ok (.invokevirtual 89, 3) := by decide +kernel
theorem d_Printer_writeAtom_5 : decode prog_4_method_7_code 5 = .ok (.ifCond .ne 4, 3) := by decide +kernel
theorem d_Printer_writeAtom_8 : decode prog_4_method_7_code 8 = .ok (.return_, 1) := by decide +kernel
theorem d_Printer_writeAtom_9 : decode prog_4_method_7_code 9 = .ok (.aload_n 0, 1) := by decide +kernel
theorem d_Printer_writeAtom_10 : decode prog_4_method_7_code 10 = .ok (.aload_n 1, 1) := by decide +kernel
theorem d_Printer_writeAtom_11 : decode prog_4_method_7_code 11 = .ok (.getfield 93, 3) := by decide +kernel
theorem d_Printer_writeAtom_14 : decode prog_4_method_7_code 14 = .ok (.iload_n 2, 1) := by decide +kernel
theorem d_Printer_writeAtom_15 : decode prog_4_method_7_code 15 = .ok (.iaload, 1) := by decide +kernel
theorem d_Printer_writeAtom_16 : decode prog_4_method_7_code 16 = .ok (.invokestatic 97, 3) := by decide +kernel
theorem d_Printer_writeAtom_19 : decode prog_4_method_7_code 19 = .ok (.invokevirtual 72, 3) := by decide +kernel
theorem d_Printer_writeAtom_22 : decode prog_4_method_7_code 22 = .ok (.aload_n 1, 1) := by decide +kernel
theorem d_Printer_writeAtom_23 : decode prog_4_method_7_code 23 = .ok (.getfield 93, 3) := by decide +kernel
theorem d_Printer_writeAtom_26 : decode prog_4_method_7_code 26 = .ok (.iload_n 2, 1) := by decide +kernel
theorem d_Printer_writeAtom_27 : decode prog_4_method_7_code 27 = .ok (.iaload, 1) := by decide +kernel
theorem d_Printer_writeAtom_28 : decode prog_4_method_7_code 28 = .ok (.ifCond .eq 9, 3) := by decide +kernel
theorem d_Printer_writeAtom_31 : decode prog_4_method_7_code 31 = .ok (.aload_n 0, 1) := by decide +kernel
theorem d_Printer_writeAtom_32 : decode prog_4_method_7_code 32 = .ok (.bipush 58, 2) := by decide +kernel
theorem d_Printer_writeAtom_34 : decode prog_4_method_7_code 34 = .ok (.invokevirtual 60, 3) := by decide +kernel
theorem d_Printer_writeAtom_37 : decode prog_4_method_7_code 37 = .ok (.aload_n 1, 1) := by decide +kernel
theorem d_Printer_writeAtom_38 : decode prog_4_method_7_code 38 = .ok (.getfield 101, 3) := by decide +kernel
theorem d_Printer_writeAtom_41 : decode prog_4_method_7_code 41 = .ok (.iload_n 2, 1) := by decide +kernel
theorem d_Printer_writeAtom_42 : decode prog_4_method_7_code 42 = .ok (.baload, 1) := by decide +kernel
theorem d_Printer_writeAtom_43 : decode prog_4_method_7_code 43 = .ok (.ifCond .eq 9, 3) := by decide +kernel
theorem d_Printer_writeAtom_46 : decode prog_4_method_7_code 46 = .ok (.aload_n 0, 1) := by decide +kernel
theorem d_Printer_writeAtom_47 : decode prog_4_method_7_code 47 = .ok (.bipush 34, 2) := by decide +kernel
theorem d_Printer_writeAtom_49 : decode prog_4_method_7_code 49 = .ok (.invokevirtual 60, 3) := by decide +kernel
theorem d_Printer_writeAtom_52 : decode prog_4_method_7_code 52 = .ok (.iconst 0, 1) := by decide +kernel
theorem d_Printer_writeAtom_53 : decode prog_4_method_7_code 53 = .ok (.istore_n 3, 1) := by decide +kernel
theorem d_Printer_writeAtom_54 : decode prog_4_method_7_code 54 = .ok (.iload_n 3, 1) := by decide +kernel
theorem d_Printer_writeAtom_55 : decode prog_4_method_7_code 55 = .ok (.aload_n 1, 1) := by decide +kernel
theorem d_Printer_writeAtom_56 : decode prog_4_method_7_code 56 = .ok (.getfield 105, 3) := by decide +kernel
theorem d_Printer_writeAtom_59 : decode prog_4_method_7_code 59 = .ok (.iload_n 2, 1) := by decide +kernel
theorem d_Printer_writeAtom_60 : decode prog_4_method_7_code 60 = .ok (.iaload, 1) := by decide +kernel
theorem d_Printer_writeAtom_61 : decode prog_4_method_7_code 61 = .ok (.if_icmp .ge 25, 3) := by decide +kernel
theorem d_Printer_writeAtom_64 : decode prog_4_method_7_code 64 = .ok (.aload_n 0, 1) := by decide +kernel
theorem d_Printer_writeAtom_65 : decode prog_4_method_7_code 65 = .ok (.aload_n 1, 1) := by decide +kernel
theorem d_Printer_writeAtom_66 : decode prog_4_method_7_code 66 = .ok (.aload_n 1, 1) := by decide +kernel
theorem d_Printer_writeAtom_67 : decode prog_4_method_7_code 67 = .ok (.getfield 108, 3) := by decide +kernel
theorem d_Printer_writeAtom_70 : decode prog_4_method_7_code 70 = .ok (.iload_n 2, 1) := by decide +kernel
theorem d_Printer_writeAtom_71 : decode prog_4_method_7_code 71 = .ok (.iaload, 1) := by decide +kernel
theorem d_Printer_writeAtom_72 : decode prog_4_method_7_code 72 = .ok (.iload_n 3, 1) := by decide +kernel
theorem d_Printer_writeAtom_73 : decode prog_4_method_7_code 73 = .ok (.iadd, 1) := by decide +kernel
theorem d_Printer_writeAtom_74 : decode prog_4_method_7_code 74 = .ok (.invokevirtual 111, 3) := by decide +kernel
theorem d_Printer_writeAtom_77 : decode prog_4_method_7_code 77 = .ok (.invokevirtual 60, 3) := by decide +kernel
theorem d_Printer_writeAtom_80 : decode prog_4_method_7_code 80 = .ok (.iinc 3 1, 3) := by decide +kernel
theorem d_Printer_writeAtom_83 : decode prog_4_method_7_code 83 = .ok (.goto (-29), 3) := by decide +kernel
theorem d_Printer_writeAtom_86 : decode prog_4_method_7_code 86 = .ok (.aload_n 1, 1) := by decide +kernel
theorem d_Printer_writeAtom_87 : decode prog_4_method_7_code 87 = .ok (.getfield 101, 3) := by decide +kernel
theorem d_Printer_writeAtom_90 : decode prog_4_method_7_code 90 = .ok (.iload_n 2, 1) := by decide +kernel
theorem d_Printer_writeAtom_91 : decode prog_4_method_7_code 91 = .ok (.baload, 1) := by decide +kernel
theorem d_Printer_writeAtom_92 : decode prog_4_method_7_code 92 = .ok (.ifCond .eq 9, 3) := by decide +kernel
theorem d_Printer_writeAtom_95 : decode prog_4_method_7_code 95 = .ok (.aload_n 0, 1) := by decide +kernel
theorem d_Printer_writeAtom_96 : decode prog_4_method_7_code 96 = .ok (.bipush 34, 2) := by decide +kernel
theorem d_Printer_writeAtom_98 : decode prog_4_method_7_code 98 = .ok (.invokevirtual 60, 3) := by decide +kernel
theorem d_Printer_writeAtom_101 : decode prog_4_method_7_code 101 = .ok (.return_, 1) := by decide +kernel
def y_Printer_writeOperand : MethodName := ⟨"MailQueries$Printer", "writeOperand", "(LMailQueries$Query;II)V"⟩
def rm_Printer_writeOperand : Room := { frames := 6, cells := 0, slots := 0, locals := 130 }
theorem d_Printer_writeOperand_0 : decode prog_4_method_4_code 0 = .ok (.iload_n 2, 1) := by decide +kernel
theorem d_Printer_writeOperand_1 : decode prog_4_method_4_code 1 = .ok (.ifCond .lt 12, 3) := by decide +kernel
theorem d_Printer_writeOperand_4 : decode prog_4_method_4_code 4 = .ok (.aload_n 0, 1) := by decide +kernel
theorem d_Printer_writeOperand_5 : decode prog_4_method_4_code 5 = .ok (.aload_n 1, 1) := by decide +kernel
theorem d_Printer_writeOperand_6 : decode prog_4_method_4_code 6 = .ok (.iload_n 2, 1) := by decide +kernel
theorem d_Printer_writeOperand_7 : decode prog_4_method_4_code 7 = .ok (.invokevirtual 66, 3) := by decide +kernel
theorem d_Printer_writeOperand_10 : decode prog_4_method_4_code 10 = .ok (.goto 92, 3) := by decide +kernel
theorem d_Printer_writeOperand_13 : decode prog_4_method_4_code 13 = .ok (.iload_n 2, 1) := by decide +kernel
theorem d_Printer_writeOperand_14 : decode prog_4_method_4_code 14 = .ok (.bipush (-2), 2) := by decide +kernel
theorem d_Printer_writeOperand_16 : decode prog_4_method_4_code 16 = .ok (.if_icmp .ne 22, 3) := by decide +kernel
theorem d_Printer_writeOperand_19 : decode prog_4_method_4_code 19 = .ok (.aload_n 0, 1) := by decide +kernel
theorem d_Printer_writeOperand_20 : decode prog_4_method_4_code 20 = .ok (.ldc 70, 2) := by decide +kernel
theorem d_Printer_writeOperand_22 : decode prog_4_method_4_code 22 = .ok (.invokevirtual 72, 3) := by decide +kernel
theorem d_Printer_writeOperand_25 : decode prog_4_method_4_code 25 = .ok (.aload_n 0, 1) := by decide +kernel
theorem d_Printer_writeOperand_26 : decode prog_4_method_4_code 26 = .ok (.getfield 28, 3) := by decide +kernel
theorem d_Printer_writeOperand_29 : decode prog_4_method_4_code 29 = .ok (.ldc2_w 76, 3) := by decide +kernel
theorem d_Printer_writeOperand_32 : decode prog_4_method_4_code 32 = .ok (.invokevirtual 40, 3) := by decide +kernel
theorem d_Printer_writeOperand_35 : decode prog_4_method_4_code 35 = .ok (.goto 67, 3) := by decide +kernel
theorem d_Printer_writeOperand_38 : decode prog_4_method_4_code 38 = .ok (.iload_n 2, 1) := by decide +kernel
theorem d_Printer_writeOperand_39 : decode prog_4_method_4_code 39 = .ok (.invokestatic 78, 3) := by decide +kernel
theorem d_Printer_writeOperand_42 : decode prog_4_method_4_code 42 = .ok (.istore 4, 2) := by decide +kernel
theorem d_Printer_writeOperand_44 : decode prog_4_method_4_code 44 = .ok (.iload 4, 2) := by decide +kernel
theorem d_Printer_writeOperand_46 : decode prog_4_method_4_code 46 = .ok (.iload_n 3, 1) := by decide +kernel
theorem d_Printer_writeOperand_47 : decode prog_4_method_4_code 47 = .ok (.if_icmp .ge 24, 3) := by decide +kernel
theorem d_Printer_writeOperand_50 : decode prog_4_method_4_code 50 = .ok (.aload_n 0, 1) := by decide +kernel
theorem d_Printer_writeOperand_51 : decode prog_4_method_4_code 51 = .ok (.ldc 81, 2) := by decide +kernel
theorem d_Printer_writeOperand_53 : decode prog_4_method_4_code 53 = .ok (.invokevirtual 72, 3) := by decide +kernel
theorem d_Printer_writeOperand_56 : decode prog_4_method_4_code 56 = .ok (.aload_n 0, 1) := by decide +kernel
theorem d_Printer_writeOperand_57 : decode prog_4_method_4_code 57 = .ok (.iconst 0, 1) := by decide +kernel
theorem d_Printer_writeOperand_58 : decode prog_4_method_4_code 58 = .ok (.putfield 19, 3) := by decide +kernel
theorem d_Printer_writeOperand_61 : decode prog_4_method_4_code 61 = .ok (.aload_n 0, 1) := by decide +kernel
theorem d_Printer_writeOperand_62 : decode prog_4_method_4_code 62 = .ok (.getfield 28, 3) := by decide +kernel
theorem d_Printer_writeOperand_65 : decode prog_4_method_4_code 65 = .ok (.ldc2_w 83, 3) := by decide +kernel
theorem d_Printer_writeOperand_68 : decode prog_4_method_4_code 68 = .ok (.invokevirtual 40, 3) := by decide +kernel
theorem d_Printer_writeOperand_71 : decode prog_4_method_4_code 71 = .ok (.aload_n 0, 1) := by decide +kernel
theorem d_Printer_writeOperand_72 : decode prog_4_method_4_code 72 = .ok (.getfield 28, 3) := by decide +kernel
theorem d_Printer_writeOperand_75 : decode prog_4_method_4_code 75 = .ok (.iload 4, 2) := by decide +kernel
theorem d_Printer_writeOperand_77 : decode prog_4_method_4_code 77 = .ok (.iconst 1, 1) := by decide +kernel
theorem d_Printer_writeOperand_78 : decode prog_4_method_4_code 78 = .ok (.iadd, 1) := by decide +kernel
theorem d_Printer_writeOperand_79 : decode prog_4_method_4_code 79 = .ok (.i2l, 1) := by decide +kernel
theorem d_Printer_writeOperand_80 : decode prog_4_method_4_code 80 = .ok (.invokevirtual 40, 3) := by decide +kernel
theorem d_Printer_writeOperand_83 : decode prog_4_method_4_code 83 = .ok (.aload_n 0, 1) := by decide +kernel
theorem d_Printer_writeOperand_84 : decode prog_4_method_4_code 84 = .ok (.getfield 28, 3) := by decide +kernel
theorem d_Printer_writeOperand_87 : decode prog_4_method_4_code 87 = .ok (.iload_n 2, 1) := by decide +kernel
theorem d_Printer_writeOperand_88 : decode prog_4_method_4_code 88 = .ok (.i2l, 1) := by decide +kernel
theorem d_Printer_writeOperand_89 : decode prog_4_method_4_code 89 = .ok (.invokevirtual 40, 3) := by decide +kernel
theorem d_Printer_writeOperand_92 : decode prog_4_method_4_code 92 = .ok (.aload_n 0, 1) := by decide +kernel
theorem d_Printer_writeOperand_93 : decode prog_4_method_4_code 93 = .ok (.getfield 28, 3) := by decide +kernel
theorem d_Printer_writeOperand_96 : decode prog_4_method_4_code 96 = .ok (.iload 4, 2) := by decide +kernel
theorem d_Printer_writeOperand_98 : decode prog_4_method_4_code 98 = .ok (.i2l, 1) := by decide +kernel
theorem d_Printer_writeOperand_99 : decode prog_4_method_4_code 99 = .ok (.invokevirtual 40, 3) := by decide +kernel
theorem d_Printer_writeOperand_102 : decode prog_4_method_4_code 102 = .ok (.return_, 1) := by decide +kernel
def y_Printer_write : MethodName := ⟨"MailQueries$Printer", "write", "(LMailQueries$Query;)I"⟩
def rm_Printer_write : Room := { frames := 7, cells := 0, slots := 0, locals := 154 }
theorem d_Printer_write_0 : decode prog_4_method_3_code 0 = .ok (.aload_n 0, 1) := by decide +kernel
theorem d_Printer_write_1 : decode prog_4_method_3_code 1 = .ok (.iconst 0, 1) := by decide +kernel
theorem d_Printer_write_2 : decode prog_4_method_3_code 2 = .ok (.putfield 15, 3) := by decide +kernel
theorem d_Printer_write_5 : decode prog_4_method_3_code 5 = .ok (.aload_n 0, 1) := by decide +kernel
theorem d_Printer_write_6 : decode prog_4_method_3_code 6 = .ok (.iconst 0, 1) := by decide +kernel
theorem d_Printer_write_7 : decode prog_4_method_3_code 7 = .ok (.putfield 19, 3) := by decide +kernel
theorem d_Printer_write_10 : decode prog_4_method_3_code 10 = .ok (.aload_n 0, 1) := by decide +kernel
theorem d_Printer_write_11 : decode prog_4_method_3_code 11 = .ok (.getfield 28, 3) := by decide +kernel
theorem d_Printer_write_14 : decode prog_4_method_3_code 14 = .ok (.invokevirtual 32, 3) := by decide +kernel
theorem d_Printer_write_17 : decode prog_4_method_3_code 17 = .ok (.iconst 0, 1) := by decide +kernel
theorem d_Printer_write_18 : decode prog_4_method_3_code 18 = .ok (.istore_n 2, 1) := by decide +kernel
theorem d_Printer_write_19 : decode prog_4_method_3_code 19 = .ok (.aload_n 1, 1) := by decide +kernel
theorem d_Printer_write_20 : decode prog_4_method_3_code 20 = .ok (.getfield 35, 3) := by decide +kernel
theorem d_Printer_write_23 : decode prog_4_method_3_code 23 = .ok (.ifCond .le 11, 3) := by decide +kernel
theorem d_Printer_write_26 : decode prog_4_method_3_code 26 = .ok (.aload_n 0, 1) := by decide +kernel
theorem d_Printer_write_27 : decode prog_4_method_3_code 27 = .ok (.getfield 28, 3) := by decide +kernel
theorem d_Printer_write_30 : decode prog_4_method_3_code 30 = .ok (.lconst 0, 1) := by decide +kernel
theorem d_Printer_write_31 : decode prog_4_method_3_code 31 = .ok (.invokevirtual 40, 3) := by decide +kernel
theorem d_Printer_write_34 : decode prog_4_method_3_code 34 = .ok (.iconst 0, 1) := by decide +kernel
theorem d_Printer_write_35 : decode prog_4_method_3_code 35 = .ok (.istore_n 3, 1) := by decide +kernel
theorem d_Printer_write_36 : decode prog_4_method_3_code 36 = .ok (.iload_n 3, 1) := by decide +kernel
theorem d_Printer_write_37 : decode prog_4_method_3_code 37 = .ok (.sipush 916, 3) := by decide +kernel
theorem d_Printer_write_40 : decode prog_4_method_3_code 40 = .ok (.if_icmp .ge 73, 3) := by decide +kernel
theorem d_Printer_write_43 : decode prog_4_method_3_code 43 = .ok (.aload_n 0, 1) := by decide +kernel
theorem d_Printer_write_44 : decode prog_4_method_3_code 44 = .ok (.getfield 28, 3) := by decide +kernel
theorem d_Printer_write_47 : decode prog_4_method_3_code 47 = .ok (.invokevirtual 44, 3) := by decide +kernel
theorem d_Printer_write_50 : decode prog_4_method_3_code 50 = .ok (.ifCond .ne 63, 3) := by decide +kernel
theorem d_Printer_write_53 : decode prog_4_method_3_code 53 = .ok (.aload_n 0, 1) := by decide +kernel
theorem d_Printer_write_54 : decode prog_4_method_3_code 54 = .ok (.getfield 28, 3) := by decide +kernel
theorem d_Printer_write_57 : decode prog_4_method_3_code 57 = .ok (.invokevirtual 48, 3) := by decide +kernel
theorem d_Printer_write_60 : decode prog_4_method_3_code 60 = .ok (.l2i, 1) := by decide +kernel
theorem d_Printer_write_61 : decode prog_4_method_3_code 61 = .ok (.istore 4, 2) := by decide +kernel
theorem d_Printer_write_63 : decode prog_4_method_3_code 63 = .ok (.iload 4, 2) := by decide +kernel
theorem d_Printer_write_65 : decode prog_4_method_3_code 65 = .ok (.ifCond .lt 21, 3) := by decide +kernel
theorem d_Printer_write_68 : decode prog_4_method_3_code 68 = .ok (.aload_n 0, 1) := by decide +kernel
theorem d_Printer_write_69 : decode prog_4_method_3_code 69 = .ok (.aload_n 1, 1) := by decide +kernel
theorem d_Printer_write_70 : decode prog_4_method_3_code 70 = .ok (.aload_n 1, 1) := by decide +kernel
theorem d_Printer_write_71 : decode prog_4_method_3_code 71 = .ok (.iload_n 2, 1) := by decide +kernel
theorem d_Printer_write_72 : decode prog_4_method_3_code 72 = .ok (.invokevirtual 52, 3) := by decide +kernel
theorem d_Printer_write_75 : decode prog_4_method_3_code 75 = .ok (.iload 4, 2) := by decide +kernel
theorem d_Printer_write_77 : decode prog_4_method_3_code 77 = .ok (.invokevirtual 56, 3) := by decide +kernel
theorem d_Printer_write_80 : decode prog_4_method_3_code 80 = .ok (.iinc 2 1, 3) := by decide +kernel
theorem d_Printer_write_83 : decode prog_4_method_3_code 83 = .ok (.goto 24, 3) := by decide +kernel
theorem d_Printer_write_86 : decode prog_4_method_3_code 86 = .ok (.iload 4, 2) := by decide +kernel
theorem d_Printer_write_88 : decode prog_4_method_3_code 88 = .ok (.iconst (-1), 1) := by decide +kernel
theorem d_Printer_write_89 : decode prog_4_method_3_code 89 = .ok (.if_icmp .ne 12, 3) := by decide +kernel
theorem d_Printer_write_92 : decode prog_4_method_3_code 92 = .ok (.aload_n 0, 1) := by decide +kernel
theorem d_Printer_write_93 : decode prog_4_method_3_code 93 = .ok (.bipush 41, 2) := by decide +kernel
theorem d_Printer_write_95 : decode prog_4_method_3_code 95 = .ok (.invokevirtual 60, 3) := by decide +kernel
theorem d_Printer_write_98 : decode prog_4_method_3_code 98 = .ok (.goto 9, 3) := by decide +kernel
theorem d_Printer_write_101 : decode prog_4_method_3_code 101 = .ok (.aload_n 0, 1) := by decide +kernel
theorem d_Printer_write_102 : decode prog_4_method_3_code 102 = .ok (.iload 4, 2) := by decide +kernel
theorem d_Printer_write_104 : decode prog_4_method_3_code 104 = .ok (.invokevirtual 63, 3) := by decide +kernel
theorem d_Printer_write_107 : decode prog_4_method_3_code 107 = .ok (.iinc 3 1, 3) := by decide +kernel
theorem d_Printer_write_110 : decode prog_4_method_3_code 110 = .ok (.goto (-74), 3) := by decide +kernel
theorem d_Printer_write_113 : decode prog_4_method_3_code 113 = .ok (.aload_n 0, 1) := by decide +kernel
theorem d_Printer_write_114 : decode prog_4_method_3_code 114 = .ok (.getfield 15, 3) := by decide +kernel
theorem d_Printer_write_117 : decode prog_4_method_3_code 117 = .ok (.ireturn, 1) := by decide +kernel
theorem mb_Printer_byteAt : Mb y_Printer_byteAt prog_4_method_2_code 2 (some .int) 1 := ⟨W_Printer_byteAt_code, W_Printer_byteAt_in, W_Printer_byteAt_se, I_Printer, by decide +kernel, by decide +kernel, by decide +kernel⟩
theorem mb_Printer_put : Mb y_Printer_put prog_4_method_9_code 2 none 1 := ⟨W_Printer_put_code, W_Printer_put_in, sel_4, I_Printer, by decide +kernel, by decide +kernel, by decide +kernel⟩
theorem mb_Printer_writeWord : Mb y_Printer_writeWord prog_4_method_8_code 3 none 1 := ⟨W_Printer_writeWord_code, W_Printer_writeWord_in, sel_3, I_Printer, by decide +kernel, by decide +kernel, by decide +kernel⟩
theorem mb_Printer_writeSign : Mb y_Printer_writeSign prog_4_method_6_code 2 none 1 := ⟨W_Printer_writeSign_code, W_Printer_writeSign_in, sel_5, I_Printer, by decide +kernel, by decide +kernel, by decide +kernel⟩
theorem mb_Printer_tightnessOf : MbS y_Printer_tightnessOf prog_4_method_5_code 1 (some .int) 1 := ⟨W_Printer_tightnessOf_code, W_Printer_tightnessOf_st, I_Printer, by decide +kernel, by decide +kernel, by decide +kernel⟩
theorem mb_Printer_writeAtom : Mb y_Printer_writeAtom prog_4_method_7_code 4 none 2 := ⟨W_Printer_writeAtom_code, W_Printer_writeAtom_in, sel_2, I_Printer, by decide +kernel, by decide +kernel, by decide +kernel⟩
theorem mb_Printer_writeOperand : Mb y_Printer_writeOperand prog_4_method_4_code 5 none 3 := ⟨W_Printer_writeOperand_code, W_Printer_writeOperand_in, sel_1, I_Printer, by decide +kernel, by decide +kernel, by decide +kernel⟩
theorem mb_Printer_write : Mb y_Printer_write prog_4_method_3_code 5 (some .int) 1 := ⟨W_Printer_write_code, W_Printer_write_in, W_Printer_write_se, I_Printer, by decide +kernel, by decide +kernel, by decide +kernel⟩
def Printer_byteAt (F : Nat) (t : StI) (x1 : Int32) : Option (Int32) := if x1 < 0 then some (-1 : Int32) else if (t 1 0) ≤ x1 then some (-1 : Int32) else if x1 < 0 ∨ 1200 ≤ x1.toNatClampNeg then none else some ((t 0) x1.toNatClampNeg)
set_option maxHeartbeats 4000000 in
set_option maxRecDepth 100000 in
theorem k_Printer_byteAt {p : Program} {l : Launch} {e : Env} {s : State} {m : MethodId} {args : Array Value} {below : List Frame} {meth : Method} {c : Code} {g : Gz} {A2 A : Nat → Prop} {F : Nat} {a_t : Nat → Nat} {r_due : Nat} (hC : Cx prog_4_method_2_code 2 (some .int) R_Printer p s m args meth c g A2 A) : ∀ (t : StI) (x1 : Int32) (res : Int32), Printer_byteAt F t x1 = some res → Go p l e rm_Printer_byteAt s m args below meth c g A2 A 2 (MQ below (RI res A) args s 0 0 A) ((pic_Printer g a_t r_due t)) [(0, .ref (a_t 0)), (1, .int x1)] 0 [] := by
  obtain ⟨hx, hb, hr, hml, hown, htb, hlocks, hA, hAA, hG⟩ := id hC
  have hK := hG.1
  intro t x1 res h H locs ls hP hD hS hl
  rw [Printer_byteAt] at h
  refine lv_iload_n hx hb d_Printer_byteAt_0 rfl (lv_at hl 1 rfl) ?_
  refine lv_if_lt (tgt := 21) hx hb d_Printer_byteAt_1 (by decide) (fun c4 => ?_) (fun c4 => ?_)
  · replace h := (if_pos c4).symm.trans h
    refine lv_iconst (v := -1) hx hb d_Printer_byteAt_21 (by decide) ?_
    cases h
    exact W.iret hx hb hr (fun t ht hW => ⟨⟨_, (), rfl, rfl, trivial⟩, hS.F ht⟩) hS.2.2 d_Printer_byteAt_22
  · replace h := (if_neg c4).symm.trans h
    refine lv_iload_n hx hb d_Printer_byteAt_4 rfl (lv_at hl 1 rfl) ?_
    refine lv_aload_n hx hb d_Printer_byteAt_5 rfl (lv_at hl 0 rfl) ?_
    refine va_get (D := gD g) (ci := 4) (v := .int (t 1 0)) (C := R_Printer) (T := T_Printer) (N := 4) hx hb htb in_Printer hown hK hP 0 rfl rfl 1 (by decide) (htb _ L_Printer_15) (fun _ h9 => h9) rfl d_Printer_byteAt_6 ?_
    refine lv_icmp_ge (tgt := 21) hx hb d_Printer_byteAt_9 (by decide) (fun c5 => ?_) (fun c5 => ?_)
    · replace h := (if_pos c5).symm.trans h
      refine lv_iconst (v := -1) hx hb d_Printer_byteAt_21 (by decide) ?_
      cases h
      exact W.iret hx hb hr (fun t ht hW => ⟨⟨_, (), rfl, rfl, trivial⟩, hS.F ht⟩) hS.2.2 d_Printer_byteAt_22
    · replace h := (if_neg c5).symm.trans h
      refine lv_aload_n hx hb d_Printer_byteAt_12 rfl (lv_at hl 0 rfl) ?_
      refine va_get (D := gD g) (ci := 4) (v := .ref (a_t 1)) (C := R_Printer) (T := T_Printer) (N := 4) hx hb htb in_Printer hown hK hP 0 rfl rfl 0 (by decide) (htb _ L_Printer_9) (fun _ h9 => h9) rfl d_Printer_byteAt_13 ?_
      refine lv_iload_n hx hb d_Printer_byteAt_16 rfl (lv_at hl 1 rfl) ?_
      by_cases c6 : (x1 < 0 ∨ 1200 ≤ x1.toNatClampNeg)
      · replace h := (if_pos c6).symm.trans h
        cases h
      replace h := (if_neg c6).symm.trans h
      refine va_cald hx hb hK hP 1 1 rfl rfl c6 d_Printer_byteAt_17 ?_
      refine lv_goto (tgt := 22) hx hb d_Printer_byteAt_18 (by decide) ?_
      cases h
      exact W.iret hx hb hr (fun t ht hW => ⟨⟨_, (), rfl, rfl, trivial⟩, hS.F ht⟩) hS.2.2 d_Printer_byteAt_22
theorem c_Printer_byteAt (l : Launch) (g : Gz) (F : Nat) (a_t : Nat → Nat) (r_due : Nat) (t : StI) (x1 : Int32) (res : Int32) (h : Printer_byteAt F t x1 = some res) : ∀ sz : Nat, Met l y_Printer_byteAt (.code y_Printer_byteAt prog_4_method_2_code 2 (some .int) :: TBL) rm_Printer_byteAt (va_Pc [.ref (a_t 0), .int x1] (Pre0 g ((pic_Printer g a_t r_due t)) sz)) (RI res (fun q => sz ≤ q)) 0 0 (fun q => sz ≤ q) :=
  ct_r (Qc := fun A => RI res A) (by decide) (Nat.le_of_ble_eq_true rfl) (fun p e s m args below meth c A2 A hC => k_Printer_byteAt hC t x1 res h)
def Printer_put (F : Nat) (t : StI) (x1 : Int32) : Option (StI) := if (1200 : Int32) ≤ (t 1 0) then some t else if (t 1 0) < 0 ∨ 1200 ≤ (t 1 0).toNatClampNeg then none else letS (va_up t 0 (upd (t 0) (t 1 0).toNatClampNeg (vp_nar .char ((x1.toUInt32 % 65536).toInt32)))) fun t_6 => letS (va_up t_6 1 (fun _ => ((t_6 1 0) + (1 : Int32)))) fun t_8 => some t_8
set_option maxHeartbeats 4000000 in
set_option maxRecDepth 100000 in
theorem k_Printer_put {p : Program} {l : Launch} {e : Env} {s : State} {m : MethodId} {args : Array Value} {below : List Frame} {meth : Method} {c : Code} {g : Gz} {A : Nat → Prop} {F : Nat} {a_t : Nat → Nat} {r_due : Nat} (hC : Cx prog_4_method_9_code 2 none R_Printer p s m args meth c g A A) : ∀ (t : StI) (x1 : Int32) (res : StI), Printer_put F t x1 = some res → Go p l e rm_Printer_put s m args below meth c g A A 2 (MQ below (EV g ((pic_Printer g a_t r_due res)) A) args s 0 0 A) ((pic_Printer g a_t r_due t)) [(0, .ref (a_t 0)), (1, .int x1)] 0 [] := by
  obtain ⟨hx, hb, hr, hml, hown, htb, hlocks, hA, hAA, hG⟩ := id hC
  have hK := hG.1
  intro t x1 res h H locs ls hP hD hS hl
  rw [Printer_put] at h
  refine lv_aload_n hx hb d_Printer_put_0 rfl (lv_at hl 0 rfl) ?_
  refine va_get (D := gD g) (ci := 4) (v := .int (t 1 0)) (C := R_Printer) (T := T_Printer) (N := 4) hx hb htb in_Printer hown hK hP 0 rfl rfl 1 (by decide) (htb _ L_Printer_15) (fun _ h9 => h9) rfl d_Printer_put_1 ?_
  refine lv_aload_n hx hb d_Printer_put_4 rfl (lv_at hl 0 rfl) ?_
  refine va_get (D := gD g) (ci := 4) (v := .ref (a_t 1)) (C := R_Printer) (T := T_Printer) (N := 4) hx hb htb in_Printer hown hK hP 0 rfl rfl 0 (by decide) (htb _ L_Printer_9) (fun _ h9 => h9) rfl d_Printer_put_5 ?_
  refine va_alen hx hb hK hP 1 1 rfl rfl rfl d_Printer_put_8 ?_
  refine lv_icmp_ge (tgt := 33) hx hb d_Printer_put_9 (by decide) (fun c5 => ?_) (fun c5 => ?_)
  · replace h := (if_pos c5).symm.trans h
    cases h
    exact W.vret hx hb hr (fun t ht hW => ⟨⟨(), rfl, trivial, by rw [ht]; exact hP, hD⟩, hS.F ht⟩) hS.2.2 d_Printer_put_33
  · replace h := (if_neg c5).symm.trans h
    refine lv_aload_n hx hb d_Printer_put_12 rfl (lv_at hl 0 rfl) ?_
    refine va_get (D := gD g) (ci := 4) (v := .ref (a_t 1)) (C := R_Printer) (T := T_Printer) (N := 4) hx hb htb in_Printer hown hK hP 0 rfl rfl 0 (by decide) (htb _ L_Printer_9) (fun _ h9 => h9) rfl d_Printer_put_13 ?_
    refine lv_aload_n hx hb d_Printer_put_16 rfl (lv_at hl 0 rfl) ?_
    refine va_get (D := gD g) (ci := 4) (v := .int (t 1 0)) (C := R_Printer) (T := T_Printer) (N := 4) hx hb htb in_Printer hown hK hP 0 rfl rfl 1 (by decide) (htb _ L_Printer_15) (fun _ h9 => h9) rfl d_Printer_put_17 ?_
    refine lv_iload_n hx hb d_Printer_put_20 rfl (lv_at hl 1 rfl) ?_
    refine lv_i2c hx hb d_Printer_put_21 rfl ?_
    by_cases c7 : ((t 1 0) < 0 ∨ 1200 ≤ (t 1 0).toNatClampNeg)
    · replace h := (if_pos c7).symm.trans h
      cases h
    replace h := (if_neg c7).symm.trans h
    refine va_cast hx hb hK hP hD hS 1 1 rfl rfl c7 d_Printer_put_22 (fun H locs hP hD hS => ?_)
    obtain ⟨t_6, et_6, h⟩ := letS_el h
    have hP : va_P (gD g) vwCl ((pic_Printer g a_t r_due t_6)) H := by rw [et_6]; exact hP
    have hD : va_D A ((pic_Printer g a_t r_due t_6)) := by rw [et_6]; exact hD
    refine lv_aload_n hx hb d_Printer_put_23 rfl (lv_at hl 0 rfl) ?_
    refine lv_dup hx hb d_Printer_put_24 rfl ?_
    refine va_get (D := gD g) (ci := 4) (v := .int (t_6 1 0)) (C := R_Printer) (T := T_Printer) (N := 4) hx hb htb in_Printer hown hK hP 0 rfl rfl 1 (by decide) (htb _ L_Printer_15) (fun _ h9 => h9) rfl d_Printer_put_25 ?_
    refine lv_iconst (v := 1) hx hb d_Printer_put_28 (by decide) ?_
    refine lv_iadd hx hb d_Printer_put_29 ?_
    refine va_put (D := gD g) (ci := 4) (v := .int ((t_6 1 0) + (1 : Int32))) (ty := .int) (C := R_Printer) (T := T_Printer) (N := 4) hx hb htb in_Printer ty_Printer ty_Printer_ok nm_Printer hown hK hP hD hS 0 rfl rfl 1 (by decide) (htb _ L_Printer_15) (fun _ h9 => h9) rfl (by decide +kernel) rfl rfl (Nat.le_of_ble_eq_true rfl) d_Printer_put_30 (fun H locs hP hD hS => ?_)
    obtain ⟨t_8, et_8, h⟩ := letS_el h
    have hP : va_P (gD g) vwCl ((pic_Printer g a_t r_due t_8)) H := by rw [et_8]; exact hP
    have hD : va_D A ((pic_Printer g a_t r_due t_8)) := by rw [et_8]; exact hD
    cases h
    exact W.vret hx hb hr (fun t ht hW => ⟨⟨(), rfl, trivial, by rw [ht]; exact hP, hD⟩, hS.F ht⟩) hS.2.2 d_Printer_put_33
theorem c_Printer_put (l : Launch) (g : Gz) (F : Nat) (a_t : Nat → Nat) (r_due : Nat) (t : StI) (x1 : Int32) (res : StI) (h : Printer_put F t x1 = some res) : ∀ sz : Nat, Met l y_Printer_put (.code y_Printer_put prog_4_method_9_code 2 none :: TBL) rm_Printer_put (va_Pc [.ref (a_t 0), .int x1] (Pre0 g ((pic_Printer g a_t r_due t)) sz)) (EV g ((pic_Printer g a_t r_due res)) (va_A ((pic_Printer g a_t r_due t)) sz)) 0 0 (va_A ((pic_Printer g a_t r_due t)) sz) :=
  ct_w (Qc := fun A => EV g ((pic_Printer g a_t r_due res)) A) (by decide) (Nat.le_of_ble_eq_true rfl) (fun p e s m args below meth c A hC => k_Printer_put hC t x1 res h)
def Printer_writeWord_20 (F : Nat) : Nat → StI → Nat → Int32 → Option (StI)
  | 0, _, _, _ => none
  | n + 1, t, x1, x2 => (String_length F x1).bind fun r8 => if r8 ≤ x2 then some t else (String_charAt F x1 x2).bind fun r10 => (Printer_put F t r10).bind fun r11 => Printer_writeWord_20 F n r11 x1 (x2 + (1 : Int32))
def Printer_writeWord_13 (F : Nat) (t : StI) (x1 : Nat) : Option (StI) := letS (va_up t 2 (fun _ => (1 : Int32))) fun t_12 => Printer_writeWord_20 F F t_12 x1 (0 : Int32)
def Printer_writeWord (F : Nat) (t : StI) (x1 : Nat) : Option (StI) := if (t 2 0) = 0 then Printer_writeWord_13 F t x1 else (Printer_put F t (32 : Int32)).bind fun r14 => Printer_writeWord_13 F r14 x1
set_option maxHeartbeats 4000000 in
set_option maxRecDepth 100000 in
theorem k_Printer_writeWord_20 {p : Program} {l : Launch} {e : Env} {s : State} {m : MethodId} {args : Array Value} {below : List Frame} {meth : Method} {c : Code} {g : Gz} {A : Nat → Prop} {F : Nat} {a_t : Nat → Nat} {r_due : Nat} (hC : Cx prog_4_method_8_code 3 none R_Printer p s m args meth c g A A) : ∀ (n : Nat) (t : StI) (x1 : Nat) (x2 : Int32) (res : StI), Printer_writeWord_20 F n t x1 x2 = some res → Go p l e rm_Printer_writeWord s m args below meth c g A A 3 (MQ below (EV g ((pic_Printer g a_t r_due res)) A) args s 0 0 A) ((pic_Printer g a_t r_due t)) [(0, .ref (a_t 0)), (1, .ref (g.2.2.2.1 x1)), (2, .int x2)] 20 [] := by
  obtain ⟨hx, hb, hr, hml, hown, htb, hlocks, hA, hAA, hG⟩ := id hC
  have hK := hG.1
  intro n
  induction n with
  | zero => intro t x1 x2 res h; rw [Printer_writeWord_20] at h; cases h
  | succ n ih =>
    intro t x1 x2 res h H locs ls hP hD hS hl
    rw [Printer_writeWord_20] at h
    refine lv_iload_n hx hb d_Printer_writeWord_20 rfl (lv_at hl 2 rfl) ?_
    refine lv_aload_n hx hb d_Printer_writeWord_21 rfl (lv_at hl 1 rfl) ?_
    obtain ⟨r8, hr8, h⟩ := Option.bind_eq_some_iff.mp h
    refine cl_Ir hP hS hA (va_runV (As := []) (rest := [.int x2]) ⟨hx, hb, hml, hown, htb⟩ (c_String_length l g F x1 _ hr8 H.size) (cw_V htb mb_String_length (htb _ L_Printer_114) rfl rfl ⟨Nat.le_of_ble_eq_true rfl, Nat.le_of_ble_eq_true rfl⟩) (pre_V (vk_recv (hG.2.2.2.1.narrow hAA) (lit_len hr8) hS) (pre_S [] rfl rfl hP hD hS hA hAA hG)) rfl rfl hl.1 rfl (lv_room (Nat.le_of_ble_eq_true rfl)) d_Printer_writeWord_22 ⟨Nat.zero_le _, Nat.zero_le _⟩) (fun H locs hP hS => ?_)
    refine lv_icmp_ge (tgt := 43) hx hb d_Printer_writeWord_25 (by decide) (fun c9 => ?_) (fun c9 => ?_)
    · replace h := (if_pos c9).symm.trans h
      cases h
      exact W.vret hx hb hr (fun t ht hW => ⟨⟨(), rfl, trivial, by rw [ht]; exact hP, hD⟩, hS.F ht⟩) hS.2.2 d_Printer_writeWord_43
    · replace h := (if_neg c9).symm.trans h
      refine lv_aload_n hx hb d_Printer_writeWord_28 rfl (lv_at hl 0 rfl) ?_
      refine lv_aload_n hx hb d_Printer_writeWord_29 rfl (lv_at hl 1 rfl) ?_
      refine lv_iload_n hx hb d_Printer_writeWord_30 rfl (lv_at hl 2 rfl) ?_
      obtain ⟨r10, hr10, h⟩ := Option.bind_eq_some_iff.mp h
      refine cl_Ir hP hS hA (va_runV (As := [.int x2]) (rest := [.ref (a_t 0)]) ⟨hx, hb, hml, hown, htb⟩ (c_String_charAt l g F x1 x2 _ hr10 H.size) (cw_V htb mb_String_charAt (htb _ L_Printer_119) rfl rfl ⟨Nat.le_of_ble_eq_true rfl, Nat.le_of_ble_eq_true rfl⟩) (pre_V (vk_recv (hG.2.2.2.1.narrow hAA) (lit_ch hr10) hS) (pre_S [] rfl rfl hP hD hS hA hAA hG)) rfl rfl hl.1 rfl (lv_room (Nat.le_of_ble_eq_true rfl)) d_Printer_writeWord_31 ⟨Nat.zero_le _, Nat.zero_le _⟩) (fun H locs hP hS => ?_)
      obtain ⟨r11, hr11, h⟩ := Option.bind_eq_some_iff.mp h
      refine cl_V (wr := []) [0, 1] [] rfl rfl rfl (by decide) hP hD hS hA (va_runV (As := [.int r10]) (rest := []) ⟨hx, hb, hml, hown, htb⟩ (c_Printer_put l g F a_t r_due t r10 _ hr11 H.size) (cw_V htb mb_Printer_put (htb _ L_Printer_60) rfl rfl ⟨Nat.le_of_ble_eq_true rfl, Nat.le_of_ble_eq_true rfl⟩) (pre_V (va_recv hK hP (ci := 4) (q0 := 0) rfl rfl) (pre_S [0, 1] rfl rfl hP hD hS hA hAA hG)) rfl rfl hl.1 rfl (lv_room (Nat.le_of_ble_eq_true rfl)) d_Printer_writeWord_34 ⟨Nat.zero_le _, Nat.zero_le _⟩) (fun H locs hP hD hS => ?_)
      have hP : va_P (gD g) vwCl ((pic_Printer g a_t r_due r11)) H := hP.sub [0, 1] rfl
      have hD : va_D A ((pic_Printer g a_t r_due r11)) := hD.sub [0, 1] rfl rfl
      refine lv_iinc (v := (x2 + (1 : Int32))) (lv' := [(2, .int (x2 + (1 : Int32))), (0, .ref (a_t 0)), (1, .ref (g.2.2.2.1 x1))]) hx hb d_Printer_writeWord_37 hl (k := 2) rfl rfl (by decide) rfl (fun ls hl => ?_)
      refine lv_goto (tgt := 20) hx hb d_Printer_writeWord_40 (by decide) ?_
      exact ih _ _ _ _ h _ _ _ hP hD hS (lv_sub hl [1, 2, 0] rfl)
set_option maxHeartbeats 4000000 in
set_option maxRecDepth 100000 in
theorem k_Printer_writeWord_13 {p : Program} {l : Launch} {e : Env} {s : State} {m : MethodId} {args : Array Value} {below : List Frame} {meth : Method} {c : Code} {g : Gz} {A : Nat → Prop} {F : Nat} {a_t : Nat → Nat} {r_due : Nat} (hC : Cx prog_4_method_8_code 3 none R_Printer p s m args meth c g A A) : ∀ (t : StI) (x1 : Nat) (res : StI), Printer_writeWord_13 F t x1 = some res → Go p l e rm_Printer_writeWord s m args below meth c g A A 3 (MQ below (EV g ((pic_Printer g a_t r_due res)) A) args s 0 0 A) ((pic_Printer g a_t r_due t)) [(0, .ref (a_t 0)), (1, .ref (g.2.2.2.1 x1))] 13 [] := by
  obtain ⟨hx, hb, hr, hml, hown, htb, hlocks, hA, hAA, hG⟩ := id hC
  have hK := hG.1
  intro t x1 res h H locs ls hP hD hS hl
  rw [Printer_writeWord_13] at h
  refine lv_aload_n hx hb d_Printer_writeWord_13 rfl (lv_at hl 0 rfl) ?_
  refine lv_iconst (v := 1) hx hb d_Printer_writeWord_14 (by decide) ?_
  refine va_put (D := gD g) (ci := 4) (v := .int (1 : Int32)) (ty := .boolean) (C := R_Printer) (T := T_Printer) (N := 4) hx hb htb in_Printer ty_Printer ty_Printer_ok nm_Printer hown hK hP hD hS 0 rfl rfl 2 (by decide) (htb _ L_Printer_19) (fun _ h9 => h9) rfl (by decide +kernel) rfl rfl (Nat.le_of_ble_eq_true rfl) d_Printer_writeWord_15 (fun H locs hP hD hS => ?_)
  obtain ⟨t_12, et_12, h⟩ := letS_el h
  have hP : va_P (gD g) vwCl ((pic_Printer g a_t r_due t_12)) H := by rw [et_12]; exact hP
  have hD : va_D A ((pic_Printer g a_t r_due t_12)) := by rw [et_12]; exact hD
  refine lv_iconst (v := 0) hx hb d_Printer_writeWord_18 (by decide) ?_
  refine lv_istore_n (lv' := [(2, .int (0 : Int32)), (0, .ref (a_t 0)), (1, .ref (g.2.2.2.1 x1))]) hx hb d_Printer_writeWord_19 rfl hl (by decide) rfl (fun ls hl => ?_)
  exact k_Printer_writeWord_20 hC F _ _ _ _ h _ _ _ hP hD hS (lv_sub hl [1, 2, 0] rfl)
set_option maxHeartbeats 4000000 in
set_option maxRecDepth 100000 in
theorem k_Printer_writeWord {p : Program} {l : Launch} {e : Env} {s : State} {m : MethodId} {args : Array Value} {below : List Frame} {meth : Method} {c : Code} {g : Gz} {A : Nat → Prop} {F : Nat} {a_t : Nat → Nat} {r_due : Nat} (hC : Cx prog_4_method_8_code 3 none R_Printer p s m args meth c g A A) : ∀ (t : StI) (x1 : Nat) (res : StI), Printer_writeWord F t x1 = some res → Go p l e rm_Printer_writeWord s m args below meth c g A A 3 (MQ below (EV g ((pic_Printer g a_t r_due res)) A) args s 0 0 A) ((pic_Printer g a_t r_due t)) [(0, .ref (a_t 0)), (1, .ref (g.2.2.2.1 x1))] 0 [] := by
  obtain ⟨hx, hb, hr, hml, hown, htb, hlocks, hA, hAA, hG⟩ := id hC
  have hK := hG.1
  intro t x1 res h H locs ls hP hD hS hl
  rw [Printer_writeWord] at h
  refine lv_aload_n hx hb d_Printer_writeWord_0 rfl (lv_at hl 0 rfl) ?_
  refine va_get (D := gD g) (ci := 4) (v := .int (t 2 0)) (C := R_Printer) (T := T_Printer) (N := 4) hx hb htb in_Printer hown hK hP 0 rfl rfl 2 (by decide) (htb _ L_Printer_19) (fun _ h9 => h9) rfl d_Printer_writeWord_1 ?_
  refine lv_if_eq (tgt := 13) hx hb d_Printer_writeWord_4 (by decide) (fun c13 => ?_) (fun c13 => ?_)
  · replace h := (if_pos c13).symm.trans h
    exact k_Printer_writeWord_13 hC _ _ _ h _ _ _ hP hD hS (lv_sub hl [0, 1] rfl)
  · replace h := (if_neg c13).symm.trans h
    refine lv_aload_n hx hb d_Printer_writeWord_7 rfl (lv_at hl 0 rfl) ?_
    refine lv_bipush (v := 32) hx hb d_Printer_writeWord_8 (by decide) ?_
    obtain ⟨r14, hr14, h⟩ := Option.bind_eq_some_iff.mp h
    refine cl_V (wr := []) [0, 1] [] rfl rfl rfl (by decide) hP hD hS hA (va_runV (As := [.int (32 : Int32)]) (rest := []) ⟨hx, hb, hml, hown, htb⟩ (c_Printer_put l g F a_t r_due t (32 : Int32) _ hr14 H.size) (cw_V htb mb_Printer_put (htb _ L_Printer_60) rfl rfl ⟨Nat.le_of_ble_eq_true rfl, Nat.le_of_ble_eq_true rfl⟩) (pre_V (va_recv hK hP (ci := 4) (q0 := 0) rfl rfl) (pre_S [0, 1] rfl rfl hP hD hS hA hAA hG)) rfl rfl hl.1 rfl (lv_room (Nat.le_of_ble_eq_true rfl)) d_Printer_writeWord_10 ⟨Nat.zero_le _, Nat.zero_le _⟩) (fun H locs hP hD hS => ?_)
    have hP : va_P (gD g) vwCl ((pic_Printer g a_t r_due r14)) H := hP.sub [0, 1] rfl
    have hD : va_D A ((pic_Printer g a_t r_due r14)) := hD.sub [0, 1] rfl rfl
    exact k_Printer_writeWord_13 hC _ _ _ h _ _ _ hP hD hS (lv_sub hl [0, 1] rfl)
theorem c_Printer_writeWord (l : Launch) (g : Gz) (F : Nat) (a_t : Nat → Nat) (r_due : Nat) (t : StI) (x1 : Nat) (res : StI) (h : Printer_writeWord F t x1 = some res) : ∀ sz : Nat, Met l y_Printer_writeWord (.code y_Printer_writeWord prog_4_method_8_code 3 none :: TBL) rm_Printer_writeWord (va_Pc [.ref (a_t 0), .ref (g.2.2.2.1 x1)] (Pre0 g ((pic_Printer g a_t r_due t)) sz)) (EV g ((pic_Printer g a_t r_due res)) (va_A ((pic_Printer g a_t r_due t)) sz)) 0 0 (va_A ((pic_Printer g a_t r_due t)) sz) :=
  ct_w (Qc := fun A => EV g ((pic_Printer g a_t r_due res)) A) (by decide) (Nat.le_of_ble_eq_true rfl) (fun p e s m args below meth c A hC => k_Printer_writeWord hC t x1 res h)
def Printer_writeSign (F : Nat) (t : StI) (x1 : Int32) : Option (StI) := if x1 = (-4 : Int32) then (Printer_writeWord F t 15).bind fun r8 => some r8 else if x1 = (-5 : Int32) then (Printer_writeWord F t 16).bind fun r7 => some r7 else some t
set_option maxHeartbeats 4000000 in
set_option maxRecDepth 100000 in
theorem k_Printer_writeSign {p : Program} {l : Launch} {e : Env} {s : State} {m : MethodId} {args : Array Value} {below : List Frame} {meth : Method} {c : Code} {g : Gz} {A : Nat → Prop} {F : Nat} {a_t : Nat → Nat} {r_due : Nat} (hC : Cx prog_4_method_6_code 2 none R_Printer p s m args meth c g A A) : ∀ (t : StI) (x1 : Int32) (res : StI), Printer_writeSign F t x1 = some res → Go p l e rm_Printer_writeSign s m args below meth c g A A 2 (MQ below (EV g ((pic_Printer g a_t r_due res)) A) args s 0 0 A) ((pic_Printer g a_t r_due t)) [(0, .ref (a_t 0)), (1, .int x1)] 0 [] := by
  obtain ⟨hx, hb, hr, hml, hown, htb, hlocks, hA, hAA, hG⟩ := id hC
  have hK := hG.1
  intro t x1 res h H locs ls hP hD hS hl
  rw [Printer_writeSign] at h
  refine lv_iload_n hx hb d_Printer_writeSign_0 rfl (lv_at hl 1 rfl) ?_
  refine lv_bipush (v := -4) hx hb d_Printer_writeSign_1 (by decide) ?_
  refine lv_icmp_ne (tgt := 15) hx hb d_Printer_writeSign_3 (by decide) (fun c5 => ?_) (fun c5 => ?_)
  · replace h := (if_neg c5).symm.trans h
    refine lv_iload_n hx hb d_Printer_writeSign_15 rfl (lv_at hl 1 rfl) ?_
    refine lv_bipush (v := -5) hx hb d_Printer_writeSign_16 (by decide) ?_
    refine lv_icmp_ne (tgt := 27) hx hb d_Printer_writeSign_18 (by decide) (fun c6 => ?_) (fun c6 => ?_)
    · replace h := (if_neg c6).symm.trans h
      cases h
      exact W.vret hx hb hr (fun t ht hW => ⟨⟨(), rfl, trivial, by rw [ht]; exact hP, hD⟩, hS.F ht⟩) hS.2.2 d_Printer_writeSign_27
    · replace h := (if_pos c6).symm.trans h
      refine lv_aload_n hx hb d_Printer_writeSign_21 rfl (lv_at hl 0 rfl) ?_
      refine ldc_s hx hb hG M_str_Printer_87 hown d_Printer_writeSign_22 ?_
      obtain ⟨r7, hr7, h⟩ := Option.bind_eq_some_iff.mp h
      refine cl_V (wr := []) [0, 1] [] rfl rfl rfl (by decide) hP hD hS hA (va_runV (As := [.ref (g.2.2.2.1 16)]) (rest := []) ⟨hx, hb, hml, hown, htb⟩ (c_Printer_writeWord l g F a_t r_due t 16 _ hr7 H.size) (cw_V htb mb_Printer_writeWord (htb _ L_Printer_72) rfl rfl ⟨Nat.le_of_ble_eq_true rfl, Nat.le_of_ble_eq_true rfl⟩) (pre_V (va_recv hK hP (ci := 4) (q0 := 0) rfl rfl) (pre_S [0, 1] rfl rfl hP hD hS hA hAA hG)) rfl rfl hl.1 rfl (lv_room (Nat.le_of_ble_eq_true rfl)) d_Printer_writeSign_24 ⟨Nat.zero_le _, Nat.zero_le _⟩) (fun H locs hP hD hS => ?_)
      have hP : va_P (gD g) vwCl ((pic_Printer g a_t r_due r7)) H := hP.sub [0, 1] rfl
      have hD : va_D A ((pic_Printer g a_t r_due r7)) := hD.sub [0, 1] rfl rfl
      cases h
      exact W.vret hx hb hr (fun t ht hW => ⟨⟨(), rfl, trivial, by rw [ht]; exact hP, hD⟩, hS.F ht⟩) hS.2.2 d_Printer_writeSign_27
  · replace h := (if_pos c5).symm.trans h
    refine lv_aload_n hx hb d_Printer_writeSign_6 rfl (lv_at hl 0 rfl) ?_
    refine ldc_s hx hb hG M_str_Printer_85 hown d_Printer_writeSign_7 ?_
    obtain ⟨r8, hr8, h⟩ := Option.bind_eq_some_iff.mp h
    refine cl_V (wr := []) [0, 1] [] rfl rfl rfl (by decide) hP hD hS hA (va_runV (As := [.ref (g.2.2.2.1 15)]) (rest := []) ⟨hx, hb, hml, hown, htb⟩ (c_Printer_writeWord l g F a_t r_due t 15 _ hr8 H.size) (cw_V htb mb_Printer_writeWord (htb _ L_Printer_72) rfl rfl ⟨Nat.le_of_ble_eq_true rfl, Nat.le_of_ble_eq_true rfl⟩) (pre_V (va_recv hK hP (ci := 4) (q0 := 0) rfl rfl) (pre_S [0, 1] rfl rfl hP hD hS hA hAA hG)) rfl rfl hl.1 rfl (lv_room (Nat.le_of_ble_eq_true rfl)) d_Printer_writeSign_9 ⟨Nat.zero_le _, Nat.zero_le _⟩) (fun H locs hP hD hS => ?_)
    have hP : va_P (gD g) vwCl ((pic_Printer g a_t r_due r8)) H := hP.sub [0, 1] rfl
    have hD : va_D A ((pic_Printer g a_t r_due r8)) := hD.sub [0, 1] rfl rfl
    refine lv_goto (tgt := 27) hx hb d_Printer_writeSign_12 (by decide) ?_
    cases h
    exact W.vret hx hb hr (fun t ht hW => ⟨⟨(), rfl, trivial, by rw [ht]; exact hP, hD⟩, hS.F ht⟩) hS.2.2 d_Printer_writeSign_27
theorem c_Printer_writeSign (l : Launch) (g : Gz) (F : Nat) (a_t : Nat → Nat) (r_due : Nat) (t : StI) (x1 : Int32) (res : StI) (h : Printer_writeSign F t x1 = some res) : ∀ sz : Nat, Met l y_Printer_writeSign (.code y_Printer_writeSign prog_4_method_6_code 2 none :: TBL) rm_Printer_writeSign (va_Pc [.ref (a_t 0), .int x1] (Pre0 g ((pic_Printer g a_t r_due t)) sz)) (EV g ((pic_Printer g a_t r_due res)) (va_A ((pic_Printer g a_t r_due t)) sz)) 0 0 (va_A ((pic_Printer g a_t r_due t)) sz) :=
  ct_w (Qc := fun A => EV g ((pic_Printer g a_t r_due res)) A) (by decide) (Nat.le_of_ble_eq_true rfl) (fun p e s m args below meth c A hC => k_Printer_writeSign hC t x1 res h)
def Printer_tightnessOf (F : Nat) (x0 : Int32) : Option (Int32) := if x0 = (-4 : Int32) then some (0 : Int32) else if x0 = (-5 : Int32) then some (1 : Int32) else some (2 : Int32)
set_option maxHeartbeats 4000000 in
set_option maxRecDepth 100000 in
theorem k_Printer_tightnessOf {p : Program} {l : Launch} {e : Env} {s : State} {m : MethodId} {args : Array Value} {below : List Frame} {meth : Method} {c : Code} {g : Gz} {A2 A : Nat → Prop} {F : Nat} (hC : Cx prog_4_method_5_code 1 (some .int) R_Printer p s m args meth c g A2 A) : ∀ (x0 : Int32) (res : Int32), Printer_tightnessOf F x0 = some res → Go p l e rm_Printer_tightnessOf s m args below meth c g A2 A 1 (MQ below (RI res A) args s 0 0 A) ([]) [(0, .int x0)] 0 [] := by
  obtain ⟨hx, hb, hr, hml, hown, htb, hlocks, hA, hAA, hG⟩ := id hC
  have hK := hG.1
  intro x0 res h H locs ls hP hD hS hl
  rw [Printer_tightnessOf] at h
  refine lv_iload_n hx hb d_Printer_tightnessOf_0 rfl (lv_at hl 0 rfl) ?_
  refine lv_bipush (v := -4) hx hb d_Printer_tightnessOf_1 (by decide) ?_
  refine lv_icmp_ne (tgt := 10) hx hb d_Printer_tightnessOf_3 (by decide) (fun c3 => ?_) (fun c3 => ?_)
  · replace h := (if_neg c3).symm.trans h
    refine lv_iload_n hx hb d_Printer_tightnessOf_10 rfl (lv_at hl 0 rfl) ?_
    refine lv_bipush (v := -5) hx hb d_Printer_tightnessOf_11 (by decide) ?_
    refine lv_icmp_ne (tgt := 20) hx hb d_Printer_tightnessOf_13 (by decide) (fun c4 => ?_) (fun c4 => ?_)
    · replace h := (if_neg c4).symm.trans h
      refine lv_iconst (v := 2) hx hb d_Printer_tightnessOf_20 (by decide) ?_
      cases h
      exact W.iret hx hb hr (fun t ht hW => ⟨⟨_, (), rfl, rfl, trivial⟩, hS.F ht⟩) hS.2.2 d_Printer_tightnessOf_21
    · replace h := (if_pos c4).symm.trans h
      refine lv_iconst (v := 1) hx hb d_Printer_tightnessOf_16 (by decide) ?_
      refine lv_goto (tgt := 21) hx hb d_Printer_tightnessOf_17 (by decide) ?_
      cases h
      exact W.iret hx hb hr (fun t ht hW => ⟨⟨_, (), rfl, rfl, trivial⟩, hS.F ht⟩) hS.2.2 d_Printer_tightnessOf_21
  · replace h := (if_pos c3).symm.trans h
    refine lv_iconst (v := 0) hx hb d_Printer_tightnessOf_6 (by decide) ?_
    refine lv_goto (tgt := 21) hx hb d_Printer_tightnessOf_7 (by decide) ?_
    cases h
    exact W.iret hx hb hr (fun t ht hW => ⟨⟨_, (), rfl, rfl, trivial⟩, hS.F ht⟩) hS.2.2 d_Printer_tightnessOf_21
theorem c_Printer_tightnessOf (l : Launch) (g : Gz) (F : Nat) (x0 : Int32) (res : Int32) (h : Printer_tightnessOf F x0 = some res) : ∀ sz : Nat, Met l y_Printer_tightnessOf (.code y_Printer_tightnessOf prog_4_method_5_code 1 (some .int) :: TBL) rm_Printer_tightnessOf (va_Pc [.int x0] (Pre0 g ([]) sz)) (RI res (fun q => sz ≤ q)) 0 0 (fun q => sz ≤ q) :=
  ct_r (Qc := fun A => RI res A) (by decide) (Nat.le_of_ble_eq_true rfl) (fun p e s m args below meth c A2 A hC => k_Printer_tightnessOf hC x0 res h)
def Printer_writeAtom_54 (F : Nat) : Nat → StI → StI → Int32 → Int32 → Option (StI)
  | 0, _, _, _, _ => none
  | n + 1, t, p1, x2, x3 => if x2 < 0 ∨ 40 ≤ x2.toNatClampNeg then none else if ((p1 7) x2.toNatClampNeg) ≤ x3 then if x2 < 0 ∨ 40 ≤ x2.toNatClampNeg then none else if ((p1 5) x2.toNatClampNeg) = 0 then some t else (Printer_put F t (34 : Int32)).bind fun r24 => some r24 else if x2 < 0 ∨ 40 ≤ x2.toNatClampNeg then none else (Query_byteAt F p1 (((p1 6) x2.toNatClampNeg) + x3)).bind fun r26 => (Printer_put F t r26).bind fun r27 => Printer_writeAtom_54 F n r27 p1 x2 (x3 + (1 : Int32))
def Printer_writeAtom_52 (F : Nat) (t : StI) (p1 : StI) (x2 : Int32) : Option (StI) := Printer_writeAtom_54 F F t p1 x2 (0 : Int32)
def Printer_writeAtom_37 (F : Nat) (t : StI) (p1 : StI) (x2 : Int32) : Option (StI) := if x2 < 0 ∨ 40 ≤ x2.toNatClampNeg then none else if ((p1 5) x2.toNatClampNeg) = 0 then Printer_writeAtom_52 F t p1 x2 else (Printer_put F t (34 : Int32)).bind fun r30 => Printer_writeAtom_52 F r30 p1 x2
def Printer_writeAtom (F : Nat) (t : StI) (p1 : StI) (x2 : Int32) : Option (StI) := (Query_has F p1 x2).bind fun r31 => if r31 = 0 then some t else if x2 < 0 ∨ 40 ≤ x2.toNatClampNeg then none else (MQ_nameOf F ((p1 4) x2.toNatClampNeg)).bind fun r34 => (Printer_writeWord F t r34).bind fun r35 => if x2 < 0 ∨ 40 ≤ x2.toNatClampNeg then none else if ((p1 4) x2.toNatClampNeg) = 0 then Printer_writeAtom_37 F r35 p1 x2 else (Printer_put F r35 (58 : Int32)).bind fun r38 => Printer_writeAtom_37 F r38 p1 x2
set_option maxHeartbeats 4000000 in
set_option maxRecDepth 100000 in
theorem k_Printer_writeAtom_54 {p : Program} {l : Launch} {e : Env} {s : State} {m : MethodId} {args : Array Value} {below : List Frame} {meth : Method} {c : Code} {g : Gz} {A : Nat → Prop} {F : Nat} {a_t a_p1 : Nat → Nat} {r_due : Nat} (hC : Cx prog_4_method_7_code 4 none R_Printer p s m args meth c g A A) : ∀ (n : Nat) (t : StI) (p1 : StI) (x2 : Int32) (x3 : Int32) (res : StI), Printer_writeAtom_54 F n t p1 x2 x3 = some res → Go p l e rm_Printer_writeAtom s m args below meth c g A A 4 (MQ below (EV g ((pic_Printer g a_t r_due res) ++ (pic_Query g a_p1 p1)) A) args s 0 0 A) ((pic_Printer g a_t r_due t) ++ (pic_Query g a_p1 p1)) [(0, .ref (a_t 0)), (1, .ref (a_p1 0)), (2, .int x2), (3, .int x3)] 54 [] := by
  obtain ⟨hx, hb, hr, hml, hown, htb, hlocks, hA, hAA, hG⟩ := id hC
  have hK := hG.1
  intro n
  induction n with
  | zero => intro t p1 x2 x3 res h; rw [Printer_writeAtom_54] at h; cases h
  | succ n ih =>
    intro t p1 x2 x3 res h H locs ls hP hD hS hl
    rw [Printer_writeAtom_54] at h
    refine lv_iload_n hx hb d_Printer_writeAtom_54 rfl (lv_at hl 3 rfl) ?_
    refine lv_aload_n hx hb d_Printer_writeAtom_55 rfl (lv_at hl 1 rfl) ?_
    refine va_getN (D := gD g) (ci := 1) (v := .ref (a_p1 8)) (C := R_Query) (T := T_Query) (N := 14) hx hb htb in_Query hown hK hP 2 rfl rfl 7 (by decide) (nf_of hG N_Printer_105) (fun _ h9 => h9) rfl d_Printer_writeAtom_56 ?_
    refine lv_iload_n hx hb d_Printer_writeAtom_59 rfl (lv_at hl 2 rfl) ?_
    by_cases c20 : (x2 < 0 ∨ 40 ≤ x2.toNatClampNeg)
    · replace h := (if_pos c20).symm.trans h
      cases h
    replace h := (if_neg c20).symm.trans h
    refine va_iald hx hb hK hP 7 0 rfl rfl c20 d_Printer_writeAtom_60 ?_
    refine lv_icmp_ge (tgt := 86) hx hb d_Printer_writeAtom_61 (by decide) (fun c21 => ?_) (fun c21 => ?_)
    · replace h := (if_pos c21).symm.trans h
      refine lv_aload_n hx hb d_Printer_writeAtom_86 rfl (lv_at hl 1 rfl) ?_
      refine va_getN (D := gD g) (ci := 1) (v := .ref (a_p1 6)) (C := R_Query) (T := T_Query) (N := 14) hx hb htb in_Query hown hK hP 2 rfl rfl 5 (by decide) (nf_of hG N_Printer_101) (fun _ h9 => h9) rfl d_Printer_writeAtom_87 ?_
      refine lv_iload_n hx hb d_Printer_writeAtom_90 rfl (lv_at hl 2 rfl) ?_
      by_cases c22 : (x2 < 0 ∨ 40 ≤ x2.toNatClampNeg)
      · replace h := (if_pos c22).symm.trans h
        cases h
      replace h := (if_neg c22).symm.trans h
      refine va_zald hx hb hK hP 5 2 rfl rfl c22 d_Printer_writeAtom_91 ?_
      refine lv_if_eq (tgt := 101) hx hb d_Printer_writeAtom_92 (by decide) (fun c23 => ?_) (fun c23 => ?_)
      · replace h := (if_pos c23).symm.trans h
        cases h
        exact W.vret hx hb hr (fun t ht hW => ⟨⟨(), rfl, trivial, by rw [ht]; exact hP, hD⟩, hS.F ht⟩) hS.2.2 d_Printer_writeAtom_101
      · replace h := (if_neg c23).symm.trans h
        refine lv_aload_n hx hb d_Printer_writeAtom_95 rfl (lv_at hl 0 rfl) ?_
        refine lv_bipush (v := 34) hx hb d_Printer_writeAtom_96 (by decide) ?_
        obtain ⟨r24, hr24, h⟩ := Option.bind_eq_some_iff.mp h
        refine cl_V (wr := (pic_Query g a_p1 p1)) [0, 1] [2, 3, 4, 5, 6, 7, 8, 9, 10, 11, 12] rfl rfl rfl (by decide) hP hD hS hA (va_runV (As := [.int (34 : Int32)]) (rest := []) ⟨hx, hb, hml, hown, htb⟩ (c_Printer_put l g F a_t r_due t (34 : Int32) _ hr24 H.size) (cw_V htb mb_Printer_put (htb _ L_Printer_60) rfl rfl ⟨Nat.le_of_ble_eq_true rfl, Nat.le_of_ble_eq_true rfl⟩) (pre_V (va_recv hK hP (ci := 4) (q0 := 0) rfl rfl) (pre_S [0, 1] rfl rfl hP hD hS hA hAA hG)) rfl rfl hl.1 rfl (lv_room (Nat.le_of_ble_eq_true rfl)) d_Printer_writeAtom_98 ⟨Nat.zero_le _, Nat.zero_le _⟩) (fun H locs hP hD hS => ?_)
        have hP : va_P (gD g) vwCl ((pic_Printer g a_t r_due r24) ++ (pic_Query g a_p1 p1)) H := hP.sub [11, 12, 0, 1, 2, 3, 4, 5, 6, 7, 8, 9, 10] rfl
        have hD : va_D A ((pic_Printer g a_t r_due r24) ++ (pic_Query g a_p1 p1)) := hD.sub [11, 12, 0, 1, 2, 3, 4, 5, 6, 7, 8, 9, 10] rfl rfl
        cases h
        exact W.vret hx hb hr (fun t ht hW => ⟨⟨(), rfl, trivial, by rw [ht]; exact hP, hD⟩, hS.F ht⟩) hS.2.2 d_Printer_writeAtom_101
    · replace h := (if_neg c21).symm.trans h
      refine lv_aload_n hx hb d_Printer_writeAtom_64 rfl (lv_at hl 0 rfl) ?_
      refine lv_aload_n hx hb d_Printer_writeAtom_65 rfl (lv_at hl 1 rfl) ?_
      refine lv_aload_n hx hb d_Printer_writeAtom_66 rfl (lv_at hl 1 rfl) ?_
      refine va_getN (D := gD g) (ci := 1) (v := .ref (a_p1 7)) (C := R_Query) (T := T_Query) (N := 14) hx hb htb in_Query hown hK hP 2 rfl rfl 6 (by decide) (nf_of hG N_Printer_108) (fun _ h9 => h9) rfl d_Printer_writeAtom_67 ?_
      refine lv_iload_n hx hb d_Printer_writeAtom_70 rfl (lv_at hl 2 rfl) ?_
      by_cases c25 : (x2 < 0 ∨ 40 ≤ x2.toNatClampNeg)
      · replace h := (if_pos c25).symm.trans h
        cases h
      replace h := (if_neg c25).symm.trans h
      refine va_iald hx hb hK hP 6 0 rfl rfl c25 d_Printer_writeAtom_71 ?_
      refine lv_iload_n hx hb d_Printer_writeAtom_72 rfl (lv_at hl 3 rfl) ?_
      refine lv_iadd hx hb d_Printer_writeAtom_73 ?_
      obtain ⟨r26, hr26, h⟩ := Option.bind_eq_some_iff.mp h
      refine cl_Ir hP hS hA (va_runV (As := [.int (((p1 6) x2.toNatClampNeg) + x3)]) (rest := [.ref (a_t 0)]) ⟨hx, hb, hml, hown, htb⟩ (c_Query_byteAt l g F a_p1 p1 (((p1 6) x2.toNatClampNeg) + x3) _ hr26 H.size) (cw_V htb mb_Query_byteAt (htb _ L_Printer_111) rfl rfl ⟨Nat.le_of_ble_eq_true rfl, Nat.le_of_ble_eq_true rfl⟩) (pre_V (va_recv hK hP (ci := 1) (q0 := 2) rfl rfl) (pre_S [2, 3, 4, 5, 6, 7, 8, 9, 10, 11, 12] rfl rfl hP hD hS hA hAA hG)) rfl rfl hl.1 rfl (lv_room (Nat.le_of_ble_eq_true rfl)) d_Printer_writeAtom_74 ⟨Nat.zero_le _, Nat.zero_le _⟩) (fun H locs hP hS => ?_)
      obtain ⟨r27, hr27, h⟩ := Option.bind_eq_some_iff.mp h
      refine cl_V (wr := (pic_Query g a_p1 p1)) [0, 1] [2, 3, 4, 5, 6, 7, 8, 9, 10, 11, 12] rfl rfl rfl (by decide) hP hD hS hA (va_runV (As := [.int r26]) (rest := []) ⟨hx, hb, hml, hown, htb⟩ (c_Printer_put l g F a_t r_due t r26 _ hr27 H.size) (cw_V htb mb_Printer_put (htb _ L_Printer_60) rfl rfl ⟨Nat.le_of_ble_eq_true rfl, Nat.le_of_ble_eq_true rfl⟩) (pre_V (va_recv hK hP (ci := 4) (q0 := 0) rfl rfl) (pre_S [0, 1] rfl rfl hP hD hS hA hAA hG)) rfl rfl hl.1 rfl (lv_room (Nat.le_of_ble_eq_true rfl)) d_Printer_writeAtom_77 ⟨Nat.zero_le _, Nat.zero_le _⟩) (fun H locs hP hD hS => ?_)
      have hP : va_P (gD g) vwCl ((pic_Printer g a_t r_due r27) ++ (pic_Query g a_p1 p1)) H := hP.sub [11, 12, 0, 1, 2, 3, 4, 5, 6, 7, 8, 9, 10] rfl
      have hD : va_D A ((pic_Printer g a_t r_due r27) ++ (pic_Query g a_p1 p1)) := hD.sub [11, 12, 0, 1, 2, 3, 4, 5, 6, 7, 8, 9, 10] rfl rfl
      refine lv_iinc (v := (x3 + (1 : Int32))) (lv' := [(3, .int (x3 + (1 : Int32))), (0, .ref (a_t 0)), (1, .ref (a_p1 0)), (2, .int x2)]) hx hb d_Printer_writeAtom_80 hl (k := 3) rfl rfl (by decide) rfl (fun ls hl => ?_)
      refine lv_goto (tgt := 54) hx hb d_Printer_writeAtom_83 (by decide) ?_
      exact ih _ _ _ _ _ h _ _ _ hP hD hS (lv_sub hl [1, 2, 3, 0] rfl)
set_option maxHeartbeats 4000000 in
set_option maxRecDepth 100000 in
theorem k_Printer_writeAtom_52 {p : Program} {l : Launch} {e : Env} {s : State} {m : MethodId} {args : Array Value} {below : List Frame} {meth : Method} {c : Code} {g : Gz} {A : Nat → Prop} {F : Nat} {a_t a_p1 : Nat → Nat} {r_due : Nat} (hC : Cx prog_4_method_7_code 4 none R_Printer p s m args meth c g A A) : ∀ (t : StI) (p1 : StI) (x2 : Int32) (res : StI), Printer_writeAtom_52 F t p1 x2 = some res → Go p l e rm_Printer_writeAtom s m args below meth c g A A 4 (MQ below (EV g ((pic_Printer g a_t r_due res) ++ (pic_Query g a_p1 p1)) A) args s 0 0 A) ((pic_Printer g a_t r_due t) ++ (pic_Query g a_p1 p1)) [(0, .ref (a_t 0)), (1, .ref (a_p1 0)), (2, .int x2)] 52 [] := by
  obtain ⟨hx, hb, hr, hml, hown, htb, hlocks, hA, hAA, hG⟩ := id hC
  have hK := hG.1
  intro t p1 x2 res h H locs ls hP hD hS hl
  rw [Printer_writeAtom_52] at h
  refine lv_iconst (v := 0) hx hb d_Printer_writeAtom_52 (by decide) ?_
  refine lv_istore_n (lv' := [(3, .int (0 : Int32)), (0, .ref (a_t 0)), (1, .ref (a_p1 0)), (2, .int x2)]) hx hb d_Printer_writeAtom_53 rfl hl (by decide) rfl (fun ls hl => ?_)
  exact k_Printer_writeAtom_54 hC F _ _ _ _ _ h _ _ _ hP hD hS (lv_sub hl [1, 2, 3, 0] rfl)
set_option maxHeartbeats 4000000 in
set_option maxRecDepth 100000 in
theorem k_Printer_writeAtom_37 {p : Program} {l : Launch} {e : Env} {s : State} {m : MethodId} {args : Array Value} {below : List Frame} {meth : Method} {c : Code} {g : Gz} {A : Nat → Prop} {F : Nat} {a_t a_p1 : Nat → Nat} {r_due : Nat} (hC : Cx prog_4_method_7_code 4 none R_Printer p s m args meth c g A A) : ∀ (t : StI) (p1 : StI) (x2 : Int32) (res : StI), Printer_writeAtom_37 F t p1 x2 = some res → Go p l e rm_Printer_writeAtom s m args below meth c g A A 4 (MQ below (EV g ((pic_Printer g a_t r_due res) ++ (pic_Query g a_p1 p1)) A) args s 0 0 A) ((pic_Printer g a_t r_due t) ++ (pic_Query g a_p1 p1)) [(0, .ref (a_t 0)), (1, .ref (a_p1 0)), (2, .int x2)] 37 [] := by
  obtain ⟨hx, hb, hr, hml, hown, htb, hlocks, hA, hAA, hG⟩ := id hC
  have hK := hG.1
  intro t p1 x2 res h H locs ls hP hD hS hl
  rw [Printer_writeAtom_37] at h
  refine lv_aload_n hx hb d_Printer_writeAtom_37 rfl (lv_at hl 1 rfl) ?_
  refine va_getN (D := gD g) (ci := 1) (v := .ref (a_p1 6)) (C := R_Query) (T := T_Query) (N := 14) hx hb htb in_Query hown hK hP 2 rfl rfl 5 (by decide) (nf_of hG N_Printer_101) (fun _ h9 => h9) rfl d_Printer_writeAtom_38 ?_
  refine lv_iload_n hx hb d_Printer_writeAtom_41 rfl (lv_at hl 2 rfl) ?_
  by_cases c28 : (x2 < 0 ∨ 40 ≤ x2.toNatClampNeg)
  · replace h := (if_pos c28).symm.trans h
    cases h
  replace h := (if_neg c28).symm.trans h
  refine va_zald hx hb hK hP 5 2 rfl rfl c28 d_Printer_writeAtom_42 ?_
  refine lv_if_eq (tgt := 52) hx hb d_Printer_writeAtom_43 (by decide) (fun c29 => ?_) (fun c29 => ?_)
  · replace h := (if_pos c29).symm.trans h
    exact k_Printer_writeAtom_52 hC _ _ _ _ h _ _ _ hP hD hS (lv_sub hl [0, 1, 2] rfl)
  · replace h := (if_neg c29).symm.trans h
    refine lv_aload_n hx hb d_Printer_writeAtom_46 rfl (lv_at hl 0 rfl) ?_
    refine lv_bipush (v := 34) hx hb d_Printer_writeAtom_47 (by decide) ?_
    obtain ⟨r30, hr30, h⟩ := Option.bind_eq_some_iff.mp h
    refine cl_V (wr := (pic_Query g a_p1 p1)) [0, 1] [2, 3, 4, 5, 6, 7, 8, 9, 10, 11, 12] rfl rfl rfl (by decide) hP hD hS hA (va_runV (As := [.int (34 : Int32)]) (rest := []) ⟨hx, hb, hml, hown, htb⟩ (c_Printer_put l g F a_t r_due t (34 : Int32) _ hr30 H.size) (cw_V htb mb_Printer_put (htb _ L_Printer_60) rfl rfl ⟨Nat.le_of_ble_eq_true rfl, Nat.le_of_ble_eq_true rfl⟩) (pre_V (va_recv hK hP (ci := 4) (q0 := 0) rfl rfl) (pre_S [0, 1] rfl rfl hP hD hS hA hAA hG)) rfl rfl hl.1 rfl (lv_room (Nat.le_of_ble_eq_true rfl)) d_Printer_writeAtom_49 ⟨Nat.zero_le _, Nat.zero_le _⟩) (fun H locs hP hD hS => ?_)
    have hP : va_P (gD g) vwCl ((pic_Printer g a_t r_due r30) ++ (pic_Query g a_p1 p1)) H := hP.sub [11, 12, 0, 1, 2, 3, 4, 5, 6, 7, 8, 9, 10] rfl
    have hD : va_D A ((pic_Printer g a_t r_due r30) ++ (pic_Query g a_p1 p1)) := hD.sub [11, 12, 0, 1, 2, 3, 4, 5, 6, 7, 8, 9, 10] rfl rfl
    exact k_Printer_writeAtom_52 hC _ _ _ _ h _ _ _ hP hD hS (lv_sub hl [0, 1, 2] rfl)
set_option maxHeartbeats 4000000 in
set_option maxRecDepth 100000 in
theorem k_Printer_writeAtom {p : Program} {l : Launch} {e : Env} {s : State} {m : MethodId} {args : Array Value} {below : List Frame} {meth : Method} {c : Code} {g : Gz} {A : Nat → Prop} {F : Nat} {a_t a_p1 : Nat → Nat} {r_due : Nat} (hC : Cx prog_4_method_7_code 4 none R_Printer p s m args meth c g A A) : ∀ (t : StI) (p1 : StI) (x2 : Int32) (res : StI), Printer_writeAtom F t p1 x2 = some res → Go p l e rm_Printer_writeAtom s m args below meth c g A A 4 (MQ below (EV g ((pic_Printer g a_t r_due res) ++ (pic_Query g a_p1 p1)) A) args s 0 0 A) ((pic_Printer g a_t r_due t) ++ (pic_Query g a_p1 p1)) [(0, .ref (a_t 0)), (1, .ref (a_p1 0)), (2, .int x2)] 0 [] := by
  obtain ⟨hx, hb, hr, hml, hown, htb, hlocks, hA, hAA, hG⟩ := id hC
  have hK := hG.1
  intro t p1 x2 res h H locs ls hP hD hS hl
  rw [Printer_writeAtom] at h
  refine lv_aload_n hx hb d_Printer_writeAtom_0 rfl (lv_at hl 1 rfl) ?_
  refine lv_iload_n hx hb d_Printer_writeAtom_1 rfl (lv_at hl 2 rfl) ?_
  obtain ⟨r31, hr31, h⟩ := Option.bind_eq_some_iff.mp h
  refine cl_Ir hP hS hA (va_runV (As := [.int x2]) (rest := []) ⟨hx, hb, hml, hown, htb⟩ (c_Query_has l g F a_p1 p1 x2 _ hr31 H.size) (cw_V htb mb_Query_has (htb _ L_Printer_89) rfl rfl ⟨Nat.le_of_ble_eq_true rfl, Nat.le_of_ble_eq_true rfl⟩) (pre_V (va_recv hK hP (ci := 1) (q0 := 2) rfl rfl) (pre_S [2, 3, 4, 5, 6, 7, 8, 9, 10, 11, 12] rfl rfl hP hD hS hA hAA hG)) rfl rfl hl.1 rfl (lv_room (Nat.le_of_ble_eq_true rfl)) d_Printer_writeAtom_2 ⟨Nat.zero_le _, Nat.zero_le _⟩) (fun H locs hP hS => ?_)
  refine lv_if_ne (tgt := 9) hx hb d_Printer_writeAtom_5 (by decide) (fun c32 => ?_) (fun c32 => ?_)
  · replace h := (if_neg c32).symm.trans h
    refine lv_aload_n hx hb d_Printer_writeAtom_9 rfl (lv_at hl 0 rfl) ?_
    refine lv_aload_n hx hb d_Printer_writeAtom_10 rfl (lv_at hl 1 rfl) ?_
    refine va_getN (D := gD g) (ci := 1) (v := .ref (a_p1 5)) (C := R_Query) (T := T_Query) (N := 14) hx hb htb in_Query hown hK hP 2 rfl rfl 4 (by decide) (nf_of hG N_Printer_93) (fun _ h9 => h9) rfl d_Printer_writeAtom_11 ?_
    refine lv_iload_n hx hb d_Printer_writeAtom_14 rfl (lv_at hl 2 rfl) ?_
    by_cases c33 : (x2 < 0 ∨ 40 ≤ x2.toNatClampNeg)
    · replace h := (if_pos c33).symm.trans h
      cases h
    replace h := (if_neg c33).symm.trans h
    refine va_iald hx hb hK hP 4 0 rfl rfl c33 d_Printer_writeAtom_15 ?_
    obtain ⟨r34, hr34, h⟩ := Option.bind_eq_some_iff.mp h
    refine cl_Sr hP hS hA (va_runSN (As := [.int ((p1 4) x2.toNatClampNeg)]) (rest := [.ref (a_t 0)]) ⟨hx, hb, hml, hown, htb⟩ (c_MQ_nameOf l g F ((p1 4) x2.toNatClampNeg) _ hr34 H.size) (cn_S htb mb_MQ_nameOf (nm_of hG N_Printer_97) rfl rfl ⟨Nat.le_of_ble_eq_true rfl, Nat.le_of_ble_eq_true rfl⟩) (pre_S [] rfl rfl hP hD hS hA hAA hG) rfl rfl hl.1 rfl (lv_room (Nat.le_of_ble_eq_true rfl)) d_Printer_writeAtom_16 ⟨Nat.zero_le _, Nat.zero_le _⟩) (fun H locs hP hS => ?_)
    obtain ⟨r35, hr35, h⟩ := Option.bind_eq_some_iff.mp h
    refine cl_V (wr := (pic_Query g a_p1 p1)) [0, 1] [2, 3, 4, 5, 6, 7, 8, 9, 10, 11, 12] rfl rfl rfl (by decide) hP hD hS hA (va_runV (As := [.ref (g.2.2.2.1 r34)]) (rest := []) ⟨hx, hb, hml, hown, htb⟩ (c_Printer_writeWord l g F a_t r_due t r34 _ hr35 H.size) (cw_V htb mb_Printer_writeWord (htb _ L_Printer_72) rfl rfl ⟨Nat.le_of_ble_eq_true rfl, Nat.le_of_ble_eq_true rfl⟩) (pre_V (va_recv hK hP (ci := 4) (q0 := 0) rfl rfl) (pre_S [0, 1] rfl rfl hP hD hS hA hAA hG)) rfl rfl hl.1 rfl (lv_room (Nat.le_of_ble_eq_true rfl)) d_Printer_writeAtom_19 ⟨Nat.zero_le _, Nat.zero_le _⟩) (fun H locs hP hD hS => ?_)
    have hP : va_P (gD g) vwCl ((pic_Printer g a_t r_due r35) ++ (pic_Query g a_p1 p1)) H := hP.sub [11, 12, 0, 1, 2, 3, 4, 5, 6, 7, 8, 9, 10] rfl
    have hD : va_D A ((pic_Printer g a_t r_due r35) ++ (pic_Query g a_p1 p1)) := hD.sub [11, 12, 0, 1, 2, 3, 4, 5, 6, 7, 8, 9, 10] rfl rfl
    refine lv_aload_n hx hb d_Printer_writeAtom_22 rfl (lv_at hl 1 rfl) ?_
    refine va_getN (D := gD g) (ci := 1) (v := .ref (a_p1 5)) (C := R_Query) (T := T_Query) (N := 14) hx hb htb in_Query hown hK hP 2 rfl rfl 4 (by decide) (nf_of hG N_Printer_93) (fun _ h9 => h9) rfl d_Printer_writeAtom_23 ?_
    refine lv_iload_n hx hb d_Printer_writeAtom_26 rfl (lv_at hl 2 rfl) ?_
    by_cases c36 : (x2 < 0 ∨ 40 ≤ x2.toNatClampNeg)
    · replace h := (if_pos c36).symm.trans h
      cases h
    replace h := (if_neg c36).symm.trans h
    refine va_iald hx hb hK hP 4 0 rfl rfl c36 d_Printer_writeAtom_27 ?_
    refine lv_if_eq (tgt := 37) hx hb d_Printer_writeAtom_28 (by decide) (fun c37 => ?_) (fun c37 => ?_)
    · replace h := (if_pos c37).symm.trans h
      exact k_Printer_writeAtom_37 hC _ _ _ _ h _ _ _ hP hD hS (lv_sub hl [0, 1, 2] rfl)
    · replace h := (if_neg c37).symm.trans h
      refine lv_aload_n hx hb d_Printer_writeAtom_31 rfl (lv_at hl 0 rfl) ?_
      refine lv_bipush (v := 58) hx hb d_Printer_writeAtom_32 (by decide) ?_
      obtain ⟨r38, hr38, h⟩ := Option.bind_eq_some_iff.mp h
      refine cl_V (wr := (pic_Query g a_p1 p1)) [0, 1] [2, 3, 4, 5, 6, 7, 8, 9, 10, 11, 12] rfl rfl rfl (by decide) hP hD hS hA (va_runV (As := [.int (58 : Int32)]) (rest := []) ⟨hx, hb, hml, hown, htb⟩ (c_Printer_put l g F a_t r_due r35 (58 : Int32) _ hr38 H.size) (cw_V htb mb_Printer_put (htb _ L_Printer_60) rfl rfl ⟨Nat.le_of_ble_eq_true rfl, Nat.le_of_ble_eq_true rfl⟩) (pre_V (va_recv hK hP (ci := 4) (q0 := 0) rfl rfl) (pre_S [0, 1] rfl rfl hP hD hS hA hAA hG)) rfl rfl hl.1 rfl (lv_room (Nat.le_of_ble_eq_true rfl)) d_Printer_writeAtom_34 ⟨Nat.zero_le _, Nat.zero_le _⟩) (fun H locs hP hD hS => ?_)
      have hP : va_P (gD g) vwCl ((pic_Printer g a_t r_due r38) ++ (pic_Query g a_p1 p1)) H := hP.sub [11, 12, 0, 1, 2, 3, 4, 5, 6, 7, 8, 9, 10] rfl
      have hD : va_D A ((pic_Printer g a_t r_due r38) ++ (pic_Query g a_p1 p1)) := hD.sub [11, 12, 0, 1, 2, 3, 4, 5, 6, 7, 8, 9, 10] rfl rfl
      exact k_Printer_writeAtom_37 hC _ _ _ _ h _ _ _ hP hD hS (lv_sub hl [0, 1, 2] rfl)
  · replace h := (if_pos c32).symm.trans h
    cases h
    exact W.vret hx hb hr (fun t ht hW => ⟨⟨(), rfl, trivial, by rw [ht]; exact hP, hD⟩, hS.F ht⟩) hS.2.2 d_Printer_writeAtom_8
theorem c_Printer_writeAtom (l : Launch) (g : Gz) (F : Nat) (a_t : Nat → Nat) (a_p1 : Nat → Nat) (r_due : Nat) (t : StI) (p1 : StI) (x2 : Int32) (res : StI) (h : Printer_writeAtom F t p1 x2 = some res) : ∀ sz : Nat, Met l y_Printer_writeAtom (.code y_Printer_writeAtom prog_4_method_7_code 4 none :: TBL) rm_Printer_writeAtom (va_Pc [.ref (a_t 0), .ref (a_p1 0), .int x2] (Pre0 g ((pic_Printer g a_t r_due t) ++ (pic_Query g a_p1 p1)) sz)) (EV g ((pic_Printer g a_t r_due res) ++ (pic_Query g a_p1 p1)) (va_A ((pic_Printer g a_t r_due t) ++ (pic_Query g a_p1 p1)) sz)) 0 0 (va_A ((pic_Printer g a_t r_due t) ++ (pic_Query g a_p1 p1)) sz) :=
  ct_w (Qc := fun A => EV g ((pic_Printer g a_t r_due res) ++ (pic_Query g a_p1 p1)) A) (by decide) (Nat.le_of_ble_eq_true rfl) (fun p e s m args below meth c A hC => k_Printer_writeAtom hC t p1 x2 res h)
def Printer_writeOperand_71 (F : Nat) (t : StI) (p1 : StI) (due : StI) (dueL : StL) (x2 : Int32) (x4 : Int32) : Option (StI × StI × StL) := (Pile_push F 160 due dueL ((x4 + (1 : Int32)).toInt64)).bind fun r14 => (Pile_push F 160 r14.1 r14.2 x2.toInt64).bind fun r15 => (Pile_push F 160 r15.1 r15.2 x4.toInt64).bind fun r16 => some (t, r16.1, r16.2)
def Printer_writeOperand (F : Nat) (t : StI) (p1 : StI) (due : StI) (dueL : StL) (x2 : Int32) (x3 : Int32) : Option (StI × StI × StL) := if x2 < 0 then if x2 = (-2 : Int32) then (Printer_writeWord F t 13).bind fun r24 => (Pile_push F 160 due dueL (3 : Int64)).bind fun r25 => some (r24, r25.1, r25.2) else (Printer_tightnessOf F x2).bind fun r19 => if x3 ≤ r19 then Printer_writeOperand_71 F t p1 due dueL x2 r19 else (Printer_writeWord F t 14).bind fun r21 => letS (va_up r21 2 (fun _ => (0 : Int32))) fun t_22 => (Pile_push F 160 due dueL (-1 : Int64)).bind fun r23 => Printer_writeOperand_71 F t_22 p1 r23.1 r23.2 x2 r19 else (Printer_writeAtom F t p1 x2).bind fun r26 => some (r26, due, dueL)
set_option maxHeartbeats 4000000 in
set_option maxRecDepth 100000 in
theorem k_Printer_writeOperand_71 {p : Program} {l : Launch} {e : Env} {s : State} {m : MethodId} {args : Array Value} {below : List Frame} {meth : Method} {c : Code} {g : Gz} {A : Nat → Prop} {F : Nat} {a_t a_p1 a_due : Nat → Nat} (hC : Cx prog_4_method_4_code 5 none R_Printer p s m args meth c g A A) : ∀ (t : StI) (p1 : StI) (due : StI) (dueL : StL) (x2 : Int32) (x4 : Int32) (res : StI × StI × StL), Printer_writeOperand_71 F t p1 due dueL x2 x4 = some res → Go p l e rm_Printer_writeOperand s m args below meth c g A A 5 (MQ below (EV g ((pic_Printer g a_t (a_due 0) res.1) ++ (pic_Query g a_p1 p1) ++ (pic_Pile g a_due 160 res.2.1 res.2.2)) A) args s 0 0 A) ((pic_Printer g a_t (a_due 0) t) ++ (pic_Query g a_p1 p1) ++ (pic_Pile g a_due 160 due dueL)) [(0, .ref (a_t 0)), (2, .int x2), (4, .int x4)] 71 [] := by
  obtain ⟨hx, hb, hr, hml, hown, htb, hlocks, hA, hAA, hG⟩ := id hC
  have hK := hG.1
  intro t p1 due dueL x2 x4 res h H locs ls hP hD hS hl
  rw [Printer_writeOperand_71] at h
  refine lv_aload_n hx hb d_Printer_writeOperand_71 rfl (lv_at hl 0 rfl) ?_
  refine va_get (D := gD g) (ci := 4) (v := .ref (a_due 0)) (C := R_Printer) (T := T_Printer) (N := 4) hx hb htb in_Printer hown hK hP 0 rfl rfl 3 (by decide) (htb _ L_Printer_28) (fun _ h9 => h9) rfl d_Printer_writeOperand_72 ?_
  refine lv_iload hx hb d_Printer_writeOperand_75 (lv_at hl 2 rfl) ?_
  refine lv_iconst (v := 1) hx hb d_Printer_writeOperand_77 (by decide) ?_
  refine lv_iadd hx hb d_Printer_writeOperand_78 ?_
  refine lv_i2l hx hb d_Printer_writeOperand_79 rfl ?_
  obtain ⟨r14, hr14, h⟩ := Option.bind_eq_some_iff.mp h
  refine cl_V (wr := (pic_Printer g a_t (a_due 0) t) ++ (pic_Query g a_p1 p1)) [13, 14] [0, 1, 2, 3, 4, 5, 6, 7, 8, 9, 10, 11, 12] rfl rfl rfl (by decide) hP hD hS hA (va_runV (As := [.long ((x4 + (1 : Int32)).toInt64)]) (rest := []) ⟨hx, hb, hml, hown, htb⟩ (c_Pile_push l g F a_due 160 due dueL ((x4 + (1 : Int32)).toInt64) _ hr14 H.size) (cw_V htb mb_Pile_push (htb _ L_Printer_40) rfl rfl ⟨Nat.le_of_ble_eq_true rfl, Nat.le_of_ble_eq_true rfl⟩) (pre_V (va_recv hK hP (ci := 0) (q0 := 13) rfl rfl) (pre_S [13, 14] rfl rfl hP hD hS hA hAA hG)) rfl rfl hl.1 rfl (lv_room (Nat.le_of_ble_eq_true rfl)) d_Printer_writeOperand_80 ⟨Nat.zero_le _, Nat.zero_le _⟩) (fun H locs hP hD hS => ?_)
  have hP : va_P (gD g) vwCl ((pic_Printer g a_t (a_due 0) t) ++ (pic_Query g a_p1 p1) ++ (pic_Pile g a_due 160 r14.1 r14.2)) H := hP.sub [0, 1, 2, 3, 4, 5, 6, 7, 8, 9, 10, 11, 12, 13, 14] rfl
  have hD : va_D A ((pic_Printer g a_t (a_due 0) t) ++ (pic_Query g a_p1 p1) ++ (pic_Pile g a_due 160 r14.1 r14.2)) := hD.sub [0, 1, 2, 3, 4, 5, 6, 7, 8, 9, 10, 11, 12, 13, 14] rfl rfl
  refine lv_aload_n hx hb d_Printer_writeOperand_83 rfl (lv_at hl 0 rfl) ?_
  refine va_get (D := gD g) (ci := 4) (v := .ref (a_due 0)) (C := R_Printer) (T := T_Printer) (N := 4) hx hb htb in_Printer hown hK hP 0 rfl rfl 3 (by decide) (htb _ L_Printer_28) (fun _ h9 => h9) rfl d_Printer_writeOperand_84 ?_
  refine lv_iload_n hx hb d_Printer_writeOperand_87 rfl (lv_at hl 1 rfl) ?_
  refine lv_i2l hx hb d_Printer_writeOperand_88 rfl ?_
  obtain ⟨r15, hr15, h⟩ := Option.bind_eq_some_iff.mp h
  refine cl_V (wr := (pic_Printer g a_t (a_due 0) t) ++ (pic_Query g a_p1 p1)) [13, 14] [0, 1, 2, 3, 4, 5, 6, 7, 8, 9, 10, 11, 12] rfl rfl rfl (by decide) hP hD hS hA (va_runV (As := [.long x2.toInt64]) (rest := []) ⟨hx, hb, hml, hown, htb⟩ (c_Pile_push l g F a_due 160 r14.1 r14.2 x2.toInt64 _ hr15 H.size) (cw_V htb mb_Pile_push (htb _ L_Printer_40) rfl rfl ⟨Nat.le_of_ble_eq_true rfl, Nat.le_of_ble_eq_true rfl⟩) (pre_V (va_recv hK hP (ci := 0) (q0 := 13) rfl rfl) (pre_S [13, 14] rfl rfl hP hD hS hA hAA hG)) rfl rfl hl.1 rfl (lv_room (Nat.le_of_ble_eq_true rfl)) d_Printer_writeOperand_89 ⟨Nat.zero_le _, Nat.zero_le _⟩) (fun H locs hP hD hS => ?_)
  have hP : va_P (gD g) vwCl ((pic_Printer g a_t (a_due 0) t) ++ (pic_Query g a_p1 p1) ++ (pic_Pile g a_due 160 r15.1 r15.2)) H := hP.sub [0, 1, 2, 3, 4, 5, 6, 7, 8, 9, 10, 11, 12, 13, 14] rfl
  have hD : va_D A ((pic_Printer g a_t (a_due 0) t) ++ (pic_Query g a_p1 p1) ++ (pic_Pile g a_due 160 r15.1 r15.2)) := hD.sub [0, 1, 2, 3, 4, 5, 6, 7, 8, 9, 10, 11, 12, 13, 14] rfl rfl
  refine lv_aload_n hx hb d_Printer_writeOperand_92 rfl (lv_at hl 0 rfl) ?_
  refine va_get (D := gD g) (ci := 4) (v := .ref (a_due 0)) (C := R_Printer) (T := T_Printer) (N := 4) hx hb htb in_Printer hown hK hP 0 rfl rfl 3 (by decide) (htb _ L_Printer_28) (fun _ h9 => h9) rfl d_Printer_writeOperand_93 ?_
  refine lv_iload hx hb d_Printer_writeOperand_96 (lv_at hl 2 rfl) ?_
  refine lv_i2l hx hb d_Printer_writeOperand_98 rfl ?_
  obtain ⟨r16, hr16, h⟩ := Option.bind_eq_some_iff.mp h
  refine cl_V (wr := (pic_Printer g a_t (a_due 0) t) ++ (pic_Query g a_p1 p1)) [13, 14] [0, 1, 2, 3, 4, 5, 6, 7, 8, 9, 10, 11, 12] rfl rfl rfl (by decide) hP hD hS hA (va_runV (As := [.long x4.toInt64]) (rest := []) ⟨hx, hb, hml, hown, htb⟩ (c_Pile_push l g F a_due 160 r15.1 r15.2 x4.toInt64 _ hr16 H.size) (cw_V htb mb_Pile_push (htb _ L_Printer_40) rfl rfl ⟨Nat.le_of_ble_eq_true rfl, Nat.le_of_ble_eq_true rfl⟩) (pre_V (va_recv hK hP (ci := 0) (q0 := 13) rfl rfl) (pre_S [13, 14] rfl rfl hP hD hS hA hAA hG)) rfl rfl hl.1 rfl (lv_room (Nat.le_of_ble_eq_true rfl)) d_Printer_writeOperand_99 ⟨Nat.zero_le _, Nat.zero_le _⟩) (fun H locs hP hD hS => ?_)
  have hP : va_P (gD g) vwCl ((pic_Printer g a_t (a_due 0) t) ++ (pic_Query g a_p1 p1) ++ (pic_Pile g a_due 160 r16.1 r16.2)) H := hP.sub [0, 1, 2, 3, 4, 5, 6, 7, 8, 9, 10, 11, 12, 13, 14] rfl
  have hD : va_D A ((pic_Printer g a_t (a_due 0) t) ++ (pic_Query g a_p1 p1) ++ (pic_Pile g a_due 160 r16.1 r16.2)) := hD.sub [0, 1, 2, 3, 4, 5, 6, 7, 8, 9, 10, 11, 12, 13, 14] rfl rfl
  cases h
  exact W.vret hx hb hr (fun t ht hW => ⟨⟨(), rfl, trivial, by rw [ht]; exact hP, hD⟩, hS.F ht⟩) hS.2.2 d_Printer_writeOperand_102
set_option maxHeartbeats 4000000 in
set_option maxRecDepth 100000 in
theorem k_Printer_writeOperand {p : Program} {l : Launch} {e : Env} {s : State} {m : MethodId} {args : Array Value} {below : List Frame} {meth : Method} {c : Code} {g : Gz} {A : Nat → Prop} {F : Nat} {a_t a_p1 a_due : Nat → Nat} (hC : Cx prog_4_method_4_code 5 none R_Printer p s m args meth c g A A) : ∀ (t : StI) (p1 : StI) (due : StI) (dueL : StL) (x2 : Int32) (x3 : Int32) (res : StI × StI × StL), Printer_writeOperand F t p1 due dueL x2 x3 = some res → Go p l e rm_Printer_writeOperand s m args below meth c g A A 5 (MQ below (EV g ((pic_Printer g a_t (a_due 0) res.1) ++ (pic_Query g a_p1 p1) ++ (pic_Pile g a_due 160 res.2.1 res.2.2)) A) args s 0 0 A) ((pic_Printer g a_t (a_due 0) t) ++ (pic_Query g a_p1 p1) ++ (pic_Pile g a_due 160 due dueL)) [(0, .ref (a_t 0)), (1, .ref (a_p1 0)), (2, .int x2), (3, .int x3)] 0 [] := by
  obtain ⟨hx, hb, hr, hml, hown, htb, hlocks, hA, hAA, hG⟩ := id hC
  have hK := hG.1
  intro t p1 due dueL x2 x3 res h H locs ls hP hD hS hl
  rw [Printer_writeOperand] at h
  refine lv_iload_n hx hb d_Printer_writeOperand_0 rfl (lv_at hl 2 rfl) ?_
  refine lv_if_lt (tgt := 13) hx hb d_Printer_writeOperand_1 (by decide) (fun c17 => ?_) (fun c17 => ?_)
  · replace h := (if_pos c17).symm.trans h
    refine lv_iload_n hx hb d_Printer_writeOperand_13 rfl (lv_at hl 2 rfl) ?_
    refine lv_bipush (v := -2) hx hb d_Printer_writeOperand_14 (by decide) ?_
    refine lv_icmp_ne (tgt := 38) hx hb d_Printer_writeOperand_16 (by decide) (fun c18 => ?_) (fun c18 => ?_)
    · replace h := (if_neg c18).symm.trans h
      refine lv_iload_n hx hb d_Printer_writeOperand_38 rfl (lv_at hl 2 rfl) ?_
      obtain ⟨r19, hr19, h⟩ := Option.bind_eq_some_iff.mp h
      refine cl_Ir hP hS hA (va_runS (As := [.int x2]) (rest := []) ⟨hx, hb, hml, hown, htb⟩ (c_Printer_tightnessOf l g F x2 _ hr19 H.size) (cw_S htb mb_Printer_tightnessOf (htb _ L_Printer_78) rfl rfl ⟨Nat.le_of_ble_eq_true rfl, Nat.le_of_ble_eq_true rfl⟩) (pre_S [] rfl rfl hP hD hS hA hAA hG) rfl rfl hl.1 rfl (lv_room (Nat.le_of_ble_eq_true rfl)) d_Printer_writeOperand_39 ⟨Nat.zero_le _, Nat.zero_le _⟩) (fun H locs hP hS => ?_)
      refine lv_istore (lv' := [(4, .int r19), (0, .ref (a_t 0)), (1, .ref (a_p1 0)), (2, .int x2), (3, .int x3)]) hx hb d_Printer_writeOperand_42 hl (by decide) rfl (fun ls hl => ?_)
      refine lv_iload hx hb d_Printer_writeOperand_44 (lv_at hl 0 rfl) ?_
      refine lv_iload_n hx hb d_Printer_writeOperand_46 rfl (lv_at hl 4 rfl) ?_
      refine lv_icmp_ge (tgt := 71) hx hb d_Printer_writeOperand_47 (by decide) (fun c20 => ?_) (fun c20 => ?_)
      · replace h := (if_pos c20).symm.trans h
        exact k_Printer_writeOperand_71 hC _ _ _ _ _ _ _ h _ _ _ hP hD hS (lv_sub hl [1, 3, 0] rfl)
      · replace h := (if_neg c20).symm.trans h
        refine lv_aload_n hx hb d_Printer_writeOperand_50 rfl (lv_at hl 1 rfl) ?_
        refine ldc_s hx hb hG M_str_Printer_81 hown d_Printer_writeOperand_51 ?_
        obtain ⟨r21, hr21, h⟩ := Option.bind_eq_some_iff.mp h
        refine cl_V (wr := (pic_Query g a_p1 p1) ++ (pic_Pile g a_due 160 due dueL)) [0, 1] [2, 3, 4, 5, 6, 7, 8, 9, 10, 11, 12, 13, 14] rfl rfl rfl (by decide) hP hD hS hA (va_runV (As := [.ref (g.2.2.2.1 14)]) (rest := []) ⟨hx, hb, hml, hown, htb⟩ (c_Printer_writeWord l g F a_t (a_due 0) t 14 _ hr21 H.size) (cw_V htb mb_Printer_writeWord (htb _ L_Printer_72) rfl rfl ⟨Nat.le_of_ble_eq_true rfl, Nat.le_of_ble_eq_true rfl⟩) (pre_V (va_recv hK hP (ci := 4) (q0 := 0) rfl rfl) (pre_S [0, 1] rfl rfl hP hD hS hA hAA hG)) rfl rfl hl.1 rfl (lv_room (Nat.le_of_ble_eq_true rfl)) d_Printer_writeOperand_53 ⟨Nat.zero_le _, Nat.zero_le _⟩) (fun H locs hP hD hS => ?_)
        have hP : va_P (gD g) vwCl ((pic_Printer g a_t (a_due 0) r21) ++ (pic_Query g a_p1 p1) ++ (pic_Pile g a_due 160 due dueL)) H := hP.sub [13, 14, 0, 1, 2, 3, 4, 5, 6, 7, 8, 9, 10, 11, 12] rfl
        have hD : va_D A ((pic_Printer g a_t (a_due 0) r21) ++ (pic_Query g a_p1 p1) ++ (pic_Pile g a_due 160 due dueL)) := hD.sub [13, 14, 0, 1, 2, 3, 4, 5, 6, 7, 8, 9, 10, 11, 12] rfl rfl
        refine lv_aload_n hx hb d_Printer_writeOperand_56 rfl (lv_at hl 1 rfl) ?_
        refine lv_iconst (v := 0) hx hb d_Printer_writeOperand_57 (by decide) ?_
        refine va_put (D := gD g) (ci := 4) (v := .int (0 : Int32)) (ty := .boolean) (C := R_Printer) (T := T_Printer) (N := 4) hx hb htb in_Printer ty_Printer ty_Printer_ok nm_Printer hown hK hP hD hS 0 rfl rfl 2 (by decide) (htb _ L_Printer_19) (fun _ h9 => h9) rfl (by decide +kernel) rfl rfl (Nat.le_of_ble_eq_true rfl) d_Printer_writeOperand_58 (fun H locs hP hD hS => ?_)
        obtain ⟨t_22, et_22, h⟩ := letS_el h
        have hP : va_P (gD g) vwCl ((pic_Printer g a_t (a_due 0) t_22) ++ (pic_Query g a_p1 p1) ++ (pic_Pile g a_due 160 due dueL)) H := by rw [et_22]; exact hP
        have hD : va_D A ((pic_Printer g a_t (a_due 0) t_22) ++ (pic_Query g a_p1 p1) ++ (pic_Pile g a_due 160 due dueL)) := by rw [et_22]; exact hD
        refine lv_aload_n hx hb d_Printer_writeOperand_61 rfl (lv_at hl 1 rfl) ?_
        refine va_get (D := gD g) (ci := 4) (v := .ref (a_due 0)) (C := R_Printer) (T := T_Printer) (N := 4) hx hb htb in_Printer hown hK hP 0 rfl rfl 3 (by decide) (htb _ L_Printer_28) (fun _ h9 => h9) rfl d_Printer_writeOperand_62 ?_
        refine lv_ldc2 (v := -1) hx hb hown (htb _ K_Printer_83) d_Printer_writeOperand_65 ?_
        obtain ⟨r23, hr23, h⟩ := Option.bind_eq_some_iff.mp h
        refine cl_V (wr := (pic_Printer g a_t (a_due 0) t_22) ++ (pic_Query g a_p1 p1)) [13, 14] [0, 1, 2, 3, 4, 5, 6, 7, 8, 9, 10, 11, 12] rfl rfl rfl (by decide) hP hD hS hA (va_runV (As := [.long (-1 : Int64)]) (rest := []) ⟨hx, hb, hml, hown, htb⟩ (c_Pile_push l g F a_due 160 due dueL (-1 : Int64) _ hr23 H.size) (cw_V htb mb_Pile_push (htb _ L_Printer_40) rfl rfl ⟨Nat.le_of_ble_eq_true rfl, Nat.le_of_ble_eq_true rfl⟩) (pre_V (va_recv hK hP (ci := 0) (q0 := 13) rfl rfl) (pre_S [13, 14] rfl rfl hP hD hS hA hAA hG)) rfl rfl hl.1 rfl (lv_room (Nat.le_of_ble_eq_true rfl)) d_Printer_writeOperand_68 ⟨Nat.zero_le _, Nat.zero_le _⟩) (fun H locs hP hD hS => ?_)
        have hP : va_P (gD g) vwCl ((pic_Printer g a_t (a_due 0) t_22) ++ (pic_Query g a_p1 p1) ++ (pic_Pile g a_due 160 r23.1 r23.2)) H := hP.sub [0, 1, 2, 3, 4, 5, 6, 7, 8, 9, 10, 11, 12, 13, 14] rfl
        have hD : va_D A ((pic_Printer g a_t (a_due 0) t_22) ++ (pic_Query g a_p1 p1) ++ (pic_Pile g a_due 160 r23.1 r23.2)) := hD.sub [0, 1, 2, 3, 4, 5, 6, 7, 8, 9, 10, 11, 12, 13, 14] rfl rfl
        exact k_Printer_writeOperand_71 hC _ _ _ _ _ _ _ h _ _ _ hP hD hS (lv_sub hl [1, 3, 0] rfl)
    · replace h := (if_pos c18).symm.trans h
      refine lv_aload_n hx hb d_Printer_writeOperand_19 rfl (lv_at hl 0 rfl) ?_
      refine ldc_s hx hb hG M_str_Printer_70 hown d_Printer_writeOperand_20 ?_
      obtain ⟨r24, hr24, h⟩ := Option.bind_eq_some_iff.mp h
      refine cl_V (wr := (pic_Query g a_p1 p1) ++ (pic_Pile g a_due 160 due dueL)) [0, 1] [2, 3, 4, 5, 6, 7, 8, 9, 10, 11, 12, 13, 14] rfl rfl rfl (by decide) hP hD hS hA (va_runV (As := [.ref (g.2.2.2.1 13)]) (rest := []) ⟨hx, hb, hml, hown, htb⟩ (c_Printer_writeWord l g F a_t (a_due 0) t 13 _ hr24 H.size) (cw_V htb mb_Printer_writeWord (htb _ L_Printer_72) rfl rfl ⟨Nat.le_of_ble_eq_true rfl, Nat.le_of_ble_eq_true rfl⟩) (pre_V (va_recv hK hP (ci := 4) (q0 := 0) rfl rfl) (pre_S [0, 1] rfl rfl hP hD hS hA hAA hG)) rfl rfl hl.1 rfl (lv_room (Nat.le_of_ble_eq_true rfl)) d_Printer_writeOperand_22 ⟨Nat.zero_le _, Nat.zero_le _⟩) (fun H locs hP hD hS => ?_)
      have hP : va_P (gD g) vwCl ((pic_Printer g a_t (a_due 0) r24) ++ (pic_Query g a_p1 p1) ++ (pic_Pile g a_due 160 due dueL)) H := hP.sub [13, 14, 0, 1, 2, 3, 4, 5, 6, 7, 8, 9, 10, 11, 12] rfl
      have hD : va_D A ((pic_Printer g a_t (a_due 0) r24) ++ (pic_Query g a_p1 p1) ++ (pic_Pile g a_due 160 due dueL)) := hD.sub [13, 14, 0, 1, 2, 3, 4, 5, 6, 7, 8, 9, 10, 11, 12] rfl rfl
      refine lv_aload_n hx hb d_Printer_writeOperand_25 rfl (lv_at hl 0 rfl) ?_
      refine va_get (D := gD g) (ci := 4) (v := .ref (a_due 0)) (C := R_Printer) (T := T_Printer) (N := 4) hx hb htb in_Printer hown hK hP 0 rfl rfl 3 (by decide) (htb _ L_Printer_28) (fun _ h9 => h9) rfl d_Printer_writeOperand_26 ?_
      refine lv_ldc2 (v := 3) hx hb hown (htb _ K_Printer_76) d_Printer_writeOperand_29 ?_
      obtain ⟨r25, hr25, h⟩ := Option.bind_eq_some_iff.mp h
      refine cl_V (wr := (pic_Printer g a_t (a_due 0) r24) ++ (pic_Query g a_p1 p1)) [13, 14] [0, 1, 2, 3, 4, 5, 6, 7, 8, 9, 10, 11, 12] rfl rfl rfl (by decide) hP hD hS hA (va_runV (As := [.long (3 : Int64)]) (rest := []) ⟨hx, hb, hml, hown, htb⟩ (c_Pile_push l g F a_due 160 due dueL (3 : Int64) _ hr25 H.size) (cw_V htb mb_Pile_push (htb _ L_Printer_40) rfl rfl ⟨Nat.le_of_ble_eq_true rfl, Nat.le_of_ble_eq_true rfl⟩) (pre_V (va_recv hK hP (ci := 0) (q0 := 13) rfl rfl) (pre_S [13, 14] rfl rfl hP hD hS hA hAA hG)) rfl rfl hl.1 rfl (lv_room (Nat.le_of_ble_eq_true rfl)) d_Printer_writeOperand_32 ⟨Nat.zero_le _, Nat.zero_le _⟩) (fun H locs hP hD hS => ?_)
      have hP : va_P (gD g) vwCl ((pic_Printer g a_t (a_due 0) r24) ++ (pic_Query g a_p1 p1) ++ (pic_Pile g a_due 160 r25.1 r25.2)) H := hP.sub [0, 1, 2, 3, 4, 5, 6, 7, 8, 9, 10, 11, 12, 13, 14] rfl
      have hD : va_D A ((pic_Printer g a_t (a_due 0) r24) ++ (pic_Query g a_p1 p1) ++ (pic_Pile g a_due 160 r25.1 r25.2)) := hD.sub [0, 1, 2, 3, 4, 5, 6, 7, 8, 9, 10, 11, 12, 13, 14] rfl rfl
      refine lv_goto (tgt := 102) hx hb d_Printer_writeOperand_35 (by decide) ?_
      cases h
      exact W.vret hx hb hr (fun t ht hW => ⟨⟨(), rfl, trivial, by rw [ht]; exact hP, hD⟩, hS.F ht⟩) hS.2.2 d_Printer_writeOperand_102
  · replace h := (if_neg c17).symm.trans h
    refine lv_aload_n hx hb d_Printer_writeOperand_4 rfl (lv_at hl 0 rfl) ?_
    refine lv_aload_n hx hb d_Printer_writeOperand_5 rfl (lv_at hl 1 rfl) ?_
    refine lv_iload_n hx hb d_Printer_writeOperand_6 rfl (lv_at hl 2 rfl) ?_
    obtain ⟨r26, hr26, h⟩ := Option.bind_eq_some_iff.mp h
    refine cl_V (wr := (pic_Pile g a_due 160 due dueL)) [0, 1, 2, 3, 4, 5, 6, 7, 8, 9, 10, 11, 12] [13, 14] rfl rfl rfl (by decide) hP hD hS hA (va_runV (As := [.ref (a_p1 0), .int x2]) (rest := []) ⟨hx, hb, hml, hown, htb⟩ (c_Printer_writeAtom l g F a_t a_p1 (a_due 0) t p1 x2 _ hr26 H.size) (cw_V htb mb_Printer_writeAtom (htb _ L_Printer_66) rfl rfl ⟨Nat.le_of_ble_eq_true rfl, Nat.le_of_ble_eq_true rfl⟩) (pre_V (va_recv hK hP (ci := 4) (q0 := 0) rfl rfl) (pre_S [0, 1, 2, 3, 4, 5, 6, 7, 8, 9, 10, 11, 12] rfl rfl hP hD hS hA hAA hG)) rfl rfl hl.1 rfl (lv_room (Nat.le_of_ble_eq_true rfl)) d_Printer_writeOperand_7 ⟨Nat.zero_le _, Nat.zero_le _⟩) (fun H locs hP hD hS => ?_)
    have hP : va_P (gD g) vwCl ((pic_Printer g a_t (a_due 0) r26) ++ (pic_Query g a_p1 p1) ++ (pic_Pile g a_due 160 due dueL)) H := hP.sub [2, 3, 4, 5, 6, 7, 8, 9, 10, 11, 12, 13, 14, 0, 1] rfl
    have hD : va_D A ((pic_Printer g a_t (a_due 0) r26) ++ (pic_Query g a_p1 p1) ++ (pic_Pile g a_due 160 due dueL)) := hD.sub [2, 3, 4, 5, 6, 7, 8, 9, 10, 11, 12, 13, 14, 0, 1] rfl rfl
    refine lv_goto (tgt := 102) hx hb d_Printer_writeOperand_10 (by decide) ?_
    cases h
    exact W.vret hx hb hr (fun t ht hW => ⟨⟨(), rfl, trivial, by rw [ht]; exact hP, hD⟩, hS.F ht⟩) hS.2.2 d_Printer_writeOperand_102
theorem c_Printer_writeOperand (l : Launch) (g : Gz) (F : Nat) (a_t : Nat → Nat) (a_p1 : Nat → Nat) (a_due : Nat → Nat) (t : StI) (p1 : StI) (due : StI) (dueL : StL) (x2 : Int32) (x3 : Int32) (res : StI × StI × StL) (h : Printer_writeOperand F t p1 due dueL x2 x3 = some res) : ∀ sz : Nat, Met l y_Printer_writeOperand (.code y_Printer_writeOperand prog_4_method_4_code 5 none :: TBL) rm_Printer_writeOperand (va_Pc [.ref (a_t 0), .ref (a_p1 0), .int x2, .int x3] (Pre0 g ((pic_Printer g a_t (a_due 0) t) ++ (pic_Query g a_p1 p1) ++ (pic_Pile g a_due 160 due dueL)) sz)) (EV g ((pic_Printer g a_t (a_due 0) res.1) ++ (pic_Query g a_p1 p1) ++ (pic_Pile g a_due 160 res.2.1 res.2.2)) (va_A ((pic_Printer g a_t (a_due 0) t) ++ (pic_Query g a_p1 p1) ++ (pic_Pile g a_due 160 due dueL)) sz)) 0 0 (va_A ((pic_Printer g a_t (a_due 0) t) ++ (pic_Query g a_p1 p1) ++ (pic_Pile g a_due 160 due dueL)) sz) :=
  ct_w (Qc := fun A => EV g ((pic_Printer g a_t (a_due 0) res.1) ++ (pic_Query g a_p1 p1) ++ (pic_Pile g a_due 160 res.2.1 res.2.2)) A) (by decide) (Nat.le_of_ble_eq_true rfl) (fun p e s m args below meth c A hC => k_Printer_writeOperand hC t p1 due dueL x2 x3 res h)
def Printer_write_107 (F : Nat) (k36 : StI → StI → StI → StL → Int32 → Int32 → Option (Int32 × StI × StI × StL)) (t : StI) (p1 : StI) (due : StI) (dueL : StL) (x2 : Int32) (x3 : Int32) : Option (Int32 × StI × StI × StL) := k36 t p1 due dueL x2 (x3 + (1 : Int32))
def Printer_write_36 (F : Nat) : Nat → StI → StI → StI → StL → Int32 → Int32 → Option (Int32 × StI × StI × StL)
  | 0, _, _, _, _, _, _ => none
  | n + 1, t, p1, due, dueL, x2, x3 => if (916 : Int32) ≤ x3 then some ((t 1 0), t, due, dueL) else (Pile_isEmpty F 160 due dueL).bind fun r17 => if r17 = 0 then (Pile_pop F 160 due dueL).bind fun r19 => if r19.1.toInt32 < 0 then if r19.1.toInt32 = (-1 : Int32) then (Printer_put F t (41 : Int32)).bind fun r23 => Printer_write_107 F (Printer_write_36 F n) r23 p1 r19.2.1 r19.2.2 x2 x3 else (Printer_writeSign F t r19.1.toInt32).bind fun r22 => Printer_write_107 F (Printer_write_36 F n) r22 p1 r19.2.1 r19.2.2 x2 x3 else (Query_entryAt F p1 x2).bind fun r24 => (Printer_writeOperand F t p1 r19.2.1 r19.2.2 r24 r19.1.toInt32).bind fun r25 => Printer_write_107 F (Printer_write_36 F n) r25.1 p1 r25.2.1 r25.2.2 (x2 + (1 : Int32)) x3 else some ((t 1 0), t, due, dueL)
def Printer_write_34 (F : Nat) (t : StI) (p1 : StI) (due : StI) (dueL : StL) (x2 : Int32) : Option (Int32 × StI × StI × StL) := Printer_write_36 F F t p1 due dueL x2 (0 : Int32)
def Printer_write (F : Nat) (t : StI) (p1 : StI) (due : StI) (dueL : StL) : Option (Int32 × StI × StI × StL) := letS (va_up t 1 (fun _ => (0 : Int32))) fun t_26 => letS (va_up t_26 2 (fun _ => (0 : Int32))) fun t_27 => (Pile_clear F 160 due dueL).bind fun r28 => if (p1 13 0) ≤ 0 then Printer_write_34 F t_27 p1 r28.1 r28.2 (0 : Int32) else (Pile_push F 160 r28.1 r28.2 (0 : Int64)).bind fun r30 => Printer_write_34 F t_27 p1 r30.1 r30.2 (0 : Int32)
set_option maxHeartbeats 4000000 in
set_option maxRecDepth 100000 in
theorem k_Printer_write_107 {p : Program} {l : Launch} {e : Env} {s : State} {m : MethodId} {args : Array Value} {below : List Frame} {meth : Method} {c : Code} {g : Gz} {A : Nat → Prop} {F : Nat} {a_t a_p1 a_due : Nat → Nat} {k36 : StI → StI → StI → StL → Int32 → Int32 → Option (Int32 × StI × StI × StL)} (hC : Cx prog_4_method_3_code 5 (some .int) R_Printer p s m args meth c g A A) : ∀ (t : StI) (p1 : StI) (due : StI) (dueL : StL) (x2 : Int32) (x3 : Int32) (res : Int32 × StI × StI × StL), Printer_write_107 F k36 t p1 due dueL x2 x3 = some res → (∀ (t : StI) (p1 : StI) (due : StI) (dueL : StL) (x2 : Int32) (x3 : Int32), k36 t p1 due dueL x2 x3 = some res → Go p l e rm_Printer_write s m args below meth c g A A 5 (MQ below (EI g ((pic_Printer g a_t (a_due 0) res.2.1) ++ (pic_Query g a_p1 p1) ++ (pic_Pile g a_due 160 res.2.2.1 res.2.2.2)) res.1 A) args s 0 0 A) ((pic_Printer g a_t (a_due 0) t) ++ (pic_Query g a_p1 p1) ++ (pic_Pile g a_due 160 due dueL)) [(0, .ref (a_t 0)), (1, .ref (a_p1 0)), (2, .int x2), (3, .int x3)] 36 []) → Go p l e rm_Printer_write s m args below meth c g A A 5 (MQ below (EI g ((pic_Printer g a_t (a_due 0) res.2.1) ++ (pic_Query g a_p1 p1) ++ (pic_Pile g a_due 160 res.2.2.1 res.2.2.2)) res.1 A) args s 0 0 A) ((pic_Printer g a_t (a_due 0) t) ++ (pic_Query g a_p1 p1) ++ (pic_Pile g a_due 160 due dueL)) [(0, .ref (a_t 0)), (1, .ref (a_p1 0)), (2, .int x2), (3, .int x3)] 107 [] := by
  obtain ⟨hx, hb, hr, hml, hown, htb, hlocks, hA, hAA, hG⟩ := id hC
  have hK := hG.1
  intro t p1 due dueL x2 x3 res h hk36 H locs ls hP hD hS hl
  rw [Printer_write_107] at h
  refine lv_iinc (v := (x3 + (1 : Int32))) (lv' := [(3, .int (x3 + (1 : Int32))), (0, .ref (a_t 0)), (1, .ref (a_p1 0)), (2, .int x2)]) hx hb d_Printer_write_107 hl (k := 3) rfl rfl (by decide) rfl (fun ls hl => ?_)
  refine lv_goto (tgt := 36) hx hb d_Printer_write_110 (by decide) ?_
  exact hk36 _ _ _ _ _ _ h _ _ _ hP hD hS (lv_sub hl [1, 2, 3, 0] rfl)
set_option maxHeartbeats 4000000 in
set_option maxRecDepth 100000 in
theorem k_Printer_write_36 {p : Program} {l : Launch} {e : Env} {s : State} {m : MethodId} {args : Array Value} {below : List Frame} {meth : Method} {c : Code} {g : Gz} {A : Nat → Prop} {F : Nat} {a_t a_p1 a_due : Nat → Nat} (hC : Cx prog_4_method_3_code 5 (some .int) R_Printer p s m args meth c g A A) : ∀ (n : Nat) (t : StI) (p1 : StI) (due : StI) (dueL : StL) (x2 : Int32) (x3 : Int32) (res : Int32 × StI × StI × StL), Printer_write_36 F n t p1 due dueL x2 x3 = some res → Go p l e rm_Printer_write s m args below meth c g A A 5 (MQ below (EI g ((pic_Printer g a_t (a_due 0) res.2.1) ++ (pic_Query g a_p1 p1) ++ (pic_Pile g a_due 160 res.2.2.1 res.2.2.2)) res.1 A) args s 0 0 A) ((pic_Printer g a_t (a_due 0) t) ++ (pic_Query g a_p1 p1) ++ (pic_Pile g a_due 160 due dueL)) [(0, .ref (a_t 0)), (1, .ref (a_p1 0)), (2, .int x2), (3, .int x3)] 36 [] := by
  obtain ⟨hx, hb, hr, hml, hown, htb, hlocks, hA, hAA, hG⟩ := id hC
  have hK := hG.1
  intro n
  induction n with
  | zero => intro t p1 due dueL x2 x3 res h; rw [Printer_write_36] at h; cases h
  | succ n ih =>
    intro t p1 due dueL x2 x3 res h H locs ls hP hD hS hl
    rw [Printer_write_36] at h
    refine lv_iload_n hx hb d_Printer_write_36 rfl (lv_at hl 3 rfl) ?_
    refine lv_sipush (v := 916) hx hb d_Printer_write_37 (by decide) ?_
    refine lv_icmp_ge (tgt := 113) hx hb d_Printer_write_40 (by decide) (fun c16 => ?_) (fun c16 => ?_)
    · replace h := (if_pos c16).symm.trans h
      refine lv_aload_n hx hb d_Printer_write_113 rfl (lv_at hl 0 rfl) ?_
      refine va_get (D := gD g) (ci := 4) (v := .int (t 1 0)) (C := R_Printer) (T := T_Printer) (N := 4) hx hb htb in_Printer hown hK hP 0 rfl rfl 1 (by decide) (htb _ L_Printer_15) (fun _ h9 => h9) rfl d_Printer_write_114 ?_
      cases h
      exact W.iret hx hb hr (fun t ht hW => ⟨⟨_, (), rfl, rfl, by rw [ht]; exact hP, hD⟩, hS.F ht⟩) hS.2.2 d_Printer_write_117
    · replace h := (if_neg c16).symm.trans h
      refine lv_aload_n hx hb d_Printer_write_43 rfl (lv_at hl 0 rfl) ?_
      refine va_get (D := gD g) (ci := 4) (v := .ref (a_due 0)) (C := R_Printer) (T := T_Printer) (N := 4) hx hb htb in_Printer hown hK hP 0 rfl rfl 3 (by decide) (htb _ L_Printer_28) (fun _ h9 => h9) rfl d_Printer_write_44 ?_
      obtain ⟨r17, hr17, h⟩ := Option.bind_eq_some_iff.mp h
      refine cl_Ir hP hS hA (va_runV (As := []) (rest := []) ⟨hx, hb, hml, hown, htb⟩ (c_Pile_isEmpty l g F a_due 160 due dueL _ hr17 H.size) (cw_V htb mb_Pile_isEmpty (htb _ L_Printer_44) rfl rfl ⟨Nat.le_of_ble_eq_true rfl, Nat.le_of_ble_eq_true rfl⟩) (pre_V (va_recv hK hP (ci := 0) (q0 := 13) rfl rfl) (pre_S [13, 14] rfl rfl hP hD hS hA hAA hG)) rfl rfl hl.1 rfl (lv_room (Nat.le_of_ble_eq_true rfl)) d_Printer_write_47 ⟨Nat.zero_le _, Nat.zero_le _⟩) (fun H locs hP hS => ?_)
      refine lv_if_ne (tgt := 113) hx hb d_Printer_write_50 (by decide) (fun c18 => ?_) (fun c18 => ?_)
      · replace h := (if_neg c18).symm.trans h
        refine lv_aload_n hx hb d_Printer_write_113 rfl (lv_at hl 0 rfl) ?_
        refine va_get (D := gD g) (ci := 4) (v := .int (t 1 0)) (C := R_Printer) (T := T_Printer) (N := 4) hx hb htb in_Printer hown hK hP 0 rfl rfl 1 (by decide) (htb _ L_Printer_15) (fun _ h9 => h9) rfl d_Printer_write_114 ?_
        cases h
        exact W.iret hx hb hr (fun t ht hW => ⟨⟨_, (), rfl, rfl, by rw [ht]; exact hP, hD⟩, hS.F ht⟩) hS.2.2 d_Printer_write_117
      · replace h := (if_pos c18).symm.trans h
        refine lv_aload_n hx hb d_Printer_write_53 rfl (lv_at hl 0 rfl) ?_
        refine va_get (D := gD g) (ci := 4) (v := .ref (a_due 0)) (C := R_Printer) (T := T_Printer) (N := 4) hx hb htb in_Printer hown hK hP 0 rfl rfl 3 (by decide) (htb _ L_Printer_28) (fun _ h9 => h9) rfl d_Printer_write_54 ?_
        obtain ⟨r19, hr19, h⟩ := Option.bind_eq_some_iff.mp h
        refine cl_L (wr := (pic_Printer g a_t (a_due 0) t) ++ (pic_Query g a_p1 p1)) [13, 14] [0, 1, 2, 3, 4, 5, 6, 7, 8, 9, 10, 11, 12] rfl rfl rfl (by decide) hP hD hS hA (va_runV (As := []) (rest := []) ⟨hx, hb, hml, hown, htb⟩ (c_Pile_pop l g F a_due 160 due dueL _ hr19 H.size) (cw_V htb mb_Pile_pop (htb _ L_Printer_48) rfl rfl ⟨Nat.le_of_ble_eq_true rfl, Nat.le_of_ble_eq_true rfl⟩) (pre_V (va_recv hK hP (ci := 0) (q0 := 13) rfl rfl) (pre_S [13, 14] rfl rfl hP hD hS hA hAA hG)) rfl rfl hl.1 rfl (lv_room (Nat.le_of_ble_eq_true rfl)) d_Printer_write_57 ⟨Nat.zero_le _, Nat.zero_le _⟩) (fun H locs hP hD hS => ?_)
        have hP : va_P (gD g) vwCl ((pic_Printer g a_t (a_due 0) t) ++ (pic_Query g a_p1 p1) ++ (pic_Pile g a_due 160 r19.2.1 r19.2.2)) H := hP.sub [0, 1, 2, 3, 4, 5, 6, 7, 8, 9, 10, 11, 12, 13, 14] rfl
        have hD : va_D A ((pic_Printer g a_t (a_due 0) t) ++ (pic_Query g a_p1 p1) ++ (pic_Pile g a_due 160 r19.2.1 r19.2.2)) := hD.sub [0, 1, 2, 3, 4, 5, 6, 7, 8, 9, 10, 11, 12, 13, 14] rfl rfl
        refine lv_l2i hx hb d_Printer_write_60 rfl ?_
        refine lv_istore (lv' := [(4, .int r19.1.toInt32), (0, .ref (a_t 0)), (1, .ref (a_p1 0)), (2, .int x2), (3, .int x3)]) hx hb d_Printer_write_61 hl (by decide) rfl (fun ls hl => ?_)
        refine lv_iload hx hb d_Printer_write_63 (lv_at hl 0 rfl) ?_
        refine lv_if_lt (tgt := 86) hx hb d_Printer_write_65 (by decide) (fun c20 => ?_) (fun c20 => ?_)
        · replace h := (if_pos c20).symm.trans h
          refine lv_iload hx hb d_Printer_write_86 (lv_at hl 0 rfl) ?_
          refine lv_iconst (v := -1) hx hb d_Printer_write_88 (by decide) ?_
          refine lv_icmp_ne (tgt := 101) hx hb d_Printer_write_89 (by decide) (fun c21 => ?_) (fun c21 => ?_)
          · replace h := (if_neg c21).symm.trans h
            refine lv_aload_n hx hb d_Printer_write_101 rfl (lv_at hl 1 rfl) ?_
            refine lv_iload hx hb d_Printer_write_102 (lv_at hl 0 rfl) ?_
            obtain ⟨r22, hr22, h⟩ := Option.bind_eq_some_iff.mp h
            refine cl_V (wr := (pic_Query g a_p1 p1) ++ (pic_Pile g a_due 160 r19.2.1 r19.2.2)) [0, 1] [2, 3, 4, 5, 6, 7, 8, 9, 10, 11, 12, 13, 14] rfl rfl rfl (by decide) hP hD hS hA (va_runV (As := [.int r19.1.toInt32]) (rest := []) ⟨hx, hb, hml, hown, htb⟩ (c_Printer_writeSign l g F a_t (a_due 0) t r19.1.toInt32 _ hr22 H.size) (cw_V htb mb_Printer_writeSign (htb _ L_Printer_63) rfl rfl ⟨Nat.le_of_ble_eq_true rfl, Nat.le_of_ble_eq_true rfl⟩) (pre_V (va_recv hK hP (ci := 4) (q0 := 0) rfl rfl) (pre_S [0, 1] rfl rfl hP hD hS hA hAA hG)) rfl rfl hl.1 rfl (lv_room (Nat.le_of_ble_eq_true rfl)) d_Printer_write_104 ⟨Nat.zero_le _, Nat.zero_le _⟩) (fun H locs hP hD hS => ?_)
            have hP : va_P (gD g) vwCl ((pic_Printer g a_t (a_due 0) r22) ++ (pic_Query g a_p1 p1) ++ (pic_Pile g a_due 160 r19.2.1 r19.2.2)) H := hP.sub [13, 14, 0, 1, 2, 3, 4, 5, 6, 7, 8, 9, 10, 11, 12] rfl
            have hD : va_D A ((pic_Printer g a_t (a_due 0) r22) ++ (pic_Query g a_p1 p1) ++ (pic_Pile g a_due 160 r19.2.1 r19.2.2)) := hD.sub [13, 14, 0, 1, 2, 3, 4, 5, 6, 7, 8, 9, 10, 11, 12] rfl rfl
            exact k_Printer_write_107 hC _ _ _ _ _ _ _ h (fun z0 z1 z2 z3 z4 z5 hz => ih z0 z1 z2 z3 z4 z5 _ hz) _ _ _ hP hD hS (lv_sub hl [1, 2, 3, 4] rfl)
          · replace h := (if_pos c21).symm.trans h
            refine lv_aload_n hx hb d_Printer_write_92 rfl (lv_at hl 1 rfl) ?_
            refine lv_bipush (v := 41) hx hb d_Printer_write_93 (by decide) ?_
            obtain ⟨r23, hr23, h⟩ := Option.bind_eq_some_iff.mp h
            refine cl_V (wr := (pic_Query g a_p1 p1) ++ (pic_Pile g a_due 160 r19.2.1 r19.2.2)) [0, 1] [2, 3, 4, 5, 6, 7, 8, 9, 10, 11, 12, 13, 14] rfl rfl rfl (by decide) hP hD hS hA (va_runV (As := [.int (41 : Int32)]) (rest := []) ⟨hx, hb, hml, hown, htb⟩ (c_Printer_put l g F a_t (a_due 0) t (41 : Int32) _ hr23 H.size) (cw_V htb mb_Printer_put (htb _ L_Printer_60) rfl rfl ⟨Nat.le_of_ble_eq_true rfl, Nat.le_of_ble_eq_true rfl⟩) (pre_V (va_recv hK hP (ci := 4) (q0 := 0) rfl rfl) (pre_S [0, 1] rfl rfl hP hD hS hA hAA hG)) rfl rfl hl.1 rfl (lv_room (Nat.le_of_ble_eq_true rfl)) d_Printer_write_95 ⟨Nat.zero_le _, Nat.zero_le _⟩) (fun H locs hP hD hS => ?_)
            have hP : va_P (gD g) vwCl ((pic_Printer g a_t (a_due 0) r23) ++ (pic_Query g a_p1 p1) ++ (pic_Pile g a_due 160 r19.2.1 r19.2.2)) H := hP.sub [13, 14, 0, 1, 2, 3, 4, 5, 6, 7, 8, 9, 10, 11, 12] rfl
            have hD : va_D A ((pic_Printer g a_t (a_due 0) r23) ++ (pic_Query g a_p1 p1) ++ (pic_Pile g a_due 160 r19.2.1 r19.2.2)) := hD.sub [13, 14, 0, 1, 2, 3, 4, 5, 6, 7, 8, 9, 10, 11, 12] rfl rfl
            refine lv_goto (tgt := 107) hx hb d_Printer_write_98 (by decide) ?_
            exact k_Printer_write_107 hC _ _ _ _ _ _ _ h (fun z0 z1 z2 z3 z4 z5 hz => ih z0 z1 z2 z3 z4 z5 _ hz) _ _ _ hP hD hS (lv_sub hl [1, 2, 3, 4] rfl)
        · replace h := (if_neg c20).symm.trans h
          refine lv_aload_n hx hb d_Printer_write_68 rfl (lv_at hl 1 rfl) ?_
          refine lv_aload_n hx hb d_Printer_write_69 rfl (lv_at hl 2 rfl) ?_
          refine lv_aload_n hx hb d_Printer_write_70 rfl (lv_at hl 2 rfl) ?_
          refine lv_iload_n hx hb d_Printer_write_71 rfl (lv_at hl 3 rfl) ?_
          obtain ⟨r24, hr24, h⟩ := Option.bind_eq_some_iff.mp h
          refine cl_Ir hP hS hA (va_runV (As := [.int x2]) (rest := [.ref (a_p1 0), .ref (a_t 0)]) ⟨hx, hb, hml, hown, htb⟩ (c_Query_entryAt l g F a_p1 p1 x2 _ hr24 H.size) (cw_V htb mb_Query_entryAt (htb _ L_Printer_52) rfl rfl ⟨Nat.le_of_ble_eq_true rfl, Nat.le_of_ble_eq_true rfl⟩) (pre_V (va_recv hK hP (ci := 1) (q0 := 2) rfl rfl) (pre_S [2, 3, 4, 5, 6, 7, 8, 9, 10, 11, 12] rfl rfl hP hD hS hA hAA hG)) rfl rfl hl.1 rfl (lv_room (Nat.le_of_ble_eq_true rfl)) d_Printer_write_72 ⟨Nat.zero_le _, Nat.zero_le _⟩) (fun H locs hP hS => ?_)
          refine lv_iload hx hb d_Printer_write_75 (lv_at hl 0 rfl) ?_
          obtain ⟨r25, hr25, h⟩ := Option.bind_eq_some_iff.mp h
          refine cl_V (wr := []) [0, 1, 2, 3, 4, 5, 6, 7, 8, 9, 10, 11, 12, 13, 14] [] rfl rfl rfl (by decide) hP hD hS hA (va_runV (As := [.ref (a_p1 0), .int r24, .int r19.1.toInt32]) (rest := []) ⟨hx, hb, hml, hown, htb⟩ (c_Printer_writeOperand l g F a_t a_p1 a_due t p1 r19.2.1 r19.2.2 r24 r19.1.toInt32 _ hr25 H.size) (cw_V htb mb_Printer_writeOperand (htb _ L_Printer_56) rfl rfl ⟨Nat.le_of_ble_eq_true rfl, Nat.le_of_ble_eq_true rfl⟩) (pre_V (va_recv hK hP (ci := 4) (q0 := 0) rfl rfl) (pre_S [0, 1, 2, 3, 4, 5, 6, 7, 8, 9, 10, 11, 12, 13, 14] rfl rfl hP hD hS hA hAA hG)) rfl rfl hl.1 rfl (lv_room (Nat.le_of_ble_eq_true rfl)) d_Printer_write_77 ⟨Nat.zero_le _, Nat.zero_le _⟩) (fun H locs hP hD hS => ?_)
          have hP : va_P (gD g) vwCl ((pic_Printer g a_t (a_due 0) r25.1) ++ (pic_Query g a_p1 p1) ++ (pic_Pile g a_due 160 r25.2.1 r25.2.2)) H := hP.sub [0, 1, 2, 3, 4, 5, 6, 7, 8, 9, 10, 11, 12, 13, 14] rfl
          have hD : va_D A ((pic_Printer g a_t (a_due 0) r25.1) ++ (pic_Query g a_p1 p1) ++ (pic_Pile g a_due 160 r25.2.1 r25.2.2)) := hD.sub [0, 1, 2, 3, 4, 5, 6, 7, 8, 9, 10, 11, 12, 13, 14] rfl rfl
          refine lv_iinc (v := (x2 + (1 : Int32))) (lv' := [(2, .int (x2 + (1 : Int32))), (4, .int r19.1.toInt32), (0, .ref (a_t 0)), (1, .ref (a_p1 0)), (3, .int x3)]) hx hb d_Printer_write_80 hl (k := 3) rfl rfl (by decide) rfl (fun ls hl => ?_)
          refine lv_goto (tgt := 107) hx hb d_Printer_write_83 (by decide) ?_
          exact k_Printer_write_107 hC _ _ _ _ _ _ _ h (fun z0 z1 z2 z3 z4 z5 hz => ih z0 z1 z2 z3 z4 z5 _ hz) _ _ _ hP hD hS (lv_sub hl [2, 3, 0, 4] rfl)
set_option maxHeartbeats 4000000 in
set_option maxRecDepth 100000 in
theorem k_Printer_write_34 {p : Program} {l : Launch} {e : Env} {s : State} {m : MethodId} {args : Array Value} {below : List Frame} {meth : Method} {c : Code} {g : Gz} {A : Nat → Prop} {F : Nat} {a_t a_p1 a_due : Nat → Nat} (hC : Cx prog_4_method_3_code 5 (some .int) R_Printer p s m args meth c g A A) : ∀ (t : StI) (p1 : StI) (due : StI) (dueL : StL) (x2 : Int32) (res : Int32 × StI × StI × StL), Printer_write_34 F t p1 due dueL x2 = some res → Go p l e rm_Printer_write s m args below meth c g A A 5 (MQ below (EI g ((pic_Printer g a_t (a_due 0) res.2.1) ++ (pic_Query g a_p1 p1) ++ (pic_Pile g a_due 160 res.2.2.1 res.2.2.2)) res.1 A) args s 0 0 A) ((pic_Printer g a_t (a_due 0) t) ++ (pic_Query g a_p1 p1) ++ (pic_Pile g a_due 160 due dueL)) [(0, .ref (a_t 0)), (1, .ref (a_p1 0)), (2, .int x2)] 34 [] := by
  obtain ⟨hx, hb, hr, hml, hown, htb, hlocks, hA, hAA, hG⟩ := id hC
  have hK := hG.1
  intro t p1 due dueL x2 res h H locs ls hP hD hS hl
  rw [Printer_write_34] at h
  refine lv_iconst (v := 0) hx hb d_Printer_write_34 (by decide) ?_
  refine lv_istore_n (lv' := [(3, .int (0 : Int32)), (0, .ref (a_t 0)), (1, .ref (a_p1 0)), (2, .int x2)]) hx hb d_Printer_write_35 rfl hl (by decide) rfl (fun ls hl => ?_)
  exact k_Printer_write_36 hC F _ _ _ _ _ _ _ h _ _ _ hP hD hS (lv_sub hl [1, 2, 3, 0] rfl)
set_option maxHeartbeats 4000000 in
set_option maxRecDepth 100000 in
theorem k_Printer_write {p : Program} {l : Launch} {e : Env} {s : State} {m : MethodId} {args : Array Value} {below : List Frame} {meth : Method} {c : Code} {g : Gz} {A : Nat → Prop} {F : Nat} {a_t a_p1 a_due : Nat → Nat} (hC : Cx prog_4_method_3_code 5 (some .int) R_Printer p s m args meth c g A A) : ∀ (t : StI) (p1 : StI) (due : StI) (dueL : StL) (res : Int32 × StI × StI × StL), Printer_write F t p1 due dueL = some res → Go p l e rm_Printer_write s m args below meth c g A A 5 (MQ below (EI g ((pic_Printer g a_t (a_due 0) res.2.1) ++ (pic_Query g a_p1 p1) ++ (pic_Pile g a_due 160 res.2.2.1 res.2.2.2)) res.1 A) args s 0 0 A) ((pic_Printer g a_t (a_due 0) t) ++ (pic_Query g a_p1 p1) ++ (pic_Pile g a_due 160 due dueL)) [(0, .ref (a_t 0)), (1, .ref (a_p1 0))] 0 [] := by
  obtain ⟨hx, hb, hr, hml, hown, htb, hlocks, hA, hAA, hG⟩ := id hC
  have hK := hG.1
  intro t p1 due dueL res h H locs ls hP hD hS hl
  rw [Printer_write] at h
  refine lv_aload_n hx hb d_Printer_write_0 rfl (lv_at hl 0 rfl) ?_
  refine lv_iconst (v := 0) hx hb d_Printer_write_1 (by decide) ?_
  refine va_put (D := gD g) (ci := 4) (v := .int (0 : Int32)) (ty := .int) (C := R_Printer) (T := T_Printer) (N := 4) hx hb htb in_Printer ty_Printer ty_Printer_ok nm_Printer hown hK hP hD hS 0 rfl rfl 1 (by decide) (htb _ L_Printer_15) (fun _ h9 => h9) rfl (by decide +kernel) rfl rfl (Nat.le_of_ble_eq_true rfl) d_Printer_write_2 (fun H locs hP hD hS => ?_)
  obtain ⟨t_26, et_26, h⟩ := letS_el h
  have hP : va_P (gD g) vwCl ((pic_Printer g a_t (a_due 0) t_26) ++ (pic_Query g a_p1 p1) ++ (pic_Pile g a_due 160 due dueL)) H := by rw [et_26]; exact hP
  have hD : va_D A ((pic_Printer g a_t (a_due 0) t_26) ++ (pic_Query g a_p1 p1) ++ (pic_Pile g a_due 160 due dueL)) := by rw [et_26]; exact hD
  refine lv_aload_n hx hb d_Printer_write_5 rfl (lv_at hl 0 rfl) ?_
  refine lv_iconst (v := 0) hx hb d_Printer_write_6 (by decide) ?_
  refine va_put (D := gD g) (ci := 4) (v := .int (0 : Int32)) (ty := .boolean) (C := R_Printer) (T := T_Printer) (N := 4) hx hb htb in_Printer ty_Printer ty_Printer_ok nm_Printer hown hK hP hD hS 0 rfl rfl 2 (by decide) (htb _ L_Printer_19) (fun _ h9 => h9) rfl (by decide +kernel) rfl rfl (Nat.le_of_ble_eq_true rfl) d_Printer_write_7 (fun H locs hP hD hS => ?_)
  obtain ⟨t_27, et_27, h⟩ := letS_el h
  have hP : va_P (gD g) vwCl ((pic_Printer g a_t (a_due 0) t_27) ++ (pic_Query g a_p1 p1) ++ (pic_Pile g a_due 160 due dueL)) H := by rw [et_27]; exact hP
  have hD : va_D A ((pic_Printer g a_t (a_due 0) t_27) ++ (pic_Query g a_p1 p1) ++ (pic_Pile g a_due 160 due dueL)) := by rw [et_27]; exact hD
  refine lv_aload_n hx hb d_Printer_write_10 rfl (lv_at hl 0 rfl) ?_
  refine va_get (D := gD g) (ci := 4) (v := .ref (a_due 0)) (C := R_Printer) (T := T_Printer) (N := 4) hx hb htb in_Printer hown hK hP 0 rfl rfl 3 (by decide) (htb _ L_Printer_28) (fun _ h9 => h9) rfl d_Printer_write_11 ?_
  obtain ⟨r28, hr28, h⟩ := Option.bind_eq_some_iff.mp h
  refine cl_V (wr := (pic_Printer g a_t (a_due 0) t_27) ++ (pic_Query g a_p1 p1)) [13, 14] [0, 1, 2, 3, 4, 5, 6, 7, 8, 9, 10, 11, 12] rfl rfl rfl (by decide) hP hD hS hA (va_runV (As := []) (rest := []) ⟨hx, hb, hml, hown, htb⟩ (c_Pile_clear l g F a_due 160 due dueL _ hr28 H.size) (cw_V htb mb_Pile_clear (htb _ L_Printer_32) rfl rfl ⟨Nat.le_of_ble_eq_true rfl, Nat.le_of_ble_eq_true rfl⟩) (pre_V (va_recv hK hP (ci := 0) (q0 := 13) rfl rfl) (pre_S [13, 14] rfl rfl hP hD hS hA hAA hG)) rfl rfl hl.1 rfl (lv_room (Nat.le_of_ble_eq_true rfl)) d_Printer_write_14 ⟨Nat.zero_le _, Nat.zero_le _⟩) (fun H locs hP hD hS => ?_)
  have hP : va_P (gD g) vwCl ((pic_Printer g a_t (a_due 0) t_27) ++ (pic_Query g a_p1 p1) ++ (pic_Pile g a_due 160 r28.1 r28.2)) H := hP.sub [0, 1, 2, 3, 4, 5, 6, 7, 8, 9, 10, 11, 12, 13, 14] rfl
  have hD : va_D A ((pic_Printer g a_t (a_due 0) t_27) ++ (pic_Query g a_p1 p1) ++ (pic_Pile g a_due 160 r28.1 r28.2)) := hD.sub [0, 1, 2, 3, 4, 5, 6, 7, 8, 9, 10, 11, 12, 13, 14] rfl rfl
  refine lv_iconst (v := 0) hx hb d_Printer_write_17 (by decide) ?_
  refine lv_istore_n (lv' := [(2, .int (0 : Int32)), (0, .ref (a_t 0)), (1, .ref (a_p1 0))]) hx hb d_Printer_write_18 rfl hl (by decide) rfl (fun ls hl => ?_)
  refine lv_aload_n hx hb d_Printer_write_19 rfl (lv_at hl 2 rfl) ?_
  refine va_getN (D := gD g) (ci := 1) (v := .int (p1 13 0)) (C := R_Query) (T := T_Query) (N := 14) hx hb htb in_Query hown hK hP 2 rfl rfl 13 (by decide) (nf_of hG N_Printer_35) (fun _ h9 => h9) rfl d_Printer_write_20 ?_
  refine lv_if_le (tgt := 34) hx hb d_Printer_write_23 (by decide) (fun c29 => ?_) (fun c29 => ?_)
  · replace h := (if_pos c29).symm.trans h
    exact k_Printer_write_34 hC _ _ _ _ _ _ h _ _ _ hP hD hS (lv_sub hl [1, 2, 0] rfl)
  · replace h := (if_neg c29).symm.trans h
    refine lv_aload_n hx hb d_Printer_write_26 rfl (lv_at hl 1 rfl) ?_
    refine va_get (D := gD g) (ci := 4) (v := .ref (a_due 0)) (C := R_Printer) (T := T_Printer) (N := 4) hx hb htb in_Printer hown hK hP 0 rfl rfl 3 (by decide) (htb _ L_Printer_28) (fun _ h9 => h9) rfl d_Printer_write_27 ?_
    refine lv_lconst (v := 0) hx hb d_Printer_write_30 (by decide) ?_
    obtain ⟨r30, hr30, h⟩ := Option.bind_eq_some_iff.mp h
    refine cl_V (wr := (pic_Printer g a_t (a_due 0) t_27) ++ (pic_Query g a_p1 p1)) [13, 14] [0, 1, 2, 3, 4, 5, 6, 7, 8, 9, 10, 11, 12] rfl rfl rfl (by decide) hP hD hS hA (va_runV (As := [.long (0 : Int64)]) (rest := []) ⟨hx, hb, hml, hown, htb⟩ (c_Pile_push l g F a_due 160 r28.1 r28.2 (0 : Int64) _ hr30 H.size) (cw_V htb mb_Pile_push (htb _ L_Printer_40) rfl rfl ⟨Nat.le_of_ble_eq_true rfl, Nat.le_of_ble_eq_true rfl⟩) (pre_V (va_recv hK hP (ci := 0) (q0 := 13) rfl rfl) (pre_S [13, 14] rfl rfl hP hD hS hA hAA hG)) rfl rfl hl.1 rfl (lv_room (Nat.le_of_ble_eq_true rfl)) d_Printer_write_31 ⟨Nat.zero_le _, Nat.zero_le _⟩) (fun H locs hP hD hS => ?_)
    have hP : va_P (gD g) vwCl ((pic_Printer g a_t (a_due 0) t_27) ++ (pic_Query g a_p1 p1) ++ (pic_Pile g a_due 160 r30.1 r30.2)) H := hP.sub [0, 1, 2, 3, 4, 5, 6, 7, 8, 9, 10, 11, 12, 13, 14] rfl
    have hD : va_D A ((pic_Printer g a_t (a_due 0) t_27) ++ (pic_Query g a_p1 p1) ++ (pic_Pile g a_due 160 r30.1 r30.2)) := hD.sub [0, 1, 2, 3, 4, 5, 6, 7, 8, 9, 10, 11, 12, 13, 14] rfl rfl
    exact k_Printer_write_34 hC _ _ _ _ _ _ h _ _ _ hP hD hS (lv_sub hl [1, 2, 0] rfl)
theorem c_Printer_write (l : Launch) (g : Gz) (F : Nat) (a_t : Nat → Nat) (a_p1 : Nat → Nat) (a_due : Nat → Nat) (t : StI) (p1 : StI) (due : StI) (dueL : StL) (res : Int32 × StI × StI × StL) (h : Printer_write F t p1 due dueL = some res) : ∀ sz : Nat, Met l y_Printer_write (.code y_Printer_write prog_4_method_3_code 5 (some .int) :: TBL) rm_Printer_write (va_Pc [.ref (a_t 0), .ref (a_p1 0)] (Pre0 g ((pic_Printer g a_t (a_due 0) t) ++ (pic_Query g a_p1 p1) ++ (pic_Pile g a_due 160 due dueL)) sz)) (EI g ((pic_Printer g a_t (a_due 0) res.2.1) ++ (pic_Query g a_p1 p1) ++ (pic_Pile g a_due 160 res.2.2.1 res.2.2.2)) res.1 (va_A ((pic_Printer g a_t (a_due 0) t) ++ (pic_Query g a_p1 p1) ++ (pic_Pile g a_due 160 due dueL)) sz)) 0 0 (va_A ((pic_Printer g a_t (a_due 0) t) ++ (pic_Query g a_p1 p1) ++ (pic_Pile g a_due 160 due dueL)) sz) :=
  ct_w (Qc := fun A => EI g ((pic_Printer g a_t (a_due 0) res.2.1) ++ (pic_Query g a_p1 p1) ++ (pic_Pile g a_due 160 res.2.2.1 res.2.2.2)) res.1 A) (by decide) (Nat.le_of_ble_eq_true rfl) (fun p e s m args below meth c A hC => k_Printer_write hC t p1 due dueL res h)
