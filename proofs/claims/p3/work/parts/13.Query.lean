theorem L_Query_22 : (Jvm.Cond.fieldLink "MailQueries$Query" (22 : Nat) "MailQueries$Query" "different" "I") ∈ TBL := TBL_in (List.mem_of_getElem? (i := 141) (by decide +kernel)) (by decide +kernel)
set_option maxRecDepth 100000 in
theorem W_Query_has_code : (Jvm.Cond.code ({ cls := "MailQueries$Query", name := "has", desc := "(I)Z" } : Jvm.MethodName) prog_5_method_3_code (2 : Nat) (Option.some Jvm.ClassFile.FieldType.boolean)) ∈ TBL := TBL_in (List.mem_of_getElem? (i := 397) rfl) rfl
theorem I_Query : (Jvm.Cond.initialized "MailQueries$Query") ∈ TBL := TBL_in (List.mem_of_getElem? (i := 102) (by decide +kernel)) (by decide +kernel)
theorem W_Query_has_in : (Jvm.Cond.instanceMethod ({ cls := "MailQueries$Query", name := "has", desc := "(I)Z" } : Jvm.MethodName)) ∈ TBL := TBL_in (List.mem_of_getElem? (i := 395) (by decide +kernel)) (by decide +kernel)
theorem W_Query_has_se : (Jvm.Cond.selects "MailQueries$Query" ({ cls := "MailQueries$Query", name := "has", desc := "(I)Z" } : Jvm.MethodName) ({ cls := "MailQueries$Query", name := "has", desc := "(I)Z" } : Jvm.MethodName)) ∈ TBL := TBL_in (List.mem_of_getElem? (i := 396) (by decide +kernel)) (by decide +kernel)
theorem L_Query_19 : (Jvm.Cond.fieldLink "MailQueries$Query" (19 : Nat) "MailQueries$Query" "taken" "I") ∈ TBL := TBL_in (List.mem_of_getElem? (i := 140) (by decide +kernel)) (by decide +kernel)
set_option maxRecDepth 100000 in
theorem W_Query_isFull_code : (Jvm.Cond.code ({ cls := "MailQueries$Query", name := "isFull", desc := "()Z" } : Jvm.MethodName) prog_5_method_4_code (1 : Nat) (Option.some Jvm.ClassFile.FieldType.boolean)) ∈ TBL := TBL_in (List.mem_of_getElem? (i := 776) rfl) rfl
theorem W_Query_isFull_in : (Jvm.Cond.instanceMethod ({ cls := "MailQueries$Query", name := "isFull", desc := "()Z" } : Jvm.MethodName)) ∈ TBL := TBL_in (List.mem_of_getElem? (i := 774) (by decide +kernel)) (by decide +kernel)
theorem W_Query_isFull_se : (Jvm.Cond.selects "MailQueries$Query" ({ cls := "MailQueries$Query", name := "isFull", desc := "()Z" } : Jvm.MethodName) ({ cls := "MailQueries$Query", name := "isFull", desc := "()Z" } : Jvm.MethodName)) ∈ TBL := TBL_in (List.mem_of_getElem? (i := 775) (by decide +kernel)) (by decide +kernel)
theorem L_Query_15 : (Jvm.Cond.fieldLink "MailQueries$Query" (15 : Nat) "MailQueries$Query" "length" "I") ∈ TBL := TBL_in (List.mem_of_getElem? (i := 137) (by decide +kernel)) (by decide +kernel)
theorem L_Query_9 : (Jvm.Cond.fieldLink "MailQueries$Query" (9 : Nat) "MailQueries$Query" "text" "[C") ∈ TBL := TBL_in (List.mem_of_getElem? (i := 135) (by decide +kernel)) (by decide +kernel)
set_option maxRecDepth 100000 in
theorem W_Query_byteAt_code : (Jvm.Cond.code ({ cls := "MailQueries$Query", name := "byteAt", desc := "(I)I" } : Jvm.MethodName) prog_5_method_5_code (2 : Nat) (Option.some Jvm.ClassFile.FieldType.int)) ∈ TBL := TBL_in (List.mem_of_getElem? (i := 405) rfl) rfl
theorem W_Query_byteAt_in : (Jvm.Cond.instanceMethod ({ cls := "MailQueries$Query", name := "byteAt", desc := "(I)I" } : Jvm.MethodName)) ∈ TBL := TBL_in (List.mem_of_getElem? (i := 403) (by decide +kernel)) (by decide +kernel)
theorem W_Query_byteAt_se : (Jvm.Cond.selects "MailQueries$Query" ({ cls := "MailQueries$Query", name := "byteAt", desc := "(I)I" } : Jvm.MethodName) ({ cls := "MailQueries$Query", name := "byteAt", desc := "(I)I" } : Jvm.MethodName)) ∈ TBL := TBL_in (List.mem_of_getElem? (i := 404) (by decide +kernel)) (by decide +kernel)
theorem L_Query_54 : (Jvm.Cond.fieldLink "MailQueries$Query" (54 : Nat) "MailQueries$Query" "treeSize" "I") ∈ TBL := TBL_in (List.mem_of_getElem? (i := 165) (by decide +kernel)) (by decide +kernel)
theorem L_Query_51 : (Jvm.Cond.fieldLink "MailQueries$Query" (51 : Nat) "MailQueries$Query" "entries" "[I") ∈ TBL := TBL_in (List.mem_of_getElem? (i := 164) (by decide +kernel)) (by decide +kernel)
set_option maxRecDepth 100000 in
theorem W_Query_entryAt_code : (Jvm.Cond.code ({ cls := "MailQueries$Query", name := "entryAt", desc := "(I)I" } : Jvm.MethodName) prog_5_method_6_code (2 : Nat) (Option.some Jvm.ClassFile.FieldType.int)) ∈ TBL := TBL_in (List.mem_of_getElem? (i := 417) rfl) rfl
theorem W_Query_entryAt_in : (Jvm.Cond.instanceMethod ({ cls := "MailQueries$Query", name := "entryAt", desc := "(I)I" } : Jvm.MethodName)) ∈ TBL := TBL_in (List.mem_of_getElem? (i := 415) (by decide +kernel)) (by decide +kernel)
theorem W_Query_entryAt_se : (Jvm.Cond.selects "MailQueries$Query" ({ cls := "MailQueries$Query", name := "entryAt", desc := "(I)I" } : Jvm.MethodName) ({ cls := "MailQueries$Query", name := "entryAt", desc := "(I)I" } : Jvm.MethodName)) ∈ TBL := TBL_in (List.mem_of_getElem? (i := 416) (by decide +kernel)) (by decide +kernel)
theorem L_Query_72 : (Jvm.Cond.methodLink "MailQueries$Query" (72 : Nat) ({ cls := "MailQueries$Query", name := "byteAt", desc := "(I)I" } : Jvm.MethodName)) ∈ TBL := TBL_in (List.mem_of_getElem? (i := 763) (by decide +kernel)) (by decide +kernel)
set_option maxRecDepth 100000 in
theorem W_Query_find_code : (Jvm.Cond.code ({ cls := "MailQueries$Query", name := "find", desc := "(III)I" } : Jvm.MethodName) prog_5_method_7_code (5 : Nat) (Option.some Jvm.ClassFile.FieldType.int)) ∈ TBL := TBL_in (List.mem_of_getElem? (i := 780) rfl) rfl
theorem W_Query_find_in : (Jvm.Cond.instanceMethod ({ cls := "MailQueries$Query", name := "find", desc := "(III)I" } : Jvm.MethodName)) ∈ TBL := TBL_in (List.mem_of_getElem? (i := 778) (by decide +kernel)) (by decide +kernel)
theorem W_Query_find_se : (Jvm.Cond.selects "MailQueries$Query" ({ cls := "MailQueries$Query", name := "find", desc := "(III)I" } : Jvm.MethodName) ({ cls := "MailQueries$Query", name := "find", desc := "(III)I" } : Jvm.MethodName)) ∈ TBL := TBL_in (List.mem_of_getElem? (i := 779) (by decide +kernel)) (by decide +kernel)
theorem L_Query_76 : (Jvm.Cond.methodLink "MailQueries$Query" (76 : Nat) ({ cls := "java/lang/String", name := "length", desc := "()I" } : Jvm.MethodName)) ∈ TBL := TBL_in (List.mem_of_getElem? (i := 762) (by decide +kernel)) (by decide +kernel)
theorem L_Query_81 : (Jvm.Cond.methodLink "MailQueries$Query" (81 : Nat) ({ cls := "java/lang/String", name := "charAt", desc := "(I)C" } : Jvm.MethodName)) ∈ TBL := TBL_in (List.mem_of_getElem? (i := 764) (by decide +kernel)) (by decide +kernel)
set_option maxRecDepth 100000 in
theorem W_Query_says_code : (Jvm.Cond.code ({ cls := "MailQueries$Query", name := "says", desc := "(IILjava/lang/String;)Z" } : Jvm.MethodName) prog_5_method_8_code (5 : Nat) (Option.some Jvm.ClassFile.FieldType.boolean)) ∈ TBL := TBL_in (List.mem_of_getElem? (i := 761) rfl) rfl
theorem W_Query_says_in : (Jvm.Cond.instanceMethod ({ cls := "MailQueries$Query", name := "says", desc := "(IILjava/lang/String;)Z" } : Jvm.MethodName)) ∈ TBL := TBL_in (List.mem_of_getElem? (i := 759) (by decide +kernel)) (by decide +kernel)
theorem W_Query_says_se : (Jvm.Cond.selects "MailQueries$Query" ({ cls := "MailQueries$Query", name := "says", desc := "(IILjava/lang/String;)Z" } : Jvm.MethodName) ({ cls := "MailQueries$Query", name := "says", desc := "(IILjava/lang/String;)Z" } : Jvm.MethodName)) ∈ TBL := TBL_in (List.mem_of_getElem? (i := 760) (by decide +kernel)) (by decide +kernel)
theorem L_Query_66 : (Jvm.Cond.methodLink "MailQueries$Query" (66 : Nat) ({ cls := "java/lang/System", name := "arraycopy", desc := "(Ljava/lang/Object;ILjava/lang/Object;II)V" } : Jvm.MethodName)) ∈ TBL := TBL_in (List.mem_of_getElem? (i := 694) (by decide +kernel)) (by decide +kernel)
theorem W_copy_native : (Jvm.Cond.native ({ cls := "java/lang/System", name := "arraycopy", desc := "(Ljava/lang/Object;ILjava/lang/Object;II)V" } : Jvm.MethodName)) ∈ TBL := TBL_in (List.mem_of_getElem? (i := 384) (by decide +kernel)) (by decide +kernel)
theorem W_copy_static : (Jvm.Cond.static ({ cls := "java/lang/System", name := "arraycopy", desc := "(Ljava/lang/Object;ILjava/lang/Object;II)V" } : Jvm.MethodName)) ∈ TBL := TBL_in (List.mem_of_getElem? (i := 383) (by decide +kernel)) (by decide +kernel)
theorem W_system_init : (Jvm.Cond.initialized "java/lang/System") ∈ TBL := TBL_in (List.mem_of_getElem? (i := 110) (by decide +kernel)) (by decide +kernel)
set_option maxRecDepth 100000 in
theorem W_Query_insert_code : (Jvm.Cond.code ({ cls := "MailQueries$Query", name := "insert", desc := "(II)V" } : Jvm.MethodName) prog_5_method_9_code (3 : Nat) (Option.none : Option Jvm.ClassFile.FieldType)) ∈ TBL := TBL_in (List.mem_of_getElem? (i := 738) rfl) rfl
theorem W_Query_insert_in : (Jvm.Cond.instanceMethod ({ cls := "MailQueries$Query", name := "insert", desc := "(II)V" } : Jvm.MethodName)) ∈ TBL := TBL_in (List.mem_of_getElem? (i := 736) (by decide +kernel)) (by decide +kernel)
theorem W_Query_insert_se : (Jvm.Cond.selects "MailQueries$Query" ({ cls := "MailQueries$Query", name := "insert", desc := "(II)V" } : Jvm.MethodName) ({ cls := "MailQueries$Query", name := "insert", desc := "(II)V" } : Jvm.MethodName)) ∈ TBL := TBL_in (List.mem_of_getElem? (i := 737) (by decide +kernel)) (by decide +kernel)
theorem L_Query_85 : (Jvm.Cond.methodLink "MailQueries$Query" (85 : Nat) ({ cls := "MailQueries$Query", name := "insert", desc := "(II)V" } : Jvm.MethodName)) ∈ TBL := TBL_in (List.mem_of_getElem? (i := 865) (by decide +kernel)) (by decide +kernel)
set_option maxRecDepth 100000 in
theorem W_Query_append_code : (Jvm.Cond.code ({ cls := "MailQueries$Query", name := "append", desc := "(I)V" } : Jvm.MethodName) prog_5_method_10_code (2 : Nat) (Option.none : Option Jvm.ClassFile.FieldType)) ∈ TBL := TBL_in (List.mem_of_getElem? (i := 864) rfl) rfl
theorem W_Query_append_in : (Jvm.Cond.instanceMethod ({ cls := "MailQueries$Query", name := "append", desc := "(I)V" } : Jvm.MethodName)) ∈ TBL := TBL_in (List.mem_of_getElem? (i := 862) (by decide +kernel)) (by decide +kernel)
theorem W_Query_append_se : (Jvm.Cond.selects "MailQueries$Query" ({ cls := "MailQueries$Query", name := "append", desc := "(I)V" } : Jvm.MethodName) ({ cls := "MailQueries$Query", name := "append", desc := "(I)V" } : Jvm.MethodName)) ∈ TBL := TBL_in (List.mem_of_getElem? (i := 863) (by decide +kernel)) (by decide +kernel)
set_option maxRecDepth 100000 in
theorem W_Query_sameLetters_code : (Jvm.Cond.code ({ cls := "MailQueries$Query", name := "sameLetters", desc := "(III)Z" } : Jvm.MethodName) prog_5_method_13_code (5 : Nat) (Option.some Jvm.ClassFile.FieldType.boolean)) ∈ TBL := TBL_in (List.mem_of_getElem? (i := 856) rfl) rfl
theorem W_Query_sameLetters_in : (Jvm.Cond.instanceMethod ({ cls := "MailQueries$Query", name := "sameLetters", desc := "(III)Z" } : Jvm.MethodName)) ∈ TBL := TBL_in (List.mem_of_getElem? (i := 855) (by decide +kernel)) (by decide +kernel)
theorem sel_44 : Cond.selects "MailQueries$Query" ⟨"MailQueries$Query", "sameLetters", "(III)Z"⟩ ⟨"MailQueries$Query", "sameLetters", "(III)Z"⟩ ∈ TBL := TBL_in (List.mem_of_getElem? (i := 44) (by decide +kernel)) (by decide +kernel)
theorem L_Query_25 : (Jvm.Cond.fieldLink "MailQueries$Query" (25 : Nat) "MailQueries$Query" "field" "[I") ∈ TBL := TBL_in (List.mem_of_getElem? (i := 144) (by decide +kernel)) (by decide +kernel)
theorem L_Query_29 : (Jvm.Cond.fieldLink "MailQueries$Query" (29 : Nat) "MailQueries$Query" "phrase" "[Z") ∈ TBL := TBL_in (List.mem_of_getElem? (i := 147) (by decide +kernel)) (by decide +kernel)
theorem L_Query_36 : (Jvm.Cond.fieldLink "MailQueries$Query" (36 : Nat) "MailQueries$Query" "textLength" "[I") ∈ TBL := TBL_in (List.mem_of_getElem? (i := 153) (by decide +kernel)) (by decide +kernel)
theorem L_Query_33 : (Jvm.Cond.fieldLink "MailQueries$Query" (33 : Nat) "MailQueries$Query" "textFrom" "[I") ∈ TBL := TBL_in (List.mem_of_getElem? (i := 150) (by decide +kernel)) (by decide +kernel)
theorem L_Query_107 : (Jvm.Cond.methodLink "MailQueries$Query" (107 : Nat) ({ cls := "MailQueries$Query", name := "sameLetters", desc := "(III)Z" } : Jvm.MethodName)) ∈ TBL := TBL_in (List.mem_of_getElem? (i := 853) (by decide +kernel)) (by decide +kernel)
set_option maxRecDepth 100000 in
theorem W_Query_alike_code : (Jvm.Cond.code ({ cls := "MailQueries$Query", name := "alike", desc := "(IZII)I" } : Jvm.MethodName) prog_5_method_12_code (6 : Nat) (Option.some Jvm.ClassFile.FieldType.int)) ∈ TBL := TBL_in (List.mem_of_getElem? (i := 852) rfl) rfl
theorem W_Query_alike_in : (Jvm.Cond.instanceMethod ({ cls := "MailQueries$Query", name := "alike", desc := "(IZII)I" } : Jvm.MethodName)) ∈ TBL := TBL_in (List.mem_of_getElem? (i := 851) (by decide +kernel)) (by decide +kernel)
theorem sel_43 : Cond.selects "MailQueries$Query" ⟨"MailQueries$Query", "alike", "(IZII)I"⟩ ⟨"MailQueries$Query", "alike", "(IZII)I"⟩ ∈ TBL := TBL_in (List.mem_of_getElem? (i := 43) (by decide +kernel)) (by decide +kernel)
def y_Query_has : MethodName := ⟨"MailQueries$Query", "has", "(I)Z"⟩
def rm_Query_has : Room := { frames := 0, cells := 0, slots := 0, locals := 0 }
theorem d_Query_has_0 : decode prog_5_method_3_code 0 = .ok (.iload_n 1, 1) := by decide +kernel
theorem d_Query_has_1 : decode prog_5_method_3_code 1 = .ok (.ifCond .lt 15, 3) := by decide +kernel
theorem d_Query_has_4 : decode prog_5_method_3_code 4 = .ok (.iload_n 1, 1) := by decide +kernel
theorem d_Query_has_5 : decode prog_5_method_3_code 5 = .ok (.aload_n 0, 1) := by decide +kernel
theorem d_Query_has_6 : decode prog_5_method_3_code 6 = .ok (.getfield 22, 3) := by decide +kernel
theorem d_Query_has_9 : decode prog_5_method_3_code 9 = .ok (.if_icmp .ge 7, 3) := by decide +kernel
theorem d_Query_has_12 : decode prog_5_method_3_code 12 = .ok (.iconst 1, 1) := by decide +kernel
theorem d_Query_has_13 : decode prog_5_method_3_code 13 = .ok (.goto 4, 3) := by decide +kernel
theorem d_Query_has_16 : decode prog_5_method_3_code 16 = .ok (.iconst 0, 1) := by decide +kernel
theorem d_Query_has_17 : decode prog_5_method_3_code 17 = .ok (.ireturn, 1) := by decide +kernel
def y_Query_isFull : MethodName := ⟨"MailQueries$Query", "isFull", "()Z"⟩
def rm_Query_isFull : Room := { frames := 0, cells := 0, slots := 0, locals := 0 }
theorem d_Query_isFull_0 : decode prog_5_method_4_code 0 = .ok (.aload_n 0, 1) := by decide +kernel
theorem d_Query_isFull_1 : decode prog_5_method_4_code 1 = .ok (.getfield 19, 3) := by decide +kernel
theorem d_Query_isFull_4 : decode prog_5_method_4_code 4 = .ok (.bipush 40, 2) := by decide +kernel
theorem d_Query_isFull_6 : decode prog_5_method_4_code 6 = .ok (.if_icmp .lt 7, 3) := by decide +kernel
theorem d_Query_isFull_9 : decode prog_5_method_4_code 9 = .ok (.iconst 1, 1) := by decide +kernel
theorem d_Query_isFull_10 : decode prog_5_method_4_code 10 = .ok (.goto 4, 3) := by decide +kernel
theorem d_Query_isFull_13 : decode prog_5_method_4_code 13 = .ok (.iconst 0, 1) := by decide +kernel
theorem d_Query_isFull_14 : decode prog_5_method_4_code 14 = .ok (.ireturn, 1) := by decide +kernel
def y_Query_byteAt : MethodName := ⟨"MailQueries$Query", "byteAt", "(I)I"⟩
def rm_Query_byteAt : Room := { frames := 0, cells := 0, slots := 0, locals := 0 }
theorem d_Query_byteAt_0 : decode prog_5_method_5_code 0 = .ok (.iload_n 1, 1) := by decide +kernel
theorem d_Query_byteAt_1 : decode prog_5_method_5_code 1 = .ok (.ifCond .lt 20, 3) := by decide +kernel
theorem d_Query_byteAt_4 : decode prog_5_method_5_code 4 = .ok (.iload_n 1, 1) := by decide +kernel
theorem d_Query_byteAt_5 : decode prog_5_method_5_code 5 = .ok (.aload_n 0, 1) := by decide +kernel
theorem d_Query_byteAt_6 : decode prog_5_method_5_code 6 = .ok (.getfield 15, 3) := by decide +kernel
theorem d_Query_byteAt_9 : decode prog_5_method_5_code 9 = .ok (.if_icmp .ge 12, 3) := by decide +kernel
theorem d_Query_byteAt_12 : decode prog_5_method_5_code 12 = .ok (.aload_n 0, 1) := by decide +kernel
theorem d_Query_byteAt_13 : decode prog_5_method_5_code 13 = .ok (.getfield 9, 3) := by decide +kernel
theorem d_Query_byteAt_16 : decode prog_5_method_5_code 16 = .ok (.iload_n 1, 1) := by decide +kernel
theorem d_Query_byteAt_17 : decode prog_5_method_5_code 17 = .ok (.caload, 1) := by decide +kernel
theorem d_Query_byteAt_18 : decode prog_5_method_5_code 18 = .ok (.goto 4, 3) := by decide +kernel
theorem d_Query_byteAt_21 : decode prog_5_method_5_code 21 = .ok (.iconst (-1), 1) := by decide +kernel
theorem d_Query_byteAt_22 : decode prog_5_method_5_code 22 = .ok (.ireturn, 1) := by decide +kernel
def y_Query_entryAt : MethodName := ⟨"MailQueries$Query", "entryAt", "(I)I"⟩
def rm_Query_entryAt : Room := { frames := 0, cells := 0, slots := 0, locals := 0 }
theorem d_Query_entryAt_0 : decode prog_5_method_6_code 0 = .ok (.iload_n 1, 1) := by decide +kernel
theorem d_Query_entryAt_1 : decode prog_5_method_6_code 1 = .ok (.ifCond .lt 20, 3) := by decide +kernel
theorem d_Query_entryAt_4 : decode prog_5_method_6_code 4 = .ok (.iload_n 1, 1) := by decide +kernel
theorem d_Query_entryAt_5 : decode prog_5_method_6_code 5 = .ok (.aload_n 0, 1) := by decide +kernel
theorem d_Query_entryAt_6 : decode prog_5_method_6_code 6 = .ok (.getfield 54, 3) := by decide +kernel
theorem d_Query_entryAt_9 : decode prog_5_method_6_code 9 = .ok (.if_icmp .ge 12, 3) := by decide +kernel
theorem d_Query_entryAt_12 : decode prog_5_method_6_code 12 = .ok (.aload_n 0, 1) := by decide +kernel
theorem d_Query_entryAt_13 : decode prog_5_method_6_code 13 = .ok (.getfield 51, 3) := by decide +kernel
theorem d_Query_entryAt_16 : decode prog_5_method_6_code 16 = .ok (.iload_n 1, 1) := by decide +kernel
theorem d_Query_entryAt_17 : decode prog_5_method_6_code 17 = .ok (.iaload, 1) := by decide +kernel
theorem d_Query_entryAt_18 : decode prog_5_method_6_code 18 = .ok (.goto 4, 3) := by decide +kernel
theorem d_Query_entryAt_21 : decode prog_5_method_6_code 21 = .ok (.iconst (-1), 1) := by decide +kernel
theorem d_Query_entryAt_22 : decode prog_5_method_6_code 22 = .ok (.ireturn, 1) := by decide +kernel
def y_Query_find : MethodName := ⟨"MailQueries$Query", "find", "(III)I"⟩
def rm_Query_find : Room := { frames := 1, cells := 0, slots := 0, locals := 21 }
theorem d_Query_find_0 : decode prog_5_method_7_code 0 = .ok (.iload_n 2, 1) := by decide +kernel
theorem d_Query_find_1 : decode prog_5_method_7_code 1 = .ok (.istore 4, 2) := by decide +kernel
theorem d_Query_find_3 : decode prog_5_method_7_code 3 = .ok (.iload 4, 2) := by decide +kernel
theorem d_Query_find_5 : decode prog_5_method_7_code 5 = .ok (.iload_n 3, 1) := by decide +kernel
theorem d_Query_find_6 : decode prog_5_method_7_code 6 = .ok (.if_icmp .ge 22, 3) := by decide +kernel
theorem d_Query_find_9 : decode prog_5_method_7_code 9 = .ok (.aload_n 0, 1) := by decide +kernel
theorem d_Query_find_10 : decode prog_5_method_7_code 10 = .ok (.iload 4, 2) := by decide +kernel
theorem d_Query_find_12 : decode prog_5_method_7_code 12 = .ok (.invokevirtual 72, 3) := by decide +kernel
theorem d_Query_find_15 : decode prog_5_method_7_code 15 = .ok (.iload_n 1, 1) := by decide +kernel
theorem d_Query_find_16 : decode prog_5_method_7_code 16 = .ok (.if_icmp .ne 6, 3) := by decide +kernel
theorem d_Query_find_19 : decode prog_5_method_7_code 19 = .ok (.iload 4, 2) := by decide +kernel
theorem d_Query_find_21 : decode prog_5_method_7_code 21 = .ok (.ireturn, 1) := by decide +kernel
theorem d_Query_find_22 : decode prog_5_method_7_code 22 = .ok (.iinc 4 1, 3) := by decide +kernel
theorem d_Query_find_25 : decode prog_5_method_7_code 25 = .ok (.goto (-22), 3) := by decide +kernel
theorem d_Query_find_28 : decode prog_5_method_7_code 28 = .ok (.iconst (-1), 1) := by decide +kernel
theorem d_Query_find_29 : decode prog_5_method_7_code 29 = .ok (.ireturn, 1) := by decide +kernel
def y_Query_says : MethodName := ⟨"MailQueries$Query", "says", "(IILjava/lang/String;)Z"⟩
def rm_Query_says : Room := { frames := 4, cells := 0, slots := 0, locals := 85 }
theorem d_Query_says_0 : decode prog_5_method_8_code 0 = .ok (.iload_n 2, 1) := by decide +kernel
theorem d_Query_says_1 : decode prog_5_method_8_code 1 = .ok (.iload_n 1, 1) := by decide +kernel
theorem d_Query_says_2 : decode prog_5_method_8_code 2 = .ok (.isub, 1) := by decide +kernel
theorem d_Query_says_3 : decode prog_5_method_8_code 3 = .ok (.aload_n 3, 1) := by decide +kernel
theorem d_Query_says_4 : decode prog_5_method_8_code 4 = .ok (.invokevirtual 76, 3) := by decide +kernel
theorem d_Query_says_7 : decode prog_5_method_8_code 7 = .ok (.if_icmp .eq 5, 3) := by decide +kernel
theorem d_Query_says_10 : decode prog_5_method_8_code 10 = .ok (.iconst 0, 1) := by decide +kernel
theorem d_Query_says_11 : decode prog_5_method_8_code 11 = .ok (.ireturn, 1) := by decide +kernel
theorem d_Query_says_12 : decode prog_5_method_8_code 12 = .ok (.iconst 0, 1) := by decide +kernel
theorem d_Query_says_13 : decode prog_5_method_8_code 13 = .ok (.istore 4, 2) := by decide +kernel
theorem d_Query_says_15 : decode prog_5_method_8_code 15 = .ok (.iload 4, 2) := by decide +kernel
theorem d_Query_says_17 : decode prog_5_method_8_code 17 = .ok (.aload_n 3, 1) := by decide +kernel
theorem d_Query_says_18 : decode prog_5_method_8_code 18 = .ok (.invokevirtual 76, 3) := by decide +kernel
theorem d_Query_says_21 : decode prog_5_method_8_code 21 = .ok (.if_icmp .ge 28, 3) := by decide +kernel
theorem d_Query_says_24 : decode prog_5_method_8_code 24 = .ok (.aload_n 0, 1) := by decide +kernel
theorem d_Query_says_25 : decode prog_5_method_8_code 25 = .ok (.iload_n 1, 1) := by decide +kernel
theorem d_Query_says_26 : decode prog_5_method_8_code 26 = .ok (.iload 4, 2) := by decide +kernel
theorem d_Query_says_28 : decode prog_5_method_8_code 28 = .ok (.iadd, 1) := by decide +kernel
theorem d_Query_says_29 : decode prog_5_method_8_code 29 = .ok (.invokevirtual 72, 3) := by decide +kernel
theorem d_Query_says_32 : decode prog_5_method_8_code 32 = .ok (.aload_n 3, 1) := by decide +kernel
theorem d_Query_says_33 : decode prog_5_method_8_code 33 = .ok (.iload 4, 2) := by decide +kernel
theorem d_Query_says_35 : decode prog_5_method_8_code 35 = .ok (.invokevirtual 81, 3) := by decide +kernel
theorem d_Query_says_38 : decode prog_5_method_8_code 38 = .ok (.if_icmp .eq 5, 3) := by decide +kernel
theorem d_Query_says_41 : decode prog_5_method_8_code 41 = .ok (.iconst 0, 1) := by decide +kernel
theorem d_Query_says_42 : decode prog_5_method_8_code 42 = .ok (.ireturn, 1) := by decide +kernel
theorem d_Query_says_43 : decode prog_5_method_8_code 43 = .ok (.iinc 4 1, 3) := by decide +kernel
theorem d_Query_says_46 : decode prog_5_method_8_code 46 = .ok (.goto (-31), 3) := by decide +kernel
theorem d_Query_says_49 : decode prog_5_method_8_code 49 = .ok (.iconst 1, 1) := by decide +kernel
theorem d_Query_says_50 : decode prog_5_method_8_code 50 = .ok (.ireturn, 1) := by decide +kernel
def y_Query_insert : MethodName := ⟨"MailQueries$Query", "insert", "(II)V"⟩
def rm_Query_insert : Room := { frames := 1, cells := 0, slots := 0, locals := 40 }
theorem d_Query_insert_0 : decode prog_5_method_9_code 0 = .ok (.iload_n 1, 1) := by decide +kernel
theorem d_Query_insert_1 : decode prog_5_method_9_code 1 = .ok (.ifCond .lt 23, 3) := by decide +kernel
theorem d_Query_insert_4 : decode prog_5_method_9_code 4 = .ok (.iload_n 1, 1) := by decide +kernel
theorem d_Query_insert_5 : decode prog_5_method_9_code 5 = .ok (.aload_n 0, 1) := by decide +kernel
theorem d_Query_insert_6 : decode prog_5_method_9_code 6 = .ok (.getfield 54, 3) := by decide +kernel
theorem d_Query_insert_9 : decode prog_5_method_9_code 9 = .ok (.if_icmp .gt 15, 3) := by decide +kernel
theorem d_Query_insert_12 : decode prog_5_method_9_code 12 = .ok (.aload_n 0, 1) := by decide +kernel
theorem d_Query_insert_13 : decode prog_5_method_9_code 13 = .ok (.getfield 54, 3) := by decide +kernel
theorem d_Query_insert_16 : decode prog_5_method_9_code 16 = .ok (.aload_n 0, 1) := by decide +kernel
theorem d_Query_insert_17 : decode prog_5_method_9_code 17 = .ok (.getfield 51, 3) := by decide +kernel
theorem d_Query_insert_20 : decode prog_5_method_9_code 20 = .ok (.arraylength, 1) := by decide +kernel
theorem d_Query_insert_21 : decode prog_5_method_9_code 21 = .ok (.if_icmp .lt 4, 3) := by decide +kernel
theorem d_Query_insert_24 : decode prog_5_method_9_code 24 = .ok (.return_, 1) := by decide +kernel
theorem d_Query_insert_25 : decode prog_5_method_9_code 25 = .ok (.aload_n 0, 1) := by decide +kernel
theorem d_Query_insert_26 : decode prog_5_method_9_code 26 = .ok (.getfield 51, 3) := by decide +kernel
theorem d_Query_insert_29 : decode prog_5_method_9_code 29 = .ok (.iload_n 1, 1) := by decide +kernel
theorem d_Query_insert_30 : decode prog_5_method_9_code 30 = .ok (.aload_n 0, 1) := by decide +kernel
theorem d_Query_insert_31 : decode prog_5_method_9_code 31 = .ok (.getfield 51, 3) := by decide +kernel
theorem d_Query_insert_34 : decode prog_5_method_9_code 34 = .ok (.iload_n 1, 1) := by decide +kernel
theorem d_Query_insert_35 : decode prog_5_method_9_code 35 = .ok (.iconst 1, 1) := by decide +kernel
theorem d_Query_insert_36 : decode prog_5_method_9_code 36 = .ok (.iadd, 1) := by decide +kernel
theorem d_Query_insert_37 : decode prog_5_method_9_code 37 = .ok (.aload_n 0, 1) := by decide +kernel
theorem d_Query_insert_38 : decode prog_5_method_9_code 38 = .ok (.getfield 54, 3) := by decide +kernel
theorem d_Query_insert_41 : decode prog_5_method_9_code 41 = .ok (.iload_n 1, 1) := by decide +kernel
theorem d_Query_insert_42 : decode prog_5_method_9_code 42 = .ok (.isub, 1) := by decide +kernel
theorem d_Query_insert_43 : decode prog_5_method_9_code 43 = .ok (.invokestatic 66, 3) := by decide +kernel
theorem d_Query_insert_46 : decode prog_5_method_9_code 46 = .ok (.aload_n 0, 1) := by decide +kernel
theorem d_Query_insert_47 : decode prog_5_method_9_code 47 = .ok (.getfield 51, 3) := by decide +kernel
theorem d_Query_insert_50 : decode prog_5_method_9_code 50 = .ok (.iload_n 1, 1) := by decide +kernel
theorem d_Query_insert_51 : decode prog_5_method_9_code 51 = .ok (.iload_n 2, 1) := by decide +kernel
theorem d_Query_insert_52 : decode prog_5_method_9_code 52 = .ok (.iastore, 1) := by decide +kernel
theorem d_Query_insert_53 : decode prog_5_method_9_code 53 = .ok (.aload_n 0, 1) := by decide +kernel
theorem d_Query_insert_54 : decode prog_5_method_9_code 54 = .ok (.dup, 1) := by decide +kernel
theorem d_Query_insert_55 : decode prog_5_method_9_code 55 = .ok (.getfield 54, 3) := by decide +kernel
theorem d_Query_insert_58 : decode prog_5_method_9_code 58 = .ok (.iconst 1, 1) := by decide +kernel
theorem d_Query_insert_59 : decode prog_5_method_9_code 59 = .ok (.iadd, 1) := by decide +kernel
theorem d_Query_insert_60 : decode prog_5_method_9_code 60 = .ok (.putfield 54, 3) := by decide +kernel
theorem d_Query_insert_63 : decode prog_5_method_9_code 63 = .ok (.return_, 1) := by decide +kernel
def y_Query_append : MethodName := ⟨"MailQueries$Query", "append", "(I)V"⟩
def rm_Query_append : Room := { frames := 2, cells := 0, slots := 0, locals := 62 }
theorem d_Query_append_0 : decode prog_5_method_10_code 0 = .ok (.aload_n 0, 1) := by decide +kernel
theorem d_Query_append_1 : decode prog_5_method_10_code 1 = .ok (.aload_n 0, 1) := by decide +kernel
theorem d_Query_append_2 : decode prog_5_method_10_code 2 = .ok (.getfield 54, 3) := by decide +kernel
theorem d_Query_append_5 : decode prog_5_method_10_code 5 = .ok (.iload_n 1, 1) := by decide +kernel
theorem d_Query_append_6 : decode prog_5_method_10_code 6 = .ok (.invokevirtual 85, 3) := by decide +kernel
theorem d_Query_append_9 : decode prog_5_method_10_code 9 = .ok (.return_, 1) := by decide +kernel
def y_Query_sameLetters : MethodName := ⟨"MailQueries$Query", "sameLetters", "(III)Z"⟩
def rm_Query_sameLetters : Room := { frames := 1, cells := 0, slots := 0, locals := 21 }
theorem d_Query_sameLetters_0 : decode prog_5_method_13_code 0 = .ok (.iconst 0, 1) := by decide +kernel
theorem d_Query_sameLetters_1 : decode prog_5_method_13_code 1 = .ok (.istore 4, 2) := by decide +kernel
theorem d_Query_sameLetters_3 : decode prog_5_method_13_code 3 = .ok (.iload 4, 2) := by decide +kernel
theorem d_Query_sameLetters_5 : decode prog_5_method_13_code 5 = .ok (.iload_n 3, 1) := by decide +kernel
theorem d_Query_sameLetters_6 : decode prog_5_method_13_code 6 = .ok (.if_icmp .ge 36, 3) := by decide +kernel
theorem d_Query_sameLetters_9 : decode prog_5_method_13_code 9 = .ok (.aload_n 0, 1) := by decide +kernel
theorem d_Query_sameLetters_10 : decode prog_5_method_13_code 10 = .ok (.iload_n 1, 1) := by decide +kernel
theorem d_Query_sameLetters_11 : decode prog_5_method_13_code 11 = .ok (.iload 4, 2) := by decide +kernel
theorem d_Query_sameLetters_13 : decode prog_5_method_13_code 13 = .ok (.iadd, 1) := by decide +kernel
theorem d_Query_sameLetters_14 : decode prog_5_method_13_code 14 = .ok (.invokevirtual 72, 3) := by decide +kernel
theorem d_Query_sameLetters_17 : decode prog_5_method_13_code 17 = .ok (.invokestatic 111, 3) := by decide +kernel
theorem d_Query_sameLetters_20 : decode prog_5_method_13_code 20 = .ok (.aload_n 0, 1) := by decide +kernel
theorem d_Query_sameLetters_21 : decode prog_5_method_13_code 21 = .ok (.iload_n 2, 1) := by decide +kernel
theorem d_Query_sameLetters_22 : decode prog_5_method_13_code 22 = .ok (.iload 4, 2) := by decide +kernel
theorem d_Query_sameLetters_24 : decode prog_5_method_13_code 24 = .ok (.iadd, 1) := by decide +kernel
theorem d_Query_sameLetters_25 : decode prog_5_method_13_code 25 = .ok (.invokevirtual 72, 3) := by decide +kernel
theorem d_Query_sameLetters_28 : decode prog_5_method_13_code 28 = .ok (.invokestatic 111, 3) := by decide +kernel
theorem d_Query_sameLetters_31 : decode prog_5_method_13_code 31 = .ok (.if_icmp .eq 5, 3) := by decide +kernel
theorem d_Query_sameLetters_34 : decode prog_5_method_13_code 34 = .ok (.iconst 0, 1) := by decide +kernel
theorem d_Query_sameLetters_35 : decode prog_5_method_13_code 35 = .ok (.ireturn, 1) := by decide +kernel
theorem d_Query_sameLetters_36 : decode prog_5_method_13_code 36 = .ok (.iinc 4 1, 3) := by decide +kernel
theorem d_Query_sameLetters_39 : decode prog_5_method_13_code 39 = .ok (.goto (-36), 3) := by decide +kernel
theorem d_Query_sameLetters_42 : decode prog_5_method_13_code 42 = .ok (.iconst 1, 1) := by decide +kernel
theorem d_Query_sameLetters_43 : decode prog_5_method_13_code 43 = .ok (.ireturn, 1) := by decide +kernel
def y_Query_alike : MethodName := ⟨"MailQueries$Query", "alike", "(IZII)I"⟩
def rm_Query_alike : Room := { frames := 2, cells := 0, slots := 0, locals := 45 }
theorem d_Query_alike_0 : decode prog_5_method_12_code 0 = .ok (.iconst 0, 1) := by decide +kernel
theorem d_Query_alike_1 : decode prog_5_method_12_code 1 = .ok (.istore 5, 2) := by decide +kernel
theorem d_Query_alike_3 : decode prog_5_method_12_code 3 = .ok (.iload 5, 2) := by decide +kernel
theorem d_Query_alike_5 : decode prog_5_method_12_code 5 = .ok (.aload_n 0, 1) := by decide +kernel
theorem d_Query_alike_6 : decode prog_5_method_12_code 6 = .ok (.getfield 22, 3) := by decide +kernel
theorem d_Query_alike_9 : decode prog_5_method_12_code 9 = .ok (.if_icmp .ge 67, 3) := by decide +kernel
theorem d_Query_alike_12 : decode prog_5_method_12_code 12 = .ok (.aload_n 0, 1) := by decide +kernel
theorem d_Query_alike_13 : decode prog_5_method_12_code 13 = .ok (.getfield 25, 3) := by decide +kernel
theorem d_Query_alike_16 : decode prog_5_method_12_code 16 = .ok (.iload 5, 2) := by decide +kernel
theorem d_Query_alike_18 : decode prog_5_method_12_code 18 = .ok (.iaload, 1) := by decide +kernel
theorem d_Query_alike_19 : decode prog_5_method_12_code 19 = .ok (.iload_n 1, 1) := by decide +kernel
theorem d_Query_alike_20 : decode prog_5_method_12_code 20 = .ok (.if_icmp .ne 50, 3) := by decide +kernel
theorem d_Query_alike_23 : decode prog_5_method_12_code 23 = .ok (.aload_n 0, 1) := by decide +kernel
theorem d_Query_alike_24 : decode prog_5_method_12_code 24 = .ok (.getfield 29, 3) := by decide +kernel
theorem d_Query_alike_27 : decode prog_5_method_12_code 27 = .ok (.iload 5, 2) := by decide +kernel
theorem d_Query_alike_29 : decode prog_5_method_12_code 29 = .ok (.baload, 1) := by decide +kernel
theorem d_Query_alike_30 : decode prog_5_method_12_code 30 = .ok (.iload_n 2, 1) := by decide +kernel
theorem d_Query_alike_31 : decode prog_5_method_12_code 31 = .ok (.if_icmp .ne 39, 3) := by decide +kernel
theorem d_Query_alike_34 : decode prog_5_method_12_code 34 = .ok (.aload_n 0, 1) := by decide +kernel
theorem d_Query_alike_35 : decode prog_5_method_12_code 35 = .ok (.getfield 36, 3) := by decide +kernel
theorem d_Query_alike_38 : decode prog_5_method_12_code 38 = .ok (.iload 5, 2) := by decide +kernel
theorem d_Query_alike_40 : decode prog_5_method_12_code 40 = .ok (.iaload, 1) := by decide +kernel
theorem d_Query_alike_41 : decode prog_5_method_12_code 41 = .ok (.iload 4, 2) := by decide +kernel
theorem d_Query_alike_43 : decode prog_5_method_12_code 43 = .ok (.iload_n 3, 1) := by decide +kernel
theorem d_Query_alike_44 : decode prog_5_method_12_code 44 = .ok (.isub, 1) := by decide +kernel
theorem d_Query_alike_45 : decode prog_5_method_12_code 45 = .ok (.if_icmp .ne 25, 3) := by decide +kernel
theorem d_Query_alike_48 : decode prog_5_method_12_code 48 = .ok (.aload_n 0, 1) := by decide +kernel
theorem d_Query_alike_49 : decode prog_5_method_12_code 49 = .ok (.aload_n 0, 1) := by decide +kernel
theorem d_Query_alike_50 : decode prog_5_method_12_code 50 = .ok (.getfield 33, 3) := by decide +kernel
theorem d_Query_alike_53 : decode prog_5_method_12_code 53 = .ok (.iload 5, 2) := by decide +kernel
theorem d_Query_alike_55 : decode prog_5_method_12_code 55 = .ok (.iaload, 1) := by decide +kernel
theorem d_Query_alike_56 : decode prog_5_method_12_code 56 = .ok (.iload_n 3, 1) := by decide +kernel
theorem d_Query_alike_57 : decode prog_5_method_12_code 57 = .ok (.iload 4, 2) := by decide +kernel
theorem d_Query_alike_59 : decode prog_5_method_12_code 59 = .ok (.iload_n 3, 1) := by decide +kernel
theorem d_Query_alike_60 : decode prog_5_method_12_code 60 = .ok (.isub, 1) := by decide +kernel
theorem d_Query_alike_61 : decode prog_5_method_12_code 61 = .ok (.invokevirtual 107, 3) := by decide +kernel
theorem d_Query_alike_64 : decode prog_5_method_12_code 64 = .ok (.ifCond .eq 6, 3) := by decide +kernel
theorem d_Query_alike_67 : decode prog_5_method_12_code 67 = .ok (.iload 5, 2) := by decide +kernel
theorem d_Query_alike_69 : decode prog_5_method_12_code 69 = .ok (.ireturn, 1) := by decide +kernel
theorem d_Query_alike_70 : decode prog_5_method_12_code 70 = .ok (.iinc 5 1, 3) := by decide +kernel
theorem d_Query_alike_73 : decode prog_5_method_12_code 73 = .ok (.goto (-70), 3) := by decide +kernel
theorem d_Query_alike_76 : decode prog_5_method_12_code 76 = .ok (.iconst (-1), 1) := by decide +kernel
theorem d_Query_alike_77 : decode prog_5_method_12_code 77 = .ok (.ireturn, 1) := by decide +kernel
theorem mb_Query_has : Mb y_Query_has prog_5_method_3_code 2 (some .boolean) 1 := ⟨W_Query_has_code, W_Query_has_in, W_Query_has_se, I_Query, by decide +kernel, by decide +kernel, by decide +kernel⟩
theorem mb_Query_isFull : Mb y_Query_isFull prog_5_method_4_code 1 (some .boolean) 0 := ⟨W_Query_isFull_code, W_Query_isFull_in, W_Query_isFull_se, I_Query, by decide +kernel, by decide +kernel, by decide +kernel⟩
theorem mb_Query_byteAt : Mb y_Query_byteAt prog_5_method_5_code 2 (some .int) 1 := ⟨W_Query_byteAt_code, W_Query_byteAt_in, W_Query_byteAt_se, I_Query, by decide +kernel, by decide +kernel, by decide +kernel⟩
theorem mb_Query_entryAt : Mb y_Query_entryAt prog_5_method_6_code 2 (some .int) 1 := ⟨W_Query_entryAt_code, W_Query_entryAt_in, W_Query_entryAt_se, I_Query, by decide +kernel, by decide +kernel, by decide +kernel⟩
theorem mb_Query_find : Mb y_Query_find prog_5_method_7_code 5 (some .int) 3 := ⟨W_Query_find_code, W_Query_find_in, W_Query_find_se, I_Query, by decide +kernel, by decide +kernel, by decide +kernel⟩
theorem mb_Query_says : Mb y_Query_says prog_5_method_8_code 5 (some .boolean) 3 := ⟨W_Query_says_code, W_Query_says_in, W_Query_says_se, I_Query, by decide +kernel, by decide +kernel, by decide +kernel⟩
theorem mb_Query_insert : Mb y_Query_insert prog_5_method_9_code 3 none 2 := ⟨W_Query_insert_code, W_Query_insert_in, W_Query_insert_se, I_Query, by decide +kernel, by decide +kernel, by decide +kernel⟩
theorem mb_Query_append : Mb y_Query_append prog_5_method_10_code 2 none 1 := ⟨W_Query_append_code, W_Query_append_in, W_Query_append_se, I_Query, by decide +kernel, by decide +kernel, by decide +kernel⟩
theorem mb_Query_sameLetters : Mb y_Query_sameLetters prog_5_method_13_code 5 (some .boolean) 3 := ⟨W_Query_sameLetters_code, W_Query_sameLetters_in, sel_44, I_Query, by decide +kernel, by decide +kernel, by decide +kernel⟩
theorem mb_Query_alike : Mb y_Query_alike prog_5_method_12_code 6 (some .int) 4 := ⟨W_Query_alike_code, W_Query_alike_in, sel_43, I_Query, by decide +kernel, by decide +kernel, by decide +kernel⟩
def Query_has (F : Nat) (t : StI) (x1 : Int32) : Option (Int32) := if x1 < 0 then some (0 : Int32) else if (t 3 0) ≤ x1 then some (0 : Int32) else some (1 : Int32)
set_option maxHeartbeats 4000000 in
set_option maxRecDepth 100000 in
theorem k_Query_has {p : Program} {l : Launch} {e : Env} {s : State} {m : MethodId} {args : Array Value} {below : List Frame} {meth : Method} {c : Code} {g : Gz} {A2 A : Nat → Prop} {F : Nat} {a_t : Nat → Nat} (hC : Cx prog_5_method_3_code 2 (some .boolean) R_Query p s m args meth c g A2 A) : ∀ (t : StI) (x1 : Int32) (res : Int32), Query_has F t x1 = some res → Go p l e rm_Query_has s m args below meth c g A2 A 2 (MQ below (RI res A) args s 0 0 A) ((pic_Query g a_t t)) [(0, .ref (a_t 0)), (1, .int x1)] 0 [] := by
  obtain ⟨hx, hb, hr, hml, hown, htb, hlocks, hA, hAA, hG⟩ := id hC
  have hK := hG.1
  intro t x1 res h H locs ls hP hD hS hl
  rw [Query_has] at h
  refine lv_iload_n hx hb d_Query_has_0 rfl (lv_at hl 1 rfl) ?_
  refine lv_if_lt (tgt := 16) hx hb d_Query_has_1 (by decide) (fun c3 => ?_) (fun c3 => ?_)
  · replace h := (if_pos c3).symm.trans h
    refine lv_iconst (v := 0) hx hb d_Query_has_16 (by decide) ?_
    cases h
    exact W.zret hx hb hr rfl (fun t ht hW => ⟨⟨_, (), rfl, rfl, trivial⟩, hS.F ht⟩) hS.2.2 d_Query_has_17
  · replace h := (if_neg c3).symm.trans h
    refine lv_iload_n hx hb d_Query_has_4 rfl (lv_at hl 1 rfl) ?_
    refine lv_aload_n hx hb d_Query_has_5 rfl (lv_at hl 0 rfl) ?_
    refine va_get (D := gD g) (ci := 1) (v := .int (t 3 0)) (C := R_Query) (T := T_Query) (N := 14) hx hb htb in_Query hown hK hP 0 rfl rfl 3 (by decide) (htb _ L_Query_22) (fun _ h9 => h9) rfl d_Query_has_6 ?_
    refine lv_icmp_ge (tgt := 16) hx hb d_Query_has_9 (by decide) (fun c4 => ?_) (fun c4 => ?_)
    · replace h := (if_pos c4).symm.trans h
      refine lv_iconst (v := 0) hx hb d_Query_has_16 (by decide) ?_
      cases h
      exact W.zret hx hb hr rfl (fun t ht hW => ⟨⟨_, (), rfl, rfl, trivial⟩, hS.F ht⟩) hS.2.2 d_Query_has_17
    · replace h := (if_neg c4).symm.trans h
      refine lv_iconst (v := 1) hx hb d_Query_has_12 (by decide) ?_
      refine lv_goto (tgt := 17) hx hb d_Query_has_13 (by decide) ?_
      cases h
      exact W.zret hx hb hr rfl (fun t ht hW => ⟨⟨_, (), rfl, rfl, trivial⟩, hS.F ht⟩) hS.2.2 d_Query_has_17
theorem c_Query_has (l : Launch) (g : Gz) (F : Nat) (a_t : Nat → Nat) (t : StI) (x1 : Int32) (res : Int32) (h : Query_has F t x1 = some res) : ∀ sz : Nat, Met l y_Query_has (.code y_Query_has prog_5_method_3_code 2 (some .boolean) :: TBL) rm_Query_has (va_Pc [.ref (a_t 0), .int x1] (Pre0 g ((pic_Query g a_t t)) sz)) (RI res (fun q => sz ≤ q)) 0 0 (fun q => sz ≤ q) :=
  ct_r (Qc := fun A => RI res A) (by decide) (Nat.le_of_ble_eq_true rfl) (fun p e s m args below meth c A2 A hC => k_Query_has hC t x1 res h)
def Query_isFull (F : Nat) (t : StI) : Option (Int32) := if (t 2 0) < (40 : Int32) then some (0 : Int32) else some (1 : Int32)
set_option maxHeartbeats 4000000 in
set_option maxRecDepth 100000 in
theorem k_Query_isFull {p : Program} {l : Launch} {e : Env} {s : State} {m : MethodId} {args : Array Value} {below : List Frame} {meth : Method} {c : Code} {g : Gz} {A2 A : Nat → Prop} {F : Nat} {a_t : Nat → Nat} (hC : Cx prog_5_method_4_code 1 (some .boolean) R_Query p s m args meth c g A2 A) : ∀ (t : StI) (res : Int32), Query_isFull F t = some res → Go p l e rm_Query_isFull s m args below meth c g A2 A 1 (MQ below (RI res A) args s 0 0 A) ((pic_Query g a_t t)) [(0, .ref (a_t 0))] 0 [] := by
  obtain ⟨hx, hb, hr, hml, hown, htb, hlocks, hA, hAA, hG⟩ := id hC
  have hK := hG.1
  intro t res h H locs ls hP hD hS hl
  rw [Query_isFull] at h
  refine lv_aload_n hx hb d_Query_isFull_0 rfl (lv_at hl 0 rfl) ?_
  refine va_get (D := gD g) (ci := 1) (v := .int (t 2 0)) (C := R_Query) (T := T_Query) (N := 14) hx hb htb in_Query hown hK hP 0 rfl rfl 2 (by decide) (htb _ L_Query_19) (fun _ h9 => h9) rfl d_Query_isFull_1 ?_
  refine lv_bipush (v := 40) hx hb d_Query_isFull_4 (by decide) ?_
  refine lv_icmp_lt (tgt := 13) hx hb d_Query_isFull_6 (by decide) (fun c2 => ?_) (fun c2 => ?_)
  · replace h := (if_pos c2).symm.trans h
    refine lv_iconst (v := 0) hx hb d_Query_isFull_13 (by decide) ?_
    cases h
    exact W.zret hx hb hr rfl (fun t ht hW => ⟨⟨_, (), rfl, rfl, trivial⟩, hS.F ht⟩) hS.2.2 d_Query_isFull_14
  · replace h := (if_neg c2).symm.trans h
    refine lv_iconst (v := 1) hx hb d_Query_isFull_9 (by decide) ?_
    refine lv_goto (tgt := 14) hx hb d_Query_isFull_10 (by decide) ?_
    cases h
    exact W.zret hx hb hr rfl (fun t ht hW => ⟨⟨_, (), rfl, rfl, trivial⟩, hS.F ht⟩) hS.2.2 d_Query_isFull_14
theorem c_Query_isFull (l : Launch) (g : Gz) (F : Nat) (a_t : Nat → Nat) (t : StI) (res : Int32) (h : Query_isFull F t = some res) : ∀ sz : Nat, Met l y_Query_isFull (.code y_Query_isFull prog_5_method_4_code 1 (some .boolean) :: TBL) rm_Query_isFull (va_Pc [.ref (a_t 0)] (Pre0 g ((pic_Query g a_t t)) sz)) (RI res (fun q => sz ≤ q)) 0 0 (fun q => sz ≤ q) :=
  ct_r (Qc := fun A => RI res A) (by decide) (Nat.le_of_ble_eq_true rfl) (fun p e s m args below meth c A2 A hC => k_Query_isFull hC t res h)
def Query_byteAt (F : Nat) (t : StI) (x1 : Int32) : Option (Int32) := if x1 < 0 then some (-1 : Int32) else if (t 1 0) ≤ x1 then some (-1 : Int32) else if x1 < 0 ∨ 600 ≤ x1.toNatClampNeg then none else some ((t 0) x1.toNatClampNeg)
set_option maxHeartbeats 4000000 in
set_option maxRecDepth 100000 in
theorem k_Query_byteAt {p : Program} {l : Launch} {e : Env} {s : State} {m : MethodId} {args : Array Value} {below : List Frame} {meth : Method} {c : Code} {g : Gz} {A2 A : Nat → Prop} {F : Nat} {a_t : Nat → Nat} (hC : Cx prog_5_method_5_code 2 (some .int) R_Query p s m args meth c g A2 A) : ∀ (t : StI) (x1 : Int32) (res : Int32), Query_byteAt F t x1 = some res → Go p l e rm_Query_byteAt s m args below meth c g A2 A 2 (MQ below (RI res A) args s 0 0 A) ((pic_Query g a_t t)) [(0, .ref (a_t 0)), (1, .int x1)] 0 [] := by
  obtain ⟨hx, hb, hr, hml, hown, htb, hlocks, hA, hAA, hG⟩ := id hC
  have hK := hG.1
  intro t x1 res h H locs ls hP hD hS hl
  rw [Query_byteAt] at h
  refine lv_iload_n hx hb d_Query_byteAt_0 rfl (lv_at hl 1 rfl) ?_
  refine lv_if_lt (tgt := 21) hx hb d_Query_byteAt_1 (by decide) (fun c4 => ?_) (fun c4 => ?_)
  · replace h := (if_pos c4).symm.trans h
    refine lv_iconst (v := -1) hx hb d_Query_byteAt_21 (by decide) ?_
    cases h
    exact W.iret hx hb hr (fun t ht hW => ⟨⟨_, (), rfl, rfl, trivial⟩, hS.F ht⟩) hS.2.2 d_Query_byteAt_22
  · replace h := (if_neg c4).symm.trans h
    refine lv_iload_n hx hb d_Query_byteAt_4 rfl (lv_at hl 1 rfl) ?_
    refine lv_aload_n hx hb d_Query_byteAt_5 rfl (lv_at hl 0 rfl) ?_
    refine va_get (D := gD g) (ci := 1) (v := .int (t 1 0)) (C := R_Query) (T := T_Query) (N := 14) hx hb htb in_Query hown hK hP 0 rfl rfl 1 (by decide) (htb _ L_Query_15) (fun _ h9 => h9) rfl d_Query_byteAt_6 ?_
    refine lv_icmp_ge (tgt := 21) hx hb d_Query_byteAt_9 (by decide) (fun c5 => ?_) (fun c5 => ?_)
    · replace h := (if_pos c5).symm.trans h
      refine lv_iconst (v := -1) hx hb d_Query_byteAt_21 (by decide) ?_
      cases h
      exact W.iret hx hb hr (fun t ht hW => ⟨⟨_, (), rfl, rfl, trivial⟩, hS.F ht⟩) hS.2.2 d_Query_byteAt_22
    · replace h := (if_neg c5).symm.trans h
      refine lv_aload_n hx hb d_Query_byteAt_12 rfl (lv_at hl 0 rfl) ?_
      refine va_get (D := gD g) (ci := 1) (v := .ref (a_t 1)) (C := R_Query) (T := T_Query) (N := 14) hx hb htb in_Query hown hK hP 0 rfl rfl 0 (by decide) (htb _ L_Query_9) (fun _ h9 => h9) rfl d_Query_byteAt_13 ?_
      refine lv_iload_n hx hb d_Query_byteAt_16 rfl (lv_at hl 1 rfl) ?_
      by_cases c6 : (x1 < 0 ∨ 600 ≤ x1.toNatClampNeg)
      · replace h := (if_pos c6).symm.trans h
        cases h
      replace h := (if_neg c6).symm.trans h
      refine va_cald hx hb hK hP 1 1 rfl rfl c6 d_Query_byteAt_17 ?_
      refine lv_goto (tgt := 22) hx hb d_Query_byteAt_18 (by decide) ?_
      cases h
      exact W.iret hx hb hr (fun t ht hW => ⟨⟨_, (), rfl, rfl, trivial⟩, hS.F ht⟩) hS.2.2 d_Query_byteAt_22
theorem c_Query_byteAt (l : Launch) (g : Gz) (F : Nat) (a_t : Nat → Nat) (t : StI) (x1 : Int32) (res : Int32) (h : Query_byteAt F t x1 = some res) : ∀ sz : Nat, Met l y_Query_byteAt (.code y_Query_byteAt prog_5_method_5_code 2 (some .int) :: TBL) rm_Query_byteAt (va_Pc [.ref (a_t 0), .int x1] (Pre0 g ((pic_Query g a_t t)) sz)) (RI res (fun q => sz ≤ q)) 0 0 (fun q => sz ≤ q) :=
  ct_r (Qc := fun A => RI res A) (by decide) (Nat.le_of_ble_eq_true rfl) (fun p e s m args below meth c A2 A hC => k_Query_byteAt hC t x1 res h)
def Query_entryAt (F : Nat) (t : StI) (x1 : Int32) : Option (Int32) := if x1 < 0 then some (-1 : Int32) else if (t 13 0) ≤ x1 then some (-1 : Int32) else if x1 < 0 ∨ 229 ≤ x1.toNatClampNeg then none else some ((t 12) x1.toNatClampNeg)
set_option maxHeartbeats 4000000 in
set_option maxRecDepth 100000 in
theorem k_Query_entryAt {p : Program} {l : Launch} {e : Env} {s : State} {m : MethodId} {args : Array Value} {below : List Frame} {meth : Method} {c : Code} {g : Gz} {A2 A : Nat → Prop} {F : Nat} {a_t : Nat → Nat} (hC : Cx prog_5_method_6_code 2 (some .int) R_Query p s m args meth c g A2 A) : ∀ (t : StI) (x1 : Int32) (res : Int32), Query_entryAt F t x1 = some res → Go p l e rm_Query_entryAt s m args below meth c g A2 A 2 (MQ below (RI res A) args s 0 0 A) ((pic_Query g a_t t)) [(0, .ref (a_t 0)), (1, .int x1)] 0 [] := by
  obtain ⟨hx, hb, hr, hml, hown, htb, hlocks, hA, hAA, hG⟩ := id hC
  have hK := hG.1
  intro t x1 res h H locs ls hP hD hS hl
  rw [Query_entryAt] at h
  refine lv_iload_n hx hb d_Query_entryAt_0 rfl (lv_at hl 1 rfl) ?_
  refine lv_if_lt (tgt := 21) hx hb d_Query_entryAt_1 (by decide) (fun c4 => ?_) (fun c4 => ?_)
  · replace h := (if_pos c4).symm.trans h
    refine lv_iconst (v := -1) hx hb d_Query_entryAt_21 (by decide) ?_
    cases h
    exact W.iret hx hb hr (fun t ht hW => ⟨⟨_, (), rfl, rfl, trivial⟩, hS.F ht⟩) hS.2.2 d_Query_entryAt_22
  · replace h := (if_neg c4).symm.trans h
    refine lv_iload_n hx hb d_Query_entryAt_4 rfl (lv_at hl 1 rfl) ?_
    refine lv_aload_n hx hb d_Query_entryAt_5 rfl (lv_at hl 0 rfl) ?_
    refine va_get (D := gD g) (ci := 1) (v := .int (t 13 0)) (C := R_Query) (T := T_Query) (N := 14) hx hb htb in_Query hown hK hP 0 rfl rfl 13 (by decide) (htb _ L_Query_54) (fun _ h9 => h9) rfl d_Query_entryAt_6 ?_
    refine lv_icmp_ge (tgt := 21) hx hb d_Query_entryAt_9 (by decide) (fun c5 => ?_) (fun c5 => ?_)
    · replace h := (if_pos c5).symm.trans h
      refine lv_iconst (v := -1) hx hb d_Query_entryAt_21 (by decide) ?_
      cases h
      exact W.iret hx hb hr (fun t ht hW => ⟨⟨_, (), rfl, rfl, trivial⟩, hS.F ht⟩) hS.2.2 d_Query_entryAt_22
    · replace h := (if_neg c5).symm.trans h
      refine lv_aload_n hx hb d_Query_entryAt_12 rfl (lv_at hl 0 rfl) ?_
      refine va_get (D := gD g) (ci := 1) (v := .ref (a_t 13)) (C := R_Query) (T := T_Query) (N := 14) hx hb htb in_Query hown hK hP 0 rfl rfl 12 (by decide) (htb _ L_Query_51) (fun _ h9 => h9) rfl d_Query_entryAt_13 ?_
      refine lv_iload_n hx hb d_Query_entryAt_16 rfl (lv_at hl 1 rfl) ?_
      by_cases c6 : (x1 < 0 ∨ 229 ≤ x1.toNatClampNeg)
      · replace h := (if_pos c6).symm.trans h
        cases h
      replace h := (if_neg c6).symm.trans h
      refine va_iald hx hb hK hP 10 0 rfl rfl c6 d_Query_entryAt_17 ?_
      refine lv_goto (tgt := 22) hx hb d_Query_entryAt_18 (by decide) ?_
      cases h
      exact W.iret hx hb hr (fun t ht hW => ⟨⟨_, (), rfl, rfl, trivial⟩, hS.F ht⟩) hS.2.2 d_Query_entryAt_22
theorem c_Query_entryAt (l : Launch) (g : Gz) (F : Nat) (a_t : Nat → Nat) (t : StI) (x1 : Int32) (res : Int32) (h : Query_entryAt F t x1 = some res) : ∀ sz : Nat, Met l y_Query_entryAt (.code y_Query_entryAt prog_5_method_6_code 2 (some .int) :: TBL) rm_Query_entryAt (va_Pc [.ref (a_t 0), .int x1] (Pre0 g ((pic_Query g a_t t)) sz)) (RI res (fun q => sz ≤ q)) 0 0 (fun q => sz ≤ q) :=
  ct_r (Qc := fun A => RI res A) (by decide) (Nat.le_of_ble_eq_true rfl) (fun p e s m args below meth c A2 A hC => k_Query_entryAt hC t x1 res h)
def Query_find_3 (F : Nat) : Nat → StI → Int32 → Int32 → Int32 → Option (Int32)
  | 0, _, _, _, _ => none
  | n + 1, t, x1, x3, x4 => if x3 ≤ x4 then some (-1 : Int32) else (Query_byteAt F t x4).bind fun r5 => if r5 = x1 then some x4 else Query_find_3 F n t x1 x3 (x4 + (1 : Int32))
def Query_find (F : Nat) (t : StI) (x1 : Int32) (x2 : Int32) (x3 : Int32) : Option (Int32) := Query_find_3 F F t x1 x3 x2
set_option maxHeartbeats 4000000 in
set_option maxRecDepth 100000 in
theorem k_Query_find_3 {p : Program} {l : Launch} {e : Env} {s : State} {m : MethodId} {args : Array Value} {below : List Frame} {meth : Method} {c : Code} {g : Gz} {A2 A : Nat → Prop} {F : Nat} {a_t : Nat → Nat} (hC : Cx prog_5_method_7_code 5 (some .int) R_Query p s m args meth c g A2 A) : ∀ (n : Nat) (t : StI) (x1 : Int32) (x3 : Int32) (x4 : Int32) (res : Int32), Query_find_3 F n t x1 x3 x4 = some res → Go p l e rm_Query_find s m args below meth c g A2 A 5 (MQ below (RI res A) args s 0 0 A) ((pic_Query g a_t t)) [(0, .ref (a_t 0)), (1, .int x1), (3, .int x3), (4, .int x4)] 3 [] := by
  obtain ⟨hx, hb, hr, hml, hown, htb, hlocks, hA, hAA, hG⟩ := id hC
  have hK := hG.1
  intro n
  induction n with
  | zero => intro t x1 x3 x4 res h; rw [Query_find_3] at h; cases h
  | succ n ih =>
    intro t x1 x3 x4 res h H locs ls hP hD hS hl
    rw [Query_find_3] at h
    refine lv_iload hx hb d_Query_find_3 (lv_at hl 3 rfl) ?_
    refine lv_iload_n hx hb d_Query_find_5 rfl (lv_at hl 2 rfl) ?_
    refine lv_icmp_ge (tgt := 28) hx hb d_Query_find_6 (by decide) (fun c4 => ?_) (fun c4 => ?_)
    · replace h := (if_pos c4).symm.trans h
      refine lv_iconst (v := -1) hx hb d_Query_find_28 (by decide) ?_
      cases h
      exact W.iret hx hb hr (fun t ht hW => ⟨⟨_, (), rfl, rfl, trivial⟩, hS.F ht⟩) hS.2.2 d_Query_find_29
    · replace h := (if_neg c4).symm.trans h
      refine lv_aload_n hx hb d_Query_find_9 rfl (lv_at hl 0 rfl) ?_
      refine lv_iload hx hb d_Query_find_10 (lv_at hl 3 rfl) ?_
      obtain ⟨r5, hr5, h⟩ := Option.bind_eq_some_iff.mp h
      refine cl_Ir hP hS hA (va_runV (As := [.int x4]) (rest := []) ⟨hx, hb, hml, hown, htb⟩ (c_Query_byteAt l g F a_t t x4 _ hr5 H.size) (cw_V htb mb_Query_byteAt (htb _ L_Query_72) rfl rfl ⟨Nat.le_of_ble_eq_true rfl, Nat.le_of_ble_eq_true rfl⟩) (pre_V (va_recv hK hP (ci := 1) (q0 := 0) rfl rfl) (pre_S [0, 1, 2, 3, 4, 5, 6, 7, 8, 9, 10] rfl rfl hP hD hS hA hAA hG)) rfl rfl hl.1 rfl (lv_room (Nat.le_of_ble_eq_true rfl)) d_Query_find_12 ⟨Nat.zero_le _, Nat.zero_le _⟩) (fun H locs hP hS => ?_)
      refine lv_iload_n hx hb d_Query_find_15 rfl (lv_at hl 1 rfl) ?_
      refine lv_icmp_ne (tgt := 22) hx hb d_Query_find_16 (by decide) (fun c6 => ?_) (fun c6 => ?_)
      · replace h := (if_neg c6).symm.trans h
        refine lv_iinc (v := (x4 + (1 : Int32))) (lv' := [(4, .int (x4 + (1 : Int32))), (0, .ref (a_t 0)), (1, .int x1), (3, .int x3)]) hx hb d_Query_find_22 hl (k := 3) rfl rfl (by decide) rfl (fun ls hl => ?_)
        refine lv_goto (tgt := 3) hx hb d_Query_find_25 (by decide) ?_
        exact ih _ _ _ _ _ h _ _ _ hP hD hS (lv_sub hl [1, 2, 3, 0] rfl)
      · replace h := (if_pos c6).symm.trans h
        refine lv_iload hx hb d_Query_find_19 (lv_at hl 3 rfl) ?_
        cases h
        exact W.iret hx hb hr (fun t ht hW => ⟨⟨_, (), rfl, rfl, trivial⟩, hS.F ht⟩) hS.2.2 d_Query_find_21
set_option maxHeartbeats 4000000 in
set_option maxRecDepth 100000 in
theorem k_Query_find {p : Program} {l : Launch} {e : Env} {s : State} {m : MethodId} {args : Array Value} {below : List Frame} {meth : Method} {c : Code} {g : Gz} {A2 A : Nat → Prop} {F : Nat} {a_t : Nat → Nat} (hC : Cx prog_5_method_7_code 5 (some .int) R_Query p s m args meth c g A2 A) : ∀ (t : StI) (x1 : Int32) (x2 : Int32) (x3 : Int32) (res : Int32), Query_find F t x1 x2 x3 = some res → Go p l e rm_Query_find s m args below meth c g A2 A 5 (MQ below (RI res A) args s 0 0 A) ((pic_Query g a_t t)) [(0, .ref (a_t 0)), (1, .int x1), (2, .int x2), (3, .int x3)] 0 [] := by
  obtain ⟨hx, hb, hr, hml, hown, htb, hlocks, hA, hAA, hG⟩ := id hC
  have hK := hG.1
  intro t x1 x2 x3 res h H locs ls hP hD hS hl
  rw [Query_find] at h
  refine lv_iload_n hx hb d_Query_find_0 rfl (lv_at hl 2 rfl) ?_
  refine lv_istore (lv' := [(4, .int x2), (0, .ref (a_t 0)), (1, .int x1), (2, .int x2), (3, .int x3)]) hx hb d_Query_find_1 hl (by decide) rfl (fun ls hl => ?_)
  exact k_Query_find_3 hC F _ _ _ _ _ h _ _ _ hP hD hS (lv_sub hl [1, 2, 4, 0] rfl)
theorem c_Query_find (l : Launch) (g : Gz) (F : Nat) (a_t : Nat → Nat) (t : StI) (x1 : Int32) (x2 : Int32) (x3 : Int32) (res : Int32) (h : Query_find F t x1 x2 x3 = some res) : ∀ sz : Nat, Met l y_Query_find (.code y_Query_find prog_5_method_7_code 5 (some .int) :: TBL) rm_Query_find (va_Pc [.ref (a_t 0), .int x1, .int x2, .int x3] (Pre0 g ((pic_Query g a_t t)) sz)) (RI res (fun q => sz ≤ q)) 0 0 (fun q => sz ≤ q) :=
  ct_r (Qc := fun A => RI res A) (by decide) (Nat.le_of_ble_eq_true rfl) (fun p e s m args below meth c A2 A hC => k_Query_find hC t x1 x2 x3 res h)
def Query_says_15 (F : Nat) : Nat → StI → Int32 → Nat → Int32 → Option (Int32)
  | 0, _, _, _, _ => none
  | n + 1, t, x1, x3, x4 => (String_length F x3).bind fun r8 => if r8 ≤ x4 then some (1 : Int32) else (Query_byteAt F t (x1 + x4)).bind fun r10 => (String_charAt F x3 x4).bind fun r11 => if r10 = r11 then Query_says_15 F n t x1 x3 (x4 + (1 : Int32)) else some (0 : Int32)
def Query_says (F : Nat) (t : StI) (x1 : Int32) (x2 : Int32) (x3 : Nat) : Option (Int32) := (String_length F x3).bind fun r13 => if (x2 - x1) = r13 then Query_says_15 F F t x1 x3 (0 : Int32) else some (0 : Int32)
set_option maxHeartbeats 4000000 in
set_option maxRecDepth 100000 in
theorem k_Query_says_15 {p : Program} {l : Launch} {e : Env} {s : State} {m : MethodId} {args : Array Value} {below : List Frame} {meth : Method} {c : Code} {g : Gz} {A2 A : Nat → Prop} {F : Nat} {a_t : Nat → Nat} (hC : Cx prog_5_method_8_code 5 (some .boolean) R_Query p s m args meth c g A2 A) : ∀ (n : Nat) (t : StI) (x1 : Int32) (x3 : Nat) (x4 : Int32) (res : Int32), Query_says_15 F n t x1 x3 x4 = some res → Go p l e rm_Query_says s m args below meth c g A2 A 5 (MQ below (RI res A) args s 0 0 A) ((pic_Query g a_t t)) [(0, .ref (a_t 0)), (1, .int x1), (3, .ref (g.2.2.2.1 x3)), (4, .int x4)] 15 [] := by
  obtain ⟨hx, hb, hr, hml, hown, htb, hlocks, hA, hAA, hG⟩ := id hC
  have hK := hG.1
  intro n
  induction n with
  | zero => intro t x1 x3 x4 res h; rw [Query_says_15] at h; cases h
  | succ n ih =>
    intro t x1 x3 x4 res h H locs ls hP hD hS hl
    rw [Query_says_15] at h
    refine lv_iload hx hb d_Query_says_15 (lv_at hl 3 rfl) ?_
    refine lv_aload_n hx hb d_Query_says_17 rfl (lv_at hl 2 rfl) ?_
    obtain ⟨r8, hr8, h⟩ := Option.bind_eq_some_iff.mp h
    refine cl_Ir hP hS hA (va_runV (As := []) (rest := [.int x4]) ⟨hx, hb, hml, hown, htb⟩ (c_String_length l g F x3 _ hr8 H.size) (cw_V htb mb_String_length (htb _ L_Query_76) rfl rfl ⟨Nat.le_of_ble_eq_true rfl, Nat.le_of_ble_eq_true rfl⟩) (pre_V (vk_recv (hG.2.2.2.1.narrow hAA) (lit_len hr8) hS) (pre_S [] rfl rfl hP hD hS hA hAA hG)) rfl rfl hl.1 rfl (lv_room (Nat.le_of_ble_eq_true rfl)) d_Query_says_18 ⟨Nat.zero_le _, Nat.zero_le _⟩) (fun H locs hP hS => ?_)
    refine lv_icmp_ge (tgt := 49) hx hb d_Query_says_21 (by decide) (fun c9 => ?_) (fun c9 => ?_)
    · replace h := (if_pos c9).symm.trans h
      refine lv_iconst (v := 1) hx hb d_Query_says_49 (by decide) ?_
      cases h
      exact W.zret hx hb hr rfl (fun t ht hW => ⟨⟨_, (), rfl, rfl, trivial⟩, hS.F ht⟩) hS.2.2 d_Query_says_50
    · replace h := (if_neg c9).symm.trans h
      refine lv_aload_n hx hb d_Query_says_24 rfl (lv_at hl 0 rfl) ?_
      refine lv_iload_n hx hb d_Query_says_25 rfl (lv_at hl 1 rfl) ?_
      refine lv_iload hx hb d_Query_says_26 (lv_at hl 3 rfl) ?_
      refine lv_iadd hx hb d_Query_says_28 ?_
      obtain ⟨r10, hr10, h⟩ := Option.bind_eq_some_iff.mp h
      refine cl_Ir hP hS hA (va_runV (As := [.int (x1 + x4)]) (rest := []) ⟨hx, hb, hml, hown, htb⟩ (c_Query_byteAt l g F a_t t (x1 + x4) _ hr10 H.size) (cw_V htb mb_Query_byteAt (htb _ L_Query_72) rfl rfl ⟨Nat.le_of_ble_eq_true rfl, Nat.le_of_ble_eq_true rfl⟩) (pre_V (va_recv hK hP (ci := 1) (q0 := 0) rfl rfl) (pre_S [0, 1, 2, 3, 4, 5, 6, 7, 8, 9, 10] rfl rfl hP hD hS hA hAA hG)) rfl rfl hl.1 rfl (lv_room (Nat.le_of_ble_eq_true rfl)) d_Query_says_29 ⟨Nat.zero_le _, Nat.zero_le _⟩) (fun H locs hP hS => ?_)
      refine lv_aload_n hx hb d_Query_says_32 rfl (lv_at hl 2 rfl) ?_
      refine lv_iload hx hb d_Query_says_33 (lv_at hl 3 rfl) ?_
      obtain ⟨r11, hr11, h⟩ := Option.bind_eq_some_iff.mp h
      refine cl_Ir hP hS hA (va_runV (As := [.int x4]) (rest := [.int r10]) ⟨hx, hb, hml, hown, htb⟩ (c_String_charAt l g F x3 x4 _ hr11 H.size) (cw_V htb mb_String_charAt (htb _ L_Query_81) rfl rfl ⟨Nat.le_of_ble_eq_true rfl, Nat.le_of_ble_eq_true rfl⟩) (pre_V (vk_recv (hG.2.2.2.1.narrow hAA) (lit_ch hr11) hS) (pre_S [] rfl rfl hP hD hS hA hAA hG)) rfl rfl hl.1 rfl (lv_room (Nat.le_of_ble_eq_true rfl)) d_Query_says_35 ⟨Nat.zero_le _, Nat.zero_le _⟩) (fun H locs hP hS => ?_)
      refine lv_icmp_eq (tgt := 43) hx hb d_Query_says_38 (by decide) (fun c12 => ?_) (fun c12 => ?_)
      · replace h := (if_pos c12).symm.trans h
        refine lv_iinc (v := (x4 + (1 : Int32))) (lv' := [(4, .int (x4 + (1 : Int32))), (0, .ref (a_t 0)), (1, .int x1), (3, .ref (g.2.2.2.1 x3))]) hx hb d_Query_says_43 hl (k := 3) rfl rfl (by decide) rfl (fun ls hl => ?_)
        refine lv_goto (tgt := 15) hx hb d_Query_says_46 (by decide) ?_
        exact ih _ _ _ _ _ h _ _ _ hP hD hS (lv_sub hl [1, 2, 3, 0] rfl)
      · replace h := (if_neg c12).symm.trans h
        refine lv_iconst (v := 0) hx hb d_Query_says_41 (by decide) ?_
        cases h
        exact W.zret hx hb hr rfl (fun t ht hW => ⟨⟨_, (), rfl, rfl, trivial⟩, hS.F ht⟩) hS.2.2 d_Query_says_42
set_option maxHeartbeats 4000000 in
set_option maxRecDepth 100000 in
theorem k_Query_says {p : Program} {l : Launch} {e : Env} {s : State} {m : MethodId} {args : Array Value} {below : List Frame} {meth : Method} {c : Code} {g : Gz} {A2 A : Nat → Prop} {F : Nat} {a_t : Nat → Nat} (hC : Cx prog_5_method_8_code 5 (some .boolean) R_Query p s m args meth c g A2 A) : ∀ (t : StI) (x1 : Int32) (x2 : Int32) (x3 : Nat) (res : Int32), Query_says F t x1 x2 x3 = some res → Go p l e rm_Query_says s m args below meth c g A2 A 5 (MQ below (RI res A) args s 0 0 A) ((pic_Query g a_t t)) [(0, .ref (a_t 0)), (1, .int x1), (2, .int x2), (3, .ref (g.2.2.2.1 x3))] 0 [] := by
  obtain ⟨hx, hb, hr, hml, hown, htb, hlocks, hA, hAA, hG⟩ := id hC
  have hK := hG.1
  intro t x1 x2 x3 res h H locs ls hP hD hS hl
  rw [Query_says] at h
  refine lv_iload_n hx hb d_Query_says_0 rfl (lv_at hl 2 rfl) ?_
  refine lv_iload_n hx hb d_Query_says_1 rfl (lv_at hl 1 rfl) ?_
  refine lv_isub hx hb d_Query_says_2 ?_
  refine lv_aload_n hx hb d_Query_says_3 rfl (lv_at hl 3 rfl) ?_
  obtain ⟨r13, hr13, h⟩ := Option.bind_eq_some_iff.mp h
  refine cl_Ir hP hS hA (va_runV (As := []) (rest := [.int (x2 - x1)]) ⟨hx, hb, hml, hown, htb⟩ (c_String_length l g F x3 _ hr13 H.size) (cw_V htb mb_String_length (htb _ L_Query_76) rfl rfl ⟨Nat.le_of_ble_eq_true rfl, Nat.le_of_ble_eq_true rfl⟩) (pre_V (vk_recv (hG.2.2.2.1.narrow hAA) (lit_len hr13) hS) (pre_S [] rfl rfl hP hD hS hA hAA hG)) rfl rfl hl.1 rfl (lv_room (Nat.le_of_ble_eq_true rfl)) d_Query_says_4 ⟨Nat.zero_le _, Nat.zero_le _⟩) (fun H locs hP hS => ?_)
  refine lv_icmp_eq (tgt := 12) hx hb d_Query_says_7 (by decide) (fun c14 => ?_) (fun c14 => ?_)
  · replace h := (if_pos c14).symm.trans h
    refine lv_iconst (v := 0) hx hb d_Query_says_12 (by decide) ?_
    refine lv_istore (lv' := [(4, .int (0 : Int32)), (0, .ref (a_t 0)), (1, .int x1), (2, .int x2), (3, .ref (g.2.2.2.1 x3))]) hx hb d_Query_says_13 hl (by decide) rfl (fun ls hl => ?_)
    exact k_Query_says_15 hC F _ _ _ _ _ h _ _ _ hP hD hS (lv_sub hl [1, 2, 4, 0] rfl)
  · replace h := (if_neg c14).symm.trans h
    refine lv_iconst (v := 0) hx hb d_Query_says_10 (by decide) ?_
    cases h
    exact W.zret hx hb hr rfl (fun t ht hW => ⟨⟨_, (), rfl, rfl, trivial⟩, hS.F ht⟩) hS.2.2 d_Query_says_11
theorem c_Query_says (l : Launch) (g : Gz) (F : Nat) (a_t : Nat → Nat) (t : StI) (x1 : Int32) (x2 : Int32) (x3 : Nat) (res : Int32) (h : Query_says F t x1 x2 x3 = some res) : ∀ sz : Nat, Met l y_Query_says (.code y_Query_says prog_5_method_8_code 5 (some .boolean) :: TBL) rm_Query_says (va_Pc [.ref (a_t 0), .int x1, .int x2, .ref (g.2.2.2.1 x3)] (Pre0 g ((pic_Query g a_t t)) sz)) (RI res (fun q => sz ≤ q)) 0 0 (fun q => sz ≤ q) :=
  ct_r (Qc := fun A => RI res A) (by decide) (Nat.le_of_ble_eq_true rfl) (fun p e s m args below meth c A2 A hC => k_Query_says hC t x1 x2 x3 res h)
def Query_insert (F : Nat) (t : StI) (x1 : Int32) (x2 : Int32) : Option (StI) := if x1 < 0 then some t else if (t 13 0) < x1 then some t else if (t 13 0) < (229 : Int32) then if x1 < 0 then none else if (x1 + (1 : Int32)) < 0 then none else if ((t 13 0) - x1) < 0 then none else if 229 < x1.toNatClampNeg + ((t 13 0) - x1).toNatClampNeg then none else if 229 < (x1 + (1 : Int32)).toNatClampNeg + ((t 13 0) - x1).toNatClampNeg then none else letS (va_up t 12 (va_cpy (t 12) (t 12) x1.toNatClampNeg (x1 + (1 : Int32)).toNatClampNeg ((t 13 0) - x1).toNatClampNeg)) fun t_17 => if x1 < 0 ∨ 229 ≤ x1.toNatClampNeg then none else letS (va_up t_17 12 (upd (t_17 12) x1.toNatClampNeg x2)) fun t_24 => letS (va_up t_24 13 (fun _ => ((t_24 13 0) + (1 : Int32)))) fun t_26 => some t_26 else some t
set_option maxHeartbeats 4000000 in
set_option maxRecDepth 100000 in
theorem k_Query_insert {p : Program} {l : Launch} {e : Env} {s : State} {m : MethodId} {args : Array Value} {below : List Frame} {meth : Method} {c : Code} {g : Gz} {A : Nat → Prop} {F : Nat} {a_t : Nat → Nat} (hC : Cx prog_5_method_9_code 3 none R_Query p s m args meth c g A A) : ∀ (t : StI) (x1 : Int32) (x2 : Int32) (res : StI), Query_insert F t x1 x2 = some res → Go p l e rm_Query_insert s m args below meth c g A A 3 (MQ below (EV g ((pic_Query g a_t res)) A) args s 0 0 A) ((pic_Query g a_t t)) [(0, .ref (a_t 0)), (1, .int x1), (2, .int x2)] 0 [] := by
  obtain ⟨hx, hb, hr, hml, hown, htb, hlocks, hA, hAA, hG⟩ := id hC
  have hK := hG.1
  intro t x1 x2 res h H locs ls hP hD hS hl
  rw [Query_insert] at h
  refine lv_iload_n hx hb d_Query_insert_0 rfl (lv_at hl 1 rfl) ?_
  refine lv_if_lt (tgt := 24) hx hb d_Query_insert_1 (by decide) (fun c14 => ?_) (fun c14 => ?_)
  · replace h := (if_pos c14).symm.trans h
    cases h
    exact W.vret hx hb hr (fun t ht hW => ⟨⟨(), rfl, trivial, by rw [ht]; exact hP, hD⟩, hS.F ht⟩) hS.2.2 d_Query_insert_24
  · replace h := (if_neg c14).symm.trans h
    refine lv_iload_n hx hb d_Query_insert_4 rfl (lv_at hl 1 rfl) ?_
    refine lv_aload_n hx hb d_Query_insert_5 rfl (lv_at hl 0 rfl) ?_
    refine va_get (D := gD g) (ci := 1) (v := .int (t 13 0)) (C := R_Query) (T := T_Query) (N := 14) hx hb htb in_Query hown hK hP 0 rfl rfl 13 (by decide) (htb _ L_Query_54) (fun _ h9 => h9) rfl d_Query_insert_6 ?_
    refine lv_icmp_gt (tgt := 24) hx hb d_Query_insert_9 (by decide) (fun c15 => ?_) (fun c15 => ?_)
    · replace h := (if_pos c15).symm.trans h
      cases h
      exact W.vret hx hb hr (fun t ht hW => ⟨⟨(), rfl, trivial, by rw [ht]; exact hP, hD⟩, hS.F ht⟩) hS.2.2 d_Query_insert_24
    · replace h := (if_neg c15).symm.trans h
      refine lv_aload_n hx hb d_Query_insert_12 rfl (lv_at hl 0 rfl) ?_
      refine va_get (D := gD g) (ci := 1) (v := .int (t 13 0)) (C := R_Query) (T := T_Query) (N := 14) hx hb htb in_Query hown hK hP 0 rfl rfl 13 (by decide) (htb _ L_Query_54) (fun _ h9 => h9) rfl d_Query_insert_13 ?_
      refine lv_aload_n hx hb d_Query_insert_16 rfl (lv_at hl 0 rfl) ?_
      refine va_get (D := gD g) (ci := 1) (v := .ref (a_t 13)) (C := R_Query) (T := T_Query) (N := 14) hx hb htb in_Query hown hK hP 0 rfl rfl 12 (by decide) (htb _ L_Query_51) (fun _ h9 => h9) rfl d_Query_insert_17 ?_
      refine va_alen hx hb hK hP 10 0 rfl rfl rfl d_Query_insert_20 ?_
      refine lv_icmp_lt (tgt := 25) hx hb d_Query_insert_21 (by decide) (fun c16 => ?_) (fun c16 => ?_)
      · replace h := (if_pos c16).symm.trans h
        refine lv_aload_n hx hb d_Query_insert_25 rfl (lv_at hl 0 rfl) ?_
        refine va_get (D := gD g) (ci := 1) (v := .ref (a_t 13)) (C := R_Query) (T := T_Query) (N := 14) hx hb htb in_Query hown hK hP 0 rfl rfl 12 (by decide) (htb _ L_Query_51) (fun _ h9 => h9) rfl d_Query_insert_26 ?_
        refine lv_iload_n hx hb d_Query_insert_29 rfl (lv_at hl 1 rfl) ?_
        refine lv_aload_n hx hb d_Query_insert_30 rfl (lv_at hl 0 rfl) ?_
        refine va_get (D := gD g) (ci := 1) (v := .ref (a_t 13)) (C := R_Query) (T := T_Query) (N := 14) hx hb htb in_Query hown hK hP 0 rfl rfl 12 (by decide) (htb _ L_Query_51) (fun _ h9 => h9) rfl d_Query_insert_31 ?_
        refine lv_iload_n hx hb d_Query_insert_34 rfl (lv_at hl 1 rfl) ?_
        refine lv_iconst (v := 1) hx hb d_Query_insert_35 (by decide) ?_
        refine lv_iadd hx hb d_Query_insert_36 ?_
        refine lv_aload_n hx hb d_Query_insert_37 rfl (lv_at hl 0 rfl) ?_
        refine va_get (D := gD g) (ci := 1) (v := .int (t 13 0)) (C := R_Query) (T := T_Query) (N := 14) hx hb htb in_Query hown hK hP 0 rfl rfl 13 (by decide) (htb _ L_Query_54) (fun _ h9 => h9) rfl d_Query_insert_38 ?_
        refine lv_iload_n hx hb d_Query_insert_41 rfl (lv_at hl 1 rfl) ?_
        refine lv_isub hx hb d_Query_insert_42 ?_
        by_cases c18 : x1 < 0
        · replace h := (if_pos c18).symm.trans h
          cases h
        replace h := (if_neg c18).symm.trans h
        by_cases c19 : (x1 + (1 : Int32)) < 0
        · replace h := (if_pos c19).symm.trans h
          cases h
        replace h := (if_neg c19).symm.trans h
        by_cases c20 : ((t 13 0) - x1) < 0
        · replace h := (if_pos c20).symm.trans h
          cases h
        replace h := (if_neg c20).symm.trans h
        by_cases c21 : 229 < x1.toNatClampNeg + ((t 13 0) - x1).toNatClampNeg
        · replace h := (if_pos c21).symm.trans h
          cases h
        replace h := (if_neg c21).symm.trans h
        by_cases c22 : 229 < (x1 + (1 : Int32)).toNatClampNeg + ((t 13 0) - x1).toNatClampNeg
        · replace h := (if_pos c22).symm.trans h
          cases h
        replace h := (if_neg c22).symm.trans h
        refine va_copyi hx hb (hml.trans hl.1.symm) hown (htb _ L_Query_66) (htb _ W_copy_native) (htb _ W_copy_static) (htb _ W_system_init) hK hP hD hS 10 10 0 0 rfl rfl rfl rfl rfl c18 c19 c20 (Nat.not_lt.mp c21) (Nat.not_lt.mp c22) (fun _ _ => rfl) (Nat.le_of_ble_eq_true rfl) (by decide +kernel) d_Query_insert_43 (fun H locs hP hD hS => ?_)
        obtain ⟨t_17, et_17, h⟩ := letS_el h
        have hP : va_P (gD g) vwCl ((pic_Query g a_t t_17)) H := by rw [et_17]; exact hP
        have hD : va_D A ((pic_Query g a_t t_17)) := by rw [et_17]; exact hD
        refine lv_aload_n hx hb d_Query_insert_46 rfl (lv_at hl 0 rfl) ?_
        refine va_get (D := gD g) (ci := 1) (v := .ref (a_t 13)) (C := R_Query) (T := T_Query) (N := 14) hx hb htb in_Query hown hK hP 0 rfl rfl 12 (by decide) (htb _ L_Query_51) (fun _ h9 => h9) rfl d_Query_insert_47 ?_
        refine lv_iload_n hx hb d_Query_insert_50 rfl (lv_at hl 1 rfl) ?_
        refine lv_iload_n hx hb d_Query_insert_51 rfl (lv_at hl 2 rfl) ?_
        by_cases c25 : (x1 < 0 ∨ 229 ≤ x1.toNatClampNeg)
        · replace h := (if_pos c25).symm.trans h
          cases h
        replace h := (if_neg c25).symm.trans h
        refine va_iast hx hb hK hP hD hS 10 0 rfl rfl c25 d_Query_insert_52 (fun H locs hP hD hS => ?_)
        obtain ⟨t_24, et_24, h⟩ := letS_el h
        have hP : va_P (gD g) vwCl ((pic_Query g a_t t_24)) H := by rw [et_24]; exact hP
        have hD : va_D A ((pic_Query g a_t t_24)) := by rw [et_24]; exact hD
        refine lv_aload_n hx hb d_Query_insert_53 rfl (lv_at hl 0 rfl) ?_
        refine lv_dup hx hb d_Query_insert_54 rfl ?_
        refine va_get (D := gD g) (ci := 1) (v := .int (t_24 13 0)) (C := R_Query) (T := T_Query) (N := 14) hx hb htb in_Query hown hK hP 0 rfl rfl 13 (by decide) (htb _ L_Query_54) (fun _ h9 => h9) rfl d_Query_insert_55 ?_
        refine lv_iconst (v := 1) hx hb d_Query_insert_58 (by decide) ?_
        refine lv_iadd hx hb d_Query_insert_59 ?_
        refine va_put (D := gD g) (ci := 1) (v := .int ((t_24 13 0) + (1 : Int32))) (ty := .int) (C := R_Query) (T := T_Query) (N := 14) hx hb htb in_Query ty_Query ty_Query_ok nm_Query hown hK hP hD hS 0 rfl rfl 13 (by decide) (htb _ L_Query_54) (fun _ h9 => h9) rfl (by decide +kernel) rfl rfl (Nat.le_of_ble_eq_true rfl) d_Query_insert_60 (fun H locs hP hD hS => ?_)
        obtain ⟨t_26, et_26, h⟩ := letS_el h
        have hP : va_P (gD g) vwCl ((pic_Query g a_t t_26)) H := by rw [et_26]; exact hP
        have hD : va_D A ((pic_Query g a_t t_26)) := by rw [et_26]; exact hD
        cases h
        exact W.vret hx hb hr (fun t ht hW => ⟨⟨(), rfl, trivial, by rw [ht]; exact hP, hD⟩, hS.F ht⟩) hS.2.2 d_Query_insert_63
      · replace h := (if_neg c16).symm.trans h
        cases h
        exact W.vret hx hb hr (fun t ht hW => ⟨⟨(), rfl, trivial, by rw [ht]; exact hP, hD⟩, hS.F ht⟩) hS.2.2 d_Query_insert_24
theorem c_Query_insert (l : Launch) (g : Gz) (F : Nat) (a_t : Nat → Nat) (t : StI) (x1 : Int32) (x2 : Int32) (res : StI) (h : Query_insert F t x1 x2 = some res) : ∀ sz : Nat, Met l y_Query_insert (.code y_Query_insert prog_5_method_9_code 3 none :: TBL) rm_Query_insert (va_Pc [.ref (a_t 0), .int x1, .int x2] (Pre0 g ((pic_Query g a_t t)) sz)) (EV g ((pic_Query g a_t res)) (va_A ((pic_Query g a_t t)) sz)) 0 0 (va_A ((pic_Query g a_t t)) sz) :=
  ct_w (Qc := fun A => EV g ((pic_Query g a_t res)) A) (by decide) (Nat.le_of_ble_eq_true rfl) (fun p e s m args below meth c A hC => k_Query_insert hC t x1 x2 res h)
def Query_append (F : Nat) (t : StI) (x1 : Int32) : Option (StI) := (Query_insert F t (t 13 0) x1).bind fun r2 => some r2
set_option maxHeartbeats 4000000 in
set_option maxRecDepth 100000 in
theorem k_Query_append {p : Program} {l : Launch} {e : Env} {s : State} {m : MethodId} {args : Array Value} {below : List Frame} {meth : Method} {c : Code} {g : Gz} {A : Nat → Prop} {F : Nat} {a_t : Nat → Nat} (hC : Cx prog_5_method_10_code 2 none R_Query p s m args meth c g A A) : ∀ (t : StI) (x1 : Int32) (res : StI), Query_append F t x1 = some res → Go p l e rm_Query_append s m args below meth c g A A 2 (MQ below (EV g ((pic_Query g a_t res)) A) args s 0 0 A) ((pic_Query g a_t t)) [(0, .ref (a_t 0)), (1, .int x1)] 0 [] := by
  obtain ⟨hx, hb, hr, hml, hown, htb, hlocks, hA, hAA, hG⟩ := id hC
  have hK := hG.1
  intro t x1 res h H locs ls hP hD hS hl
  rw [Query_append] at h
  refine lv_aload_n hx hb d_Query_append_0 rfl (lv_at hl 0 rfl) ?_
  refine lv_aload_n hx hb d_Query_append_1 rfl (lv_at hl 0 rfl) ?_
  refine va_get (D := gD g) (ci := 1) (v := .int (t 13 0)) (C := R_Query) (T := T_Query) (N := 14) hx hb htb in_Query hown hK hP 0 rfl rfl 13 (by decide) (htb _ L_Query_54) (fun _ h9 => h9) rfl d_Query_append_2 ?_
  refine lv_iload_n hx hb d_Query_append_5 rfl (lv_at hl 1 rfl) ?_
  obtain ⟨r2, hr2, h⟩ := Option.bind_eq_some_iff.mp h
  refine cl_V (wr := []) [0, 1, 2, 3, 4, 5, 6, 7, 8, 9, 10] [] rfl rfl rfl (by decide) hP hD hS hA (va_runV (As := [.int (t 13 0), .int x1]) (rest := []) ⟨hx, hb, hml, hown, htb⟩ (c_Query_insert l g F a_t t (t 13 0) x1 _ hr2 H.size) (cw_V htb mb_Query_insert (htb _ L_Query_85) rfl rfl ⟨Nat.le_of_ble_eq_true rfl, Nat.le_of_ble_eq_true rfl⟩) (pre_V (va_recv hK hP (ci := 1) (q0 := 0) rfl rfl) (pre_S [0, 1, 2, 3, 4, 5, 6, 7, 8, 9, 10] rfl rfl hP hD hS hA hAA hG)) rfl rfl hl.1 rfl (lv_room (Nat.le_of_ble_eq_true rfl)) d_Query_append_6 ⟨Nat.zero_le _, Nat.zero_le _⟩) (fun H locs hP hD hS => ?_)
  have hP : va_P (gD g) vwCl ((pic_Query g a_t r2)) H := hP.sub [0, 1, 2, 3, 4, 5, 6, 7, 8, 9, 10] rfl
  have hD : va_D A ((pic_Query g a_t r2)) := hD.sub [0, 1, 2, 3, 4, 5, 6, 7, 8, 9, 10] rfl rfl
  cases h
  exact W.vret hx hb hr (fun t ht hW => ⟨⟨(), rfl, trivial, by rw [ht]; exact hP, hD⟩, hS.F ht⟩) hS.2.2 d_Query_append_9
theorem c_Query_append (l : Launch) (g : Gz) (F : Nat) (a_t : Nat → Nat) (t : StI) (x1 : Int32) (res : StI) (h : Query_append F t x1 = some res) : ∀ sz : Nat, Met l y_Query_append (.code y_Query_append prog_5_method_10_code 2 none :: TBL) rm_Query_append (va_Pc [.ref (a_t 0), .int x1] (Pre0 g ((pic_Query g a_t t)) sz)) (EV g ((pic_Query g a_t res)) (va_A ((pic_Query g a_t t)) sz)) 0 0 (va_A ((pic_Query g a_t t)) sz) :=
  ct_w (Qc := fun A => EV g ((pic_Query g a_t res)) A) (by decide) (Nat.le_of_ble_eq_true rfl) (fun p e s m args below meth c A hC => k_Query_append hC t x1 res h)
def Query_sameLetters_3 (F : Nat) : Nat → StI → Int32 → Int32 → Int32 → Int32 → Option (Int32)
  | 0, _, _, _, _, _ => none
  | n + 1, t, x1, x2, x3, x4 => if x3 ≤ x4 then some (1 : Int32) else (Query_byteAt F t (x1 + x4)).bind fun r8 => (MQ_small F r8).bind fun r9 => (Query_byteAt F t (x2 + x4)).bind fun r10 => (MQ_small F r10).bind fun r11 => if r9 = r11 then Query_sameLetters_3 F n t x1 x2 x3 (x4 + (1 : Int32)) else some (0 : Int32)
def Query_sameLetters (F : Nat) (t : StI) (x1 : Int32) (x2 : Int32) (x3 : Int32) : Option (Int32) := Query_sameLetters_3 F F t x1 x2 x3 (0 : Int32)
set_option maxHeartbeats 4000000 in
set_option maxRecDepth 100000 in
theorem k_Query_sameLetters_3 {p : Program} {l : Launch} {e : Env} {s : State} {m : MethodId} {args : Array Value} {below : List Frame} {meth : Method} {c : Code} {g : Gz} {A2 A : Nat → Prop} {F : Nat} {a_t : Nat → Nat} (hC : Cx prog_5_method_13_code 5 (some .boolean) R_Query p s m args meth c g A2 A) : ∀ (n : Nat) (t : StI) (x1 : Int32) (x2 : Int32) (x3 : Int32) (x4 : Int32) (res : Int32), Query_sameLetters_3 F n t x1 x2 x3 x4 = some res → Go p l e rm_Query_sameLetters s m args below meth c g A2 A 5 (MQ below (RI res A) args s 0 0 A) ((pic_Query g a_t t)) [(0, .ref (a_t 0)), (1, .int x1), (2, .int x2), (3, .int x3), (4, .int x4)] 3 [] := by
  obtain ⟨hx, hb, hr, hml, hown, htb, hlocks, hA, hAA, hG⟩ := id hC
  have hK := hG.1
  intro n
  induction n with
  | zero => intro t x1 x2 x3 x4 res h; rw [Query_sameLetters_3] at h; cases h
  | succ n ih =>
    intro t x1 x2 x3 x4 res h H locs ls hP hD hS hl
    rw [Query_sameLetters_3] at h
    refine lv_iload hx hb d_Query_sameLetters_3 (lv_at hl 4 rfl) ?_
    refine lv_iload_n hx hb d_Query_sameLetters_5 rfl (lv_at hl 3 rfl) ?_
    refine lv_icmp_ge (tgt := 42) hx hb d_Query_sameLetters_6 (by decide) (fun c7 => ?_) (fun c7 => ?_)
    · replace h := (if_pos c7).symm.trans h
      refine lv_iconst (v := 1) hx hb d_Query_sameLetters_42 (by decide) ?_
      cases h
      exact W.zret hx hb hr rfl (fun t ht hW => ⟨⟨_, (), rfl, rfl, trivial⟩, hS.F ht⟩) hS.2.2 d_Query_sameLetters_43
    · replace h := (if_neg c7).symm.trans h
      refine lv_aload_n hx hb d_Query_sameLetters_9 rfl (lv_at hl 0 rfl) ?_
      refine lv_iload_n hx hb d_Query_sameLetters_10 rfl (lv_at hl 1 rfl) ?_
      refine lv_iload hx hb d_Query_sameLetters_11 (lv_at hl 4 rfl) ?_
      refine lv_iadd hx hb d_Query_sameLetters_13 ?_
      obtain ⟨r8, hr8, h⟩ := Option.bind_eq_some_iff.mp h
      refine cl_Ir hP hS hA (va_runV (As := [.int (x1 + x4)]) (rest := []) ⟨hx, hb, hml, hown, htb⟩ (c_Query_byteAt l g F a_t t (x1 + x4) _ hr8 H.size) (cw_V htb mb_Query_byteAt (htb _ L_Query_72) rfl rfl ⟨Nat.le_of_ble_eq_true rfl, Nat.le_of_ble_eq_true rfl⟩) (pre_V (va_recv hK hP (ci := 1) (q0 := 0) rfl rfl) (pre_S [0, 1, 2, 3, 4, 5, 6, 7, 8, 9, 10] rfl rfl hP hD hS hA hAA hG)) rfl rfl hl.1 rfl (lv_room (Nat.le_of_ble_eq_true rfl)) d_Query_sameLetters_14 ⟨Nat.zero_le _, Nat.zero_le _⟩) (fun H locs hP hS => ?_)
      obtain ⟨r9, hr9, h⟩ := Option.bind_eq_some_iff.mp h
      refine cl_Ir hP hS hA (va_runSN (As := [.int r8]) (rest := []) ⟨hx, hb, hml, hown, htb⟩ (c_MQ_small l g F r8 _ hr9 H.size) (cn_S htb mb_MQ_small (nm_of hG N_Query_111) rfl rfl ⟨Nat.le_of_ble_eq_true rfl, Nat.le_of_ble_eq_true rfl⟩) (pre_S [] rfl rfl hP hD hS hA hAA hG) rfl rfl hl.1 rfl (lv_room (Nat.le_of_ble_eq_true rfl)) d_Query_sameLetters_17 ⟨Nat.zero_le _, Nat.zero_le _⟩) (fun H locs hP hS => ?_)
      refine lv_aload_n hx hb d_Query_sameLetters_20 rfl (lv_at hl 0 rfl) ?_
      refine lv_iload_n hx hb d_Query_sameLetters_21 rfl (lv_at hl 2 rfl) ?_
      refine lv_iload hx hb d_Query_sameLetters_22 (lv_at hl 4 rfl) ?_
      refine lv_iadd hx hb d_Query_sameLetters_24 ?_
      obtain ⟨r10, hr10, h⟩ := Option.bind_eq_some_iff.mp h
      refine cl_Ir hP hS hA (va_runV (As := [.int (x2 + x4)]) (rest := [.int r9]) ⟨hx, hb, hml, hown, htb⟩ (c_Query_byteAt l g F a_t t (x2 + x4) _ hr10 H.size) (cw_V htb mb_Query_byteAt (htb _ L_Query_72) rfl rfl ⟨Nat.le_of_ble_eq_true rfl, Nat.le_of_ble_eq_true rfl⟩) (pre_V (va_recv hK hP (ci := 1) (q0 := 0) rfl rfl) (pre_S [0, 1, 2, 3, 4, 5, 6, 7, 8, 9, 10] rfl rfl hP hD hS hA hAA hG)) rfl rfl hl.1 rfl (lv_room (Nat.le_of_ble_eq_true rfl)) d_Query_sameLetters_25 ⟨Nat.zero_le _, Nat.zero_le _⟩) (fun H locs hP hS => ?_)
      obtain ⟨r11, hr11, h⟩ := Option.bind_eq_some_iff.mp h
      refine cl_Ir hP hS hA (va_runSN (As := [.int r10]) (rest := [.int r9]) ⟨hx, hb, hml, hown, htb⟩ (c_MQ_small l g F r10 _ hr11 H.size) (cn_S htb mb_MQ_small (nm_of hG N_Query_111) rfl rfl ⟨Nat.le_of_ble_eq_true rfl, Nat.le_of_ble_eq_true rfl⟩) (pre_S [] rfl rfl hP hD hS hA hAA hG) rfl rfl hl.1 rfl (lv_room (Nat.le_of_ble_eq_true rfl)) d_Query_sameLetters_28 ⟨Nat.zero_le _, Nat.zero_le _⟩) (fun H locs hP hS => ?_)
      refine lv_icmp_eq (tgt := 36) hx hb d_Query_sameLetters_31 (by decide) (fun c12 => ?_) (fun c12 => ?_)
      · replace h := (if_pos c12).symm.trans h
        refine lv_iinc (v := (x4 + (1 : Int32))) (lv' := [(4, .int (x4 + (1 : Int32))), (0, .ref (a_t 0)), (1, .int x1), (2, .int x2), (3, .int x3)]) hx hb d_Query_sameLetters_36 hl (k := 4) rfl rfl (by decide) rfl (fun ls hl => ?_)
        refine lv_goto (tgt := 3) hx hb d_Query_sameLetters_39 (by decide) ?_
        exact ih _ _ _ _ _ _ h _ _ _ hP hD hS (lv_sub hl [1, 2, 3, 4, 0] rfl)
      · replace h := (if_neg c12).symm.trans h
        refine lv_iconst (v := 0) hx hb d_Query_sameLetters_34 (by decide) ?_
        cases h
        exact W.zret hx hb hr rfl (fun t ht hW => ⟨⟨_, (), rfl, rfl, trivial⟩, hS.F ht⟩) hS.2.2 d_Query_sameLetters_35
set_option maxHeartbeats 4000000 in
set_option maxRecDepth 100000 in
theorem k_Query_sameLetters {p : Program} {l : Launch} {e : Env} {s : State} {m : MethodId} {args : Array Value} {below : List Frame} {meth : Method} {c : Code} {g : Gz} {A2 A : Nat → Prop} {F : Nat} {a_t : Nat → Nat} (hC : Cx prog_5_method_13_code 5 (some .boolean) R_Query p s m args meth c g A2 A) : ∀ (t : StI) (x1 : Int32) (x2 : Int32) (x3 : Int32) (res : Int32), Query_sameLetters F t x1 x2 x3 = some res → Go p l e rm_Query_sameLetters s m args below meth c g A2 A 5 (MQ below (RI res A) args s 0 0 A) ((pic_Query g a_t t)) [(0, .ref (a_t 0)), (1, .int x1), (2, .int x2), (3, .int x3)] 0 [] := by
  obtain ⟨hx, hb, hr, hml, hown, htb, hlocks, hA, hAA, hG⟩ := id hC
  have hK := hG.1
  intro t x1 x2 x3 res h H locs ls hP hD hS hl
  rw [Query_sameLetters] at h
  refine lv_iconst (v := 0) hx hb d_Query_sameLetters_0 (by decide) ?_
  refine lv_istore (lv' := [(4, .int (0 : Int32)), (0, .ref (a_t 0)), (1, .int x1), (2, .int x2), (3, .int x3)]) hx hb d_Query_sameLetters_1 hl (by decide) rfl (fun ls hl => ?_)
  exact k_Query_sameLetters_3 hC F _ _ _ _ _ _ h _ _ _ hP hD hS (lv_sub hl [1, 2, 3, 4, 0] rfl)
theorem c_Query_sameLetters (l : Launch) (g : Gz) (F : Nat) (a_t : Nat → Nat) (t : StI) (x1 : Int32) (x2 : Int32) (x3 : Int32) (res : Int32) (h : Query_sameLetters F t x1 x2 x3 = some res) : ∀ sz : Nat, Met l y_Query_sameLetters (.code y_Query_sameLetters prog_5_method_13_code 5 (some .boolean) :: TBL) rm_Query_sameLetters (va_Pc [.ref (a_t 0), .int x1, .int x2, .int x3] (Pre0 g ((pic_Query g a_t t)) sz)) (RI res (fun q => sz ≤ q)) 0 0 (fun q => sz ≤ q) :=
  ct_r (Qc := fun A => RI res A) (by decide) (Nat.le_of_ble_eq_true rfl) (fun p e s m args below meth c A2 A hC => k_Query_sameLetters hC t x1 x2 x3 res h)
def Query_alike_70 (F : Nat) (k3 : StI → Int32 → Int32 → Int32 → Int32 → Int32 → Option (Int32)) (t : StI) (x1 : Int32) (x2 : Int32) (x3 : Int32) (x4 : Int32) (x5 : Int32) : Option (Int32) := k3 t x1 x2 x3 x4 (x5 + (1 : Int32))
def Query_alike_3 (F : Nat) : Nat → StI → Int32 → Int32 → Int32 → Int32 → Int32 → Option (Int32)
  | 0, _, _, _, _, _, _ => none
  | n + 1, t, x1, x2, x3, x4, x5 => if (t 3 0) ≤ x5 then some (-1 : Int32) else if x5 < 0 ∨ 40 ≤ x5.toNatClampNeg then none else if ((t 4) x5.toNatClampNeg) = x1 then if x5 < 0 ∨ 40 ≤ x5.toNatClampNeg then none else if ((t 5) x5.toNatClampNeg) = x2 then if x5 < 0 ∨ 40 ≤ x5.toNatClampNeg then none else if ((t 7) x5.toNatClampNeg) = (x4 - x3) then if x5 < 0 ∨ 40 ≤ x5.toNatClampNeg then none else (Query_sameLetters F t ((t 6) x5.toNatClampNeg) x3 (x4 - x3)).bind fun r19 => if r19 = 0 then Query_alike_70 F (Query_alike_3 F n) t x1 x2 x3 x4 x5 else some x5 else Query_alike_70 F (Query_alike_3 F n) t x1 x2 x3 x4 x5 else Query_alike_70 F (Query_alike_3 F n) t x1 x2 x3 x4 x5 else Query_alike_70 F (Query_alike_3 F n) t x1 x2 x3 x4 x5
def Query_alike (F : Nat) (t : StI) (x1 : Int32) (x2 : Int32) (x3 : Int32) (x4 : Int32) : Option (Int32) := Query_alike_3 F F t x1 x2 x3 x4 (0 : Int32)
set_option maxHeartbeats 4000000 in
set_option maxRecDepth 100000 in
theorem k_Query_alike_70 {p : Program} {l : Launch} {e : Env} {s : State} {m : MethodId} {args : Array Value} {below : List Frame} {meth : Method} {c : Code} {g : Gz} {A2 A : Nat → Prop} {F : Nat} {a_t : Nat → Nat} {k3 : StI → Int32 → Int32 → Int32 → Int32 → Int32 → Option (Int32)} (hC : Cx prog_5_method_12_code 6 (some .int) R_Query p s m args meth c g A2 A) : ∀ (t : StI) (x1 : Int32) (x2 : Int32) (x3 : Int32) (x4 : Int32) (x5 : Int32) (res : Int32), Query_alike_70 F k3 t x1 x2 x3 x4 x5 = some res → (∀ (t : StI) (x1 : Int32) (x2 : Int32) (x3 : Int32) (x4 : Int32) (x5 : Int32), k3 t x1 x2 x3 x4 x5 = some res → Go p l e rm_Query_alike s m args below meth c g A2 A 6 (MQ below (RI res A) args s 0 0 A) ((pic_Query g a_t t)) [(0, .ref (a_t 0)), (1, .int x1), (2, .int x2), (3, .int x3), (4, .int x4), (5, .int x5)] 3 []) → Go p l e rm_Query_alike s m args below meth c g A2 A 6 (MQ below (RI res A) args s 0 0 A) ((pic_Query g a_t t)) [(0, .ref (a_t 0)), (1, .int x1), (2, .int x2), (3, .int x3), (4, .int x4), (5, .int x5)] 70 [] := by
  obtain ⟨hx, hb, hr, hml, hown, htb, hlocks, hA, hAA, hG⟩ := id hC
  have hK := hG.1
  intro t x1 x2 x3 x4 x5 res h hk3 H locs ls hP hD hS hl
  rw [Query_alike_70] at h
  refine lv_iinc (v := (x5 + (1 : Int32))) (lv' := [(5, .int (x5 + (1 : Int32))), (0, .ref (a_t 0)), (1, .int x1), (2, .int x2), (3, .int x3), (4, .int x4)]) hx hb d_Query_alike_70 hl (k := 5) rfl rfl (by decide) rfl (fun ls hl => ?_)
  refine lv_goto (tgt := 3) hx hb d_Query_alike_73 (by decide) ?_
  exact hk3 _ _ _ _ _ _ h _ _ _ hP hD hS (lv_sub hl [1, 2, 3, 4, 5, 0] rfl)
set_option maxHeartbeats 4000000 in
set_option maxRecDepth 100000 in
theorem k_Query_alike_3 {p : Program} {l : Launch} {e : Env} {s : State} {m : MethodId} {args : Array Value} {below : List Frame} {meth : Method} {c : Code} {g : Gz} {A2 A : Nat → Prop} {F : Nat} {a_t : Nat → Nat} (hC : Cx prog_5_method_12_code 6 (some .int) R_Query p s m args meth c g A2 A) : ∀ (n : Nat) (t : StI) (x1 : Int32) (x2 : Int32) (x3 : Int32) (x4 : Int32) (x5 : Int32) (res : Int32), Query_alike_3 F n t x1 x2 x3 x4 x5 = some res → Go p l e rm_Query_alike s m args below meth c g A2 A 6 (MQ below (RI res A) args s 0 0 A) ((pic_Query g a_t t)) [(0, .ref (a_t 0)), (1, .int x1), (2, .int x2), (3, .int x3), (4, .int x4), (5, .int x5)] 3 [] := by
  obtain ⟨hx, hb, hr, hml, hown, htb, hlocks, hA, hAA, hG⟩ := id hC
  have hK := hG.1
  intro n
  induction n with
  | zero => intro t x1 x2 x3 x4 x5 res h; rw [Query_alike_3] at h; cases h
  | succ n ih =>
    intro t x1 x2 x3 x4 x5 res h H locs ls hP hD hS hl
    rw [Query_alike_3] at h
    refine lv_iload hx hb d_Query_alike_3 (lv_at hl 5 rfl) ?_
    refine lv_aload_n hx hb d_Query_alike_5 rfl (lv_at hl 0 rfl) ?_
    refine va_get (D := gD g) (ci := 1) (v := .int (t 3 0)) (C := R_Query) (T := T_Query) (N := 14) hx hb htb in_Query hown hK hP 0 rfl rfl 3 (by decide) (htb _ L_Query_22) (fun _ h9 => h9) rfl d_Query_alike_6 ?_
    refine lv_icmp_ge (tgt := 76) hx hb d_Query_alike_9 (by decide) (fun c11 => ?_) (fun c11 => ?_)
    · replace h := (if_pos c11).symm.trans h
      refine lv_iconst (v := -1) hx hb d_Query_alike_76 (by decide) ?_
      cases h
      exact W.iret hx hb hr (fun t ht hW => ⟨⟨_, (), rfl, rfl, trivial⟩, hS.F ht⟩) hS.2.2 d_Query_alike_77
    · replace h := (if_neg c11).symm.trans h
      refine lv_aload_n hx hb d_Query_alike_12 rfl (lv_at hl 0 rfl) ?_
      refine va_get (D := gD g) (ci := 1) (v := .ref (a_t 5)) (C := R_Query) (T := T_Query) (N := 14) hx hb htb in_Query hown hK hP 0 rfl rfl 4 (by decide) (htb _ L_Query_25) (fun _ h9 => h9) rfl d_Query_alike_13 ?_
      refine lv_iload hx hb d_Query_alike_16 (lv_at hl 5 rfl) ?_
      by_cases c12 : (x5 < 0 ∨ 40 ≤ x5.toNatClampNeg)
      · replace h := (if_pos c12).symm.trans h
        cases h
      replace h := (if_neg c12).symm.trans h
      refine va_iald hx hb hK hP 2 0 rfl rfl c12 d_Query_alike_18 ?_
      refine lv_iload_n hx hb d_Query_alike_19 rfl (lv_at hl 1 rfl) ?_
      refine lv_icmp_ne (tgt := 70) hx hb d_Query_alike_20 (by decide) (fun c13 => ?_) (fun c13 => ?_)
      · replace h := (if_neg c13).symm.trans h
        exact k_Query_alike_70 hC _ _ _ _ _ _ _ h (fun z0 z1 z2 z3 z4 z5 hz => ih z0 z1 z2 z3 z4 z5 _ hz) _ _ _ hP hD hS (lv_sub hl [0, 1, 2, 3, 4, 5] rfl)
      · replace h := (if_pos c13).symm.trans h
        refine lv_aload_n hx hb d_Query_alike_23 rfl (lv_at hl 0 rfl) ?_
        refine va_get (D := gD g) (ci := 1) (v := .ref (a_t 6)) (C := R_Query) (T := T_Query) (N := 14) hx hb htb in_Query hown hK hP 0 rfl rfl 5 (by decide) (htb _ L_Query_29) (fun _ h9 => h9) rfl d_Query_alike_24 ?_
        refine lv_iload hx hb d_Query_alike_27 (lv_at hl 5 rfl) ?_
        by_cases c14 : (x5 < 0 ∨ 40 ≤ x5.toNatClampNeg)
        · replace h := (if_pos c14).symm.trans h
          cases h
        replace h := (if_neg c14).symm.trans h
        refine va_zald hx hb hK hP 3 2 rfl rfl c14 d_Query_alike_29 ?_
        refine lv_iload_n hx hb d_Query_alike_30 rfl (lv_at hl 2 rfl) ?_
        refine lv_icmp_ne (tgt := 70) hx hb d_Query_alike_31 (by decide) (fun c15 => ?_) (fun c15 => ?_)
        · replace h := (if_neg c15).symm.trans h
          exact k_Query_alike_70 hC _ _ _ _ _ _ _ h (fun z0 z1 z2 z3 z4 z5 hz => ih z0 z1 z2 z3 z4 z5 _ hz) _ _ _ hP hD hS (lv_sub hl [0, 1, 2, 3, 4, 5] rfl)
        · replace h := (if_pos c15).symm.trans h
          refine lv_aload_n hx hb d_Query_alike_34 rfl (lv_at hl 0 rfl) ?_
          refine va_get (D := gD g) (ci := 1) (v := .ref (a_t 8)) (C := R_Query) (T := T_Query) (N := 14) hx hb htb in_Query hown hK hP 0 rfl rfl 7 (by decide) (htb _ L_Query_36) (fun _ h9 => h9) rfl d_Query_alike_35 ?_
          refine lv_iload hx hb d_Query_alike_38 (lv_at hl 5 rfl) ?_
          by_cases c16 : (x5 < 0 ∨ 40 ≤ x5.toNatClampNeg)
          · replace h := (if_pos c16).symm.trans h
            cases h
          replace h := (if_neg c16).symm.trans h
          refine va_iald hx hb hK hP 5 0 rfl rfl c16 d_Query_alike_40 ?_
          refine lv_iload hx hb d_Query_alike_41 (lv_at hl 4 rfl) ?_
          refine lv_iload_n hx hb d_Query_alike_43 rfl (lv_at hl 3 rfl) ?_
          refine lv_isub hx hb d_Query_alike_44 ?_
          refine lv_icmp_ne (tgt := 70) hx hb d_Query_alike_45 (by decide) (fun c17 => ?_) (fun c17 => ?_)
          · replace h := (if_neg c17).symm.trans h
            exact k_Query_alike_70 hC _ _ _ _ _ _ _ h (fun z0 z1 z2 z3 z4 z5 hz => ih z0 z1 z2 z3 z4 z5 _ hz) _ _ _ hP hD hS (lv_sub hl [0, 1, 2, 3, 4, 5] rfl)
          · replace h := (if_pos c17).symm.trans h
            refine lv_aload_n hx hb d_Query_alike_48 rfl (lv_at hl 0 rfl) ?_
            refine lv_aload_n hx hb d_Query_alike_49 rfl (lv_at hl 0 rfl) ?_
            refine va_get (D := gD g) (ci := 1) (v := .ref (a_t 7)) (C := R_Query) (T := T_Query) (N := 14) hx hb htb in_Query hown hK hP 0 rfl rfl 6 (by decide) (htb _ L_Query_33) (fun _ h9 => h9) rfl d_Query_alike_50 ?_
            refine lv_iload hx hb d_Query_alike_53 (lv_at hl 5 rfl) ?_
            by_cases c18 : (x5 < 0 ∨ 40 ≤ x5.toNatClampNeg)
            · replace h := (if_pos c18).symm.trans h
              cases h
            replace h := (if_neg c18).symm.trans h
            refine va_iald hx hb hK hP 4 0 rfl rfl c18 d_Query_alike_55 ?_
            refine lv_iload_n hx hb d_Query_alike_56 rfl (lv_at hl 3 rfl) ?_
            refine lv_iload hx hb d_Query_alike_57 (lv_at hl 4 rfl) ?_
            refine lv_iload_n hx hb d_Query_alike_59 rfl (lv_at hl 3 rfl) ?_
            refine lv_isub hx hb d_Query_alike_60 ?_
            obtain ⟨r19, hr19, h⟩ := Option.bind_eq_some_iff.mp h
            refine cl_Ir hP hS hA (va_runV (As := [.int ((t 6) x5.toNatClampNeg), .int x3, .int (x4 - x3)]) (rest := []) ⟨hx, hb, hml, hown, htb⟩ (c_Query_sameLetters l g F a_t t ((t 6) x5.toNatClampNeg) x3 (x4 - x3) _ hr19 H.size) (cw_V htb mb_Query_sameLetters (htb _ L_Query_107) rfl rfl ⟨Nat.le_of_ble_eq_true rfl, Nat.le_of_ble_eq_true rfl⟩) (pre_V (va_recv hK hP (ci := 1) (q0 := 0) rfl rfl) (pre_S [0, 1, 2, 3, 4, 5, 6, 7, 8, 9, 10] rfl rfl hP hD hS hA hAA hG)) rfl rfl hl.1 rfl (lv_room (Nat.le_of_ble_eq_true rfl)) d_Query_alike_61 ⟨Nat.zero_le _, Nat.zero_le _⟩) (fun H locs hP hS => ?_)
            refine lv_if_eq (tgt := 70) hx hb d_Query_alike_64 (by decide) (fun c20 => ?_) (fun c20 => ?_)
            · replace h := (if_pos c20).symm.trans h
              exact k_Query_alike_70 hC _ _ _ _ _ _ _ h (fun z0 z1 z2 z3 z4 z5 hz => ih z0 z1 z2 z3 z4 z5 _ hz) _ _ _ hP hD hS (lv_sub hl [0, 1, 2, 3, 4, 5] rfl)
            · replace h := (if_neg c20).symm.trans h
              refine lv_iload hx hb d_Query_alike_67 (lv_at hl 5 rfl) ?_
              cases h
              exact W.iret hx hb hr (fun t ht hW => ⟨⟨_, (), rfl, rfl, trivial⟩, hS.F ht⟩) hS.2.2 d_Query_alike_69
set_option maxHeartbeats 4000000 in
set_option maxRecDepth 100000 in
theorem k_Query_alike {p : Program} {l : Launch} {e : Env} {s : State} {m : MethodId} {args : Array Value} {below : List Frame} {meth : Method} {c : Code} {g : Gz} {A2 A : Nat → Prop} {F : Nat} {a_t : Nat → Nat} (hC : Cx prog_5_method_12_code 6 (some .int) R_Query p s m args meth c g A2 A) : ∀ (t : StI) (x1 : Int32) (x2 : Int32) (x3 : Int32) (x4 : Int32) (res : Int32), Query_alike F t x1 x2 x3 x4 = some res → Go p l e rm_Query_alike s m args below meth c g A2 A 6 (MQ below (RI res A) args s 0 0 A) ((pic_Query g a_t t)) [(0, .ref (a_t 0)), (1, .int x1), (2, .int x2), (3, .int x3), (4, .int x4)] 0 [] := by
  obtain ⟨hx, hb, hr, hml, hown, htb, hlocks, hA, hAA, hG⟩ := id hC
  have hK := hG.1
  intro t x1 x2 x3 x4 res h H locs ls hP hD hS hl
  rw [Query_alike] at h
  refine lv_iconst (v := 0) hx hb d_Query_alike_0 (by decide) ?_
  refine lv_istore (lv' := [(5, .int (0 : Int32)), (0, .ref (a_t 0)), (1, .int x1), (2, .int x2), (3, .int x3), (4, .int x4)]) hx hb d_Query_alike_1 hl (by decide) rfl (fun ls hl => ?_)
  exact k_Query_alike_3 hC F _ _ _ _ _ _ _ h _ _ _ hP hD hS (lv_sub hl [1, 2, 3, 4, 5, 0] rfl)
theorem c_Query_alike (l : Launch) (g : Gz) (F : Nat) (a_t : Nat → Nat) (t : StI) (x1 : Int32) (x2 : Int32) (x3 : Int32) (x4 : Int32) (res : Int32) (h : Query_alike F t x1 x2 x3 x4 = some res) : ∀ sz : Nat, Met l y_Query_alike (.code y_Query_alike prog_5_method_12_code 6 (some .int) :: TBL) rm_Query_alike (va_Pc [.ref (a_t 0), .int x1, .int x2, .int x3, .int x4] (Pre0 g ((pic_Query g a_t t)) sz)) (RI res (fun q => sz ≤ q)) 0 0 (fun q => sz ≤ q) :=
  ct_r (Qc := fun A => RI res A) (by decide) (Nat.le_of_ble_eq_true rfl) (fun p e s m args below meth c A2 A hC => k_Query_alike hC t x1 x2 x3 x4 res h)
