set_option maxRecDepth 100000 in
theorem W_Preconditions_checkIndex_code : (Jvm.Cond.code ({ cls := "jdk/internal/util/Preconditions", name := "checkIndex", desc := "(IILjava/util/function/BiFunction;)I" } : Jvm.MethodName) prog_21_method_11_code (3 : Nat) (Option.some Jvm.ClassFile.FieldType.int)) ∈ TBL := TBL_in (List.mem_of_getElem? (i := 504) rfl) rfl
theorem I_Preconditions : (Jvm.Cond.initialized "jdk/internal/util/Preconditions") ∈ TBL := TBL_in (List.mem_of_getElem? (i := 114) (by decide +kernel)) (by decide +kernel)
theorem W_Preconditions_checkIndex_st : (Jvm.Cond.static ({ cls := "jdk/internal/util/Preconditions", name := "checkIndex", desc := "(IILjava/util/function/BiFunction;)I" } : Jvm.MethodName)) ∈ TBL := TBL_in (List.mem_of_getElem? (i := 503) (by decide +kernel)) (by decide +kernel)
set_option maxRecDepth 100000 in
theorem W_String_checkIndex_code : (Jvm.Cond.code ({ cls := "java/lang/String", name := "checkIndex", desc := "(II)V" } : Jvm.MethodName) prog_16_method_155_code (2 : Nat) (Option.none : Option Jvm.ClassFile.FieldType)) ∈ TBL := TBL_in (List.mem_of_getElem? (i := 499) rfl) rfl
theorem I_String : (Jvm.Cond.initialized "java/lang/String") ∈ TBL := TBL_in (List.mem_of_getElem? (i := 112) (by decide +kernel)) (by decide +kernel)
theorem W_String_checkIndex_st : (Jvm.Cond.static ({ cls := "java/lang/String", name := "checkIndex", desc := "(II)V" } : Jvm.MethodName)) ∈ TBL := TBL_in (List.mem_of_getElem? (i := 498) (by decide +kernel)) (by decide +kernel)
set_option maxRecDepth 100000 in
theorem W_String_coder_code : (Jvm.Cond.code ({ cls := "java/lang/String", name := "coder", desc := "()B" } : Jvm.MethodName) prog_16_method_152_code (1 : Nat) (Option.some Jvm.ClassFile.FieldType.byte)) ∈ TBL := TBL_in (List.mem_of_getElem? (i := 483) rfl) rfl
theorem W_String_coder_in : (Jvm.Cond.instanceMethod ({ cls := "java/lang/String", name := "coder", desc := "()B" } : Jvm.MethodName)) ∈ TBL := TBL_in (List.mem_of_getElem? (i := 481) (by decide +kernel)) (by decide +kernel)
theorem W_String_coder_se : (Jvm.Cond.selects "java/lang/String" ({ cls := "java/lang/String", name := "coder", desc := "()B" } : Jvm.MethodName) ({ cls := "java/lang/String", name := "coder", desc := "()B" } : Jvm.MethodName)) ∈ TBL := TBL_in (List.mem_of_getElem? (i := 482) (by decide +kernel)) (by decide +kernel)
set_option maxRecDepth 100000 in
theorem W_String_isLatin1_code : (Jvm.Cond.code ({ cls := "java/lang/String", name := "isLatin1", desc := "()Z" } : Jvm.MethodName) prog_16_method_154_code (1 : Nat) (Option.some Jvm.ClassFile.FieldType.boolean)) ∈ TBL := TBL_in (List.mem_of_getElem? (i := 493) rfl) rfl
theorem W_String_isLatin1_in : (Jvm.Cond.instanceMethod ({ cls := "java/lang/String", name := "isLatin1", desc := "()Z" } : Jvm.MethodName)) ∈ TBL := TBL_in (List.mem_of_getElem? (i := 491) (by decide +kernel)) (by decide +kernel)
theorem W_String_isLatin1_se : (Jvm.Cond.selects "java/lang/String" ({ cls := "java/lang/String", name := "isLatin1", desc := "()Z" } : Jvm.MethodName) ({ cls := "java/lang/String", name := "isLatin1", desc := "()Z" } : Jvm.MethodName)) ∈ TBL := TBL_in (List.mem_of_getElem? (i := 492) (by decide +kernel)) (by decide +kernel)
set_option maxRecDepth 100000 in
theorem W_String_length_code : (Jvm.Cond.code ({ cls := "java/lang/String", name := "length", desc := "()I" } : Jvm.MethodName) prog_16_method_54_code (1 : Nat) (Option.some Jvm.ClassFile.FieldType.int)) ∈ TBL := TBL_in (List.mem_of_getElem? (i := 479) rfl) rfl
theorem W_String_length_in : (Jvm.Cond.instanceMethod ({ cls := "java/lang/String", name := "length", desc := "()I" } : Jvm.MethodName)) ∈ TBL := TBL_in (List.mem_of_getElem? (i := 477) (by decide +kernel)) (by decide +kernel)
theorem W_String_length_se : (Jvm.Cond.selects "java/lang/String" ({ cls := "java/lang/String", name := "length", desc := "()I" } : Jvm.MethodName) ({ cls := "java/lang/String", name := "length", desc := "()I" } : Jvm.MethodName)) ∈ TBL := TBL_in (List.mem_of_getElem? (i := 478) (by decide +kernel)) (by decide +kernel)
set_option maxRecDepth 100000 in
theorem W_StringLatin1_charAt_code : (Jvm.Cond.code ({ cls := "java/lang/StringLatin1", name := "charAt", desc := "([BI)C" } : Jvm.MethodName) prog_17_method_2_code (2 : Nat) (Option.some Jvm.ClassFile.FieldType.char)) ∈ TBL := TBL_in (List.mem_of_getElem? (i := 496) rfl) rfl
theorem I_StringLatin1 : (Jvm.Cond.initialized "java/lang/StringLatin1") ∈ TBL := TBL_in (List.mem_of_getElem? (i := 113) (by decide +kernel)) (by decide +kernel)
theorem W_StringLatin1_charAt_st : (Jvm.Cond.static ({ cls := "java/lang/StringLatin1", name := "charAt", desc := "([BI)C" } : Jvm.MethodName)) ∈ TBL := TBL_in (List.mem_of_getElem? (i := 495) (by decide +kernel)) (by decide +kernel)
set_option maxRecDepth 100000 in
theorem W_String_charAt_code : (Jvm.Cond.code ({ cls := "java/lang/String", name := "charAt", desc := "(I)C" } : Jvm.MethodName) prog_16_method_56_code (2 : Nat) (Option.some Jvm.ClassFile.FieldType.char)) ∈ TBL := TBL_in (List.mem_of_getElem? (i := 489) rfl) rfl
theorem W_String_charAt_in : (Jvm.Cond.instanceMethod ({ cls := "java/lang/String", name := "charAt", desc := "(I)C" } : Jvm.MethodName)) ∈ TBL := TBL_in (List.mem_of_getElem? (i := 487) (by decide +kernel)) (by decide +kernel)
theorem W_String_charAt_se : (Jvm.Cond.selects "java/lang/String" ({ cls := "java/lang/String", name := "charAt", desc := "(I)C" } : Jvm.MethodName) ({ cls := "java/lang/String", name := "charAt", desc := "(I)C" } : Jvm.MethodName)) ∈ TBL := TBL_in (List.mem_of_getElem? (i := 488) (by decide +kernel)) (by decide +kernel)
theorem L_String_1059 : (Jvm.Cond.methodLink "java/lang/String" (1059 : Nat) ({ cls := "jdk/internal/util/Preconditions", name := "checkIndex", desc := "(IILjava/util/function/BiFunction;)I" } : Jvm.MethodName)) ∈ TBL := TBL_in (List.mem_of_getElem? (i := 502) (by decide +kernel)) (by decide +kernel)
theorem L_String_1053 : (Jvm.Cond.fieldLink "java/lang/String" (1053 : Nat) "jdk/internal/util/Preconditions" "SIOOBE_FORMATTER" "Ljava/util/function/BiFunction;") ∈ TBL := TBL_in (List.mem_of_getElem? (i := 500) (by decide +kernel)) (by decide +kernel)
theorem L_String_38 : (Jvm.Cond.fieldLink "java/lang/String" (38 : Nat) "java/lang/String" "COMPACT_STRINGS" "Z") ∈ TBL := TBL_in (List.mem_of_getElem? (i := 484) (by decide +kernel)) (by decide +kernel)
theorem L_String_15 : (Jvm.Cond.fieldLink "java/lang/String" (15 : Nat) "java/lang/String" "coder" "B") ∈ TBL := TBL_in (List.mem_of_getElem? (i := 1462) (by decide +kernel)) (by decide +kernel)
theorem L_String_9 : (Jvm.Cond.fieldLink "java/lang/String" (9 : Nat) "java/lang/String" "value" "[B") ∈ TBL := TBL_in (List.mem_of_getElem? (i := 1461) (by decide +kernel)) (by decide +kernel)
theorem L_String_335 : (Jvm.Cond.methodLink "java/lang/String" (335 : Nat) ({ cls := "java/lang/String", name := "coder", desc := "()B" } : Jvm.MethodName)) ∈ TBL := TBL_in (List.mem_of_getElem? (i := 480) (by decide +kernel)) (by decide +kernel)
theorem L_StringLatin1_9 : (Jvm.Cond.methodLink "java/lang/StringLatin1" (9 : Nat) ({ cls := "java/lang/String", name := "checkIndex", desc := "(II)V" } : Jvm.MethodName)) ∈ TBL := TBL_in (List.mem_of_getElem? (i := 497) (by decide +kernel)) (by decide +kernel)
theorem L_String_492 : (Jvm.Cond.methodLink "java/lang/String" (492 : Nat) ({ cls := "java/lang/String", name := "isLatin1", desc := "()Z" } : Jvm.MethodName)) ∈ TBL := TBL_in (List.mem_of_getElem? (i := 490) (by decide +kernel)) (by decide +kernel)
theorem L_String_495 : (Jvm.Cond.methodLink "java/lang/String" (495 : Nat) ({ cls := "java/lang/StringLatin1", name := "charAt", desc := "([BI)C" } : Jvm.MethodName)) ∈ TBL := TBL_in (List.mem_of_getElem? (i := 494) (by decide +kernel)) (by decide +kernel)
def y_Preconditions_checkIndex : MethodName := ⟨"jdk/internal/util/Preconditions", "checkIndex", "(IILjava/util/function/BiFunction;)I"⟩
def rm_Preconditions_checkIndex : Room := { frames := 0, cells := 0, slots := 0, locals := 0 }
theorem d_Preconditions_checkIndex_0 : decode prog_21_method_11_code 0 = .ok (.iload_n 0, 1) := by decide +kernel
theorem d_Preconditions_checkIndex_1 : decode prog_21_method_11_code 1 = .ok (.ifCond .lt 8, 3) := by decide +kernel
theorem d_Preconditions_checkIndex_4 : decode prog_21_method_11_code 4 = .ok (.iload_n 0, 1) := by decide +kernel
theorem d_Preconditions_checkIndex_5 : decode prog_21_method_11_code 5 = .ok (.iload_n 1, 1) := by decide +kernel
theorem d_Preconditions_checkIndex_6 : decode prog_21_method_11_code 6 = .ok (.if_icmp .lt 10, 3) := by decide +kernel
theorem d_Preconditions_checkIndex_9 : decode prog_21_method_11_code 9 = .ok (.aload_n 2, 1) := by decide +kernel
theorem d_Preconditions_checkIndex_10 : decode prog_21_method_11_code 10 = .ok (.iload_n 0, 1) := by decide +kernel
theorem d_Preconditions_checkIndex_11 : decode prog_21_method_11_code 11 = .ok (.iload_n 1, 1) := by decide +kernel
theorem d_Preconditions_checkIndex_12 : decode prog_21_method_11_code 12 = .ok (.invokestatic 95, 3) := by decide +kernel
theorem d_Preconditions_checkIndex_15 : decode prog_21_method_11_code 15 = .ok (.athrow, 1) := by decide +kernel
theorem d_Preconditions_checkIndex_16 : decode prog_21_method_11_code 16 = .ok (.iload_n 0, 1) := by decide +kernel
theorem d_Preconditions_checkIndex_17 : decode prog_21_method_11_code 17 = .ok (.ireturn, 1) := by decide +kernel
def y_String_checkIndex : MethodName := ⟨"java/lang/String", "checkIndex", "(II)V"⟩
def rm_String_checkIndex : Room := { frames := 1, cells := 0, slots := 0, locals := 22 }
theorem d_String_checkIndex_0 : decode prog_16_method_155_code 0 = .ok (.iload_n 0, 1) := by decide +kernel
theorem d_String_checkIndex_1 : decode prog_16_method_155_code 1 = .ok (.iload_n 1, 1) := by decide +kernel
theorem d_String_checkIndex_2 : decode prog_16_method_155_code 2 = .ok (.getstatic 1053, 3) := by decide +kernel
theorem d_String_checkIndex_5 : decode prog_16_method_155_code 5 = .ok (.invokestatic 1059, 3) := by decide +kernel
theorem d_String_checkIndex_8 : decode prog_16_method_155_code 8 = .ok (.pop, 1) := by decide +kernel
theorem d_String_checkIndex_9 : decode prog_16_method_155_code 9 = .ok (.return_, 1) := by decide +kernel
def y_String_coder : MethodName := ⟨"java/lang/String", "coder", "()B"⟩
def rm_String_coder : Room := { frames := 0, cells := 0, slots := 0, locals := 0 }
theorem d_String_coder_0 : decode prog_16_method_152_code 0 = .ok (.getstatic 38, 3) := by decide +kernel
theorem d_String_coder_3 : decode prog_16_method_152_code 3 = .ok (.ifCond .eq 10, 3) := by decide +kernel
theorem d_String_coder_6 : decode prog_16_method_152_code 6 = .ok (.aload_n 0, 1) := by decide +kernel
theorem d_String_coder_7 : decode prog_16_method_152_code 7 = .ok (.getfield 15, 3) := by decide +kernel
theorem d_String_coder_10 : decode prog_16_method_152_code 10 = .ok (.goto 4, 3) := by decide +kernel
theorem d_String_coder_13 : decode prog_16_method_152_code 13 = .ok (.iconst 1, 1) := by decide +kernel
theorem d_String_coder_14 : decode prog_16_method_152_code 14 = .ok (.ireturn, 1) := by decide +kernel
def y_String_isLatin1 : MethodName := ⟨"java/lang/String", "isLatin1", "()Z"⟩
def rm_String_isLatin1 : Room := { frames := 0, cells := 0, slots := 0, locals := 0 }
theorem d_String_isLatin1_0 : decode prog_16_method_154_code 0 = .ok (.getstatic 38, 3) := by decide +kernel
theorem d_String_isLatin1_3 : decode prog_16_method_154_code 3 = .ok (.ifCond .eq 14, 3) := by decide +kernel
theorem d_String_isLatin1_6 : decode prog_16_method_154_code 6 = .ok (.aload_n 0, 1) := by decide +kernel
theorem d_String_isLatin1_7 : decode prog_16_method_154_code 7 = .ok (.getfield 15, 3) := by decide +kernel
theorem d_String_isLatin1_10 : decode prog_16_method_154_code 10 = .ok (.ifCond .ne 7, 3) := by decide +kernel
theorem d_String_isLatin1_13 : decode prog_16_method_154_code 13 = .ok (.iconst 1, 1) := by decide +kernel
theorem d_String_isLatin1_14 : decode prog_16_method_154_code 14 = .ok (.goto 4, 3) := by decide +kernel
theorem d_String_isLatin1_17 : decode prog_16_method_154_code 17 = .ok (.iconst 0, 1) := by decide +kernel
theorem d_String_isLatin1_18 : decode prog_16_method_154_code 18 = .ok (.ireturn, 1) := by decide +kernel
def y_String_length : MethodName := ⟨"java/lang/String", "length", "()I"⟩
def rm_String_length : Room := { frames := 1, cells := 0, slots := 0, locals := 20 }
theorem d_String_length_0 : decode prog_16_method_54_code 0 = .ok (.aload_n 0, 1) := by decide +kernel
theorem d_String_length_1 : decode prog_16_method_54_code 1 = .ok (.getfield 9, 3) := by decide +kernel
theorem d_String_length_4 : decode prog_16_method_54_code 4 = .ok (.arraylength, 1) := by decide +kernel
theorem d_String_length_5 : decode prog_16_method_54_code 5 = .ok (.aload_n 0, 1) := by decide +kernel
theorem d_String_length_6 : decode prog_16_method_54_code 6 = .ok (.invokevirtual 335, 3) := by decide +kernel
theorem d_String_length_9 : decode prog_16_method_54_code 9 = .ok (.ishr, 1) := by decide +kernel
theorem d_String_length_10 : decode prog_16_method_54_code 10 = .ok (.ireturn, 1) := by decide +kernel
def y_StringLatin1_charAt : MethodName := ⟨"java/lang/StringLatin1", "charAt", "([BI)C"⟩
def rm_StringLatin1_charAt : Room := { frames := 2, cells := 0, slots := 0, locals := 43 }
theorem d_StringLatin1_charAt_0 : decode prog_17_method_2_code 0 = .ok (.iload_n 1, 1) := by decide +kernel
theorem d_StringLatin1_charAt_1 : decode prog_17_method_2_code 1 = .ok (.aload_n 0, 1) := by decide +kernel
theorem d_StringLatin1_charAt_2 : decode prog_17_method_2_code 2 = .ok (.arraylength, 1) := by decide +kernel
theorem d_StringLatin1_charAt_3 : decode prog_17_method_2_code 3 = .ok (.invokestatic 9, 3) := by decide +kernel
theorem d_StringLatin1_charAt_6 : decode prog_17_method_2_code 6 = .ok (.aload_n 0, 1) := by decide +kernel
theorem d_StringLatin1_charAt_7 : decode prog_17_method_2_code 7 = .ok (.iload_n 1, 1) := by decide +kernel
theorem d_StringLatin1_charAt_8 : decode prog_17_method_2_code 8 = .ok (.baload, 1) := by decide +kernel
theorem d_StringLatin1_charAt_9 : decode prog_17_method_2_code 9 = .ok (.sipush 255, 3) := by decide +kernel
theorem d_StringLatin1_charAt_12 : decode prog_17_method_2_code 12 = .ok (.iand, 1) := by decide +kernel
theorem d_StringLatin1_charAt_13 : decode prog_17_method_2_code 13 = .ok (.i2c, 1) := by decide +kernel
theorem d_StringLatin1_charAt_14 : decode prog_17_method_2_code 14 = .ok (.ireturn, 1) := by decide +kernel
def y_String_charAt : MethodName := ⟨"java/lang/String", "charAt", "(I)C"⟩
def rm_String_charAt : Room := { frames := 3, cells := 0, slots := 0, locals := 64 }
theorem d_String_charAt_0 : decode prog_16_method_56_code 0 = .ok (.aload_n 0, 1) := by decide +kernel
theorem d_String_charAt_1 : decode prog_16_method_56_code 1 = .ok (.invokevirtual 492, 3) := by decide +kernel
theorem d_String_charAt_4 : decode prog_16_method_56_code 4 = .ok (.ifCond .eq 12, 3) := by decide +kernel
theorem d_String_charAt_7 : decode prog_16_method_56_code 7 = .ok (.aload_n 0, 1) := by decide +kernel
theorem d_String_charAt_8 : decode prog_16_method_56_code 8 = .ok (.getfield 9, 3) := by decide +kernel
theorem d_String_charAt_11 : decode prog_16_method_56_code 11 = .ok (.iload_n 1, 1) := by decide +kernel
theorem d_String_charAt_12 : decode prog_16_method_56_code 12 = .ok (.invokestatic 495, 3) := by decide +kernel
theorem d_String_charAt_15 : decode prog_16_method_56_code 15 = .ok (.ireturn, 1) := by decide +kernel
theorem d_String_charAt_16 : decode prog_16_method_56_code 16 = .ok (.aload_n 0, 1) := by decide +kernel
theorem d_String_charAt_17 : decode prog_16_method_56_code 17 = .ok (.getfield 9, 3) := by decide +kernel
theorem d_String_charAt_20 : decode prog_16_method_56_code 20 = .ok (.iload_n 1, 1) := by decide +kernel
theorem d_String_charAt_21 : decode prog_16_method_56_code 21 = .ok (.invokestatic 498, 3) := by decide +kernel
theorem d_String_charAt_24 : decode prog_16_method_56_code 24 = .ok (.ireturn, 1) := by decide +kernel
theorem mb_Preconditions_checkIndex : MbS y_Preconditions_checkIndex prog_21_method_11_code 3 (some .int) 3 := ⟨W_Preconditions_checkIndex_code, W_Preconditions_checkIndex_st, I_Preconditions, by decide +kernel, by decide +kernel, by decide +kernel⟩
theorem mb_String_checkIndex : MbS y_String_checkIndex prog_16_method_155_code 2 none 2 := ⟨W_String_checkIndex_code, W_String_checkIndex_st, I_String, by decide +kernel, by decide +kernel, by decide +kernel⟩
theorem mb_String_coder : Mb y_String_coder prog_16_method_152_code 1 (some .byte) 0 := ⟨W_String_coder_code, W_String_coder_in, W_String_coder_se, I_String, by decide +kernel, by decide +kernel, by decide +kernel⟩
theorem mb_String_isLatin1 : Mb y_String_isLatin1 prog_16_method_154_code 1 (some .boolean) 0 := ⟨W_String_isLatin1_code, W_String_isLatin1_in, W_String_isLatin1_se, I_String, by decide +kernel, by decide +kernel, by decide +kernel⟩
theorem mb_String_length : Mb y_String_length prog_16_method_54_code 1 (some .int) 0 := ⟨W_String_length_code, W_String_length_in, W_String_length_se, I_String, by decide +kernel, by decide +kernel, by decide +kernel⟩
theorem mb_StringLatin1_charAt : MbS y_StringLatin1_charAt prog_17_method_2_code 2 (some .char) 2 := ⟨W_StringLatin1_charAt_code, W_StringLatin1_charAt_st, I_StringLatin1, by decide +kernel, by decide +kernel, by decide +kernel⟩
theorem mb_String_charAt : Mb y_String_charAt prog_16_method_56_code 2 (some .char) 1 := ⟨W_String_charAt_code, W_String_charAt_in, W_String_charAt_se, I_String, by decide +kernel, by decide +kernel, by decide +kernel⟩
/-! the JDK's String, over literals: a literal is its place w -/
def strCh (w : Nat) (i : Int32) : Int32 := ((((bytStr.getD w []).getD i.toNatClampNeg 0) &&& 255).toUInt32 % 65536).toInt32
def String_length (F : Nat) (w : Nat) : Option Int32 := if w < nStr then some (Int32.ofNat (lenStr.getD w 0)) else none
def String_charAt (F : Nat) (w : Nat) (i : Int32) : Option Int32 := if w < nStr then (if i < 0 ∨ lenStr.getD w 0 ≤ i.toNatClampNeg then none else some (strCh w i)) else none
theorem lenStr_lt : ∀ w, w < nStr → lenStr.getD w 0 < 2 ^ 31 := by decide +kernel
theorem in_lt {i : Int32} {n : Nat} (hn : n < 2 ^ 31) (h : ¬ (i < 0 ∨ n ≤ i.toNatClampNeg)) : ¬ i < 0 ∧ i < Int32.ofNat n := by
  have h1 : vp_in i n := h
  obtain ⟨j, hj, rfl⟩ := vp_in_of h1 hn
  exact ⟨nI_pos (by omega), nI_lt hj hn⟩
section STR
variable {p : Program} {l : Launch} {e : Env} {s : State} {m : MethodId} {args : Array Value} {below : List Frame} {meth : Method} {c : Code} {g : Gz} {A2 A : Nat → Prop}
theorem k_Preconditions_checkIndex (hC : Cx prog_21_method_11_code 3 (some .int) "jdk/internal/util/Preconditions" p s m args meth c g A2 A) (i n : Int32) (v : Value) (h1 : ¬ i < 0) (h2 : i < n) : Go p l e rm_Preconditions_checkIndex s m args below meth c g A2 A 3 (MQ below (RI i A) args s 0 0 A) [] [(0, .int i), (1, .int n), (2, v)] 0 [] := by
  obtain ⟨hx, hb, hr, hml, hown, htb, hlocks, hA, hAA, hG⟩ := id hC
  intro H locs ls hP hD hS hl
  refine lv_iload_n hx hb d_Preconditions_checkIndex_0 rfl (lv_at hl 0 rfl) ?_
  refine lv_if_lt (tgt := 9) hx hb d_Preconditions_checkIndex_1 (by decide) (fun c1 => absurd c1 h1) (fun _ => ?_)
  refine lv_iload_n hx hb d_Preconditions_checkIndex_4 rfl (lv_at hl 0 rfl) ?_
  refine lv_iload_n hx hb d_Preconditions_checkIndex_5 rfl (lv_at hl 1 rfl) ?_
  refine lv_icmp_lt (tgt := 16) hx hb d_Preconditions_checkIndex_6 (by decide) (fun _ => ?_) (fun c1 => absurd h2 c1)
  refine lv_iload_n hx hb d_Preconditions_checkIndex_16 rfl (lv_at hl 0 rfl) ?_
  exact W.iret hx hb hr (fun t ht hW => ⟨⟨_, (), rfl, rfl, trivial⟩, hS.F ht⟩) hS.2.2 d_Preconditions_checkIndex_17
theorem c_Preconditions_checkIndex (l : Launch) (g : Gz) (i n : Int32) (v : Value) (hv : v.category = 1) (h1 : ¬ i < 0) (h2 : i < n) : ∀ sz : Nat, Met l y_Preconditions_checkIndex (.code y_Preconditions_checkIndex prog_21_method_11_code 3 (some .int) :: TBL) rm_Preconditions_checkIndex (va_Pc [.int i, .int n, v] (Pre0 g [] sz)) (RI i (fun q => sz ≤ q)) 0 0 (fun q => sz ≤ q) :=
  ct_rF (Qc := fun A => RI i A) (by decide +kernel) (by cases v <;> first | exact Nat.le_of_ble_eq_true rfl | (exact absurd hv (by intro h; cases h))) (fun p e s m args below meth c A2 A hC => k_Preconditions_checkIndex hC i n v h1 h2)
theorem k_String_checkIndex (hC : Cx prog_16_method_155_code 2 none "java/lang/String" p s m args meth c g A2 A) (i n : Int32) (h1 : ¬ i < 0) (h2 : i < n) : Go p l e rm_String_checkIndex s m args below meth c g A2 A 2 (MQ below (RV A) args s 0 0 A) [] [(0, .int i), (1, .int n)] 0 [] := by
  obtain ⟨hx, hb, hr, hml, hown, htb, hlocks, hA, hAA, hG⟩ := id hC
  intro H locs ls hP hD hS hl
  refine lv_iload_n hx hb d_String_checkIndex_0 rfl (lv_at hl 0 rfl) ?_
  refine lv_iload_n hx hb d_String_checkIndex_1 rfl (lv_at hl 1 rfl) ?_
  have key : ∀ v : Value, v.category = 1 → W p l e rm_String_checkIndex s m args below meth c H locs 0 0 (MQ below (RV A) args s 0 0 A) (F0 m 5 ls [v, .int n, .int i]) := by
    intro v hv
    refine cl_Ir (wd := []) hP hS hA (va_runS (As := [.int i, .int n, v]) (rest := []) ⟨hx, hb, hml, hown, htb⟩ (c_Preconditions_checkIndex l g i n v hv h1 h2 H.size) (cw_S htb mb_Preconditions_checkIndex (htb _ L_String_1059) rfl rfl ⟨Nat.le_of_ble_eq_true rfl, Nat.le_of_ble_eq_true rfl⟩) (pre_S [] rfl rfl hP hD hS hA hAA hG) rfl rfl hl.1 rfl (lv_room (Nat.le_of_ble_eq_true rfl)) d_String_checkIndex_5 ⟨Nat.zero_le _, Nat.zero_le _⟩) (fun H locs hP hS => ?_)
    refine lv_pop hx hb d_String_checkIndex_8 rfl ?_
    exact W.vret hx hb hr (fun t ht hW => ⟨⟨(), rfl, trivial, trivial⟩, hS.F ht⟩) hS.2.2 d_String_checkIndex_9
  rcases hG.2.2.2.2.2.2 with hz | ⟨t, hz⟩
  · refine va_gets hx hb (hz.narrow hAA) hS hown (htb _ L_String_1053) (fun _ h9 => h9) d_String_checkIndex_2 ?_
    exact key .null rfl
  · refine va_gets hx hb (hz.narrow hAA) hS hown (htb _ L_String_1053) (fun _ h9 => h9) d_String_checkIndex_2 ?_
    exact key (.ref t) rfl
theorem c_String_checkIndex (l : Launch) (g : Gz) (i n : Int32) (h1 : ¬ i < 0) (h2 : i < n) : ∀ sz : Nat, Met l y_String_checkIndex (.code y_String_checkIndex prog_16_method_155_code 2 none :: TBL) rm_String_checkIndex (va_Pc [.int i, .int n] (Pre0 g [] sz)) (RV (fun q => sz ≤ q)) 0 0 (fun q => sz ≤ q) :=
  ct_rF (Qc := fun A => RV A) (by decide +kernel) (Nat.le_of_ble_eq_true rfl) (fun p e s m args below meth c A2 A hC => k_String_checkIndex hC i n h1 h2)
theorem k_String_coder (hC : Cx prog_16_method_152_code 1 (some .byte) "java/lang/String" p s m args meth c g A2 A) (w : Nat) (hw : w < nStr) : Go p l e rm_String_coder s m args below meth c g A2 A 1 (MQ below (RI 0 A) args s 0 0 A) [] [(0, .ref (g.2.2.2.1 w))] 0 [] := by
  obtain ⟨hx, hb, hr, hml, hown, htb, hlocks, hA, hAA, hG⟩ := id hC
  intro H locs ls hP hD hS hl
  refine va_gets hx hb (hG.2.2.2.2.2.1.narrow hAA) hS hown (htb _ L_String_38) (fun _ h9 => h9) d_String_coder_0 ?_
  refine lv_if_eq (tgt := 13) hx hb d_String_coder_3 (by decide) (fun c1 => absurd c1 (by decide)) (fun _ => ?_)
  refine lv_aload_n hx hb d_String_coder_6 rfl (lv_at hl 0 rfl) ?_
  refine vk_getf hx hb ((hG.2.2.2.1.1 w hw).2.1.narrow hAA) hS hown (htb _ L_String_15) (fun _ h9 => h9) d_String_coder_7 ?_
  refine lv_goto (tgt := 14) hx hb d_String_coder_10 (by decide) ?_
  exact W.zret hx hb hr rfl (fun t ht hW => ⟨⟨_, (), rfl, rfl, trivial⟩, hS.F ht⟩) hS.2.2 d_String_coder_14
theorem c_String_coder (l : Launch) (g : Gz) (w : Nat) (hw : w < nStr) : ∀ sz : Nat, Met l y_String_coder (.code y_String_coder prog_16_method_152_code 1 (some .byte) :: TBL) rm_String_coder (va_Pc [.ref (g.2.2.2.1 w)] (Pre0 g [] sz)) (RI 0 (fun q => sz ≤ q)) 0 0 (fun q => sz ≤ q) :=
  ct_rF (Qc := fun A => RI 0 A) (by decide +kernel) (Nat.le_of_ble_eq_true rfl) (fun p e s m args below meth c A2 A hC => k_String_coder hC w hw)
theorem k_String_isLatin1 (hC : Cx prog_16_method_154_code 1 (some .boolean) "java/lang/String" p s m args meth c g A2 A) (w : Nat) (hw : w < nStr) : Go p l e rm_String_isLatin1 s m args below meth c g A2 A 1 (MQ below (RI 1 A) args s 0 0 A) [] [(0, .ref (g.2.2.2.1 w))] 0 [] := by
  obtain ⟨hx, hb, hr, hml, hown, htb, hlocks, hA, hAA, hG⟩ := id hC
  intro H locs ls hP hD hS hl
  refine va_gets hx hb (hG.2.2.2.2.2.1.narrow hAA) hS hown (htb _ L_String_38) (fun _ h9 => h9) d_String_isLatin1_0 ?_
  refine lv_if_eq (tgt := 17) hx hb d_String_isLatin1_3 (by decide) (fun c1 => absurd c1 (by decide)) (fun _ => ?_)
  refine lv_aload_n hx hb d_String_isLatin1_6 rfl (lv_at hl 0 rfl) ?_
  refine vk_getf hx hb ((hG.2.2.2.1.1 w hw).2.1.narrow hAA) hS hown (htb _ L_String_15) (fun _ h9 => h9) d_String_isLatin1_7 ?_
  refine lv_if_ne (tgt := 17) hx hb d_String_isLatin1_10 (by decide) (fun c1 => absurd rfl c1) (fun _ => ?_)
  refine lv_iconst (v := 1) hx hb d_String_isLatin1_13 (by decide) ?_
  refine lv_goto (tgt := 18) hx hb d_String_isLatin1_14 (by decide) ?_
  exact W.zret hx hb hr rfl (fun t ht hW => ⟨⟨_, (), rfl, rfl, trivial⟩, hS.F ht⟩) hS.2.2 d_String_isLatin1_18
theorem c_String_isLatin1 (l : Launch) (g : Gz) (w : Nat) (hw : w < nStr) : ∀ sz : Nat, Met l y_String_isLatin1 (.code y_String_isLatin1 prog_16_method_154_code 1 (some .boolean) :: TBL) rm_String_isLatin1 (va_Pc [.ref (g.2.2.2.1 w)] (Pre0 g [] sz)) (RI 1 (fun q => sz ≤ q)) 0 0 (fun q => sz ≤ q) :=
  ct_rF (Qc := fun A => RI 1 A) (by decide +kernel) (Nat.le_of_ble_eq_true rfl) (fun p e s m args below meth c A2 A hC => k_String_isLatin1 hC w hw)
theorem k_String_length (hC : Cx prog_16_method_54_code 1 (some .int) "java/lang/String" p s m args meth c g A2 A) (w : Nat) (hw : w < nStr) : Go p l e rm_String_length s m args below meth c g A2 A 1 (MQ below (RI (Int32.ofNat (lenStr.getD w 0)) A) args s 0 0 A) [] [(0, .ref (g.2.2.2.1 w))] 0 [] := by
  obtain ⟨hx, hb, hr, hml, hown, htb, hlocks, hA, hAA, hG⟩ := id hC
  intro H locs ls hP hD hS hl
  refine lv_aload_n hx hb d_String_length_0 rfl (lv_at hl 0 rfl) ?_
  refine vk_getf hx hb ((hG.2.2.2.1.1 w hw).2.2.1.narrow hAA) hS hown (htb _ L_String_9) (fun _ h9 => h9) d_String_length_1 ?_
  refine va_tlen hx hb ((hG.2.2.2.1.1 w hw).2.2.2.narrow hAA) hS rfl d_String_length_4 ?_
  refine lv_aload_n hx hb d_String_length_5 rfl (lv_at hl 0 rfl) ?_
  refine cl_Ir (wd := []) hP hS hA (va_runV (As := []) (rest := [.int (Int32.ofNat (lenStr.getD w 0))]) ⟨hx, hb, hml, hown, htb⟩ (c_String_coder l g w hw H.size) (cw_V htb mb_String_coder (htb _ L_String_335) rfl rfl ⟨Nat.le_of_ble_eq_true rfl, Nat.le_of_ble_eq_true rfl⟩) (pre_V (vk_recv (hG.2.2.2.1.narrow hAA) hw hS) (pre_S [] rfl rfl hP hD hS hA hAA hG)) rfl rfl hl.1 rfl (lv_room (Nat.le_of_ble_eq_true rfl)) d_String_length_6 ⟨Nat.zero_le _, Nat.zero_le _⟩) (fun H locs hP hS => ?_)
  refine lv_ishr hx hb d_String_length_9 ?_
  rw [sb_shr0]
  exact W.iret hx hb hr (fun t ht hW => ⟨⟨_, (), rfl, rfl, trivial⟩, hS.F ht⟩) hS.2.2 d_String_length_10
theorem c_String_length (l : Launch) (g : Gz) (F : Nat) (w : Nat) (res : Int32) (h : String_length F w = some res) : ∀ sz : Nat, Met l y_String_length (.code y_String_length prog_16_method_54_code 1 (some .int) :: TBL) rm_String_length (va_Pc [.ref (g.2.2.2.1 w)] (Pre0 g [] sz)) (RI res (fun q => sz ≤ q)) 0 0 (fun q => sz ≤ q) := by
  rw [String_length] at h
  by_cases hw : w < nStr
  · rw [if_pos hw] at h
    cases h
    exact ct_rF (Qc := fun A => RI (Int32.ofNat (lenStr.getD w 0)) A) (by decide +kernel) (Nat.le_of_ble_eq_true rfl) (fun p e s m args below meth c A2 A hC => k_String_length hC w hw)
  · rw [if_neg hw] at h
    cases h
theorem k_StringLatin1_charAt (hC : Cx prog_17_method_2_code 2 (some .char) "java/lang/StringLatin1" p s m args meth c g A2 A) (w : Nat) (i : Int32) (hw : w < nStr) (hi : ¬ (i < 0 ∨ lenStr.getD w 0 ≤ i.toNatClampNeg)) : Go p l e rm_StringLatin1_charAt s m args below meth c g A2 A 2 (MQ below (RI (strCh w i) A) args s 0 0 A) [] [(0, .ref (g.2.2.2.2.1 w)), (1, .int i)] 0 [] := by
  obtain ⟨hx, hb, hr, hml, hown, htb, hlocks, hA, hAA, hG⟩ := id hC
  intro H locs ls hP hD hS hl
  obtain ⟨h1, h2⟩ := in_lt (lenStr_lt w hw) hi
  refine lv_iload_n hx hb d_StringLatin1_charAt_0 rfl (lv_at hl 1 rfl) ?_
  refine lv_aload_n hx hb d_StringLatin1_charAt_1 rfl (lv_at hl 0 rfl) ?_
  refine va_tlen hx hb ((hG.2.2.2.1.1 w hw).2.2.2.narrow hAA) hS rfl d_StringLatin1_charAt_2 ?_
  refine cl_Vr (wd := []) hP hS hA (va_runS (As := [.int i, .int (Int32.ofNat (lenStr.getD w 0))]) (rest := []) ⟨hx, hb, hml, hown, htb⟩ (c_String_checkIndex l g i _ h1 h2 H.size) (cw_S htb mb_String_checkIndex (htb _ L_StringLatin1_9) rfl rfl ⟨Nat.le_of_ble_eq_true rfl, Nat.le_of_ble_eq_true rfl⟩) (pre_S [] rfl rfl hP hD hS hA hAA hG) rfl rfl hl.1 rfl (lv_room (Nat.le_of_ble_eq_true rfl)) d_StringLatin1_charAt_3 ⟨Nat.zero_le _, Nat.zero_le _⟩) (fun H locs hP hS => ?_)
  refine lv_aload_n hx hb d_StringLatin1_charAt_6 rfl (lv_at hl 0 rfl) ?_
  refine lv_iload_n hx hb d_StringLatin1_charAt_7 rfl (lv_at hl 1 rfl) ?_
  refine va_tb hx hb ((hG.2.2.2.1.1 w hw).2.2.2.narrow hAA) hS hi rfl d_StringLatin1_charAt_8 ?_
  refine lv_sipush (v := 255) hx hb d_StringLatin1_charAt_9 (by decide) ?_
  refine lv_iand hx hb d_StringLatin1_charAt_12 ?_
  refine lv_i2c hx hb d_StringLatin1_charAt_13 rfl ?_
  exact W.zret hx hb hr (pk_nc _) (fun t ht hW => ⟨⟨_, (), rfl, rfl, trivial⟩, hS.F ht⟩) hS.2.2 d_StringLatin1_charAt_14
theorem c_StringLatin1_charAt (l : Launch) (g : Gz) (w : Nat) (i : Int32) (hw : w < nStr) (hi : ¬ (i < 0 ∨ lenStr.getD w 0 ≤ i.toNatClampNeg)) : ∀ sz : Nat, Met l y_StringLatin1_charAt (.code y_StringLatin1_charAt prog_17_method_2_code 2 (some .char) :: TBL) rm_StringLatin1_charAt (va_Pc [.ref (g.2.2.2.2.1 w), .int i] (Pre0 g [] sz)) (RI (strCh w i) (fun q => sz ≤ q)) 0 0 (fun q => sz ≤ q) :=
  ct_rF (Qc := fun A => RI (strCh w i) A) (by decide +kernel) (Nat.le_of_ble_eq_true rfl) (fun p e s m args below meth c A2 A hC => k_StringLatin1_charAt hC w i hw hi)
theorem k_String_charAt (hC : Cx prog_16_method_56_code 2 (some .char) "java/lang/String" p s m args meth c g A2 A) (w : Nat) (i : Int32) (hw : w < nStr) (hi : ¬ (i < 0 ∨ lenStr.getD w 0 ≤ i.toNatClampNeg)) : Go p l e rm_String_charAt s m args below meth c g A2 A 2 (MQ below (RI (strCh w i) A) args s 0 0 A) [] [(0, .ref (g.2.2.2.1 w)), (1, .int i)] 0 [] := by
  obtain ⟨hx, hb, hr, hml, hown, htb, hlocks, hA, hAA, hG⟩ := id hC
  intro H locs ls hP hD hS hl
  refine lv_aload_n hx hb d_String_charAt_0 rfl (lv_at hl 0 rfl) ?_
  refine cl_Ir (wd := []) hP hS hA (va_runV (As := []) (rest := []) ⟨hx, hb, hml, hown, htb⟩ (c_String_isLatin1 l g w hw H.size) (cw_V htb mb_String_isLatin1 (htb _ L_String_492) rfl rfl ⟨Nat.le_of_ble_eq_true rfl, Nat.le_of_ble_eq_true rfl⟩) (pre_V (vk_recv (hG.2.2.2.1.narrow hAA) hw hS) (pre_S [] rfl rfl hP hD hS hA hAA hG)) rfl rfl hl.1 rfl (lv_room (Nat.le_of_ble_eq_true rfl)) d_String_charAt_1 ⟨Nat.zero_le _, Nat.zero_le _⟩) (fun H locs hP hS => ?_)
  refine lv_if_eq (tgt := 16) hx hb d_String_charAt_4 (by decide) (fun c1 => absurd c1 (by decide)) (fun _ => ?_)
  refine lv_aload_n hx hb d_String_charAt_7 rfl (lv_at hl 0 rfl) ?_
  refine vk_getf hx hb ((hG.2.2.2.1.1 w hw).2.2.1.narrow hAA) hS hown (htb _ L_String_9) (fun _ h9 => h9) d_String_charAt_8 ?_
  refine lv_iload_n hx hb d_String_charAt_11 rfl (lv_at hl 1 rfl) ?_
  refine cl_Ir (wd := []) hP hS hA (va_runS (As := [.ref (g.2.2.2.2.1 w), .int i]) (rest := []) ⟨hx, hb, hml, hown, htb⟩ (c_StringLatin1_charAt l g w i hw hi H.size) (cw_S htb mb_StringLatin1_charAt (htb _ L_String_495) rfl rfl ⟨Nat.le_of_ble_eq_true rfl, Nat.le_of_ble_eq_true rfl⟩) (pre_S [] rfl rfl hP hD hS hA hAA hG) rfl rfl hl.1 rfl (lv_room (Nat.le_of_ble_eq_true rfl)) d_String_charAt_12 ⟨Nat.zero_le _, Nat.zero_le _⟩) (fun H locs hP hS => ?_)
  exact W.zret hx hb hr (pk_nc _) (fun t ht hW => ⟨⟨_, (), rfl, rfl, trivial⟩, hS.F ht⟩) hS.2.2 d_String_charAt_15
theorem c_String_charAt (l : Launch) (g : Gz) (F : Nat) (w : Nat) (i : Int32) (res : Int32) (h : String_charAt F w i = some res) : ∀ sz : Nat, Met l y_String_charAt (.code y_String_charAt prog_16_method_56_code 2 (some .char) :: TBL) rm_String_charAt (va_Pc [.ref (g.2.2.2.1 w), .int i] (Pre0 g [] sz)) (RI res (fun q => sz ≤ q)) 0 0 (fun q => sz ≤ q) := by
  rw [String_charAt] at h
  by_cases hw : w < nStr
  · rw [if_pos hw] at h
    by_cases hi : i < 0 ∨ lenStr.getD w 0 ≤ i.toNatClampNeg
    · rw [if_pos hi] at h
      cases h
    · rw [if_neg hi] at h
      cases h
      exact ct_rF (Qc := fun A => RI (strCh w i) A) (by decide +kernel) (Nat.le_of_ble_eq_true rfl) (fun p e s m args below meth c A2 A hC => k_String_charAt hC w i hw hi)
  · rw [if_neg hw] at h
    cases h
/-- a literal to which a method answers can be asked -/
theorem lit_len {F w : Nat} {r : Int32} (h : String_length F w = some r) : w < nStr := by
  by_cases hw : w < nStr
  · exact hw
  · rw [String_length, if_neg hw] at h
    cases h
theorem lit_ch {F w : Nat} {i r : Int32} (h : String_charAt F w i = some r) : w < nStr := by
  by_cases hw : w < nStr
  · exact hw
  · rw [String_charAt, if_neg hw] at h
    cases h
end STR
