theorem L_Reader_3 : (Jvm.Cond.methodLink "MailQueries$Reader" (3 : Nat) ({ cls := "java/lang/Object", name := "<init>", desc := "()V" } : Jvm.MethodName)) ∈ TBL := TBL_in (List.mem_of_getElem? (i := 207) (by decide +kernel)) (by decide +kernel)
theorem IN_Span : (Jvm.Cond.instantiable "MailQueries$Span" (2 : Nat)) ∈ TBL := TBL_in (List.mem_of_getElem? (i := 209) (by decide +kernel)) (by decide +kernel)
theorem L_Reader_9 : (Jvm.Cond.classLink "MailQueries$Reader" (9 : Nat) "MailQueries$Span") ∈ TBL := TBL_in (List.mem_of_getElem? (i := 208) (by decide +kernel)) (by decide +kernel)
set_option maxRecDepth 100000 in
theorem W_Reader_init_code : (Jvm.Cond.code ({ cls := "MailQueries$Reader", name := "<init>", desc := "(LMailQueries$Query;)V" } : Jvm.MethodName) prog_6_method_1_code (2 : Nat) (Option.none : Option Jvm.ClassFile.FieldType)) ∈ TBL := TBL_in (List.mem_of_getElem? (i := 206) rfl) rfl
theorem W_Reader_init_in : (Jvm.Cond.instanceMethod ({ cls := "MailQueries$Reader", name := "<init>", desc := "(LMailQueries$Query;)V" } : Jvm.MethodName)) ∈ TBL := TBL_in (List.mem_of_getElem? (i := 205) (by decide +kernel)) (by decide +kernel)
theorem d_Reader_init_0 : decode prog_6_method_1_code 0 = .ok (.aload_n 0, 1) := by decide +kernel
theorem d_Reader_init_1 : decode prog_6_method_1_code 1 = .ok (.invokespecial 3, 3) := by decide +kernel
theorem d_Reader_init_4 : decode prog_6_method_1_code 4 = .ok (.aload_n 0, 1) := by decide +kernel
theorem d_Reader_init_5 : decode prog_6_method_1_code 5 = .ok (.new 9, 3) := by decide +kernel
theorem d_Reader_init_8 : decode prog_6_method_1_code 8 = .ok (.dup, 1) := by decide +kernel
theorem d_Reader_init_9 : decode prog_6_method_1_code 9 = .ok (.invokespecial 11, 3) := by decide +kernel
theorem d_Reader_init_12 : decode prog_6_method_1_code 12 = .ok (.putfield 12, 3) := by decide +kernel
theorem d_Reader_init_15 : decode prog_6_method_1_code 15 = .ok (.aload_n 0, 1) := by decide +kernel
theorem d_Reader_init_16 : decode prog_6_method_1_code 16 = .ok (.iconst 0, 1) := by decide +kernel
theorem d_Reader_init_17 : decode prog_6_method_1_code 17 = .ok (.putfield 18, 3) := by decide +kernel
theorem d_Reader_init_20 : decode prog_6_method_1_code 20 = .ok (.aload_n 0, 1) := by decide +kernel
theorem d_Reader_init_21 : decode prog_6_method_1_code 21 = .ok (.iconst (-1), 1) := by decide +kernel
theorem d_Reader_init_22 : decode prog_6_method_1_code 22 = .ok (.putfield 22, 3) := by decide +kernel
theorem d_Reader_init_25 : decode prog_6_method_1_code 25 = .ok (.aload_n 0, 1) := by decide +kernel
theorem d_Reader_init_26 : decode prog_6_method_1_code 26 = .ok (.iconst 1, 1) := by decide +kernel
theorem d_Reader_init_27 : decode prog_6_method_1_code 27 = .ok (.putfield 25, 3) := by decide +kernel
theorem d_Reader_init_30 : decode prog_6_method_1_code 30 = .ok (.aload_n 0, 1) := by decide +kernel
theorem d_Reader_init_31 : decode prog_6_method_1_code 31 = .ok (.iconst 0, 1) := by decide +kernel
theorem d_Reader_init_32 : decode prog_6_method_1_code 32 = .ok (.putfield 29, 3) := by decide +kernel
theorem d_Reader_init_35 : decode prog_6_method_1_code 35 = .ok (.aload_n 0, 1) := by decide +kernel
theorem d_Reader_init_36 : decode prog_6_method_1_code 36 = .ok (.bipush 21, 2) := by decide +kernel
theorem d_Reader_init_38 : decode prog_6_method_1_code 38 = .ok (.newarray .int, 2) := by decide +kernel
theorem d_Reader_init_40 : decode prog_6_method_1_code 40 = .ok (.putfield 32, 3) := by decide +kernel
theorem d_Reader_init_43 : decode prog_6_method_1_code 43 = .ok (.aload_n 0, 1) := by decide +kernel
theorem d_Reader_init_44 : decode prog_6_method_1_code 44 = .ok (.bipush 21, 2) := by decide +kernel
theorem d_Reader_init_46 : decode prog_6_method_1_code 46 = .ok (.newarray .int, 2) := by decide +kernel
theorem d_Reader_init_48 : decode prog_6_method_1_code 48 = .ok (.putfield 36, 3) := by decide +kernel
theorem d_Reader_init_51 : decode prog_6_method_1_code 51 = .ok (.aload_n 0, 1) := by decide +kernel
theorem d_Reader_init_52 : decode prog_6_method_1_code 52 = .ok (.bipush 21, 2) := by decide +kernel
theorem d_Reader_init_54 : decode prog_6_method_1_code 54 = .ok (.newarray .int, 2) := by decide +kernel
theorem d_Reader_init_56 : decode prog_6_method_1_code 56 = .ok (.putfield 39, 3) := by decide +kernel
theorem d_Reader_init_59 : decode prog_6_method_1_code 59 = .ok (.aload_n 0, 1) := by decide +kernel
theorem d_Reader_init_60 : decode prog_6_method_1_code 60 = .ok (.aload_n 1, 1) := by decide +kernel
theorem d_Reader_init_61 : decode prog_6_method_1_code 61 = .ok (.putfield 42, 3) := by decide +kernel
theorem d_Reader_init_64 : decode prog_6_method_1_code 64 = .ok (.return_, 1) := by decide +kernel
def rm_Reader_init : Room := { frames := 2, cells := 4, slots := 65, locals := 32 }
def y_Reader_init : MethodName := ⟨"MailQueries$Reader", "<init>", "(LMailQueries$Query;)V"⟩
theorem mb_Reader_init : MbI y_Reader_init prog_6_method_1_code 2 1 := ⟨W_Reader_init_code, W_Reader_init_in, I_Reader, rfl, by decide +kernel, by decide +kernel, by decide +kernel⟩
def Sh_Reader (g : Gz) (h0 : Nat) (p1 : Nat) (wd : va_W) : Prop := ∃ (a_t a2 : Nat → Nat), a_t 0 = h0 ∧ wd = (pic_Reader g a_t p1 (a2 0) (fun k _ => if k = 3 then -1 else if k = 4 then 1 else 0)) ++ (pic_Span g a2 (fun _ _ => 0))
set_option maxHeartbeats 4000000 in
set_option maxRecDepth 100000 in
theorem c_Reader_init (l : Launch) (g : Gz) (h0 : Nat) (p1 : Nat) : ∀ sz : Nat, Met l y_Reader_init (.code y_Reader_init prog_6_method_1_code 2 none :: TBL) rm_Reader_init (va_Pc [.ref h0, .ref p1] (Pre0 g [(h0, .inr (3, [.null, .null, .int 0, .int 0, .int 0, .int 0, .null, .null, .null]))] sz)) (EN g (Sh_Reader g h0 p1) (va_A [(h0, .inr (3, [.null, .null, .int 0, .int 0, .int 0, .int 0, .null, .null, .null]))] sz)) 4 65 (va_A [(h0, .inr (3, [.null, .null, .int 0, .int 0, .int 0, .int 0, .null, .null, .null]))] sz) := by
  refine ct_n (Pw := Sh_Reader g h0 p1) (by decide) rfl (Nat.le_of_ble_eq_true rfl) ?_
  intro p e s m args below meth c A ls hC hin hl hP hD
  obtain ⟨hx, hb, hr, hml, hown, htb, hlocks, hA, hAA, hG⟩ := id hC
  have hown : s.vm.findClass R_Reader = some m.cls := hown
  have hS : va_S A s.heap s.heap [] := va_S.rf
  have hl : lv_has ls 2 [(0, .ref h0), (1, .ref p1)] := hl
  refine lv_aload_n hx hb d_Reader_init_0 rfl (lv_at hl 0 rfl) ?_
  refine W.objInit hx hb hown (htb _ L_Reader_3) (htb _ OI_in) (htb _ OI_code) rfl (by rw [hml]; exact hl.1) rfl d_Reader_init_1 (Nat.le_of_ble_eq_true rfl) (Nat.le_of_ble_eq_true rfl) ?_
  refine W.eq (g2 := F0 m 4 ls []) rfl ?_
  refine lv_aload_n hx hb d_Reader_init_4 rfl (lv_at hl 0 rfl) ?_
  refine va_new (ci := 2) (fs := [.int 0, .int 0]) (C := R_Span) (T := T_Span) (N := 2) hx hb htb in_Span ty_Span ty_Span_ok hown (htb _ L_Reader_9) (htb _ IN_Span) (htb _ I_Span) hG.1 hP hD hS hA rfl (fun j hj => by rcases (show j = 0 ∨ j = 1 by omega) with rfl | rfl <;> rfl) (Nat.le_of_ble_eq_true rfl) (Nat.le_of_ble_eq_true rfl) d_Reader_init_5 (fun q1 H hP hD hS => ?_)
  have hP : va_P (gD g) vwCl ([(h0, .inr (3, [.null, .null, .int 0, .int 0, .int 0, .int 0, .null, .null, .null])), (q1, .inr (2, [.int 0, .int 0]))]) H := hP
  have hD : va_D A ([(h0, .inr (3, [.null, .null, .int 0, .int 0, .int 0, .int 0, .null, .null, .null])), (q1, .inr (2, [.int 0, .int 0]))]) := hD
  refine lv_dup hx hb d_Reader_init_8 rfl ?_
  refine cl_N (wr := [(h0, .inr (3, [.null, .null, .int 0, .int 0, .int 0, .int 0, .null, .null, .null]))]) [1] [0] rfl rfl rfl (by decide) hP hD hS hA (va_runIN (As := []) (rest := [.ref q1, .ref h0]) ⟨hx, hb, hml, hown, htb⟩ (c_Span_init l g q1 H.size) (cn_I htb mb_Span_init (nm_of hG N_Reader_11) rfl rfl ⟨Nat.le_of_ble_eq_true rfl, Nat.le_of_ble_eq_true rfl⟩) (pre_S [1] rfl rfl hP hD hS hA hAA hG) rfl rfl hl.1 rfl (lv_room (Nat.le_of_ble_eq_true rfl)) d_Reader_init_9 ⟨Nat.le_of_ble_eq_true rfl, Nat.le_of_ble_eq_true rfl⟩) (fun w1 H locs hw hP2 hD2 hS2 => ?_)
  obtain ⟨a2, ha0, rfl⟩ := hw
  subst ha0
  have hP := hP2
  have hD := hD2
  have hS := hS2
  have hP : va_P (gD g) vwCl ([(h0, .inr (3, [.null, .null, .int 0, .int 0, .int 0, .int 0, .null, .null, .null]))] ++ (pic_Span g a2 (fun _ _ => 0))) H := hP
  have hD : va_D A ([(h0, .inr (3, [.null, .null, .int 0, .int 0, .int 0, .int 0, .null, .null, .null]))] ++ (pic_Span g a2 (fun _ _ => 0))) := hD
  refine va_putF (D := gD g) (ci := 3) (v := .ref (a2 0)) (ty := .object "MailQueries$Span") (C := R_Reader) (T := T_Reader) (N := 9) hx hb htb in_Reader ty_Reader ty_Reader_ok nm_Reader hown hG.1 hP hD hS 0 rfl rfl 1 (by decide) (htb _ L_Reader_12) (fun _ h9 => h9) rfl hin rfl (by decide +kernel) rfl rfl (Nat.le_of_ble_eq_true rfl) d_Reader_init_12 (fun H locs hP hD hS => ?_)
  have hP : va_P (gD g) vwCl ([(h0, .inr (3, [.null, .ref (a2 0), .int 0, .int 0, .int 0, .int 0, .null, .null, .null]))] ++ (pic_Span g a2 (fun _ _ => 0))) H := hP
  have hD : va_D A ([(h0, .inr (3, [.null, .ref (a2 0), .int 0, .int 0, .int 0, .int 0, .null, .null, .null]))] ++ (pic_Span g a2 (fun _ _ => 0))) := hD
  refine lv_aload_n hx hb d_Reader_init_15 rfl (lv_at hl 0 rfl) ?_
  refine lv_iconst (v := 0) hx hb d_Reader_init_16 (by decide) ?_
  refine va_put (D := gD g) (ci := 3) (v := .int (0 : Int32)) (ty := .int) (C := R_Reader) (T := T_Reader) (N := 9) hx hb htb in_Reader ty_Reader ty_Reader_ok nm_Reader hown hG.1 hP hD hS 0 rfl rfl 2 (by decide) (htb _ L_Reader_18) (fun _ h9 => h9) rfl (by decide +kernel) rfl rfl (Nat.le_of_ble_eq_true rfl) d_Reader_init_17 (fun H locs hP hD hS => ?_)
  have hP : va_P (gD g) vwCl ([(h0, .inr (3, [.null, .ref (a2 0), .int (0 : Int32), .int 0, .int 0, .int 0, .null, .null, .null]))] ++ (pic_Span g a2 (fun _ _ => 0))) H := hP
  have hD : va_D A ([(h0, .inr (3, [.null, .ref (a2 0), .int (0 : Int32), .int 0, .int 0, .int 0, .null, .null, .null]))] ++ (pic_Span g a2 (fun _ _ => 0))) := hD
  refine lv_aload_n hx hb d_Reader_init_20 rfl (lv_at hl 0 rfl) ?_
  refine lv_iconst (v := -1) hx hb d_Reader_init_21 (by decide) ?_
  refine va_put (D := gD g) (ci := 3) (v := .int (-1 : Int32)) (ty := .int) (C := R_Reader) (T := T_Reader) (N := 9) hx hb htb in_Reader ty_Reader ty_Reader_ok nm_Reader hown hG.1 hP hD hS 0 rfl rfl 3 (by decide) (htb _ L_Reader_22) (fun _ h9 => h9) rfl (by decide +kernel) rfl rfl (Nat.le_of_ble_eq_true rfl) d_Reader_init_22 (fun H locs hP hD hS => ?_)
  have hP : va_P (gD g) vwCl ([(h0, .inr (3, [.null, .ref (a2 0), .int (0 : Int32), .int (-1 : Int32), .int 0, .int 0, .null, .null, .null]))] ++ (pic_Span g a2 (fun _ _ => 0))) H := hP
  have hD : va_D A ([(h0, .inr (3, [.null, .ref (a2 0), .int (0 : Int32), .int (-1 : Int32), .int 0, .int 0, .null, .null, .null]))] ++ (pic_Span g a2 (fun _ _ => 0))) := hD
  refine lv_aload_n hx hb d_Reader_init_25 rfl (lv_at hl 0 rfl) ?_
  refine lv_iconst (v := 1) hx hb d_Reader_init_26 (by decide) ?_
  refine va_put (D := gD g) (ci := 3) (v := .int (1 : Int32)) (ty := .boolean) (C := R_Reader) (T := T_Reader) (N := 9) hx hb htb in_Reader ty_Reader ty_Reader_ok nm_Reader hown hG.1 hP hD hS 0 rfl rfl 4 (by decide) (htb _ L_Reader_25) (fun _ h9 => h9) rfl (by decide +kernel) rfl rfl (Nat.le_of_ble_eq_true rfl) d_Reader_init_27 (fun H locs hP hD hS => ?_)
  have hP : va_P (gD g) vwCl ([(h0, .inr (3, [.null, .ref (a2 0), .int (0 : Int32), .int (-1 : Int32), .int (1 : Int32), .int 0, .null, .null, .null]))] ++ (pic_Span g a2 (fun _ _ => 0))) H := hP
  have hD : va_D A ([(h0, .inr (3, [.null, .ref (a2 0), .int (0 : Int32), .int (-1 : Int32), .int (1 : Int32), .int 0, .null, .null, .null]))] ++ (pic_Span g a2 (fun _ _ => 0))) := hD
  refine lv_aload_n hx hb d_Reader_init_30 rfl (lv_at hl 0 rfl) ?_
  refine lv_iconst (v := 0) hx hb d_Reader_init_31 (by decide) ?_
  refine va_put (D := gD g) (ci := 3) (v := .int (0 : Int32)) (ty := .int) (C := R_Reader) (T := T_Reader) (N := 9) hx hb htb in_Reader ty_Reader ty_Reader_ok nm_Reader hown hG.1 hP hD hS 0 rfl rfl 5 (by decide) (htb _ L_Reader_29) (fun _ h9 => h9) rfl (by decide +kernel) rfl rfl (Nat.le_of_ble_eq_true rfl) d_Reader_init_32 (fun H locs hP hD hS => ?_)
  have hP : va_P (gD g) vwCl ([(h0, .inr (3, [.null, .ref (a2 0), .int (0 : Int32), .int (-1 : Int32), .int (1 : Int32), .int (0 : Int32), .null, .null, .null]))] ++ (pic_Span g a2 (fun _ _ => 0))) H := hP
  have hD : va_D A ([(h0, .inr (3, [.null, .ref (a2 0), .int (0 : Int32), .int (-1 : Int32), .int (1 : Int32), .int (0 : Int32), .null, .null, .null]))] ++ (pic_Span g a2 (fun _ _ => 0))) := hD
  refine lv_aload_n hx hb d_Reader_init_35 rfl (lv_at hl 0 rfl) ?_
  refine lv_bipush (v := 21) hx hb d_Reader_init_36 (by decide) ?_
  refine new_a (atype := .int) (ty := .int) (t0 := 0) (N' := 21) (a0 := (21, .inl (fun _ => 0))) (nm := "[I") hx hb (htb _ AC_int) rfl (fun _ h9 => h9) hG rfl hP hD hS hA (ha_int 21) (by decide) rfl (Nat.le_of_ble_eq_true rfl) (Nat.le_of_ble_eq_true rfl) (Nat.le_of_ble_eq_true rfl) d_Reader_init_38 (fun q3 H hP hD hS => ?_)
  have hP : va_P (gD g) vwCl ([(h0, .inr (3, [.null, .ref (a2 0), .int (0 : Int32), .int (-1 : Int32), .int (1 : Int32), .int (0 : Int32), .null, .null, .null]))] ++ (pic_Span g a2 (fun _ _ => 0)) ++ [(q3, .inl (g.2.2.1 0, (21, .inl (fun _ => 0))))]) H := hP
  have hD : va_D A ([(h0, .inr (3, [.null, .ref (a2 0), .int (0 : Int32), .int (-1 : Int32), .int (1 : Int32), .int (0 : Int32), .null, .null, .null]))] ++ (pic_Span g a2 (fun _ _ => 0)) ++ [(q3, .inl (g.2.2.1 0, (21, .inl (fun _ => 0))))]) := hD
  refine va_putF (D := gD g) (ci := 3) (v := .ref q3) (ty := .array .int) (C := R_Reader) (T := T_Reader) (N := 9) hx hb htb in_Reader ty_Reader ty_Reader_ok nm_Reader hown hG.1 hP hD hS 0 rfl rfl 6 (by decide) (htb _ L_Reader_32) (fun _ h9 => h9) rfl hin rfl (by decide +kernel) rfl rfl (Nat.le_of_ble_eq_true rfl) d_Reader_init_40 (fun H locs hP hD hS => ?_)
  have hP : va_P (gD g) vwCl ([(h0, .inr (3, [.null, .ref (a2 0), .int (0 : Int32), .int (-1 : Int32), .int (1 : Int32), .int (0 : Int32), .ref q3, .null, .null]))] ++ (pic_Span g a2 (fun _ _ => 0)) ++ [(q3, .inl (g.2.2.1 0, (21, .inl (fun _ => 0))))]) H := hP
  have hD : va_D A ([(h0, .inr (3, [.null, .ref (a2 0), .int (0 : Int32), .int (-1 : Int32), .int (1 : Int32), .int (0 : Int32), .ref q3, .null, .null]))] ++ (pic_Span g a2 (fun _ _ => 0)) ++ [(q3, .inl (g.2.2.1 0, (21, .inl (fun _ => 0))))]) := hD
  refine lv_aload_n hx hb d_Reader_init_43 rfl (lv_at hl 0 rfl) ?_
  refine lv_bipush (v := 21) hx hb d_Reader_init_44 (by decide) ?_
  refine new_a (atype := .int) (ty := .int) (t0 := 0) (N' := 21) (a0 := (21, .inl (fun _ => 0))) (nm := "[I") hx hb (htb _ AC_int) rfl (fun _ h9 => h9) hG rfl hP hD hS hA (ha_int 21) (by decide) rfl (Nat.le_of_ble_eq_true rfl) (Nat.le_of_ble_eq_true rfl) (Nat.le_of_ble_eq_true rfl) d_Reader_init_46 (fun q4 H hP hD hS => ?_)
  have hP : va_P (gD g) vwCl ([(h0, .inr (3, [.null, .ref (a2 0), .int (0 : Int32), .int (-1 : Int32), .int (1 : Int32), .int (0 : Int32), .ref q3, .null, .null]))] ++ (pic_Span g a2 (fun _ _ => 0)) ++ [(q3, .inl (g.2.2.1 0, (21, .inl (fun _ => 0)))), (q4, .inl (g.2.2.1 0, (21, .inl (fun _ => 0))))]) H := hP
  have hD : va_D A ([(h0, .inr (3, [.null, .ref (a2 0), .int (0 : Int32), .int (-1 : Int32), .int (1 : Int32), .int (0 : Int32), .ref q3, .null, .null]))] ++ (pic_Span g a2 (fun _ _ => 0)) ++ [(q3, .inl (g.2.2.1 0, (21, .inl (fun _ => 0)))), (q4, .inl (g.2.2.1 0, (21, .inl (fun _ => 0))))]) := hD
  refine va_putF (D := gD g) (ci := 3) (v := .ref q4) (ty := .array .int) (C := R_Reader) (T := T_Reader) (N := 9) hx hb htb in_Reader ty_Reader ty_Reader_ok nm_Reader hown hG.1 hP hD hS 0 rfl rfl 7 (by decide) (htb _ L_Reader_36) (fun _ h9 => h9) rfl hin rfl (by decide +kernel) rfl rfl (Nat.le_of_ble_eq_true rfl) d_Reader_init_48 (fun H locs hP hD hS => ?_)
  have hP : va_P (gD g) vwCl ([(h0, .inr (3, [.null, .ref (a2 0), .int (0 : Int32), .int (-1 : Int32), .int (1 : Int32), .int (0 : Int32), .ref q3, .ref q4, .null]))] ++ (pic_Span g a2 (fun _ _ => 0)) ++ [(q3, .inl (g.2.2.1 0, (21, .inl (fun _ => 0)))), (q4, .inl (g.2.2.1 0, (21, .inl (fun _ => 0))))]) H := hP
  have hD : va_D A ([(h0, .inr (3, [.null, .ref (a2 0), .int (0 : Int32), .int (-1 : Int32), .int (1 : Int32), .int (0 : Int32), .ref q3, .ref q4, .null]))] ++ (pic_Span g a2 (fun _ _ => 0)) ++ [(q3, .inl (g.2.2.1 0, (21, .inl (fun _ => 0)))), (q4, .inl (g.2.2.1 0, (21, .inl (fun _ => 0))))]) := hD
  refine lv_aload_n hx hb d_Reader_init_51 rfl (lv_at hl 0 rfl) ?_
  refine lv_bipush (v := 21) hx hb d_Reader_init_52 (by decide) ?_
  refine new_a (atype := .int) (ty := .int) (t0 := 0) (N' := 21) (a0 := (21, .inl (fun _ => 0))) (nm := "[I") hx hb (htb _ AC_int) rfl (fun _ h9 => h9) hG rfl hP hD hS hA (ha_int 21) (by decide) rfl (Nat.le_of_ble_eq_true rfl) (Nat.le_of_ble_eq_true rfl) (Nat.le_of_ble_eq_true rfl) d_Reader_init_54 (fun q5 H hP hD hS => ?_)
  have hP : va_P (gD g) vwCl ([(h0, .inr (3, [.null, .ref (a2 0), .int (0 : Int32), .int (-1 : Int32), .int (1 : Int32), .int (0 : Int32), .ref q3, .ref q4, .null]))] ++ (pic_Span g a2 (fun _ _ => 0)) ++ [(q3, .inl (g.2.2.1 0, (21, .inl (fun _ => 0)))), (q4, .inl (g.2.2.1 0, (21, .inl (fun _ => 0)))), (q5, .inl (g.2.2.1 0, (21, .inl (fun _ => 0))))]) H := hP
  have hD : va_D A ([(h0, .inr (3, [.null, .ref (a2 0), .int (0 : Int32), .int (-1 : Int32), .int (1 : Int32), .int (0 : Int32), .ref q3, .ref q4, .null]))] ++ (pic_Span g a2 (fun _ _ => 0)) ++ [(q3, .inl (g.2.2.1 0, (21, .inl (fun _ => 0)))), (q4, .inl (g.2.2.1 0, (21, .inl (fun _ => 0)))), (q5, .inl (g.2.2.1 0, (21, .inl (fun _ => 0))))]) := hD
  refine va_putF (D := gD g) (ci := 3) (v := .ref q5) (ty := .array .int) (C := R_Reader) (T := T_Reader) (N := 9) hx hb htb in_Reader ty_Reader ty_Reader_ok nm_Reader hown hG.1 hP hD hS 0 rfl rfl 8 (by decide) (htb _ L_Reader_39) (fun _ h9 => h9) rfl hin rfl (by decide +kernel) rfl rfl (Nat.le_of_ble_eq_true rfl) d_Reader_init_56 (fun H locs hP hD hS => ?_)
  have hP : va_P (gD g) vwCl ([(h0, .inr (3, [.null, .ref (a2 0), .int (0 : Int32), .int (-1 : Int32), .int (1 : Int32), .int (0 : Int32), .ref q3, .ref q4, .ref q5]))] ++ (pic_Span g a2 (fun _ _ => 0)) ++ [(q3, .inl (g.2.2.1 0, (21, .inl (fun _ => 0)))), (q4, .inl (g.2.2.1 0, (21, .inl (fun _ => 0)))), (q5, .inl (g.2.2.1 0, (21, .inl (fun _ => 0))))]) H := hP
  have hD : va_D A ([(h0, .inr (3, [.null, .ref (a2 0), .int (0 : Int32), .int (-1 : Int32), .int (1 : Int32), .int (0 : Int32), .ref q3, .ref q4, .ref q5]))] ++ (pic_Span g a2 (fun _ _ => 0)) ++ [(q3, .inl (g.2.2.1 0, (21, .inl (fun _ => 0)))), (q4, .inl (g.2.2.1 0, (21, .inl (fun _ => 0)))), (q5, .inl (g.2.2.1 0, (21, .inl (fun _ => 0))))]) := hD
  refine lv_aload_n hx hb d_Reader_init_59 rfl (lv_at hl 0 rfl) ?_
  refine lv_aload_n hx hb d_Reader_init_60 rfl (lv_at hl 1 rfl) ?_
  refine va_put (D := gD g) (ci := 3) (v := .ref p1) (ty := .object "MailQueries$Query") (C := R_Reader) (T := T_Reader) (N := 9) hx hb htb in_Reader ty_Reader ty_Reader_ok nm_Reader hown hG.1 hP hD hS 0 rfl rfl 0 (by decide) (htb _ L_Reader_42) (fun _ h9 => h9) rfl (by decide +kernel) rfl rfl (Nat.le_of_ble_eq_true rfl) d_Reader_init_61 (fun H locs hP hD hS => ?_)
  have hP : va_P (gD g) vwCl ([(h0, .inr (3, [.ref p1, .ref (a2 0), .int (0 : Int32), .int (-1 : Int32), .int (1 : Int32), .int (0 : Int32), .ref q3, .ref q4, .ref q5]))] ++ (pic_Span g a2 (fun _ _ => 0)) ++ [(q3, .inl (g.2.2.1 0, (21, .inl (fun _ => 0)))), (q4, .inl (g.2.2.1 0, (21, .inl (fun _ => 0)))), (q5, .inl (g.2.2.1 0, (21, .inl (fun _ => 0))))]) H := hP
  have hD : va_D A ([(h0, .inr (3, [.ref p1, .ref (a2 0), .int (0 : Int32), .int (-1 : Int32), .int (1 : Int32), .int (0 : Int32), .ref q3, .ref q4, .ref q5]))] ++ (pic_Span g a2 (fun _ _ => 0)) ++ [(q3, .inl (g.2.2.1 0, (21, .inl (fun _ => 0)))), (q4, .inl (g.2.2.1 0, (21, .inl (fun _ => 0)))), (q5, .inl (g.2.2.1 0, (21, .inl (fun _ => 0))))]) := hD
  refine W.widen (k := 4) (n := 65) (Nat.le_of_ble_eq_true rfl) (Nat.le_of_ble_eq_true rfl) ?_
  exact W.vret hx hb hr (fun t ht hW => ⟨⟨_, rfl, ⟨(fun n => if n = 0 then h0 else if n = 7 then q3 else if n = 8 then q4 else if n = 9 then q5 else 0), a2, rfl, rfl⟩, by rw [ht]; exact hP.sub [0, 2, 3, 4, 1] rfl, hD.sub [0, 2, 3, 4, 1] rfl rfl⟩, hS.F ht⟩) hS.2.2 d_Reader_init_64
