theorem L_Reader_3 : (Jvm.Cond.methodLink "MailQueries$Reader" (3 : Nat) ({ cls := "java/lang/Object", name := "<init>", desc := "()V" } : Jvm.MethodName)) ∈ TBL := TBL_in (List.mem_of_getElem? (i := 207) (by decide +kernel)) (by decide +kernel)
theorem IN_Query : (Jvm.Cond.instantiable "MailQueries$Query" (14 : Nat)) ∈ TBL := TBL_in (List.mem_of_getElem? (i := 130) (by decide +kernel)) (by decide +kernel)
theorem L_Reader_9 : (Jvm.Cond.classLink "MailQueries$Reader" (9 : Nat) "MailQueries$Query") ∈ TBL := TBL_in (List.mem_of_getElem? (i := 208) (by decide +kernel)) (by decide +kernel)
theorem IN_Span : (Jvm.Cond.instantiable "MailQueries$Span" (2 : Nat)) ∈ TBL := TBL_in (List.mem_of_getElem? (i := 211) (by decide +kernel)) (by decide +kernel)
theorem L_Reader_18 : (Jvm.Cond.classLink "MailQueries$Reader" (18 : Nat) "MailQueries$Span") ∈ TBL := TBL_in (List.mem_of_getElem? (i := 210) (by decide +kernel)) (by decide +kernel)
set_option maxRecDepth 100000 in
theorem W_Reader_init_code : (Jvm.Cond.code ({ cls := "MailQueries$Reader", name := "<init>", desc := "()V" } : Jvm.MethodName) prog_6_method_1_code (1 : Nat) (Option.none : Option Jvm.ClassFile.FieldType)) ∈ TBL := TBL_in (List.mem_of_getElem? (i := 206) rfl) rfl
theorem W_Reader_init_in : (Jvm.Cond.instanceMethod ({ cls := "MailQueries$Reader", name := "<init>", desc := "()V" } : Jvm.MethodName)) ∈ TBL := TBL_in (List.mem_of_getElem? (i := 205) (by decide +kernel)) (by decide +kernel)
theorem d_Reader_init_0 : decode prog_6_method_1_code 0 = .ok (.aload_n 0, 1) := by decide +kernel
theorem d_Reader_init_1 : decode prog_6_method_1_code 1 = .ok (.invokespecial 3, 3) := by decide +kernel
theorem d_Reader_init_4 : decode prog_6_method_1_code 4 = .ok (.aload_n 0, 1) := by decide +kernel
theorem d_Reader_init_5 : decode prog_6_method_1_code 5 = .ok (.new 9, 3) := by decide +kernel
theorem d_Reader_init_8 : decode prog_6_method_1_code 8 = .ok (.dup, 1) := by decide +kernel
theorem d_Reader_init_9 : decode prog_6_method_1_code 9 = .ok (.invokespecial 11, 3) := by decide +kernel
theorem d_Reader_init_12 : decode prog_6_method_1_code 12 = .ok (.putfield 12, 3) := by decide +kernel
theorem d_Reader_init_15 : decode prog_6_method_1_code 15 = .ok (.aload_n 0, 1) := by decide +kernel
theorem d_Reader_init_16 : decode prog_6_method_1_code 16 = .ok (.new 18, 3) := by decide +kernel
theorem d_Reader_init_19 : decode prog_6_method_1_code 19 = .ok (.dup, 1) := by decide +kernel
theorem d_Reader_init_20 : decode prog_6_method_1_code 20 = .ok (.invokespecial 20, 3) := by decide +kernel
theorem d_Reader_init_23 : decode prog_6_method_1_code 23 = .ok (.putfield 21, 3) := by decide +kernel
theorem d_Reader_init_26 : decode prog_6_method_1_code 26 = .ok (.aload_n 0, 1) := by decide +kernel
theorem d_Reader_init_27 : decode prog_6_method_1_code 27 = .ok (.iconst 0, 1) := by decide +kernel
theorem d_Reader_init_28 : decode prog_6_method_1_code 28 = .ok (.putfield 25, 3) := by decide +kernel
theorem d_Reader_init_31 : decode prog_6_method_1_code 31 = .ok (.aload_n 0, 1) := by decide +kernel
theorem d_Reader_init_32 : decode prog_6_method_1_code 32 = .ok (.iconst (-1), 1) := by decide +kernel
theorem d_Reader_init_33 : decode prog_6_method_1_code 33 = .ok (.putfield 29, 3) := by decide +kernel
theorem d_Reader_init_36 : decode prog_6_method_1_code 36 = .ok (.aload_n 0, 1) := by decide +kernel
theorem d_Reader_init_37 : decode prog_6_method_1_code 37 = .ok (.iconst 1, 1) := by decide +kernel
theorem d_Reader_init_38 : decode prog_6_method_1_code 38 = .ok (.putfield 32, 3) := by decide +kernel
theorem d_Reader_init_41 : decode prog_6_method_1_code 41 = .ok (.aload_n 0, 1) := by decide +kernel
theorem d_Reader_init_42 : decode prog_6_method_1_code 42 = .ok (.iconst 0, 1) := by decide +kernel
theorem d_Reader_init_43 : decode prog_6_method_1_code 43 = .ok (.putfield 36, 3) := by decide +kernel
theorem d_Reader_init_46 : decode prog_6_method_1_code 46 = .ok (.aload_n 0, 1) := by decide +kernel
theorem d_Reader_init_47 : decode prog_6_method_1_code 47 = .ok (.bipush 21, 2) := by decide +kernel
theorem d_Reader_init_49 : decode prog_6_method_1_code 49 = .ok (.newarray .int, 2) := by decide +kernel
theorem d_Reader_init_51 : decode prog_6_method_1_code 51 = .ok (.putfield 39, 3) := by decide +kernel
theorem d_Reader_init_54 : decode prog_6_method_1_code 54 = .ok (.aload_n 0, 1) := by decide +kernel
theorem d_Reader_init_55 : decode prog_6_method_1_code 55 = .ok (.bipush 21, 2) := by decide +kernel
theorem d_Reader_init_57 : decode prog_6_method_1_code 57 = .ok (.newarray .int, 2) := by decide +kernel
theorem d_Reader_init_59 : decode prog_6_method_1_code 59 = .ok (.putfield 43, 3) := by decide +kernel
theorem d_Reader_init_62 : decode prog_6_method_1_code 62 = .ok (.aload_n 0, 1) := by decide +kernel
theorem d_Reader_init_63 : decode prog_6_method_1_code 63 = .ok (.bipush 21, 2) := by decide +kernel
theorem d_Reader_init_65 : decode prog_6_method_1_code 65 = .ok (.newarray .int, 2) := by decide +kernel
theorem d_Reader_init_67 : decode prog_6_method_1_code 67 = .ok (.putfield 46, 3) := by decide +kernel
theorem d_Reader_init_70 : decode prog_6_method_1_code 70 = .ok (.return_, 1) := by decide +kernel
def rm_Reader_init : Room := { frames := 2, cells := 15, slots := 1228, locals := 32 }
def y_Reader_init : MethodName := ⟨"MailQueries$Reader", "<init>", "()V"⟩
theorem mb_Reader_init : MbI y_Reader_init prog_6_method_1_code 1 0 := ⟨W_Reader_init_code, W_Reader_init_in, I_Reader, rfl, by decide +kernel, by decide +kernel, by decide +kernel⟩
def Sh_Reader (g : Gz) (h0 : Nat) (wd : va_W) : Prop := ∃ (a_t a2 a4 : Nat → Nat), a_t 0 = h0 ∧ wd = (pic_Reader g a_t (a2 0) (a4 0) (fun k _ => if k = 3 then -1 else if k = 4 then 1 else 0)) ++ (pic_Query g a2 (fun _ _ => 0)) ++ (pic_Span g a4 (fun _ _ => 0))
set_option maxHeartbeats 4000000 in
set_option maxRecDepth 100000 in
theorem c_Reader_init (l : Launch) (g : Gz) (h0 : Nat) : ∀ sz : Nat, Met l y_Reader_init (.code y_Reader_init prog_6_method_1_code 1 none :: TBL) rm_Reader_init (va_Pc [.ref h0] (Pre0 g [(h0, .inr (3, [.null, .null, .int 0, .int 0, .int 0, .int 0, .null, .null, .null]))] sz)) (EN g (Sh_Reader g h0) (va_A [(h0, .inr (3, [.null, .null, .int 0, .int 0, .int 0, .int 0, .null, .null, .null]))] sz)) 15 1228 (va_A [(h0, .inr (3, [.null, .null, .int 0, .int 0, .int 0, .int 0, .null, .null, .null]))] sz) := by
  refine ct_n (Pw := Sh_Reader g h0) (by decide) rfl (Nat.le_of_ble_eq_true rfl) ?_
  intro p e s m args below meth c A ls hC hin hl hP hD
  obtain ⟨hx, hb, hr, hml, hown, htb, hlocks, hA, hAA, hG⟩ := id hC
  have hown : s.vm.findClass R_Reader = some m.cls := hown
  have hS : va_S A s.heap s.heap [] := va_S.rf
  have hl : lv_has ls 1 [(0, .ref h0)] := hl
  refine lv_aload_n hx hb d_Reader_init_0 rfl (lv_at hl 0 rfl) ?_
  refine W.objInit hx hb hown (htb _ L_Reader_3) (htb _ OI_in) (htb _ OI_code) rfl (by rw [hml]; exact hl.1) rfl d_Reader_init_1 (Nat.le_of_ble_eq_true rfl) (Nat.le_of_ble_eq_true rfl) ?_
  refine W.eq (g2 := F0 m 4 ls []) rfl ?_
  refine lv_aload_n hx hb d_Reader_init_4 rfl (lv_at hl 0 rfl) ?_
  refine va_new (ci := 1) (fs := [.null, .int 0, .int 0, .int 0, .null, .null, .null, .null, .null, .null, .null, .null, .null, .int 0]) (C := R_Query) (T := T_Query) (N := 14) hx hb htb in_Query ty_Query ty_Query_ok hown (htb _ L_Reader_9) (htb _ IN_Query) (htb _ I_Query) hG.1 hP hD hS hA rfl (fun j hj => by rcases (show j = 0 ∨ j = 1 ∨ j = 2 ∨ j = 3 ∨ j = 4 ∨ j = 5 ∨ j = 6 ∨ j = 7 ∨ j = 8 ∨ j = 9 ∨ j = 10 ∨ j = 11 ∨ j = 12 ∨ j = 13 by omega) with rfl | rfl | rfl | rfl | rfl | rfl | rfl | rfl | rfl | rfl | rfl | rfl | rfl | rfl <;> rfl) (Nat.le_of_ble_eq_true rfl) (Nat.le_of_ble_eq_true rfl) d_Reader_init_5 (fun q1 H hP hD hS => ?_)
  have hP : va_P (gD g) vwCl ([(h0, .inr (3, [.null, .null, .int 0, .int 0, .int 0, .int 0, .null, .null, .null])), (q1, .inr (1, [.null, .int 0, .int 0, .int 0, .null, .null, .null, .null, .null, .null, .null, .null, .null, .int 0]))]) H := hP
  have hD : va_D A ([(h0, .inr (3, [.null, .null, .int 0, .int 0, .int 0, .int 0, .null, .null, .null])), (q1, .inr (1, [.null, .int 0, .int 0, .int 0, .null, .null, .null, .null, .null, .null, .null, .null, .null, .int 0]))]) := hD
  refine lv_dup hx hb d_Reader_init_8 rfl ?_
  refine cl_N (wr := [(h0, .inr (3, [.null, .null, .int 0, .int 0, .int 0, .int 0, .null, .null, .null]))]) [1] [0] rfl rfl rfl (by decide) hP hD hS hA (va_runIN (As := []) (rest := [.ref q1, .ref h0]) ⟨hx, hb, hml, hown, htb⟩ (c_Query_init l g q1 H.size) (cn_I htb mb_Query_init (nm_of hG N_Reader_11) rfl rfl ⟨Nat.le_of_ble_eq_true rfl, Nat.le_of_ble_eq_true rfl⟩) (pre_S [1] rfl rfl hP hD hS hA hAA hG) rfl rfl hl.1 rfl (lv_room (Nat.le_of_ble_eq_true rfl)) d_Reader_init_9 ⟨Nat.le_of_ble_eq_true rfl, Nat.le_of_ble_eq_true rfl⟩) (fun w1 H locs hw hP2 hD2 hS2 => ?_)
  obtain ⟨a2, ha0, rfl⟩ := hw
  subst ha0
  have hP := hP2
  have hD := hD2
  have hS := hS2
  have hP : va_P (gD g) vwCl ([(h0, .inr (3, [.null, .null, .int 0, .int 0, .int 0, .int 0, .null, .null, .null]))] ++ (pic_Query g a2 (fun _ _ => 0))) H := hP
  have hD : va_D A ([(h0, .inr (3, [.null, .null, .int 0, .int 0, .int 0, .int 0, .null, .null, .null]))] ++ (pic_Query g a2 (fun _ _ => 0))) := hD
  refine va_put (D := gD g) (ci := 3) (v := .ref (a2 0)) (ty := .object "MailQueries$Query") (C := R_Reader) (T := T_Reader) (N := 9) hx hb htb in_Reader ty_Reader ty_Reader_ok nm_Reader hown hG.1 hP hD hS 0 rfl rfl 0 (by decide) (htb _ L_Reader_12) (fun _ h9 => h9) rfl (by decide +kernel) rfl rfl (Nat.le_of_ble_eq_true rfl) d_Reader_init_12 (fun H locs hP hD hS => ?_)
  have hP : va_P (gD g) vwCl ([(h0, .inr (3, [.ref (a2 0), .null, .int 0, .int 0, .int 0, .int 0, .null, .null, .null]))] ++ (pic_Query g a2 (fun _ _ => 0))) H := hP
  have hD : va_D A ([(h0, .inr (3, [.ref (a2 0), .null, .int 0, .int 0, .int 0, .int 0, .null, .null, .null]))] ++ (pic_Query g a2 (fun _ _ => 0))) := hD
  refine lv_aload_n hx hb d_Reader_init_15 rfl (lv_at hl 0 rfl) ?_
  refine va_new (ci := 2) (fs := [.int 0, .int 0]) (C := R_Span) (T := T_Span) (N := 2) hx hb htb in_Span ty_Span ty_Span_ok hown (htb _ L_Reader_18) (htb _ IN_Span) (htb _ I_Span) hG.1 hP hD hS hA rfl (fun j hj => by rcases (show j = 0 ∨ j = 1 by omega) with rfl | rfl <;> rfl) (Nat.le_of_ble_eq_true rfl) (Nat.le_of_ble_eq_true rfl) d_Reader_init_16 (fun q3 H hP hD hS => ?_)
  have hP : va_P (gD g) vwCl ([(h0, .inr (3, [.ref (a2 0), .null, .int 0, .int 0, .int 0, .int 0, .null, .null, .null]))] ++ (pic_Query g a2 (fun _ _ => 0)) ++ [(q3, .inr (2, [.int 0, .int 0]))]) H := hP
  have hD : va_D A ([(h0, .inr (3, [.ref (a2 0), .null, .int 0, .int 0, .int 0, .int 0, .null, .null, .null]))] ++ (pic_Query g a2 (fun _ _ => 0)) ++ [(q3, .inr (2, [.int 0, .int 0]))]) := hD
  refine lv_dup hx hb d_Reader_init_19 rfl ?_
  refine cl_N (wr := [(h0, .inr (3, [.ref (a2 0), .null, .int 0, .int 0, .int 0, .int 0, .null, .null, .null]))] ++ (pic_Query g a2 (fun _ _ => 0))) [12] [0, 1, 2, 3, 4, 5, 6, 7, 8, 9, 10, 11] rfl rfl rfl (by decide) hP hD hS hA (va_runIN (As := []) (rest := [.ref q3, .ref h0]) ⟨hx, hb, hml, hown, htb⟩ (c_Span_init l g q3 H.size) (cn_I htb mb_Span_init (nm_of hG N_Reader_20) rfl rfl ⟨Nat.le_of_ble_eq_true rfl, Nat.le_of_ble_eq_true rfl⟩) (pre_S [12] rfl rfl hP hD hS hA hAA hG) rfl rfl hl.1 rfl (lv_room (Nat.le_of_ble_eq_true rfl)) d_Reader_init_20 ⟨Nat.le_of_ble_eq_true rfl, Nat.le_of_ble_eq_true rfl⟩) (fun w1 H locs hw hP2 hD2 hS2 => ?_)
  obtain ⟨a4, ha0, rfl⟩ := hw
  subst ha0
  have hP := hP2
  have hD := hD2
  have hS := hS2
  have hP : va_P (gD g) vwCl ([(h0, .inr (3, [.ref (a2 0), .null, .int 0, .int 0, .int 0, .int 0, .null, .null, .null]))] ++ (pic_Query g a2 (fun _ _ => 0)) ++ (pic_Span g a4 (fun _ _ => 0))) H := hP
  have hD : va_D A ([(h0, .inr (3, [.ref (a2 0), .null, .int 0, .int 0, .int 0, .int 0, .null, .null, .null]))] ++ (pic_Query g a2 (fun _ _ => 0)) ++ (pic_Span g a4 (fun _ _ => 0))) := hD
  refine va_putF (D := gD g) (ci := 3) (v := .ref (a4 0)) (ty := .object "MailQueries$Span") (C := R_Reader) (T := T_Reader) (N := 9) hx hb htb in_Reader ty_Reader ty_Reader_ok nm_Reader hown hG.1 hP hD hS 0 rfl rfl 1 (by decide) (htb _ L_Reader_21) (fun _ h9 => h9) rfl hin rfl (by decide +kernel) rfl rfl (Nat.le_of_ble_eq_true rfl) d_Reader_init_23 (fun H locs hP hD hS => ?_)
  have hP : va_P (gD g) vwCl ([(h0, .inr (3, [.ref (a2 0), .ref (a4 0), .int 0, .int 0, .int 0, .int 0, .null, .null, .null]))] ++ (pic_Query g a2 (fun _ _ => 0)) ++ (pic_Span g a4 (fun _ _ => 0))) H := hP
  have hD : va_D A ([(h0, .inr (3, [.ref (a2 0), .ref (a4 0), .int 0, .int 0, .int 0, .int 0, .null, .null, .null]))] ++ (pic_Query g a2 (fun _ _ => 0)) ++ (pic_Span g a4 (fun _ _ => 0))) := hD
  refine lv_aload_n hx hb d_Reader_init_26 rfl (lv_at hl 0 rfl) ?_
  refine lv_iconst (v := 0) hx hb d_Reader_init_27 (by decide) ?_
  refine va_put (D := gD g) (ci := 3) (v := .int (0 : Int32)) (ty := .int) (C := R_Reader) (T := T_Reader) (N := 9) hx hb htb in_Reader ty_Reader ty_Reader_ok nm_Reader hown hG.1 hP hD hS 0 rfl rfl 2 (by decide) (htb _ L_Reader_25) (fun _ h9 => h9) rfl (by decide +kernel) rfl rfl (Nat.le_of_ble_eq_true rfl) d_Reader_init_28 (fun H locs hP hD hS => ?_)
  have hP : va_P (gD g) vwCl ([(h0, .inr (3, [.ref (a2 0), .ref (a4 0), .int (0 : Int32), .int 0, .int 0, .int 0, .null, .null, .null]))] ++ (pic_Query g a2 (fun _ _ => 0)) ++ (pic_Span g a4 (fun _ _ => 0))) H := hP
  have hD : va_D A ([(h0, .inr (3, [.ref (a2 0), .ref (a4 0), .int (0 : Int32), .int 0, .int 0, .int 0, .null, .null, .null]))] ++ (pic_Query g a2 (fun _ _ => 0)) ++ (pic_Span g a4 (fun _ _ => 0))) := hD
  refine lv_aload_n hx hb d_Reader_init_31 rfl (lv_at hl 0 rfl) ?_
  refine lv_iconst (v := -1) hx hb d_Reader_init_32 (by decide) ?_
  refine va_put (D := gD g) (ci := 3) (v := .int (-1 : Int32)) (ty := .int) (C := R_Reader) (T := T_Reader) (N := 9) hx hb htb in_Reader ty_Reader ty_Reader_ok nm_Reader hown hG.1 hP hD hS 0 rfl rfl 3 (by decide) (htb _ L_Reader_29) (fun _ h9 => h9) rfl (by decide +kernel) rfl rfl (Nat.le_of_ble_eq_true rfl) d_Reader_init_33 (fun H locs hP hD hS => ?_)
  have hP : va_P (gD g) vwCl ([(h0, .inr (3, [.ref (a2 0), .ref (a4 0), .int (0 : Int32), .int (-1 : Int32), .int 0, .int 0, .null, .null, .null]))] ++ (pic_Query g a2 (fun _ _ => 0)) ++ (pic_Span g a4 (fun _ _ => 0))) H := hP
  have hD : va_D A ([(h0, .inr (3, [.ref (a2 0), .ref (a4 0), .int (0 : Int32), .int (-1 : Int32), .int 0, .int 0, .null, .null, .null]))] ++ (pic_Query g a2 (fun _ _ => 0)) ++ (pic_Span g a4 (fun _ _ => 0))) := hD
  refine lv_aload_n hx hb d_Reader_init_36 rfl (lv_at hl 0 rfl) ?_
  refine lv_iconst (v := 1) hx hb d_Reader_init_37 (by decide) ?_
  refine va_put (D := gD g) (ci := 3) (v := .int (1 : Int32)) (ty := .boolean) (C := R_Reader) (T := T_Reader) (N := 9) hx hb htb in_Reader ty_Reader ty_Reader_ok nm_Reader hown hG.1 hP hD hS 0 rfl rfl 4 (by decide) (htb _ L_Reader_32) (fun _ h9 => h9) rfl (by decide +kernel) rfl rfl (Nat.le_of_ble_eq_true rfl) d_Reader_init_38 (fun H locs hP hD hS => ?_)
  have hP : va_P (gD g) vwCl ([(h0, .inr (3, [.ref (a2 0), .ref (a4 0), .int (0 : Int32), .int (-1 : Int32), .int (1 : Int32), .int 0, .null, .null, .null]))] ++ (pic_Query g a2 (fun _ _ => 0)) ++ (pic_Span g a4 (fun _ _ => 0))) H := hP
  have hD : va_D A ([(h0, .inr (3, [.ref (a2 0), .ref (a4 0), .int (0 : Int32), .int (-1 : Int32), .int (1 : Int32), .int 0, .null, .null, .null]))] ++ (pic_Query g a2 (fun _ _ => 0)) ++ (pic_Span g a4 (fun _ _ => 0))) := hD
  refine lv_aload_n hx hb d_Reader_init_41 rfl (lv_at hl 0 rfl) ?_
  refine lv_iconst (v := 0) hx hb d_Reader_init_42 (by decide) ?_
  refine va_put (D := gD g) (ci := 3) (v := .int (0 : Int32)) (ty := .int) (C := R_Reader) (T := T_Reader) (N := 9) hx hb htb in_Reader ty_Reader ty_Reader_ok nm_Reader hown hG.1 hP hD hS 0 rfl rfl 5 (by decide) (htb _ L_Reader_36) (fun _ h9 => h9) rfl (by decide +kernel) rfl rfl (Nat.le_of_ble_eq_true rfl) d_Reader_init_43 (fun H locs hP hD hS => ?_)
  have hP : va_P (gD g) vwCl ([(h0, .inr (3, [.ref (a2 0), .ref (a4 0), .int (0 : Int32), .int (-1 : Int32), .int (1 : Int32), .int (0 : Int32), .null, .null, .null]))] ++ (pic_Query g a2 (fun _ _ => 0)) ++ (pic_Span g a4 (fun _ _ => 0))) H := hP
  have hD : va_D A ([(h0, .inr (3, [.ref (a2 0), .ref (a4 0), .int (0 : Int32), .int (-1 : Int32), .int (1 : Int32), .int (0 : Int32), .null, .null, .null]))] ++ (pic_Query g a2 (fun _ _ => 0)) ++ (pic_Span g a4 (fun _ _ => 0))) := hD
  refine lv_aload_n hx hb d_Reader_init_46 rfl (lv_at hl 0 rfl) ?_
  refine lv_bipush (v := 21) hx hb d_Reader_init_47 (by decide) ?_
  refine new_a (atype := .int) (ty := .int) (t0 := 0) (N' := 21) (a0 := (21, .inl (fun _ => 0))) (nm := "[I") hx hb (htb _ AC_int) rfl (fun _ h9 => h9) hG rfl hP hD hS hA (ha_int 21) (by decide) rfl (Nat.le_of_ble_eq_true rfl) (Nat.le_of_ble_eq_true rfl) (Nat.le_of_ble_eq_true rfl) d_Reader_init_49 (fun q5 H hP hD hS => ?_)
  have hP : va_P (gD g) vwCl ([(h0, .inr (3, [.ref (a2 0), .ref (a4 0), .int (0 : Int32), .int (-1 : Int32), .int (1 : Int32), .int (0 : Int32), .null, .null, .null]))] ++ (pic_Query g a2 (fun _ _ => 0)) ++ (pic_Span g a4 (fun _ _ => 0)) ++ [(q5, .inl (g.2.2.1 0, (21, .inl (fun _ => 0))))]) H := hP
  have hD : va_D A ([(h0, .inr (3, [.ref (a2 0), .ref (a4 0), .int (0 : Int32), .int (-1 : Int32), .int (1 : Int32), .int (0 : Int32), .null, .null, .null]))] ++ (pic_Query g a2 (fun _ _ => 0)) ++ (pic_Span g a4 (fun _ _ => 0)) ++ [(q5, .inl (g.2.2.1 0, (21, .inl (fun _ => 0))))]) := hD
  refine va_putF (D := gD g) (ci := 3) (v := .ref q5) (ty := .array .int) (C := R_Reader) (T := T_Reader) (N := 9) hx hb htb in_Reader ty_Reader ty_Reader_ok nm_Reader hown hG.1 hP hD hS 0 rfl rfl 6 (by decide) (htb _ L_Reader_39) (fun _ h9 => h9) rfl hin rfl (by decide +kernel) rfl rfl (Nat.le_of_ble_eq_true rfl) d_Reader_init_51 (fun H locs hP hD hS => ?_)
  have hP : va_P (gD g) vwCl ([(h0, .inr (3, [.ref (a2 0), .ref (a4 0), .int (0 : Int32), .int (-1 : Int32), .int (1 : Int32), .int (0 : Int32), .ref q5, .null, .null]))] ++ (pic_Query g a2 (fun _ _ => 0)) ++ (pic_Span g a4 (fun _ _ => 0)) ++ [(q5, .inl (g.2.2.1 0, (21, .inl (fun _ => 0))))]) H := hP
  have hD : va_D A ([(h0, .inr (3, [.ref (a2 0), .ref (a4 0), .int (0 : Int32), .int (-1 : Int32), .int (1 : Int32), .int (0 : Int32), .ref q5, .null, .null]))] ++ (pic_Query g a2 (fun _ _ => 0)) ++ (pic_Span g a4 (fun _ _ => 0)) ++ [(q5, .inl (g.2.2.1 0, (21, .inl (fun _ => 0))))]) := hD
  refine lv_aload_n hx hb d_Reader_init_54 rfl (lv_at hl 0 rfl) ?_
  refine lv_bipush (v := 21) hx hb d_Reader_init_55 (by decide) ?_
  refine new_a (atype := .int) (ty := .int) (t0 := 0) (N' := 21) (a0 := (21, .inl (fun _ => 0))) (nm := "[I") hx hb (htb _ AC_int) rfl (fun _ h9 => h9) hG rfl hP hD hS hA (ha_int 21) (by decide) rfl (Nat.le_of_ble_eq_true rfl) (Nat.le_of_ble_eq_true rfl) (Nat.le_of_ble_eq_true rfl) d_Reader_init_57 (fun q6 H hP hD hS => ?_)
  have hP : va_P (gD g) vwCl ([(h0, .inr (3, [.ref (a2 0), .ref (a4 0), .int (0 : Int32), .int (-1 : Int32), .int (1 : Int32), .int (0 : Int32), .ref q5, .null, .null]))] ++ (pic_Query g a2 (fun _ _ => 0)) ++ (pic_Span g a4 (fun _ _ => 0)) ++ [(q5, .inl (g.2.2.1 0, (21, .inl (fun _ => 0)))), (q6, .inl (g.2.2.1 0, (21, .inl (fun _ => 0))))]) H := hP
  have hD : va_D A ([(h0, .inr (3, [.ref (a2 0), .ref (a4 0), .int (0 : Int32), .int (-1 : Int32), .int (1 : Int32), .int (0 : Int32), .ref q5, .null, .null]))] ++ (pic_Query g a2 (fun _ _ => 0)) ++ (pic_Span g a4 (fun _ _ => 0)) ++ [(q5, .inl (g.2.2.1 0, (21, .inl (fun _ => 0)))), (q6, .inl (g.2.2.1 0, (21, .inl (fun _ => 0))))]) := hD
  refine va_putF (D := gD g) (ci := 3) (v := .ref q6) (ty := .array .int) (C := R_Reader) (T := T_Reader) (N := 9) hx hb htb in_Reader ty_Reader ty_Reader_ok nm_Reader hown hG.1 hP hD hS 0 rfl rfl 7 (by decide) (htb _ L_Reader_43) (fun _ h9 => h9) rfl hin rfl (by decide +kernel) rfl rfl (Nat.le_of_ble_eq_true rfl) d_Reader_init_59 (fun H locs hP hD hS => ?_)
  have hP : va_P (gD g) vwCl ([(h0, .inr (3, [.ref (a2 0), .ref (a4 0), .int (0 : Int32), .int (-1 : Int32), .int (1 : Int32), .int (0 : Int32), .ref q5, .ref q6, .null]))] ++ (pic_Query g a2 (fun _ _ => 0)) ++ (pic_Span g a4 (fun _ _ => 0)) ++ [(q5, .inl (g.2.2.1 0, (21, .inl (fun _ => 0)))), (q6, .inl (g.2.2.1 0, (21, .inl (fun _ => 0))))]) H := hP
  have hD : va_D A ([(h0, .inr (3, [.ref (a2 0), .ref (a4 0), .int (0 : Int32), .int (-1 : Int32), .int (1 : Int32), .int (0 : Int32), .ref q5, .ref q6, .null]))] ++ (pic_Query g a2 (fun _ _ => 0)) ++ (pic_Span g a4 (fun _ _ => 0)) ++ [(q5, .inl (g.2.2.1 0, (21, .inl (fun _ => 0)))), (q6, .inl (g.2.2.1 0, (21, .inl (fun _ => 0))))]) := hD
  refine lv_aload_n hx hb d_Reader_init_62 rfl (lv_at hl 0 rfl) ?_
  refine lv_bipush (v := 21) hx hb d_Reader_init_63 (by decide) ?_
  refine new_a (atype := .int) (ty := .int) (t0 := 0) (N' := 21) (a0 := (21, .inl (fun _ => 0))) (nm := "[I") hx hb (htb _ AC_int) rfl (fun _ h9 => h9) hG rfl hP hD hS hA (ha_int 21) (by decide) rfl (Nat.le_of_ble_eq_true rfl) (Nat.le_of_ble_eq_true rfl) (Nat.le_of_ble_eq_true rfl) d_Reader_init_65 (fun q7 H hP hD hS => ?_)
  have hP : va_P (gD g) vwCl ([(h0, .inr (3, [.ref (a2 0), .ref (a4 0), .int (0 : Int32), .int (-1 : Int32), .int (1 : Int32), .int (0 : Int32), .ref q5, .ref q6, .null]))] ++ (pic_Query g a2 (fun _ _ => 0)) ++ (pic_Span g a4 (fun _ _ => 0)) ++ [(q5, .inl (g.2.2.1 0, (21, .inl (fun _ => 0)))), (q6, .inl (g.2.2.1 0, (21, .inl (fun _ => 0)))), (q7, .inl (g.2.2.1 0, (21, .inl (fun _ => 0))))]) H := hP
  have hD : va_D A ([(h0, .inr (3, [.ref (a2 0), .ref (a4 0), .int (0 : Int32), .int (-1 : Int32), .int (1 : Int32), .int (0 : Int32), .ref q5, .ref q6, .null]))] ++ (pic_Query g a2 (fun _ _ => 0)) ++ (pic_Span g a4 (fun _ _ => 0)) ++ [(q5, .inl (g.2.2.1 0, (21, .inl (fun _ => 0)))), (q6, .inl (g.2.2.1 0, (21, .inl (fun _ => 0)))), (q7, .inl (g.2.2.1 0, (21, .inl (fun _ => 0))))]) := hD
  refine va_putF (D := gD g) (ci := 3) (v := .ref q7) (ty := .array .int) (C := R_Reader) (T := T_Reader) (N := 9) hx hb htb in_Reader ty_Reader ty_Reader_ok nm_Reader hown hG.1 hP hD hS 0 rfl rfl 8 (by decide) (htb _ L_Reader_46) (fun _ h9 => h9) rfl hin rfl (by decide +kernel) rfl rfl (Nat.le_of_ble_eq_true rfl) d_Reader_init_67 (fun H locs hP hD hS => ?_)
  have hP : va_P (gD g) vwCl ([(h0, .inr (3, [.ref (a2 0), .ref (a4 0), .int (0 : Int32), .int (-1 : Int32), .int (1 : Int32), .int (0 : Int32), .ref q5, .ref q6, .ref q7]))] ++ (pic_Query g a2 (fun _ _ => 0)) ++ (pic_Span g a4 (fun _ _ => 0)) ++ [(q5, .inl (g.2.2.1 0, (21, .inl (fun _ => 0)))), (q6, .inl (g.2.2.1 0, (21, .inl (fun _ => 0)))), (q7, .inl (g.2.2.1 0, (21, .inl (fun _ => 0))))]) H := hP
  have hD : va_D A ([(h0, .inr (3, [.ref (a2 0), .ref (a4 0), .int (0 : Int32), .int (-1 : Int32), .int (1 : Int32), .int (0 : Int32), .ref q5, .ref q6, .ref q7]))] ++ (pic_Query g a2 (fun _ _ => 0)) ++ (pic_Span g a4 (fun _ _ => 0)) ++ [(q5, .inl (g.2.2.1 0, (21, .inl (fun _ => 0)))), (q6, .inl (g.2.2.1 0, (21, .inl (fun _ => 0)))), (q7, .inl (g.2.2.1 0, (21, .inl (fun _ => 0))))]) := hD
  refine W.widen (k := 15) (n := 1228) (Nat.le_of_ble_eq_true rfl) (Nat.le_of_ble_eq_true rfl) ?_
  exact W.vret hx hb hr (fun t ht hW => ⟨⟨_, rfl, ⟨(fun n => if n = 0 then h0 else if n = 7 then q5 else if n = 8 then q6 else if n = 9 then q7 else 0), a2, a4, rfl, rfl⟩, by rw [ht]; exact hP.sub [0, 13, 14, 15, 1, 2, 3, 4, 5, 6, 7, 8, 9, 10, 11, 12] rfl, hD.sub [0, 13, 14, 15, 1, 2, 3, 4, 5, 6, 7, 8, 9, 10, 11, 12] rfl rfl⟩, hS.F ht⟩) hS.2.2 d_Reader_init_70
