theorem L_Printer_3 : (Jvm.Cond.methodLink "MailQueries$Printer" (3 : Nat) ({ cls := "java/lang/Object", name := "<init>", desc := "()V" } : Jvm.MethodName)) ∈ TBL := TBL_in (List.mem_of_getElem? (i := 260) (by decide +kernel)) (by decide +kernel)
theorem IN_Pile : (Jvm.Cond.instantiable "MailQueries$Pile" (2 : Nat)) ∈ TBL := TBL_in (List.mem_of_getElem? (i := 262) (by decide +kernel)) (by decide +kernel)
theorem L_Printer_23 : (Jvm.Cond.classLink "MailQueries$Printer" (23 : Nat) "MailQueries$Pile") ∈ TBL := TBL_in (List.mem_of_getElem? (i := 261) (by decide +kernel)) (by decide +kernel)
theorem L_Printer_25 : (Jvm.Cond.methodLink "MailQueries$Printer" (25 : Nat) ({ cls := "MailQueries$Pile", name := "<init>", desc := "(I)V" } : Jvm.MethodName)) ∈ TBL := TBL_in (List.mem_of_getElem? (i := 263) (by decide +kernel)) (by decide +kernel)
set_option maxRecDepth 100000 in
theorem W_Printer_init_code : (Jvm.Cond.code ({ cls := "MailQueries$Printer", name := "<init>", desc := "()V" } : Jvm.MethodName) prog_4_method_1_code (1 : Nat) (Option.none : Option Jvm.ClassFile.FieldType)) ∈ TBL := TBL_in (List.mem_of_getElem? (i := 259) rfl) rfl
theorem W_Printer_init_in : (Jvm.Cond.instanceMethod ({ cls := "MailQueries$Printer", name := "<init>", desc := "()V" } : Jvm.MethodName)) ∈ TBL := TBL_in (List.mem_of_getElem? (i := 258) (by decide +kernel)) (by decide +kernel)
theorem d_Printer_init_0 : decode prog_4_method_1_code 0 = .ok (.aload_n 0, 1) := by decide +kernel
theorem d_Printer_init_1 : decode prog_4_method_1_code 1 = .ok (.invokespecial 3, 3) := by decide +kernel
theorem d_Printer_init_4 : decode prog_4_method_1_code 4 = .ok (.aload_n 0, 1) := by decide +kernel
theorem d_Printer_init_5 : decode prog_4_method_1_code 5 = .ok (.sipush 1200, 3) := by decide +kernel
theorem d_Printer_init_8 : decode prog_4_method_1_code 8 = .ok (.newarray .char, 2) := by decide +kernel
theorem d_Printer_init_10 : decode prog_4_method_1_code 10 = .ok (.putfield 9, 3) := by decide +kernel
theorem d_Printer_init_13 : decode prog_4_method_1_code 13 = .ok (.aload_n 0, 1) := by decide +kernel
theorem d_Printer_init_14 : decode prog_4_method_1_code 14 = .ok (.iconst 0, 1) := by decide +kernel
theorem d_Printer_init_15 : decode prog_4_method_1_code 15 = .ok (.putfield 15, 3) := by decide +kernel
theorem d_Printer_init_18 : decode prog_4_method_1_code 18 = .ok (.aload_n 0, 1) := by decide +kernel
theorem d_Printer_init_19 : decode prog_4_method_1_code 19 = .ok (.iconst 0, 1) := by decide +kernel
theorem d_Printer_init_20 : decode prog_4_method_1_code 20 = .ok (.putfield 19, 3) := by decide +kernel
theorem d_Printer_init_23 : decode prog_4_method_1_code 23 = .ok (.aload_n 0, 1) := by decide +kernel
theorem d_Printer_init_24 : decode prog_4_method_1_code 24 = .ok (.new 23, 3) := by decide +kernel
theorem d_Printer_init_27 : decode prog_4_method_1_code 27 = .ok (.dup, 1) := by decide +kernel
theorem d_Printer_init_28 : decode prog_4_method_1_code 28 = .ok (.sipush 160, 3) := by decide +kernel
theorem d_Printer_init_31 : decode prog_4_method_1_code 31 = .ok (.invokespecial 25, 3) := by decide +kernel
theorem d_Printer_init_34 : decode prog_4_method_1_code 34 = .ok (.putfield 28, 3) := by decide +kernel
theorem d_Printer_init_37 : decode prog_4_method_1_code 37 = .ok (.return_, 1) := by decide +kernel
def rm_Printer_init : Room := { frames := 2, cells := 3, slots := 1362, locals := 33 }
def y_Printer_init : MethodName := ⟨"MailQueries$Printer", "<init>", "()V"⟩
theorem mb_Printer_init : MbI y_Printer_init prog_4_method_1_code 1 0 := ⟨W_Printer_init_code, W_Printer_init_in, I_Printer, rfl, by decide +kernel, by decide +kernel, by decide +kernel⟩
def Sh_Printer (g : Gz) (h0 : Nat) (wd : va_W) : Prop := ∃ (a_t a3 : Nat → Nat), a_t 0 = h0 ∧ wd = (pic_Printer g a_t (a3 0) (fun _ _ => 0)) ++ (pic_Pile g a3 160 (fun _ _ => 0) (fun _ _ => 0))
set_option maxHeartbeats 4000000 in
set_option maxRecDepth 100000 in
theorem c_Printer_init (l : Launch) (g : Gz) (h0 : Nat) : ∀ sz : Nat, Met l y_Printer_init (.code y_Printer_init prog_4_method_1_code 1 none :: TBL) rm_Printer_init (va_Pc [.ref h0] (Pre0 g [(h0, .inr (4, [.null, .int 0, .int 0, .null]))] sz)) (EN g (Sh_Printer g h0) (va_A [(h0, .inr (4, [.null, .int 0, .int 0, .null]))] sz)) 3 1362 (va_A [(h0, .inr (4, [.null, .int 0, .int 0, .null]))] sz) := by
  refine ct_n (Pw := Sh_Printer g h0) (by decide) rfl (Nat.le_of_ble_eq_true rfl) ?_
  intro p e s m args below meth c A ls hC hin hl hP hD
  obtain ⟨hx, hb, hr, hml, hown, htb, hlocks, hA, hAA, hG⟩ := id hC
  have hown : s.vm.findClass R_Printer = some m.cls := hown
  have hS : va_S A s.heap s.heap [] := va_S.rf
  have hl : lv_has ls 1 [(0, .ref h0)] := hl
  refine lv_aload_n hx hb d_Printer_init_0 rfl (lv_at hl 0 rfl) ?_
  refine W.objInit hx hb hown (htb _ L_Printer_3) (htb _ OI_in) (htb _ OI_code) rfl (by rw [hml]; exact hl.1) rfl d_Printer_init_1 (Nat.le_of_ble_eq_true rfl) (Nat.le_of_ble_eq_true rfl) ?_
  refine W.eq (g2 := F0 m 4 ls []) rfl ?_
  refine lv_aload_n hx hb d_Printer_init_4 rfl (lv_at hl 0 rfl) ?_
  refine lv_sipush (v := 1200) hx hb d_Printer_init_5 (by decide) ?_
  refine new_a (atype := .char) (ty := .char) (t0 := 1) (N' := 1200) (a0 := (1200, .inl (fun _ => 0))) (nm := "[C") hx hb (htb _ AC_char) rfl (fun _ h9 => h9) hG rfl hP hD hS hA (ha_char 1200) (by decide) rfl (Nat.le_of_ble_eq_true rfl) (Nat.le_of_ble_eq_true rfl) (Nat.le_of_ble_eq_true rfl) d_Printer_init_8 (fun q1 H hP hD hS => ?_)
  have hP : va_P (gD g) vwCl ([(h0, .inr (4, [.null, .int 0, .int 0, .null])), (q1, .inl (g.2.2.1 1, (1200, .inl (fun _ => 0))))]) H := hP
  have hD : va_D A ([(h0, .inr (4, [.null, .int 0, .int 0, .null])), (q1, .inl (g.2.2.1 1, (1200, .inl (fun _ => 0))))]) := hD
  refine va_putF (D := gD g) (ci := 4) (v := .ref q1) (ty := .array .char) (C := R_Printer) (T := T_Printer) (N := 4) hx hb htb in_Printer ty_Printer ty_Printer_ok nm_Printer hown hG.1 hP hD hS 0 rfl rfl 0 (by decide) (htb _ L_Printer_9) (fun _ h9 => h9) rfl hin rfl (by decide +kernel) rfl rfl (Nat.le_of_ble_eq_true rfl) d_Printer_init_10 (fun H locs hP hD hS => ?_)
  have hP : va_P (gD g) vwCl ([(h0, .inr (4, [.ref q1, .int 0, .int 0, .null])), (q1, .inl (g.2.2.1 1, (1200, .inl (fun _ => 0))))]) H := hP
  have hD : va_D A ([(h0, .inr (4, [.ref q1, .int 0, .int 0, .null])), (q1, .inl (g.2.2.1 1, (1200, .inl (fun _ => 0))))]) := hD
  refine lv_aload_n hx hb d_Printer_init_13 rfl (lv_at hl 0 rfl) ?_
  refine lv_iconst (v := 0) hx hb d_Printer_init_14 (by decide) ?_
  refine va_put (D := gD g) (ci := 4) (v := .int (0 : Int32)) (ty := .int) (C := R_Printer) (T := T_Printer) (N := 4) hx hb htb in_Printer ty_Printer ty_Printer_ok nm_Printer hown hG.1 hP hD hS 0 rfl rfl 1 (by decide) (htb _ L_Printer_15) (fun _ h9 => h9) rfl (by decide +kernel) rfl rfl (Nat.le_of_ble_eq_true rfl) d_Printer_init_15 (fun H locs hP hD hS => ?_)
  have hP : va_P (gD g) vwCl ([(h0, .inr (4, [.ref q1, .int (0 : Int32), .int 0, .null])), (q1, .inl (g.2.2.1 1, (1200, .inl (fun _ => 0))))]) H := hP
  have hD : va_D A ([(h0, .inr (4, [.ref q1, .int (0 : Int32), .int 0, .null])), (q1, .inl (g.2.2.1 1, (1200, .inl (fun _ => 0))))]) := hD
  refine lv_aload_n hx hb d_Printer_init_18 rfl (lv_at hl 0 rfl) ?_
  refine lv_iconst (v := 0) hx hb d_Printer_init_19 (by decide) ?_
  refine va_put (D := gD g) (ci := 4) (v := .int (0 : Int32)) (ty := .boolean) (C := R_Printer) (T := T_Printer) (N := 4) hx hb htb in_Printer ty_Printer ty_Printer_ok nm_Printer hown hG.1 hP hD hS 0 rfl rfl 2 (by decide) (htb _ L_Printer_19) (fun _ h9 => h9) rfl (by decide +kernel) rfl rfl (Nat.le_of_ble_eq_true rfl) d_Printer_init_20 (fun H locs hP hD hS => ?_)
  have hP : va_P (gD g) vwCl ([(h0, .inr (4, [.ref q1, .int (0 : Int32), .int (0 : Int32), .null])), (q1, .inl (g.2.2.1 1, (1200, .inl (fun _ => 0))))]) H := hP
  have hD : va_D A ([(h0, .inr (4, [.ref q1, .int (0 : Int32), .int (0 : Int32), .null])), (q1, .inl (g.2.2.1 1, (1200, .inl (fun _ => 0))))]) := hD
  refine lv_aload_n hx hb d_Printer_init_23 rfl (lv_at hl 0 rfl) ?_
  refine va_new (ci := 0) (fs := [.null, .int 0]) (C := R_Pile) (T := T_Pile) (N := 2) hx hb htb in_Pile ty_Pile ty_Pile_ok hown (htb _ L_Printer_23) (htb _ IN_Pile) (htb _ I_Pile) hG.1 hP hD hS hA rfl (fun j hj => by rcases (show j = 0 ∨ j = 1 by omega) with rfl | rfl <;> rfl) (Nat.le_of_ble_eq_true rfl) (Nat.le_of_ble_eq_true rfl) d_Printer_init_24 (fun q2 H hP hD hS => ?_)
  have hP : va_P (gD g) vwCl ([(h0, .inr (4, [.ref q1, .int (0 : Int32), .int (0 : Int32), .null])), (q1, .inl (g.2.2.1 1, (1200, .inl (fun _ => 0)))), (q2, .inr (0, [.null, .int 0]))]) H := hP
  have hD : va_D A ([(h0, .inr (4, [.ref q1, .int (0 : Int32), .int (0 : Int32), .null])), (q1, .inl (g.2.2.1 1, (1200, .inl (fun _ => 0)))), (q2, .inr (0, [.null, .int 0]))]) := hD
  refine lv_dup hx hb d_Printer_init_27 rfl ?_
  refine lv_sipush (v := 160) hx hb d_Printer_init_28 (by decide) ?_
  refine cl_N (wr := [(h0, .inr (4, [.ref q1, .int (0 : Int32), .int (0 : Int32), .null])), (q1, .inl (g.2.2.1 1, (1200, .inl (fun _ => 0))))]) [2] [0, 1] rfl rfl rfl (by decide) hP hD hS hA (va_runI (As := [.int (160 : Int32)]) (rest := [.ref q2, .ref h0]) ⟨hx, hb, hml, hown, htb⟩ (c_Pile_init l g q2 (160 : Int32) 160 (by decide) rfl (Nat.le_of_ble_eq_true rfl) H.size) (cw_I htb mb_Pile_init (htb _ L_Printer_25) rfl rfl ⟨Nat.le_of_ble_eq_true rfl, Nat.le_of_ble_eq_true rfl⟩) (pre_S [2] rfl rfl hP hD hS hA hAA hG) rfl rfl hl.1 rfl (lv_room (Nat.le_of_ble_eq_true rfl)) d_Printer_init_31 ⟨Nat.le_of_ble_eq_true rfl, Nat.le_of_ble_eq_true rfl⟩) (fun w1 H locs hw hP2 hD2 hS2 => ?_)
  obtain ⟨a3, ha0, rfl⟩ := hw
  subst ha0
  have hP := hP2
  have hD := hD2
  have hS := hS2
  have hP : va_P (gD g) vwCl ([(h0, .inr (4, [.ref q1, .int (0 : Int32), .int (0 : Int32), .null])), (q1, .inl (g.2.2.1 1, (1200, .inl (fun _ => 0))))] ++ (pic_Pile g a3 160 (fun _ _ => 0) (fun _ _ => 0))) H := hP
  have hD : va_D A ([(h0, .inr (4, [.ref q1, .int (0 : Int32), .int (0 : Int32), .null])), (q1, .inl (g.2.2.1 1, (1200, .inl (fun _ => 0))))] ++ (pic_Pile g a3 160 (fun _ _ => 0) (fun _ _ => 0))) := hD
  refine va_putF (D := gD g) (ci := 4) (v := .ref (a3 0)) (ty := .object "MailQueries$Pile") (C := R_Printer) (T := T_Printer) (N := 4) hx hb htb in_Printer ty_Printer ty_Printer_ok nm_Printer hown hG.1 hP hD hS 0 rfl rfl 3 (by decide) (htb _ L_Printer_28) (fun _ h9 => h9) rfl hin rfl (by decide +kernel) rfl rfl (Nat.le_of_ble_eq_true rfl) d_Printer_init_34 (fun H locs hP hD hS => ?_)
  have hP : va_P (gD g) vwCl ([(h0, .inr (4, [.ref q1, .int (0 : Int32), .int (0 : Int32), .ref (a3 0)])), (q1, .inl (g.2.2.1 1, (1200, .inl (fun _ => 0))))] ++ (pic_Pile g a3 160 (fun _ _ => 0) (fun _ _ => 0))) H := hP
  have hD : va_D A ([(h0, .inr (4, [.ref q1, .int (0 : Int32), .int (0 : Int32), .ref (a3 0)])), (q1, .inl (g.2.2.1 1, (1200, .inl (fun _ => 0))))] ++ (pic_Pile g a3 160 (fun _ _ => 0) (fun _ _ => 0))) := hD
  refine W.widen (k := 3) (n := 1362) (Nat.le_of_ble_eq_true rfl) (Nat.le_of_ble_eq_true rfl) ?_
  exact W.vret hx hb hr (fun t ht hW => ⟨⟨_, rfl, ⟨(fun n => if n = 0 then h0 else if n = 1 then q1 else 0), a3, rfl, rfl⟩, by rw [ht]; exact hP.sub [0, 1, 2, 3] rfl, hD.sub [0, 1, 2, 3] rfl rfl⟩, hS.F ht⟩) hS.2.2 d_Printer_init_37
