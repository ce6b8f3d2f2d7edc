theorem L_Judge_3 : (Jvm.Cond.methodLink "MailQueries$Judge" (3 : Nat) ({ cls := "java/lang/Object", name := "<init>", desc := "()V" } : Jvm.MethodName)) ∈ TBL := TBL_in (List.mem_of_getElem? (i := 335) (by decide +kernel)) (by decide +kernel)
theorem L_Judge_15 : (Jvm.Cond.classLink "MailQueries$Judge" (15 : Nat) "MailQueries$Pile") ∈ TBL := TBL_in (List.mem_of_getElem? (i := 336) (by decide +kernel)) (by decide +kernel)
theorem L_Judge_17 : (Jvm.Cond.methodLink "MailQueries$Judge" (17 : Nat) ({ cls := "MailQueries$Pile", name := "<init>", desc := "(I)V" } : Jvm.MethodName)) ∈ TBL := TBL_in (List.mem_of_getElem? (i := 337) (by decide +kernel)) (by decide +kernel)
set_option maxRecDepth 100000 in
theorem W_Judge_init_code : (Jvm.Cond.code ({ cls := "MailQueries$Judge", name := "<init>", desc := "()V" } : Jvm.MethodName) prog_2_method_1_code (1 : Nat) (Option.none : Option Jvm.ClassFile.FieldType)) ∈ TBL := TBL_in (List.mem_of_getElem? (i := 334) rfl) rfl
theorem W_Judge_init_in : (Jvm.Cond.instanceMethod ({ cls := "MailQueries$Judge", name := "<init>", desc := "()V" } : Jvm.MethodName)) ∈ TBL := TBL_in (List.mem_of_getElem? (i := 333) (by decide +kernel)) (by decide +kernel)
theorem d_Judge_init_0 : decode prog_2_method_1_code 0 = .ok (.aload_n 0, 1) := by decide +kernel
theorem d_Judge_init_1 : decode prog_2_method_1_code 1 = .ok (.invokespecial 3, 3) := by decide +kernel
theorem d_Judge_init_4 : decode prog_2_method_1_code 4 = .ok (.aload_n 0, 1) := by decide +kernel
theorem d_Judge_init_5 : decode prog_2_method_1_code 5 = .ok (.bipush 40, 2) := by decide +kernel
theorem d_Judge_init_7 : decode prog_2_method_1_code 7 = .ok (.newarray .long, 2) := by decide +kernel
theorem d_Judge_init_9 : decode prog_2_method_1_code 9 = .ok (.putfield 9, 3) := by decide +kernel
theorem d_Judge_init_12 : decode prog_2_method_1_code 12 = .ok (.aload_n 0, 1) := by decide +kernel
theorem d_Judge_init_13 : decode prog_2_method_1_code 13 = .ok (.new 15, 3) := by decide +kernel
theorem d_Judge_init_16 : decode prog_2_method_1_code 16 = .ok (.dup, 1) := by decide +kernel
theorem d_Judge_init_17 : decode prog_2_method_1_code 17 = .ok (.bipush 40, 2) := by decide +kernel
theorem d_Judge_init_19 : decode prog_2_method_1_code 19 = .ok (.invokespecial 17, 3) := by decide +kernel
theorem d_Judge_init_22 : decode prog_2_method_1_code 22 = .ok (.putfield 20, 3) := by decide +kernel
theorem d_Judge_init_25 : decode prog_2_method_1_code 25 = .ok (.return_, 1) := by decide +kernel
def rm_Judge_init : Room := { frames := 2, cells := 3, slots := 82, locals := 33 }
def y_Judge_init : MethodName := ⟨"MailQueries$Judge", "<init>", "()V"⟩
theorem mb_Judge_init : MbI y_Judge_init prog_2_method_1_code 1 0 := ⟨W_Judge_init_code, W_Judge_init_in, I_Judge, rfl, by decide +kernel, by decide +kernel, by decide +kernel⟩
def Sh_Judge (g : Gz) (h0 : Nat) (wd : va_W) : Prop := ∃ (a_t a3 : Nat → Nat), a_t 0 = h0 ∧ wd = (pic_Judge g a_t (a3 0) (fun _ _ => 0)) ++ (pic_Pile g a3 40 (fun _ _ => 0) (fun _ _ => 0))
set_option maxHeartbeats 4000000 in
set_option maxRecDepth 100000 in
theorem c_Judge_init (l : Launch) (g : Gz) (h0 : Nat) : ∀ sz : Nat, Met l y_Judge_init (.code y_Judge_init prog_2_method_1_code 1 none :: TBL) rm_Judge_init (va_Pc [.ref h0] (Pre0 g [(h0, .inr (5, [.null, .null]))] sz)) (EN g (Sh_Judge g h0) (va_A [(h0, .inr (5, [.null, .null]))] sz)) 3 82 (va_A [(h0, .inr (5, [.null, .null]))] sz) := by
  refine ct_n (Pw := Sh_Judge g h0) (by decide) rfl (Nat.le_of_ble_eq_true rfl) ?_
  intro p e s m args below meth c A ls hC hin hl hP hD
  obtain ⟨hx, hb, hr, hml, hown, htb, hlocks, hA, hAA, hG⟩ := id hC
  have hown : s.vm.findClass R_Judge = some m.cls := hown
  have hS : va_S A s.heap s.heap [] := va_S.rf
  have hl : lv_has ls 1 [(0, .ref h0)] := hl
  refine lv_aload_n hx hb d_Judge_init_0 rfl (lv_at hl 0 rfl) ?_
  refine W.objInit hx hb hown (htb _ L_Judge_3) (htb _ OI_in) (htb _ OI_code) rfl (by rw [hml]; exact hl.1) rfl d_Judge_init_1 (Nat.le_of_ble_eq_true rfl) (Nat.le_of_ble_eq_true rfl) ?_
  refine W.eq (g2 := F0 m 4 ls []) rfl ?_
  refine lv_aload_n hx hb d_Judge_init_4 rfl (lv_at hl 0 rfl) ?_
  refine lv_bipush (v := 40) hx hb d_Judge_init_5 (by decide) ?_
  refine new_a (atype := .long) (ty := .long) (t0 := 3) (N' := 40) (a0 := (40, .inr (.inl (fun _ => 0)))) (nm := "[J") hx hb (htb _ AC_long) rfl (fun _ h9 => h9) hG rfl hP hD hS hA (ha_long 40) (by decide) rfl (Nat.le_of_ble_eq_true rfl) (Nat.le_of_ble_eq_true rfl) (Nat.le_of_ble_eq_true rfl) d_Judge_init_7 (fun q1 H hP hD hS => ?_)
  have hP : va_P (gD g) vwCl ([(h0, .inr (5, [.null, .null])), (q1, .inl (g.2.2.1 3, (40, .inr (.inl (fun _ => 0)))))]) H := hP
  have hD : va_D A ([(h0, .inr (5, [.null, .null])), (q1, .inl (g.2.2.1 3, (40, .inr (.inl (fun _ => 0)))))]) := hD
  refine va_putF (D := gD g) (ci := 5) (v := .ref q1) (ty := .array .long) (C := R_Judge) (T := T_Judge) (N := 2) hx hb htb in_Judge ty_Judge ty_Judge_ok nm_Judge hown hG.1 hP hD hS 0 rfl rfl 0 (by decide) (htb _ L_Judge_9) (fun _ h9 => h9) rfl hin rfl (by decide +kernel) rfl rfl (Nat.le_of_ble_eq_true rfl) d_Judge_init_9 (fun H locs hP hD hS => ?_)
  have hP : va_P (gD g) vwCl ([(h0, .inr (5, [.ref q1, .null])), (q1, .inl (g.2.2.1 3, (40, .inr (.inl (fun _ => 0)))))]) H := hP
  have hD : va_D A ([(h0, .inr (5, [.ref q1, .null])), (q1, .inl (g.2.2.1 3, (40, .inr (.inl (fun _ => 0)))))]) := hD
  refine lv_aload_n hx hb d_Judge_init_12 rfl (lv_at hl 0 rfl) ?_
  refine va_new (ci := 0) (fs := [.null, .int 0]) (C := R_Pile) (T := T_Pile) (N := 2) hx hb htb in_Pile ty_Pile ty_Pile_ok hown (htb _ L_Judge_15) (htb _ IN_Pile) (htb _ I_Pile) hG.1 hP hD hS hA rfl (fun j hj => by rcases (show j = 0 ∨ j = 1 by omega) with rfl | rfl <;> rfl) (Nat.le_of_ble_eq_true rfl) (Nat.le_of_ble_eq_true rfl) d_Judge_init_13 (fun q2 H hP hD hS => ?_)
  have hP : va_P (gD g) vwCl ([(h0, .inr (5, [.ref q1, .null])), (q1, .inl (g.2.2.1 3, (40, .inr (.inl (fun _ => 0))))), (q2, .inr (0, [.null, .int 0]))]) H := hP
  have hD : va_D A ([(h0, .inr (5, [.ref q1, .null])), (q1, .inl (g.2.2.1 3, (40, .inr (.inl (fun _ => 0))))), (q2, .inr (0, [.null, .int 0]))]) := hD
  refine lv_dup hx hb d_Judge_init_16 rfl ?_
  refine lv_bipush (v := 40) hx hb d_Judge_init_17 (by decide) ?_
  refine cl_N (wr := [(h0, .inr (5, [.ref q1, .null])), (q1, .inl (g.2.2.1 3, (40, .inr (.inl (fun _ => 0)))))]) [2] [0, 1] rfl rfl rfl (by decide) hP hD hS hA (va_runI (As := [.int (40 : Int32)]) (rest := [.ref q2, .ref h0]) ⟨hx, hb, hml, hown, htb⟩ (c_Pile_init l g q2 (40 : Int32) 40 (by decide) rfl (Nat.le_of_ble_eq_true rfl) H.size) (cw_I htb mb_Pile_init (htb _ L_Judge_17) rfl rfl ⟨Nat.le_of_ble_eq_true rfl, Nat.le_of_ble_eq_true rfl⟩) (pre_S [2] rfl rfl hP hD hS hA hAA hG) rfl rfl hl.1 rfl (lv_room (Nat.le_of_ble_eq_true rfl)) d_Judge_init_19 ⟨Nat.le_of_ble_eq_true rfl, Nat.le_of_ble_eq_true rfl⟩) (fun w1 H locs hw hP2 hD2 hS2 => ?_)
  obtain ⟨a3, ha0, rfl⟩ := hw
  subst ha0
  have hP := hP2
  have hD := hD2
  have hS := hS2
  have hP : va_P (gD g) vwCl ([(h0, .inr (5, [.ref q1, .null])), (q1, .inl (g.2.2.1 3, (40, .inr (.inl (fun _ => 0)))))] ++ (pic_Pile g a3 40 (fun _ _ => 0) (fun _ _ => 0))) H := hP
  have hD : va_D A ([(h0, .inr (5, [.ref q1, .null])), (q1, .inl (g.2.2.1 3, (40, .inr (.inl (fun _ => 0)))))] ++ (pic_Pile g a3 40 (fun _ _ => 0) (fun _ _ => 0))) := hD
  refine va_putF (D := gD g) (ci := 5) (v := .ref (a3 0)) (ty := .object "MailQueries$Pile") (C := R_Judge) (T := T_Judge) (N := 2) hx hb htb in_Judge ty_Judge ty_Judge_ok nm_Judge hown hG.1 hP hD hS 0 rfl rfl 1 (by decide) (htb _ L_Judge_20) (fun _ h9 => h9) rfl hin rfl (by decide +kernel) rfl rfl (Nat.le_of_ble_eq_true rfl) d_Judge_init_22 (fun H locs hP hD hS => ?_)
  have hP : va_P (gD g) vwCl ([(h0, .inr (5, [.ref q1, .ref (a3 0)])), (q1, .inl (g.2.2.1 3, (40, .inr (.inl (fun _ => 0)))))] ++ (pic_Pile g a3 40 (fun _ _ => 0) (fun _ _ => 0))) H := hP
  have hD : va_D A ([(h0, .inr (5, [.ref q1, .ref (a3 0)])), (q1, .inl (g.2.2.1 3, (40, .inr (.inl (fun _ => 0)))))] ++ (pic_Pile g a3 40 (fun _ _ => 0) (fun _ _ => 0))) := hD
  refine W.widen (k := 3) (n := 82) (Nat.le_of_ble_eq_true rfl) (Nat.le_of_ble_eq_true rfl) ?_
  exact W.vret hx hb hr (fun t ht hW => ⟨⟨_, rfl, ⟨(fun n => if n = 0 then h0 else if n = 1 then q1 else 0), a3, rfl, rfl⟩, by rw [ht]; exact hP.sub [0, 1, 2, 3] rfl, hD.sub [0, 1, 2, 3] rfl rfl⟩, hS.F ht⟩) hS.2.2 d_Judge_init_25
