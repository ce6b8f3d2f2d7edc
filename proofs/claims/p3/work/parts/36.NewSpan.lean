theorem L_Span_3 : (Jvm.Cond.methodLink "MailQueries$Span" (3 : Nat) ({ cls := "java/lang/Object", name := "<init>", desc := "()V" } : Jvm.MethodName)) ∈ TBL := TBL_in (List.mem_of_getElem? (i := 215) (by decide +kernel)) (by decide +kernel)
set_option maxRecDepth 100000 in
theorem W_Span_init_code : (Jvm.Cond.code ({ cls := "MailQueries$Span", name := "<init>", desc := "()V" } : Jvm.MethodName) prog_8_method_1_code (1 : Nat) (Option.none : Option Jvm.ClassFile.FieldType)) ∈ TBL := TBL_in (List.mem_of_getElem? (i := 214) rfl) rfl
theorem W_Span_init_in : (Jvm.Cond.instanceMethod ({ cls := "MailQueries$Span", name := "<init>", desc := "()V" } : Jvm.MethodName)) ∈ TBL := TBL_in (List.mem_of_getElem? (i := 213) (by decide +kernel)) (by decide +kernel)
theorem d_Span_init_0 : decode prog_8_method_1_code 0 = .ok (.aload_n 0, 1) := by decide +kernel
theorem d_Span_init_1 : decode prog_8_method_1_code 1 = .ok (.invokespecial 3, 3) := by decide +kernel
theorem d_Span_init_4 : decode prog_8_method_1_code 4 = .ok (.aload_n 0, 1) := by decide +kernel
theorem d_Span_init_5 : decode prog_8_method_1_code 5 = .ok (.iconst 0, 1) := by decide +kernel
theorem d_Span_init_6 : decode prog_8_method_1_code 6 = .ok (.putfield 9, 3) := by decide +kernel
theorem d_Span_init_9 : decode prog_8_method_1_code 9 = .ok (.aload_n 0, 1) := by decide +kernel
theorem d_Span_init_10 : decode prog_8_method_1_code 10 = .ok (.iconst 0, 1) := by decide +kernel
theorem d_Span_init_11 : decode prog_8_method_1_code 11 = .ok (.putfield 15, 3) := by decide +kernel
theorem d_Span_init_14 : decode prog_8_method_1_code 14 = .ok (.return_, 1) := by decide +kernel
def rm_Span_init : Room := { frames := 1, cells := 0, slots := 0, locals := 12 }
def y_Span_init : MethodName := ⟨"MailQueries$Span", "<init>", "()V"⟩
theorem mb_Span_init : MbI y_Span_init prog_8_method_1_code 1 0 := ⟨W_Span_init_code, W_Span_init_in, I_Span, rfl, by decide +kernel, by decide +kernel, by decide +kernel⟩
def Sh_Span (g : Gz) (h0 : Nat) (wd : va_W) : Prop := ∃ (a_t : Nat → Nat), a_t 0 = h0 ∧ wd = (pic_Span g a_t (fun _ _ => 0))
set_option maxHeartbeats 4000000 in
set_option maxRecDepth 100000 in
theorem c_Span_init (l : Launch) (g : Gz) (h0 : Nat) : ∀ sz : Nat, Met l y_Span_init (.code y_Span_init prog_8_method_1_code 1 none :: TBL) rm_Span_init (va_Pc [.ref h0] (Pre0 g [(h0, .inr (2, [.int 0, .int 0]))] sz)) (EN g (Sh_Span g h0) (va_A [(h0, .inr (2, [.int 0, .int 0]))] sz)) 0 0 (va_A [(h0, .inr (2, [.int 0, .int 0]))] sz) := by
  refine ct_n (Pw := Sh_Span g h0) (by decide) rfl (Nat.le_of_ble_eq_true rfl) ?_
  intro p e s m args below meth c A ls hC hin hl hP hD
  obtain ⟨hx, hb, hr, hml, hown, htb, hlocks, hA, hAA, hG⟩ := id hC
  have hown : s.vm.findClass R_Span = some m.cls := hown
  have hS : va_S A s.heap s.heap [] := va_S.rf
  have hl : lv_has ls 1 [(0, .ref h0)] := hl
  refine lv_aload_n hx hb d_Span_init_0 rfl (lv_at hl 0 rfl) ?_
  refine W.objInit hx hb hown (htb _ L_Span_3) (htb _ OI_in) (htb _ OI_code) rfl (by rw [hml]; exact hl.1) rfl d_Span_init_1 (Nat.le_of_ble_eq_true rfl) (Nat.le_of_ble_eq_true rfl) ?_
  refine W.eq (g2 := F0 m 4 ls []) rfl ?_
  refine lv_aload_n hx hb d_Span_init_4 rfl (lv_at hl 0 rfl) ?_
  refine lv_iconst (v := 0) hx hb d_Span_init_5 (by decide) ?_
  refine va_put (D := gD g) (ci := 2) (v := .int (0 : Int32)) (ty := .int) (C := R_Span) (T := T_Span) (N := 2) hx hb htb in_Span ty_Span ty_Span_ok nm_Span hown hG.1 hP hD hS 0 rfl rfl 0 (by decide) (htb _ L_Span_9) (fun _ h9 => h9) rfl (by decide +kernel) rfl rfl (Nat.le_of_ble_eq_true rfl) d_Span_init_6 (fun H locs hP hD hS => ?_)
  have hP : va_P (gD g) vwCl ([(h0, .inr (2, [.int (0 : Int32), .int 0]))]) H := hP
  have hD : va_D A ([(h0, .inr (2, [.int (0 : Int32), .int 0]))]) := hD
  refine lv_aload_n hx hb d_Span_init_9 rfl (lv_at hl 0 rfl) ?_
  refine lv_iconst (v := 0) hx hb d_Span_init_10 (by decide) ?_
  refine va_put (D := gD g) (ci := 2) (v := .int (0 : Int32)) (ty := .int) (C := R_Span) (T := T_Span) (N := 2) hx hb htb in_Span ty_Span ty_Span_ok nm_Span hown hG.1 hP hD hS 0 rfl rfl 1 (by decide) (htb _ L_Span_15) (fun _ h9 => h9) rfl (by decide +kernel) rfl rfl (Nat.le_of_ble_eq_true rfl) d_Span_init_11 (fun H locs hP hD hS => ?_)
  have hP : va_P (gD g) vwCl ([(h0, .inr (2, [.int (0 : Int32), .int (0 : Int32)]))]) H := hP
  have hD : va_D A ([(h0, .inr (2, [.int (0 : Int32), .int (0 : Int32)]))]) := hD
  refine W.widen (k := 0) (n := 0) (Nat.le_of_ble_eq_true rfl) (Nat.le_of_ble_eq_true rfl) ?_
  exact W.vret hx hb hr (fun t ht hW => ⟨⟨_, rfl, ⟨(fun n => if n = 0 then h0 else 0), rfl, rfl⟩, by rw [ht]; exact hP.sub [0] rfl, hD.sub [0] rfl rfl⟩, hS.F ht⟩) hS.2.2 d_Span_init_14
