theorem L_Pile_1 : (Jvm.Cond.methodLink "MailQueries$Pile" (1 : Nat) ({ cls := "java/lang/Object", name := "<init>", desc := "()V" } : Jvm.MethodName)) ∈ TBL := TBL_in (List.mem_of_getElem? (i := 266) (by decide +kernel)) (by decide +kernel)
theorem OI_in : (Jvm.Cond.instanceMethod ({ cls := "java/lang/Object", name := "<init>", desc := "()V" } : Jvm.MethodName)) ∈ TBL := TBL_in (List.mem_of_getElem? (i := 127) (by decide +kernel)) (by decide +kernel)
set_option maxRecDepth 100000 in
theorem OI_code : (Jvm.Cond.code ({ cls := "java/lang/Object", name := "<init>", desc := "()V" } : Jvm.MethodName) object_method_1_code (1 : Nat) (Option.none : Option Jvm.ClassFile.FieldType)) ∈ TBL := TBL_in (List.mem_of_getElem? (i := 128) rfl) rfl
theorem AC_long : (Jvm.Cond.arrayClass Jvm.ClassFile.FieldType.long) ∈ TBL := TBL_in (List.mem_of_getElem? (i := 274) (by decide +kernel)) (by decide +kernel)
set_option maxRecDepth 100000 in
theorem W_Pile_init_code : (Jvm.Cond.code ({ cls := "MailQueries$Pile", name := "<init>", desc := "(I)V" } : Jvm.MethodName) prog_3_method_1_code (2 : Nat) (Option.none : Option Jvm.ClassFile.FieldType)) ∈ TBL := TBL_in (List.mem_of_getElem? (i := 265) rfl) rfl
theorem W_Pile_init_in : (Jvm.Cond.instanceMethod ({ cls := "MailQueries$Pile", name := "<init>", desc := "(I)V" } : Jvm.MethodName)) ∈ TBL := TBL_in (List.mem_of_getElem? (i := 264) (by decide +kernel)) (by decide +kernel)
theorem d_Pile_init_0 : decode prog_3_method_1_code 0 = .ok (.aload_n 0, 1) := by decide +kernel
theorem d_Pile_init_1 : decode prog_3_method_1_code 1 = .ok (.invokespecial 1, 3) := by decide +kernel
theorem d_Pile_init_4 : decode prog_3_method_1_code 4 = .ok (.aload_n 0, 1) := by decide +kernel
theorem d_Pile_init_5 : decode prog_3_method_1_code 5 = .ok (.iconst 0, 1) := by decide +kernel
theorem d_Pile_init_6 : decode prog_3_method_1_code 6 = .ok (.putfield 7, 3) := by decide +kernel
theorem d_Pile_init_9 : decode prog_3_method_1_code 9 = .ok (.aload_n 0, 1) := by decide +kernel
theorem d_Pile_init_10 : decode prog_3_method_1_code 10 = .ok (.iload_n 1, 1) := by decide +kernel
theorem d_Pile_init_11 : decode prog_3_method_1_code 11 = .ok (.ifCond .le 7, 3) := by decide +kernel
theorem d_Pile_init_14 : decode prog_3_method_1_code 14 = .ok (.iload_n 1, 1) := by decide +kernel
theorem d_Pile_init_15 : decode prog_3_method_1_code 15 = .ok (.goto 4, 3) := by decide +kernel
theorem d_Pile_init_18 : decode prog_3_method_1_code 18 = .ok (.iconst 0, 1) := by decide +kernel
theorem d_Pile_init_19 : decode prog_3_method_1_code 19 = .ok (.newarray .long, 2) := by decide +kernel
theorem d_Pile_init_21 : decode prog_3_method_1_code 21 = .ok (.putfield 13, 3) := by decide +kernel
theorem d_Pile_init_24 : decode prog_3_method_1_code 24 = .ok (.return_, 1) := by decide +kernel
def rm_Pile_init (N : Nat) : Room := { frames := 1, cells := 1, slots := N, locals := 12 }
def y_Pile_init : MethodName := ⟨"MailQueries$Pile", "<init>", "(I)V"⟩
theorem mb_Pile_init : MbI y_Pile_init prog_3_method_1_code 2 1 := ⟨W_Pile_init_code, W_Pile_init_in, I_Pile, rfl, by decide +kernel, by decide +kernel, by decide +kernel⟩
def Sh_Pile (g : Gz) (h0 : Nat) (N : Nat) (wd : va_W) : Prop := ∃ (a_t : Nat → Nat), a_t 0 = h0 ∧ wd = (pic_Pile g a_t N (fun _ _ => 0) (fun _ _ => 0))
set_option maxHeartbeats 4000000 in
set_option maxRecDepth 100000 in
theorem c_Pile_init (l : Launch) (g : Gz) (h0 : Nat) (x1 : Int32) (N : Nat) (hm : ¬ x1 ≤ 0) (hN : x1.toNatClampNeg = N) (hby : N * componentBytes .long ≤ 536870912) : ∀ sz : Nat, Met l y_Pile_init (.code y_Pile_init prog_3_method_1_code 2 none :: TBL) (rm_Pile_init N) (va_Pc [.ref h0, .int x1] (Pre0 g [(h0, .inr (0, [.null, .int 0]))] sz)) (EN g (Sh_Pile g h0 N) (va_A [(h0, .inr (0, [.null, .int 0]))] sz)) 1 N (va_A [(h0, .inr (0, [.null, .int 0]))] sz) := by
  refine ct_n (Pw := Sh_Pile g h0 N) (by decide) rfl (Nat.le_of_ble_eq_true rfl) ?_
  intro p e s m args below meth c A ls hC hin hl hP hD
  obtain ⟨hx, hb, hr, hml, hown, htb, hlocks, hA, hAA, hG⟩ := id hC
  have hown : s.vm.findClass R_Pile = some m.cls := hown
  have hS : va_S A s.heap s.heap [] := va_S.rf
  have hl : lv_has ls 2 [(0, .ref h0), (1, .int x1)] := hl
  refine lv_aload_n hx hb d_Pile_init_0 rfl (lv_at hl 0 rfl) ?_
  refine W.objInit hx hb hown (htb _ L_Pile_1) (htb _ OI_in) (htb _ OI_code) rfl (by rw [hml]; exact hl.1) rfl d_Pile_init_1 (Nat.le_of_ble_eq_true rfl) (Nat.le_of_ble_eq_true rfl) ?_
  refine W.eq (g2 := F0 m 4 ls []) rfl ?_
  refine lv_aload_n hx hb d_Pile_init_4 rfl (lv_at hl 0 rfl) ?_
  refine lv_iconst (v := 0) hx hb d_Pile_init_5 (by decide) ?_
  refine va_put (D := gD g) (ci := 0) (v := .int (0 : Int32)) (ty := .int) (C := R_Pile) (T := T_Pile) (N := 2) hx hb htb in_Pile ty_Pile ty_Pile_ok nm_Pile hown hG.1 hP hD hS 0 rfl rfl 1 (by decide) (htb _ L_Pile_7) (fun _ h9 => h9) rfl (by decide +kernel) rfl rfl (Nat.le_of_ble_eq_true rfl) d_Pile_init_6 (fun H locs hP hD hS => ?_)
  have hP : va_P (gD g) vwCl ([(h0, .inr (0, [.null, .int (0 : Int32)]))]) H := hP
  have hD : va_D A ([(h0, .inr (0, [.null, .int (0 : Int32)]))]) := hD
  refine lv_aload_n hx hb d_Pile_init_9 rfl (lv_at hl 0 rfl) ?_
  refine lv_iload_n hx hb d_Pile_init_10 rfl (lv_at hl 1 rfl) ?_
  refine lv_if_le (tgt := 18) hx hb d_Pile_init_11 (by decide) (fun c1 => absurd c1 hm) (fun _ => ?_)
  refine lv_iload_n hx hb d_Pile_init_14 rfl (lv_at hl 1 rfl) ?_
  refine lv_goto (tgt := 19) hx hb d_Pile_init_15 (by decide) ?_
  refine new_a (atype := .long) (ty := .long) (t0 := 3) (N' := N) (a0 := (N, .inr (.inl (fun _ => 0)))) (nm := "[J") hx hb (htb _ AC_long) rfl (fun _ h9 => h9) hG rfl hP hD hS hA (ha_long N) (fun z => hm (Int32.le_of_lt z)) hN hby (Nat.le_of_ble_eq_true rfl) (by show 0 + N ≤ N; omega) d_Pile_init_19 (fun q1 H hP hD hS => ?_)
  have hP : va_P (gD g) vwCl ([(h0, .inr (0, [.null, .int (0 : Int32)])), (q1, .inl (g.2.2.1 3, (N, .inr (.inl (fun _ => 0)))))]) H := hP
  have hD : va_D A ([(h0, .inr (0, [.null, .int (0 : Int32)])), (q1, .inl (g.2.2.1 3, (N, .inr (.inl (fun _ => 0)))))]) := hD
  refine va_putF (D := gD g) (ci := 0) (v := .ref q1) (ty := .array .long) (C := R_Pile) (T := T_Pile) (N := 2) hx hb htb in_Pile ty_Pile ty_Pile_ok nm_Pile hown hG.1 hP hD hS 0 rfl rfl 0 (by decide) (htb _ L_Pile_13) (fun _ h9 => h9) rfl hin rfl (by decide +kernel) rfl rfl (Nat.le_of_ble_eq_true rfl) d_Pile_init_21 (fun H locs hP hD hS => ?_)
  have hP : va_P (gD g) vwCl ([(h0, .inr (0, [.ref q1, .int (0 : Int32)])), (q1, .inl (g.2.2.1 3, (N, .inr (.inl (fun _ => 0)))))]) H := hP
  have hD : va_D A ([(h0, .inr (0, [.ref q1, .int (0 : Int32)])), (q1, .inl (g.2.2.1 3, (N, .inr (.inl (fun _ => 0)))))]) := hD
  refine W.widen (k := 1) (n := N) (Nat.le_of_ble_eq_true rfl) (by show 0 + N ≤ N; omega) ?_
  exact W.vret hx hb hr (fun t ht hW => ⟨⟨_, rfl, ⟨(fun n => if n = 0 then h0 else if n = 1 then q1 else 0), rfl, rfl⟩, by rw [ht]; exact hP.sub [0, 1] rfl, hD.sub [0, 1] rfl rfl⟩, hS.F ht⟩) hS.2.2 d_Pile_init_24
