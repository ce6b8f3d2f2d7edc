def R_LW : String := "MailQueriesLaw"
def y_LW_read : MethodName := ⟨"MailQueriesLaw", "read", "(LMailQueries;[J)I"⟩
theorem L_LW_29 : (Jvm.Cond.methodLink "MailQueriesLaw" (29 : Nat) ({ cls := "MailQueriesLaw", name := "read", desc := "(LMailQueries;[J)I" } : Jvm.MethodName)) ∈ TBL := TBL_in (List.mem_of_getElem? (i := 676) (by decide +kernel)) (by decide +kernel)
theorem W_LW_read_st : (Jvm.Cond.static ({ cls := "MailQueriesLaw", name := "read", desc := "(LMailQueries;[J)I" } : Jvm.MethodName)) ∈ TBL := TBL_in (List.mem_of_getElem? (i := 677) (by decide +kernel)) (by decide +kernel)
set_option maxRecDepth 100000 in
theorem W_LW_read_code : (Jvm.Cond.codeWith ({ cls := "MailQueriesLaw", name := "read", desc := "(LMailQueries;[J)I" } : Jvm.MethodName) method_3_code (3 : Nat) (Option.some Jvm.ClassFile.FieldType.int) [((0 : Nat), (8 : Nat), (11 : Nat), (13 : Nat))]) ∈ TBL := TBL_in (List.mem_of_getElem? (i := 678) rfl) rfl
theorem L_LW_13 : (Jvm.Cond.classLink "MailQueriesLaw" (13 : Nat) "java/lang/IllegalArgumentException") ∈ TBL := TBL_in (List.mem_of_getElem? (i := 679) (by decide +kernel)) (by decide +kernel)
theorem L_LW_7 : (Jvm.Cond.methodLink "MailQueriesLaw" (7 : Nat) ({ cls := "MailQueries", name := "read", desc := "()I" } : Jvm.MethodName)) ∈ TBL := TBL_in (List.mem_of_getElem? (i := 680) (by decide +kernel)) (by decide +kernel)
theorem I_LW : (Jvm.Cond.initialized "MailQueriesLaw") ∈ TBL := TBL_in (List.mem_of_getElem? (i := 100) (by decide +kernel)) (by decide +kernel)
theorem d_LW_read_0 : decode method_3_code 0 = .ok (.aload_n 1, 1) := by decide +kernel
theorem d_LW_read_1 : decode method_3_code 1 = .ok (.iconst 0, 1) := by decide +kernel
theorem d_LW_read_2 : decode method_3_code 2 = .ok (.aload_n 0, 1) := by decide +kernel
theorem d_LW_read_3 : decode method_3_code 3 = .ok (.invokevirtual 7, 3) := by decide +kernel
theorem d_LW_read_6 : decode method_3_code 6 = .ok (.i2l, 1) := by decide +kernel
theorem d_LW_read_7 : decode method_3_code 7 = .ok (.lastore, 1) := by decide +kernel
theorem d_LW_read_8 : decode method_3_code 8 = .ok (.goto 6, 3) := by decide +kernel
theorem d_LW_read_11 : decode method_3_code 11 = .ok (.astore_n 2, 1) := by decide +kernel
theorem d_LW_read_12 : decode method_3_code 12 = .ok (.iconst 1, 1) := by decide +kernel
theorem d_LW_read_13 : decode method_3_code 13 = .ok (.ireturn, 1) := by decide +kernel
theorem d_LW_read_14 : decode method_3_code 14 = .ok (.iconst 0, 1) := by decide +kernel
theorem d_LW_read_15 : decode method_3_code 15 = .ok (.ireturn, 1) := by decide +kernel

/-! the law's own read: 1 if read throws, else 0 -/
theorem ct_h {l : Launch} {y : MethodName} {rm : Room} {cc : ByteArray} {nL mc ms : Nat} {ret : Option FieldType} {hs : List (Nat × Nat × Nat × Nat)} {g : Gz} {avs : List Value} {w0 : va_W} {Qc : (Nat → Prop) → Array Value → State → Outcome → State → Prop} (hy : plainName y.cls = true) (hargs : (lg_sl avs).length ≤ nL)
    (body : ∀ (p : Program) (e : Env) (s : State) (m : MethodId) (args : Array Value) (below : List Frame) (meth : Method) (c : Code) (A : Nat → Prop), Cx cc nL ret y.cls p s m args meth c g A A → XS A s s.heap → c.exceptionTable.toList.map (fun h => (h.startPc, h.endPc, h.handlerPc, h.catchType)) = hs → Go p l e rm s m args below meth c g A A nL (MQ below (Qc A) args s mc ms A) w0 (lv_args 0 avs) 0 []) :
    ∀ sz : Nat, Met l y (.codeWith y cc nL ret hs :: TBL) rm (va_Pc avs (Pre0x g w0 sz)) (Qc (va_A w0 sz)) mc ms (va_A w0 sz) := by
  intro sz
  refine MetFree.of_bodyS (code := cc) (maxLocals := nL) (ret := ret) hy ?_ ?_
  · intro args s m h hn
    obtain ⟨m', meth, c, hn', h1, h2, h3, h4, -, h5, h6, -⟩ := Cond.codeWith_spec (atoms_spec (ws := Cond.codeWith y cc nL ret hs :: TBL) h _ List.mem_cons_self)
    cases hn.symm.trans hn'
    exact ⟨meth, c, h1, h2, h3, h4, h5, h6⟩
  · intro p e s m args below meth c s₁ B hml hv _
    obtain ⟨rfl, ⟨hsz, hP, hG, hD0⟩, hXS⟩ := hv
    have hts := atoms_spec (ws := Cond.codeWith y cc nL ret hs :: TBL) B.pre
    have hown : s.vm.findClass y.cls = some m.cls := findClass_of_methodNamed B.named
    subst hsz
    have hD := hD0.self (sz := s.heap.size)
    have hh0 : s₁.heap = s.heap := by rw [B.state]; rfl
    have X := Stand.of_body B
    have hex : c.exceptionTable.toList.map (fun h => (h.startPc, h.endPc, h.handlerPc, h.catchType)) = hs := by
      obtain ⟨m', meth', c', hn', h1, h2, -, -, h3, -⟩ := Cond.codeWith_spec (hts _ List.mem_cons_self)
      cases B.named.symm.trans hn'
      cases X.method.symm.trans h1
      cases X.code.symm.trans h2
      exact h3
    have K := body p e s m _ below meth c _ ⟨B.exec, B.bytes, B.returns, hml, hown, fun w h => hts w (List.mem_cons_of_mem _ h), B.notSynchronized, fun q h => Or.inr h, fun q h => h, hG⟩ hXS hex s.heap [] _ hP hD va_S.rf (lv_entry avs hargs)
    rw [← lg_entry_eq] at K
    obtain ⟨t, a1, o, b1, b2, b3⟩ := K s₁ hh0 X
    exact ⟨t, o, a1, b1, b2, ⟨b3.1, b3.2⟩⟩
def w_lr (g : Gz) (a_t a_spare a_reader a_span : Nat → Nat) (a_out r_query rq r_printer r_rows r_judge : Nat) (t spare reader span : StI) (out : Nat → Int64) : va_W := (w_read g a_t a_spare a_reader a_span r_query rq r_printer r_rows r_judge t spare reader span) ++ [(a_out, .inl (g.2.2.1 3, 1, .inr (.inl out)))]
def rm_LW_read : Room := { frames := 11, cells := 1, slots := 6, locals := 251 }
set_option maxHeartbeats 4000000 in
set_option maxRecDepth 100000 in
theorem c_LW_readOk (l : Launch) (g : Gz) (F : Nat) (a_t a_spare a_reader a_span : Nat → Nat) (a_out r_query r_printer r_rows r_judge : Nat) (t spare reader span : StI) (out : Nat → Int64) (res : Int32 × StI × StI × StI × StI) (h : MQ_readF F t spare reader span = some res) (h1 : res.1 ≠ 0) : ∀ sz : Nat, Met l y_LW_read (.codeWith y_LW_read method_3_code 3 (some .int) [(0, 8, 11, 13)] :: TBL) rm_LW_read (va_Pc [.ref (a_t 0), .ref a_out] (Pre0x g (w_lr g a_t a_spare a_reader a_span a_out r_query (a_spare 0) r_printer r_rows r_judge t spare reader span out) sz)) (EI g (w_lr g a_t a_spare a_reader a_span a_out (a_spare 0) r_query r_printer r_rows r_judge res.2.1 res.2.2.1 res.2.2.2.1 res.2.2.2.2 (vp_updL out 0 (res.2.2.1 3 0).toInt64)) 0 (va_A (w_lr g a_t a_spare a_reader a_span a_out r_query (a_spare 0) r_printer r_rows r_judge t spare reader span out) sz)) 1 6 (va_A (w_lr g a_t a_spare a_reader a_span a_out r_query (a_spare 0) r_printer r_rows r_judge t spare reader span out) sz) := by
  refine ct_h (Qc := fun A => EI g (w_lr g a_t a_spare a_reader a_span a_out (a_spare 0) r_query r_printer r_rows r_judge res.2.1 res.2.2.1 res.2.2.2.1 res.2.2.2.2 (vp_updL out 0 (res.2.2.1 3 0).toInt64)) 0 A) (by decide) (Nat.le_of_ble_eq_true rfl) (fun p e s m args below meth c A hC hXS hex H locs ls hP hD hS hl => ?_)
  obtain ⟨hx, hb, hr, hml, hown, htb, hlocks, hA, hAA, hG⟩ := id hC
  have hK := hG.1
  refine lv_aload_n hx hb d_LW_read_0 rfl (lv_at hl 1 rfl) ?_
  refine lv_iconst (v := 0) hx hb d_LW_read_1 (by decide) ?_
  refine lv_aload_n hx hb d_LW_read_2 rfl (lv_at hl 0 rfl) ?_
  refine cl_I (wr := [(a_out, .inl (g.2.2.1 3, 1, .inr (.inl out)))]) [0, 1, 2, 3, 4, 5, 6, 7, 8, 9, 10, 11, 12, 13, 14, 15, 16, 17, 18] [19] rfl rfl rfl (by decide) hP hD hS hA (va_runV (As := []) (rest := [.int 0, .ref a_out]) ⟨hx, hb, hml, hown, htb⟩ (c_MQ_read l g F a_t a_spare a_reader a_span r_query r_printer r_rows r_judge t spare reader span res h h1 H.size) (cw_V htb mb_MQ_read (htb _ L_LW_7) rfl rfl ⟨Nat.le_of_ble_eq_true rfl, Nat.le_of_ble_eq_true rfl⟩) (pre_V (va_recv hK hP (ci := 7) (q0 := 0) rfl rfl) (pre_S [0, 1, 2, 3, 4, 5, 6, 7, 8, 9, 10, 11, 12, 13, 14, 15, 16, 17, 18] rfl rfl hP hD hS hA hAA hG)) rfl rfl hl.1 rfl (lv_room (Nat.le_of_ble_eq_true rfl)) d_LW_read_3 ⟨Nat.zero_le _, Nat.zero_le _⟩) (fun H locs hP hD hS => ?_)
  refine lv_i2l hx hb d_LW_read_6 rfl ?_
  refine va_last hx hb hK hP hD hS 0 3 rfl rfl (show ¬ ((0 : Int32) < 0 ∨ 1 ≤ (0 : Int32).toNatClampNeg) by decide) d_LW_read_7 (fun H locs hP hD hS => ?_)
  refine lv_goto (tgt := 14) hx hb d_LW_read_8 (by decide) ?_
  refine lv_iconst (v := 0) hx hb d_LW_read_14 (by decide) ?_
  have hP : va_P (gD g) vwCl (w_lr g a_t a_spare a_reader a_span a_out (a_spare 0) r_query r_printer r_rows r_judge res.2.1 res.2.2.1 res.2.2.2.1 res.2.2.2.2 (vp_updL out 0 (res.2.2.1 3 0).toInt64)) H := hP.sub [1, 2, 3, 4, 5, 6, 7, 8, 9, 10, 11, 12, 13, 14, 15, 16, 17, 18, 19, 0] rfl
  have hD : va_D A (w_lr g a_t a_spare a_reader a_span a_out (a_spare 0) r_query r_printer r_rows r_judge res.2.1 res.2.2.1 res.2.2.2.1 res.2.2.2.2 (vp_updL out 0 (res.2.2.1 3 0).toInt64)) := hD.sub [1, 2, 3, 4, 5, 6, 7, 8, 9, 10, 11, 12, 13, 14, 15, 16, 17, 18, 19, 0] rfl rfl
  refine W.widen (k := 1) (n := 6) (Nat.zero_le _) (Nat.zero_le _) ?_
  exact W.iret hx hb hr (fun t ht hW => ⟨⟨_, (), rfl, rfl, by rw [ht]; exact hP, hD⟩, hS.F ht⟩) hS.2.2 d_LW_read_15
theorem cw_Vx {R : Room} {s : State} {args : Array Value} {own : String} {index maxL n mc ms : Nat} {y : MethodName} {bytes : ByteArray} {ret : Option FieldType} {rm : Room} (htb : ∀ w ∈ TBL, w.before args s = true) (hm : Mb y bytes maxL ret n) (hl : (Cond.methodLink own index y).before args s = true) (hrc : rm.cells = mc) (hrs : rm.slots = ms) (hR : rm.frames + 1 ≤ R.frames ∧ 8 + (maxL + 11) + rm.locals ≤ R.locals) : CallW R s args own y.cls index y bytes maxL ret (.code y bytes maxL ret :: TBL) rm mc ms n := by
  obtain ⟨h1, h2, h3, h4, h5, h6, h7⟩ := hm
  exact ⟨callB_of n htb (TBL_gi0 h1) rfl hrc hrs (htb _ h4) hl ⟨h5, h6, h7⟩ hR, htb _ h2, htb _ h3⟩
theorem Pre0x.blind {g : Gz} {w0 : va_W} {sz : Nat} {avs : List Value} : FrameBlind (va_Pc avs (Pre0x g w0 sz)) := fun a U fr mk h => ⟨h.1, ⟨h.2.1.1, h.2.1.2.1, h.2.1.2.2.1.blind, h.2.1.2.2.2⟩, h.2.2.blind⟩
section PREX
variable {s : State} {H : Heap} {locs : List Loc} {A2 A : Nat → Prop} {g : Gz} {wd wc : va_W}
theorem pre_Sx {As : List Value} (isC : List Nat) (hC : isC.map (fun i => wd[i]?) = wc.map some) (hn : va_nd isC = true) (hP : va_P (gD g) vwCl wd H) (hD : va_D A2 wd) (hS : va_S A s.heap H locs) (hA : ∀ q : Nat, s.heap.size ≤ q → A q) (hAA : ∀ q : Nat, A q → A2 q) (hG : Gx g A2 s s.heap) (hX : XS A2 s s.heap) : PreS s H (va_Pc As (Pre0x g wc H.size)) As :=
  ⟨Pre0x.blind, fun U hU hW => ⟨rfl, ⟨by rw [hU], by rw [hU]; exact hP.sub isC (at_sub hC), by rw [hU]; exact hG.go (fun q h1 h2 => hS.2.1 q h1 (fun z => h2 (hAA q z))) (in_A2 hD hS hA hAA isC hC) hW, (hD.sub isC hn hC).weaken (fun _ _ _ _ => trivial)⟩, by rw [hU]; exact hX.go (fun q h1 h2 => hS.2.1 q h1 (fun z => h2 (hAA q z))) (in_A2 hD hS hA hAA isC hC) hW⟩⟩
theorem pre_Vx {As : List Value} {b : Nat} {C : String} (hr : ∃ cellB : Cell, H[b]? = some cellB ∧ cellB.vm.isStatics = false ∧ s.vm.findClass C = some cellB.cls) (h : PreS s H (va_Pc (.ref b :: As) (Pre0x g wc H.size)) (.ref b :: As)) : PreV s H C b (va_Pc (.ref b :: As) (Pre0x g wc H.size)) As := ⟨h.1, hr, h.2⟩
end PREX
set_option maxHeartbeats 4000000 in
set_option maxRecDepth 100000 in
theorem c_LW_readX (l : Launch) (hno : l.stackTraces = false) (g : Gz) (F : Nat) (a_t a_spare a_reader a_span : Nat → Nat) (a_out r_query r_printer r_rows r_judge : Nat) (t spare reader span : StI) (out : Nat → Int64) (res : Int32 × StI × StI × StI × StI) (h : MQ_readF F t spare reader span = some res) (h1 : res.1 = 0) : ∀ sz : Nat, Met l y_LW_read (.codeWith y_LW_read method_3_code 3 (some .int) [(0, 8, 11, 13)] :: TBL) rm_LW_read (va_Pc [.ref (a_t 0), .ref a_out] (Pre0x g (w_lr g a_t a_spare a_reader a_span a_out r_query (a_spare 0) r_printer r_rows r_judge t spare reader span out) sz)) (EI g (w_lr g a_t a_spare a_reader a_span a_out r_query (a_spare 0) r_printer r_rows r_judge res.2.1 res.2.2.1 res.2.2.2.1 res.2.2.2.2 out) 1 (va_A (w_lr g a_t a_spare a_reader a_span a_out r_query (a_spare 0) r_printer r_rows r_judge t spare reader span out) sz)) 1 6 (va_A (w_lr g a_t a_spare a_reader a_span a_out r_query (a_spare 0) r_printer r_rows r_judge t spare reader span out) sz) := by
  refine ct_h (Qc := fun A => EI g (w_lr g a_t a_spare a_reader a_span a_out r_query (a_spare 0) r_printer r_rows r_judge res.2.1 res.2.2.1 res.2.2.2.1 res.2.2.2.2 out) 1 A) (by decide) (Nat.le_of_ble_eq_true rfl) (fun p e s m args below meth c A hC hXS hex H locs ls hP hD hS hl => ?_)
  obtain ⟨hx, hb, hr, hml, hown, htb, hlocks, hA, hAA, hG⟩ := id hC
  have hK := hG.1
  refine lv_aload_n hx hb d_LW_read_0 rfl (lv_at hl 1 rfl) ?_
  refine lv_iconst (v := 0) hx hb d_LW_read_1 (by decide) ?_
  refine lv_aload_n hx hb d_LW_read_2 rfl (lv_at hl 0 rfl) ?_
  intro T hT X
  obtain ⟨a, st₀, u, T', L, e0, eal, X2, hL, e1, ⟨⟨a', cell, ea, hnew, hcell, hcvm, hcf, hP1, hD1⟩, hz, hk⟩, hst⟩ := xc_run (own := R_LW) ⟨hx, hb, hml, hown, htb⟩ (x_MQ_read l hno g F a_t a_spare a_reader a_span r_query r_printer r_rows r_judge t spare reader span res h h1 H.size) (cw_Vx htb mb_MQ_read (htb _ L_LW_7) rfl rfl ⟨Nat.le_of_ble_eq_true rfl, Nat.le_of_ble_eq_true rfl⟩) (pre_Vx (As := []) (va_recv hK hP (ci := 7) (q0 := 0) rfl rfl) (pre_Sx [0, 1, 2, 3, 4, 5, 6, 7, 8, 9, 10, 11, 12, 13, 14, 15, 16, 17, 18] rfl rfl hP hD hS hA hAA hG hXS)) (g := F0 m 3 ls [.ref (a_t 0), .int 0, .ref a_out]) rfl rfl hl.1 (rest := [.int 0, .ref a_out]) rfl (lv_room (Nat.le_of_ble_eq_true rfl)) d_LW_read_3 ⟨Nat.le_of_ble_eq_true rfl, Nat.le_of_ble_eq_true rfl⟩ hT X
  cases ea
  rw [e0] at hz hk
  obtain ⟨x, hone, hx1, hx2, hx3, hx4⟩ : ∃ x : ExceptionTableEntry, c.exceptionTable.toList = [x] ∧ x.startPc = 0 ∧ x.endPc = 8 ∧ x.handlerPc = 11 ∧ x.catchType = 13 := by
    cases hc : c.exceptionTable.toList with
    | nil => rw [hc] at hex; cases hex
    | cons x r =>
      cases r with
      | nil => rw [hc] at hex; simp only [List.map_cons, List.map_nil, List.cons.injEq, Prod.mk.injEq, and_true] at hex; exact ⟨x, rfl, hex.1, hex.2.1, hex.2.2.1, hex.2.2.2⟩
      | cons x2 r => rw [hc] at hex; simp at hex
  have hpl : e.platform.magicAccessors = ({} : Platform).magicAccessors := by rw [X2.admits.platform]
  obtain ⟨cT, hcT, hcl⟩ := Cond.classLink_spec hown (htb _ L_LW_13) e.platform hpl
  have hcl0 := X2.warmed.classLinks hcl
  obtain ⟨dk, _, _, kt, hd, _, _, _, _, hkt, _, hopen⟩ := hcl.here
  have hW' : s.WarmedH (T'.vm.noted m.cls 13 (.cls cT)) := X2.warmed.noted hd hopen (State.rightAt_cls hcl)
  have hal := X2.warmed.alike
  have hfs : s.vm.findClass IAE = some cell.cls := by
    have h2 := eal.findClass IAE
    rw [h2]
    exact hcf
  have hcc : cell.cls = cT := Option.some.inj (hfs.symm.trans hcT)
  obtain ⟨c3, c4, hc3, hc4, hasg⟩ := Cond.castable_spec (show (Cond.castable IAE IAE).holds #[] s none s [] = true from hXS.1 _ (by decide +kernel))
  cases Option.some.inj (hc3.symm.trans hcT)
  cases Option.some.inj (hc4.symm.trans hcT)
  obtain ⟨kt', hkt', -⟩ := hal.2.2 _ _ hkt
  have hfit : T'.vm.assignable cell.cls cT = true := by rw [hal.assignable, hcc]; exact hasg
  have X3 := X2.noted hW'
  have hfind := xh_find (e := e) (s := (T'.setTop (F0 m 3 ls [.int 0, .ref a_out])).pushFrame (.throwing a)) (f := F0 m 3 ls [.int 0, .ref a_out]) (a := a) (meth := meth) (code := c) X2.method' X2.code hone (by simp [covers, hx1, hx2]) (by rw [hx4]; decide) (c := cT) (cell := cell) (by rw [hx4]; exact hcl0) (by show T'.heap[a]? = _; rw [e1]; exact hcell) (fun k hk => by rw [hcvm] at hk; cases hk) ⟨kt', by rw [hcc]; exact hkt'⟩ ⟨kt', hkt'⟩ hfit
  rw [hx3, hx4] at hfind
  have hgo : ∀ target, Steps p.tables e below ((T'.setVm (T'.vm.noted m.cls 13 (.cls cT))).setTop (F0 m 11 ls [.ref a])) target → Steps p.tables e below (T.setTop (F0 m 3 ls [.ref (a_t 0), .int 0, .ref a_out])) target := fun target hr => hst.trans (xh_caught (f := F0 m 3 ls [.int 0, .ref a_out]) X2.here hfind hr)
  have hF := in_A2 hD hS hA hAA [0, 1, 2, 3, 4, 5, 6, 7, 8, 9, 10, 11, 12, 13, 14, 15, 16, 17, 18] (wc := w_read g a_t a_spare a_reader a_span r_query (a_spare 0) r_printer r_rows r_judge t spare reader span) rfl
  obtain ⟨hP2, hD2⟩ := va_join (wr := [(a_out, .inl (g.2.2.1 3, 1, .inr (.inl out)))]) hP hD [0, 1, 2, 3, 4, 5, 6, 7, 8, 9, 10, 11, 12, 13, 14, 15, 16, 17, 18] [19] rfl rfl rfl (by decide) hk hF hP1 hD1
  have hS2 : va_S A s.heap u.heap (locs ++ L) := ⟨Nat.le_trans hS.1 hz, fun q h1 h2 => by rw [hk q (Nat.lt_of_lt_of_le h1 hS.1) (fun z => h2 (hF q z))]; exact hS.2.1 q h1 h2, fun q hq => by
    rcases List.mem_append.mp hq with h | h
    · exact hS.2.2 q h
    · exact hF _ (hL q h)⟩
  have K : W p l e rm_LW_read s m args below meth c u.heap (locs ++ L) (0 + 1) (0 + 6) (MQ below (EI g (w_lr g a_t a_spare a_reader a_span a_out r_query (a_spare 0) r_printer r_rows r_judge res.2.1 res.2.2.1 res.2.2.2.1 res.2.2.2.2 out) 1 A) args s 1 6 A) (F0 m 11 ls [.ref a]) := by
    refine lv_astore_n (lv' := [(2, .ref a), (0, .ref (a_t 0)), (1, .ref a_out)]) hx hb d_LW_read_11 rfl hl (by decide) rfl (fun ls hl => ?_)
    refine lv_iconst (v := 1) hx hb d_LW_read_12 (by decide) ?_
    have hP3 : va_P (gD g) vwCl (w_lr g a_t a_spare a_reader a_span a_out r_query (a_spare 0) r_printer r_rows r_judge res.2.1 res.2.2.1 res.2.2.2.1 res.2.2.2.2 out) u.heap := hP2.sub [1, 2, 3, 4, 5, 6, 7, 8, 9, 10, 11, 12, 13, 14, 15, 16, 17, 18, 19, 0] rfl
    have hD3 : va_D A (w_lr g a_t a_spare a_reader a_span a_out r_query (a_spare 0) r_printer r_rows r_judge res.2.1 res.2.2.1 res.2.2.2.1 res.2.2.2.2 out) := hD2.sub [1, 2, 3, 4, 5, 6, 7, 8, 9, 10, 11, 12, 13, 14, 15, 16, 17, 18, 19, 0] rfl rfl
    exact W.iret hx hb hr (fun t ht hW => ⟨⟨_, (), rfl, rfl, by rw [ht]; exact hP3, hD3⟩, hS2.F ht⟩) hS2.2.2 d_LW_read_13
  obtain ⟨v, b1, b2⟩ := K (T'.setVm (T'.vm.noted m.cls 13 (.cls cT))) e1 X3
  exact ⟨v, hgo v b1, b2⟩

