/-! a text with a fault: read throws -/
theorem at_plain {D : va_G} {cl : List vw_C} {q : Nat × va_E} {H : Heap} {cell : Cell} (h : va_at D cl q H) (hc : H[q.1]? = some cell) : cell.vm.isStatics = false := by
  obtain ⟨a, z⟩ := q
  cases z with
  | inl z =>
    have h2 : H[a]? = some (vp_cell z.1 z.2) := h
    cases Option.some.inj (hc.symm.trans h2)
    obtain ⟨c0, n0, f0⟩ := z
    rcases f0 with f | f | f | f | f <;> rfl
  | inr o =>
    obtain ⟨r, h1, cell', g1, g2, g3, -⟩ := h
    cases Option.some.inj (hc.symm.trans g1)
    rw [g3]; rfl
theorem A_plain {D : va_G} {cl : List vw_C} {ws : va_W} {H : Heap} {q : Nat} {cell : Cell} (hP : va_P D cl ws H) (h : va_A ws H.size q) (hc : H[q]? = some cell) : cell.vm.isStatics = false := by
  rcases h with ⟨k, z, h⟩ | h
  · exact at_plain (hP k (q, z) h) hc
  · exact absurd (Array.getElem?_eq_some_iff.mp hc).1 (Nat.not_lt.mpr h)
/-- words of the tables that a call doesn't change, of the other sort -/
theorem face_at {args a' : Array Value} {s U : State} (hW : s.WarmedH U.vm) {c : Cond} (ho : c.onTables = true) (hk : c.keepsFace = true) (h : c.before args s = true) : c.before a' U = true := by
  have h1 := Cond.before_shiftedFace (State.Shifted.of_warmed hW) c hk h
  rw [Cond.onTables_vm (A' := a') (U' := U) U.vm c ho] at h1
  rwa [State.setVm_self] at h1
/-- a static field as the tables lay it, its cell outside A -/
def XL (C n d : String) (A : Nat → Prop) (U : State) (H : Heap) : Prop := ∃ (cf : ClassId) (kf : Class) (fi : Nat) (f : Field) (a : Nat) (cell : Cell), U.vm.findClass C = some cf ∧ U.fieldFound? C n d = some (cf, kf, fi, f) ∧ f.isStatic = true ∧ kf.statics = some a ∧ H[a]? = some cell ∧ cell.vm.isStatics = true ∧ cell.cls = cf ∧ f.slot < cell.slots.size ∧ kf.staticTypes[f.slot]? = some f.type ∧ ¬ A a
theorem XL.moved {C n d : String} {A : Nat → Prop} {u U : State} {H : Heap} (hvm : u.vm.Alike U.vm) (h : XL C n d A u H) : XL C n d A U H := by
  obtain ⟨cf, kf, fi, f, a, cell, h0, h1, h2, h3, h4, h5, h6, h7, h8, h9⟩ := h
  obtain ⟨k', hi', he⟩ := State.fieldFound?_setVm hvm h1
  exact ⟨cf, k', fi, f, a, cell, by rw [hvm.findClass]; exact h0, hi', h2, by rw [he]; exact h3, h4, h5, h6, h7, by rw [he]; exact h8, h9⟩
theorem XL.kept {C n d : String} {A : Nat → Prop} {U : State} {H H1 : Heap} (h : XL C n d A U H) (hq : ∀ a : Nat, a < H.size → ¬ A a → H1[a]? = H[a]?) : XL C n d A U H1 := by
  obtain ⟨cf, kf, fi, f, a, cell, h0, h1, h2, h3, h4, h5, h6, h7, h8, h9⟩ := h
  exact ⟨cf, kf, fi, f, a, cell, h0, h1, h2, h3, by rw [hq a (Array.getElem?_eq_some_iff.mp h4).1 h9]; exact h4, h5, h6, h7, h8, h9⟩
theorem XL.narrow {C n d : String} {A B : Nat → Prop} {U : State} {H : Heap} (h : XL C n d A U H) (hAB : ∀ q, B q → A q) : XL C n d B U H := by
  obtain ⟨cf, kf, fi, f, a, cell, h0, h1, h2, h3, h4, h5, h6, h7, h8, h9⟩ := h
  exact ⟨cf, kf, fi, f, a, cell, h0, h1, h2, h3, h4, h5, h6, h7, h8, fun z => h9 (hAB a z)⟩
theorem XL.of {args : Array Value} {s : State} {C n d : String} {A : Nat → Prop} (hl : (Cond.laysStatic C n d).before args s = true) (hA : ∀ a : Nat, a < s.heap.size → ¬ A a) : XL C n d A s s.heap := by
  obtain ⟨c, k, i, f, a, cell, hc, hi, hst, ha, hcell, hs, hcls, hlt, hty⟩ := Cond.laysStatic_spec hl
  exact ⟨c, k, i, f, a, cell, hc, hi, hst, ha, hcell, hs, hcls, hlt, hty, hA a (Array.getElem?_eq_some_iff.mp hcell).1⟩
theorem XL.word {args : Array Value} {s : State} {C n d : String} {A : Nat → Prop} (h : XL C n d A s s.heap) : (Cond.laysStatic C n d).before args s = true := by
  obtain ⟨cf, kf, fi, f, a, cell, h0, h1, h2, h3, h4, h5, h6, h7, h8, h9⟩ := h
  simp [Cond.before, Cond.holds, Cond.value, h0, h1, h2, h3, h4, h5, h6, h7, h8]
def IAE : String := "java/lang/IllegalArgumentException"
def iaeNames : List String := ["java/lang/RuntimeException", "java/lang/Exception"]
def iaeW : List Cond := (Bundle.ownAtoms R_MQ 77 IAE iaeNames).filter (fun w => !goodWord w && w.onTables)
theorem iaeW_face : ∀ w ∈ iaeW, w.onTables = true ∧ w.keepsFace = true := by decide +kernel
/-- what an exception's constructor needs beside the tables' good words -/
def XS (A : Nat → Prop) (U : State) (H : Heap) : Prop := (∀ w ∈ iaeW, w.before #[] U = true) ∧ XL Bundle.tN "UNASSIGNED_STACK" Bundle.steD A U H ∧ XL Bundle.tN "SUPPRESSED_SENTINEL" Bundle.listD A U H ∧ va_Zq Bundle.tN "UNASSIGNED_STACK" Bundle.steD A U H ∧ va_Zq Bundle.tN "SUPPRESSED_SENTINEL" Bundle.listD A U H
theorem XS.go {A B : Nat → Prop} {s U : State} {H : Heap} (h : XS A s s.heap) (hq : ∀ a : Nat, a < s.heap.size → ¬ A a → H[a]? = s.heap[a]?) (hAB : ∀ q, B q → A q) (hW : s.WarmedH U.vm) : XS B U H :=
  ⟨fun w hw => face_at hW (iaeW_face w hw).1 (iaeW_face w hw).2 (h.1 w hw), XL.moved hW.alike ((h.2.1.kept hq).narrow hAB), XL.moved hW.alike ((h.2.2.1.kept hq).narrow hAB), va_Zq.moved hW.alike ((h.2.2.2.1.kept hq).narrow hAB), va_Zq.moved hW.alike ((h.2.2.2.2.kept hq).narrow hAB)⟩
theorem XS.blind {A : Nat → Prop} {U : State} {H : Heap} {fr : JFrame} {mk : MethodId} {a : Array Value} (h : XS A U H) : XS A (U.calling fr mk a) H :=
  ⟨fun w hw => by
    have h1 := Cond.onTables_vm (A := #[]) (A' := #[]) (U := U) (U' := U.calling fr mk a) U.vm w (iaeW_face w hw).1
    rw [State.setVm_self] at h1
    have h2 : (U.calling fr mk a).setVm U.vm = U.calling fr mk a := rfl
    rw [h2] at h1
    rw [← h1]
    exact h.1 w hw, XL.moved (u := U) (U := U.calling fr mk a) (Vm.Alike.refl U.vm) h.2.1, XL.moved (u := U) (U := U.calling fr mk a) (Vm.Alike.refl U.vm) h.2.2.1, va_Zq.moved (u := U) (U := U.calling fr mk a) (Vm.Alike.refl U.vm) h.2.2.2.1, va_Zq.moved (u := U) (U := U.calling fr mk a) (Vm.Alike.refl U.vm) h.2.2.2.2⟩
theorem zref {args : Array Value} {s : State} {C n d : String} {v : Value} {A : Nat → Prop} (hv : v.isRef = true) (h : va_Z C n d v A s s.heap) : (Cond.isRef (.static C n d)).before args s = true := by
  obtain ⟨cf, kf, fi, f, a, cell, h1, h2, h3, h4, h5, h6, h7, -⟩ := h
  have he : (Term.static C n d).eval args s none [] s = some v := by
    simp [Term.eval, State.fieldNamed?, h1, h2, h4, h5, h6, h7]
  cases v <;> simp_all [Cond.before, Cond.holds, Cond.value, Value.isRef]
theorem zqref {args : Array Value} {s : State} {C n d : String} {A : Nat → Prop} (h : va_Zq C n d A s s.heap) : (Cond.isRef (.static C n d)).before args s = true := by
  rcases h with h | ⟨t, h⟩
  · exact zref rfl h
  · exact zref rfl h
/-- the words of the exception's constructor that stand in the tables -/
def iaeT : List Cond := (Bundle.ownAtoms R_MQ 77 IAE iaeNames).filter goodWord
theorem iae_in : ∀ w ∈ iaeT, w ∈ TBL := by
  have h : iaeT.all (fun w => lw_tbl.contains w) = true := by decide +kernel
  intro w hw
  have h1 := List.all_eq_true.mp h w hw
  exact TBL_in (List.contains_iff_mem.mp h1) (List.mem_filter.mp hw).2
theorem iae_rest : ∀ w ∈ Bundle.ownAtoms R_MQ 77 IAE iaeNames, goodWord w = true ∨ (!goodWord w && w.onTables) = true ∨ w = .laysStatic Bundle.tN "UNASSIGNED_STACK" Bundle.steD ∨ w = .laysStatic Bundle.tN "SUPPRESSED_SENTINEL" Bundle.listD ∨ w = .isRef (.static Bundle.tN "UNASSIGNED_STACK" Bundle.steD) ∨ w = .isRef (.static Bundle.tN "SUPPRESSED_SENTINEL" Bundle.listD) := by decide +kernel
theorem iae_all {args : Array Value} {s : State} {A : Nat → Prop} (htb : ∀ w ∈ TBL, w.before args s = true) (hX : XS A s s.heap) : ∀ w ∈ Bundle.ownAtoms R_MQ 77 IAE iaeNames, w.before args s = true := by
  intro w hw
  rcases iae_rest w hw with h | h | rfl | rfl | rfl | rfl
  · exact htb _ (iae_in w (List.mem_filter.mpr ⟨hw, h⟩))
  · have hm : w ∈ iaeW := List.mem_filter.mpr ⟨hw, h⟩
    have h1 := Cond.onTables_vm (A := #[]) (A' := args) (U := s) (U' := s) s.vm w (iaeW_face w hm).1
    rw [State.setVm_self] at h1
    rw [← h1]
    exact hX.1 w hm
  · exact hX.2.1.word
  · exact hX.2.2.1.word
  · exact zqref hX.2.2.2.1
  · exact zqref hX.2.2.2.2

def Pre0x (g : Gz) (w0 : va_W) (sz : Nat) (U : State) : Prop := Pre0 g w0 sz U ∧ XS (va_A w0 sz) U U.heap
def EX (g : Gz) (w1 : va_W) (A : Nat → Prop) : Array Value → State → Outcome → State → Prop := fun _ st oc t => (∃ (x : Nat) (cell : Cell), oc = .threw x ∧ st.heap.size ≤ x ∧ t.heap[x]? = some cell ∧ cell.vm = .none ∧ st.vm.findClass IAE = some cell.cls ∧ va_P (gD g) vwCl w1 t.heap ∧ va_D A w1) ∧ va_F A st t
def rm_MQ_readX : Room := { frames := 10, cells := 1, slots := 6, locals := 230 }
set_option maxHeartbeats 4000000 in
set_option maxRecDepth 100000 in
theorem x_MQ_read (l : Launch) (hno : l.stackTraces = false) (g : Gz) (F : Nat) (a_t a_spare a_reader a_span : Nat → Nat) (r_query r_printer r_rows r_judge : Nat) (t spare reader span : StI) (res : Int32 × StI × StI × StI × StI) (h : MQ_readF F t spare reader span = some res) (h1 : res.1 = 0) : ∀ sz : Nat, MetT l y_MQ_read (.code y_MQ_read prog_1_method_5_code 2 (some .int) :: TBL) rm_MQ_readX (va_Pc [.ref (a_t 0)] (Pre0x g (w_read g a_t a_spare a_reader a_span r_query (a_spare 0) r_printer r_rows r_judge t spare reader span) sz)) (EX g (w_read g a_t a_spare a_reader a_span r_query (a_spare 0) r_printer r_rows r_judge res.2.1 res.2.2.1 res.2.2.2.1 res.2.2.2.2) (va_A (w_read g a_t a_spare a_reader a_span r_query (a_spare 0) r_printer r_rows r_judge t spare reader span) sz)) 1 6 (va_A (w_read g a_t a_spare a_reader a_span r_query (a_spare 0) r_printer r_rows r_judge t spare reader span) sz) := by
  intro sz
  refine MetT.ofW (cc := prog_1_method_5_code) (maxL := 2) (ret := some .int) (by decide) rfl ?_
  intro p e s m args below meth c s₁ B hml hemp hv
  obtain ⟨rfl, ⟨hsz, hP0, hG, hD0⟩, hXS⟩ := hv
  have hts := atoms_spec (ws := Cond.code y_MQ_read prog_1_method_5_code 2 (some .int) :: TBL) B.pre
  have hown : s.vm.findClass y_MQ_read.cls = some m.cls := findClass_of_methodNamed B.named
  subst hsz
  have hD := hD0.self (sz := s.heap.size)
  have hC : Cx prog_1_method_5_code 2 (some .int) R_MQ p s m ([Value.ref (a_t 0)] : List Value).toArray meth c g (va_A (w_read g a_t a_spare a_reader a_span r_query (a_spare 0) r_printer r_rows r_judge t spare reader span) s.heap.size) (va_A (w_read g a_t a_spare a_reader a_span r_query (a_spare 0) r_printer r_rows r_judge t spare reader span) s.heap.size) := ⟨B.exec, B.bytes, B.returns, hml, hown, fun w h => hts w (List.mem_cons_of_mem _ h), B.notSynchronized, fun q h => Or.inr h, fun q h => h, hG⟩
  rw [lg_entry_eq]
  refine k_MQ_read (R := rm_MQ_readX) (Nat.le_refl _) (Nat.le_refl _) hC t spare reader span res h (fun H locs ls hP1 hD1 hS hl => ?_) s.heap [] _ hP0 hD va_S.rf (lv_entry [.ref (a_t 0)] (Nat.le_of_ble_eq_true rfl))
  obtain ⟨hx, hb, hr, -, -, htb, hlocks, hA, hAA, -⟩ := id hC
  refine lv_if_ne (tgt := 35) hx hb d_MQ_read_22 (by decide) (fun c1 => absurd h1 c1) (fun _ => ?_)
  obtain ⟨cX, kX, hfX, hkX, -⟩ := Cond.instantiable_spec (htb _ W_IAE_inst)
  refine W.newcK hx hb hown (htb _ L_MQ_73) (htb _ W_IAE_inst) (htb _ W_IAE_init) rfl d_MQ_read_25 (Nat.le_refl _) (Nat.le_refl _) hfX rfl (fun H1 kC hkC e1 z1 o1 => ?_)
  refine lv_dup hx hb d_MQ_read_28 rfl ?_
  refine ldc_s hx hb hG M_str_MQ_75 hown d_MQ_read_29 ?_
  intro T hT X
  obtain ⟨vm', ce, X2, hc1, hc2, st⟩ := xr_init X hx (by rw [X.admits.platform]; exact hno) (own := R_MQ) (ic := 77) (cls := IAE) (names := iaeNames) hown (by decide +kernel) (by decide +kernel) (iae_all htb hXS) (fun x hxl cell hc => A_plain hP0 (hS.2.2 x hxl) hc) (a := H.size) hfX hkC (by rw [hT]; exact e1) hS.1 (msg := .ref (g.2.2.2.1 22)) rfl (g := F0 m 31 ls [.ref (g.2.2.2.1 22), .ref H.size, .ref H.size]) rfl (hl.1.trans hml.symm) (rest := [.ref H.size]) rfl (by rw [hb]; exact d_MQ_read_31) (Nat.le_of_ble_eq_true rfl) (Nat.le_of_ble_eq_true rfl)
  obtain ⟨w1, w2, w3, w4, w5⟩ := X2.athrowLeaves hx (g := F0 m 34 ls [.ref H.size]) rfl rfl rfl (by rw [hemp]; intro x hx; cases hx) rfl (by rw [hb]; exact d_MQ_read_34)
  have hlt : H.size < T.heap.size := by rw [hT, z1]; omega
  have hh : ∀ q : Nat, q ≠ H.size → (((T.setVm vm').setCell H.size ce).setFrames (.throwing H.size :: below)).heap[q]? = H1[q]? := fun q hq => by
    have h2 : ((T.setVm vm').setCell H.size ce).heap[q]? = (T.setVm vm').heap[q]? := heapAt_setCell_ne _ (Ne.symm hq)
    rw [show (((T.setVm vm').setCell H.size ce).setFrames (.throwing H.size :: below)).heap[q]? = ((T.setVm vm').setCell H.size ce).heap[q]? from rfl, h2, show (T.setVm vm').heap = T.heap from rfl, hT]
  have hself : (((T.setVm vm').setCell H.size ce).setFrames (.throwing H.size :: below)).heap[H.size]? = some ce := heapAt_setCell_self (s := T.setVm vm') ce hlt
  have hsize : (((T.setVm vm').setCell H.size ce).setFrames (.throwing H.size :: below)).heap.size = H.size + 1 := by
    rw [show (((T.setVm vm').setCell H.size ce).setFrames (.throwing H.size :: below)).heap.size = ((T.setVm vm').setCell H.size ce).heap.size from rfl, size_setCell, show (T.setVm vm').heap = T.heap from rfl, hT, z1]
  have hPf := hP1.kept (H1 := (((T.setVm vm').setCell H.size ce).setFrames (.throwing H.size :: below)).heap) (fun k q hq => by
    have h3 := (hP1 k q hq).lt
    rw [hh q.1 (Nat.ne_of_lt h3)]
    exact o1 q.1 h3)
  refine ⟨_, st _ w1, .threw H.size, w2, w3, ⟨⟨H.size, ce, rfl, hS.1, hself, hc2, by rw [hc1]; exact hfX, hPf, hD1⟩, ?_⟩, locs, ⟨⟨_, rfl⟩, w4, w5⟩, hS.2.2⟩
  refine ⟨by rw [hsize]; exact Nat.le_succ_of_le hS.1, fun q hq hnA => ?_⟩
  have h4 : q < H.size := Nat.lt_of_lt_of_le hq hS.1
  rw [hh q (Nat.ne_of_lt h4), o1 q h4]
  exact hS.2.1 q hq hnA

/-! a call of a method that throws, in a method whose one handler catches it -/
section CATCH
variable {p : Program} {l : Launch} {e : Env} {R : Room} {s : State} {m : MethodId} {args : Array Value} {below : List Frame} {meth : Method} {c : Code} {H : Heap} {locs : List Loc} {cells slots : Nat} {Q : State → Prop}
variable {y : MethodName} {bytes cc : ByteArray} {maxL nL mc ms n index : Nat} {ret : Option FieldType} {ws : List Cond} {rm : Room} {Pc : Array Value → State → Prop} {Qc : Array Value → State → Outcome → State → Prop} {free : Addr → Prop} {Ts : List Cond} {own C : String} {b : Addr} {As rest : List Value} {g : JFrame}
set_option maxHeartbeats 2000000 in
theorem xc_run (S : CallFix p m c cc nL s args Ts own) (hM : MetT l y ws rm Pc Qc mc ms free) (cw : CallW R s args own C index y bytes maxL ret ws rm mc ms n) (hp : PreV s H C b Pc As)
    (hg : g.method = m) (hn : As.length = n) (hsize : g.locals.size = nL) (hstack : g.stack = As.reverse ++ .ref b :: rest) (hW : 2 * g.monitorRoom + (rest.map fun v => v.category).sum ≤ 8) (hdg : decode cc g.pc = .ok (.invokevirtual index, 3)) (hf : cells + mc ≤ R.cells ∧ slots + ms ≤ R.slots)
    {T : State} (hT : T.heap = H) (X : Stand p l e R s m args below meth c T locs cells slots) :
    ∃ (x : Addr) (st₀ t T' : State) (L : List Loc), st₀.heap = H ∧ st₀.vm.Alike s.vm ∧ Stand p l e R s m args below meth c T' (locs ++ L) (cells + mc) (slots + ms) ∧ (∀ q ∈ L, free q.base) ∧ T'.heap = t.heap ∧ Qc (Value.ref b :: As).toArray st₀ (.threw x) t ∧
      Steps p.tables e below (T.setTop g) ((T'.setTop { g with stack := rest }).pushFrame (.throwing x)) := by
  obtain ⟨⟨hrc, hrs, hfr, hlo, hws, hcw, hcode, hini, hy, hlen, hl⟩, hin, hse⟩ := cw
  obtain ⟨hx, hb, hml, ho, -⟩ := S
  obtain ⟨hbl, ⟨cellB, hcB, hoB, hclB⟩, hPc⟩ := hp
  obtain ⟨mk, methM, hnamed, hmethM, hstM, habM⟩ := Cond.instanceMethod_spec hin
  obtain ⟨methM', cM, hmethM', -, -, -, -, -, -, hsigM⟩ := Cond.code_spec hnamed hcode
  cases hmethM.symm.trans hmethM'
  obtain ⟨c2, r2, m2, q1, q2, q3, q4, kP, hkP, hkPi⟩ := Cond.selects_spec hse
  cases hclB.symm.trans q1
  cases (State.methodFound?_of_named hnamed hy).symm.trans q2
  cases hnamed.symm.trans q3
  have hselP : selectMethod e.platform s.vm cellB.cls mk = .method mk := by rw [Launch.admits_selectMethod X.admits]; exact q4
  have hgs : g.locals.size = c.maxLocals := hsize.trans hml.symm
  have hdc : decode c.code g.pc = .ok (.invokevirtual index, 3) := by rw [hb]; exact hdg
  obtain ⟨vm₁, X₁, hstep₁⟩ := X.invokevirtual hx ho hl hnamed hmethM hstM hkP hkPi hy (a := b) (cell := cellB) (by rw [hT]; exact hcB)
    (fun z h => by rw [h] at hoB; cases hoB) hselP hmethM habM hkP hkPi (g := g) hg (argsL := As) (rest := rest) (hn.trans (hlen _ hsigM).symm.symm) hstack hdc
  have hgs2 : ({ g with stack := rest } : JFrame).locals.size = c.maxLocals := hgs
  generalize hU : T.setVm vm₁ = U at X₁ hstep₁
  have hUh : U.heap = H := by rw [← hU]; exact hT
  have hwsU : ∀ w ∈ ws, ∀ a', w.before a' U = true := fun w hw a' => hws w hw a' U X₁.warmed
  have hnU : U.methodNamed? y = some mk := X₁.named hnamed
  have h2 : (Cond.code y bytes maxL ret).before (Value.ref b :: As).toArray U = true := hwsU _ hcw _
  obtain ⟨methY, cY, hmY, hcY, -, hlY, -, -, -, -⟩ := Cond.code_spec hnU h2
  obtain ⟨kY, hkY, -⟩ := className_of_methodNamed hnU
  have h3 : (Cond.initialized y.cls).before (Value.ref b :: As).toArray U = true := word_at X₁.warmed (Or.inl (by first | rfl | simp [Cond.onTables, Cond.keeps, Cond.steady])) hini
  have hinitY : kY.init = .initialized := Cond.initialized_spec (findClass_of_methodNamed hnU) hkY h3
  subst hg
  have h : At U ({ g with stack := rest } : JFrame).method c below := X₁.here
  have happ : (headSpec ws rm).appliesLoose y e.platform (U.calling { g with stack := rest } mk (Value.ref b :: As).toArray) = true :=
    Spec.appliesLoose_calling (g := { g with stack := rest }) h hdc hnU hkY hinitY
      (X₁.room_calling (g := { g with stack := rest }) (R' := (headSpec ws rm).room) hgs2 hmY hcY hfr (by rw [hlY]; have hlo2 : 8 + (maxL + 11) + (headSpec ws rm).room.locals ≤ R.locals := hlo; have hW2 : 2 * ({ g with stack := rest } : JFrame).monitorRoom + (({ g with stack := rest } : JFrame).stack.map fun v => v.category).sum ≤ 8 := hW; omega) (by rw [show (headSpec ws rm).room.cells = mc from hrc]; exact hf.1) (by rw [show (headSpec ws rm).room.slots = ms from hrs]; exact hf.2)) (atoms_intro fun w hw => hwsU w hw _)
  obtain ⟨mid, hmid⟩ := h.above
  have hfr2 : (U.setTop { g with stack := rest }).frames = (.java { g with stack := rest } :: mid) ++ below := by rw [State.frames_setTop' { g with stack := rest } h.top, hmid]; rfl
  obtain ⟨o, s₂, hsteps, -, hend, hq⟩ := Steps.callFree hM p X₁.admits X₁.cas X₁.clock (acts := []) hfr2 happ (hbl _ _ _ _ (hPc U hUh X₁.warmed)) trivial
  rw [State.frames_setTop' { g with stack := rest } h.top] at hend
  have hq' : Qc (Value.ref b :: As).toArray (U.calling { g with stack := rest } mk (Value.ref b :: As).toArray) o s₂ ∧ ∃ L, XEnd (U.calling { g with stack := rest } mk (Value.ref b :: As).toArray) o s₂ L mc ms ∧ ∀ q ∈ L, free q.base := hq
  obtain ⟨hqc, L, ⟨⟨v, rfl⟩, hW₂, e2, q2, q3, q4, q5, q6⟩, hL⟩ := hq'
  have e3 : s₂ = ({ (U.calling { g with stack := rest } mk (Value.ref b :: As).toArray).setFrames s₂.frames with heap := s₂.heap, slotsUsed := s₂.slotsUsed } : State).setVm s₂.vm := by
    have : s₂ = ({ s₂ with vm := (U.calling { g with stack := rest } mk (Value.ref b :: As).toArray).vm } : State).setVm s₂.vm := rfl
    rw [e2] at this
    exact this
  have hf₂ : s₂.frames = .throwing v :: .java { g with stack := rest } :: U.frames.tail := hend
  have hW' : U.WarmedH s₂.vm := hW₂
  obtain ⟨g₀, hg0⟩ := Option.isSome_iff_exists.mp h.top
  obtain ⟨r, hr⟩ := State.topJava?_eq_some.mp hg0
  have hs₂ : s₂ = ((({ U with heap := s₂.heap, slotsUsed := s₂.slotsUsed } : State).setVm s₂.vm).setTop { g with stack := rest }).pushFrame (.throwing v) := by
    have hr' : (({ U with heap := s₂.heap, slotsUsed := s₂.slotsUsed } : State).setVm s₂.vm).frames = .java g₀ :: r := hr
    refine e3.trans ?_
    rw [hf₂, State.calling_eq h.top, State.setFrames_setFrames, State.pushFrame, State.frames_setTop _ hr', State.setTop_of_frames _ hr', State.setFrames_setFrames, hr]
    rfl
  have hsame : U.sameButNew ({ U with heap := s₂.heap, slotsUsed := s₂.slotsUsed } : State) L mc ms := by
    refine ⟨?_, q2, q3, q4, q5, q6⟩
    obtain ⟨t, ht, -⟩ := State.frames_cons hr
    show ({ U with heap := s₂.heap, slotsUsed := s₂.slotsUsed } : State) = { U.setFrames U.frames with heap := s₂.heap, slotsUsed := s₂.slotsUsed }
    rw [State.setFrames_self ht]
  refine ⟨v, U.calling { g with stack := rest } mk (Value.ref b :: As).toArray, s₂, (({ U with heap := s₂.heap, slotsUsed := s₂.slotsUsed } : State).setVm s₂.vm), L, hUh, X₁.warmed.alike.symm, ⟨X₁.admits, X₁.cas, X₁.clock, X₁.frames, X₁.room, X₁.hears, X₁.method, X₁.code, (X₁.here.setHeapUsed s₂.heap s₂.slotsUsed).setVm hW'.alike, X₁.tail, State.WarmedH.trans X₁.warmed hW', X₁.limits, X₁.bytes, X₁.same.trans (hsame.setVm s.vm)⟩, hL, rfl, hqc, hstep₁ _ (fun acts => ?_)⟩
  rw [doInvoke_state]
  rw [hs₂] at hsteps
  exact hsteps
end CATCH

