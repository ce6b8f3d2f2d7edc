/-! states: by field and place -/
/-- a step of a pure function: the new state gets a name -/
def letS {α β : Type} (x : α) (k : α → Option β) : Option β := k x
theorem letS_el {α β : Type} {x : α} {k : α → Option β} {r : β} (h : letS x k = some r) : ∃ y, y = x ∧ k y = some r := ⟨x, rfl, h⟩
abbrev StI : Type := Nat → Nat → Int32
abbrev StL : Type := Nat → Nat → Int64
/-- classes of objects, slots of fields, classes of arrays, addresses of literals, of their bytes, of tables -/
abbrev Gz : Type := (Nat → ClassId) × (Nat → Nat → Nat) × (Nat → ClassId) × (Nat → Nat) × (Nat → Nat) × (Nat → Nat)
abbrev gD (g : Gz) : va_G := (g.1, g.2.1)
abbrev tys0 (g : Gz) : List (ClassId × FieldType) := [(g.2.2.1 0, .int), (g.2.2.1 1, .char), (g.2.2.1 2, .boolean), (g.2.2.1 3, .long), (g.2.2.1 4, .byte)]
def NwAll (U : State) : Prop := (∀ x ∈ nwF, va_Nw (.fieldLinkNest x.1 x.2.1 x.2.2.1 x.2.2.2.1 x.2.2.2.2.1 x.2.2.2.2.2) U) ∧ ∀ x ∈ nwM, va_Nw (.methodLinkNest x.1 x.2.1 x.2.2.1 x.2.2.2) U
theorem NwAll.warm {s U : State} (hW : s.WarmedH U.vm) (h : NwAll s) : NwAll U := ⟨fun x hx => va_Nw.warmF hW (h.1 x hx), fun x hx => va_Nw.warmM hW (h.2 x hx)⟩
theorem NwAll.same {u U : State} (e : u.vm = U.vm) (h : NwAll u) : NwAll U := ⟨fun x hx => va_Nw.same rfl e (h.1 x hx), fun x hx => va_Nw.same rfl e (h.2 x hx)⟩
def StrR (g : Gz) (U : State) : Prop := ∀ x ∈ strL, vk_R x.1 x.2.1 x.2.2.1 (g.2.2.2.1 x.2.2.2) U
def TabA (g : Gz) (A : Nat → Prop) (U : State) (H : Heap) : Prop := ∀ x ∈ tabL, va_Z x.1 x.2.1 x.2.2.1 (.ref (g.2.2.2.2.2 x.2.2.2.1)) A U H ∧ va_T x.2.2.2.2.1 (g.2.2.2.2.2 x.2.2.2.1) x.2.2.2.2.2.1 x.2.2.2.2.2.2 A U H
/-- the JDK's own statics that are read -/
def StA (A : Nat → Prop) (U : State) (H : Heap) : Prop := va_Z "java/lang/String" "COMPACT_STRINGS" "Z" (.int 1) A U H ∧ va_Zq "jdk/internal/util/Preconditions" "SIOOBE_FORMATTER" "Ljava/util/function/BiFunction;" A U H
/-- what every method knows of the tables, of the literals and of the static arrays -/
def Gx (g : Gz) (A : Nat → Prop) (U : State) (H : Heap) : Prop := va_K (gD g) vwCl (tys0 g) U ∧ NwAll U ∧ StrR g U ∧ vk_S nStr lenStr bytStr g.2.2.2.1 g.2.2.2.2.1 A U H ∧ TabA g A U H ∧ StA A U H
theorem Gx.go {g : Gz} {A B : Nat → Prop} {s U : State} {H : Heap} (h : Gx g A s s.heap) (hq : ∀ a : Nat, a < s.heap.size → ¬ A a → H[a]? = s.heap[a]?) (hAB : ∀ q, B q → A q) (hW : s.WarmedH U.vm) : Gx g B U H :=
  ⟨va_K.moved hW.alike h.1, h.2.1.warm hW, fun x hx => (h.2.2.1 x hx).warm hW, vk_S.moved hW.alike ((h.2.2.2.1.kept hq).narrow hAB), fun x hx => ⟨va_Z.moved hW.alike (((h.2.2.2.2.1 x hx).1.kept hq).narrow hAB), va_T.moved hW.alike (((h.2.2.2.2.1 x hx).2.kept hq).narrow hAB)⟩, va_Z.moved hW.alike ((h.2.2.2.2.2.1.kept hq).narrow hAB), va_Zq.moved hW.alike ((h.2.2.2.2.2.2.kept hq).narrow hAB)⟩
theorem Gx.narrow {g : Gz} {A B : Nat → Prop} {U : State} {H : Heap} (h : Gx g A U H) (hAB : ∀ q, B q → A q) : Gx g B U H :=
  ⟨h.1, h.2.1, h.2.2.1, h.2.2.2.1.narrow hAB, fun x hx => ⟨(h.2.2.2.2.1 x hx).1.narrow hAB, (h.2.2.2.2.1 x hx).2.narrow hAB⟩, h.2.2.2.2.2.1.narrow hAB, h.2.2.2.2.2.2.narrow hAB⟩
theorem Gx.blind {g : Gz} {A : Nat → Prop} {U : State} {H : Heap} {fr : JFrame} {mk : MethodId} {a : Array Value} (h : Gx g A U H) : Gx g A (U.calling fr mk a) H :=
  ⟨va_K.moved (u := U) (U := U.calling fr mk a) (Vm.Alike.refl U.vm) h.1, h.2.1.same (U := U.calling fr mk a) rfl, fun x hx => (h.2.2.1 x hx).same (U := U.calling fr mk a) rfl, vk_S.moved (u := U) (U := U.calling fr mk a) (Vm.Alike.refl U.vm) h.2.2.2.1, fun x hx => ⟨va_Z.moved (u := U) (U := U.calling fr mk a) (Vm.Alike.refl U.vm) (h.2.2.2.2.1 x hx).1, va_T.moved (u := U) (U := U.calling fr mk a) (Vm.Alike.refl U.vm) (h.2.2.2.2.1 x hx).2⟩, va_Z.moved (u := U) (U := U.calling fr mk a) (Vm.Alike.refl U.vm) h.2.2.2.2.2.1, va_Zq.moved (u := U) (U := U.calling fr mk a) (Vm.Alike.refl U.vm) h.2.2.2.2.2.2⟩
/-- a method's start: its world w0 -/
def Pre0 (g : Gz) (w0 : va_W) (sz : Nat) (U : State) : Prop := U.heap.size = sz ∧ va_P (gD g) vwCl w0 U.heap ∧ Gx g (va_A w0 sz) U U.heap ∧ va_D (fun _ => True) w0
/-- what a method's body knows of its frame -/
def Cx (cc : ByteArray) (nL : Nat) (ret : Option FieldType) (own : String) (p : Program) (s : State) (m : MethodId) (args : Array Value) (meth : Method) (c : Code) (g : Gz) (A2 A : Nat → Prop) : Prop :=
  p.tables.exec = Jvm.exec ∧ c.code = cc ∧ meth.sig.returnType = ret ∧ c.maxLocals = nL ∧ s.vm.findClass own = some m.cls ∧ (∀ w ∈ TBL, w.before args s = true) ∧ meth.locks = false ∧ (∀ q : Nat, s.heap.size ≤ q → A q) ∧ (∀ q : Nat, A q → A2 q) ∧ Gx g A2 s s.heap
/-- the body goes on well from pc, whatever heap holds the world wd and whatever locals hold lv -/
def Go (p : Program) (l : Launch) (e : Env) (R : Room) (s : State) (m : MethodId) (args : Array Value) (below : List Frame) (meth : Method) (c : Code) (g : Gz) (A2 A : Nat → Prop) (nL : Nat) (Q : State → Prop) (wd : va_W) (lv : List (Nat × Value)) (pc : Nat) (st : List Value) : Prop :=
  ∀ (H : Heap) (locs : List Loc) (ls : Array Slot), va_P (gD g) vwCl wd H → va_D A2 wd → va_S A s.heap H locs → lv_has ls nL lv → W p l e R s m args below meth c H locs 0 0 Q (F0 m pc ls st)
/-- ends of a method: an int, a long, nothing, a literal; the world is w1 then -/
def EI (g : Gz) (w1 : va_W) (r : Int32) (A : Nat → Prop) : Array Value → State → Outcome → State → Prop := va_Qi (fun (r' : Int32) (_ : Unit) => r' = r) (fun _ t => va_P (gD g) vwCl w1 t.heap ∧ va_D A w1) A
def EL (g : Gz) (w1 : va_W) (r : Int64) (A : Nat → Prop) : Array Value → State → Outcome → State → Prop := va_Ql (fun (r' : Int64) (_ : Unit) => r' = r) (fun _ t => va_P (gD g) vwCl w1 t.heap ∧ va_D A w1) A
def EV (g : Gz) (w1 : va_W) (A : Nat → Prop) : Array Value → State → Outcome → State → Prop := va_Qv (fun (_ : Unit) => True) (fun _ t => va_P (gD g) vwCl w1 t.heap ∧ va_D A w1) A
/-- .. of a method that writes nothing -/
def RI (r : Int32) (A : Nat → Prop) : Array Value → State → Outcome → State → Prop := va_Qi (fun (r' : Int32) (_ : Unit) => r' = r) (fun _ _ => True) A
def RL (r : Int64) (A : Nat → Prop) : Array Value → State → Outcome → State → Prop := va_Ql (fun (r' : Int64) (_ : Unit) => r' = r) (fun _ _ => True) A
def RV (A : Nat → Prop) : Array Value → State → Outcome → State → Prop := va_Qv (fun (_ : Unit) => True) (fun _ _ => True) A
def RS (g : Gz) (r : Nat) (A : Nat → Prop) : Array Value → State → Outcome → State → Prop := va_Qr (fun (_ : Unit) => True) (fun _ a _ => a = g.2.2.2.1 r) A
/-- a method that may write its world -/
theorem ct_w {l : Launch} {y : MethodName} {rm : Room} {cc : ByteArray} {nL : Nat} {ret : Option FieldType} {g : Gz} {avs : List Value} {w0 : va_W} {Qc : (Nat → Prop) → Array Value → State → Outcome → State → Prop} (hy : plainName y.cls = true) (hargs : (lg_sl avs).length ≤ nL)
    (body : ∀ (p : Program) (e : Env) (s : State) (m : MethodId) (args : Array Value) (below : List Frame) (meth : Method) (c : Code) (A : Nat → Prop), Cx cc nL ret y.cls p s m args meth c g A A → Go p l e rm s m args below meth c g A A nL (MQ below (Qc A) args s 0 0 A) w0 (lv_args 0 avs) 0 []) :
    ∀ sz : Nat, Met l y (.code y cc nL ret :: TBL) rm (va_Pc avs (Pre0 g w0 sz)) (Qc (va_A w0 sz)) 0 0 (va_A w0 sz) := by
  intro sz
  refine Met.ofW (cc := cc) (maxL := nL) (ret := ret) hy rfl ?_
  intro p e s m args below meth c s₁ B hml hv
  obtain ⟨rfl, hsz, hP, hG, hD0⟩ := hv
  have hts := atoms_spec (ws := Cond.code y cc nL ret :: TBL) B.pre
  have hown : s.vm.findClass y.cls = some m.cls := findClass_of_methodNamed B.named
  subst hsz
  have hD := hD0.self (sz := s.heap.size)
  rw [lg_entry_eq]
  exact body p e s m _ below meth c _ ⟨B.exec, B.bytes, B.returns, hml, hown, fun w h => hts w (List.mem_cons_of_mem _ h), B.notSynchronized, fun q h => Or.inr h, fun q h => h, hG⟩ s.heap [] _ hP hD va_S.rf (lv_entry avs hargs)
/-- a method that writes nothing -/
theorem ct_r {l : Launch} {y : MethodName} {rm : Room} {cc : ByteArray} {nL : Nat} {ret : Option FieldType} {g : Gz} {avs : List Value} {w0 : va_W} {Qc : (Nat → Prop) → Array Value → State → Outcome → State → Prop} (hy : plainName y.cls = true) (hargs : (lg_sl avs).length ≤ nL)
    (body : ∀ (p : Program) (e : Env) (s : State) (m : MethodId) (args : Array Value) (below : List Frame) (meth : Method) (c : Code) (A2 A : Nat → Prop), Cx cc nL ret y.cls p s m args meth c g A2 A → Go p l e rm s m args below meth c g A2 A nL (MQ below (Qc A) args s 0 0 A) w0 (lv_args 0 avs) 0 []) :
    ∀ sz : Nat, Met l y (.code y cc nL ret :: TBL) rm (va_Pc avs (Pre0 g w0 sz)) (Qc (fun q => sz ≤ q)) 0 0 (fun q => sz ≤ q) := by
  intro sz
  refine Met.ofW (cc := cc) (maxL := nL) (ret := ret) hy rfl ?_
  intro p e s m args below meth c s₁ B hml hv
  obtain ⟨rfl, hsz, hP, hG, hD0⟩ := hv
  have hts := atoms_spec (ws := Cond.code y cc nL ret :: TBL) B.pre
  have hown : s.vm.findClass y.cls = some m.cls := findClass_of_methodNamed B.named
  subst hsz
  have hD := hD0.self (sz := s.heap.size)
  rw [lg_entry_eq]
  exact body p e s m _ below meth c _ _ ⟨B.exec, B.bytes, B.returns, hml, hown, fun w h => hts w (List.mem_cons_of_mem _ h), B.notSynchronized, fun q h => h, fun q h => Or.inr h, hG⟩ s.heap [] _ hP hD va_S.rf (lv_entry avs hargs)
/-- .. of the JDK's -/
theorem ct_rF {l : Launch} {y : MethodName} {rm : Room} {cc : ByteArray} {nL : Nat} {ret : Option FieldType} {g : Gz} {avs : List Value} {w0 : va_W} {Qc : (Nat → Prop) → Array Value → State → Outcome → State → Prop} (hy : plainFor y = true) (hargs : (lg_sl avs).length ≤ nL)
    (body : ∀ (p : Program) (e : Env) (s : State) (m : MethodId) (args : Array Value) (below : List Frame) (meth : Method) (c : Code) (A2 A : Nat → Prop), Cx cc nL ret y.cls p s m args meth c g A2 A → Go p l e rm s m args below meth c g A2 A nL (MQ below (Qc A) args s 0 0 A) w0 (lv_args 0 avs) 0 []) :
    ∀ sz : Nat, Met l y (.code y cc nL ret :: TBL) rm (va_Pc avs (Pre0 g w0 sz)) (Qc (fun q => sz ≤ q)) 0 0 (fun q => sz ≤ q) := by
  intro sz
  refine va_MetF (cc := cc) (maxL := nL) (ret := ret) hy rfl ?_
  intro p e s m args below meth c s₁ B hml hv
  obtain ⟨rfl, hsz, hP, hG, hD0⟩ := hv
  have hts := atoms_spec (ws := Cond.code y cc nL ret :: TBL) B.pre
  have hown : s.vm.findClass y.cls = some m.cls := findClass_of_methodNamed B.named
  subst hsz
  have hD := hD0.self (sz := s.heap.size)
  rw [lg_entry_eq]
  exact body p e s m _ below meth c _ _ ⟨B.exec, B.bytes, B.returns, hml, hown, fun w h => hts w (List.mem_cons_of_mem _ h), B.notSynchronized, fun q h => h, fun q h => Or.inr h, hG⟩ s.heap [] _ hP hD va_S.rf (lv_entry avs hargs)
/-! calls: the callee's cells are those at the places isC of the world wd, the rest those at isR -/
theorem in_A2 {A2 A : Nat → Prop} {wd wc : va_W} {H0 H : Heap} {locs : List Loc} (hD : va_D A2 wd) (hS : va_S A H0 H locs) (hA : ∀ q : Nat, H0.size ≤ q → A q) (hAA : ∀ q : Nat, A q → A2 q) (isC : List Nat) (hC : isC.map (fun i => wd[i]?) = wc.map some) : ∀ q, va_A wc H.size q → A2 q := by
  intro q h
  rcases h with ⟨k, e, h⟩ | h
  · have h1 : (isC.map (fun i => wd[i]?))[k]? = some (some (q, e)) := by rw [hC, List.getElem?_map, h]; rfl
    rw [List.getElem?_map] at h1
    cases hi : isC[k]? with
    | none => rw [hi] at h1; cases h1
    | some i => rw [hi] at h1; exact hD.2 i (q, e) (Option.some.inj h1)
  · exact hAA q (hA q (Nat.le_trans hS.1 h))
theorem at_sub {wd wc : va_W} {isC : List Nat} (hC : isC.map (fun i => wd[i]?) = wc.map some) : isC.filterMap (fun i => wd[i]?) = wc := by
  have h : isC.filterMap (fun i => wd[i]?) = (isC.map (fun i => wd[i]?)).filterMap id := by rw [List.filterMap_map]; rfl
  rw [h, hC, List.filterMap_map]
  exact List.filterMap_some
theorem Pre0.blind {g : Gz} {w0 : va_W} {sz : Nat} {avs : List Value} : FrameBlind (va_Pc avs (Pre0 g w0 sz)) := fun a U fr mk h => ⟨h.1, h.2.1, h.2.2.1, h.2.2.2.1.blind, h.2.2.2.2⟩
section CALLS
variable {p : Program} {l : Launch} {e : Env} {R : Room} {s : State} {m : MethodId} {args : Array Value} {below : List Frame} {meth : Method} {c : Code} {H : Heap} {locs : List Loc} {Q : State → Prop}
variable {pc : Nat} {ls : Array Slot} {rest st0 : List Value} {a : Array Value} {A2 A : Nat → Prop} {g : Gz} {wd wc wr w1 : va_W}
theorem pre_S {As : List Value} (isC : List Nat) (hC : isC.map (fun i => wd[i]?) = wc.map some) (hn : va_nd isC = true) (hP : va_P (gD g) vwCl wd H) (hD : va_D A2 wd) (hS : va_S A s.heap H locs) (hA : ∀ q : Nat, s.heap.size ≤ q → A q) (hAA : ∀ q : Nat, A q → A2 q) (hG : Gx g A2 s s.heap) : PreS s H (va_Pc As (Pre0 g wc H.size)) As :=
  ⟨Pre0.blind, fun U hU hW => ⟨rfl, by rw [hU], by rw [hU]; exact hP.sub isC (at_sub hC), by rw [hU]; exact hG.go (fun q h1 h2 => hS.2.1 q h1 (fun z => h2 (hAA q z))) (in_A2 hD hS hA hAA isC hC) hW, (hD.sub isC hn hC).weaken (fun _ _ _ _ => trivial)⟩⟩
theorem pre_V {As : List Value} {b : Nat} {C : String} (hr : ∃ cellB : Cell, H[b]? = some cellB ∧ cellB.vm.isStatics = false ∧ s.vm.findClass C = some cellB.cls) (h : PreS s H (va_Pc (.ref b :: As) (Pre0 g wc H.size)) (.ref b :: As)) : PreV s H C b (va_Pc (.ref b :: As) (Pre0 g wc H.size)) As := ⟨h.1, hr, h.2⟩
theorem cl_I {r : Int32} (isC isR : List Nat) (hC : isC.map (fun i => wd[i]?) = wc.map some) (hR : isR.map (fun i => wd[i]?) = wr.map some) (hn : va_nd isR = true) (hdis : ∀ i ∈ isR, i ∉ isC) (hP : va_P (gD g) vwCl wd H) (hD : va_D A wd) (hS : va_S A s.heap H locs) (hA : ∀ q : Nat, s.heap.size ≤ q → A q)
    (hrun : va_Run p l e R s m args below meth c H locs 0 0 0 0 (F0 m pc ls st0) rest (EI g w1 r (va_A wc H.size) a) (va_A wc H.size))
    (kk : ∀ (H1 : Heap) (locs1 : List Loc), va_P (gD g) vwCl (wr ++ w1) H1 → va_D A (wr ++ w1) → va_S A s.heap H1 locs1 → W p l e R s m args below meth c H1 locs1 0 0 Q (F0 m (pc + 3) ls (.int r :: rest))) : W p l e R s m args below meth c H locs 0 0 Q (F0 m pc ls st0) := by
  have hF := in_A2 hD hS hA (fun _ h => h) isC hC
  refine va_calli hrun hS (fun q _ h => hF q h) hF (fun r' u t H1 locs1 ht hvm hw hB hz1 hk1 hS1 => ?_)
  subst hw
  obtain ⟨hP1, hD1⟩ := hB
  rw [ht] at hP1
  obtain ⟨hP2, hD2⟩ := va_join hP hD isC isR hC hR hn hdis hk1 hF hP1 hD1
  exact kk H1 locs1 hP2 hD2 hS1
theorem cl_L {r : Int64} (isC isR : List Nat) (hC : isC.map (fun i => wd[i]?) = wc.map some) (hR : isR.map (fun i => wd[i]?) = wr.map some) (hn : va_nd isR = true) (hdis : ∀ i ∈ isR, i ∉ isC) (hP : va_P (gD g) vwCl wd H) (hD : va_D A wd) (hS : va_S A s.heap H locs) (hA : ∀ q : Nat, s.heap.size ≤ q → A q)
    (hrun : va_Run p l e R s m args below meth c H locs 0 0 0 0 (F0 m pc ls st0) rest (EL g w1 r (va_A wc H.size) a) (va_A wc H.size))
    (kk : ∀ (H1 : Heap) (locs1 : List Loc), va_P (gD g) vwCl (wr ++ w1) H1 → va_D A (wr ++ w1) → va_S A s.heap H1 locs1 → W p l e R s m args below meth c H1 locs1 0 0 Q (F0 m (pc + 3) ls (.long r :: rest))) : W p l e R s m args below meth c H locs 0 0 Q (F0 m pc ls st0) := by
  have hF := in_A2 hD hS hA (fun _ h => h) isC hC
  refine va_calll hrun hS (fun q _ h => hF q h) hF (fun r' u t H1 locs1 ht hvm hw hB hz1 hk1 hS1 => ?_)
  subst hw
  obtain ⟨hP1, hD1⟩ := hB
  rw [ht] at hP1
  obtain ⟨hP2, hD2⟩ := va_join hP hD isC isR hC hR hn hdis hk1 hF hP1 hD1
  exact kk H1 locs1 hP2 hD2 hS1
theorem cl_V (isC isR : List Nat) (hC : isC.map (fun i => wd[i]?) = wc.map some) (hR : isR.map (fun i => wd[i]?) = wr.map some) (hn : va_nd isR = true) (hdis : ∀ i ∈ isR, i ∉ isC) (hP : va_P (gD g) vwCl wd H) (hD : va_D A wd) (hS : va_S A s.heap H locs) (hA : ∀ q : Nat, s.heap.size ≤ q → A q)
    (hrun : va_Run p l e R s m args below meth c H locs 0 0 0 0 (F0 m pc ls st0) rest (EV g w1 (va_A wc H.size) a) (va_A wc H.size))
    (kk : ∀ (H1 : Heap) (locs1 : List Loc), va_P (gD g) vwCl (wr ++ w1) H1 → va_D A (wr ++ w1) → va_S A s.heap H1 locs1 → W p l e R s m args below meth c H1 locs1 0 0 Q (F0 m (pc + 3) ls rest)) : W p l e R s m args below meth c H locs 0 0 Q (F0 m pc ls st0) := by
  have hF := in_A2 hD hS hA (fun _ h => h) isC hC
  refine va_callv hrun hS (fun q _ h => hF q h) hF (fun u t H1 locs1 ht hvm hw hB hz1 hk1 hS1 => ?_)
  obtain ⟨hP1, hD1⟩ := hB
  rw [ht] at hP1
  obtain ⟨hP2, hD2⟩ := va_join hP hD isC isR hC hR hn hdis hk1 hF hP1 hD1
  exact kk H1 locs1 hP2 hD2 hS1
theorem keep_r {H1 : Heap} {D : va_G} {cl : List vw_C} (hP : va_P D cl wd H) (hk : ∀ q : Nat, q < H.size → ¬ H.size ≤ q → H1[q]? = H[q]?) : va_P D cl wd H1 := hP.kept (fun k q h => hk q.1 (hP k q h).lt (Nat.not_le.mpr (hP k q h).lt))
theorem cl_Ir {r : Int32} (hP : va_P (gD g) vwCl wd H) (hS : va_S A s.heap H locs) (hA : ∀ q : Nat, s.heap.size ≤ q → A q)
    (hrun : va_Run p l e R s m args below meth c H locs 0 0 0 0 (F0 m pc ls st0) rest (RI r (fun q => H.size ≤ q) a) (fun q => H.size ≤ q))
    (kk : ∀ (H1 : Heap) (locs1 : List Loc), va_P (gD g) vwCl wd H1 → va_S A s.heap H1 locs1 → W p l e R s m args below meth c H1 locs1 0 0 Q (F0 m (pc + 3) ls (.int r :: rest))) : W p l e R s m args below meth c H locs 0 0 Q (F0 m pc ls st0) := by
  refine va_calli hrun hS (fun q _ h => hA q (Nat.le_trans hS.1 h)) (fun q h => hA q (Nat.le_trans hS.1 h)) (fun r' u t H1 locs1 ht hvm hw hB hz1 hk1 hS1 => ?_)
  subst hw
  exact kk H1 locs1 (keep_r hP hk1) hS1
theorem cl_Lr {r : Int64} (hP : va_P (gD g) vwCl wd H) (hS : va_S A s.heap H locs) (hA : ∀ q : Nat, s.heap.size ≤ q → A q)
    (hrun : va_Run p l e R s m args below meth c H locs 0 0 0 0 (F0 m pc ls st0) rest (RL r (fun q => H.size ≤ q) a) (fun q => H.size ≤ q))
    (kk : ∀ (H1 : Heap) (locs1 : List Loc), va_P (gD g) vwCl wd H1 → va_S A s.heap H1 locs1 → W p l e R s m args below meth c H1 locs1 0 0 Q (F0 m (pc + 3) ls (.long r :: rest))) : W p l e R s m args below meth c H locs 0 0 Q (F0 m pc ls st0) := by
  refine va_calll hrun hS (fun q _ h => hA q (Nat.le_trans hS.1 h)) (fun q h => hA q (Nat.le_trans hS.1 h)) (fun r' u t H1 locs1 ht hvm hw hB hz1 hk1 hS1 => ?_)
  subst hw
  exact kk H1 locs1 (keep_r hP hk1) hS1
theorem cl_Vr (hP : va_P (gD g) vwCl wd H) (hS : va_S A s.heap H locs) (hA : ∀ q : Nat, s.heap.size ≤ q → A q)
    (hrun : va_Run p l e R s m args below meth c H locs 0 0 0 0 (F0 m pc ls st0) rest (RV (fun q => H.size ≤ q) a) (fun q => H.size ≤ q))
    (kk : ∀ (H1 : Heap) (locs1 : List Loc), va_P (gD g) vwCl wd H1 → va_S A s.heap H1 locs1 → W p l e R s m args below meth c H1 locs1 0 0 Q (F0 m (pc + 3) ls rest)) : W p l e R s m args below meth c H locs 0 0 Q (F0 m pc ls st0) := by
  refine va_callv hrun hS (fun q _ h => hA q (Nat.le_trans hS.1 h)) (fun q h => hA q (Nat.le_trans hS.1 h)) (fun u t H1 locs1 ht hvm hw hB hz1 hk1 hS1 => ?_)
  exact kk H1 locs1 (keep_r hP hk1) hS1
theorem cl_Sr {r : Nat} (hP : va_P (gD g) vwCl wd H) (hS : va_S A s.heap H locs) (hA : ∀ q : Nat, s.heap.size ≤ q → A q)
    (hrun : va_Run p l e R s m args below meth c H locs 0 0 0 0 (F0 m pc ls st0) rest (RS g r (fun q => H.size ≤ q) a) (fun q => H.size ≤ q))
    (kk : ∀ (H1 : Heap) (locs1 : List Loc), va_P (gD g) vwCl wd H1 → va_S A s.heap H1 locs1 → W p l e R s m args below meth c H1 locs1 0 0 Q (F0 m (pc + 3) ls (.ref (g.2.2.2.1 r) :: rest))) : W p l e R s m args below meth c H locs 0 0 Q (F0 m pc ls st0) := by
  refine va_callr hrun hS (fun q _ h => hA q (Nat.le_trans hS.1 h)) (fun q h => hA q (Nat.le_trans hS.1 h)) (fun u ra t H1 locs1 ht hvm hw hB hz1 hk1 hS1 => ?_)
  subst hB
  exact kk H1 locs1 (keep_r hP hk1) hS1
end CALLS
/-! the words of a callee -/
def Mb (y : MethodName) (bytes : ByteArray) (maxL : Nat) (ret : Option FieldType) (n : Nat) : Prop := Cond.code y bytes maxL ret ∈ TBL ∧ Cond.instanceMethod y ∈ TBL ∧ Cond.selects y.cls y y ∈ TBL ∧ Cond.initialized y.cls ∈ TBL ∧ y.cls ≠ "java/lang/invoke/MethodHandle" ∧ y.cls ≠ "java/lang/invoke/VarHandle" ∧ (parseMethodDescriptor y.desc).map (fun d => d.parameters.length) = some n
def MbS (y : MethodName) (bytes : ByteArray) (maxL : Nat) (ret : Option FieldType) (n : Nat) : Prop := Cond.code y bytes maxL ret ∈ TBL ∧ Cond.static y ∈ TBL ∧ Cond.initialized y.cls ∈ TBL ∧ y.cls ≠ "java/lang/invoke/MethodHandle" ∧ y.cls ≠ "java/lang/invoke/VarHandle" ∧ (parseMethodDescriptor y.desc).map (fun d => d.parameters.length) = some n
section CW
variable {R : Room} {s : State} {args : Array Value} {own host : String} {index maxL n : Nat} {y : MethodName} {bytes : ByteArray} {ret : Option FieldType} {rm : Room}
theorem cw_V (htb : ∀ w ∈ TBL, w.before args s = true) (hm : Mb y bytes maxL ret n) (hl : (Cond.methodLink own index y).before args s = true) (hrc : rm.cells = 0) (hrs : rm.slots = 0) (hR : rm.frames + 1 ≤ R.frames ∧ 8 + (maxL + 11) + rm.locals ≤ R.locals) : CallW R s args own y.cls index y bytes maxL ret (.code y bytes maxL ret :: TBL) rm 0 0 n := by
  obtain ⟨h1, h2, h3, h4, h5, h6, h7⟩ := hm
  exact ⟨callB_of n htb (TBL_gi0 h1) rfl hrc hrs (htb _ h4) hl ⟨h5, h6, h7⟩ hR, htb _ h2, htb _ h3⟩
theorem cw_S (htb : ∀ w ∈ TBL, w.before args s = true) (hm : MbS y bytes maxL ret n) (hl : (Cond.methodLink own index y).before args s = true) (hrc : rm.cells = 0) (hrs : rm.slots = 0) (hR : rm.frames + 1 ≤ R.frames ∧ 8 + (maxL + 11) + rm.locals ≤ R.locals) : CallB R s args own index y bytes maxL ret (.code y bytes maxL ret :: TBL) rm 0 0 n ∧ (Cond.static y).before args s = true := by
  obtain ⟨h1, h2, h4, h5, h6, h7⟩ := hm
  exact ⟨callB_of n htb (TBL_gi0 h1) rfl hrc hrs (htb _ h4) hl ⟨h5, h6, h7⟩ hR, htb _ h2⟩
theorem cn_S (htb : ∀ w ∈ TBL, w.before args s = true) (hm : MbS y bytes maxL ret n) (hl : va_Nw (.methodLinkNest own index y host) s) (hrc : rm.cells = 0) (hrs : rm.slots = 0) (hR : rm.frames + 1 ≤ R.frames ∧ 8 + (maxL + 11) + rm.locals ≤ R.locals) : va_CN R s args own index y host bytes maxL ret (.code y bytes maxL ret :: TBL) rm 0 0 n ∧ (Cond.static y).before args s = true ∧ True := by
  obtain ⟨h1, h2, h4, h5, h6, h7⟩ := hm
  exact ⟨va_cnB n htb (TBL_gi0 h1) rfl hrc hrs hl (htb _ h4) ⟨h5, h6, h7⟩ hR, htb _ h2, trivial⟩
end CW
section WRAP
variable {p : Program} {l : Launch} {e : Env} {R : Room} {s : State} {m : MethodId} {args : Array Value} {below : List Frame} {meth : Method} {c : Code} {H : Heap} {locs : List Loc} {cells slots : Nat} {Q : State → Prop}
variable {cc : ByteArray} {pc : Nat} {ls : Array Slot} {rest : List Value} {A2 A : Nat → Prop} {g : Gz}
theorem ldc_s {own tx : String} {ix i : Nat} (hx : p.tables.exec = Jvm.exec) (hb : c.code = cc) (hG : Gx g A2 s s.heap) (hm : (own, ix, tx, i) ∈ strL) (hown : s.vm.findClass own = some m.cls) (hdg : decode cc pc = .ok (.ldc ix, 2))
    (k : W p l e R s m args below meth c H locs cells slots Q (F0 m (pc + 2) ls (.ref (g.2.2.2.1 i) :: rest))) : W p l e R s m args below meth c H locs cells slots Q (F0 m pc ls rest) := va_ldcS hx hb hown (hG.2.2.1 _ hm) hdg k
theorem nf_of {own ref n d host : String} {ix : Nat} (hG : Gx g A2 s s.heap) (hm : (own, ix, ref, n, d, host) ∈ nwF) : (Cond.fieldLinkNest own ix ref n d host).before args s = true := va_Nw.use rfl (hG.2.1.1 _ hm)
theorem nm_of {own host : String} {ix : Nat} {y : MethodName} (hG : Gx g A2 s s.heap) (hm : (own, ix, y, host) ∈ nwM) : va_Nw (.methodLinkNest own ix y host) s := hG.2.1.2 _ hm
theorem tz_of {C n d : String} {i N : Nat} {ty : FieldType} {f : Nat → Value} (hG : Gx g A2 s s.heap) (hAA : ∀ q : Nat, A q → A2 q) (hm : (C, n, d, i, ty, N, f) ∈ tabL) : va_Z C n d (.ref (g.2.2.2.2.2 i)) A s s.heap := (hG.2.2.2.2.1 _ hm).1.narrow hAA
theorem tt_of {C n d : String} {i N : Nat} {ty : FieldType} {f : Nat → Value} (hG : Gx g A2 s s.heap) (hAA : ∀ q : Nat, A q → A2 q) (hm : (C, n, d, i, ty, N, f) ∈ tabL) : va_T ty (g.2.2.2.2.2 i) N f A s s.heap := (hG.2.2.2.2.1 _ hm).2.narrow hAA
end WRAP
def pic_ArrC (g : Gz) (a : Nat → Nat) (N : Nat) (i : StI) : va_W := [(a 1, .inl (g.2.2.1 1, N, .inl (i 0)))]
def pic_ArrB (g : Gz) (a : Nat → Nat) (N : Nat) (i : StI) : va_W := [(a 1, .inl (g.2.2.1 4, N, .inl (i 0)))]
def pic_Pile (g : Gz) (a : Nat → Nat) (N : Nat) (i : StI) (j : StL) : va_W := [(a 0, .inr (0, [.ref (a 1), .int (i 1 0)])), (a 1, .inl (g.2.2.1 3, N, .inr (.inl (j 0))))]
def pic_Query (g : Gz) (a : Nat → Nat) (i : StI) : va_W := [(a 0, .inr (1, [.ref (a 1), .int (i 1 0), .int (i 2 0), .int (i 3 0), .ref (a 5), .ref (a 6), .ref (a 7), .ref (a 8), .ref (a 9), .ref (a 10), .ref (a 11), .ref (a 12), .ref (a 13), .int (i 13 0)])), (a 1, .inl (g.2.2.1 1, 600, .inl (i 0))), (a 5, .inl (g.2.2.1 0, 40, .inl (i 4))), (a 6, .inl (g.2.2.1 2, 40, .inl (i 5))), (a 7, .inl (g.2.2.1 0, 40, .inl (i 6))), (a 8, .inl (g.2.2.1 0, 40, .inl (i 7))), (a 9, .inl (g.2.2.1 0, 40, .inl (i 8))), (a 10, .inl (g.2.2.1 0, 40, .inl (i 9))), (a 11, .inl (g.2.2.1 0, 40, .inl (i 10))), (a 12, .inl (g.2.2.1 0, 40, .inl (i 11))), (a 13, .inl (g.2.2.1 0, 229, .inl (i 12)))]
def pic_Span (g : Gz) (a : Nat → Nat) (i : StI) : va_W := [(a 0, .inr (2, [.int (i 0 0), .int (i 1 0)]))]
def pic_Reader (g : Gz) (a : Nat → Nat) (r_query : Nat) (r_span : Nat) (i : StI) : va_W := [(a 0, .inr (3, [.ref r_query, .ref r_span, .int (i 2 0), .int (i 3 0), .int (i 4 0), .int (i 5 0), .ref (a 7), .ref (a 8), .ref (a 9)])), (a 7, .inl (g.2.2.1 0, 21, .inl (i 6))), (a 8, .inl (g.2.2.1 0, 21, .inl (i 7))), (a 9, .inl (g.2.2.1 0, 21, .inl (i 8)))]
def pic_Printer (g : Gz) (a : Nat → Nat) (r_due : Nat) (i : StI) : va_W := [(a 0, .inr (4, [.ref (a 1), .int (i 1 0), .int (i 2 0), .ref r_due])), (a 1, .inl (g.2.2.1 1, 1200, .inl (i 0)))]
def pic_Judge (g : Gz) (a : Nat → Nat) (r_pile : Nat) (j : StL) : va_W := [(a 0, .inr (5, [.ref (a 1), .ref r_pile])), (a 1, .inl (g.2.2.1 3, 40, .inr (.inl (j 0))))]
def pic_Rows (g : Gz) (a : Nat → Nat) (r_pile : Nat) (i : StI) (j : StL) : va_W := [(a 0, .inr (6, [.ref (a 1), .ref (a 2), .int (i 2 0), .ref (a 4), .ref (a 5), .int (i 5 0), .ref (a 7), .ref r_pile, .ref (a 9), .ref (a 10), .int (i 10 0)])), (a 1, .inl (g.2.2.1 3, 2400, .inr (.inl (j 0)))), (a 2, .inl (g.2.2.1 3, 2400, .inr (.inl (j 1)))), (a 4, .inl (g.2.2.1 0, 41, .inl (i 3))), (a 5, .inl (g.2.2.1 0, 41, .inl (i 4))), (a 7, .inl (g.2.2.1 0, 229, .inl (i 6))), (a 9, .inl (g.2.2.1 3, 200, .inr (.inl (j 8)))), (a 10, .inl (g.2.2.1 3, 200, .inr (.inl (j 9))))]
def pic_MQ (g : Gz) (a : Nat → Nat) (r_query : Nat) (r_reader : Nat) (r_printer : Nat) (r_rows : Nat) (r_judge : Nat) (i : StI) : va_W := [(a 0, .inr (7, [.ref (a 1), .ref (a 2), .int (i 2 0), .ref r_query, .ref r_reader, .ref r_printer, .ref r_rows, .ref r_judge])), (a 1, .inl (g.2.2.1 1, 20, .inl (i 0))), (a 2, .inl (g.2.2.1 1, 600, .inl (i 1)))]
def pic_Mo (g : Gz) (a : Nat → Nat) (i : StI) (j : StL) : va_W := [(a 0, .inr (8, [.int (i 0 0), .ref (a 2), .ref (a 3), .int (i 3 0), .ref (a 5), .ref (a 6), .int (i 6 0), .int (i 7 0), .int (i 8 0), .int (i 9 0), .int (i 10 0), .int (i 11 0), .int (i 12 0), .ref (a 14), .int (i 14 0), .int (i 15 0), .int (i 16 0), .int (i 17 0), .int (i 18 0), .int (i 19 0), .int (i 20 0), .int (i 21 0), .ref (a 23), .ref (a 24), .ref (a 25), .ref (a 26), .ref (a 27), .ref (a 28), .ref (a 29), .ref (a 30), .int (i 30 0), .int (i 31 0), .ref (a 33), .ref (a 34), .ref (a 35), .int (i 35 0), .int (i 36 0), .int (i 37 0), .ref (a 39), .ref (a 40), .int (i 40 0), .ref (a 42), .ref (a 43), .ref (a 44), .int (i 44 0), .ref (a 46), .int (i 46 0), .ref (a 48), .int (i 48 0), .ref (a 50), .ref (a 51), .int (i 51 0), .int (i 52 0), .ref (a 54), .ref (a 55), .ref (a 56), .int (i 56 0), .long (j 57 0), .int (i 58 0), .int (i 59 0), .ref (a 61), .ref (a 62), .ref (a 63), .ref (a 64)])), (a 2, .inl (g.2.2.1 4, 20, .inl (i 1))), (a 3, .inl (g.2.2.1 4, 600, .inl (i 2))), (a 5, .inl (g.2.2.1 4, 600, .inl (i 4))), (a 6, .inl (g.2.2.1 4, 600, .inl (i 5))), (a 14, .inl (g.2.2.1 3, 12, .inr (.inl (j 13)))), (a 23, .inl (g.2.2.1 0, 40, .inl (i 22))), (a 24, .inl (g.2.2.1 0, 40, .inl (i 23))), (a 25, .inl (g.2.2.1 0, 40, .inl (i 24))), (a 26, .inl (g.2.2.1 0, 40, .inl (i 25))), (a 27, .inl (g.2.2.1 0, 40, .inl (i 26))), (a 28, .inl (g.2.2.1 0, 40, .inl (i 27))), (a 29, .inl (g.2.2.1 0, 40, .inl (i 28))), (a 30, .inl (g.2.2.1 2, 40, .inl (i 29))), (a 33, .inl (g.2.2.1 0, 700, .inl (i 32))), (a 34, .inl (g.2.2.1 0, 700, .inl (i 33))), (a 35, .inl (g.2.2.1 0, 700, .inl (i 34))), (a 39, .inl (g.2.2.1 0, 700, .inl (i 38))), (a 40, .inl (g.2.2.1 0, 700, .inl (i 39))), (a 42, .inl (g.2.2.1 0, 2000, .inl (i 41))), (a 43, .inl (g.2.2.1 0, 2000, .inl (i 42))), (a 44, .inl (g.2.2.1 0, 2000, .inl (i 43))), (a 46, .inl (g.2.2.1 0, 700, .inl (i 45))), (a 48, .inl (g.2.2.1 4, 2000, .inl (i 47))), (a 50, .inl (g.2.2.1 3, 34000, .inr (.inl (j 49)))), (a 51, .inl (g.2.2.1 3, 34000, .inr (.inl (j 50)))), (a 54, .inl (g.2.2.1 3, 200, .inr (.inl (j 53)))), (a 55, .inl (g.2.2.1 3, 200, .inr (.inl (j 54)))), (a 56, .inl (g.2.2.1 2, 700, .inl (i 55))), (a 61, .inl (g.2.2.1 0, 1400, .inl (i 60))), (a 62, .inl (g.2.2.1 0, 1400, .inl (i 61))), (a 63, .inl (g.2.2.1 2, 1400, .inl (i 62))), (a 64, .inl (g.2.2.1 2, 420, .inl (i 63)))]
