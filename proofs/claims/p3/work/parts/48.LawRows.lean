/-! rows for the law's own walk: calls with cells and slots already made -/
section LROWS
variable {p : Program} {l : Launch} {e : Env} {R : Room} {s : State} {m : MethodId} {args : Array Value} {below : List Frame} {meth : Method} {c : Code} {H : Heap} {locs : List Loc} {Q : State → Prop} {cells slots mc ms : Nat}
variable {pc : Nat} {ls : Array Slot} {rest st0 : List Value} {a : Array Value} {A2 A : Nat → Prop} {g : Gz} {wd wc wr w1 : va_W}
variable {y : MethodName} {bytes cc : ByteArray} {maxL nL n index : Nat} {ret : Option FieldType} {hs : List (Nat × Nat × Nat × Nat)} {rm : Room} {Pc : Array Value → State → Prop} {Qc : Array Value → State → Outcome → State → Prop} {free : Addr → Prop} {Ts : List Cond} {own : String} {As : List Value} {f : JFrame}
/-- a call of a static method that has a handler -/
theorem xs_run (S : CallFix p m c cc nL s args Ts own) (hM : Met l y (.codeWith y bytes maxL ret hs :: TBL) rm Pc Qc mc ms free) (htb : ∀ w ∈ TBL, w.before args s = true) (hcw : Cond.codeWith y bytes maxL ret hs ∈ TBL) (hstt : (Cond.static y).before args s = true) (hini : (Cond.initialized y.cls).before args s = true) (hl : (Cond.methodLink own index y).before args s = true)
    (hy : y.cls ≠ "java/lang/invoke/MethodHandle" ∧ y.cls ≠ "java/lang/invoke/VarHandle") (hd : (parseMethodDescriptor y.desc).map (fun d => d.parameters.length) = some n) (hrc : rm.cells = mc) (hrs : rm.slots = ms) (hR : rm.frames + 1 ≤ R.frames ∧ 8 + (maxL + 11) + rm.locals ≤ R.locals) (hp : PreS s H Pc As)
    (hg : f.method = m) (hn : As.length = n) (hsize : f.locals.size = nL) (hstack : f.stack = As.reverse ++ rest) (hW : 2 * f.monitorRoom + (rest.map fun v => v.category).sum ≤ 8) (hdg : decode cc f.pc = .ok (.invokestatic index, 3)) (hf : cells + mc ≤ R.cells ∧ slots + ms ≤ R.slots) :
    va_Run p l e R s m args below meth c H locs cells slots mc ms f rest (Qc As.toArray) (free) := by
  have hws : ∀ w ∈ (Cond.codeWith y bytes maxL ret hs :: TBL), ∀ a' U, s.WarmedH U.vm → w.before a' U = true := fun w hw a' U hWU => by
    rcases List.mem_cons.mp hw with rfl | hw
    · exact word_at hWU (TBL_good hcw) (htb _ hcw)
    · exact word_at hWU (TBL_good hw) (htb _ hw)
  have hK : Back l R p e below s args y 3 8 (PreOf R mc ms Pc) (PostOf Qc mc ms free) := by
    refine Back.of_freeWith (S := headSpec (Cond.codeWith y bytes maxL ret hs :: TBL) rm) (P := Pc) (K := fun _ _ _ _ _ => True) (Q := fun a st o t => Qc a st o t ∧ ∃ L, FrameEnd st o t L mc ms ∧ ∀ q ∈ L, free q.base) (bytes := bytes) (maxL := maxL) (ret := ret) (handlers := hs)
      (E := fun a st o t L k n => k = mc ∧ n = ms ∧ ∀ q ∈ L, free q.base) hM hR.1 hR.2 ?_ ?_ (fun _ _ _ _ _ _ _ _ _ => trivial) ?_ ?_
    · intro m meth c A a X hp
      exact ⟨atoms_intro fun w hw => hws w hw _ _ X.warmed, hws _ List.mem_cons_self _ _ X.warmed, word_at X.warmed (Or.inl (by first | rfl | simp [Cond.onTables, Cond.keeps, Cond.steady])) hini, by rw [show (headSpec (Cond.codeWith y bytes maxL ret hs :: TBL) rm).room.cells = mc from hrc]; exact hp.1, by rw [show (headSpec (Cond.codeWith y bytes maxL ret hs :: TBL) rm).room.slots = ms from hrs]; exact hp.2.1⟩
    · intro m meth c A a g mk X hp2
      exact hp.1 _ _ _ _ hp2.2.2
    · intro a st o t ⟨hq, L, hF, hL⟩
      exact ⟨L, mc, ms, hF, rfl, rfl, hL⟩
    · intro m meth c A a g mk v t L k n X hp hq hF ⟨e1, e2, hL⟩
      subst e1; subst e2
      exact ⟨g, mk, t, L, rfl, rfl, hq.1, rfl, hL, rfl, rfl⟩
  obtain ⟨hx, hb, hml, ho, -⟩ := S
  intro T hT X
  obtain ⟨mk, methM, cM, hnamed, hmethM, -, -, -, -, -, -, hsigM⟩ := Cond.codeWith_spec (htb _ hcw)
  have hstatic : methM.isStatic = true := Cond.static_spec hnamed hmethM hstt
  obtain ⟨kP, hkP, -⟩ := className_of_methodNamed hnamed
  have hinitP : kP.init = .initialized := Cond.initialized_spec (findClass_of_methodNamed hnamed) hkP hini
  have hlen : As.length = methM.sig.parameters.length := by
    rw [hsigM] at hd
    exact hn.trans (Option.some.inj hd).symm
  have hdc : decode c.code f.pc = .ok (.invokestatic index, 3) := by rw [hb]; exact hdg
  obtain ⟨vm₁, X₁, hstep₁⟩ := X.invokestatic hx ho hl hnamed hmethM hstatic hkP hinitP hy (g := f) hg (argsL := As) (rest := rest) hlen hstack hdc
  obtain ⟨v, ⟨U', l2, c2, s2⟩, X', ⟨g', mk', t, L, e1, e2, hq, h1, hL, h2, h3⟩, hsteps⟩ := hK m meth c ⟨T.setVm vm₁, locs, cells, slots⟩ { f with stack := rest } (.invokestatic index) mk As.toArray X₁ hg (hsize.trans hml.symm) hdc hW (X₁.named hnamed) ⟨hf.1, hf.2, hp.2 (T.setVm vm₁) hT X₁.warmed⟩
  dsimp only [Pt.U, Pt.locs, Pt.cells, Pt.slots] at X' e1 e2 h1 h2 h3 hsteps
  subst h1; subst h2; subst h3
  exact ⟨v, (T.setVm vm₁).calling g' mk' As.toArray, t, U', L, hT, X', hL, e1, e2, hq, fun target h => hstep₁ _ fun acts => by rw [doInvoke_state]; exact hsteps.trans h⟩
end LROWS
/-! two worlds side by side: a call changes the one, the other stays -/
def Apart (u v : va_W) : Prop := ∀ (i j : Nat) (p q : Nat × va_E), u[i]? = some p → v[j]? = some q → p.1 ≠ q.1
section TWO
variable {p : Program} {l : Launch} {e : Env} {R : Room} {s : State} {m : MethodId} {args : Array Value} {below : List Frame} {meth : Method} {c : Code} {H : Heap} {locs : List Loc} {Q : State → Prop} {cells slots mc ms : Nat}
variable {pc : Nat} {ls : Array Slot} {rest st0 : List Value} {a : Array Value} {A2 A : Nat → Prop} {g : Gz} {wd wc wr w1 wm : va_W}
theorem Apart.sub {u u' v : va_W} (h : Apart u v) (is : List Nat) (hs : is.map (fun i => u[i]?) = u'.map some) : Apart u' v := by
  intro i j p q hi hj
  have h1 : (is.map (fun i => u[i]?))[i]? = some (some p) := by rw [hs, List.getElem?_map, hi]; rfl
  rw [List.getElem?_map] at h1
  cases hk : is[i]? with
  | none => rw [hk] at h1; cases h1
  | some k => rw [hk] at h1; exact h k j p q (Option.some.inj h1) hj
theorem Apart.symm {u v : va_W} (h : Apart u v) : Apart v u := fun i j p q hi hj e => h j i q p hj hi e.symm
/-- behind a call on the cells wc of wd: the world wm beside it -/
theorem two_keep {H1 : Heap} (isC isR : List Nat) (hC : isC.map (fun i => wd[i]?) = wc.map some) (hR : isR.map (fun i => wd[i]?) = wr.map some) (hPm : va_P (gD g) vwCl wm H) (hap : Apart wd wm) (hk1 : ∀ q : Nat, q < H.size → ¬ va_A wc H.size q → H1[q]? = H[q]?) (hD1 : va_D (va_A wc H.size) w1) : va_P (gD g) vwCl wm H1 ∧ Apart (wr ++ w1) wm := by
  have hc : Apart wc wm := hap.sub isC hC
  have hr : Apart wr wm := hap.sub isR hR
  have hlt : ∀ (j : Nat) (q : Nat × va_E), wm[j]? = some q → q.1 < H.size := fun j q hj => (hPm j q hj).lt
  have hno : ∀ (j : Nat) (q : Nat × va_E), wm[j]? = some q → ¬ va_A wc H.size q.1 := by
    intro j q hj h
    rcases h with ⟨k, z, h⟩ | h
    · exact hc k j (q.1, z) q h hj rfl
    · exact absurd (hlt j q hj) (Nat.not_lt.mpr h)
  refine ⟨hPm.kept (fun j q hj => hk1 q.1 (hlt j q hj) (hno j q hj)), ?_⟩
  intro i j p q hi hj e
  by_cases hl : i < wr.length
  · rw [List.getElem?_append_left hl] at hi
    exact hr i j p q hi hj e
  · rw [List.getElem?_append_right (Nat.not_lt.mp hl)] at hi
    have h1 := hD1.2 _ p hi
    rw [e] at h1
    exact hno j q hj h1
theorem cx_I {r : Int32} (isC isR : List Nat) (hC : isC.map (fun i => wd[i]?) = wc.map some) (hR : isR.map (fun i => wd[i]?) = wr.map some) (hn : va_nd isR = true) (hdis : ∀ i ∈ isR, i ∉ isC) (hP : va_P (gD g) vwCl wd H) (hD : va_D A wd) (hPm : va_P (gD g) vwCl wm H) (hap : Apart wd wm) (hS : va_S A s.heap H locs) (hA : ∀ q : Nat, s.heap.size ≤ q → A q)
    (hrun : va_Run p l e R s m args below meth c H locs cells slots mc ms (F0 m pc ls st0) rest (EI g w1 r (va_A wc H.size) a) (va_A wc H.size))
    (kk : ∀ (H1 : Heap) (locs1 : List Loc), va_P (gD g) vwCl (wr ++ w1) H1 → va_D A (wr ++ w1) → va_P (gD g) vwCl wm H1 → Apart (wr ++ w1) wm → va_S A s.heap H1 locs1 → W p l e R s m args below meth c H1 locs1 (cells + mc) (slots + ms) Q (F0 m (pc + 3) ls (.int r :: rest))) : W p l e R s m args below meth c H locs cells slots Q (F0 m pc ls st0) := by
  have hF := in_A2 hD hS hA (fun _ h => h) isC hC
  refine va_calli hrun hS (fun q _ h => hF q h) hF (fun r' u t H1 locs1 ht hvm hw hB hz1 hk1 hS1 => ?_)
  subst hw
  obtain ⟨hP1, hD1⟩ := hB
  rw [ht] at hP1
  obtain ⟨hP2, hD2⟩ := va_join hP hD isC isR hC hR hn hdis hk1 hF hP1 hD1
  obtain ⟨hm1, hm2⟩ := two_keep isC isR hC hR hPm hap hk1 hD1
  exact kk H1 locs1 hP2 hD2 hm1 hm2 hS1
theorem cx_L {r : Int64} (isC isR : List Nat) (hC : isC.map (fun i => wd[i]?) = wc.map some) (hR : isR.map (fun i => wd[i]?) = wr.map some) (hn : va_nd isR = true) (hdis : ∀ i ∈ isR, i ∉ isC) (hP : va_P (gD g) vwCl wd H) (hD : va_D A wd) (hPm : va_P (gD g) vwCl wm H) (hap : Apart wd wm) (hS : va_S A s.heap H locs) (hA : ∀ q : Nat, s.heap.size ≤ q → A q)
    (hrun : va_Run p l e R s m args below meth c H locs cells slots mc ms (F0 m pc ls st0) rest (EL g w1 r (va_A wc H.size) a) (va_A wc H.size))
    (kk : ∀ (H1 : Heap) (locs1 : List Loc), va_P (gD g) vwCl (wr ++ w1) H1 → va_D A (wr ++ w1) → va_P (gD g) vwCl wm H1 → Apart (wr ++ w1) wm → va_S A s.heap H1 locs1 → W p l e R s m args below meth c H1 locs1 (cells + mc) (slots + ms) Q (F0 m (pc + 3) ls (.long r :: rest))) : W p l e R s m args below meth c H locs cells slots Q (F0 m pc ls st0) := by
  have hF := in_A2 hD hS hA (fun _ h => h) isC hC
  refine va_calll hrun hS (fun q _ h => hF q h) hF (fun r' u t H1 locs1 ht hvm hw hB hz1 hk1 hS1 => ?_)
  subst hw
  obtain ⟨hP1, hD1⟩ := hB
  rw [ht] at hP1
  obtain ⟨hP2, hD2⟩ := va_join hP hD isC isR hC hR hn hdis hk1 hF hP1 hD1
  obtain ⟨hm1, hm2⟩ := two_keep isC isR hC hR hPm hap hk1 hD1
  exact kk H1 locs1 hP2 hD2 hm1 hm2 hS1
theorem cx_V (isC isR : List Nat) (hC : isC.map (fun i => wd[i]?) = wc.map some) (hR : isR.map (fun i => wd[i]?) = wr.map some) (hn : va_nd isR = true) (hdis : ∀ i ∈ isR, i ∉ isC) (hP : va_P (gD g) vwCl wd H) (hD : va_D A wd) (hPm : va_P (gD g) vwCl wm H) (hap : Apart wd wm) (hS : va_S A s.heap H locs) (hA : ∀ q : Nat, s.heap.size ≤ q → A q)
    (hrun : va_Run p l e R s m args below meth c H locs cells slots mc ms (F0 m pc ls st0) rest (EV g w1 (va_A wc H.size) a) (va_A wc H.size))
    (kk : ∀ (H1 : Heap) (locs1 : List Loc), va_P (gD g) vwCl (wr ++ w1) H1 → va_D A (wr ++ w1) → va_P (gD g) vwCl wm H1 → Apart (wr ++ w1) wm → va_S A s.heap H1 locs1 → W p l e R s m args below meth c H1 locs1 (cells + mc) (slots + ms) Q (F0 m (pc + 3) ls rest)) : W p l e R s m args below meth c H locs cells slots Q (F0 m pc ls st0) := by
  have hF := in_A2 hD hS hA (fun _ h => h) isC hC
  refine va_callv hrun hS (fun q _ h => hF q h) hF (fun u t H1 locs1 ht hvm hw hB hz1 hk1 hS1 => ?_)
  obtain ⟨hP1, hD1⟩ := hB
  rw [ht] at hP1
  obtain ⟨hP2, hD2⟩ := va_join hP hD isC isR hC hR hn hdis hk1 hF hP1 hD1
  obtain ⟨hm1, hm2⟩ := two_keep isC isR hC hR hPm hap hk1 hD1
  exact kk H1 locs1 hP2 hD2 hm1 hm2 hS1
theorem cx_Ir {r : Int32} (hP : va_P (gD g) vwCl wd H) (hPm : va_P (gD g) vwCl wm H) (hS : va_S A s.heap H locs) (hA : ∀ q : Nat, s.heap.size ≤ q → A q)
    (hrun : va_Run p l e R s m args below meth c H locs cells slots mc ms (F0 m pc ls st0) rest (RI r (fun q => H.size ≤ q) a) (fun q => H.size ≤ q))
    (kk : ∀ (H1 : Heap) (locs1 : List Loc), va_P (gD g) vwCl wd H1 → va_P (gD g) vwCl wm H1 → va_S A s.heap H1 locs1 → W p l e R s m args below meth c H1 locs1 (cells + mc) (slots + ms) Q (F0 m (pc + 3) ls (.int r :: rest))) : W p l e R s m args below meth c H locs cells slots Q (F0 m pc ls st0) := by
  refine va_calli hrun hS (fun q _ h => hA q (Nat.le_trans hS.1 h)) (fun q h => hA q (Nat.le_trans hS.1 h)) (fun r' u t H1 locs1 ht hvm hw hB hz1 hk1 hS1 => ?_)
  subst hw
  exact kk H1 locs1 (keep_r hP hk1) (keep_r hPm hk1) hS1
theorem cx_Lr {r : Int64} (hP : va_P (gD g) vwCl wd H) (hPm : va_P (gD g) vwCl wm H) (hS : va_S A s.heap H locs) (hA : ∀ q : Nat, s.heap.size ≤ q → A q)
    (hrun : va_Run p l e R s m args below meth c H locs cells slots mc ms (F0 m pc ls st0) rest (RL r (fun q => H.size ≤ q) a) (fun q => H.size ≤ q))
    (kk : ∀ (H1 : Heap) (locs1 : List Loc), va_P (gD g) vwCl wd H1 → va_P (gD g) vwCl wm H1 → va_S A s.heap H1 locs1 → W p l e R s m args below meth c H1 locs1 (cells + mc) (slots + ms) Q (F0 m (pc + 3) ls (.long r :: rest))) : W p l e R s m args below meth c H locs cells slots Q (F0 m pc ls st0) := by
  refine va_calll hrun hS (fun q _ h => hA q (Nat.le_trans hS.1 h)) (fun q h => hA q (Nat.le_trans hS.1 h)) (fun r' u t H1 locs1 ht hvm hw hB hz1 hk1 hS1 => ?_)
  subst hw
  exact kk H1 locs1 (keep_r hP hk1) (keep_r hPm hk1) hS1
end TWO

