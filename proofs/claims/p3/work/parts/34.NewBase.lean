/-! constructors: a world w0 before, a world of the shape Pw behind; mc cells of ms slots are new -/
def EN (g : Gz) (Pw : va_W → Prop) (A : Nat → Prop) : Array Value → State → Outcome → State → Prop := va_Qv (fun (wd : va_W) => Pw wd) (fun wd t => va_P (gD g) vwCl wd t.heap ∧ va_D A wd) A
def MbI (y : MethodName) (bytes : ByteArray) (maxL n : Nat) : Prop := Cond.code y bytes maxL none ∈ TBL ∧ Cond.instanceMethod y ∈ TBL ∧ Cond.initialized y.cls ∈ TBL ∧ y.name = "<init>" ∧ y.cls ≠ "java/lang/invoke/MethodHandle" ∧ y.cls ≠ "java/lang/invoke/VarHandle" ∧ (parseMethodDescriptor y.desc).map (fun d => d.parameters.length) = some n
theorem ct_n {l : Launch} {y : MethodName} {rm : Room} {cc : ByteArray} {nL mc ms : Nat} {g : Gz} {avs : List Value} {w0 : va_W} {Pw : va_W → Prop} (hy : plainName y.cls = true) (hin : y.name = "<init>") (hargs : (lg_sl avs).length ≤ nL)
    (body : ∀ (p : Program) (e : Env) (s : State) (m : MethodId) (args : Array Value) (below : List Frame) (meth : Method) (c : Code) (A : Nat → Prop) (ls : Array Slot), Cx cc nL none y.cls p s m args meth c g A A → meth.name = "<init>" → lv_has ls nL (lv_args 0 avs) → va_P (gD g) vwCl w0 s.heap → va_D A w0 → W p l e rm s m args below meth c s.heap [] 0 0 (MQ below (EN g Pw A) args s mc ms A) (F0 m 0 ls [])) :
    ∀ sz : Nat, Met l y (.code y cc nL none :: TBL) rm (va_Pc avs (Pre0 g w0 sz)) (EN g Pw (va_A w0 sz)) mc ms (va_A w0 sz) := by
  intro sz
  refine Met.ofW (cc := cc) (maxL := nL) (ret := none) hy rfl ?_
  intro p e s m args below meth c s₁ B hml hv
  obtain ⟨rfl, hsz, hP, hG, hD0⟩ := hv
  have hts := atoms_spec (ws := Cond.code y cc nL none :: TBL) B.pre
  have hown : s.vm.findClass y.cls = some m.cls := findClass_of_methodNamed B.named
  subst hsz
  have hD := hD0.self (sz := s.heap.size)
  rw [lg_entry_eq]
  exact body p e s m _ below meth c _ _ ⟨B.exec, B.bytes, B.returns, hml, hown, fun w h => hts w (List.mem_cons_of_mem _ h), B.notSynchronized, fun q h => Or.inr h, fun q h => h, hG⟩ ((name_of_methodNamed B.named B.method).1.trans hin) (lv_entry avs hargs) hP hD
section NEW
variable {p : Program} {l : Launch} {e : Env} {R : Room} {s : State} {m : MethodId} {args : Array Value} {below : List Frame} {meth : Method} {c : Code} {H : Heap} {locs : List Loc} {cells slots : Nat} {Q : State → Prop}
variable {cc : ByteArray} {pc : Nat} {ls : Array Slot} {rest st0 : List Value} {a : Array Value} {A2 A : Nat → Prop} {g : Gz} {wd wc wr : va_W} {own host : String} {index maxL n mc ms : Nat} {y : MethodName} {bytes : ByteArray} {rm : Room}
theorem cw_I (htb : ∀ w ∈ TBL, w.before args s = true) (hm : MbI y bytes maxL n) (hl : (Cond.methodLink own index y).before args s = true) (hrc : rm.cells = mc) (hrs : rm.slots = ms) (hR : rm.frames + 1 ≤ R.frames ∧ 8 + (maxL + 11) + rm.locals ≤ R.locals) : CallB R s args own index y bytes maxL none (.code y bytes maxL none :: TBL) rm mc ms n ∧ y.name = "<init>" ∧ (Cond.instanceMethod y).before args s = true := by
  obtain ⟨h1, h2, h4, h3, h5, h6, h7⟩ := hm
  exact ⟨callB_of n htb (TBL_gi0 h1) rfl hrc hrs (htb _ h4) hl ⟨h5, h6, h7⟩ hR, h3, htb _ h2⟩
theorem cn_I (htb : ∀ w ∈ TBL, w.before args s = true) (hm : MbI y bytes maxL n) (hl : va_Nw (.methodLinkNest own index y host) s) (hrc : rm.cells = mc) (hrs : rm.slots = ms) (hR : rm.frames + 1 ≤ R.frames ∧ 8 + (maxL + 11) + rm.locals ≤ R.locals) : va_CN R s args own index y host bytes maxL none (.code y bytes maxL none :: TBL) rm mc ms n ∧ y.name = "<init>" ∧ (Cond.instanceMethod y).before args s = true := by
  obtain ⟨h1, h2, h4, h3, h5, h6, h7⟩ := hm
  exact ⟨va_cnB n htb (TBL_gi0 h1) rfl hrc hrs hl (htb _ h4) ⟨h5, h6, h7⟩ hR, h3, htb _ h2⟩
theorem cl_N {Pw : va_W → Prop} (isC isR : List Nat) (hC : isC.map (fun i => wd[i]?) = wc.map some) (hR : isR.map (fun i => wd[i]?) = wr.map some) (hn : va_nd isR = true) (hdis : ∀ i ∈ isR, i ∉ isC) (hP : va_P (gD g) vwCl wd H) (hD : va_D A wd) (hS : va_S A s.heap H locs) (hA : ∀ q : Nat, s.heap.size ≤ q → A q)
    (hrun : va_Run p l e R s m args below meth c H locs cells slots mc ms (F0 m pc ls st0) rest (EN g Pw (va_A wc H.size) a) (va_A wc H.size))
    (kk : ∀ (w1 : va_W) (H1 : Heap) (locs1 : List Loc), Pw w1 → va_P (gD g) vwCl (wr ++ w1) H1 → va_D A (wr ++ w1) → va_S A s.heap H1 locs1 → W p l e R s m args below meth c H1 locs1 (cells + mc) (slots + ms) Q (F0 m (pc + 3) ls rest)) : W p l e R s m args below meth c H locs cells slots Q (F0 m pc ls st0) := by
  have hF := in_A2 hD hS hA (fun _ h => h) isC hC
  refine va_callv hrun hS (fun q _ h => hF q h) hF (fun u t H1 locs1 ht hvm hw hB hz1 hk1 hS1 => ?_)
  obtain ⟨hP1, hD1⟩ := hB
  rw [ht] at hP1
  obtain ⟨hP2, hD2⟩ := va_join hP hD isC isR hC hR hn hdis hk1 hF hP1 hD1
  exact kk u H1 locs1 hw hP2 hD2 hS1
theorem new_a (hx : p.tables.exec = Jvm.exec) (hb : c.code = cc) {atype : ArrayType} {ty : FieldType} {nm : String} {t0 N' : Nat} {n9 : Int32} {a0 : vp_A} (harr : (Cond.arrayClass (newarray.typeOf atype)).before args s = true) (hty : newarray.typeOf atype = ty) (hra : ∀ cA : ClassId, va_RA s cA ty → s.vm.findClass nm = some cA) (hG : Gx g A2 s s.heap) (ht : (tys0 g)[t0]? = some (g.2.2.1 t0, ty)) (hP : va_P (gD g) vwCl wd H) (hD : va_D A wd) (hS : va_S A s.heap H locs) (hA : ∀ q : Nat, s.heap.size ≤ q → A q)
    (ha : ∀ cA : ClassId, vp_cell cA a0 = arrV cA N' (fun _ => defaultValue ty)) (hn : ¬ n9 < 0) (hN : n9.toNatClampNeg = N') (hbytes : N' * componentBytes ty ≤ 536870912) (hcells : cells + 1 ≤ R.cells) (hslots : slots + N' ≤ R.slots) (hdg : decode cc pc = .ok (.newarray atype, 2))
    (kk : ∀ (q : Nat) (H1 : Heap), va_P (gD g) vwCl (wd ++ [(q, .inl (g.2.2.1 t0, a0))]) H1 → va_D A (wd ++ [(q, .inl (g.2.2.1 t0, a0))]) → va_S A s.heap H1 locs → W p l e R s m args below meth c H1 locs (cells + 1) (slots + N') Q (F0 m (pc + 2) ls (.ref q :: rest))) : W p l e R s m args below meth c H locs cells slots Q (F0 m pc ls (.int n9 :: rest)) := by
  refine va_newa hx hb harr hty hG.1 hP hD hS hA ha hn hN hbytes hcells hslots hdg (fun q cA H1 hK1 hP1 hD1 hS1 => ?_)
  have e1 := hra cA (hK1.2 5 (cA, ty) rfl).2
  have e2 := hra _ (hG.1.2 t0 _ ht).2
  have e : cA = g.2.2.1 t0 := Option.some.inj (e1.symm.trans e2)
  subst e
  exact kk q H1 hP1 hD1 hS1
end NEW
theorem ha_int (N : Nat) : ∀ cA : ClassId, vp_cell cA (N, .inl (fun _ => 0)) = arrV cA N (fun _ => defaultValue .int) := fun _ => rfl
theorem ha_char (N : Nat) : ∀ cA : ClassId, vp_cell cA (N, .inl (fun _ => 0)) = arrV cA N (fun _ => defaultValue .char) := fun _ => rfl
theorem ha_boolean (N : Nat) : ∀ cA : ClassId, vp_cell cA (N, .inl (fun _ => 0)) = arrV cA N (fun _ => defaultValue .boolean) := fun _ => rfl
theorem ha_byte (N : Nat) : ∀ cA : ClassId, vp_cell cA (N, .inl (fun _ => 0)) = arrV cA N (fun _ => defaultValue .byte) := fun _ => rfl
theorem ha_long (N : Nat) : ∀ cA : ClassId, vp_cell cA (N, .inr (.inl (fun _ => 0))) = arrV cA N (fun _ => defaultValue .long) := fun _ => rfl
