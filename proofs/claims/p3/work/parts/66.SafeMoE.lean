/-! atomByte, answers, ask, ways -/
theorem sp_Mo_atomByte (F : Nat) (hF : Big F) (t : StI) (tL : StL) (x1 x2 : Int32) (h6 : 0 ≤ (t 6 0).toInt ∧ (t 6 0).toInt ≤ 600) (hE : EA t) (h20 : (t 20 0).toInt ≤ 40) : Sf (Mo_atomByte F t tL x1 x2) (fun r => FRM [0] t r.2.1) := by
  rw [Mo_atomByte]
  refine sf_up (fun u k1 m1 => ?_)
  have fu : FRM [0] t u := FRM_of1 (by decide) m1
  have q := hE x1.toNatClampNeg
  rw [m1 20 (by decide), m1 24 (by decide), m1 23 (by decide)]
  refine sf_lt rfl (ilit (0 : Int32) 0 rfl) (fun c1 => sf_some fu) (fun c1 => ?_)
  refine sf_le rfl rfl (fun c2 => sf_some fu) (fun c2 => ?_)
  refine sf_lt rfl (ilit (0 : Int32) 0 rfl) (fun c3 => sf_some fu) (fun c3 => ?_)
  refine sf_idx rfl c1 (by omega) ?_
  refine sf_le rfl rfl (fun c4 => sf_some fu) (fun c4 => ?_)
  refine sf_idx rfl c1 (by omega) ?_
  have g1 : (((t 23) x1.toNatClampNeg) + x2).toInt = _ := iadd rfl rfl
  refine sf_bind (sp_Mo_see F hF u tL _ ⟨by rw [m1 6 (by decide)]; exact h6, by omega⟩) (fun r hr => ?_)
  exact sf_some fu
/-- what answers needs: nodes whose children have lesser numbers, and a root -/
def AH (t : StI) : Prop := (∃ (sz lv ct : Nat → Int) (a : Nat), ND t sz lv ct ∧ (t 30 0).toInt = a ∧ a ≤ 700) ∧ ((t 31 0).toInt = -1 ∨ (0 ≤ (t 31 0).toInt ∧ (t 31 0).toInt < 700))
theorem AH_TR {t : StI} (h : TR t) : AH t := ⟨h.1.1, by
  rcases h.2 with e | ⟨sz, lv, ct, a, n1, n2, n3, n4, n5, -⟩
  · exact Or.inl e
  · exact Or.inr (by omega)⟩
theorem AH_fr {m : List Nat} {t t' : StI} (h : AH t) (hf : FRM m t t') (hm : ∀ k ∈ [20, 24, 30, 31, 32, 33, 34], k ∉ m) : AH t' := by
  obtain ⟨⟨sz, lv, ct, a, n1, n2, n3⟩, h2⟩ := h
  refine ⟨⟨sz, lv, ct, a, ND_fr n1 hf (fun k hk => hm k ?_), by rw [hf 30 (hm 30 (by decide))]; exact n2, n3⟩, by rw [hf 31 (hm 31 (by decide))]; exact h2⟩
  revert k
  decide
def AQ (t : StI) (r : Int32 × StI × StL) : Prop := FRM [55] t r.2.1 ∧ (r.1.toInt = 0 ∨ r.1.toInt = 1)
/-- behind a node's answer: the next node -/
theorem an_set {F : Nat} {K : StI → StL → Int64 → Int32 → Option (Int32 × StI × StL)} {t0 u : StI} {uL : StL} {x1 : Int64} {x3 : Int32} {y0 : Int32} {n : Nat} (hx : 0 ≤ x3.toInt ∧ x3.toInt < 700) (hn : 700 - x3.toInt ≤ (n : Int)) (hf : FRM [55] t0 u)
    (ih : ∀ (t : StI) (tL : StL) (x3 : Int32), FRM [55] t0 t → 0 ≤ x3.toInt → x3.toInt ≤ 700 → 700 - x3.toInt < (n : Int) → Sf (K t tL x1 x3) (AQ t0)) :
    Sf (if x3 < 0 ∨ 700 ≤ x3.toNatClampNeg then none else letS (va_up u 55 (upd (u 55) x3.toNatClampNeg (vp_nar .boolean y0))) fun v => Mo_answers_237 F K v uL x1 x3) (AQ t0) := by
  refine sf_idx rfl hx.1 (by omega) ?_
  refine sf_up (fun v k1 m1 => ?_)
  rw [Mo_answers_237]
  have g1 : (x3 + (1 : Int32)).toInt = _ := iadd rfl (ilit (1 : Int32) 1 rfl)
  exact ih v uL (x3 + 1) (FRM_up hf (by decide) m1) (by omega) (by omega) (by omega)
set_option maxHeartbeats 4000000 in
theorem sp_Mo_answers_2 (F : Nat) (x1 : Int64) (t0 : StI) (h : AH t0) : ∀ (n : Nat) (t : StI) (tL : StL) (x3 : Int32), FRM [55] t0 t → 0 ≤ x3.toInt → x3.toInt ≤ 700 → 700 - x3.toInt < (n : Int) → Sf (Mo_answers_2 F n t tL x1 x3) (AQ t0) := by
  obtain ⟨⟨sz, lv, ct, a, n1, n2, n3⟩, h2⟩ := h
  intro n; induction n with
  | zero => intro t tL x3 hf h0 h7 hn; omega
  | succ n ih =>
    intro t tL x3 hf h0 h7 hn
    rw [Mo_answers_2]
    rw [hf 30 (by decide), hf 31 (by decide), hf 32 (by decide), hf 33 (by decide), hf 34 (by decide)]
    refine sf_le n2 rfl (fun c1 => ?_) (fun c1 => ?_)
    · refine sf_eq rfl (ilit (-1 : Int32) (-1) rfl) (fun c2 => sf_some ⟨hf, Or.inr rfl⟩) (fun c2 => ?_)
      have h3 : 0 ≤ (t0 31 0).toInt ∧ (t0 31 0).toInt < 700 := by
        rcases h2 with e | e
        · exact absurd e c2
        · exact e
      refine sf_idx rfl h3.1 (by omega) ?_
      exact sf_any (sf_some ⟨hf, Or.inl rfl⟩) (sf_some ⟨hf, Or.inr rfl⟩)
    have hx : 0 ≤ x3.toInt ∧ x3.toInt < 700 := by omega
    have cx : (x3.toNatClampNeg : Int) = x3.toInt := by rw [iclamp]; omega
    obtain ⟨-, -, -, nx⟩ := n1 x3.toNatClampNeg (by rw [iclamp, n2]; omega)
    have S := fun (y0 : Int32) => an_set (F := F) (K := Mo_answers_2 F n) (t0 := t0) (u := t) (uL := tL) (x1 := x1) (x3 := x3) (y0 := y0) (n := n) hx (by omega) hf ih
    have ix : ∀ {B : Option (Int32 × StI × StL)}, Sf B (AQ t0) → Sf (if x3 < 0 ∨ 700 ≤ x3.toNatClampNeg then none else B) (AQ t0) := fun hB => sf_idx rfl hx.1 (by omega) hB
    have a236 : ∀ y0 : Int32, Sf (Mo_answers_236 F (Mo_answers_2 F n) t tL x1 x3 y0 x3) (AQ t0) := fun y0 => by rw [Mo_answers_236]; exact S y0
    have a197 : ∀ y0 : Int32, Sf (Mo_answers_197 F (Mo_answers_2 F n) t tL x1 x3 y0 x3) (AQ t0) := fun y0 => by rw [Mo_answers_197]; exact S y0
    have a192 : Sf (Mo_answers_192 F (Mo_answers_2 F n) t tL x1 x3 x3) (AQ t0) := by rw [Mo_answers_192]; exact a197 1
    have a155 : ∀ y0 : Int32, Sf (Mo_answers_155 F (Mo_answers_2 F n) t tL x1 x3 y0 x3) (AQ t0) := fun y0 => by rw [Mo_answers_155]; exact S y0
    have a154 : Sf (Mo_answers_154 F (Mo_answers_2 F n) t tL x1 x3 x3) (AQ t0) := by rw [Mo_answers_154]; exact a155 0
    have a113 : ∀ y0 : Int32, Sf (Mo_answers_113 F (Mo_answers_2 F n) t tL x1 x3 y0 x3) (AQ t0) := fun y0 => by rw [Mo_answers_113]; exact S y0
    have a85 : ∀ y0 : Int32, Sf (Mo_answers_85 F (Mo_answers_2 F n) t tL x1 x3 y0 x3) (AQ t0) := fun y0 => by rw [Mo_answers_85]; exact S y0
    refine ix ?_
    refine sf_eq rfl (ilit (1 : Int32) 1 rfl) (fun k1 => ?_) (fun k1 => ?_)
    · have q : (0 ≤ (t0 33 x3.toNatClampNeg).toInt ∧ (t0 33 x3.toNatClampNeg).toInt < 700) ∧ (0 ≤ (t0 34 x3.toNatClampNeg).toInt ∧ (t0 34 x3.toNatClampNeg).toInt < 700) := by
        rcases nx with q | q | q <;> omega
      refine ix (sf_idx rfl q.1.1 (by omega) (sf_any ?_ a192))
      exact ix (sf_idx rfl q.2.1 (by omega) (sf_any (a197 0) a192))
    refine sf_eq rfl (ilit (2 : Int32) 2 rfl) (fun k2 => ?_) (fun k2 => ?_)
    · have q : (0 ≤ (t0 33 x3.toNatClampNeg).toInt ∧ (t0 33 x3.toNatClampNeg).toInt < 700) ∧ (0 ≤ (t0 34 x3.toNatClampNeg).toInt ∧ (t0 34 x3.toNatClampNeg).toInt < 700) := by
        rcases nx with q | q | q <;> omega
      refine ix (sf_idx rfl q.1.1 (by omega) ?_)
      exact ix (sf_idx rfl q.2.1 (by omega) (sf_any (a236 0) (a236 1)))
    refine sf_eq rfl (ilit (3 : Int32) 3 rfl) (fun k3 => ?_) (fun k3 => ?_)
    · have q : (0 ≤ (t0 33 x3.toNatClampNeg).toInt ∧ (t0 33 x3.toNatClampNeg).toInt < 700) ∧ (0 ≤ (t0 34 x3.toNatClampNeg).toInt ∧ (t0 34 x3.toNatClampNeg).toInt < 700) := by
        rcases nx with q | q | q <;> omega
      refine ix (sf_idx rfl q.1.1 (by omega) (sf_any a154 ?_))
      exact ix (sf_idx rfl q.2.1 (by omega) (sf_any a154 (a155 1)))
    refine sf_eq rfl (ilit (4 : Int32) 4 rfl) (fun k4 => ?_) (fun k4 => ?_)
    · have q : (0 ≤ (t0 33 x3.toNatClampNeg).toInt ∧ (t0 33 x3.toNatClampNeg).toInt < 700) := by
        rcases nx with q | q | q <;> omega
      exact ix (sf_idx rfl q.1 (by omega) (sf_any (a113 1) (a113 0)))
    have k7 : (t0 32 x3.toNatClampNeg).toInt = 7 := by
      rcases nx with q | q | q <;> omega
    refine sf_eq rfl (ilit (5 : Int32) 5 rfl) (fun k5 => by omega) (fun k5 => ?_)
    refine sf_eq rfl (ilit (6 : Int32) 6 rfl) (fun k6 => by omega) (fun k6 => ?_)
    refine sf_eq rfl (ilit (7 : Int32) 7 rfl) (fun _ => ?_) (fun k8 => absurd k7 k8)
    exact ix (sf_any (a85 1) (a85 0))
theorem sp_Mo_answers (F : Nat) (hF : Big F) (t : StI) (tL : StL) (x1 : Int64) (h : AH t) : Sf (Mo_answers F t tL x1) (AQ t) := by
  rw [Mo_answers]
  have hq := fuel_ok hF (M := 700) (by omega)
  have z0 := ilit (0 : Int32) 0 rfl
  exact sp_Mo_answers_2 F x1 t h F t tL 0 (FRM_refl _ _) (by omega) (by omega) (by omega)
theorem sp_Mo_ask (F : Nat) (hF : Big F) (t : StI) (tL : StL) (x1 : Int64) (h : AH t) : Sf (Mo_ask F t tL x1) (fun r => FRM [0, 55] t r.2.1) := by
  rw [Mo_ask]
  refine sf_up (fun u k1 m1 => ?_)
  have fu : FRM [0] t u := FRM_of1 (by decide) m1
  refine sf_bind (sp_Mo_answers F hF u tL x1 (AH_fr h fu (by decide))) (fun r hr => ?_)
  refine sf_b01 hr.2 ?_
  exact sf_some (FRM_trans (FRM_sub (by decide) fu) (FRM_sub (by decide) hr.1))
theorem lg_ge {x y : Int64} : (0 ≤ lg_cmp x y) ↔ y.toInt ≤ x.toInt := by
  unfold lg_cmp
  by_cases h : x > y
  · rw [if_pos h]
    have h' := Int64.lt_iff_toInt_lt.mp h
    constructor
    · intro _; omega
    · intro _; decide
  · rw [if_neg h]
    have h' : ¬ y.toInt < x.toInt := fun q => h (Int64.lt_iff_toInt_lt.mpr q)
    by_cases e : x = y
    · rw [if_pos e, e]
      exact ⟨fun _ => Int.le_refl _, fun _ => by decide⟩
    · rw [if_neg e]
      constructor
      · intro q; exact absurd q (by decide)
      · intro q
        exact absurd (Int64.toInt_inj.mp (by omega)) e
theorem shl12 {x : Int32} (h : 0 ≤ x.toInt ∧ x.toInt ≤ 12) : ((1 : Int64) <<< (x.toInt64 &&& 63)).toInt ≤ 4096 := by
  have c : x.toInt = 0 ∨ x.toInt = 1 ∨ x.toInt = 2 ∨ x.toInt = 3 ∨ x.toInt = 4 ∨ x.toInt = 5 ∨ x.toInt = 6 ∨ x.toInt = 7 ∨ x.toInt = 8 ∨ x.toInt = 9 ∨ x.toInt = 10 ∨ x.toInt = 11 ∨ x.toInt = 12 := by omega
  rcases c with e | e | e | e | e | e | e | e | e | e | e | e | e
  · obtain rfl : x = 0 := Int32.toInt_inj.mp e; decide
  · obtain rfl : x = 1 := Int32.toInt_inj.mp e; decide
  · obtain rfl : x = 2 := Int32.toInt_inj.mp e; decide
  · obtain rfl : x = 3 := Int32.toInt_inj.mp e; decide
  · obtain rfl : x = 4 := Int32.toInt_inj.mp e; decide
  · obtain rfl : x = 5 := Int32.toInt_inj.mp e; decide
  · obtain rfl : x = 6 := Int32.toInt_inj.mp e; decide
  · obtain rfl : x = 7 := Int32.toInt_inj.mp e; decide
  · obtain rfl : x = 8 := Int32.toInt_inj.mp e; decide
  · obtain rfl : x = 9 := Int32.toInt_inj.mp e; decide
  · obtain rfl : x = 10 := Int32.toInt_inj.mp e; decide
  · obtain rfl : x = 11 := Int32.toInt_inj.mp e; decide
  · obtain rfl : x = 12 := Int32.toInt_inj.mp e; decide
theorem linc {x : Int64} (h : 0 ≤ x.toInt ∧ x.toInt ≤ 5000) : (x + (1 : Int64)).toInt = x.toInt + 1 := by
  have e : (1 : Int64).toInt = 1 := rfl
  rw [Int64.toInt_add, e]
  refine Int.bmod_eq_of_le ?_ ?_ <;> omega
theorem sp_Mo_ways_20 (F : Nat) (hF : Big F) (t0 : StI) (h : AH t0) (h20 : 0 ≤ (t0 20 0).toInt ∧ (t0 20 0).toInt ≤ 12) : ∀ (n : Nat) (t : StI) (tL : StL) (x1 : Int32) (x2 : Int64), FRM [55] t0 t → (0 ≤ x2.toInt ∧ x2.toInt ≤ 4096) → 4096 - x2.toInt < (n : Int) → Sf (Mo_ways_20 F n t tL x1 x2) (fun r => FRM [55] t0 r.2.1) := by
  intro n; induction n with
  | zero => intro t tL x1 x2 hf h0 hn; omega
  | succ n ih =>
    intro t tL x1 x2 hf h0 hn
    rw [Mo_ways_20, hf 20 (by decide)]
    have hs := shl12 h20
    refine sf_ite (fun c1 => sf_some hf) (fun c1 => ?_)
    have c2 : ¬ ((1 : Int64) <<< ((t0 20 0).toInt64 &&& 63)).toInt ≤ x2.toInt := fun q => c1 (lg_ge.mpr q)
    have g := linc (x := x2) (by omega)
    refine sf_bind (sp_Mo_answers F hF t tL x2 (AH_fr h hf (by decide))) (fun r hr => ?_)
    have k : ∀ y0 : Int32, Sf (Mo_ways_45 F (Mo_ways_20 F n) r.2.1 r.2.2 x2 y0 x1) (fun r => FRM [55] t0 r.2.1) := fun y0 => by
      rw [Mo_ways_45]
      exact ih _ _ _ _ (FRM_trans hf hr.1) (by omega) (by omega)
    exact sf_any (k 0) (k 1)
theorem sp_Mo_ways (F : Nat) (hF : Big F) (t : StI) (tL : StL) (h : AH t) (h20 : 0 ≤ (t 20 0).toInt) : Sf (Mo_ways F t tL) (fun r => FRM [0, 55] t r.2.1) := by
  rw [Mo_ways]
  refine sf_up (fun u k1 m1 => ?_)
  have fu : FRM [0] t u := FRM_of1 (by decide) m1
  have e20 : u 20 = t 20 := m1 20 (by decide)
  refine sf_le rfl (ilit (12 : Int32) 12 rfl) (fun c1 => ?_) (fun c1 => sf_some (FRM_sub (by decide) fu))
  have hq := fuel_ok hF (M := 5000) (by omega)
  have z0 : (0 : Int64).toInt = 0 := rfl
  exact sf_imp (sp_Mo_ways_20 F hF u (AH_fr h fu (by decide)) (by rw [e20] at c1 ⊢; omega) F u tL 0 0 (FRM_refl _ _) (by omega) (by omega)) (fun r hr => FRM_trans (FRM_sub (by decide) fu) (FRM_sub (by decide) hr))

/-! the rows of normal -/
theorem sp_Mo_addRow (F : Nat) (t : StI) (tL : StL) (x1 : Int32) (x2 x4 : Int64) (h : 0 ≤ x1.toInt ∧ x1.toInt ≤ (t 48 0).toInt ∧ (t 48 0).toInt ≤ x1.toInt + 200 ∧ x1.toInt + 200 ≤ 34000) : Sf (Mo_addRow F t tL x1 x2 x4) (fun r => FRM [48, 51] t r.1 ∧ (t 48 0).toInt ≤ (r.1 48 0).toInt ∧ (r.1 48 0).toInt ≤ (t 48 0).toInt + 1 ∧ (r.1 48 0).toInt ≤ x1.toInt + 200) := by
  rw [Mo_addRow]
  have g1 : ((t 48 0) - x1).toInt = _ := isub rfl rfl
  have g2 : ((t 48 0) + (1 : Int32)).toInt = _ := iadd rfl (ilit (1 : Int32) 1 rfl)
  refine sf_eq (a := (t 48 0).toInt - x1.toInt) (by omega) (ilit (200 : Int32) 200 rfl) (fun c1 => ?_) (fun c1 => ?_)
  · refine sf_up (fun u k1 m1 => ?_)
    have e : u 48 = t 48 := m1 48 (by decide)
    refine sf_some ⟨FRM_of1 (by decide) m1, ?_⟩
    dsimp only
    rw [e]; omega
  · refine sf_idx rfl (by omega) (by omega) ?_
    refine sf_up (fun v _ _ => ?_)
    refine sf_idx rfl (by omega) (by omega) ?_
    refine sf_up (fun v2 _ _ => ?_)
    refine sf_up (fun u k1 m1 => ?_)
    have e : (u 48 0).toInt = (t 48 0).toInt + 1 := by rw [k1]; show ((t 48 0) + (1 : Int32)).toInt = _; omega
    refine sf_some ⟨FRM_of1 (by decide) m1, ?_⟩
    dsimp only
    omega
theorem sp_Mo_isLeftOut_2 (F : Nat) (t : StI) (tL : StL) (x1 : Int32) (h48 : (t 48 0).toInt ≤ 34000) (h1 : 0 ≤ x1.toInt ∧ x1.toInt < 34000) : ∀ (n : Nat) (x3 : Int32), 0 ≤ x3.toInt → x3.toInt ≤ 34000 → 34000 - x3.toInt < (n : Int) → Sf (Mo_isLeftOut_2 F n t tL x1 x3) (fun _ => True) := by
  intro n; induction n with
  | zero => intro x3 h0 h3 hn; omega
  | succ n ih =>
    intro x3 h0 h3 hn
    rw [Mo_isLeftOut_2]
    refine sf_le rfl rfl (fun c1 => sf_some trivial) (fun c1 => ?_)
    have g1 : (x3 + (1 : Int32)).toInt = _ := iadd rfl (ilit (1 : Int32) 1 rfl)
    have ix3 : ∀ {B : Option Int32}, Sf B (fun _ => True) → Sf (if x3 < 0 ∨ 34000 ≤ x3.toNatClampNeg then none else B) (fun _ => True) := fun hB => sf_idx rfl h0 (by omega) hB
    have ix1 : ∀ {B : Option Int32}, Sf B (fun _ => True) → Sf (if x1 < 0 ∨ 34000 ≤ x1.toNatClampNeg then none else B) (fun _ => True) := fun hB => sf_idx rfl h1.1 (by omega) hB
    have k122 : Sf (Mo_isLeftOut_122 F (Mo_isLeftOut_2 F n) t tL x1 x3) (fun _ => True) := by
      rw [Mo_isLeftOut_122]
      exact ih (x3 + 1) (by omega) (by omega) (by omega)
    have k103 : ∀ x4 y0 : Int32, Sf (Mo_isLeftOut_103 F (Mo_isLeftOut_2 F n) t tL x1 x3 x4 y0) (fun _ => True) := fun x4 y0 => by
      rw [Mo_isLeftOut_103]
      exact sf_any k122 (sf_any (sf_some trivial) (sf_any k122 (sf_some trivial)))
    have k102 : ∀ x4 : Int32, Sf (Mo_isLeftOut_102 F (Mo_isLeftOut_2 F n) t tL x1 x3 x4) (fun _ => True) := fun x4 => by
      rw [Mo_isLeftOut_102]
      exact k103 x4 0
    have k64 : ∀ y0 : Int32, Sf (Mo_isLeftOut_64 F (Mo_isLeftOut_2 F n) t tL x1 x3 y0) (fun _ => True) := fun y0 => by
      rw [Mo_isLeftOut_64]
      exact ix3 (ix1 (sf_any (ix3 (ix1 (sf_any (k103 y0 1) (k102 y0)))) (k102 y0)))
    have k63 : Sf (Mo_isLeftOut_63 F (Mo_isLeftOut_2 F n) t tL x1 x3) (fun _ => True) := by
      rw [Mo_isLeftOut_63]
      exact k64 0
    exact sf_any k63 (ix3 (ix1 (sf_any (ix3 (ix1 (sf_any (k64 1) k63))) k63)))
theorem sp_Mo_isLeftOut (F : Nat) (hF : Big F) (t : StI) (tL : StL) (x1 x2 : Int32) (h48 : (t 48 0).toInt ≤ 34000) (h1 : 0 ≤ x1.toInt ∧ x1.toInt < 34000) (h2 : 0 ≤ x2.toInt ∧ x2.toInt ≤ 34000) : Sf (Mo_isLeftOut F t tL x1 x2) (fun _ => True) := by
  rw [Mo_isLeftOut]
  have hq := fuel_ok hF (M := 34001) (by omega)
  exact sp_Mo_isLeftOut_2 F t tL x1 h48 h1 F x2 h2.1 h2.2 (by omega)
theorem sp_Mo_clean_34 (F : Nat) (x1 : Int32) : ∀ (n : Nat) (t : StI) (tL : StL) (x2 x3 : Int32), (0 ≤ x1.toInt ∧ x1.toInt ≤ x2.toInt ∧ x2.toInt ≤ x3.toInt ∧ x3.toInt ≤ (t 48 0).toInt ∧ (t 48 0).toInt ≤ x1.toInt + 400 ∧ (t 48 0).toInt ≤ 34000) → (t 48 0).toInt - x3.toInt < (n : Int) → Sf (Mo_clean_34 F n t tL x1 x2 x3) (fun r => FRM [48] t r.1 ∧ x1.toInt ≤ (r.1 48 0).toInt ∧ (r.1 48 0).toInt ≤ (t 48 0).toInt) := by
  intro n; induction n with
  | zero => intro t tL x2 x3 h hn; omega
  | succ n ih =>
    intro t tL x2 x3 h hn
    rw [Mo_clean_34]
    refine sf_le rfl rfl (fun c1 => ?_) (fun c1 => ?_)
    · refine sf_up (fun u k1 m1 => ?_)
      have e : u 48 0 = x2 := by rw [k1]
      refine sf_some ⟨FRM_of1 (by decide) m1, ?_⟩
      dsimp only
      rw [e]; omega
    have g1 : (x3 - x1).toInt = _ := isub rfl rfl
    have g2 : (x3 + (1 : Int32)).toInt = _ := iadd rfl (ilit (1 : Int32) 1 rfl)
    have g3 : (x2 + (1 : Int32)).toInt = _ := iadd rfl (ilit (1 : Int32) 1 rfl)
    refine sf_idx (a := x3.toInt - x1.toInt) (by omega) (by omega) (by omega) ?_
    refine sf_any ?_ ?_
    · refine sf_idx rfl (by omega) (by omega) ?_
      refine sf_idx rfl (by omega) (by omega) ?_
      refine sf_up (fun v _ _ => ?_)
      refine sf_idx rfl (by omega) (by omega) ?_
      refine sf_idx rfl (by omega) (by omega) ?_
      refine sf_up (fun v2 _ _ => ?_)
      rw [Mo_clean_80]
      exact ih t v2 (x2 + 1) (x3 + 1) (by omega) (by omega)
    · rw [Mo_clean_80]
      exact ih t tL x2 (x3 + 1) (by omega) (by omega)
theorem sp_Mo_clean_2 (F : Nat) (hF : Big F) (x1 : Int32) : ∀ (n : Nat) (t : StI) (tL : StL) (x2 : Int32), (0 ≤ x1.toInt ∧ x1.toInt ≤ x2.toInt ∧ x2.toInt ≤ (t 48 0).toInt ∧ (t 48 0).toInt ≤ x1.toInt + 400 ∧ (t 48 0).toInt ≤ 34000) → (t 48 0).toInt - x2.toInt < (n : Int) → Sf (Mo_clean_2 F n t tL x1 x2) (fun r => FRM [48, 63] t r.1 ∧ x1.toInt ≤ (r.1 48 0).toInt ∧ (r.1 48 0).toInt ≤ (t 48 0).toInt) := by
  intro n; induction n with
  | zero => intro t tL x2 h hn; omega
  | succ n ih =>
    intro t tL x2 h hn
    have hq := fuel_ok hF (M := 34001) (by omega)
    rw [Mo_clean_2]
    refine sf_le rfl rfl (fun c1 => ?_) (fun c1 => ?_)
    · exact sf_imp (sp_Mo_clean_34 F x1 F t tL x1 x1 (by omega) (by omega)) (fun r hr => ⟨FRM_sub (by decide) hr.1, hr.2⟩)
    have g1 : (x2 - x1).toInt = _ := isub rfl rfl
    have g2 : (x2 + (1 : Int32)).toInt = _ := iadd rfl (ilit (1 : Int32) 1 rfl)
    refine sf_bind (sp_Mo_isLeftOut F hF t tL x2 x1 (by omega) (by omega) (by omega)) (fun r _ => ?_)
    refine sf_idx (a := x2.toInt - x1.toInt) (by omega) (by omega) (by omega) ?_
    refine sf_up (fun u k1 m1 => ?_)
    have e48 : u 48 = t 48 := m1 48 (by decide)
    refine sf_imp (ih u tL (x2 + 1) (by rw [e48]; omega) (by rw [e48]; omega)) (fun r' hr' => ?_)
    obtain ⟨f1, b1⟩ := hr'
    rw [e48] at b1
    exact ⟨FRM_trans (FRM_of1 (by decide) m1) f1, b1⟩
theorem sp_Mo_clean (F : Nat) (hF : Big F) (t : StI) (tL : StL) (x1 : Int32) (h : 0 ≤ x1.toInt ∧ x1.toInt ≤ (t 48 0).toInt ∧ (t 48 0).toInt ≤ x1.toInt + 400 ∧ (t 48 0).toInt ≤ 34000) : Sf (Mo_clean F t tL x1) (fun r => FRM [48, 63] t r.1 ∧ x1.toInt ≤ (r.1 48 0).toInt ∧ (r.1 48 0).toInt ≤ (t 48 0).toInt) := by
  have hq := fuel_ok hF (M := 34001) (by omega)
  rw [Mo_clean]
  exact sp_Mo_clean_2 F hF x1 F t tL x1 (by omega) (by omega)
/-- the lists lie in the pool -/
def LB (t : StI) : Prop := ∀ j : Nat, (0 ≤ (t 60 j).toInt ∧ (t 60 j).toInt ≤ 34000) ∧ 0 ≤ (t 61 j).toInt ∧ (t 61 j).toInt ≤ 34000
theorem LB_fr {m : List Nat} {t t' : StI} (h : LB t) (hf : FRM m t t') (h60 : 60 ∉ m) (h61 : 61 ∉ m) : LB t' := by
  intro j
  rw [hf 60 h60, hf 61 h61]
  exact h j
def BF : List Nat := [48, 51, 63]
/-- rows are being made from x3 on -/
def BI (x3 : Int32) (t0 t : StI) : Prop := FRM BF t0 t ∧ x3.toInt ≤ (t 48 0).toInt ∧ (t 48 0).toInt ≤ x3.toInt + 200
def BQ (x3 : Int32) (t0 : StI) (r : StI × StL) : Prop := BI x3 t0 r.1
theorem BI_add {x3 : Int32} {t0 t t' : StI} (h : BI x3 t0 t) (hf : FRM [48, 51] t t') (h1 : (t 48 0).toInt ≤ (t' 48 0).toInt) (h2 : (t' 48 0).toInt ≤ x3.toInt + 200) : BI x3 t0 t' := ⟨FRM_trans h.1 (FRM_sub (by decide) hf), by have := h.2; omega, h2⟩
theorem sp_Mo_both_32 {F : Nat} {K : StI → StL → Int32 → Int32 → Int32 → Int32 → Option (StI × StL)} (x1 x2 x3 x4 : Int32) (t0 : StI) (hL : LB t0) (h2 : 0 ≤ x2.toInt ∧ x2.toInt < 1400) (h3 : 0 ≤ x3.toInt ∧ x3.toInt + 200 ≤ 34000) (h4 : 0 ≤ x4.toInt ∧ x4.toInt < 34000)
    (hK : ∀ (t : StI) (tL : StL), BI x3 t0 t → Sf (K t tL x1 x2 x3 (x4 + 1)) (BQ x3 t0)) : ∀ (n : Nat) (t : StI) (tL : StL) (x5 : Int32), BI x3 t0 t → 0 ≤ x5.toInt → x5.toInt ≤ 34000 → 34000 - x5.toInt < (n : Int) → Sf (Mo_both_32 F K n t tL x1 x2 x3 x4 x5) (BQ x3 t0) := by
  have q := hL x2.toNatClampNeg
  intro n; induction n with
  | zero => intro t tL x5 hB h0 h5 hn; omega
  | succ n ih =>
    intro t tL x5 hB h0 h5 hn
    have hb := hB.2
    rw [Mo_both_32]
    have k109 : Sf (Mo_both_109 F K t tL x1 x2 x3 x4) (BQ x3 t0) := by
      rw [Mo_both_109]
      exact hK t tL hB
    refine sf_idx rfl h2.1 (by omega) ?_
    rw [hB.1 61 (by decide)]
    refine sf_le rfl rfl (fun c1 => k109) (fun c1 => ?_)
    have g1 : (x5 + (1 : Int32)).toInt = _ := iadd rfl (ilit (1 : Int32) 1 rfl)
    refine sf_any ?_ k109
    refine sf_idx rfl h4.1 (by omega) ?_
    refine sf_idx rfl h0 (by omega) ?_
    refine sf_idx rfl h4.1 (by omega) ?_
    refine sf_idx rfl h0 (by omega) ?_
    refine sf_any ?_ ?_
    · refine sf_bind (sp_Mo_addRow F t tL x3 _ _ ⟨h3.1, hb.1, hb.2, h3.2⟩) (fun r hr => ?_)
      rw [Mo_both_103]
      exact ih r.1 r.2 (x5 + 1) (BI_add hB hr.1 hr.2.1 hr.2.2.2) (by omega) (by omega) (by omega)
    · rw [Mo_both_103]
      exact ih t tL (x5 + 1) hB (by omega) (by omega) (by omega)
theorem sp_Mo_both_13 (F : Nat) (hF : Big F) (x1 x2 x3 : Int32) (t0 : StI) (hL : LB t0) (h1 : 0 ≤ x1.toInt ∧ x1.toInt < 1400) (h2 : 0 ≤ x2.toInt ∧ x2.toInt < 1400) (h3 : 0 ≤ x3.toInt ∧ x3.toInt + 200 ≤ 34000) : ∀ (n : Nat) (t : StI) (tL : StL) (x4 : Int32), BI x3 t0 t → 0 ≤ x4.toInt → x4.toInt ≤ 34000 → 34000 - x4.toInt < (n : Int) → Sf (Mo_both_13 F n t tL x1 x2 x3 x4) (BQ x3 t0) := by
  have q := hL x1.toNatClampNeg
  have q2 := hL x2.toNatClampNeg
  have hq := fuel_ok hF (M := 34001) (by omega)
  intro n; induction n with
  | zero => intro t tL x4 hB h0 h4 hn; omega
  | succ n ih =>
    intro t tL x4 hB h0 h4 hn
    have hb := hB.2
    rw [Mo_both_13]
    refine sf_idx rfl h1.1 (by omega) ?_
    rw [hB.1 61 (by decide)]
    refine sf_le rfl rfl (fun c1 => ?_) (fun c1 => ?_)
    · refine sf_bind (sp_Mo_clean F hF t tL x3 (by omega)) (fun r hr => ?_)
      obtain ⟨f1, b1, b2⟩ := hr
      exact sf_some ⟨FRM_trans hB.1 (FRM_sub (by decide) f1), by dsimp only; omega, by dsimp only; omega⟩
    have g1 : (x4 + (1 : Int32)).toInt = _ := iadd rfl (ilit (1 : Int32) 1 rfl)
    refine sf_idx rfl h2.1 (by omega) ?_
    rw [hB.1 60 (by decide)]
    exact sp_Mo_both_32 x1 x2 x3 x4 t0 hL h2 h3 (by omega) (fun t' tL' hB' => ih t' tL' (x4 + 1) hB' (by omega) (by omega) (by omega)) F t tL _ hB q2.1.1 q2.1.2 (by omega)
theorem sp_Mo_both (F : Nat) (hF : Big F) (t : StI) (tL : StL) (x1 x2 : Int32) (hL : LB t) (h1 : 0 ≤ x1.toInt ∧ x1.toInt < 1400) (h2 : 0 ≤ x2.toInt ∧ x2.toInt < 1400) (h3 : 0 ≤ (t 48 0).toInt ∧ (t 48 0).toInt + 200 ≤ 34000) : Sf (Mo_both F t tL x1 x2) (BQ (t 48 0) t) := by
  have q := hL x1.toNatClampNeg
  have hq := fuel_ok hF (M := 34001) (by omega)
  rw [Mo_both]
  refine sf_idx rfl h1.1 (by omega) ?_
  exact sp_Mo_both_13 F hF x1 x2 (t 48 0) t hL h1 h2 h3 F t tL _ ⟨FRM_refl _ _, by omega, by omega⟩ q.1.1 q.1.2 (by omega)
theorem sp_Mo_either_57 (F : Nat) (hF : Big F) (x2 x3 : Int32) (t0 : StI) (hL : LB t0) (h2 : 0 ≤ x2.toInt ∧ x2.toInt < 1400) (h3 : 0 ≤ x3.toInt ∧ x3.toInt + 200 ≤ 34000) : ∀ (n : Nat) (t : StI) (tL : StL) (x4 : Int32), BI x3 t0 t → 0 ≤ x4.toInt → x4.toInt ≤ 34000 → 34000 - x4.toInt < (n : Int) → Sf (Mo_either_57 F n t tL x2 x3 x4) (BQ x3 t0) := by
  have q2 := hL x2.toNatClampNeg
  intro n; induction n with
  | zero => intro t tL x4 hB h0 h4 hn; omega
  | succ n ih =>
    intro t tL x4 hB h0 h4 hn
    have hb := hB.2
    rw [Mo_either_57]
    refine sf_idx rfl h2.1 (by omega) ?_
    rw [hB.1 61 (by decide)]
    refine sf_le rfl rfl (fun c1 => ?_) (fun c1 => ?_)
    · refine sf_bind (sp_Mo_clean F hF t tL x3 (by omega)) (fun r hr => ?_)
      obtain ⟨f1, b1, b2⟩ := hr
      exact sf_some ⟨FRM_trans hB.1 (FRM_sub (by decide) f1), by dsimp only; omega, by dsimp only; omega⟩
    have g1 : (x4 + (1 : Int32)).toInt = _ := iadd rfl (ilit (1 : Int32) 1 rfl)
    refine sf_idx rfl h0 (by omega) ?_
    refine sf_idx rfl h0 (by omega) ?_
    refine sf_bind (sp_Mo_addRow F t tL x3 _ _ ⟨h3.1, hb.1, hb.2, h3.2⟩) (fun r hr => ?_)
    exact ih r.1 r.2 (x4 + 1) (BI_add hB hr.1 hr.2.1 hr.2.2.2) (by omega) (by omega) (by omega)
theorem sp_Mo_either_13 (F : Nat) (hF : Big F) (x1 x2 x3 : Int32) (t0 : StI) (hL : LB t0) (h1 : 0 ≤ x1.toInt ∧ x1.toInt < 1400) (h2 : 0 ≤ x2.toInt ∧ x2.toInt < 1400) (h3 : 0 ≤ x3.toInt ∧ x3.toInt + 200 ≤ 34000) : ∀ (n : Nat) (t : StI) (tL : StL) (x4 : Int32), BI x3 t0 t → 0 ≤ x4.toInt → x4.toInt ≤ 34000 → 34000 - x4.toInt < (n : Int) → Sf (Mo_either_13 F n t tL x1 x2 x3 x4) (BQ x3 t0) := by
  have q := hL x1.toNatClampNeg
  have q2 := hL x2.toNatClampNeg
  have hq := fuel_ok hF (M := 34001) (by omega)
  intro n; induction n with
  | zero => intro t tL x4 hB h0 h4 hn; omega
  | succ n ih =>
    intro t tL x4 hB h0 h4 hn
    have hb := hB.2
    rw [Mo_either_13]
    refine sf_idx rfl h1.1 (by omega) ?_
    rw [hB.1 61 (by decide)]
    refine sf_le rfl rfl (fun c1 => ?_) (fun c1 => ?_)
    · refine sf_idx rfl h2.1 (by omega) ?_
      rw [hB.1 60 (by decide)]
      exact sp_Mo_either_57 F hF x2 x3 t0 hL h2 h3 F t tL _ hB q2.1.1 q2.1.2 (by omega)
    have g1 : (x4 + (1 : Int32)).toInt = _ := iadd rfl (ilit (1 : Int32) 1 rfl)
    refine sf_idx rfl h0 (by omega) ?_
    refine sf_idx rfl h0 (by omega) ?_
    refine sf_bind (sp_Mo_addRow F t tL x3 _ _ ⟨h3.1, hb.1, hb.2, h3.2⟩) (fun r hr => ?_)
    exact ih r.1 r.2 (x4 + 1) (BI_add hB hr.1 hr.2.1 hr.2.2.2) (by omega) (by omega) (by omega)
theorem sp_Mo_either (F : Nat) (hF : Big F) (t : StI) (tL : StL) (x1 x2 : Int32) (hL : LB t) (h1 : 0 ≤ x1.toInt ∧ x1.toInt < 1400) (h2 : 0 ≤ x2.toInt ∧ x2.toInt < 1400) (h3 : 0 ≤ (t 48 0).toInt ∧ (t 48 0).toInt + 200 ≤ 34000) : Sf (Mo_either F t tL x1 x2) (BQ (t 48 0) t) := by
  have q := hL x1.toNatClampNeg
  have hq := fuel_ok hF (M := 34001) (by omega)
  rw [Mo_either]
  refine sf_idx rfl h1.1 (by omega) ?_
  exact sp_Mo_either_13 F hF x1 x2 (t 48 0) t hL h1 h2 h3 F t tL _ ⟨FRM_refl _ _, by omega, by omega⟩ q.1.1 q.1.2 (by omega)
/-! which lists are wanted -/
/-- marks are only set, and only below b -/
def WS (b : Nat) (t u : StI) : Prop := FRM [62] t u ∧ (∀ j, t 62 j ≠ 0 → u 62 j ≠ 0) ∧ ∀ j, b ≤ j → u 62 j = t 62 j
theorem WS_refl (b : Nat) (t : StI) : WS b t t := ⟨FRM_refl _ _, fun _ h => h, fun _ _ => rfl⟩
theorem nar1 : vp_nar .boolean (1 : Int32) ≠ 0 := by decide
theorem WS_up {b : Nat} {t s u : StI} {x : Int32} {a : Int} (h : WS b t s) (hx : x.toInt = a) (ha : a < (b : Int)) (k : u 62 = upd (s 62) x.toNatClampNeg (vp_nar .boolean 1)) (m : ∀ k', k' ≠ 62 → u k' = s k') (h0 : 0 ≤ a) : WS b t u := by
  refine ⟨FRM_up h.1 (by decide) m, fun j hj => ?_, fun j hj => ?_⟩
  · rw [k]
    by_cases e : j = x.toNatClampNeg
    · rw [e, upd_at]; exact nar1
    · rw [upd_lt e]; exact h.2.1 j hj
  · rw [k, upd_lt (by rw [iclamp, hx]; omega)]
    exact h.2.2 j hj
theorem i2 {x : Int32} (h : 0 ≤ x.toInt ∧ x.toInt < 700) : ((2 : Int32) * x).toInt = 2 * x.toInt := by
  have g : ((2 : Int32) * x).toInt = _ := imul (ilit (2 : Int32) 2 rfl) rfl
  omega
theorem i21 {x : Int32} (h : 0 ≤ x.toInt ∧ x.toInt < 700) : ((2 : Int32) * x + (1 : Int32)).toInt = 2 * x.toInt + 1 := by
  have g : ((2 : Int32) * x + (1 : Int32)).toInt = _ := iadd (i2 h) (ilit (1 : Int32) 1 rfl)
  omega
theorem i2x {x y : Int32} (h : 0 ≤ x.toInt ∧ x.toInt < 700) (hy : y.toInt = 0 ∨ y.toInt = 1) : ((2 : Int32) * x + y).toInt = 2 * x.toInt + y.toInt := by
  have g : ((2 : Int32) * x + y).toInt = _ := iadd (i2 h) rfl
  omega
theorem i21x {x y : Int32} (h : 0 ≤ x.toInt ∧ x.toInt < 700) (hy : y.toInt = 0 ∨ y.toInt = 1) : ((2 : Int32) * x + (1 : Int32) - y).toInt = 2 * x.toInt + 1 - y.toInt := by
  have g : ((2 : Int32) * x + (1 : Int32) - y).toInt = _ := isub (i21 h) rfl
  omega
/-- a node's kind and its children, below 700 -/
def NK (t : StI) (i : Nat) : Prop := (t 32 i).toInt = 7 ∨ ((t 32 i).toInt = 4 ∧ 0 ≤ (t 33 i).toInt ∧ (t 33 i).toInt < (i : Int)) ∨ ((1 ≤ (t 32 i).toInt ∧ (t 32 i).toInt ≤ 3) ∧ (0 ≤ (t 33 i).toInt ∧ (t 33 i).toInt < (i : Int)) ∧ 0 ≤ (t 34 i).toInt ∧ (t 34 i).toInt < (i : Int))
theorem NK_of {t : StI} {sz lv ct : Nat → Int} {i : Nat} (h : ND t sz lv ct) (hi : (i : Int) < (t 30 0).toInt) : NK t i := by
  obtain ⟨-, -, -, q⟩ := h i hi
  rcases q with q | q | q
  · exact Or.inl q.1
  · exact Or.inr (Or.inl ⟨q.1, q.2.1, q.2.2.1⟩)
  · exact Or.inr (Or.inr ⟨q.1, ⟨q.2.1, q.2.2.1⟩, q.2.2.2.1, q.2.2.2.2.1⟩)
set_option maxHeartbeats 4000000 in
theorem sp_Mo_want (F : Nat) (t : StI) (tL : StL) (x1 x2 : Int32) (hx : 0 ≤ x1.toInt ∧ x1.toInt < 700) (h2 : x2.toInt = 0 ∨ x2.toInt = 1) (nk : NK t x1.toNatClampNeg) : Sf (Mo_want F t tL x1 x2) (fun r => WS (2 * x1.toNatClampNeg) t r.1 ∧ ((t 32 x1.toNatClampNeg).toInt = 4 → ∀ z : Nat, (z : Int) = 2 * (t 33 x1.toNatClampNeg).toInt + 1 - x2.toInt → r.1 62 z ≠ 0)) := by
  have cx : (x1.toNatClampNeg : Int) = x1.toInt := by rw [iclamp]; omega
  unfold NK at nk
  rw [Mo_want]
  refine sf_idx rfl hx.1 (by omega) ?_
  refine sf_idx rfl hx.1 (by omega) ?_
  refine sf_idx rfl hx.1 (by omega) ?_
  refine sf_eq rfl (ilit (2 : Int32) 2 rfl) (fun c2 => ?_) (fun c2 => ?_)
  · have q : (0 ≤ (t 33 x1.toNatClampNeg).toInt ∧ (t 33 x1.toNatClampNeg).toInt < 700) ∧ (0 ≤ (t 34 x1.toNatClampNeg).toInt ∧ (t 34 x1.toNatClampNeg).toInt < 700) := by omega
    have b : (t 33 x1.toNatClampNeg).toInt < x1.toNatClampNeg ∧ (t 34 x1.toNatClampNeg).toInt < x1.toNatClampNeg := by omega
    clear nk
    refine sf_idx (i2 q.1) (by omega) (by omega) ?_
    refine sf_up (fun u1 k1 m1 => ?_)
    refine sf_idx (i21 q.1) (by omega) (by omega) ?_
    refine sf_up (fun u2 k2 m2 => ?_)
    refine sf_idx (i2 q.2) (by omega) (by omega) ?_
    refine sf_up (fun u3 k3 m3 => ?_)
    refine sf_idx (i21 q.2) (by omega) (by omega) ?_
    refine sf_up (fun u4 k4 m4 => ?_)
    exact sf_some ⟨WS_up (WS_up (WS_up (WS_up (WS_refl _ t) (i2 q.1) (by omega) k1 m1 (by omega)) (i21 q.1) (by omega) k2 m2 (by omega)) (i2 q.2) (by omega) k3 m3 (by omega)) (i21 q.2) (by omega) k4 m4 (by omega), fun e => by omega⟩
  refine sf_eq rfl (ilit (4 : Int32) 4 rfl) (fun c4 => ?_) (fun c4 => ?_)
  · have q : 0 ≤ (t 33 x1.toNatClampNeg).toInt ∧ (t 33 x1.toNatClampNeg).toInt < 700 := by omega
    have b : (t 33 x1.toNatClampNeg).toInt < x1.toNatClampNeg := by omega
    clear nk
    have g := i21x q h2
    refine sf_idx g (by omega) (by omega) ?_
    refine sf_up (fun u1 k1 m1 => ?_)
    refine sf_some ⟨WS_up (WS_refl _ t) g (by omega) k1 m1 (by omega), fun _ z hz => ?_⟩
    dsimp only
    rw [k1, clampN (n := z) (g.trans hz.symm), upd_at]
    exact nar1
  refine sf_eq rfl (ilit (7 : Int32) 7 rfl) (fun c7 => sf_some ⟨WS_refl _ t, fun e => absurd e c4⟩) (fun c7 => ?_)
  have q : (0 ≤ (t 33 x1.toNatClampNeg).toInt ∧ (t 33 x1.toNatClampNeg).toInt < 700) ∧ (0 ≤ (t 34 x1.toNatClampNeg).toInt ∧ (t 34 x1.toNatClampNeg).toInt < 700) := by omega
  have b : (t 33 x1.toNatClampNeg).toInt < x1.toNatClampNeg ∧ (t 34 x1.toNatClampNeg).toInt < x1.toNatClampNeg := by omega
  clear nk
  refine sf_idx (i2x q.1 h2) (by omega) (by omega) ?_
  refine sf_up (fun u1 k1 m1 => ?_)
  refine sf_idx (i2x q.2 h2) (by omega) (by omega) ?_
  refine sf_up (fun u2 k2 m2 => ?_)
  exact sf_some ⟨WS_up (WS_up (WS_refl _ t) (i2x q.1 h2) (by omega) k1 m1 (by omega)) (i2x q.2 h2) (by omega) k2 m2 (by omega), fun e => absurd e c4⟩

/-! a node's list -/
def MF : List Nat := [48, 51, 60, 61, 63]
/-- the list y has been made (or copied): p to q -/
def KQ (t : StI) (y : Nat) (w : Int) (r : StI × StL) : Prop := FRM MF t r.1 ∧ (∃ p q : Int32, r.1 60 = upd (t 60) y p ∧ r.1 61 = upd (t 61) y q ∧ (0 ≤ p.toInt ∧ p.toInt ≤ 34000) ∧ (0 ≤ q.toInt ∧ q.toInt ≤ 34000) ∧ ((r.1 51 0).toInt = 0 → q.toInt - p.toInt ≤ 200)) ∧ ((t 48 0).toInt ≤ (r.1 48 0).toInt ∧ (r.1 48 0).toInt ≤ (t 48 0).toInt + 400) ∧ ((r.1 51 0).toInt = 0 → (r.1 48 0).toInt ≤ (t 48 0).toInt + w)
theorem sp_Mo_makeList_223 (F : Nat) (t : StI) (tL : StL) (x1 x2 x3 : Int32) (y : Nat) (hy : 2 * x1.toInt + x2.toInt = y) (hx : 0 ≤ x1.toInt ∧ x1.toInt < 700) (h2 : x2.toInt = 0 ∨ x2.toInt = 1) : Sf (Mo_makeList_223 F t tL x1 x2 x3) (fun r => FRM [60, 61] t r.1 ∧ r.1 60 = upd (t 60) y x3 ∧ r.1 61 = upd (t 61) y (t 48 0)) := by
  have gy : ((2 : Int32) * x1 + x2).toInt = y := (i2x hx h2).trans hy
  have cy := clampN gy
  rw [Mo_makeList_223]
  refine sf_idx gy (by omega) (by omega) ?_
  rw [cy]
  refine sf_up (fun u k1 m1 => ?_)
  refine sf_idxc cy gy (by omega) (by omega) ?_
  refine sf_up (fun v k2 m2 => ?_)
  refine sf_some ⟨FRM_up (FRM_of1 (by decide) m1) (by decide) m2, ?_, ?_⟩
  · show v 60 = _
    rw [m2 60 (by decide), k1]
  · show v 61 = _
    rw [k2, m1 61 (by decide), m1 48 (by decide)]
/-- the rows from t's 48 on are the list y now -/
theorem ml_end {F : Nat} {t s : StI} {sL : StL} {x1 x2 : Int32} {y : Nat} {w : Int} (hy : 2 * x1.toInt + x2.toInt = y) (hx : 0 ≤ x1.toInt ∧ x1.toInt < 700) (h2 : x2.toInt = 0 ∨ x2.toInt = 1) (hf : FRM BF t s) (h48 : 0 ≤ (t 48 0).toInt ∧ (t 48 0).toInt + 400 ≤ 34000) (b1 : (t 48 0).toInt ≤ (s 48 0).toInt ∧ (s 48 0).toInt ≤ (t 48 0).toInt + 400) (hw : w ≤ 200) (b2 : (s 51 0).toInt = 0 → (s 48 0).toInt ≤ (t 48 0).toInt + w) : Sf (Mo_makeList_223 F s sL x1 x2 (t 48 0)) (KQ t y w) := by
  refine sf_imp (sp_Mo_makeList_223 F s sL x1 x2 (t 48 0) y hy hx h2) (fun r hr => ?_)
  obtain ⟨f1, f2, f3⟩ := hr
  have e48 : r.1 48 = s 48 := f1 48 (by decide)
  have e51 : r.1 51 = s 51 := f1 51 (by decide)
  refine ⟨FRM_trans (FRM_sub (by decide) hf) (FRM_sub (by decide) f1), ⟨t 48 0, s 48 0, ?_, ?_, by omega, by omega, ?_⟩, ?_, ?_⟩
  · rw [f2, hf 60 (by decide)]
  · rw [f3, hf 61 (by decide)]
  · rw [e51]; intro e; have := b2 e; omega
  · rw [e48]; exact b1
  · rw [e48, e51]; exact b2
theorem sp_Mo_makeList_155 (F : Nat) (hF : Big F) (t s : StI) (sL : StL) (x1 x2 y0 : Int32) (y : Nat) (hy : 2 * x1.toInt + x2.toInt = y) (hx : 0 ≤ x1.toInt ∧ x1.toInt < 700) (h2 : x2.toInt = 0 ∨ x2.toInt = 1) (hf : FRM BF t s) (h48 : 0 ≤ (t 48 0).toInt ∧ (t 48 0).toInt + 400 ≤ 34000) (b1 : (t 48 0).toInt ≤ (s 48 0).toInt ∧ (s 48 0).toInt ≤ (t 48 0).toInt + 400) (h0 : y0.toInt = 0 ∨ y0.toInt = 1) (b2 : y0.toInt = 0 → (s 48 0).toInt ≤ (t 48 0).toInt + 200) : Sf (Mo_makeList_155 F s sL x1 x2 (t 48 0) y0) (KQ t y 200) := by
  rw [Mo_makeList_155]
  refine sf_b01 h0 ?_
  refine sf_up (fun u k1 m1 => ?_)
  have e48 : u 48 = s 48 := m1 48 (by decide)
  have e51 : u 51 0 = y0 := by rw [k1]
  have fu : FRM BF t u := FRM_up hf (by decide) m1
  refine sf_bind (sp_Mo_clean F hF u sL (t 48 0) (by rw [e48]; omega)) (fun r hr => ?_)
  obtain ⟨f1, f2, f3⟩ := hr
  rw [e48] at f3
  have r51 : r.1 51 = u 51 := f1 51 (by decide)
  exact ml_end hy hx h2 (FRM_trans fu (FRM_sub (by decide) f1)) h48 (by omega) (by omega) (fun e => by rw [r51, e51] at e; have := b2 e; omega)
def cap (x : Int32) : Int := if x.toInt = 4 ∨ x.toInt = 7 then 1 else 200
set_option maxHeartbeats 4000000 in
theorem sp_Mo_makeList (F : Nat) (hF : Big F) (t : StI) (tL : StL) (x1 x2 : Int32) (y : Nat) (hy : 2 * x1.toInt + x2.toInt = y) (hx : 0 ≤ x1.toInt ∧ x1.toInt < 700) (h2 : x2.toInt = 0 ∨ x2.toInt = 1) (nk : NK t x1.toNatClampNeg) (h4 : (t 32 x1.toNatClampNeg).toInt ≠ 4) (hL : LB t) (h48 : 0 ≤ (t 48 0).toInt ∧ (t 48 0).toInt + 400 ≤ 34000) : Sf (Mo_makeList F t tL x1 x2) (KQ t y (cap (t 32 x1.toNatClampNeg))) := by
  have cx : (x1.toNatClampNeg : Int) = x1.toInt := by rw [iclamp]; omega
  unfold NK at nk
  have fin : ∀ r : StI × StL, BQ (t 48 0) t r → Sf (Mo_makeList_223 F r.1 r.2 x1 x2 (t 48 0)) (KQ t y 200) := fun r hr =>
    ml_end hy hx h2 hr.1 h48 (by have := hr.2; omega) (by omega) (fun _ => hr.2.2)
  rw [Mo_makeList]
  refine sf_idx rfl hx.1 (by omega) ?_
  refine sf_idx rfl hx.1 (by omega) ?_
  refine sf_idx rfl hx.1 (by omega) ?_
  by_cases c7 : (t 32 x1.toNatClampNeg).toInt = 7
  · have cc : cap (t 32 x1.toNatClampNeg) = 1 := by rw [cap, if_pos (Or.inr c7)]
    rw [cc]
    have k100 : ∀ a b : Int64, Sf (Mo_makeList_100 F t tL x1 x2 (t 48 0) a b (t 48 0)) (KQ t y 1) := fun a b => by
      rw [Mo_makeList_100]
      refine sf_bind (sp_Mo_addRow F t tL (t 48 0) _ _ (by omega)) (fun r hr => ?_)
      obtain ⟨f1, f2, f3, f4⟩ := hr
      exact ml_end hy hx h2 (FRM_sub (by decide) f1) h48 (by omega) (by omega) (fun _ => f3)
    have k83 : ∀ a : Int64, Sf (Mo_makeList_83 F t tL x1 x2 (t 48 0) a (t 48 0)) (KQ t y 1) := fun a => by
      rw [Mo_makeList_83]
      exact sf_any (sf_idx rfl hx.1 (by omega) (k100 _ _)) (k100 _ _)
    refine sf_eq rfl (ilit (2 : Int32) 2 rfl) (fun e => by omega) (fun _ => ?_)
    refine sf_eq rfl (ilit (3 : Int32) 3 rfl) (fun e => by omega) (fun _ => ?_)
    refine sf_eq rfl (ilit (7 : Int32) 7 rfl) (fun _ => ?_) (fun e => absurd c7 e)
    exact sf_any (k83 _) (sf_idx rfl hx.1 (by omega) (k83 _))
  have q : (1 ≤ (t 32 x1.toNatClampNeg).toInt ∧ (t 32 x1.toNatClampNeg).toInt ≤ 3) ∧ (0 ≤ (t 33 x1.toNatClampNeg).toInt ∧ (t 33 x1.toNatClampNeg).toInt < 700) ∧ (0 ≤ (t 34 x1.toNatClampNeg).toInt ∧ (t 34 x1.toNatClampNeg).toInt < 700) := by omega
  clear nk
  obtain ⟨qk, q3, q4⟩ := q
  have cc : cap (t 32 x1.toNatClampNeg) = 200 := by rw [cap, if_neg (by omega)]
  rw [cc]
  have j1 := i2 q3
  have j2 := i21 q3
  have j3 := i2 q4
  have j4 := i21 q4
  have j5 := i21x q4 h2
  have j6 := i2x q4 h2
  refine sf_eq rfl (ilit (2 : Int32) 2 rfl) (fun _ => ?_) (fun _ => ?_)
  · refine sf_bind (sp_Mo_both F hF t tL _ _ hL (by omega) (by omega) (by omega)) (fun r hr => ?_)
    have hb := hr.2
    refine sf_bind (sp_Mo_both F hF r.1 r.2 _ _ (LB_fr hL hr.1 (by decide) (by decide)) (by omega) (by omega) (by omega)) (fun s hs => ?_)
    have hc := hs.2
    have fs : FRM BF t s.1 := FRM_trans hr.1 hs.1
    have k150 : Sf (Mo_makeList_150 F s.1 s.2 x1 x2 (t 48 0)) (KQ t y 200) := by
      rw [Mo_makeList_150]
      exact sp_Mo_makeList_155 F hF t s.1 s.2 x1 x2 1 y hy hx h2 fs h48 (by omega) (Or.inr rfl) (fun e => absurd e (by decide))
    have g : ((s.1 48 0) - (t 48 0)).toInt = _ := isub rfl rfl
    refine sf_any ?_ k150
    refine sf_le (a := (s.1 48 0).toInt - (t 48 0).toInt) (by omega) (ilit (200 : Int32) 200 rfl) (fun c1 => ?_) (fun c1 => k150)
    exact sp_Mo_makeList_155 F hF t s.1 s.2 x1 x2 0 y hy hx h2 fs h48 (by omega) (Or.inl rfl) (fun _ => by omega)
  refine sf_eq rfl (ilit (3 : Int32) 3 rfl) (fun _ => ?_) (fun _ => ?_)
  · refine sf_any ?_ ?_
    · exact sf_bind (sp_Mo_both F hF t tL _ _ hL (by omega) (by omega) (by omega)) fin
    · exact sf_bind (sp_Mo_either F hF t tL _ _ hL (by omega) (by omega) (by omega)) fin
  refine sf_eq rfl (ilit (7 : Int32) 7 rfl) (fun e => absurd e c7) (fun _ => ?_)
  refine sf_any ?_ ?_
  · exact sf_bind (sp_Mo_either F hF t tL _ _ hL (by omega) (by omega) (by omega)) fin
  · exact sf_bind (sp_Mo_both F hF t tL _ _ hL (by omega) (by omega) (by omega)) fin
set_option maxHeartbeats 4000000 in
theorem sp_Mo_make (F : Nat) (hF : Big F) (t : StI) (tL : StL) (x1 x2 : Int32) (y : Nat) (hy : 2 * x1.toInt + x2.toInt = y) (hx : 0 ≤ x1.toInt ∧ x1.toInt < 700) (h2 : x2.toInt = 0 ∨ x2.toInt = 1) (nk : NK t x1.toNatClampNeg) (hz : (t 32 x1.toNatClampNeg).toInt = 4 → ∀ z : Nat, (z : Int) = 2 * (t 33 x1.toNatClampNeg).toInt + 1 - x2.toInt → (t 61 z).toInt - (t 60 z).toInt ≤ 200) (hL : LB t) (h48 : 0 ≤ (t 48 0).toInt ∧ (t 48 0).toInt + 400 ≤ 34000) : Sf (Mo_make F t tL x1 x2) (KQ t y (cap (t 32 x1.toNatClampNeg))) := by
  have cx : (x1.toNatClampNeg : Int) = x1.toInt := by rw [iclamp]; omega
  rw [Mo_make]
  refine sf_idx rfl hx.1 (by omega) ?_
  refine sf_eq rfl (ilit (4 : Int32) 4 rfl) (fun c4 => ?_) (fun c4 => ?_)
  · unfold NK at nk
    have q : 0 ≤ (t 33 x1.toNatClampNeg).toInt ∧ (t 33 x1.toNatClampNeg).toInt < 700 := by omega
    clear nk
    have gz0 := i21x q h2
    obtain ⟨z, ez⟩ : ∃ z : Nat, (z : Int) = 2 * (t 33 x1.toNatClampNeg).toInt + 1 - x2.toInt := ⟨(2 * (t 33 x1.toNatClampNeg).toInt + 1 - x2.toInt).toNat, by omega⟩
    have hzz := hz c4 z ez
    have gz := gz0.trans ez.symm
    have cz := clampN gz
    have gy : ((2 : Int32) * x1 + x2).toInt = y := (i2x hx h2).trans hy
    have cy := clampN gy
    have l := hL z
    have cc : cap (t 32 x1.toNatClampNeg) = 1 := by rw [cap, if_pos (Or.inl c4)]
    rw [cc]
    refine sf_idx rfl hx.1 (by omega) ?_
    refine sf_idx gz (by omega) (by omega) ?_
    refine sf_idx gy (by omega) (by omega) ?_
    rw [cz, cy]
    refine sf_up (fun u k1 m1 => ?_)
    rw [m1 33 (by decide), m1 61 (by decide)]
    refine sf_idx rfl hx.1 (by omega) ?_
    rw [cz]
    refine sf_idxc cz gz (by omega) (by omega) ?_
    refine sf_idxc cy gy (by omega) (by omega) ?_
    refine sf_up (fun v k2 m2 => ?_)
    have e48 : v 48 = t 48 := (m2 48 (by decide)).trans (m1 48 (by decide))
    refine sf_some ⟨FRM_up (FRM_of1 (by decide) m1) (by decide) m2, ⟨t 60 z, t 61 z, ?_, ?_, l.1, l.2, fun _ => hzz⟩, ?_, ?_⟩
    · show v 60 = _
      rw [m2 60 (by decide), k1]
    · show v 61 = _
      rw [k2]
    · dsimp only; rw [e48]; omega
    · dsimp only; rw [e48]; intro _; omega
  · refine sf_bind (sp_Mo_makeList F hF t tL x1 x2 y hy hx h2 nk c4 hL h48) (fun r hr => ?_)
    exact sf_some hr
/-! normal's loops -/
def cp (f : Nat → Int32) : Nat → Int
  | 0 => 0
  | y + 1 => cp f y + cap (f (y / 2))
theorem cap_b (x : Int32) : 1 ≤ cap x ∧ cap x ≤ 200 := by rw [cap]; split <;> omega
theorem cp_even (f : Nat → Int32) : ∀ i : Nat, cp f (2 * i) ≤ 400 * cN f i + 2 * i
  | 0 => by rw [cN]; show cp f 0 ≤ _; rw [cp]; omega
  | i + 1 => by
    have q := cp_even f i
    show cp f (2 * i + 1 + 1) ≤ _
    rw [cp, cp, show (2 * i + 1) / 2 = i by omega, show 2 * i / 2 = i by omega, cN, cap]
    split <;> omega
theorem cp_mono (f : Nat → Int32) (x : Nat) : ∀ y, x ≤ y → 0 ≤ cp f x → cp f x ≤ cp f y
  | 0, h, _ => by obtain rfl : x = 0 := by omega
                  exact Int.le_refl _
  | y + 1, h, h0 => by
    by_cases e : x = y + 1
    · subst e; exact Int.le_refl _
    · have q := cp_mono f x y (by omega) h0
      have c := cap_b (f (y / 2))
      rw [cp]; omega
theorem cp_nn (f : Nat → Int32) : ∀ y, 0 ≤ cp f y
  | 0 => by rw [cp]; exact Int.le_refl _
  | y + 1 => by
    have q := cp_nn f y
    have c := cap_b (f (y / 2))
    rw [cp]; omega
theorem idiv2 {x : Int32} (h : 0 ≤ x.toInt) : (x / (2 : Int32)).toInt = x.toInt / 2 := by
  have b := ibd x
  have e : (2 : Int32).toInt = 2 := rfl
  rw [Int32.toInt_div, e, Int.tdiv_eq_ediv_of_nonneg h]
  refine Int.bmod_eq_of_le ?_ ?_ <;> omega
theorem irem2 {x : Int32} (h : 0 ≤ x.toInt) : (x - x / (2 : Int32) * (2 : Int32)).toInt = x.toInt % 2 := by
  have b := ibd x
  have d := idiv2 h
  have g1 : (x / (2 : Int32) * (2 : Int32)).toInt = _ := imul d (ilit (2 : Int32) 2 rfl)
  have g2 : (x - x / (2 : Int32) * (2 : Int32)).toInt = _ := isub rfl g1
  omega
/-- the rows of the root's list are copied -/
theorem sp_Mo_normal_191 (F : Nat) (r0 : Nat) : ∀ (n : Nat) (t : StI) (tL : StL) (x1 : Int32), ((t 31 0).toInt = r0 ∧ r0 < 700) → (0 ≤ (t 61 (2 * r0)).toInt ∧ (t 61 (2 * r0)).toInt ≤ 34000) → 0 ≤ x1.toInt → (0 ≤ (t 52 0).toInt ∧ (t 52 0).toInt ≤ 200) → (x1.toInt < (t 61 (2 * r0)).toInt → (t 52 0).toInt + (t 61 (2 * r0)).toInt - x1.toInt ≤ 200) → 34000 - x1.toInt < (n : Int) → 1 ≤ n → Sf (Mo_normal_191 F n t tL x1) (fun r => FRM [52] t r.2.1 ∧ 0 ≤ (r.2.1 52 0).toInt ∧ (r.2.1 52 0).toInt ≤ 200) := by
  intro n; induction n with
  | zero => intro t tL x1 h31 h61 h0 h52 hs hn h1; omega
  | succ n ih =>
    intro t tL x1 h31 h61 h0 h52 hs hn h1
    have g31 : ((2 : Int32) * (t 31 0)).toInt = ((2 * r0 : Nat) : Int) := by rw [i2 (by omega)]; omega
    have c31 := clampN g31
    rw [Mo_normal_191]
    refine sf_idx g31 (by omega) (by omega) ?_
    rw [c31]
    refine sf_le rfl rfl (fun c1 => sf_some ⟨FRM_refl _ _, h52⟩) (fun c1 => ?_)
    have hs1 := hs c1
    have g1 : (x1 + (1 : Int32)).toInt = _ := iadd rfl (ilit (1 : Int32) 1 rfl)
    have g2 : ((t 52 0) + (1 : Int32)).toInt = _ := iadd rfl (ilit (1 : Int32) 1 rfl)
    refine sf_idx rfl h0 (by omega) ?_
    refine sf_idx rfl h52.1 (by omega) ?_
    refine sf_up (fun v _ _ => ?_)
    refine sf_idx rfl h0 (by omega) ?_
    refine sf_idx rfl h52.1 (by omega) ?_
    refine sf_up (fun v2 _ _ => ?_)
    refine sf_up (fun u k1 m1 => ?_)
    have e52 : (u 52 0).toInt = (t 52 0).toInt + 1 := by rw [k1]; show ((t 52 0) + (1 : Int32)).toInt = _; omega
    have e61 : u 61 = t 61 := m1 61 (by decide)
    have e31 : u 31 = t 31 := m1 31 (by decide)
    refine sf_imp (ih u v2 (x1 + 1) (by rw [e31]; exact h31) (by rw [e61]; exact h61) (by omega) (by omega) (by rw [e61]; omega) (by omega) (by omega)) (fun r hr => ⟨FRM_trans (FRM_of1 (by decide) m1) hr.1, hr.2⟩)
/-- what normal's later loops leave alone: the nodes and the marks of t0 -/
def NH (t0 : StI) (a r0 : Nat) : Prop := (∀ i : Nat, i < a → NK t0 i) ∧ ((t0 30 0).toInt = a) ∧ (a ≤ 700) ∧ ((t0 31 0).toInt = r0) ∧ (r0 < a) ∧ (cN (t0 32) a ≤ 39)
theorem NH.nk {t0 : StI} {a r0 : Nat} (P : NH t0 a r0) : ∀ i : Nat, i < a → NK t0 i := P.1
theorem NH.h30 {t0 : StI} {a r0 : Nat} (P : NH t0 a r0) : (t0 30 0).toInt = a := P.2.1
theorem NH.ha {t0 : StI} {a r0 : Nat} (P : NH t0 a r0) : a ≤ 700 := P.2.2.1
theorem NH.h31 {t0 : StI} {a r0 : Nat} (P : NH t0 a r0) : (t0 31 0).toInt = r0 := P.2.2.2.1
theorem NH.hr {t0 : StI} {a r0 : Nat} (P : NH t0 a r0) : r0 < a := P.2.2.2.2.1
theorem NH.hcn {t0 : StI} {a r0 : Nat} (P : NH t0 a r0) : cN (t0 32) a ≤ 39 := P.2.2.2.2.2
theorem NH_fr {m : List Nat} {t t' : StI} {a r0 : Nat} (h : NH t a r0) (hf : FRM m t t') (hm : ∀ k ∈ [30, 31, 32, 33, 34], k ∉ m) : NH t' a r0 := by
  have f := fun k (hk : k ∈ [30, 31, 32, 33, 34]) => hf k (hm k hk)
  have f30 := f 30 (by decide)
  have f31 := f 31 (by decide)
  have f32 := f 32 (by decide)
  have f33 := f 33 (by decide)
  have f34 := f 34 (by decide)
  refine ⟨fun i hi => ?_, by rw [f30]; exact h.h30, h.ha, by rw [f31]; exact h.h31, h.hr, by rw [f32]; exact h.hcn⟩
  unfold NK
  rw [f32, f33, f34]
  exact h.nk i hi
/-- a wanted not's list: its operand's other list is wanted too -/
def CL (t : StI) (a : Nat) (x : Int) : Prop := ∀ y : Nat, x < (y : Int) → y < 2 * a → t 62 y ≠ 0 → (t 32 (y / 2)).toInt = 4 → ∀ z : Nat, (z : Int) = 2 * (t 33 (y / 2)).toInt + 1 - (y : Int) % 2 → t 62 z ≠ 0
def NF : List Nat := [48, 51, 52, 60, 61, 63]
def NQ (m : List Nat) (t0 : StI) (r : Int32 × StI × StL) : Prop := FRM m t0 r.2.1 ∧ (0 ≤ (r.2.1 52 0).toInt ∧ (r.2.1 52 0).toInt ≤ 200) ∧ LB r.2.1
theorem sp_Mo_normal_170 (F : Nat) (hF : Big F) (t0 t : StI) (tL : StL) (a r0 : Nat) (H : NH t0 a r0) (hf : FRM MF t0 t) (h52 : (t0 52 0).toInt = 0) (hL : LB t) (hr : (t 51 0).toInt = 0 → (t 61 (2 * r0)).toInt - (t 60 (2 * r0)).toInt ≤ 200) : Sf (Mo_normal_170 F t tL) (NQ NF t0) := by
  have H' := NH_fr H hf (by decide)
  have h31 := H'.h31
  have hr0 := H'.hr
  have ha := H'.ha
  have e52 : t 52 = t0 52 := hf 52 (by decide)
  have g31 : ((2 : Int32) * (t 31 0)).toInt = ((2 * r0 : Nat) : Int) := by rw [i2 (by omega)]; omega
  have c31 := clampN g31
  have l := hL (2 * r0)
  have hq := fuel_ok hF (M := 34001) (by omega)
  rw [Mo_normal_170]
  refine sf_eq rfl (ilit (0 : Int32) 0 rfl) (fun c1 => ?_) (fun c1 => ?_)
  · have hr1 := hr c1
    refine sf_idx g31 (by omega) (by omega) ?_
    rw [c31]
    refine sf_imp (sp_Mo_normal_191 F r0 F t tL _ ⟨h31, by omega⟩ l.2 l.1.1 (by rw [e52]; omega) (fun _ => by rw [e52]; omega) (by omega) hq.2) (fun r hr' => ⟨FRM_trans (FRM_sub (by decide) hf) (FRM_sub (by decide) hr'.1), hr'.2, LB_fr hL hr'.1 (by decide) (by decide)⟩)
  · exact sf_some ⟨FRM_sub (by decide) hf, by dsimp only; rw [e52]; omega, hL⟩
set_option maxHeartbeats 4000000 in
theorem sp_Mo_normal_128 (F : Nat) (hF : Big F) (t0 : StI) (a r0 : Nat) (H : NH t0 a r0) (h52 : (t0 52 0).toInt = 0) (hw : t0 62 (2 * r0) ≠ 0) (hc : CL t0 a (-1)) : ∀ (n : Nat) (t : StI) (tL : StL) (x1 : Int32) (y : Nat), x1.toInt = y → y ≤ 2 * a → FRM MF t0 t → LB t → 0 ≤ (t 48 0).toInt → ((t 51 0).toInt = 0 → (t 48 0).toInt ≤ cp (t0 32) y) → ((t 51 0).toInt = 0 → ∀ j, j < y → t0 62 j ≠ 0 → (t 61 j).toInt - (t 60 j).toInt ≤ 200) → 2 * a - y < n → Sf (Mo_normal_128 F n t tL x1) (NQ NF t0) := by
  have ha := H.ha
  have h30 := H.h30
  have hr0 := H.hr
  intro n; induction n with
  | zero => intro t tL x1 y hy hy2 hf hL h48 hp hl hn; omega
  | succ n ih =>
    intro t tL x1 y hy hy2 hf hL h48 hp hl hn
    have g30 : ((2 : Int32) * (t 30 0)).toInt = 2 * (a : Int) := by
      rw [hf 30 (by decide)]
      have g : ((2 : Int32) * (t0 30 0)).toInt = _ := imul (ilit (2 : Int32) 2 rfl) h30
      omega
    have g1 : (x1 + (1 : Int32)).toInt = _ := iadd hy (ilit (1 : Int32) 1 rfl)
    have cy := clampN hy
    have e62 : t 62 = t0 62 := hf 62 (by decide)
    rw [Mo_normal_128]
    refine sf_le g30 hy (fun c1 => ?_) (fun c1 => ?_)
    · obtain rfl : y = 2 * a := by omega
      exact sp_Mo_normal_170 F hF t0 t tL a r0 H hf h52 hL (fun e => hl e (2 * r0) (by omega) hw)
    refine sf_eq rfl (ilit (0 : Int32) 0 rfl) (fun c2 => ?_) (fun c2 => ?_)
    · have hp1 := hp c2
      have hl1 := hl c2
      refine sf_idx hy (by omega) (by omega) ?_
      rw [cy, e62]
      refine sf_ite (fun c3 => ?_) (fun c3 => ?_)
      · rw [Mo_normal_164]
        have cb := cap_b (t0 32 (y / 2))
        refine ih t tL (x1 + 1) (y + 1) (by omega) (by omega) hf hL h48 (fun _ => by rw [cp]; omega) (fun _ j hj hne => ?_) (by omega)
        by_cases e : j = y
        · subst e; exact absurd c3 hne
        · exact hl1 j (by omega) hne
      · have d1 := idiv2 (x := x1) (by omega)
        have d2 := irem2 (x := x1) (by omega)
        have d3 : (x1 / (2 : Int32)).toInt = ((y / 2 : Nat) : Int) := by rw [d1, hy]; omega
        have c4 := clampN d3
        have hm1 := cp_even (t0 32) a
        have hm2 := cp_mono (t0 32) y (2 * a) (by omega) (cp_nn _ _)
        have hm3 := H.hcn
        have nk := H.nk (y / 2) (by omega)
        have e32 : t 32 = t0 32 := hf 32 (by decide)
        have e33 : t 33 = t0 33 := hf 33 (by decide)
        have e34 : t 34 = t0 34 := hf 34 (by decide)
        have nk' : NK t (x1 / (2 : Int32)).toNatClampNeg := by
          unfold NK
          rw [c4, e32, e33, e34]
          exact nk
        have hzz : (t 32 (x1 / (2 : Int32)).toNatClampNeg).toInt = 4 → ∀ z : Nat, (z : Int) = 2 * (t 33 (x1 / (2 : Int32)).toNatClampNeg).toInt + 1 - (x1 - x1 / (2 : Int32) * (2 : Int32)).toInt → (t 61 z).toInt - (t 60 z).toInt ≤ 200 := by
          intro k4 z hz
          rw [c4, e32] at k4
          rw [c4, e33, d2, hy] at hz
          have n4 : 0 ≤ (t0 33 (y / 2)).toInt ∧ (t0 33 (y / 2)).toInt < ((y / 2 : Nat) : Int) := by
            unfold NK at nk
            omega
          exact hl1 z (by omega) (hc y (by omega) (by omega) c3 k4 z hz)
        have mk := sp_Mo_make F hF t tL (x1 / 2) (x1 - x1 / 2 * 2) y (by rw [d2, d3, hy]; omega) (by rw [d3]; omega) (by rw [d2]; omega) nk' hzz hL ⟨h48, by omega⟩
        rw [c4, e32] at mk
        refine sf_bind mk (fun r hr => ?_)
        obtain ⟨f1, ⟨p, q, r60, r61, rp, rq, rpq⟩, r48, rcap⟩ := hr
        rw [Mo_normal_164]
        refine ih r.1 r.2 (x1 + 1) (y + 1) (by omega) (by omega) (FRM_trans hf f1) ?_ (by omega) (fun e => ?_) (fun e j hj hne => ?_) (by omega)
        · intro j
          rw [r60, r61]
          by_cases e : j = y
          · subst e; rw [upd_at, upd_at]; exact ⟨rp, rq⟩
          · rw [upd_lt e, upd_lt e]; exact hL j
        · have := rcap e
          rw [cp]; omega
        · rw [r60, r61]
          by_cases e2 : j = y
          · subst e2; rw [upd_at, upd_at]; exact rpq e
          · rw [upd_lt e2, upd_lt e2]; exact hl1 j (by omega) hne
    · exact sp_Mo_normal_170 F hF t0 t tL a r0 H hf h52 hL (fun e => absurd e c2)
def NG : List Nat := [48, 51, 52, 60, 61, 62, 63]
set_option maxHeartbeats 4000000 in
theorem sp_Mo_normal_97 (F : Nat) (hF : Big F) (t0 : StI) (a r0 : Nat) (H : NH t0 a r0) (h52 : (t0 52 0).toInt = 0) (h51 : (t0 51 0).toInt = 0) (h48 : (t0 48 0).toInt = 0) (hL : LB t0) : ∀ (n : Nat) (t : StI) (tL : StL) (x1 : Int32), (-1 ≤ x1.toInt ∧ x1.toInt < 2 * a) → FRM [62] t0 t → t 62 (2 * r0) ≠ 0 → CL t a x1.toInt → x1.toInt + 1 < (n : Int) → Sf (Mo_normal_97 F n t tL x1) (NQ NG t0) := by
  have ha := H.ha
  intro n; induction n with
  | zero => intro t tL x1 hx hf hw hc hn; omega
  | succ n ih =>
    intro t tL x1 hx hf hw hc hn
    have H' := NH_fr H hf (by decide)
    rw [Mo_normal_97]
    refine sf_lt rfl (ilit (0 : Int32) 0 rfl) (fun c1 => ?_) (fun c1 => ?_)
    · have e1 : x1.toInt = -1 := by omega
      rw [e1] at hc
      have hq := fuel_ok hF (M := 2000) (by omega)
      have z0 := ilit (0 : Int32) 0 rfl
      have e48 : t 48 = t0 48 := hf 48 (by decide)
      refine sf_imp (sp_Mo_normal_128 F hF t a r0 H' (by rw [hf 52 (by decide)]; exact h52) hw hc F t tL 0 0 z0 (by omega) (FRM_refl _ _) (LB_fr hL hf (by decide) (by decide)) (by rw [e48]; omega) (fun _ => by rw [e48, cp]; omega) (fun _ j hj => by omega) (by omega)) (fun r hr => ⟨FRM_trans (FRM_sub (by decide) hf) (FRM_sub (by decide) hr.1), hr.2⟩)
    have gd : (x1 + (-1 : Int32)).toInt = x1.toInt - 1 := idec c1
    obtain ⟨y, hy⟩ : ∃ y : Nat, x1.toInt = y := ⟨x1.toInt.toNat, by omega⟩
    have cy := clampN hy
    refine sf_idx rfl c1 (by omega) ?_
    rw [cy]
    refine sf_ite (fun c3 => ?_) (fun c3 => ?_)
    · rw [Mo_normal_120]
      refine ih t tL (x1 + -1) (by omega) hf hw ?_ (by omega)
      intro j h1 h2 h3
      by_cases e : j = y
      · subst e; exact absurd c3 h3
      · exact hc j (by omega) h2 h3
    · have d1 := idiv2 (x := x1) c1
      have d2 := irem2 (x := x1) c1
      have d3 : (x1 / (2 : Int32)).toInt = ((y / 2 : Nat) : Int) := by rw [d1, hy]; omega
      have c4 := clampN d3
      have nk := H'.nk (y / 2) (by omega)
      refine sf_bind (sp_Mo_want F t tL (x1 / 2) (x1 - x1 / 2 * 2) (by rw [d3]; omega) (by rw [d2]; omega) (by rw [c4]; exact nk)) (fun r hr => ?_)
      obtain ⟨⟨f1, f2, f4⟩, f3⟩ := hr
      rw [c4, d2, hy] at f3
      rw [c4] at f4
      rw [Mo_normal_120]
      have e32 : r.1 32 = t 32 := f1 32 (by decide)
      have e33 : r.1 33 = t 33 := f1 33 (by decide)
      refine ih r.1 r.2 (x1 + -1) (by omega) (FRM_trans hf f1) (f2 _ hw) ?_ (by omega)
      intro j h1 h2 h3
      rw [e32, e33]
      by_cases e : j = y
      · subst e; exact fun k4 z hz => f3 k4 z hz
      · intro k4 z hz
        rw [f4 j (by omega)] at h3
        exact f2 z (hc j (by omega) h2 h3 k4 z hz)
set_option maxHeartbeats 4000000 in
theorem sp_Mo_normal_51 (F : Nat) (hF : Big F) (t0 : StI) (a r0 : Nat) (H : NH t0 a r0) (h52 : (t0 52 0).toInt = 0) (h51 : (t0 51 0).toInt = 0) (h48 : (t0 48 0).toInt = 0) (hL : LB t0) : ∀ (n : Nat) (t : StI) (tL : StL) (x1 : Int32) (y : Nat), x1.toInt = y → y ≤ 2 * a → FRM [62] t0 t → (2 * r0 < y → t 62 (2 * r0) ≠ 0) → 2 * a - y < n → Sf (Mo_normal_51 F n t tL x1) (NQ NG t0) := by
  have ha := H.ha
  have h30 := H.h30
  have h31 := H.h31
  have hr := H.hr
  intro n; induction n with
  | zero => intro t tL x1 y hy hy2 hf hw hn; omega
  | succ n ih =>
    intro t tL x1 y hy hy2 hf hw hn
    have g30 : ((2 : Int32) * (t 30 0)).toInt = 2 * (a : Int) := by
      rw [hf 30 (by decide)]
      have g : ((2 : Int32) * (t0 30 0)).toInt = _ := imul (ilit (2 : Int32) 2 rfl) h30
      omega
    have g31 : ((2 : Int32) * (t 31 0)).toInt = 2 * (r0 : Int) := by
      rw [hf 31 (by decide)]
      have g : ((2 : Int32) * (t0 31 0)).toInt = _ := imul (ilit (2 : Int32) 2 rfl) h31
      omega
    have gm : ((2 : Int32) * (t 30 0) - (1 : Int32)).toInt = _ := isub g30 (ilit (1 : Int32) 1 rfl)
    have g1 : (x1 + (1 : Int32)).toInt = _ := iadd hy (ilit (1 : Int32) 1 rfl)
    have cy := clampN hy
    have hq := fuel_ok hF (M := 2000) (by omega)
    rw [Mo_normal_51]
    refine sf_le g30 hy (fun c1 => ?_) (fun c1 => ?_)
    · refine sp_Mo_normal_97 F hF t0 a r0 H h52 h51 h48 hL F t tL _ (by omega) hf (hw (by omega)) ?_ (by omega)
      intro j k1 k2
      omega
    refine sf_eq hy g31 (fun c2 => ?_) (fun c2 => ?_)
    · rw [Mo_normal_81]
      refine sf_idx hy (by omega) (by omega) ?_
      rw [cy]
      refine sf_up (fun u k1 m1 => ?_)
      refine ih u tL (x1 + 1) (y + 1) (by omega) (by omega) (FRM_up hf (by decide) m1) (fun _ => ?_) (by omega)
      rw [k1, show y = 2 * r0 by omega, upd_at]
      exact nar1
    · rw [Mo_normal_81]
      refine sf_idx hy (by omega) (by omega) ?_
      rw [cy]
      refine sf_up (fun u k1 m1 => ?_)
      refine ih u tL (x1 + 1) (y + 1) (by omega) (by omega) (FRM_up hf (by decide) m1) (fun e => ?_) (by omega)
      rw [k1, upd_lt (by omega)]
      exact hw (by omega)
set_option maxHeartbeats 4000000 in
theorem sp_Mo_normal (F : Nat) (hF : Big F) (t : StI) (tL : StL) (h : TR t) (hL : LB t) : Sf (Mo_normal F t tL) (NQ [0, 48, 51, 52, 60, 61, 62, 63] t) := by
  rw [Mo_normal]
  refine sf_up (fun t1 k1 m1 => ?_)
  refine sf_up (fun t2 k2 m2 => ?_)
  refine sf_up (fun t3 k3 m3 => ?_)
  refine sf_up (fun t4 k4 m4 => ?_)
  have z0 := ilit (0 : Int32) 0 rfl
  have e52 : (t4 52 0).toInt = 0 := by rw [m4 52 (by decide), m3 52 (by decide), k2]; exact z0
  have e48 : (t4 48 0).toInt = 0 := by rw [m4 48 (by decide), k3]; exact z0
  have e51 : (t4 51 0).toInt = 0 := by rw [k4]; exact z0
  have ff : FRM [0, 48, 51, 52] t t4 := FRM_up (FRM_up (FRM_up (FRM_of1 (by decide) m1) (by decide) m2) (by decide) m3) (by decide) m4
  have h2 := TR_fr h ff (by decide)
  have hL4 := LB_fr hL ff (by decide) (by decide)
  refine sf_eq rfl (ilit (-1 : Int32) (-1) rfl) (fun c1 => ?_) (fun c1 => ?_)
  · refine sf_idx z0 (by omega) (by omega) ?_
    refine sf_up (fun v _ _ => ?_)
    refine sf_idx z0 (by omega) (by omega) ?_
    refine sf_up (fun v2 _ _ => ?_)
    refine sf_up (fun t5 k5 m5 => ?_)
    have fm : FRM [52] t4 t5 := FRM_of1 (by decide) m5
    have z1 := ilit (1 : Int32) 1 rfl
    have x52 : (t5 52 0).toInt = 1 := by rw [k5]; exact z1
    exact sf_some ⟨FRM_trans (FRM_sub (by decide) ff) (FRM_sub (by decide) fm), by dsimp only; omega, LB_fr hL4 fm (by decide) (by decide)⟩
  · rcases h2.2 with e | ⟨sz, lv, ct, a, n1, n2, n3, n4, n5, n6, n7, n8, n9⟩
    · exact absurd e c1
    obtain ⟨r0, hr0⟩ : ∃ r0 : Nat, (t4 31 0).toInt = r0 := ⟨(t4 31 0).toInt.toNat, by omega⟩
    have H : NH t4 a r0 := ⟨fun i hi => NK_of n1 (by rw [n2]; omega), n2, n3, hr0, by omega, n9⟩
    have hq := fuel_ok hF (M := 2000) (by omega)
    exact sf_imp (sp_Mo_normal_51 F hF t4 a r0 H e52 e51 e48 hL4 F t4 tL 0 0 z0 (by omega) (FRM_refl _ _) (fun e => by omega) (by omega)) (fun r hr => ⟨FRM_trans (FRM_sub (by decide) ff) (FRM_sub (by decide) hr.1), hr.2⟩)

/-! the reference is safe -/
def MI (t : StI) (_ : StL) : Prop := M0I t ∧ (0 ≤ (t 3 0).toInt ∧ (t 3 0).toInt ≤ 600) ∧ (t 46 0).toInt ≤ 2000 ∧ (0 ≤ (t 52 0).toInt ∧ (t 52 0).toInt ≤ 200) ∧ LB t
def ML (t : StI) : Int := (t 3 0).toInt
theorem MI_fr {m : List Nat} {t t' : StI} {tL tL' : StL} (h : MI t tL) (hf : FRM m t t') (hm : ∀ k ∈ [3, 46, 52, 60, 61, 6, 7, 14, 16, 31, 20, 22, 23, 24, 30, 32, 33, 34], k ∉ m) : MI t' tL' ∧ ML t' = ML t := by
  have f := fun k (hk : k ∈ [3, 46, 52, 60, 61, 6, 7, 14, 16, 31, 20, 22, 23, 24, 30, 32, 33, 34]) => hf k (hm k hk)
  have f3 := f 3 (by decide)
  refine ⟨⟨M0I_fr h.1 hf (fun k hk => hm k ?_), by rw [f3]; exact h.2.1, by rw [f 46 (by decide)]; exact h.2.2.1, by rw [f 52 (by decide)]; exact h.2.2.2.1, LB_fr h.2.2.2.2 hf (hm 60 (by decide)) (hm 61 (by decide))⟩, by unfold ML; rw [f3]⟩
  revert k
  decide
theorem mo_ok {F : Nat} (hF : Big F) : MoOk F MI ML := by
  refine ⟨?_, ?_, ?_, ?_, ?_, ?_, ?_, ?_, ?_, ?_, ?_, ?_, ?_, ?_⟩
  · intro mo moL z1 z2 z3 z4 z5 h
    exact sf_imp (sp_Mo_feed F hF mo moL z1 z2 z3 z4 z5 trivial) (fun r hr => MI_fr h hr.2 (by decide))
  · intro mo moL z1 h
    refine sf_imp (sp_Mo_end F hF mo moL z1 h.2.1) (fun r hr => ?_)
    obtain ⟨q, f⟩ := hr
    have h3 := h.2.1
    have b3 : 0 ≤ (r.2.1 3 0).toInt ∧ (r.2.1 3 0).toInt ≤ 600 := by omega
    refine ⟨⟨M0I_fr h.1 f (by decide), b3, by rw [f 46 (by decide)]; exact h.2.2.1, by rw [f 52 (by decide)]; exact h.2.2.2.1, LB_fr h.2.2.2.2 f (by decide) (by decide)⟩, ?_, ?_⟩
    · unfold ML endSt
      split <;> omega
    · unfold ML endLen
      split <;> omega
  · intro mo moL h
    refine sf_imp (sp_Mo_read F hF mo moL h.2.1 h.1) (fun r hr => ?_)
    obtain ⟨q, f, e⟩ := hr
    exact ⟨⟨q, by omega, by rw [f 46 (by decide)]; exact h.2.2.1, by rw [f 52 (by decide)]; exact h.2.2.2.1, LB_fr h.2.2.2.2 f (by decide) (by decide)⟩, e⟩
  · intro mo moL z1 h
    exact sf_imp (sp_Mo_fault F hF mo moL z1 trivial) (fun r hr => MI_fr h hr.2 (by decide))
  · intro mo moL z1 z2 h
    exact sf_imp (sp_Mo_atom F hF mo moL z1 z2 h.1.2.2.1.1.2.2) (fun r hr => MI_fr h hr.2 (by decide))
  · intro mo moL z1 z2 h
    exact sf_imp (sp_Mo_atomByte F hF mo moL z1 z2 h.1.1 h.1.2.2.1.1.2.1 h.1.2.2.1.1.2.2.2) (fun r hr => MI_fr h hr (by decide))
  · intro mo moL z1 z2 h
    exact sf_imp (sp_Mo_range F hF mo moL z1 z2 h.1.2.2.1.1.2.2) (fun r hr => MI_fr h hr.2 (by decide))
  · intro mo moL z1 h
    exact sf_imp (sp_Mo_tree F hF mo moL z1 h.1.2.2.1) (fun r hr => MI_fr h hr (by decide))
  · intro mo moL h
    refine sf_imp (sp_Mo_print F hF mo moL h.1.1 h.1.2.2.1) (fun r hr => ?_)
    obtain ⟨f, b⟩ := hr
    exact ⟨⟨M0I_fr h.1 f (by decide), by rw [f 3 (by decide)]; exact h.2.1, b.2, by rw [f 52 (by decide)]; exact h.2.2.2.1, LB_fr h.2.2.2.2 f (by decide) (by decide)⟩, by unfold ML; rw [f 3 (by decide)]⟩
  · intro mo moL z1 h
    exact sf_imp (sp_Mo_printed F hF mo moL z1 h.2.2.1) (fun r hr => MI_fr h hr.2 (by decide))
  · intro mo moL h
    refine sf_imp (sp_Mo_normal F hF mo moL h.1.2.2.1 h.2.2.2.2) (fun r hr => ?_)
    obtain ⟨f, b, l⟩ := hr
    exact ⟨⟨M0I_fr h.1 f (by decide), by rw [f 3 (by decide)]; exact h.2.1, by rw [f 46 (by decide)]; exact h.2.2.1, b, l⟩, by unfold ML; rw [f 3 (by decide)]⟩
  · intro mo moL z1 z2 h _
    exact sf_imp (sp_Mo_row F hF mo moL z1 z2 h.2.2.2.1) (fun r hr => MI_fr h hr.2 (by decide))
  · intro mo moL z1 h
    exact sf_imp (sp_Mo_ask F hF mo moL z1 (AH_TR h.1.2.2.1)) (fun r hr => MI_fr h hr (by decide))
  · intro mo moL h
    exact sf_imp (sp_Mo_ways F hF mo moL (AH_TR h.1.2.2.1) h.1.2.2.1.1.2.2.1) (fun r hr => MI_fr h hr (by decide))
theorem mo_start : MI mo0 moL0 := by
  refine ⟨⟨by decide, by decide, ⟨⟨⟨fun _ => 0, fun _ => 0, fun _ => 0, 0, ?_, by decide, by omega⟩, ?_, by decide, by decide⟩, Or.inl (by decide)⟩, by decide, by decide, by decide⟩, by decide, by decide, by decide, ?_⟩
  · intro i hi
    have e : (mo0 30 0).toInt = 0 := by decide
    omega
  · intro j
    have e2 : mo0 22 j = 0 := rfl
    have e3 : mo0 23 j = 0 := rfl
    have e4 : mo0 24 j = 0 := rfl
    rw [e2, e3, e4]
    decide
  · intro j
    have e2 : mo0 60 j = 0 := rfl
    have e3 : mo0 61 j = 0 := rfl
    rw [e2, e3]
    decide
theorem mo_len : ML mo0 = 0 := by unfold ML; decide

