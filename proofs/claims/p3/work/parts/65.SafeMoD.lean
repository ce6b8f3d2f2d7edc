/-! the reference's tree -/
theorem sp_Mo_plan (F : Nat) (t : StI) (tL : StL) (x1 x2 x3 : Int32) (n : Nat) (hn : (t 40 0).toInt = n) (h : n < 2000) : Sf (Mo_plan F t tL x1 x2 x3) (fun r => (r.1 40 0).toInt = n + 1 ∧ r.1 41 = upd (t 41) n x1 ∧ r.1 42 = upd (t 42) n x2 ∧ r.1 43 = upd (t 43) n x3 ∧ FRM [40, 41, 42, 43] t r.1) := by
  rw [Mo_plan]
  have en : (t 40 0).toNatClampNeg = n := clampN hn
  refine sf_idx hn (by omega) (by omega) ?_
  refine sf_up (fun t1 h1 n1 => ?_)
  have e1 : t1 40 = t 40 := n1 40 (by decide)
  refine sf_idx (a := n) (by rw [e1]; exact hn) (by omega) (by omega) ?_
  refine sf_up (fun t2 h2 n2 => ?_)
  have e2 : t2 40 = t 40 := (n2 40 (by decide)).trans e1
  refine sf_idx (a := n) (by rw [e2]; exact hn) (by omega) (by omega) ?_
  refine sf_up (fun t3 h3 n3 => ?_)
  have e3 : t3 40 = t 40 := (n3 40 (by decide)).trans e2
  refine sf_up (fun t4 h4 n4 => ?_)
  have g1 : ((t 40 0) + (1 : Int32)).toInt = _ := iadd hn (ilit (1 : Int32) 1 rfl)
  have e4 : t4 40 0 = (t 40 0) + 1 := by rw [h4, e3]
  have g3 : (t4 40 0).toInt = n + 1 := by rw [e4]; omega
  rw [e1] at h2
  rw [e2] at h3
  rw [en] at h1 h2 h3
  refine sf_some ⟨g3, ?_, ?_, ?_, ?_⟩
  · show t4 41 = _
    rw [n4 41 (by decide), n3 41 (by decide), n2 41 (by decide), h1]
  · show t4 42 = _
    rw [n4 42 (by decide), n3 42 (by decide), h2, n1 42 (by decide)]
  · show t4 43 = _
    rw [n4 43 (by decide), h3, n2 43 (by decide), n1 43 (by decide)]
  · exact FRM_up (FRM_up (FRM_up (FRM_up (FRM_refl _ t) (by decide) n1) (by decide) n2) (by decide) n3) (by decide) n4
theorem ND_fr {m : List Nat} {t t' : StI} {sz lv ct : Nat → Int} (h : ND t sz lv ct) (hf : FRM m t t') (hm : ∀ k ∈ [20, 24, 30, 32, 33, 34], k ∉ m) : ND t' sz lv ct := by
  have f := fun k (hk : k ∈ [20, 24, 30, 32, 33, 34]) => hf k (hm k hk)
  have f20 := f 20 (by decide)
  have f24 := f 24 (by decide)
  have f30 := f 30 (by decide)
  have f32 := f 32 (by decide)
  have f33 := f 33 (by decide)
  have f34 := f 34 (by decide)
  intro i hi
  rw [f30] at hi
  rw [f32, f33, f34, f20, f24]
  exact h i hi
/-- while the tree is laid flat: k entries wait -/
def FL (t : StI) (sz lv ct : Nat → Int) (a k : Nat) : Prop := (ND t sz lv ct) ∧ ((t 30 0).toInt = a) ∧ (a ≤ 700) ∧ ((t 40 0).toInt = k) ∧ (0 ≤ (t 44 0).toInt ∧ (t 44 0).toInt + sm sz (t 42) k ≤ 700) ∧ (∀ j, j < k → 0 ≤ (t 42 j).toInt ∧ (t 42 j).toInt < a)
theorem FL.nd {t : StI} {sz lv ct : Nat → Int} {a k : Nat} (P : FL t sz lv ct a k) : ND t sz lv ct := P.1
theorem FL.h30 {t : StI} {sz lv ct : Nat → Int} {a k : Nat} (P : FL t sz lv ct a k) : (t 30 0).toInt = a := P.2.1
theorem FL.ha {t : StI} {sz lv ct : Nat → Int} {a k : Nat} (P : FL t sz lv ct a k) : a ≤ 700 := P.2.2.1
theorem FL.h40 {t : StI} {sz lv ct : Nat → Int} {a k : Nat} (P : FL t sz lv ct a k) : (t 40 0).toInt = k := P.2.2.2.1
theorem FL.s44 {t : StI} {sz lv ct : Nat → Int} {a k : Nat} (P : FL t sz lv ct a k) : 0 ≤ (t 44 0).toInt ∧ (t 44 0).toInt + sm sz (t 42) k ≤ 700 := P.2.2.2.2.1
theorem FL.e42 {t : StI} {sz lv ct : Nat → Int} {a k : Nat} (P : FL t sz lv ct a k) : ∀ j, j < k → 0 ≤ (t 42 j).toInt ∧ (t 42 j).toInt < a := P.2.2.2.2.2
theorem FL_k {t : StI} {sz lv ct : Nat → Int} {a : Nat} (nd : ND t sz lv ct) (h30 : (t 30 0).toInt = a) : ∀ k, (∀ j, j < k → 0 ≤ (t 42 j).toInt ∧ (t 42 j).toInt < a) → (k : Int) ≤ sm sz (t 42) k
  | 0, _ => by rw [sm]; omega
  | k + 1, h => by
    have q := FL_k nd h30 k (fun j hj => h j (by omega))
    have q2 := h k (by omega)
    have q3 := (nd (t 42 k).toNatClampNeg (by rw [iclamp, h30]; omega)).1
    rw [sm]; omega
def FLF : List Nat := [40, 41, 42, 43, 44, 45]
def FLQ (t : StI) (r : StI × StL) : Prop := FRM FLF t r.1 ∧ 0 ≤ (r.1 44 0).toInt ∧ (r.1 44 0).toInt ≤ 700
theorem FLQ_fr {t s : StI} {r : StI × StL} (hf : FRM FLF t s) (h : FLQ s r) : FLQ t r := ⟨FRM_trans hf h.1, h.2⟩
/-- behind a node that has been written down: 44 counts it, and on -/
theorem fl_174 {F : Nat} {K : StI → StL → Option (StI × StL)} {t0 u : StI} {uL : StL} {sz lv ct : Nat → Int} {a k : Nat} {M : Int} (nd : ND u sz lv ct) (h30 : (u 30 0).toInt = a) (ha : a ≤ 700) (h40 : (u 40 0).toInt = k) (s44 : 0 ≤ (u 44 0).toInt ∧ (u 44 0).toInt + 1 + sm sz (u 42) k ≤ 700) (e42 : ∀ j, j < k → 0 ≤ (u 42 j).toInt ∧ (u 42 j).toInt < a) (hM : sm sz (u 42) k < M) (hf : FRM FLF t0 u)
    (ih : ∀ (t : StI) (tL : StL) (k : Nat), FL t sz lv ct a k → sm sz (t 42) k < M → FRM FLF t0 t → Sf (K t tL) (FLQ t0)) : Sf (Mo_flatten_174 F K u uL) (FLQ t0) := by
  rw [Mo_flatten_174]
  have nk := FL_k nd h30 k e42
  have g1 : ((u 44 0) + (1 : Int32)).toInt = _ := iadd rfl (ilit (1 : Int32) 1 rfl)
  refine sf_up (fun t1 k1 m1 => ?_)
  have x44 : (t1 44 0).toInt = (u 44 0).toInt + 1 := by rw [k1]; show ((u 44 0) + (1 : Int32)).toInt = _; omega
  have fm : FRM [44] u t1 := FRM_of1 (by decide) m1
  have e42' : t1 42 = u 42 := m1 42 (by decide)
  refine ih t1 uL k ⟨ND_fr nd fm (by decide), by rw [m1 30 (by decide)]; exact h30, ha, by rw [m1 40 (by decide)]; exact h40, by rw [x44, e42']; omega, by rw [e42']; exact e42⟩ (by rw [e42']; exact hM) (FRM_trans hf (FRM_sub (by decide) fm))
set_option maxHeartbeats 4000000 in
theorem fl_162 {F : Nat} {K : StI → StL → Option (StI × StL)} {t0 u : StI} {uL : StL} {sz lv ct : Nat → Int} {a k : Nat} {M : Int} {x : Int32} (nd : ND u sz lv ct) (h30 : (u 30 0).toInt = a) (ha : a ≤ 700) (h40 : (u 40 0).toInt = k) (hx : 0 ≤ x.toInt ∧ x.toInt < a) (h33 : 0 ≤ (u 33 x.toNatClampNeg).toInt ∧ (u 33 x.toNatClampNeg).toInt < a) (s44 : 0 ≤ (u 44 0).toInt ∧ (u 44 0).toInt + 1 + sm sz (u 42) k + sz (u 33 x.toNatClampNeg).toNatClampNeg ≤ 700) (e42 : ∀ j, j < k → 0 ≤ (u 42 j).toInt ∧ (u 42 j).toInt < a) (hM : sm sz (u 42) k + sz (u 33 x.toNatClampNeg).toNatClampNeg < M) (hf : FRM FLF t0 u)
    (ih : ∀ (t : StI) (tL : StL) (k : Nat), FL t sz lv ct a k → sm sz (t 42) k < M → FRM FLF t0 t → Sf (K t tL) (FLQ t0)) : Sf (Mo_flatten_162 F K u uL x) (FLQ t0) := by
  rw [Mo_flatten_162]
  have nk := FL_k nd h30 k e42
  have n1 := (nd (u 33 x.toNatClampNeg).toNatClampNeg (by rw [iclamp, h30]; omega)).1
  refine sf_idx rfl hx.1 (by omega) ?_
  refine sf_bind (sp_Mo_plan F u uL 0 (u 33 x.toNatClampNeg) 0 k h40 (by omega)) (fun r hr => ?_)
  obtain ⟨q1, q2, q3, q4, q5⟩ := hr
  have s1 : sm sz (r.1 42) (k + 1) = sm sz (u 42) k + sz (u 33 x.toNatClampNeg).toNatClampNeg := by rw [q3, sm, sm_upd k (by omega), upd_at]
  refine fl_174 (k := k + 1) (M := M) (ND_fr nd q5 (by decide)) (by rw [q5 30 (by decide)]; exact h30) ha (by rw [q1]; rfl) (by rw [q5 44 (by decide), s1]; omega) ?_ (by rw [s1]; exact hM) (FRM_trans hf (FRM_sub (by decide) q5)) ih
  intro j hj
  rw [q3]
  by_cases e : j = k
  · subst e; rw [upd_at]; exact h33
  · rw [upd_lt e]; exact e42 j (by omega)
set_option maxHeartbeats 4000000 in
theorem fl_139 {F : Nat} {K : StI → StL → Option (StI × StL)} {t0 u : StI} {uL : StL} {sz lv ct : Nat → Int} {a k : Nat} {M : Int} {x y0 : Int32} (nd : ND u sz lv ct) (h30 : (u 30 0).toInt = a) (ha : a ≤ 700) (h40 : (u 40 0).toInt = k) (hx : 0 ≤ x.toInt ∧ x.toInt < a) (h7 : (u 32 x.toNatClampNeg).toInt ≠ 7) (s44 : 0 ≤ (u 44 0).toInt ∧ (u 44 0).toInt + sm sz (u 42) k + sz x.toNatClampNeg ≤ 700) (e42 : ∀ j, j < k → 0 ≤ (u 42 j).toInt ∧ (u 42 j).toInt < a) (hM : sm sz (u 42) k + sz x.toNatClampNeg ≤ M) (hf : FRM FLF t0 u)
    (ih : ∀ (t : StI) (tL : StL) (k : Nat), FL t sz lv ct a k → sm sz (t 42) k < M → FRM FLF t0 t → Sf (K t tL) (FLQ t0)) : Sf (Mo_flatten_139 F K u uL x y0 (u 44 0)) (FLQ t0) := by
  rw [Mo_flatten_139]
  have nk := FL_k nd h30 k e42
  have nx := nd x.toNatClampNeg (by rw [iclamp, h30]; omega)
  have cx : (x.toNatClampNeg : Int) = x.toInt := by rw [iclamp]; omega
  refine sf_idx rfl s44.1 (by omega) ?_
  refine sf_up (fun v k1 m1 => ?_)
  have fm : FRM [45] u v := FRM_of1 (by decide) m1
  have e32 : v 32 = u 32 := m1 32 (by decide)
  have e33 : v 33 = u 33 := m1 33 (by decide)
  have e34 : v 34 = u 34 := m1 34 (by decide)
  have e42v : v 42 = u 42 := m1 42 (by decide)
  have e44v : v 44 = u 44 := m1 44 (by decide)
  have nv : ND v sz lv ct := ND_fr nd fm (by decide)
  have v30 : (v 30 0).toInt = a := by rw [m1 30 (by decide)]; exact h30
  have v40 : (v 40 0).toInt = k := by rw [m1 40 (by decide)]; exact h40
  have fv : FRM FLF t0 v := FRM_trans hf (FRM_sub (by decide) fm)
  refine sf_idx rfl hx.1 (by omega) ?_
  rw [e32]
  refine sf_eq rfl (ilit (4 : Int32) 4 rfl) (fun c1 => ?_) (fun c1 => ?_)
  · rcases nx.2.2.2 with q | q | q
    · exact absurd q.1 h7
    · exact fl_162 (M := M) nv v30 ha v40 hx (by rw [e33]; omega) (by rw [e33, e42v, e44v]; omega) (by rw [e42v]; exact e42) (by rw [e33, e42v]; omega) fv ih
    · omega
  · rcases nx.2.2.2 with q | q | q
    · exact absurd q.1 h7
    · exact absurd q.1 c1
    · have n1 := (nd (u 33 x.toNatClampNeg).toNatClampNeg (by rw [iclamp, h30]; omega)).1
      have n2 := (nd (u 34 x.toNatClampNeg).toNatClampNeg (by rw [iclamp, h30]; omega)).1
      refine sf_idx rfl hx.1 (by omega) ?_
      rw [e34]
      refine sf_bind (sp_Mo_plan F v uL 0 (u 34 x.toNatClampNeg) 0 k v40 (by omega)) (fun r hr => ?_)
      obtain ⟨q1, q2, q3, q4, q5⟩ := hr
      have r33 : r.1 33 = u 33 := (q5 33 (by decide)).trans e33
      have s1 : sm sz (r.1 42) (k + 1) = sm sz (u 42) k + sz (u 34 x.toNatClampNeg).toNatClampNeg := by rw [q3, sm, sm_upd k (by omega), upd_at, e42v]
      refine fl_162 (k := k + 1) (M := M) (ND_fr nv q5 (by decide)) (by rw [q5 30 (by decide)]; exact v30) ha (by rw [q1]; rfl) hx (by rw [r33]; omega) (by rw [r33, s1, q5 44 (by decide), e44v]; omega) ?_ (by rw [r33, s1]; omega) (FRM_trans fv (FRM_sub (by decide) q5)) ih
      intro j hj
      rw [q3, e42v]
      by_cases e : j = k
      · subst e; rw [upd_at]; omega
      · rw [upd_lt e]; exact e42 j (by omega)

set_option maxHeartbeats 4000000 in
theorem sp_Mo_flatten_28 (F : Nat) (sz lv ct : Nat → Int) (a : Nat) : ∀ (n : Nat) (t : StI) (tL : StL) (k : Nat), FL t sz lv ct a k → sm sz (t 42) k < n → Sf (Mo_flatten_28 F n t tL) (FLQ t) := by
  intro n; induction n with
  | zero =>
    intro t tL k h hn
    have := FL_k h.nd h.h30 k h.e42
    omega
  | succ n ih =>
    intro t tL k h hn
    rw [Mo_flatten_28]
    have nk := FL_k h.nd h.h30 k h.e42
    have hs := h.s44
    have ha := h.ha
    refine sf_le h.h40 (ilit (0 : Int32) 0 rfl) (fun c1 => ?_) (fun c1 => ?_)
    · exact sf_some ⟨FRM_refl _ _, hs.1, by dsimp only; omega⟩
    obtain ⟨k0, rfl⟩ : ∃ k0, k = k0 + 1 := ⟨k - 1, by omega⟩
    have g1 : ((t 40 0) - (1 : Int32)).toInt = _ := isub h.h40 (ilit (1 : Int32) 1 rfl)
    refine sf_up (fun u k1 m1 => ?_)
    have u40 : (u 40 0).toInt = k0 := by rw [k1]; show ((t 40 0) - (1 : Int32)).toInt = _; omega
    have fm : FRM [40] t u := FRM_of1 (by decide) m1
    have fu : FRM FLF t u := FRM_sub (by decide) fm
    have e42 : u 42 = t 42 := m1 42 (by decide)
    have e32 : u 32 = t 32 := m1 32 (by decide)
    have e33 : u 33 = t 33 := m1 33 (by decide)
    have e44 : u 44 = t 44 := m1 44 (by decide)
    have nu : ND u sz lv ct := ND_fr h.nd fm (by decide)
    have u30 : (u 30 0).toInt = a := by rw [m1 30 (by decide)]; exact h.h30
    have cu : (u 40 0).toNatClampNeg = k0 := clampN u40
    have hx := h.e42 k0 (by omega)
    rw [sm] at hs hn nk
    have he : ∀ j, j < k0 → 0 ≤ (u 42 j).toInt ∧ (u 42 j).toInt < a := fun j hj => by rw [e42]; exact h.e42 j (by omega)
    have nk0 := FL_k nu u30 k0 he
    rw [e42] at nk0
    have nx := nu (t 42 k0).toNatClampNeg (by rw [iclamp, u30]; omega)
    rw [e32] at nx
    have ihK : ∀ (t' : StI) (tL : StL) (k : Nat), FL t' sz lv ct a k → sm sz (t' 42) k < (n : Int) → FRM FLF t t' → Sf (Mo_flatten_28 F n t' tL) (FLQ t) := fun t' tL k p1 p2 p3 => sf_imp (ih t' tL k p1 p2) (fun r hr => FLQ_fr p3 hr)
    refine sf_idx u40 (by omega) (by omega) ?_
    rw [cu, e42]
    refine sf_idx rfl hx.1 (by omega) ?_
    rw [e32]
    refine sf_eq rfl (ilit (7 : Int32) 7 rfl) (fun c7 => ?_) (fun c7 => ?_)
    · refine sf_idx rfl hx.1 (by omega) ?_
      refine sf_idx rfl (by rw [e44]; exact hs.1) (by rw [e44]; omega) ?_
      refine sf_up (fun v k2 m2 => ?_)
      have fv : FRM [45] u v := FRM_of1 (by decide) m2
      refine fl_174 (k := k0) (M := n) (ND_fr nu fv (by decide)) (by rw [m2 30 (by decide)]; exact u30) ha (by rw [m2 40 (by decide)]; exact u40) (by rw [m2 44 (by decide), e44, m2 42 (by decide), e42]; omega) (by rw [m2 42 (by decide)]; exact he) (by rw [m2 42 (by decide), e42]; omega) (FRM_trans fu (FRM_sub (by decide) fv)) ihK
    · have k139 : ∀ y0 : Int32, Sf (Mo_flatten_139 F (Mo_flatten_28 F n) u tL (t 42 k0) y0 (u 44 0)) (FLQ t) := fun y0 =>
        fl_139 (k := k0) (M := n) nu u30 ha u40 hx (by rw [e32]; exact c7) (by rw [e44, e42]; omega) he (by rw [e42]; omega) fu ihK
      refine sf_idx rfl hx.1 (by omega) ?_
      refine sf_any (k139 _) ?_
      refine sf_idx rfl hx.1 (by omega) ?_
      refine sf_any (k139 _) ?_
      refine sf_idx rfl hx.1 (by omega) ?_
      exact sf_any (k139 _) (k139 _)
set_option maxHeartbeats 4000000 in
theorem sp_Mo_flatten (F : Nat) (hF : Big F) (t : StI) (tL : StL) (h : TR t) : Sf (Mo_flatten F t tL) (FLQ t) := by
  rw [Mo_flatten]
  refine sf_up (fun t1 k1 m1 => ?_)
  refine sf_up (fun t2 k2 m2 => ?_)
  have z0 := ilit (0 : Int32) 0 rfl
  have e44 : (t2 44 0).toInt = 0 := by rw [m2 44 (by decide), k1]; exact z0
  have e40 : (t2 40 0).toInt = (0 : Nat) := by rw [k2]; exact z0
  have ff : FRM [40, 44] t t2 := FRM_up (FRM_of1 (by decide) m1) (by decide) m2
  have fa : FRM FLF t t2 := FRM_sub (by decide) ff
  have e31 : t2 31 = t 31 := ff 31 (by decide)
  have e30 : t2 30 = t 30 := ff 30 (by decide)
  have h2 := TR_fr h ff (by decide)
  rw [e31]
  refine sf_eq rfl (ilit (-1 : Int32) (-1) rfl) (fun c1 => ?_) (fun c1 => ?_)
  · obtain ⟨⟨sz, lv, ct, a, n1, n2, n3⟩, -⟩ := h2.1
    have hq := fuel_ok hF (M := 0) (by omega)
    refine sf_imp (sp_Mo_flatten_28 F sz lv ct a F t2 tL 0 ⟨n1, n2, n3, e40, ?_, fun j hj => by omega⟩ ?_) (fun r hr => FLQ_fr fa hr)
    · rw [sm]; omega
    · rw [sm]; omega
  · rcases h2.2 with e | ⟨sz, lv, ct, a, n1, n2, n3, n4, n5, n6, -⟩
    · rw [e31] at e; exact absurd e c1
    rw [e31] at n4 n5 n6
    refine sf_bind (sp_Mo_plan F t2 tL 0 (t 31 0) 0 0 e40 (by omega)) (fun r hr => ?_)
    obtain ⟨q1, q2, q3, q4, q5⟩ := hr
    have s1 : sm sz (r.1 42) 1 = sz (t 31 0).toNatClampNeg := by rw [q3, sm, sm, upd_at]; omega
    have hq := fuel_ok hF (M := 800) (by omega)
    refine sf_imp (sp_Mo_flatten_28 F sz lv ct a F r.1 r.2 1 ⟨ND_fr n1 q5 (by decide), by rw [q5 30 (by decide)]; exact n2, n3, by rw [q1]; rfl, by rw [q5 44 (by decide), s1]; omega, ?_⟩ (by rw [s1]; omega)) (fun r' hr' => FLQ_fr (FRM_trans fa (FRM_sub (by decide) q5)) hr')
    intro j hj
    obtain rfl : j = 0 := by omega
    rw [q3, upd_at]; exact ⟨n4, n5⟩
theorem sp_Mo_tree (F : Nat) (hF : Big F) (t : StI) (tL : StL) (x1 : Int32) (h : TR t) : Sf (Mo_tree F t tL x1) (fun r => FRM [0, 40, 41, 42, 43, 44, 45] t r.2.1) := by
  rw [Mo_tree]
  refine sf_up (fun t1 k1 m1 => ?_)
  have fm : FRM [0] t t1 := FRM_of1 (by decide) m1
  refine sf_bind (sp_Mo_flatten F hF t1 tL (TR_fr h fm (by decide))) (fun r hr => ?_)
  obtain ⟨q1, q2⟩ := hr
  have fa : FRM [0, 40, 41, 42, 43, 44, 45] t r.1 := FRM_trans (FRM_sub (by decide) fm) (FRM_sub (by decide) q1)
  refine sf_lt rfl (ilit (0 : Int32) 0 rfl) (fun c1 => sf_some fa) (fun c1 => ?_)
  refine sf_le rfl rfl (fun c2 => sf_some fa) (fun c2 => ?_)
  refine sf_idx rfl c1 (by omega) ?_
  exact sf_some fa

/-! the reference's print -/
theorem sp_Mo_put (F : Nat) (t : StI) (tL : StL) (x1 : Int32) (h : 0 ≤ (t 46 0).toInt ∧ (t 46 0).toInt < 2000) : Sf (Mo_put F t tL x1) (fun r => (r.1 46 0).toInt = (t 46 0).toInt + 1 ∧ FRM [46, 47] t r.1) := by
  rw [Mo_put]
  refine sf_idx rfl h.1 h.2 ?_
  refine sf_up (fun t1 h1 n1 => ?_)
  have e1 : t1 46 = t 46 := n1 46 (by decide)
  refine sf_up (fun t4 h4 n4 => ?_)
  have g1 : ((t 46 0) + (1 : Int32)).toInt = _ := iadd rfl (ilit (1 : Int32) 1 rfl)
  have e4 : t4 46 0 = (t 46 0) + 1 := by rw [h4, e1]
  refine sf_some ⟨?_, FRM_up (FRM_up (FRM_refl _ t) (by decide) n1) (by decide) n4⟩
  show (t4 46 0).toInt = _
  rw [e4]; omega
def PT (d : Int) (t : StI) (r : StI × StL) : Prop := ((t 46 0).toInt ≤ (r.1 46 0).toInt ∧ (r.1 46 0).toInt ≤ (t 46 0).toInt + d) ∧ FRM [46, 47] t r.1
theorem PT_refl {d : Int} {t : StI} {tL : StL} (h : 0 ≤ d) : PT d t (t, tL) := ⟨by dsimp only; omega, FRM_refl _ _⟩
theorem PT_trans {d e f : Int} {t s : StI} {r : StI × StL} (h : (t 46 0).toInt ≤ (s 46 0).toInt ∧ (s 46 0).toInt ≤ (t 46 0).toInt + d) (hf : FRM [46, 47] t s) (g : PT e s r) (hd : d + e ≤ f) : PT f t r := ⟨by have := g.1; omega, FRM_trans hf g.2⟩
theorem PT_put (F : Nat) (t : StI) (tL : StL) (x1 : Int32) (h : 0 ≤ (t 46 0).toInt ∧ (t 46 0).toInt < 2000) : Sf (Mo_put F t tL x1) (PT 1 t) := sf_imp (sp_Mo_put F t tL x1 h) (fun r hr => ⟨by omega, hr.2⟩)
theorem sp_Mo_space (F : Nat) (t : StI) (tL : StL) (h : 0 ≤ (t 46 0).toInt ∧ (t 46 0).toInt < 2000) : Sf (Mo_space F t tL) (PT 1 t) := by
  rw [Mo_space]
  have g1 : ((t 46 0) - (1 : Int32)).toInt = _ := isub rfl (ilit (1 : Int32) 1 rfl)
  refine sf_le rfl (ilit (0 : Int32) 0 rfl) (fun c1 => sf_some (PT_refl (by omega))) (fun c1 => ?_)
  refine sf_idx rfl (by omega) (by omega) ?_
  refine sf_any (sf_some (PT_refl (by omega))) ?_
  refine sf_bind (PT_put F t tL 32 h) (fun r hr => sf_some hr)
theorem lg_le {x y : Int64} : (lg_cmp x y ≤ 0) ↔ x.toInt ≤ y.toInt := by
  unfold lg_cmp
  by_cases h : x > y
  · rw [if_pos h]
    have h' := Int64.lt_iff_toInt_lt.mp h
    constructor
    · intro q; exact absurd q (by decide)
    · intro q; omega
  · rw [if_neg h]
    have h' : ¬ y.toInt < x.toInt := fun q => h (Int64.lt_iff_toInt_lt.mpr q)
    constructor
    · intro _; omega
    · intro _; by_cases e : x = y
      · rw [if_pos e]; decide
      · rw [if_neg e]; decide
theorem lg_lt {x y : Int64} : (0 < lg_cmp x y) ↔ y.toInt < x.toInt := by
  have h := @lg_le x y
  have h2 : (0 < lg_cmp x y) ↔ ¬ (lg_cmp x y ≤ 0) := by rw [Int32.not_le]
  rw [h2, h]; omega
theorem div27 {x : Int64} (h : 0 ≤ x.toInt) : (x / (27 : Int64)).toInt = x.toInt / 27 := by
  have b := Int64.toInt_lt x
  have e : (27 : Int64).toInt = 27 := rfl
  rw [Int64.toInt_div, e, Int.tdiv_eq_ediv_of_nonneg h]
  refine Int.bmod_eq_of_le ?_ ?_ <;> omega
/-- powers of 27, as long as they are no greater than the number -/
theorem sp_Mo_putLetters_21 (F : Nat) (x1 : Int64) : ∀ (n : Nat) (t : StI) (tL : StL) (x3 : Int64) (m : Nat), 0 ≤ x3.toInt → x3.toInt < 27 ^ m → m < n → 0 ≤ (t 46 0).toInt → (t 46 0).toInt + m ≤ 2000 → Sf (Mo_putLetters_21 F n t tL x1 x3) (PT m t) := by
  intro n; induction n with
  | zero => intro t tL x3 m h0 h1 hn; omega
  | succ n ih =>
    intro t tL x3 m h0 h1 hn h46 hm
    rw [Mo_putLetters_21]
    refine sf_ite (fun c1 => sf_some (PT_refl (by omega))) (fun c1 => ?_)
    have c2 : 0 < x3.toInt := by
      have z : (0 : Int64).toInt = 0 := rfl
      have c3 : ¬ x3.toInt ≤ (0 : Int64).toInt := fun q => c1 (lg_le.mpr q)
      rw [z] at c3; omega
    refine sf_not (fun e => by rw [e] at c2; exact absurd c2 (by decide)) ?_
    obtain ⟨m0, rfl⟩ : ∃ m0, m = m0 + 1 := by
      cases m with
      | zero => rw [Int.pow_zero] at h1; omega
      | succ k => exact ⟨k, rfl⟩
    refine sf_bind (PT_put F t tL _ (by omega)) (fun r hr => ?_)
    have d := div27 (x := x3) h0
    rw [Int.pow_succ] at h1
    have hr1 := hr.1
    refine sf_imp (ih r.1 r.2 (x3 / 27) m0 (by rw [d]; omega) (by rw [d]; omega) (by omega) (by omega) (by omega)) (fun r' hr' => PT_trans hr.1 hr.2 hr' (by omega))
theorem p27 : (27 : Int) ^ 14 > 2 ^ 63 := by decide
theorem sp_Mo_putLetters_2 (F : Nat) (hF : Big F) (x1 : Int64) : ∀ (n : Nat) (t : StI) (tL : StL) (x3 : Int64) (j : Nat), x3.toInt = 27 ^ j → j ≤ 13 → 14 - j < n → 0 ≤ (t 46 0).toInt → (t 46 0).toInt + 14 ≤ 2000 → Sf (Mo_putLetters_2 F n t tL x1 x3) (PT 14 t) := by
  intro n; induction n with
  | zero => intro t tL x3 j h0 h1 hn; omega
  | succ n ih =>
    intro t tL x3 j h0 h1 hn h46 hm
    rw [Mo_putLetters_2]
    have pp : (0 : Int) < 27 ^ j := Int.pow_pos (by decide)
    refine sf_ite (fun c1 => ?_) (fun c1 => ?_)
    · have hq := fuel_ok hF (M := 20) (by omega)
      have h1' : x3.toInt < 27 ^ (j + 1) := by rw [Int.pow_succ]; omega
      refine sf_imp (sp_Mo_putLetters_21 F x1 F t tL x3 (j + 1) (by omega) h1' (by omega) h46 (by omega)) (fun r hr => ⟨by have := hr.1; omega, hr.2⟩)
    · have c2 : ¬ (x1 / (27 : Int64)).toInt < x3.toInt := fun q => c1 (lg_lt.mpr q)
      have b := Int64.toInt_lt x1
      have hx : 0 ≤ x1.toInt := by
        apply Classical.byContradiction
        intro hneg
        have e : (27 : Int64).toInt = 27 := rfl
        have l := Int64.le_toInt x1
        have t1 : (x1 / (27 : Int64)).toInt ≤ 0 := by
          rw [Int64.toInt_div, e]
          have q1 : x1.toInt.tdiv 27 = -((-x1.toInt) / 27) := by
            rw [← Int.tdiv_eq_ediv_of_nonneg (by omega), Int.neg_tdiv, Int.neg_neg]
          rw [q1, Int.bmod_eq_of_le (by omega) (by omega)]
          omega
        omega
      have d := div27 hx
      rw [d] at c2
      have c3 : 27 ^ (j + 1) ≤ x1.toInt := by rw [Int.pow_succ]; omega
      have j2 : j + 1 ≤ 13 := by
        apply Classical.byContradiction
        intro hj
        obtain rfl : j = 13 := by omega
        have := p27
        omega
      have e : (27 : Int64).toInt = 27 := rfl
      have x3' : (x3 * (27 : Int64)).toInt = 27 ^ (j + 1) := by
        rw [Int64.toInt_mul, e, h0, ← Int.pow_succ]
        refine Int.bmod_eq_of_le ?_ ?_ <;> omega
      exact ih t tL (x3 * 27) (j + 1) x3' j2 (by omega) h46 hm
theorem sp_Mo_putLetters (F : Nat) (hF : Big F) (t : StI) (tL : StL) (x1 : Int64) (h : 0 ≤ (t 46 0).toInt ∧ (t 46 0).toInt + 14 ≤ 2000) : Sf (Mo_putLetters F t tL x1) (PT 14 t) := by
  rw [Mo_putLetters]
  have hq := fuel_ok hF (M := 20) (by omega)
  exact sp_Mo_putLetters_2 F hF x1 F t tL 1 0 rfl (by omega) (by omega) h.1 h.2

/-- an atom's TEXT, and its closing quote -/
theorem sp_Mo_putAtom_53 (F : Nat) (hF : Big F) (x1 : Int32) (hx : 0 ≤ x1.toInt ∧ x1.toInt < 40) (L : Int) : ∀ (n : Nat) (t : StI) (tL : StL) (x2 : Int32), EA t → (0 ≤ (t 6 0).toInt ∧ (t 6 0).toInt ≤ 600) → (t 24 x1.toNatClampNeg).toInt = L → 0 ≤ x2.toInt → x2.toInt ≤ L → L - x2.toInt < n → 0 ≤ (t 46 0).toInt → (t 46 0).toInt + (L - x2.toInt) + 1 ≤ 2000 → Sf (Mo_putAtom_53 F n t tL x1 x2) (PT (L - x2.toInt + 1) t) := by
  intro n; induction n with
  | zero => intro t tL x2 hE h6 hL h0 h1 hn; omega
  | succ n ih =>
    intro t tL x2 hE h6 hL h0 h1 hn h46 hm
    have q := hE x1.toNatClampNeg
    rw [Mo_putAtom_53]
    refine sf_idx rfl hx.1 hx.2 ?_
    refine sf_le hL rfl (fun c1 => ?_) (fun c1 => ?_)
    · refine sf_idx rfl hx.1 hx.2 ?_
      refine sf_any (sf_some (PT_refl (by omega))) ?_
      refine sf_bind (PT_put F t tL 34 (by omega)) (fun r hr => sf_some ⟨by have := hr.1; dsimp only; omega, hr.2⟩)
    · refine sf_idx rfl hx.1 hx.2 ?_
      have g1 : (((t 23) x1.toNatClampNeg) + x2).toInt = _ := iadd rfl rfl
      have g2 : (x2 + (1 : Int32)).toInt = _ := iadd rfl (ilit (1 : Int32) 1 rfl)
      have g3 : (x2 + (1 : Int32)).toInt = x2.toInt + 1 := by omega
      refine sf_bind (sp_Mo_see F hF t tL _ ⟨h6, by omega⟩) (fun r hr => ?_)
      refine sf_bind (PT_put F t tL r (by omega)) (fun r2 hr2 => ?_)
      have f := hr2.2
      have b := hr2.1
      refine sf_imp (ih r2.1 r2.2 (x2 + 1) (EA_of hE (f 22 (by decide)) (f 23 (by decide)) (f 24 (by decide))) (by rw [f 6 (by decide)]; exact h6) (by rw [f 24 (by decide)]; exact hL) (by omega) (by omega) (by omega) (by omega) (by omega)) (fun r' hr' => PT_trans b f hr' (by omega))
theorem sp_Mo_putAtom_36 (F : Nat) (hF : Big F) (t : StI) (tL : StL) (x1 : Int32) (hx : 0 ≤ x1.toInt ∧ x1.toInt < 40) (hE : EA t) (h6 : 0 ≤ (t 6 0).toInt ∧ (t 6 0).toInt ≤ 600) (h46 : 0 ≤ (t 46 0).toInt ∧ (t 46 0).toInt + (t 24 x1.toNatClampNeg).toInt + 2 ≤ 2000) : Sf (Mo_putAtom_36 F t tL x1) (PT ((t 24 x1.toNatClampNeg).toInt + 2) t) := by
  have q := hE x1.toNatClampNeg
  have z0 := ilit (0 : Int32) 0 rfl
  have hq := fuel_ok hF (M := 9001) (by omega)
  rw [Mo_putAtom_36]
  refine sf_idx rfl hx.1 hx.2 ?_
  refine sf_any ?_ ?_
  · rw [Mo_putAtom_51]
    exact sf_imp (sp_Mo_putAtom_53 F hF x1 hx _ F t tL 0 hE h6 rfl (by omega) (by omega) (by omega) h46.1 (by omega)) (fun r hr => ⟨by have := hr.1; omega, hr.2⟩)
  · refine sf_bind (PT_put F t tL 34 (by omega)) (fun r2 hr2 => ?_)
    have f := hr2.2
    have b := hr2.1
    rw [Mo_putAtom_51]
    exact sf_imp (sp_Mo_putAtom_53 F hF x1 hx (t 24 x1.toNatClampNeg).toInt F r2.1 r2.2 0 (EA_of hE (f 22 (by decide)) (f 23 (by decide)) (f 24 (by decide))) (by rw [f 6 (by decide)]; exact h6) (by rw [f 24 (by decide)]) (by omega) (by omega) (by omega) (by omega) (by omega)) (fun r hr => PT_trans b f hr (by omega))
set_option maxHeartbeats 4000000 in
theorem sp_Mo_putAtom (F : Nat) (hF : Big F) (t : StI) (tL : StL) (x1 : Int32) (hx : 0 ≤ x1.toInt ∧ x1.toInt < 40) (hE : EA t) (h6 : 0 ≤ (t 6 0).toInt ∧ (t 6 0).toInt ≤ 600) (h46 : 0 ≤ (t 46 0).toInt ∧ (t 46 0).toInt + (t 24 x1.toNatClampNeg).toInt + 18 ≤ 2000) : Sf (Mo_putAtom F t tL x1) (PT ((t 24 x1.toNatClampNeg).toInt + 18) t) := by
  have q := hE x1.toNatClampNeg
  rw [Mo_putAtom]
  refine sf_bind (sp_Mo_space F t tL (by omega)) (fun r hr => ?_)
  have f := hr.2
  have b := hr.1
  have e22 := f 22 (by decide)
  have e24 := f 24 (by decide)
  refine sf_idx rfl hx.1 hx.2 ?_
  rw [e22]
  refine sf_le rfl (ilit (0 : Int32) 0 rfl) (fun c1 => ?_) (fun c1 => ?_)
  · have k := sp_Mo_putAtom_36 F hF r.1 r.2 x1 hx (EA_of hE e22 (f 23 (by decide)) e24) (by rw [f 6 (by decide)]; exact h6) (by rw [e24]; omega)
    rw [e24] at k
    exact sf_imp k (fun r' hr' => PT_trans b f hr' (by omega))
  · refine sf_idx rfl hx.1 hx.2 ?_
    have g1 : ((t 22 x1.toNatClampNeg) - (1 : Int32)).toInt = _ := isub rfl (ilit (1 : Int32) 1 rfl)
    refine sf_idx rfl (by omega) (by omega) ?_
    refine sf_bind (sp_Mo_putLetters F hF r.1 r.2 _ (by omega)) (fun r2 hr2 => ?_)
    have f2 := hr2.2
    have b2 := hr2.1
    refine sf_bind (PT_put F r2.1 r2.2 58 (by omega)) (fun r3 hr3 => ?_)
    have f3 := hr3.2
    have b3 := hr3.1
    have fa : FRM [46, 47] t r3.1 := FRM_trans f (FRM_trans f2 f3)
    have a24 := fa 24 (by decide)
    have k := sp_Mo_putAtom_36 F hF r3.1 r3.2 x1 hx (EA_of hE (fa 22 (by decide)) (fa 23 (by decide)) a24) (by rw [fa 6 (by decide)]; exact h6) (by rw [a24]; omega)
    rw [a24] at k
    exact sf_imp k (fun r' hr' => PT_trans (d := 16) (by omega) fa hr' (by omega))

/-! what waits to be printed: two arrays, 41 (0 a node, 1 a word, 2 a closing sign) and 42 -/
def s2 (g : Int32 → Int32 → Int) (f h : Nat → Int32) : Nat → Int
  | 0 => 0
  | n + 1 => s2 g f h n + g (f n) (h n)
theorem s2_upd {g : Int32 → Int32 → Int} {f h : Nat → Int32} {k : Nat} {v w : Int32} : ∀ n, n ≤ k → s2 g (upd f k v) (upd h k w) n = s2 g f h n
  | 0, _ => rfl
  | n + 1, e => by rw [s2, s2, s2_upd n (by omega), upd_lt (by omega), upd_lt (by omega)]
theorem s2_push {g : Int32 → Int32 → Int} {f h : Nat → Int32} {k : Nat} {v w : Int32} : s2 g (upd f k v) (upd h k w) (k + 1) = s2 g f h k + g v w := by
  rw [s2, s2_upd k (Nat.le_refl _), upd_at, upd_at]
/-- a bound of the turns that an entry still takes -/
def pm (sz lv : Nat → Int) (x y : Int32) : Int := if x.toInt = 0 then sz y.toNatClampNeg + 3 * lv y.toNatClampNeg - 2 else 1
/-- a bound of the bytes that an entry still prints -/
def pc (ct : Nat → Int) (x y : Int32) : Int := if x.toInt = 0 then ct y.toNatClampNeg else if x.toInt = 1 then 4 else 1
theorem pm0 {sz lv : Nat → Int} {y : Int32} : pm sz lv 0 y = sz y.toNatClampNeg + 3 * lv y.toNatClampNeg - 2 := by rw [pm, if_pos (show Int32.toInt 0 = 0 from rfl)]
theorem pm1 {sz lv : Nat → Int} {y : Int32} : pm sz lv 1 y = 1 := by rw [pm, if_neg (by decide)]
theorem pm2 {sz lv : Nat → Int} {y : Int32} : pm sz lv 2 y = 1 := by rw [pm, if_neg (by decide)]
theorem pc0 {ct : Nat → Int} {y : Int32} : pc ct 0 y = ct y.toNatClampNeg := by rw [pc, if_pos (show Int32.toInt 0 = 0 from rfl)]
theorem pc1 {ct : Nat → Int} {y : Int32} : pc ct 1 y = 4 := by rw [pc, if_neg (by decide), if_pos (show Int32.toInt 1 = 1 from rfl)]
theorem pc2 {ct : Nat → Int} {y : Int32} : pc ct 2 y = 1 := by rw [pc, if_neg (by decide), if_neg (by decide)]
theorem PR_k {t : StI} {sz lv ct : Nat → Int} {a : Nat} (nd : ND t sz lv ct) (h30 : (t 30 0).toInt = a) (f h : Nat → Int32) : ∀ k : Nat, (∀ j, j < k → (f j).toInt = 0 → 0 ≤ (h j).toInt ∧ (h j).toInt < a) → (k : Int) ≤ s2 (pm sz lv) f h k ∧ 0 ≤ s2 (pc ct) f h k
  | 0, _ => ⟨by rw [s2]; exact Int.le_refl _, by rw [s2]; exact Int.le_refl _⟩
  | k + 1, e => by
    have q := PR_k nd h30 f h k (fun j hj => e j (by omega))
    rw [s2, s2]
    by_cases z : (f k).toInt = 0
    · have q2 := e k (by omega) z
      have q3 := nd (h k).toNatClampNeg (by rw [iclamp, h30]; omega)
      obtain ⟨n1, n2, n3, -⟩ := q3
      rw [pm, pc, if_pos z, if_pos z]
      omega
    · rw [pm, pc, if_neg z, if_neg z]
      split <;> omega
/-- while a tree is printed: k entries wait, C bytes and M turns are set aside, B turns in all -/
def PR (t : StI) (sz lv ct : Nat → Int) (a k : Nat) (C M B : Int) : Prop := (ND t sz lv ct) ∧ (EA t) ∧ (0 ≤ (t 6 0).toInt ∧ (t 6 0).toInt ≤ 600) ∧ ((t 20 0).toInt ≤ 40) ∧ ((t 30 0).toInt = a) ∧ (a ≤ 700) ∧ ((t 40 0).toInt = k) ∧ (0 ≤ (t 46 0).toInt ∧ (t 46 0).toInt + s2 (pc ct) (t 41) (t 42) k + C ≤ 1800) ∧ (s2 (pm sz lv) (t 41) (t 42) k + M ≤ B) ∧ (B ≤ 900) ∧ (∀ j, j < k → (t 41 j).toInt = 0 → 0 ≤ (t 42 j).toInt ∧ (t 42 j).toInt < a ∧ (t 43 j).toInt ≤ 4)
theorem PR.nd {t : StI} {sz lv ct : Nat → Int} {a k : Nat} {C M B : Int} (P : PR t sz lv ct a k C M B) : ND t sz lv ct := P.1
theorem PR.ea {t : StI} {sz lv ct : Nat → Int} {a k : Nat} {C M B : Int} (P : PR t sz lv ct a k C M B) : EA t := P.2.1
theorem PR.h6 {t : StI} {sz lv ct : Nat → Int} {a k : Nat} {C M B : Int} (P : PR t sz lv ct a k C M B) : 0 ≤ (t 6 0).toInt ∧ (t 6 0).toInt ≤ 600 := P.2.2.1
theorem PR.h20 {t : StI} {sz lv ct : Nat → Int} {a k : Nat} {C M B : Int} (P : PR t sz lv ct a k C M B) : (t 20 0).toInt ≤ 40 := P.2.2.2.1
theorem PR.h30 {t : StI} {sz lv ct : Nat → Int} {a k : Nat} {C M B : Int} (P : PR t sz lv ct a k C M B) : (t 30 0).toInt = a := P.2.2.2.2.1
theorem PR.ha {t : StI} {sz lv ct : Nat → Int} {a k : Nat} {C M B : Int} (P : PR t sz lv ct a k C M B) : a ≤ 700 := P.2.2.2.2.2.1
theorem PR.h40 {t : StI} {sz lv ct : Nat → Int} {a k : Nat} {C M B : Int} (P : PR t sz lv ct a k C M B) : (t 40 0).toInt = k := P.2.2.2.2.2.2.1
theorem PR.s46 {t : StI} {sz lv ct : Nat → Int} {a k : Nat} {C M B : Int} (P : PR t sz lv ct a k C M B) : 0 ≤ (t 46 0).toInt ∧ (t 46 0).toInt + s2 (pc ct) (t 41) (t 42) k + C ≤ 1800 := P.2.2.2.2.2.2.2.1
theorem PR.sM {t : StI} {sz lv ct : Nat → Int} {a k : Nat} {C M B : Int} (P : PR t sz lv ct a k C M B) : s2 (pm sz lv) (t 41) (t 42) k + M ≤ B := P.2.2.2.2.2.2.2.2.1
theorem PR.hB {t : StI} {sz lv ct : Nat → Int} {a k : Nat} {C M B : Int} (P : PR t sz lv ct a k C M B) : B ≤ 900 := P.2.2.2.2.2.2.2.2.2.1
theorem PR.en {t : StI} {sz lv ct : Nat → Int} {a k : Nat} {C M B : Int} (P : PR t sz lv ct a k C M B) : ∀ j, j < k → (t 41 j).toInt = 0 → 0 ≤ (t 42 j).toInt ∧ (t 42 j).toInt < a ∧ (t 43 j).toInt ≤ 4 := P.2.2.2.2.2.2.2.2.2.2
theorem PR_nn {t : StI} {sz lv ct : Nat → Int} {a k : Nat} {C M B : Int} (P : PR t sz lv ct a k C M B) : (k : Int) ≤ s2 (pm sz lv) (t 41) (t 42) k ∧ 0 ≤ s2 (pc ct) (t 41) (t 42) k :=
  PR_k P.nd P.h30 (t 41) (t 42) k (fun j hj e => ⟨(P.en j hj e).1, (P.en j hj e).2.1⟩)
theorem PR_46 {t : StI} {sz lv ct : Nat → Int} {a k : Nat} {C M B : Int} (P : PR t sz lv ct a k C M B) : 0 ≤ (t 46 0).toInt ∧ (t 46 0).toInt + C ≤ 1800 := by
  have h1 := PR_nn P
  have h2 := P.s46
  omega
theorem PR_le {t : StI} {sz lv ct : Nat → Int} {a k : Nat} {C M B C' M' : Int} (P : PR t sz lv ct a k C M B) (h1 : C' ≤ C) (h2 : M' ≤ M) : PR t sz lv ct a k C' M' B :=
  ⟨P.nd, P.ea, P.h6, P.h20, P.h30, P.ha, P.h40, by have := P.s46; omega, by have := P.sM; omega, P.hB, P.en⟩
theorem PR_dec {t : StI} {sz lv ct : Nat → Int} {a k : Nat} {C M B : Int} (P : PR t sz lv ct a k C M B) (h1 : 0 ≤ C) (h2 : 1 ≤ M) : PR t sz lv ct a k 0 0 (B - 1) :=
  ⟨P.nd, P.ea, P.h6, P.h20, P.h30, P.ha, P.h40, by have := P.s46; omega, by have := P.sM; omega, by have := P.hB; omega, P.en⟩
theorem PR_plan (F : Nat) {t : StI} (tL : StL) {sz lv ct : Nat → Int} {a k : Nat} {C M B : Int} (P : PR t sz lv ct a k C M B) (hM : 0 ≤ M) (x1 x2 x3 : Int32) (hx : x1.toInt = 0 → 0 ≤ x2.toInt ∧ x2.toInt < a ∧ x3.toInt ≤ 4) : Sf (Mo_plan F t tL x1 x2 x3) (fun r => PR r.1 sz lv ct a (k + 1) (C - pc ct x1 x2) (M - pm sz lv x1 x2) B ∧ FRM [40, 41, 42, 43] t r.1) := by
  have q := PR_nn P
  have hs := P.sM
  have hB := P.hB
  refine sf_imp (sp_Mo_plan F t tL x1 x2 x3 k P.h40 (by omega)) (fun r hr => ?_)
  obtain ⟨q1, q2, q3, q4, q5⟩ := hr
  have f := fun i (hi : i ∉ [40, 41, 42, 43]) => q5 i hi
  refine ⟨⟨ND_fr P.nd q5 (by decide), EA_of P.ea (f 22 (by decide)) (f 23 (by decide)) (f 24 (by decide)), by rw [f 6 (by decide)]; exact P.h6, by rw [f 20 (by decide)]; exact P.h20, by rw [f 30 (by decide)]; exact P.h30, P.ha, by rw [q1]; rfl, ?_, ?_, hB, ?_⟩, q5⟩
  · rw [f 46 (by decide), q2, q3, s2_push]; have := P.s46; omega
  · rw [q2, q3, s2_push]; omega
  · intro j hj
    rw [q2, q3, q4]
    by_cases e : j = k
    · subst e; rw [upd_at, upd_at, upd_at]; exact hx
    · rw [upd_lt e, upd_lt e, upd_lt e]; exact P.en j (by omega)
theorem PR_pt {t : StI} {sz lv ct : Nat → Int} {a k : Nat} {C M B d : Int} {r : StI × StL} (P : PR t sz lv ct a k C M B) (h : PT d t r) : PR r.1 sz lv ct a k (C - d) M B := by
  obtain ⟨b, f⟩ := h
  refine ⟨ND_fr P.nd f (by decide), EA_of P.ea (f 22 (by decide)) (f 23 (by decide)) (f 24 (by decide)), by rw [f 6 (by decide)]; exact P.h6, by rw [f 20 (by decide)]; exact P.h20, by rw [f 30 (by decide)]; exact P.h30, P.ha, by rw [f 40 (by decide)]; exact P.h40, ?_, ?_, P.hB, ?_⟩
  · rw [f 41 (by decide), f 42 (by decide)]; have := P.s46; omega
  · rw [f 41 (by decide), f 42 (by decide)]; exact P.sM
  · rw [f 41 (by decide), f 42 (by decide), f 43 (by decide)]; exact P.en
def PF : List Nat := [40, 41, 42, 43, 46, 47]
set_option maxHeartbeats 4000000 in
theorem sp_Mo_printNode_46 (F : Nat) (t : StI) (tL : StL) (sz lv ct : Nat → Int) (a k : Nat) (C M B : Int) (P : PR t sz lv ct a k C M B) (x1 : Int32) (hx : 0 ≤ x1.toInt ∧ x1.toInt < a) (h7 : (t 32 x1.toNatClampNeg).toInt ≠ 7) (hC : ct x1.toNatClampNeg ≤ C + (if (t 32 x1.toNatClampNeg).toInt = 4 then 0 else 3)) (hM : sz x1.toNatClampNeg + 3 * lv x1.toNatClampNeg - 2 ≤ M + (if (t 32 x1.toNatClampNeg).toInt = 4 then 0 else 1)) : Sf (Mo_printNode_46 F t tL x1 (t 32 x1.toNatClampNeg)) (fun r => FRM PF t r.1 ∧ ∃ k', PR r.1 sz lv ct a k' 0 1 B) := by
  have nx := P.nd x1.toNatClampNeg (by rw [iclamp, P.h30]; omega)
  have cx : (x1.toNatClampNeg : Int) = x1.toInt := by rw [iclamp]; omega
  obtain ⟨n1, n2, n3, nx⟩ := nx
  have ha := P.ha
  have b0 := PR_46 P
  rw [Mo_printNode_46]
  refine sf_eq rfl (ilit (4 : Int32) 4 rfl) (fun c4 => ?_) (fun c4 => ?_)
  · rw [if_pos c4] at hC hM
    rcases nx with q | q | q
    · exact absurd q.1 h7
    · obtain ⟨-, q1, q2, q3, q4, q5⟩ := q
      obtain ⟨m1, m2, m3, -⟩ := P.nd (t 33 x1.toNatClampNeg).toNatClampNeg (by rw [iclamp, P.h30]; omega)
      refine sf_bind (sp_Mo_space F t tL (by omega)) (fun r1 h1 => ?_)
      have P1 := PR_pt P h1
      have b1 := PR_46 P1
      refine sf_bind (PT_put F r1.1 r1.2 110 (by omega)) (fun r2 h2 => ?_)
      have P2 := PR_pt P1 h2
      have b2 := PR_46 P2
      refine sf_bind (PT_put F r2.1 r2.2 111 (by omega)) (fun r3 h3 => ?_)
      have P3 := PR_pt P2 h3
      have b3 := PR_46 P3
      refine sf_bind (PT_put F r3.1 r3.2 116 (by omega)) (fun r4 h4 => ?_)
      have P4 := PR_pt P3 h4
      have fa : FRM [46, 47] t r4.1 := FRM_trans h1.2 (FRM_trans h2.2 (FRM_trans h3.2 h4.2))
      refine sf_idx rfl hx.1 (by omega) ?_
      rw [fa 33 (by decide)]
      refine sf_bind (PR_plan F r4.2 P4 (by omega) 0 (t 33 x1.toNatClampNeg) 4 (fun _ => ⟨q1, by omega, by decide⟩)) (fun r5 h5 => ?_)
      obtain ⟨P5, f5⟩ := h5
      rw [pc0, pm0] at P5
      exact sf_some ⟨FRM_trans (FRM_sub (by decide) fa) (FRM_sub (by decide) f5), k + 1, PR_le P5 (by omega) (by omega)⟩
    · omega
  · rw [if_neg c4] at hC hM
    rcases nx with q | q | q
    · exact absurd q.1 h7
    · exact absurd q.1 c4
    · obtain ⟨q0, q1, q2, q3, q4, q5, q6, q7⟩ := q
      obtain ⟨m1, m2, m3, -⟩ := P.nd (t 33 x1.toNatClampNeg).toNatClampNeg (by rw [iclamp, P.h30]; omega)
      obtain ⟨o1, o2, o3, -⟩ := P.nd (t 34 x1.toNatClampNeg).toNatClampNeg (by rw [iclamp, P.h30]; omega)
      have g1 : ((t 32 x1.toNatClampNeg) + (1 : Int32)).toInt = _ := iadd rfl (ilit (1 : Int32) 1 rfl)
      refine sf_idx rfl hx.1 (by omega) ?_
      refine sf_bind (PR_plan F tL P (by omega) 0 (t 34 x1.toNatClampNeg) (t 32 x1.toNatClampNeg + 1) (fun _ => ⟨q3, by omega, by omega⟩)) (fun r1 h1 => ?_)
      obtain ⟨P1, f1⟩ := h1
      rw [pc0, pm0] at P1
      refine sf_bind (PR_plan F r1.2 P1 (by omega) 1 (t 32 x1.toNatClampNeg) 0 (fun e => absurd e (by decide))) (fun r2 h2 => ?_)
      obtain ⟨P2, f2⟩ := h2
      rw [pc1, pm1] at P2
      have fa : FRM [40, 41, 42, 43] t r2.1 := FRM_trans f1 f2
      refine sf_idx rfl hx.1 (by omega) ?_
      rw [fa 33 (by decide)]
      refine sf_bind (PR_plan F r2.2 P2 (by omega) 0 (t 33 x1.toNatClampNeg) (t 32 x1.toNatClampNeg) (fun _ => ⟨q1, by omega, by omega⟩)) (fun r3 h3 => ?_)
      obtain ⟨P3, f3⟩ := h3
      rw [pc0, pm0] at P3
      exact sf_some ⟨FRM_sub (by decide) (FRM_trans fa f3), k + 1 + 1 + 1, PR_le P3 (by omega) (by omega)⟩
set_option maxHeartbeats 4000000 in
theorem sp_Mo_printNode (F : Nat) (hF : Big F) (t : StI) (tL : StL) (sz lv ct : Nat → Int) (a k : Nat) (B : Int) (x1 x2 : Int32) (hx : 0 ≤ x1.toInt ∧ x1.toInt < a) (hp : x2.toInt ≤ 4) (P : PR t sz lv ct a k (ct x1.toNatClampNeg) (sz x1.toNatClampNeg + 3 * lv x1.toNatClampNeg - 2) B) : Sf (Mo_printNode F t tL x1 x2) (fun r => FRM PF t r.1 ∧ ∃ k', PR r.1 sz lv ct a k' 0 1 B) := by
  have nx := P.nd x1.toNatClampNeg (by rw [iclamp, P.h30]; omega)
  obtain ⟨n1, n2, n3, nx⟩ := nx
  have ha := P.ha
  have b0 := PR_46 P
  have h20 := P.h20
  rw [Mo_printNode]
  refine sf_idx rfl hx.1 (by omega) ?_
  refine sf_eq rfl (ilit (7 : Int32) 7 rfl) (fun c7 => ?_) (fun c7 => ?_)
  · refine sf_idx rfl hx.1 (by omega) ?_
    rcases nx with q | q | q
    · obtain ⟨-, q1, q2, q3, q4, q5⟩ := q
      refine sf_bind (sp_Mo_putAtom F hF t tL (t 33 x1.toNatClampNeg) ⟨q1, by omega⟩ P.ea P.h6 (by omega)) (fun r hr => ?_)
      have P1 := PR_pt P hr
      exact sf_some ⟨FRM_sub (by decide) hr.2, k, PR_le P1 (by omega) (by omega)⟩
    · omega
    · omega
  · refine sf_le rfl rfl (fun c1 => ?_) (fun c1 => ?_)
    · exact sp_Mo_printNode_46 F t tL sz lv ct a k _ _ B P x1 hx c7 (by split <;> omega) (by split <;> omega)
    · refine sf_bind (sp_Mo_space F t tL (by omega)) (fun r1 h1 => ?_)
      have P1 := PR_pt P h1
      have b1 := PR_46 P1
      refine sf_bind (PT_put F r1.1 r1.2 40 (by omega)) (fun r2 h2 => ?_)
      have P2 := PR_pt P1 h2
      refine sf_bind (PR_plan F r2.2 P2 (by omega) 2 0 0 (fun e => absurd e (by decide))) (fun r3 h3 => ?_)
      obtain ⟨P3, f3⟩ := h3
      rw [pc2, pm2] at P3
      have fa : FRM PF t r3.1 := FRM_trans (FRM_sub (by decide) (FRM_trans h1.2 h2.2)) (FRM_sub (by decide) f3)
      have e32 : r3.1 32 = t 32 := fa 32 (by decide)
      have k4 : ¬ (t 32 x1.toNatClampNeg).toInt = 4 := by omega
      rw [← e32]
      refine sf_imp (sp_Mo_printNode_46 F r3.1 r3.2 sz lv ct a (k + 1) _ _ B P3 x1 hx (by rw [e32]; exact c7) (by rw [e32, if_neg k4]; omega) (by rw [e32, if_neg k4]; omega)) (fun r hr => ⟨FRM_trans fa hr.1, hr.2⟩)
theorem sp_Mo_printWord_20 (F : Nat) (t : StI) (tL : StL) (h : 0 ≤ (t 46 0).toInt ∧ (t 46 0).toInt + 2 ≤ 2000) : Sf (Mo_printWord_20 F t tL) (PT 2 t) := by
  rw [Mo_printWord_20]
  refine sf_bind (PT_put F t tL 111 (by omega)) (fun r1 h1 => ?_)
  have b1 := h1.1
  refine sf_bind (PT_put F r1.1 r1.2 114 (by omega)) (fun r2 h2 => ?_)
  exact sf_some (PT_trans h1.1 h1.2 h2 (by omega))
theorem sp_Mo_printWord (F : Nat) (t : StI) (tL : StL) (x1 : Int32) (h : 0 ≤ (t 46 0).toInt ∧ (t 46 0).toInt + 4 ≤ 2000) : Sf (Mo_printWord F t tL x1) (PT 4 t) := by
  rw [Mo_printWord]
  refine sf_any (sf_some (PT_refl (by omega))) ?_
  refine sf_bind (sp_Mo_space F t tL (by omega)) (fun r1 h1 => ?_)
  have b1 := h1.1
  refine sf_any ?_ ?_
  · refine sf_bind (PT_put F r1.1 r1.2 120 (by omega)) (fun r2 h2 => ?_)
    have b2 := h2.1
    refine sf_imp (sp_Mo_printWord_20 F r2.1 r2.2 (by omega)) (fun r hr => PT_trans (d := 2) (by omega) (FRM_trans h1.2 h2.2) hr (by omega))
  · exact sf_imp (sp_Mo_printWord_20 F r1.1 r1.2 (by omega)) (fun r hr => PT_trans h1.1 h1.2 hr (by omega))
set_option maxHeartbeats 4000000 in
theorem sp_Mo_print_33 (F : Nat) (hF : Big F) (sz lv ct : Nat → Int) (a : Nat) : ∀ (n : Nat) (t : StI) (tL : StL) (k : Nat) (B : Int), PR t sz lv ct a k 0 0 B → B < (n : Int) → Sf (Mo_print_33 F n t tL) (fun r => FRM PF t r.2.1 ∧ 0 ≤ (r.2.1 46 0).toInt ∧ (r.2.1 46 0).toInt ≤ 2000) := by
  intro n; induction n with
  | zero =>
    intro t tL k B P hn
    have h1 := PR_nn P
    have h2 := P.sM
    omega
  | succ n ih =>
    intro t tL k B P hn
    have nn := PR_nn P
    have hs := P.sM
    have hB := P.hB
    have b0 := PR_46 P
    rw [Mo_print_33]
    refine sf_le P.h40 (ilit (0 : Int32) 0 rfl) (fun c1 => ?_) (fun c1 => ?_)
    · exact sf_some ⟨FRM_refl _ _, b0.1, by dsimp only; omega⟩
    obtain ⟨k0, rfl⟩ : ∃ k0, k = k0 + 1 := ⟨k - 1, by omega⟩
    have k9 : (k0 : Int) < 2000 := by omega
    have g1 : ((t 40 0) - (1 : Int32)).toInt = _ := isub P.h40 (ilit (1 : Int32) 1 rfl)
    refine sf_up (fun u k1 m1 => ?_)
    have u40 : (u 40 0).toInt = k0 := by rw [k1]; show ((t 40 0) - (1 : Int32)).toInt = _; omega
    have fm : FRM [40] t u := FRM_of1 (by decide) m1
    have fu : FRM PF t u := FRM_sub (by decide) fm
    have e41 : u 41 = t 41 := m1 41 (by decide)
    have e42 : u 42 = t 42 := m1 42 (by decide)
    have e43 : u 43 = t 43 := m1 43 (by decide)
    have e46 : u 46 = t 46 := m1 46 (by decide)
    have cu : (u 40 0).toNatClampNeg = k0 := clampN u40
    have s46 := P.s46
    rw [s2] at s46 hs
    have PU : PR u sz lv ct a k0 (pc ct (t 41 k0) (t 42 k0)) (pm sz lv (t 41 k0) (t 42 k0)) B :=
      ⟨ND_fr P.nd fm (by decide), EA_of P.ea (m1 22 (by decide)) (m1 23 (by decide)) (m1 24 (by decide)), by rw [m1 6 (by decide)]; exact P.h6, by rw [m1 20 (by decide)]; exact P.h20, by rw [m1 30 (by decide)]; exact P.h30, P.ha, u40, by rw [e41, e42, e46]; omega, by rw [e41, e42]; omega, hB, fun j hj => by rw [e41, e42, e43]; exact P.en j (by omega)⟩
    have go : ∀ (r : StI × StL) (C M : Int) (k' : Nat), FRM PF t r.1 → PR r.1 sz lv ct a k' C M B → 0 ≤ C → 1 ≤ M → Sf (Mo_print_33 F n r.1 r.2) (fun r => FRM PF t r.2.1 ∧ 0 ≤ (r.2.1 46 0).toInt ∧ (r.2.1 46 0).toInt ≤ 2000) := fun r C M k' f1 P1 hC hM =>
      sf_imp (ih r.1 r.2 k' (B - 1) (PR_dec P1 hC hM) (by omega)) (fun r' hr' => ⟨FRM_trans f1 hr'.1, hr'.2⟩)
    refine sf_idx u40 (by omega) (by omega) ?_
    rw [cu, e41, e42, e43]
    refine sf_eq rfl (ilit (0 : Int32) 0 rfl) (fun z0 => ?_) (fun z0 => ?_)
    · have q := P.en k0 (by omega) z0
      rw [pc, pm, if_pos z0, if_pos z0] at PU
      refine sf_idxc cu u40 (by omega) (by omega) ?_
      refine sf_idxc cu u40 (by omega) (by omega) ?_
      refine sf_bind (sp_Mo_printNode F hF u tL sz lv ct a k0 B (t 42 k0) (t 43 k0) ⟨q.1, q.2.1⟩ q.2.2 PU) (fun r hr => ?_)
      obtain ⟨f1, k', P1⟩ := hr
      exact go r 0 1 k' (FRM_trans fu f1) P1 (by omega) (by omega)
    · rw [pm, if_neg z0] at PU
      have b1 := PR_46 PU
      refine sf_idxc cu u40 (by omega) (by omega) ?_
      refine sf_eq rfl (ilit (1 : Int32) 1 rfl) (fun z1 => ?_) (fun z1 => ?_)
      · rw [pc, if_neg z0, if_pos z1] at PU b1
        refine sf_idxc cu u40 (by omega) (by omega) ?_
        refine sf_bind (sp_Mo_printWord F u tL (t 42 k0) (by omega)) (fun r hr => ?_)
        exact go r _ 1 k0 (FRM_trans fu (FRM_sub (by decide) hr.2)) (PR_pt PU hr) (by omega) (by omega)
      · rw [pc, if_neg z0, if_neg z1] at PU b1
        refine sf_bind (PT_put F u tL 41 (by omega)) (fun r hr => ?_)
        exact go r _ 1 k0 (FRM_trans fu (FRM_sub (by decide) hr.2)) (PR_pt PU hr) (by omega) (by omega)
set_option maxHeartbeats 4000000 in
theorem sp_Mo_print (F : Nat) (hF : Big F) (t : StI) (tL : StL) (h6 : 0 ≤ (t 6 0).toInt ∧ (t 6 0).toInt ≤ 600) (h : TR t) : Sf (Mo_print F t tL) (fun r => FRM [0, 40, 41, 42, 43, 46, 47] t r.2.1 ∧ 0 ≤ (r.2.1 46 0).toInt ∧ (r.2.1 46 0).toInt ≤ 2000) := by
  rw [Mo_print]
  refine sf_up (fun t1 k1 m1 => ?_)
  refine sf_up (fun t2 k2 m2 => ?_)
  refine sf_up (fun t3 k3 m3 => ?_)
  have z0 := ilit (0 : Int32) 0 rfl
  have e46 : (t3 46 0).toInt = 0 := by rw [m3 46 (by decide), k2]; exact z0
  have e40 : (t3 40 0).toInt = (0 : Nat) := by rw [k3]; exact z0
  have ff : FRM [0, 40, 46] t t3 := FRM_up (FRM_up (FRM_of1 (by decide) m1) (by decide) m2) (by decide) m3
  have fa : FRM [0, 40, 41, 42, 43, 46, 47] t t3 := FRM_sub (by decide) ff
  have e31 : t3 31 = t 31 := ff 31 (by decide)
  have e6 : t3 6 = t 6 := ff 6 (by decide)
  have h2 := TR_fr h ff (by decide)
  obtain ⟨⟨⟨sz0, lv0, ct0, a0, w1, w2, w3⟩, w4, w5⟩, w6⟩ := h2
  rw [e31]
  refine sf_eq rfl (ilit (-1 : Int32) (-1) rfl) (fun c1 => ?_) (fun c1 => ?_)
  · have hq := fuel_ok hF (M := 0) (by omega)
    refine sf_imp (sp_Mo_print_33 F hF sz0 lv0 ct0 a0 F t3 tL 0 0 ⟨w1, w4, by rw [e6]; exact h6, w5.2, w2, w3, e40, ?_, ?_, by omega, fun j hj => by omega⟩ (by omega)) (fun r hr => ⟨FRM_trans fa (FRM_sub (by decide) hr.1), hr.2⟩)
    · rw [s2]; omega
    · rw [s2]; omega
  · rcases w6 with e | ⟨sz, lv, ct, a, n1, n2, n3, n4, n5, n6, n7, n8, -⟩
    · rw [e31] at e; exact absurd e c1
    rw [e31] at n4 n5 n6 n7 n8
    obtain ⟨u1, u2, u3, -⟩ := n1 (t 31 0).toNatClampNeg (by rw [iclamp, n2]; omega)
    have P0 : PR t3 sz lv ct a 0 (ct (t 31 0).toNatClampNeg) (sz (t 31 0).toNatClampNeg + 3 * lv (t 31 0).toNatClampNeg - 2) (sz (t 31 0).toNatClampNeg + 3 * lv (t 31 0).toNatClampNeg - 2) :=
      ⟨n1, w4, by rw [e6]; exact h6, w5.2, n2, n3, e40, by rw [s2]; omega, by rw [s2]; omega, by omega, fun j hj => by omega⟩
    refine sf_bind (PR_plan F tL P0 (by omega) 0 (t 31 0) 1 (fun _ => ⟨n4, n5, by decide⟩)) (fun r hr => ?_)
    obtain ⟨P1, f1⟩ := hr
    rw [pc0, pm0] at P1
    have hq := fuel_ok hF (M := 900) (by omega)
    refine sf_imp (sp_Mo_print_33 F hF sz lv ct a F r.1 r.2 1 _ (PR_le P1 (by omega) (by omega)) (by omega)) (fun r' hr' => ⟨FRM_trans fa (FRM_trans (FRM_sub (by decide) f1) (FRM_sub (by decide) hr'.1)), hr'.2⟩)

