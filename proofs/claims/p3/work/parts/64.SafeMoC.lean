/-! the reference reads an atom -/
def PK : List Nat := [20, 21, 22, 23, 24, 30, 32, 33, 34, 35, 36, 37, 38, 39]
theorem PIg_fr {m : List Nat} {x p p' : Int} {t t' : StI} {sz lv ct : Nat → Int} {a b c : Nat} (P : PIg x p t sz lv ct a b c) (hf : FRM m t t') (hm : ∀ k ∈ PK, k ∉ m) (hp : p ≤ p') : PIg x p' t' sz lv ct a b c := by
  have f := fun k (hk : k ∈ PK) => hf k (hm k hk)
  have f20 := f 20 (by decide)
  have f21 := f 21 (by decide)
  have f24 := f 24 (by decide)
  have f23 := f 23 (by decide)
  have f22 := f 22 (by decide)
  have f30 := f 30 (by decide)
  have f32 := f 32 (by decide)
  have f33 := f 33 (by decide)
  have f34 := f 34 (by decide)
  have f35 := f 35 (by decide)
  have f36 := f 36 (by decide)
  have f37 := f 37 (by decide)
  have f38 := f 38 (by decide)
  have f39 := f 39 (by decide)
  refine ⟨?_, EA_of P.ea f22 f23 f24, by rw [f30]; exact P.h30, by rw [f35]; exact P.h35, by rw [f36]; exact P.h36, by rw [f37, f39]; exact P.h37, by rw [f20, f21]; exact P.s20, by rw [f37]; exact P.s37, by rw [f39]; exact P.sb, ?_, by rw [f38]; exact P.ssz, by rw [f38, f21]; exact P.slv, by rw [f32, f21]; exact P.scn, ?_, by rw [f39]; exact P.e39, by rw [f38]; exact P.e38⟩
  · intro i hi
    rw [f30] at hi
    rw [f32, f33, f34, f20, f24]
    exact P.nd i hi
  · rw [f21]; have := P.sa; omega
  · rw [f38, f39, f21]; have := P.sct; omega
/-- what always holds of the nodes and atoms -/
def WK (t : StI) : Prop := (∃ (sz lv ct : Nat → Int) (a : Nat), ND t sz lv ct ∧ (t 30 0).toInt = a ∧ a ≤ 700) ∧ EA t ∧ 0 ≤ (t 20 0).toInt ∧ (t 20 0).toInt ≤ 40
def WKf : List Nat := [20, 22, 23, 24, 30, 32, 33, 34]
theorem WK_fr {m : List Nat} {t t' : StI} (h : WK t) (hf : FRM m t t') (hm : ∀ k ∈ WKf, k ∉ m) : WK t' := by
  have f := fun k (hk : k ∈ WKf) => hf k (hm k hk)
  have f20 := f 20 (by decide)
  have f24 := f 24 (by decide)
  have f23 := f 23 (by decide)
  have f22 := f 22 (by decide)
  have f30 := f 30 (by decide)
  have f32 := f 32 (by decide)
  have f33 := f 33 (by decide)
  have f34 := f 34 (by decide)
  obtain ⟨⟨sz, lv, ct, a, n1, n2, n3⟩, h2, h3⟩ := h
  refine ⟨⟨sz, lv, ct, a, ?_, by rw [f30]; exact n2, n3⟩, EA_of h2 f22 f23 f24, by rw [f20]; exact h3⟩
  intro i hi
  rw [f30] at hi
  rw [f32, f33, f34, f20, f24]
  exact n1 i hi
theorem PIg_WK {x p : Int} {t : StI} {sz lv ct : Nat → Int} {a b c : Nat} (P : PIg x p t sz lv ct a b c) (hp : p ≤ 610) (hx : 0 ≤ x) : WK t :=
  ⟨⟨sz, lv, ct, a, P.nd, P.h30, by have := P.sa; have := P.s20; omega⟩, P.ea, by have := P.s20; omega⟩
/-- while it is read: x = 1 behind an operand, if there is no fault -/
def RIN (x p : Int) (t : StI) : Prop := WK t ∧ (0 ≤ (t 9 0).toInt ∧ (t 9 0).toInt ≤ 5) ∧ ((t 9 0).toInt = 0 → ∃ sz lv ct a b c, PIg x p t sz lv ct a b c)
/-- an atom more -/
theorem PIg_atom {p p' : Int} {t t' : StI} {sz lv ct : Nat → Int} {a b c : Nat} {v w : Int32} (P : PIg 0 p t sz lv ct a b c) (h21 : (t' 21 0).toInt = (t 21 0).toInt + 1) (hlt : (t 21 0).toInt < 40)
    (hv : 0 ≤ v.toInt ∧ v.toInt < (t' 20 0).toInt ∧ (t 20 0).toInt ≤ (t' 20 0).toInt ∧ (t' 20 0).toInt ≤ (t 20 0).toInt + 1) (hE : EA t') (h24 : ∀ j : Nat, (j : Int) < (t 20 0).toInt → t' 24 j = t 24 j) (hl : (t' 24 v.toNatClampNeg).toInt ≤ p' - p)
    (hw : w.toInt = a) (h30 : (t' 30 0).toInt = a + 1) (h32 : t' 32 = upd (t 32) a 7) (h33 : t' 33 = upd (t 33) a v) (h34 : t' 34 = upd (t 34) a (-1)) (h35 : (t' 35 0).toInt = b + 1) (h36 : t' 36 = t 36) (h37 : t' 37 = t 37) (h38 : t' 38 = upd (t 38) b w) (h39 : t' 39 = t 39) :
    ∃ sz' lv' ct', PIg 1 p' t' sz' lv' ct' (a + 1) (b + 1) c := by
  have old : ∀ j, j < b → (t 38 j).toNatClampNeg < a := fun j hj => by have := P.e38 j hj; rw [iclamp]; omega
  have wa : w.toNatClampNeg = a := clampN hw
  have p1 := P.ssz; have p2 := P.slv; have p3 := P.sct; have p4 := P.scn; have p5 := P.h37; have p6 := P.sb; have p7 := P.sa; have p8 := P.s20
  have e1 := hE v.toNatClampNeg
  -- the state between: atoms numbered, no node yet
  let tm : StI := fun k => if k = 20 then t' 20 else if k = 24 then t' 24 else t k
  have m20 : tm 20 = t' 20 := rfl
  have m24 : tm 24 = t' 24 := rfl
  have m30 : tm 30 = t 30 := rfl
  have m32 : tm 32 = t 32 := rfl
  have m33 : tm 33 = t 33 := rfl
  have m34 : tm 34 = t 34 := rfl
  have nd2 : ND tm sz lv ct := by
    intro i hi
    rw [m30] at hi
    have q := P.nd i hi
    rw [m32, m33, m34, m20, m24]
    refine ⟨q.1, q.2.1, q.2.2.1, ?_⟩
    rcases q.2.2.2 with q | q | q
    · refine Or.inl ⟨q.1, q.2.1, by omega, q.2.2.2.1, q.2.2.2.2.1, ?_⟩
      rw [h24 (t 33 i).toNatClampNeg (by rw [iclamp]; omega)]
      exact q.2.2.2.2.2
    · exact Or.inr (Or.inl q)
    · exact Or.inr (Or.inr q)
  refine ⟨_, _, _, ⟨ND_node (t := tm) (n := a) (x1 := 7) (x2 := v) (x3 := -1) (zs := 1) (zl := 1) (zc := 18 + (t' 24 v.toNatClampNeg).toInt) nd2 (by rw [m30, P.h30]) (by rw [m30, P.h30, h30]) (by rw [m20]) rfl h32 h33 h34 ⟨by omega, by omega, by omega, Or.inl ⟨rfl, hv.1, hv.2.1, rfl, rfl, rfl⟩⟩, hE, by rw [h30]; rfl, by rw [h35]; rfl, by rw [h36]; exact P.h36, by rw [h37, h39]; exact p5, by rw [h21]; omega, by rw [h37]; exact P.s37, by rw [h39]; omega, ?_, ?_, ?_, ?_, ?_, ?_, ?_⟩⟩
  · rw [h21]; omega
  · rw [h38, sm, sm_upd b (by omega), upd_at, sm_new b old, wa, if_pos rfl]; omega
  · rw [h38, sm, sm_upd b (by omega), upd_at, sm_new b old, wa, if_pos rfl, h21]; omega
  · rw [h32, cN, cN_upd a (by omega), upd_at, if_pos (Or.inr (show Int32.toInt 7 = 7 from rfl)), h21]; omega
  · rw [h38, sm, sm_upd b (by omega), upd_at, sm_new b old, wa, if_pos rfl, h21, h39]; omega
  · intro j hj; rw [h39]; exact P.e39 j hj
  · intro j hj
    rw [h38]
    by_cases e : j = b
    · subst e; rw [upd_at, hw]; omega
    · rw [upd_lt e]; have := P.e38 j (by omega); omega
/-- the fields that reading an atom may change -/
def RA : List Nat := [8, 9, 10, 17, 18, 19, 20, 21, 22, 23, 24, 25, 26, 27, 28, 29, 30, 32, 33, 34, 35, 38, 56, 58, 59]
/-- ready to take an atom whose TEXT has been found -/
def QA (p : Int) (t : StI) : Prop := (0 ≤ (t 9 0).toInt ∧ (t 9 0).toInt ≤ 5) ∧ (0 ≤ (t 6 0).toInt ∧ (t 6 0).toInt ≤ 600 ∧ (t 16 0).toInt ≤ 12) ∧ (p ≤ (t 8 0).toInt ∧ (t 8 0).toInt ≤ 601) ∧ (∃ sz lv ct a b c, PIg 0 p t sz lv ct a b c) ∧ ((t 9 0).toInt = 0 → 0 ≤ (t 17 0).toInt ∧ (t 17 0).toInt ≤ (t 18 0).toInt ∧ (t 18 0).toInt ≤ 700 ∧ (t 18 0).toInt - (t 17 0).toInt ≤ (t 8 0).toInt - p)
theorem QA_fault {p : Int} {t t' : StI} (h : QA p t) (hf : FRM [9, 10] t t') (h9 : 1 ≤ (t' 9 0).toInt ∧ (t' 9 0).toInt ≤ 5) : QA p t' := by
  obtain ⟨h1, h2, h3, ⟨sz, lv, ct, a, b, c, P⟩, h5⟩ := h
  exact ⟨by omega, by rw [hf 6 (by decide), hf 16 (by decide)]; exact h2, by rw [hf 8 (by decide)]; exact h3, ⟨sz, lv, ct, a, b, c, PIg_fr P hf (by decide) (Int.le_refl _)⟩, fun e => by omega⟩
def QP (t : StI) (r : StI × StL) : Prop := FRM RA t r.1 ∧ r.1 8 = t 8 ∧ RIN 1 (t 8 0).toInt r.1 ∧ ((r.1 9 0).toInt = 0 → (r.1 21 0).toInt = (t 21 0).toInt + 1)
theorem QP_fr {t s : StI} {r : StI × StL} (hf : FRM [9, 10] t s) (h : QP s r) : QP t r := ⟨FRM_trans (FRM_sub (by decide) hf) h.1, h.2.1.trans (hf 8 (by decide)), by rw [← hf 8 (by decide)]; exact h.2.2.1, by rw [← hf 21 (by decide)]; exact h.2.2.2⟩
set_option maxHeartbeats 4000000 in
theorem sp_Mo_readAtom_220 (F : Nat) (hF : Big F) (p : Int) (t : StI) (tL : StL) (h : QA p t) (h21 : (t 9 0).toInt = 0 → (t 21 0).toInt ≠ 40) : Sf (Mo_readAtom_220 F t tL) (QP t) := by
  obtain ⟨h1, h2, h3, ⟨sz, lv, ct, a, b, c, P⟩, h5⟩ := h
  rw [Mo_readAtom_220]
  refine sf_eq rfl (ilit (0 : Int32) 0 rfl) (fun c1 => ?_) (fun c1 => ?_)
  · have h6 := h5 c1
    have h7 := h21 c1
    have p8 := P.s20
    have p7 := P.sa
    have p4 := P.scn
    have n2 := cN_nn (t 32) a
    have g1 : ((t 21 0) + (1 : Int32)).toInt = _ := iadd rfl (ilit (1 : Int32) 1 rfl)
    refine sf_up (fun t1 k1 m1 => ?_)
    have e21 : (t1 21 0).toInt = (t 21 0).toInt + 1 := by rw [k1]; show ((t 21 0) + (1 : Int32)).toInt = _; omega
    have e6 := m1 6 (by decide)
    have e16 := m1 16 (by decide)
    have e17 := m1 17 (by decide)
    have e18 := m1 18 (by decide)
    have e20 := m1 20 (by decide)
    refine sf_bind (sp_Mo_atomNumber F hF t1 tL (EA_of P.ea (m1 22 (by decide)) (m1 23 (by decide)) (m1 24 (by decide))) (by rw [e6, e17, e18, e20, e16]; omega)) (fun r hr => ?_)
    obtain ⟨q1, q2, q3, q4, q5, q6⟩ := hr
    rw [e17, e18] at q4
    rw [e20] at q1 q6
    refine sf_idx rfl q1.1 q1.2.1 ?_
    refine sf_idx rfl q1.1 q1.2.1 ?_
    refine sf_up (fun t2 k2 m2 => ?_)
    have e30 : t2 30 = t 30 := (m2 30 (by decide)).trans ((q3 30 (by decide)).trans (m1 30 (by decide)))
    refine sf_bind (sp_Mo_node F t2 r.2.2 7 r.1 (-1) a (by rw [e30]; exact P.h30) (by omega)) (fun r2 hr2 => ?_)
    obtain ⟨u1, u2, u3, u4, u5, u6⟩ := hr2
    have e35 : r2.2.1 35 = t 35 := (u6 35 (by decide)).trans ((m2 35 (by decide)).trans ((q3 35 (by decide)).trans (m1 35 (by decide))))
    refine sf_bind (sp_Mo_push F r2.2.1 r2.2.2 r2.1 b (by rw [e35]; exact P.h35) (by omega)) (fun r3 hr3 => ?_)
    obtain ⟨w1, w2, w3⟩ := hr3
    have keep : ∀ k, k ∉ [20, 21, 22, 23, 24, 25, 26, 27, 28, 29, 30, 32, 33, 34, 35, 38] → r3.1 k = t k := by
      intro k hk
      simp only [List.mem_cons, List.not_mem_nil, or_false, not_or] at hk
      rw [w3 k (by simp only [List.mem_cons, List.not_mem_nil, or_false, not_or]; omega), u6 k (by simp only [List.mem_cons, List.not_mem_nil, or_false, not_or]; omega), m2 k (by omega), q3 k (by simp only [List.mem_cons, List.not_mem_nil, or_false, not_or]; omega), m1 k (by omega)]
    have x20 : r3.1 20 = r.2.1 20 := by rw [w3 20 (by decide), u6 20 (by decide), m2 20 (by decide)]
    have x22 : r3.1 22 = r.2.1 22 := by rw [w3 22 (by decide), u6 22 (by decide), m2 22 (by decide)]
    have x23 : r3.1 23 = r.2.1 23 := by rw [w3 23 (by decide), u6 23 (by decide), m2 23 (by decide)]
    have x24 : r3.1 24 = r.2.1 24 := by rw [w3 24 (by decide), u6 24 (by decide), m2 24 (by decide)]
    have fin : ∃ sz' lv' ct', PIg 1 (t 8 0).toInt r3.1 sz' lv' ct' (a + 1) (b + 1) c := by
      refine PIg_atom (v := r.1) (w := r2.1) P ?_ (by omega) ?_ (EA_of q2 x22 x23 x24) ?_ ?_ u1 ?_ ?_ ?_ ?_ ?_ (keep 36 (by decide)) (keep 37 (by decide)) ?_ (keep 39 (by decide))
      · rw [w3 21 (by decide), u6 21 (by decide), m2 21 (by decide), q3 21 (by decide)]; exact e21
      · rw [x20]; omega
      · intro j hj; rw [x24, (q6 j hj).1, m1 24 (by decide)]
      · rw [x24]; omega
      · rw [w3 30 (by decide)]; exact u2
      · rw [w3 32 (by decide), u3, m2 32 (by decide), q3 32 (by decide), m1 32 (by decide)]
      · rw [w3 33 (by decide), u4, m2 33 (by decide), q3 33 (by decide), m1 33 (by decide)]
      · rw [w3 34 (by decide), u5, m2 34 (by decide), q3 34 (by decide), m1 34 (by decide)]
      · exact w1
      · rw [w2, u6 38 (by decide), m2 38 (by decide), q3 38 (by decide), m1 38 (by decide)]
    obtain ⟨sz', lv', ct', P'⟩ := fin
    refine sf_some ⟨FRM_sub (by decide) (show FRM [20, 21, 22, 23, 24, 25, 26, 27, 28, 29, 30, 32, 33, 34, 35, 38] t r3.1 from keep), keep 8 (by decide), ⟨PIg_WK P' (by omega) (by omega), ?_, fun _ => ⟨sz', lv', ct', a + 1, b + 1, c, P'⟩⟩, fun _ => ?_⟩
    · show 0 ≤ (r3.1 9 0).toInt ∧ (r3.1 9 0).toInt ≤ 5
      rw [keep 9 (by decide)]; exact h1
    · show (r3.1 21 0).toInt = _
      rw [w3 21 (by decide), u6 21 (by decide), m2 21 (by decide), q3 21 (by decide)]; exact e21
  · exact sf_some ⟨FRM_refl _ _, rfl, ⟨PIg_WK P (by omega) (by omega), h1, fun e => absurd e c1⟩, fun e => absurd e c1⟩
theorem sp_Mo_readAtom_202 (F : Nat) (hF : Big F) (p : Int) (t : StI) (tL : StL) (h : QA p t) : Sf (Mo_readAtom_202 F t tL) (QP t) := by
  rw [Mo_readAtom_202]
  refine sf_eq rfl (ilit (40 : Int32) 40 rfl) (fun c1 => ?_) (fun c1 => ?_)
  · refine sf_bind (sp_Mo_fail F hF t tL 5 _ ⟨h.1, by decide⟩) (fun r hr => ?_)
    exact sf_imp (sp_Mo_readAtom_220 F hF p r.1 r.2 (QA_fault h hr.2 hr.1) (fun e => by have := hr.1; omega)) (fun r' hr' => QP_fr hr.2 hr')
  · exact sp_Mo_readAtom_220 F hF p t tL h (fun _ => c1)
theorem QP_fr2 {t s : StI} {r : StI × StL} (hf : FRM [9, 10, 56, 58, 59] t s) (h : QP s r) : QP t r := ⟨FRM_trans (FRM_sub (by decide) hf) h.1, h.2.1.trans (hf 8 (by decide)), by rw [← hf 8 (by decide)]; exact h.2.2.1, by rw [← hf 21 (by decide)]; exact h.2.2.2⟩
theorem QA_fr2 {p : Int} {t t' : StI} (h : QA p t) (hf : FRM [56, 58, 59] t t') : QA p t' := by
  obtain ⟨h1, h2, h3, ⟨sz, lv, ct, a, b, c, P⟩, h5⟩ := h
  exact ⟨by rw [hf 9 (by decide)]; exact h1, by rw [hf 6 (by decide), hf 16 (by decide)]; exact h2, by rw [hf 8 (by decide)]; exact h3, ⟨sz, lv, ct, a, b, c, PIg_fr P hf (by decide) (Int.le_refl _)⟩, by rw [hf 9 (by decide), hf 17 (by decide), hf 18 (by decide), hf 8 (by decide)]; exact h5⟩
theorem sp_Mo_readAtom_199 (F : Nat) (hF : Big F) (p : Int) (t : StI) (tL : StL) (y0 : Int32) (h : QA p t) : Sf (Mo_readAtom_199 F t tL y0 4) (QP t) := by
  rw [Mo_readAtom_199]
  refine sf_bind (sp_Mo_fail F hF t tL 4 _ ⟨h.1, by decide⟩) (fun r hr => ?_)
  exact sf_imp (sp_Mo_readAtom_202 F hF p r.1 r.2 (QA_fault h hr.2 hr.1)) (fun r' hr' => QP_fr hr.2 hr')
theorem sp_Mo_readAtom_163 (F : Nat) (hF : Big F) (p : Int) (t : StI) (tL : StL) (h : QA p t) : Sf (Mo_readAtom_163 F t tL) (QP t) := by
  rw [Mo_readAtom_163]
  refine sf_eq rfl (ilit (0 : Int32) 0 rfl) (fun c1 => ?_) (fun c1 => ?_)
  · have h5 := h.2.2.2.2 c1
    refine sf_bind (sp_Mo_isRight F hF t tL (by have := h.2.1; omega)) (fun r hr => ?_)
    have h' := QA_fr2 h hr.2
    have fr : FRM [9, 10, 56, 58, 59] t r.2.1 := FRM_sub (by decide) hr.2
    refine sf_any (sf_any ?_ ?_) ?_
    · exact sf_imp (sp_Mo_readAtom_199 F hF p _ _ _ h') (fun r' hr' => QP_fr2 fr hr')
    · exact sf_imp (sp_Mo_readAtom_199 F hF p _ _ _ h') (fun r' hr' => QP_fr2 fr hr')
    · exact sf_imp (sp_Mo_readAtom_202 F hF p _ _ h') (fun r' hr' => QP_fr2 fr hr')
  · exact sp_Mo_readAtom_202 F hF p t tL h

/-- before the TEXT of an atom is found -/
def QB (p : Int) (t : StI) : Prop := (0 ≤ (t 9 0).toInt ∧ (t 9 0).toInt ≤ 5) ∧ (0 ≤ (t 6 0).toInt ∧ (t 6 0).toInt ≤ 600 ∧ (t 16 0).toInt ≤ 12) ∧ (0 ≤ p ∧ p ≤ (t 8 0).toInt ∧ (t 8 0).toInt ≤ 601) ∧ ∃ sz lv ct a b c, PIg 0 p t sz lv ct a b c
def QR (p : Int) (t : StI) (r : StI × StL) : Prop := FRM RA t r.1 ∧ RIN 1 (r.1 8 0).toInt r.1 ∧ (p ≤ (r.1 8 0).toInt ∧ (r.1 8 0).toInt ≤ 601) ∧ ((r.1 9 0).toInt = 0 → (r.1 21 0).toInt = (t 21 0).toInt + 1)
theorem QB_fault {p : Int} {t t' : StI} (h : QB p t) (hf : FRM [9, 10] t t') (h9 : 1 ≤ (t' 9 0).toInt ∧ (t' 9 0).toInt ≤ 5) : QB p t' := by
  obtain ⟨h1, h2, h3, sz, lv, ct, a, b, c, P⟩ := h
  exact ⟨by omega, by rw [hf 6 (by decide), hf 16 (by decide)]; exact h2, by rw [hf 8 (by decide)]; exact h3, sz, lv, ct, a, b, c, PIg_fr P hf (by decide) (Int.le_refl _)⟩
theorem QR_fr {p : Int} {t s : StI} {r : StI × StL} (hf : FRM [9, 10] t s) (h : QR p s r) : QR p t r := ⟨FRM_trans (FRM_sub (by decide) hf) h.1, h.2.1, h.2.2.1, by rw [← hf 21 (by decide)]; exact h.2.2.2⟩
theorem QR_of {p : Int} {t s : StI} {r : StI × StL} (hf : FRM [8, 9, 10, 17, 18, 19] t s) (hq : QA p s) (h : QP s r) : QR p t r := by
  refine ⟨FRM_trans (FRM_sub (by decide) hf) h.1, ?_, ?_, ?_⟩
  · rw [h.2.1]; exact h.2.2.1
  · rw [h.2.1]; exact hq.2.2.1
  · rw [← hf 21 (by decide)]; exact h.2.2.2
set_option maxHeartbeats 4000000 in
theorem sp_Mo_readAtom_156 (F : Nat) (hF : Big F) (p : Int) (t : StI) (tL : StL) (y0 : Int32) (hy : 1 ≤ y0.toInt ∧ y0.toInt ≤ 5) (h : QB p t) : Sf (Mo_readAtom_156 F t tL y0) (QR p t) := by
  rw [Mo_readAtom_156]
  refine sf_bind (sp_Mo_fail F hF t tL y0 _ ⟨h.1, hy⟩) (fun r hr => ?_)
  obtain ⟨h1, h2, h3, sz, lv, ct, a, b, c, P⟩ := QB_fault h hr.2 hr.1
  have q : QA p r.1 := ⟨h1, h2, by omega, ⟨sz, lv, ct, a, b, c, P⟩, fun e => by have := hr.1; omega⟩
  exact sf_imp (sp_Mo_readAtom_163 F hF p r.1 r.2 q) (fun r' hr' => QR_of (FRM_sub (by decide) hr.2) q hr')
set_option maxHeartbeats 4000000 in
theorem sp_Mo_readAtom_145 (F : Nat) (hF : Big F) (p : Int) (t : StI) (tL : StL) (y0 : Int32) (h : QB p t) : Sf (Mo_readAtom_145 F t tL y0) (QR p t) := by
  rw [Mo_readAtom_145]
  exact sf_any (sp_Mo_readAtom_156 F hF p t tL 2 (by decide) h) (sp_Mo_readAtom_156 F hF p t tL 1 (by decide) h)
set_option maxHeartbeats 4000000 in
theorem sp_Mo_readAtom_60 (F : Nat) (hF : Big F) (p : Int) (t : StI) (tL : StL) (h : QB p t) : Sf (Mo_readAtom_60 F t tL) (QR p t) := by
  have h0 := h
  obtain ⟨h1, h2, h3, sz, lv, ct, a, b, c, P⟩ := h
  rw [Mo_readAtom_60]
  refine sf_bind (sp_Mo_see F hF t tL _ (by omega)) (fun r hr => ?_)
  refine sf_eq rfl (ilit (34 : Int32) 34 rfl) (fun c0 => ?_) (fun c0 => ?_)
  · refine sf_bind (sp_Mo_takePhrase F hF t tL _ (by omega)) (fun r2 hr2 => ?_)
    obtain ⟨⟨q1, q2, q3, q4, q5, q6⟩, q7⟩ := hr2
    have P2 := PIg_fr P q7 (by decide) (Int.le_refl _)
    refine sf_eq rfl (ilit (0 : Int32) 0 rfl) (fun c1 => ?_) (fun c1 => ?_)
    · refine sf_bind (sp_Mo_fail F hF r2.2.1 r2.2.2 2 _ ⟨by rw [q7 9 (by decide)]; exact h1, by decide⟩) (fun r3 hr3 => ?_)
      rw [Mo_readAtom_94]
      have q : QA p r3.1 := ⟨by have := hr3.1; omega, by rw [hr3.2 6 (by decide), q7 6 (by decide), hr3.2 16 (by decide), q7 16 (by decide)]; exact h2, by rw [hr3.2 8 (by decide)]; omega, ⟨sz, lv, ct, a, b, c, PIg_fr P2 hr3.2 (by decide) (Int.le_refl _)⟩, fun e => by have := hr3.1; omega⟩
      exact sf_imp (sp_Mo_readAtom_163 F hF p r3.1 r3.2 q) (fun r' hr' => QR_of (FRM_trans (FRM_sub (by decide) q7) (FRM_sub (by decide) hr3.2)) q hr')
    · rw [Mo_readAtom_94]
      have q : QA p r2.2.1 := ⟨by rw [q7 9 (by decide)]; exact h1, by rw [q7 6 (by decide), q7 16 (by decide)]; exact h2, by omega, ⟨sz, lv, ct, a, b, c, P2⟩, fun _ => by omega⟩
      exact sf_imp (sp_Mo_readAtom_163 F hF p _ _ q) (fun r' hr' => QR_of (FRM_sub (by decide) q7) q hr')
  · have k1 : Sf (Mo_readAtom_140 F t tL) (QR p t) := by rw [Mo_readAtom_140]; exact sp_Mo_readAtom_145 F hF p t tL 1 h0
    refine sf_bind (sp_Mo_isPart F hF r trivial) (fun r2 hr2 => ?_)
    refine sf_any ?_ ?_
    · refine sf_any k1 ?_
      refine sf_bind (sp_Mo_isSpace F hF t tL r trivial) (fun r3 hr3 => ?_)
      exact sf_any (sf_any k1 (sf_any k1 (sp_Mo_readAtom_145 F hF p t tL 0 h0))) k1
    · refine sf_bind (sp_Mo_takeRun F hF t tL _ (by omega)) (fun r3 hr3 => ?_)
      obtain ⟨⟨q1, q2, q3, q4⟩, q7⟩ := hr3
      have P2 := PIg_fr P q7 (by decide) (Int.le_refl _)
      have q : QA p r3.1 := ⟨by rw [q7 9 (by decide)]; exact h1, by rw [q7 6 (by decide), q7 16 (by decide)]; exact h2, by omega, ⟨sz, lv, ct, a, b, c, P2⟩, fun _ => by omega⟩
      exact sf_imp (sp_Mo_readAtom_163 F hF p _ _ q) (fun r' hr' => QR_of (FRM_sub (by decide) q7) q hr')
set_option maxHeartbeats 4000000 in
theorem sp_Mo_readAtom_38 (F : Nat) (hF : Big F) (p : Int) (t : StI) (tL : StL) (x1 : Int32) (h : QB p t) : Sf (Mo_readAtom_38 F t tL x1) (QR p t) := by
  rw [Mo_readAtom_38]
  have k := sp_Mo_readAtom_60 F hF p t tL h
  refine sf_any k (sf_any ?_ k)
  refine sf_bind (sp_Mo_fail F hF t tL 5 _ ⟨h.1, by decide⟩) (fun r hr => ?_)
  exact sf_imp (sp_Mo_readAtom_60 F hF p r.1 r.2 (QB_fault h hr.2 hr.1)) (fun r' hr' => QR_fr hr.2 hr')
set_option maxHeartbeats 4000000 in
theorem sp_Mo_readAtom_16 (F : Nat) (hF : Big F) (p : Int) (t : StI) (tL : StL) (y0 : Int32) (h : QB p t) : Sf (Mo_readAtom_16 F t tL y0) (QR p t) := by
  rw [Mo_readAtom_16]
  have k := sp_Mo_readAtom_38 F hF p t tL y0 h
  refine sf_any k (sf_any ?_ k)
  refine sf_bind (sp_Mo_fail F hF t tL 3 _ ⟨h.1, by decide⟩) (fun r hr => ?_)
  exact sf_imp (sp_Mo_readAtom_38 F hF p r.1 r.2 y0 (QB_fault h hr.2 hr.1)) (fun r' hr' => QR_fr hr.2 hr')
theorem sp_Mo_readAtom (F : Nat) (hF : Big F) (p : Int) (t : StI) (tL : StL) (h : QB p t) : Sf (Mo_readAtom F t tL) (QR p t) := by
  rw [Mo_readAtom]
  exact sf_any (sp_Mo_readAtom_16 F hF p t tL 0 h) (sp_Mo_readAtom_16 F hF p t tL 1 h)
/-! operand, behind -/
def RO : List Nat := [8, 9, 10, 17, 18, 19, 20, 21, 22, 23, 24, 25, 26, 27, 28, 29, 30, 32, 33, 34, 35, 36, 37, 38, 39, 56, 58, 59]
/-- a token lies ready -/
def TK (t : StI) : Prop := (0 ≤ (t 9 0).toInt ∧ (t 9 0).toInt ≤ 5) ∧ (0 ≤ (t 6 0).toInt ∧ (t 6 0).toInt ≤ 600) ∧ (0 ≤ (t 15 0).toInt ∧ (t 15 0).toInt ≤ (t 8 0).toInt ∧ (t 8 0).toInt ≤ 601) ∧ ((t 14 0).toInt = 0 ∨ (t 14 0).toInt = 7 ∨ (t 15 0).toInt < (t 8 0).toInt) ∧ ((t 14 0).toInt ≠ 4 ∨ (t 15 0).toInt + 3 ≤ (t 8 0).toInt) ∧ 0 ≤ (t 14 0).toInt ∧ (t 14 0).toInt ≤ 7 ∧ (t 16 0).toInt ≤ 12
def OQ (t : StI) (r : Int32 × StI × StL) : Prop := FRM RO t r.2.1 ∧ (r.1.toInt = 0 ∨ r.1.toInt = 1) ∧ RIN r.1.toInt (r.2.1 8 0).toInt r.2.1 ∧ ((t 15 0).toInt ≤ (r.2.1 8 0).toInt ∧ (r.2.1 8 0).toInt ≤ 601) ∧ ((r.2.1 9 0).toInt = 0 → (t 21 0).toInt ≤ (r.2.1 21 0).toInt ∧ ((t 15 0).toInt < (r.2.1 8 0).toInt ∨ (t 21 0).toInt < (r.2.1 21 0).toInt))
set_option maxHeartbeats 4000000 in
theorem sp_Mo_operand (F : Nat) (hF : Big F) (t : StI) (tL : StL) (h : TK t) (sz lv ct : Nat → Int) (a b c : Nat) (P : PIg 0 (t 15 0).toInt t sz lv ct a b c) (h0 : (t 14 0).toInt ≠ 0) : Sf (Mo_operand F t tL) (OQ t) := by
  obtain ⟨h1, h2, h3, h4, h5, h6⟩ := h
  have p7 := P.sa
  have p8 := P.s20
  have p9 := P.s37
  have w0 : WK t := PIg_WK P (by omega) (by omega)
  rw [Mo_operand]
  refine sf_eq rfl (ilit (4 : Int32) 4 rfl) (fun c1 => ?_) (fun c1 => ?_)
  · refine sf_bind (sp_Mo_hold F t tL 4 c P.h36 (by omega)) (fun r hr => ?_)
    obtain ⟨q1, q2, q3⟩ := hr
    have P2 : PIg 0 (t 8 0).toInt r.1 sz lv ct a b (c + 1) := PIg_hold P (by decide) q1 q2 (FRM_sub (by decide) q3) (by rw [q3 37 (by decide), if_neg (by decide)]; omega) (by decide) (by rw [if_pos (by decide), if_pos (by decide)]; omega)
    have e8 : r.1 8 = t 8 := q3 8 (by decide)
    have e9 : r.1 9 = t 9 := q3 9 (by decide)
    have e21 : r.1 21 = t 21 := q3 21 (by decide)
    refine sf_some ⟨FRM_sub (by decide) q3, Or.inl rfl, ⟨PIg_WK P2 (by omega) (by omega), by rw [e9]; exact h1, fun _ => ⟨sz, lv, ct, a, b, c + 1, ?_⟩⟩, by rw [e8]; omega, fun _ => by rw [e8, e21]; omega⟩
    show PIg 0 (r.1 8 0).toInt r.1 sz lv ct a b (c + 1)
    rw [e8]; exact P2
  refine sf_eq rfl (ilit (5 : Int32) 5 rfl) (fun c2 => ?_) (fun c2 => ?_)
  · have g1 : ((t 37 0) + (1 : Int32)).toInt = _ := iadd rfl (ilit (1 : Int32) 1 rfl)
    have n5 := c5_nn (t 39) c
    have p5 := P.h37
    refine sf_eq rfl (ilit (20 : Int32) 20 rfl) (fun c3 => ?_) (fun c3 => ?_)
    · refine sf_bind (sp_Mo_fail F hF t tL 5 _ ⟨h1, by decide⟩) (fun r hr => ?_)
      rw [Mo_operand_41]
      refine sf_up (fun t1 k1 m1 => ?_)
      refine sf_bind (sp_Mo_hold F t1 r.2 5 c (by rw [m1 36 (by decide), hr.2 36 (by decide)]; exact P.h36) (by omega)) (fun r2 hr2 => ?_)
      obtain ⟨q1, q2, q3⟩ := hr2
      have ff : FRM [9, 10, 36, 37, 39] t r2.1 := FRM_trans (FRM_up (FRM_sub (by decide) hr.2) (by decide) m1) (FRM_sub (by decide) q3)
      have e9 : r2.1 9 = r.1 9 := (q3 9 (by decide)).trans (m1 9 (by decide))
      have e8 : r2.1 8 = t 8 := ff 8 (by decide)
      have z9 := hr.1
      refine sf_some ⟨FRM_sub (by decide) ff, Or.inl rfl, ⟨WK_fr w0 ff (by decide), by rw [e9]; omega, fun e => ?_⟩, by rw [e8]; omega, fun e => ?_⟩
      · rw [e9] at e; omega
      · rw [e9] at e; omega
    · rw [Mo_operand_41]
      refine sf_up (fun t1 k1 m1 => ?_)
      have e37 : (t1 37 0).toInt = (t 37 0).toInt + 1 := by rw [k1]; show ((t 37 0) + (1 : Int32)).toInt = _; omega
      refine sf_bind (sp_Mo_hold F t1 tL 5 c (by rw [m1 36 (by decide)]; exact P.h36) (by omega)) (fun r hr => ?_)
      obtain ⟨q1, q2, q3⟩ := hr
      rw [m1 39 (by decide)] at q2
      have ff : FRM [36, 37, 39] t r.1 := FRM_trans (FRM_of1 (by decide) m1) (FRM_sub (by decide) q3)
      have P2 : PIg 0 (t 8 0).toInt r.1 sz lv ct a b (c + 1) := PIg_hold P (by decide) q1 q2 ff (by rw [q3 37 (by decide), if_pos (by decide)]; omega) (by decide) (by rw [if_pos (by decide), if_neg (by decide)]; omega)
      have e8 : r.1 8 = t 8 := ff 8 (by decide)
      have e9 : r.1 9 = t 9 := ff 9 (by decide)
      have e21 : r.1 21 = t 21 := ff 21 (by decide)
      refine sf_some ⟨FRM_sub (by decide) ff, Or.inl rfl, ⟨PIg_WK P2 (by omega) (by omega), by rw [e9]; exact h1, fun _ => ⟨sz, lv, ct, a, b, c + 1, ?_⟩⟩, by rw [e8]; omega, fun _ => by rw [e8, e21]; omega⟩
      show PIg 0 (r.1 8 0).toInt r.1 sz lv ct a b (c + 1)
      rw [e8]; exact P2
  refine sf_any ?_ ?_
  · refine sf_bind (sp_Mo_readAtom F hF (t 15 0).toInt t tL ⟨h1, by omega, by omega, sz, lv, ct, a, b, c, P⟩) (fun r hr => ?_)
    obtain ⟨q1, q2, q3, q4⟩ := hr
    exact sf_some ⟨FRM_sub (by decide) q1, Or.inr rfl, q2, q3, fun e => by have := q4 e; dsimp only; omega⟩
  · refine sf_bind (sp_Mo_fail F hF t tL 1 _ ⟨h1, by decide⟩) (fun r hr => ?_)
    have z9 := hr.1
    have e8 : r.1 8 = t 8 := hr.2 8 (by decide)
    exact sf_some ⟨FRM_sub (by decide) hr.2, Or.inl rfl, ⟨WK_fr w0 hr.2 (by decide), by dsimp only; omega, fun e => by dsimp only at e; omega⟩, by rw [e8]; omega, fun e => by dsimp only at e; omega⟩

/-- a ( that has been closed goes from the stack -/
theorem PIg_pop {p p' : Int} {t t' : StI} {sz lv ct : Nat → Int} {a b c : Nat} (P : PIg 1 p t sz lv ct a b (c + 1)) (h5 : (t 39 c).toInt = 5) (h36 : (t' 36 0).toInt = c) (h37 : (t' 37 0).toInt = (t 37 0).toInt - 1) (hf : FRM [36, 37] t t') (hp : p ≤ p') : PIg 1 p' t' sz lv ct a b c := by
  have f := fun k (hk : k ∉ [36, 37]) => hf k hk
  have f20 := f 20 (by decide)
  have f21 := f 21 (by decide)
  have f24 := f 24 (by decide)
  have f23 := f 23 (by decide)
  have f22 := f 22 (by decide)
  have f30 := f 30 (by decide)
  have f32 := f 32 (by decide)
  have f33 := f 33 (by decide)
  have f34 := f 34 (by decide)
  have f35 := f 35 (by decide)
  have f38 := f 38 (by decide)
  have f39 := f 39 (by decide)
  have p3 := P.sct; have p5 := P.h37; have p6 := P.sb; have p7 := P.sa; have p8 := P.s37
  rw [oc, if_pos h5] at p3
  rw [c5, if_pos h5] at p5
  rw [cB, if_pos (Or.inr h5)] at p6
  refine ⟨?_, EA_of P.ea f22 f23 f24, by rw [f30]; exact P.h30, by rw [f35]; exact P.h35, h36, by rw [f39]; omega, by rw [f20, f21]; exact P.s20, by omega, by rw [f39]; omega, by rw [f21]; omega, by rw [f38]; exact P.ssz, by rw [f38, f21]; exact P.slv, by rw [f32, f21]; exact P.scn, by rw [f38, f39, f21]; omega, fun j hj => by rw [f39]; exact P.e39 j (by omega), by rw [f38]; exact P.e38⟩
  intro i hi
  rw [f30] at hi
  rw [f32, f33, f34, f20, f24]
  exact P.nd i hi
theorem c5_0 {f : Nat → Int32} {c : Nat} (h : c5 f (c + 1) ≤ 0) : (f c).toInt ≠ 5 := by
  intro e
  have := c5_nn f c
  rw [c5, if_pos e] at h
  omega
theorem TK_fr {m : List Nat} {t t' : StI} (h : TK t) (hf : FRM m t t') (hm : ∀ k ∈ [6, 8, 9, 14, 15, 16], k ∉ m) : TK t' := by
  have f := fun k (hk : k ∈ [6, 8, 9, 14, 15, 16]) => hf k (hm k hk)
  have f6 := f 6 (by decide)
  have f8 := f 8 (by decide)
  have f9 := f 9 (by decide)
  have f14 := f 14 (by decide)
  have f15 := f 15 (by decide)
  have f16 := f 16 (by decide)
  unfold TK
  rw [f6, f8, f9, f14, f15, f16]
  exact h
set_option maxHeartbeats 4000000 in
theorem sp_Mo_behind (F : Nat) (hF : Big F) (t : StI) (tL : StL) (h : TK t) (sz lv ct : Nat → Int) (a b c : Nat) (P : PIg 1 (t 15 0).toInt t sz lv ct a b c) (h0 : (t 14 0).toInt ≠ 0) : Sf (Mo_behind F t tL) (OQ t) := by
  have hT := h
  obtain ⟨h1, h2, h3, h4, h5, h6⟩ := h
  have w0 : WK t := PIg_WK P (by omega) (by omega)
  have k24 : 1 ≤ (t 14 0).toInt ∧ (t 14 0).toInt ≤ 3 → Sf (Mo_behind_24 F t tL) (OQ t) := by
    intro hk
    rw [Mo_behind_24]
    refine sf_bind (sp_Mo_between F hF _ (by omega) (t 14 0) hk t tL sz lv ct a b c P) (fun r hr => ?_)
    obtain ⟨q1, a2, b2, c2, s2, l2, t2, P2⟩ := hr
    have e8 : r.1 8 = t 8 := q1 8 (by decide)
    have e9 : r.1 9 = t 9 := q1 9 (by decide)
    have e21 : r.1 21 = t 21 := q1 21 (by decide)
    have P3 : PIg 0 (r.1 8 0).toInt r.1 s2 l2 t2 a2 b2 c2 := PIg_fr P2 (FRM_refl [] _) (by decide) (by rw [e8]; omega)
    exact sf_some ⟨FRM_sub (by decide) q1, Or.inl rfl, ⟨PIg_WK P2 (by omega) (by omega), by rw [e9]; exact h1, fun _ => ⟨s2, l2, t2, a2, b2, c2, P3⟩⟩, by rw [e8]; omega, fun _ => by rw [e8, e21]; omega⟩
  rw [Mo_behind]
  refine sf_eq rfl (ilit (3 : Int32) 3 rfl) (fun c1 => k24 (by omega)) (fun c1 => ?_)
  refine sf_eq rfl (ilit (1 : Int32) 1 rfl) (fun c2 => k24 (by omega)) (fun c2 => ?_)
  refine sf_eq rfl (ilit (2 : Int32) 2 rfl) (fun c3 => k24 (by omega)) (fun c3 => ?_)
  refine sf_eq rfl (ilit (6 : Int32) 6 rfl) (fun c4 => ?_) (fun c4 => ?_)
  · refine sf_eq rfl (ilit (0 : Int32) 0 rfl) (fun c5' => ?_) (fun c5' => ?_)
    · refine sf_bind (sp_Mo_fail F hF t tL 1 _ ⟨h1, by decide⟩) (fun r hr => ?_)
      have z9 := hr.1
      have e8 : r.1 8 = t 8 := hr.2 8 (by decide)
      exact sf_some ⟨FRM_sub (by decide) hr.2, Or.inr rfl, ⟨WK_fr w0 hr.2 (by decide), by dsimp only; omega, fun e => by dsimp only at e; omega⟩, by rw [e8]; omega, fun e => by dsimp only at e; omega⟩
    · refine sf_bind (sp_Mo_reduceTo F hF _ (by omega) 1 t tL sz lv ct a b c P) (fun r hr => ?_)
      obtain ⟨hf, a2, b2, c2, s2, l2, t2, P2, le2, o2⟩ := hr
      have e37 : r.1 37 = t 37 := hf 37 (by decide)
      have e39 : r.1 39 = t 39 := hf 39 (by decide)
      have z1 := ilit (1 : Int32) 1 rfl
      have p5 := P2.h37
      rw [e37, e39] at p5
      obtain ⟨c3', rfl⟩ : ∃ c3', c2 = c3' + 1 := by
        cases c2 with
        | zero => exact absurd (by rw [p5]; rfl) c5'
        | succ m => exact ⟨m, rfl⟩
      have e5 : (t 39 c3').toInt = 5 := by
        have q := P2.e39 c3' (by omega)
        rw [e39] at q
        rcases o2 with o | o | o
        · omega
        · exact o
        · rw [z1] at o; have o' : (t 39 c3').toInt < 1 := o; omega
      have g1 : ((r.1 36 0) - (1 : Int32)).toInt = _ := isub P2.h36 z1
      have p7 := P2.sa
      have p8 := P2.s20
      have n5 := c5_nn (t 39) (c3' + 1)
      have p9 := P.s37
      refine sf_up (fun t1 k1 m1 => ?_)
      refine sf_up (fun t3 k3 m3 => ?_)
      have g2 : ((r.1 37 0) - (1 : Int32)).toInt = _ := isub rfl z1
      have x36 : (t3 36 0).toInt = c3' := by rw [m3 36 (by decide), k1]; show ((r.1 36 0) - (1 : Int32)).toInt = _; omega
      have x37 : (t3 37 0).toInt = (r.1 37 0).toInt - 1 := by
        rw [k3]; show ((t1 37 0) - (1 : Int32)).toInt = _
        rw [m1 37 (by decide)]; rw [e37] at g2 ⊢; omega
      have ff : FRM [36, 37] r.1 t3 := FRM_up (FRM_of1 (by decide) m1) (by decide) m3
      have fa : FRM [30, 32, 33, 34, 35, 36, 37, 38] t t3 := FRM_trans (FRM_sub (by decide) hf) (FRM_sub (by decide) ff)
      have e8 : t3 8 = t 8 := fa 8 (by decide)
      have e9 : t3 9 = t 9 := fa 9 (by decide)
      have e21 : t3 21 = t 21 := fa 21 (by decide)
      have P3 : PIg 1 (t3 8 0).toInt t3 s2 l2 t2 a2 b2 c3' := PIg_pop P2 (by rw [e39]; exact e5) x36 x37 ff (by rw [e8]; omega)
      exact sf_some ⟨FRM_sub (by decide) fa, Or.inr rfl, ⟨PIg_WK P3 (by rw [e8]; omega) (by omega), by dsimp only; rw [e9]; exact h1, fun _ => ⟨s2, l2, t2, a2, b2, c3', P3⟩⟩, by dsimp only; rw [e8]; omega, fun _ => by dsimp only; rw [e8, e21]; omega⟩
  · refine sf_bind (sp_Mo_between F hF _ (by omega) 3 (by decide) t tL sz lv ct a b c P) (fun r hr => ?_)
    obtain ⟨q1, a2, b2, c2, s2, l2, t2, P2⟩ := hr
    have e15 : r.1 15 = t 15 := q1 15 (by decide)
    have e21 : r.1 21 = t 21 := q1 21 (by decide)
    refine sf_bind (sp_Mo_operand F hF r.1 r.2 (TK_fr hT q1 (by decide)) s2 l2 t2 a2 b2 c2 (by rw [e15]; exact P2) (by rw [q1 14 (by decide)]; exact h0)) (fun r2 hr2 => ?_)
    obtain ⟨u1, u2, u3, u4, u5⟩ := hr2
    refine sf_b01 u2 ?_
    rw [e15] at u4 u5
    rw [e21] at u5
    exact sf_some ⟨FRM_trans (FRM_sub (by decide) q1) u1, u2, u3, u4, u5⟩
/-- the QUERY has been read: its root, if it has one -/
def TR (t : StI) : Prop := WK t ∧ ((t 31 0).toInt = -1 ∨ ∃ (sz lv ct : Nat → Int) (a : Nat), ND t sz lv ct ∧ (t 30 0).toInt = a ∧ a ≤ 700 ∧ 0 ≤ (t 31 0).toInt ∧ (t 31 0).toInt < a ∧ sz (t 31 0).toNatClampNeg ≤ a ∧ lv (t 31 0).toNatClampNeg ≤ 40 ∧ ct (t 31 0).toNatClampNeg ≤ 1800 ∧ cN (t 32) a ≤ 39)
def RQ : List Nat := [8, 9, 10, 14, 15, 16, 17, 18, 19, 20, 21, 22, 23, 24, 25, 26, 27, 28, 29, 30, 31, 32, 33, 34, 35, 36, 37, 38, 39, 56, 58, 59]
def RD (t : StI) (r : StI × StL) : Prop := FRM RQ t r.1 ∧ TR r.1 ∧ (0 ≤ (r.1 9 0).toInt ∧ (r.1 9 0).toInt ≤ 5) ∧ (-1 ≤ (r.1 16 0).toInt ∧ (r.1 16 0).toInt ≤ 12) ∧ 0 ≤ (r.1 14 0).toInt ∧ (r.1 14 0).toInt ≤ 7
theorem RD_fr {t s : StI} {r : StI × StL} (hf : FRM RQ t s) (h : RD s r) : RD t r := ⟨FRM_trans hf h.1, h.2⟩
/-- between two tokens -/
def LI (x : Int) (t : StI) : Prop := (0 ≤ (t 6 0).toInt ∧ (t 6 0).toInt ≤ 600) ∧ (-1 ≤ (t 16 0).toInt ∧ (t 16 0).toInt ≤ 12) ∧ (0 ≤ (t 14 0).toInt ∧ (t 14 0).toInt ≤ 7) ∧ (x = 0 ∨ x = 1) ∧ (t 31 0).toInt = -1 ∧ RIN x (t 15 0).toInt t ∧ ((t 9 0).toInt = 0 → TK t)
set_option maxHeartbeats 4000000 in
theorem sp_Mo_readAll_142 (F : Nat) (hF : Big F) (x : Int) (t : StI) (tL : StL) (h : LI x t) (hx : (t 9 0).toInt = 0 → x = 1 ∧ (t 37 0).toInt ≤ 0) : Sf (Mo_readAll_142 F t tL) (RD t) := by
  obtain ⟨h1, h2, h3, h4, h5, ⟨w0, h9, hP⟩, hT⟩ := h
  rw [Mo_readAll_142]
  refine sf_eq rfl (ilit (0 : Int32) 0 rfl) (fun c1 => ?_) (fun c1 => ?_)
  · obtain ⟨rfl, x37⟩ := hx c1
    obtain ⟨sz, lv, ct, a, b, c, P⟩ := hP c1
    have tk := hT c1
    have t3 := tk.2.2.1
    refine sf_bind (sp_Mo_reduceTo F hF _ (by omega) 1 t tL sz lv ct a b c P) (fun r hr => ?_)
    obtain ⟨hf, a2, b2, c2, s2, l2, t2, P2, le2, o2⟩ := hr
    have e37 : r.1 37 = t 37 := hf 37 (by decide)
    have e39 : r.1 39 = t 39 := hf 39 (by decide)
    have z1 := ilit (1 : Int32) 1 rfl
    have p5 := P2.h37
    rw [e37, e39] at p5
    have c0 : c2 = 0 := by
      cases c2 with
      | zero => rfl
      | succ m =>
        have q := P2.e39 m (by omega)
        rw [e39] at q
        have n5 := c5_0 (f := t 39) (c := m) (by omega)
        rcases o2 with o | o | o
        · omega
        · exact absurd o n5
        · rw [z1] at o; have o' : (t 39 m).toInt < 1 := o; omega
    subst c0
    have pb := P2.sb
    rw [cB] at pb
    obtain rfl : b2 = 1 := by omega
    refine sf_idx (ilit (0 : Int32) 0 rfl) (by omega) (by omega) ?_
    refine sf_up (fun t1 k1 m1 => ?_)
    have z0 : (0 : Int32).toNatClampNeg = 0 := rfl
    rw [z0] at k1
    have q0 := P2.e38 0 (by omega)
    have s1 := P2.ssz; have s2' := P2.slv; have s3 := P2.sct; have s4 := P2.scn; have s5 := P2.s20; have s6 := P2.sa
    rw [sm, sm] at s1 s2' s3
    rw [oc] at s3
    have x31 : t1 31 0 = r.1 38 0 := by rw [k1]
    have ff : FRM [30, 31, 32, 33, 34, 35, 36, 38] t t1 := FRM_up (FRM_sub (by decide) hf) (by decide) m1
    have fm : FRM [31] r.1 t1 := FRM_of1 (by decide) m1
    have P3 : PIg 1 (t 15 0).toInt t1 s2 l2 t2 a2 1 0 := PIg_fr P2 fm (by decide) (Int.le_refl _)
    refine sf_some ⟨FRM_sub (by decide) ff, ⟨PIg_WK P3 (by omega) (by omega), Or.inr ⟨s2, l2, t2, a2, P3.nd, P3.h30, by omega, ?_⟩⟩, by dsimp only; rw [ff 9 (by decide)]; exact h9, by dsimp only; rw [ff 16 (by decide)]; exact h2, by dsimp only; rw [ff 14 (by decide)]; exact h3⟩
    dsimp only
    rw [x31, m1 32 (by decide)]
    exact ⟨q0.1, q0.2, by omega, by omega, by omega, by omega⟩
  · exact sf_some ⟨FRM_refl _ _, ⟨w0, Or.inl h5⟩, h9, h2, h3⟩
theorem LI_fault {x : Int} {t t' : StI} (h : LI x t) (hf : FRM [9, 10] t t') (h9 : 1 ≤ (t' 9 0).toInt ∧ (t' 9 0).toInt ≤ 5) : LI x t' := by
  obtain ⟨h1, h2, h3, h4, h5, ⟨w0, h9', hP⟩, hT⟩ := h
  exact ⟨by rw [hf 6 (by decide)]; exact h1, by rw [hf 16 (by decide)]; exact h2, by rw [hf 14 (by decide)]; exact h3, h4, by rw [hf 31 (by decide)]; exact h5, ⟨WK_fr w0 hf (by decide), by omega, fun e => by omega⟩, fun e => by omega⟩
set_option maxHeartbeats 4000000 in
theorem sp_Mo_readAll_133 (F : Nat) (hF : Big F) (x : Int) (t : StI) (tL : StL) (h : LI x t) : Sf (Mo_readAll_133 F t tL) (RD t) := by
  rw [Mo_readAll_133]
  refine sf_bind (sp_Mo_fail F hF t tL 1 _ ⟨h.2.2.2.2.2.1.2.1, by decide⟩) (fun r hr => ?_)
  exact sf_imp (sp_Mo_readAll_142 F hF x r.1 r.2 (LI_fault h hr.2 hr.1) (fun e => by have := hr.1; omega)) (fun r' hr' => RD_fr (FRM_sub (by decide) hr.2) hr')
set_option maxHeartbeats 4000000 in
theorem sp_Mo_readAll_115 (F : Nat) (hF : Big F) (t : StI) (tL : StL) (x1 : Int32) (h : LI x1.toInt t) : Sf (Mo_readAll_115 F t tL x1) (RD t) := by
  rw [Mo_readAll_115]
  have h4 := h.2.2.2.1
  refine sf_eq rfl (ilit (0 : Int32) 0 rfl) (fun c1 => ?_) (fun c1 => ?_)
  · refine sf_eq rfl (ilit (0 : Int32) 0 rfl) (fun c2 => ?_) (fun c2 => ?_)
    · exact sp_Mo_readAll_133 F hF _ t tL h
    · refine sf_le rfl (ilit (0 : Int32) 0 rfl) (fun c3 => ?_) (fun c3 => ?_)
      · exact sp_Mo_readAll_142 F hF _ t tL h (fun _ => by omega)
      · exact sp_Mo_readAll_133 F hF _ t tL h
  · exact sp_Mo_readAll_142 F hF _ t tL h (fun e => absurd e c1)

set_option maxHeartbeats 4000000 in
/-- a token has been taken: the next one, and on -/
theorem sp_Mo_readAll_100 (F : Nat) (hF : Big F) (n : Nat) (t0 : StI) (h0 : LI 0 t0 ∨ LI 1 t0) (h9 : (t0 9 0).toInt = 0) (h14 : (t0 14 0).toInt ≠ 0) (hn : 800 - (t0 15 0).toInt - (t0 21 0).toInt ≤ (n : Int)) (y0 : Int32) (t : StI) (tL : StL) (hq : OQ t0 (y0, t, tL))
    (ih : ∀ (t : StI) (tL : StL) (x1 : Int32), LI x1.toInt t → ((t 9 0).toInt = 0 → 800 - (t 15 0).toInt - (t 21 0).toInt < (n : Int)) → 1 ≤ n → Sf (Mo_readAll_71 F n t tL x1) (RD t)) : Sf (Mo_readAll_100 F (Mo_readAll_71 F n) t tL y0) (RD t0) := by
  obtain ⟨q1, q2, ⟨q3, q4, q5⟩, q6, q7⟩ := hq
  dsimp only at q1 q2 q3 q4 q5 q6 q7
  have L : (0 ≤ (t0 6 0).toInt ∧ (t0 6 0).toInt ≤ 600) ∧ (-1 ≤ (t0 16 0).toInt ∧ (t0 16 0).toInt ≤ 12) ∧ (0 ≤ (t0 14 0).toInt ∧ (t0 14 0).toInt ≤ 7) ∧ (t0 31 0).toInt = -1 ∧ TK t0 ∧ (t0 21 0).toInt ≤ 40 := by
    rcases h0 with h | h
    · obtain ⟨sz, lv, ct, a, b, c, P⟩ := h.2.2.2.2.2.1.2.2 h9
      exact ⟨h.1, h.2.1, h.2.2.1, h.2.2.2.2.1, h.2.2.2.2.2.2 h9, P.s20.2.2⟩
    · obtain ⟨sz, lv, ct, a, b, c, P⟩ := h.2.2.2.2.2.1.2.2 h9
      exact ⟨h.1, h.2.1, h.2.2.1, h.2.2.2.2.1, h.2.2.2.2.2.2 h9, P.s20.2.2⟩
  obtain ⟨l1, l2, l3, l4, l5, l6⟩ := L
  have k3 := l5.2.2.1
  have e6 : t 6 = t0 6 := q1 6 (by decide)
  have e16 : t 16 = t0 16 := q1 16 (by decide)
  have e14 : t 14 = t0 14 := q1 14 (by decide)
  have e31 : t 31 = t0 31 := q1 31 (by decide)
  have n1 : 1 ≤ n := by omega
  rw [Mo_readAll_100]
  refine sf_eq rfl (ilit (0 : Int32) 0 rfl) (fun c1 => ?_) (fun c1 => ?_)
  · have q8 := q7 c1
    refine sf_bind (sp_Mo_next F hF t tL (by rw [e6, e16, e14]; omega)) (fun r hr => ?_)
    obtain ⟨u, uf⟩ := hr
    rw [e6] at u
    have e21 : r.1 21 = t 21 := uf 21 (by decide)
    have f6 : r.1 6 = t 6 := uf 6 (by decide)
    have li : LI y0.toInt r.1 := by
      refine ⟨by rw [f6, e6]; exact l1, by omega, by omega, q2, by rw [uf 31 (by decide), e31]; exact l4, ⟨WK_fr q3 uf (by decide), by omega, fun e => ?_⟩, fun e => ?_⟩
      · obtain ⟨sz, lv, ct, a, b, c, P⟩ := q5 c1
        exact ⟨sz, lv, ct, a, b, c, PIg_fr P uf (by decide) (by omega)⟩
      · refine ⟨by omega, by rw [f6, e6]; exact l1, by omega, by omega, by omega, by omega⟩
    refine sf_imp (ih r.1 r.2 y0 li (fun e => by rw [e21]; omega) n1) (fun r' hr' => RD_fr (FRM_trans (FRM_sub (by decide) q1) (FRM_sub (by decide) uf)) hr')
  · have li : LI y0.toInt t := ⟨by rw [e6]; exact l1, by rw [e16]; exact l2, by rw [e14]; exact l3, q2, by rw [e31]; exact l4, ⟨q3, q4, fun e => absurd e c1⟩, fun e => absurd e c1⟩
    exact sf_imp (ih t tL y0 li (fun e => absurd e c1) n1) (fun r' hr' => RD_fr (FRM_sub (by decide) q1) hr')
set_option maxHeartbeats 4000000 in
theorem sp_Mo_readAll_71 (F : Nat) (hF : Big F) : ∀ (n : Nat) (t : StI) (tL : StL) (x1 : Int32), LI x1.toInt t → ((t 9 0).toInt = 0 → 800 - (t 15 0).toInt - (t 21 0).toInt < (n : Int)) → 1 ≤ n → Sf (Mo_readAll_71 F n t tL x1) (RD t) := by
  intro n; induction n with
  | zero => intro t tL x1 h hn h1; omega
  | succ n ih =>
    intro t tL x1 h hn h1
    rw [Mo_readAll_71]
    have h4 := h.2.2.2.1
    have hor : LI 0 t ∨ LI 1 t := by
      rcases h4 with e | e
      · rw [e] at h; exact Or.inl h
      · rw [e] at h; exact Or.inr h
    refine sf_eq rfl (ilit (0 : Int32) 0 rfl) (fun c1 => ?_) (fun c1 => sp_Mo_readAll_115 F hF t tL x1 h)
    refine sf_eq rfl (ilit (0 : Int32) 0 rfl) (fun c2 => sp_Mo_readAll_115 F hF t tL x1 h) (fun c2 => ?_)
    have hn2 := hn c1
    have tk := h.2.2.2.2.2.2 c1
    obtain ⟨sz, lv, ct, a, b, c, P⟩ := h.2.2.2.2.2.1.2.2 c1
    refine sf_eq rfl (ilit (0 : Int32) 0 rfl) (fun c3 => ?_) (fun c3 => ?_)
    · rw [c3] at P
      refine sf_bind (sp_Mo_operand F hF t tL tk sz lv ct a b c P c2) (fun r hr => ?_)
      exact sp_Mo_readAll_100 F hF n t hor c1 c2 (by omega) r.1 r.2.1 r.2.2 hr ih
    · have x1' : x1.toInt = 1 := by omega
      rw [x1'] at P
      refine sf_bind (sp_Mo_behind F hF t tL tk sz lv ct a b c P c2) (fun r hr => ?_)
      exact sp_Mo_readAll_100 F hF n t hor c1 c2 (by omega) r.1 r.2.1 r.2.2 hr ih
set_option maxHeartbeats 4000000 in
theorem sp_Mo_readAll (F : Nat) (hF : Big F) (t : StI) (tL : StL) (h6 : 0 ≤ (t 6 0).toInt ∧ (t 6 0).toInt ≤ 600) (hE : EA t) (h16 : -1 ≤ (t 16 0).toInt ∧ (t 16 0).toInt ≤ 12) (h14 : 0 ≤ (t 14 0).toInt ∧ (t 14 0).toInt ≤ 7) : Sf (Mo_readAll F t tL) (RD t) := by
  rw [Mo_readAll]
  refine sf_up (fun t1 k1 m1 => ?_)
  refine sf_up (fun t2 k2 m2 => ?_)
  refine sf_up (fun t3 k3 m3 => ?_)
  refine sf_up (fun t4 k4 m4 => ?_)
  refine sf_up (fun t5 k5 m5 => ?_)
  refine sf_up (fun t6 k6 m6 => ?_)
  refine sf_up (fun t7 k7 m7 => ?_)
  refine sf_up (fun t8 k8 m8 => ?_)
  refine sf_up (fun t9 k9 m9 => ?_)
  refine sf_up (fun tz kz mz => ?_)
  have z0 := ilit (0 : Int32) 0 rfl
  have v8 : (tz 8 0).toInt = 0 := by rw [mz 8 (by decide), m9 8 (by decide), m8 8 (by decide), m7 8 (by decide), m6 8 (by decide), m5 8 (by decide), m4 8 (by decide), m3 8 (by decide), m2 8 (by decide), k1]; exact z0
  have v9 : (tz 9 0).toInt = 0 := by rw [mz 9 (by decide), m9 9 (by decide), m8 9 (by decide), m7 9 (by decide), m6 9 (by decide), m5 9 (by decide), m4 9 (by decide), m3 9 (by decide), k2]; exact z0
  have v20 : (tz 20 0).toInt = 0 := by rw [mz 20 (by decide), m9 20 (by decide), m8 20 (by decide), m7 20 (by decide), m6 20 (by decide), m5 20 (by decide), k4]; exact z0
  have v21 : (tz 21 0).toInt = 0 := by rw [mz 21 (by decide), m9 21 (by decide), m8 21 (by decide), m7 21 (by decide), m6 21 (by decide), k5]; exact z0
  have v30 : (tz 30 0).toInt = 0 := by rw [mz 30 (by decide), m9 30 (by decide), m8 30 (by decide), m7 30 (by decide), k6]; exact z0
  have v35 : (tz 35 0).toInt = 0 := by rw [mz 35 (by decide), m9 35 (by decide), m8 35 (by decide), k7]; exact z0
  have v36 : (tz 36 0).toInt = 0 := by rw [mz 36 (by decide), m9 36 (by decide), k8]; exact z0
  have v37 : (tz 37 0).toInt = 0 := by rw [mz 37 (by decide), k9]; exact z0
  have v31 : (tz 31 0).toInt = -1 := by rw [kz]; rfl
  have fr : FRM [8, 9, 10, 20, 21, 30, 31, 35, 36, 37] t tz := FRM_up (FRM_up (FRM_up (FRM_up (FRM_up (FRM_up (FRM_up (FRM_up (FRM_up (FRM_of1 (by decide) m1) (by decide) m2) (by decide) m3) (by decide) m4) (by decide) m5) (by decide) m6) (by decide) m7) (by decide) m8) (by decide) m9) (by decide) mz
  have e6 := fr 6 (by decide)
  have e16 := fr 16 (by decide)
  have e14 := fr 14 (by decide)
  have P : PIg 0 0 tz (fun _ => 0) (fun _ => 0) (fun _ => 0) 0 0 0 := by
    refine ⟨fun i hi => by omega, EA_of hE (fr 22 (by decide)) (fr 23 (by decide)) (fr 24 (by decide)), v30, v35, v36, v37, by omega, by omega, rfl, by omega, Int.le_refl _, ?_, ?_, ?_, fun j hj => by omega, fun j hj => by omega⟩
    · rw [sm]; omega
    · rw [cN]; omega
    · rw [sm, oc]; omega
  refine sf_bind (sp_Mo_next F hF tz tL (by rw [e6, e16, e14]; omega)) (fun r hr => ?_)
  obtain ⟨u, uf⟩ := hr
  rw [e6] at u
  have P2 := fun (p' : Int) (hp : 0 ≤ p') => PIg_fr P uf (by decide) hp
  have w0 : WK r.1 := PIg_WK (P2 0 (by omega)) (by omega) (by omega)
  have e31 : r.1 31 = tz 31 := uf 31 (by decide)
  have fa : FRM RQ t r.1 := FRM_trans (FRM_sub (by decide) fr) (FRM_sub (by decide) uf)
  have li : LI (0 : Int32).toInt r.1 := by
    rw [z0]
    refine ⟨by rw [uf 6 (by decide), e6]; exact h6, by omega, by omega, Or.inl rfl, by rw [e31]; exact v31, ⟨w0, by omega, fun e => ⟨_, _, _, _, _, _, P2 _ (by omega)⟩⟩, fun e => ?_⟩
    exact ⟨by omega, by rw [uf 6 (by decide), e6]; exact h6, by omega, by omega, by omega, by omega⟩
  have e21 : r.1 21 = tz 21 := uf 21 (by decide)
  have k : Sf (Mo_readAll_69 F r.1 r.2) (RD t) := by
    rw [Mo_readAll_69]
    have hq := fuel_ok hF (M := 800) (by omega)
    exact sf_imp (sp_Mo_readAll_71 F hF F r.1 r.2 0 li (fun e => by rw [e21]; omega) hq.2) (fun r' hr' => RD_fr fa hr')
  refine sf_any (sf_any ?_ k) k
  exact sf_some ⟨fa, ⟨w0, Or.inl (by rw [e31]; exact v31)⟩, by dsimp only; omega, by dsimp only; omega, by dsimp only; omega⟩

/-! the reference's read -/
def RB : List Nat := [0, 3, 4, 5, 6, 7, 8, 9, 10, 11, 12, 14, 15, 16, 17, 18, 19, 20, 21, 22, 23, 24, 25, 26, 27, 28, 29, 30, 31, 32, 33, 34, 35, 36, 37, 38, 39, 56, 58, 59]
/-- the reading part of the reference's state, between two calls -/
def M0I (t : StI) : Prop := (0 ≤ (t 6 0).toInt ∧ (t 6 0).toInt ≤ 600) ∧ (0 ≤ (t 7 0).toInt ∧ (t 7 0).toInt ≤ 600) ∧ TR t ∧ (-1 ≤ (t 16 0).toInt ∧ (t 16 0).toInt ≤ 12) ∧ 0 ≤ (t 14 0).toInt ∧ (t 14 0).toInt ≤ 7
theorem TR_fr {m : List Nat} {t t' : StI} (h : TR t) (hf : FRM m t t') (hm : ∀ k ∈ 31 :: WKf, k ∉ m) : TR t' := by
  have f := fun k (hk : k ∈ 31 :: WKf) => hf k (hm k hk)
  have f20 := f 20 (by decide)
  have f24 := f 24 (by decide)
  have f23 := f 23 (by decide)
  have f30 := f 30 (by decide)
  have f31 := f 31 (by decide)
  have f32 := f 32 (by decide)
  have f33 := f 33 (by decide)
  have f34 := f 34 (by decide)
  refine ⟨WK_fr h.1 hf (fun k hk => hm k (List.mem_cons_of_mem _ hk)), ?_⟩
  rw [f31, f30, f32]
  rcases h.2 with h2 | ⟨sz, lv, ct, a, n, h3⟩
  · exact Or.inl h2
  · refine Or.inr ⟨sz, lv, ct, a, ?_, h3⟩
    intro i hi
    rw [f30] at hi
    rw [f32, f33, f34, f20, f24]
    exact n i hi
theorem M0I_fr {m : List Nat} {t t' : StI} (h : M0I t) (hf : FRM m t t') (hm : ∀ k ∈ [6, 7, 14, 16, 31, 20, 22, 23, 24, 30, 32, 33, 34], k ∉ m) : M0I t' := by
  have f := fun k (hk : k ∈ [6, 7, 14, 16, 31, 20, 22, 23, 24, 30, 32, 33, 34]) => hf k (hm k hk)
  have f6 := f 6 (by decide)
  have f7 := f 7 (by decide)
  have f14 := f 14 (by decide)
  have f16 := f 16 (by decide)
  refine ⟨by rw [f6]; exact h.1, by rw [f7]; exact h.2.1, TR_fr h.2.2.1 hf (fun k hk => hm k ?_), by rw [f14, f16]; exact h.2.2.2⟩
  revert k
  decide
set_option maxHeartbeats 4000000 in
theorem sp_Mo_read_50 (F : Nat) (hF : Big F) (t : StI) (tL : StL) (y0 : Int32) (h : M0I t) : Sf (Mo_read_50 F t tL y0) (fun r => M0I r.2.1 ∧ FRM RB t r.2.1 ∧ r.2.1 3 = t 3) := by
  rw [Mo_read_50]
  refine sf_up (fun t1 k1 m1 => ?_)
  have f1 : FRM [0] t t1 := FRM_of1 (by decide) m1
  have h1 := M0I_fr h f1 (by decide)
  refine sf_any ?_ ?_
  · refine sf_up (fun t2 k2 m2 => ?_)
    have f2 : FRM [0, 7] t t2 := FRM_up (FRM_sub (by decide) f1) (by decide) m2
    have e6 : t2 6 = t1 6 := m2 6 (by decide)
    have e7 : t2 7 0 = t1 6 0 := by rw [k2]
    have fm : FRM [7] t1 t2 := FRM_of1 (by decide) m2
    have h2 : M0I t2 := ⟨by rw [e6]; exact h1.1, by rw [e7]; exact h1.1, TR_fr h1.2.2.1 fm (by decide), by rw [m2 16 (by decide), m2 14 (by decide)]; exact h1.2.2.2⟩
    refine sf_imp (sp_Mo_read_88 F hF F t2 tL 0 ⟨⟨h2.1, by decide⟩, fuel_ok hF (by decide)⟩) (fun r hr => ?_)
    exact ⟨M0I_fr h2 hr.2 (by decide), FRM_trans (FRM_sub (by decide) f2) (FRM_sub (by decide) hr.2), by rw [hr.2 3 (by decide), f2 3 (by decide)]⟩
  · refine sf_bind (sp_Mo_take_query F hF t1 tL _ h1.2.1) (fun r hr => ?_)
    obtain ⟨q1, q2⟩ := hr
    have w := WK_fr h1.2.2.1.1 q2 (by decide)
    refine sf_bind (sp_Mo_readAll F hF r.1 r.2 (by rw [q1]; exact h1.2.1) w.2.1 (by rw [q2 16 (by decide)]; exact h1.2.2.2.1) (by rw [q2 14 (by decide)]; exact h1.2.2.2.2)) (fun r2 hr2 => ?_)
    obtain ⟨u1, u2, u3, u4, u5⟩ := hr2
    refine sf_some ⟨⟨?_, ?_, u2, u4, u5⟩, FRM_trans (FRM_trans (FRM_sub (by decide) f1) (FRM_sub (by decide) q2)) (FRM_sub (by decide) u1), ?_⟩
    · dsimp only; rw [u1 6 (by decide), q1]; exact h1.2.1
    · dsimp only; rw [u1 7 (by decide), q2 7 (by decide)]; exact h1.2.1
    · dsimp only; rw [u1 3 (by decide), q2 3 (by decide), f1 3 (by decide)]
set_option maxHeartbeats 4000000 in
theorem sp_Mo_read (F : Nat) (hF : Big F) (t : StI) (tL : StL) (h3 : 0 ≤ (t 3 0).toInt ∧ (t 3 0).toInt ≤ 600) (h : M0I t) : Sf (Mo_read F t tL) (fun r => M0I r.2.1 ∧ FRM RB t r.2.1 ∧ (r.2.1 3 0).toInt = 0) := by
  rw [Mo_read]
  refine sf_bind (sp_Mo_take_hand F hF t tL _ h3) (fun r hr => ?_)
  obtain ⟨q1, q2⟩ := hr
  have w := WK_fr h.2.2.1.1 q2 (by decide)
  refine sf_up (fun t1 k1 m1 => ?_)
  have f1 : FRM [3, 4, 6] t t1 := FRM_up (FRM_sub (by decide) q2) (by decide) m1
  have w1 : WK t1 := WK_fr h.2.2.1.1 f1 (by decide)
  have z0 := ilit (0 : Int32) 0 rfl
  have e3 : (t1 3 0).toInt = 0 := by rw [k1]; exact z0
  have e6 : (t1 6 0).toInt = (t 3 0).toInt := by rw [m1 6 (by decide)]; exact q1
  refine sf_bind (sp_Mo_readAll F hF t1 r.2 (by rw [e6]; exact h3) w1.2.1 (by rw [f1 16 (by decide)]; exact h.2.2.2.1) (by rw [f1 14 (by decide)]; exact h.2.2.2.2)) (fun r2 hr2 => ?_)
  obtain ⟨u1, u2, u3, u4, u5⟩ := hr2
  refine sf_up (fun t3 k3 m3 => ?_)
  refine sf_up (fun t4 k4 m4 => ?_)
  have f2 : FRM [11, 12] r2.1 t4 := FRM_up (FRM_of1 (by decide) m3) (by decide) m4
  have M1 : M0I r2.1 := ⟨by rw [u1 6 (by decide), e6]; exact h3, by rw [u1 7 (by decide), f1 7 (by decide)]; exact h.2.1, u2, u4, u5⟩
  have M2 : M0I t4 := M0I_fr M1 f2 (by decide)
  have fa : FRM RB t t4 := FRM_trans (FRM_trans (FRM_sub (by decide) f1) (FRM_sub (by decide) u1)) (FRM_sub (by decide) f2)
  have x3 : (t4 3 0).toInt = 0 := by rw [f2 3 (by decide), u1 3 (by decide)]; exact e3
  have k : ∀ y0 : Int32, Sf (Mo_read_50 F t4 r2.2 y0) (fun r => M0I r.2.1 ∧ FRM RB t r.2.1 ∧ (r.2.1 3 0).toInt = 0) := fun y0 =>
    sf_imp (sp_Mo_read_50 F hF t4 r2.2 y0 M2) (fun r' hr' => ⟨hr'.1, FRM_trans fa hr'.2.1, by rw [hr'.2.2]; exact x3⟩)
  exact sf_any (k 0) (k 1)

