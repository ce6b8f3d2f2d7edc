/-- where the atoms' TEXTs stand, and how long they are -/
def EA (t : StI) : Prop := ∀ j, 0 ≤ (t 23 j).toInt ∧ (t 23 j).toInt ≤ 9000 ∧ 0 ≤ (t 24 j).toInt ∧ (t 24 j).toInt ≤ 9000 ∧ (t 22 j).toInt ≤ 12
theorem EA_of {t t' : StI} (h : EA t) (h2 : t' 22 = t 22) (h3 : t' 23 = t 23) (h4 : t' 24 = t 24) : EA t' := by
  intro j
  rw [h2, h3, h4]
  exact h j
set_option maxHeartbeats 4000000 in
theorem sp_Mo_isAlike_52 (F : Nat) (hF : Big F) (t : StI) (tL : StL) (x1 : Int32) (hE : EA t) (hp : (0 ≤ (t 6 0).toInt ∧ (t 6 0).toInt ≤ 600) ∧ 0 ≤ x1.toInt ∧ x1.toInt < 40 ∧ 0 ≤ (t 17 0).toInt ∧ (t 17 0).toInt ≤ 9000) : ∀ (n : Nat) (x2 x3 : Int32) (h : (x2.toInt = 0 ∨ x2.toInt = 1) ∧ 0 ≤ x3.toInt ∧ x3.toInt ≤ 9001 ∧ 9002 - x3.toInt < (n : Int) ∧ 1 ≤ n), Sf (Mo_isAlike_52 F n t tL x1 x2 x3) (fun r => (r.toInt = 0 ∨ r.toInt = 1)) := by
  intro n; induction n with
  | zero => intro x2 x3 h; omega
  | succ n ih =>
    intro x2 x3 h; rw [Mo_isAlike_52]
    have q := hE x1.toNatClampNeg
    have g1 : (x3 + (1 : Int32)).toInt = _ := iadd rfl (ilit (1 : Int32) 1 rfl)
    have g2 : (((t 23) x1.toNatClampNeg) + x3).toInt = _ := iadd rfl rfl
    have g3 : ((t 17 0) + x3).toInt = _ := iadd rfl rfl
    have z1 := ilit (1 : Int32) 1 rfl
    have z0 := ilit (0 : Int32) 0 rfl
    refine sf_idx rfl (by omega) (by omega) ?_
    refine sf_le rfl rfl (fun c1 => ?_) (fun c1 => ?_)
    · refine sf_b01 (by omega) ?_
      exact sf_some h.1
    refine sf_eq rfl (ilit 0 0 rfl) (fun c2 => ?_) (fun c2 => ?_)
    · refine sf_b01 (by omega) ?_
      exact sf_some h.1
    refine sf_idx rfl (by omega) (by omega) ?_
    refine sf_bind (sp_Mo_see F hF t tL _ (by omega)) (fun r24 _ => ?_)
    refine sf_bind (sp_Mo_small F hF r24 trivial) (fun r25 _ => ?_)
    refine sf_bind (sp_Mo_see F hF t tL _ (by omega)) (fun r26 _ => ?_)
    refine sf_bind (sp_Mo_small F hF r26 trivial) (fun r27 _ => ?_)
    refine sf_any ?_ ?_
    · rw [Mo_isAlike_102]
      exact ih 1 (x3 + (1 : Int32)) (by omega)
    · rw [Mo_isAlike_102]
      exact ih 0 (x3 + (1 : Int32)) (by omega)
set_option maxHeartbeats 4000000 in
theorem sp_Mo_isAlike (F : Nat) (hF : Big F) (t : StI) (tL : StL) (x1 : Int32) (hE : EA t) (hp : (0 ≤ (t 6 0).toInt ∧ (t 6 0).toInt ≤ 600) ∧ 0 ≤ x1.toInt ∧ x1.toInt < 40 ∧ 0 ≤ (t 17 0).toInt ∧ (t 17 0).toInt ≤ 9000) : Sf (Mo_isAlike F t tL x1) (fun r => (r.toInt = 0 ∨ r.toInt = 1) ∧ (r.toInt = 0 ∨ ((t 24 x1.toNatClampNeg) = (t 18 0) - (t 17 0) ∧ t 22 x1.toNatClampNeg = t 16 0))) := by
  have z1 := ilit (1 : Int32) 1 rfl
  have z0 := ilit (0 : Int32) 0 rfl
  have key : ∀ y0 : Int32, (y0.toInt = 0 ∨ y0.toInt = 1) → Sf (Mo_isAlike_49 F t tL x1 y0) (fun r => (r.toInt = 0 ∨ r.toInt = 1)) := by
    intro y0 hy
    rw [Mo_isAlike_49]
    exact sp_Mo_isAlike_52 F hF t tL x1 hE hp F y0 0 ⟨hy, by omega, by omega, fuel_ok hF (by omega)⟩
  have key0 : Sf (Mo_isAlike_48 F t tL x1) (fun r => r.toInt = 0) := by
    rw [Mo_isAlike_48, Mo_isAlike_49]
    have hb : Big F := hF
    obtain ⟨n, rfl⟩ : ∃ n, F = n + 1 := ⟨F - 1, by have h9 : 4294967297 ≤ F := hb; omega⟩
    rw [Mo_isAlike_52]
    refine sf_idx rfl (by omega) (by omega) ?_
    refine sf_any ?_ ?_
    · refine sf_b01 (by omega) ?_
      exact sf_some z0
    · refine sf_eq rfl (ilit 0 0 rfl) (fun c2 => ?_) (fun c2 => absurd z0 c2)
      refine sf_b01 (by omega) ?_
      exact sf_some z0
  rw [Mo_isAlike]
  refine sf_idx rfl (by omega) (by omega) ?_
  refine sf_ite (fun c1 => ?_) (fun c1 => sf_imp key0 (fun r hr => ⟨Or.inl hr, Or.inl hr⟩))
  refine sf_idx rfl (by omega) (by omega) ?_
  refine sf_ite (fun c2 => ?_) (fun c2 => sf_imp key0 (fun r hr => ⟨Or.inl hr, Or.inl hr⟩))
  refine sf_idx rfl (by omega) (by omega) ?_
  refine sf_ite (fun c3 => ?_) (fun c3 => sf_imp key0 (fun r hr => ⟨Or.inl hr, Or.inl hr⟩))
  exact sf_imp (key 1 (Or.inr z1)) (fun r hr => ⟨hr, Or.inr ⟨c3, c1⟩⟩)

/-- an atom has its number: r.1; t is the state before -/
def AN (t : StI) (r : Int32 × StI × StL) : Prop := (0 ≤ r.1.toInt ∧ r.1.toInt < 40 ∧ r.1.toInt < (r.2.1 20 0).toInt ∧ (t 20 0).toInt ≤ (r.2.1 20 0).toInt ∧ (r.2.1 20 0).toInt ≤ (t 20 0).toInt + 1) ∧ EA r.2.1 ∧ FRM [20, 22, 23, 24, 25, 26, 27, 28, 29] t r.2.1 ∧ (r.2.1 24 r.1.toNatClampNeg).toInt = (t 18 0).toInt - (t 17 0).toInt ∧ (r.2.1 22 r.1.toNatClampNeg).toInt = (t 16 0).toInt ∧ ∀ j : Nat, (j : Int) < (t 20 0).toInt → r.2.1 24 j = t 24 j ∧ r.2.1 22 j = t 22 j
set_option maxHeartbeats 4000000 in
theorem sp_Mo_atomNumber_107 (F : Nat) (hF : Big F) (t : StI) (tL : StL) (x1 y0 : Int32) (h : ((0 ≤ (t 6 0).toInt ∧ (t 6 0).toInt ≤ 600) ∧ (0 ≤ (t 17 0).toInt ∧ (t 17 0).toInt ≤ 9000 ∧ 0 ≤ (t 18 0).toInt ∧ (t 18 0).toInt ≤ 9000)) ∧ 0 ≤ x1.toInt ∧ x1.toInt < 40 ∧ 0 ≤ y0.toInt ∧ y0.toInt < 40 ∧ 0 ≤ (t 20 0).toInt ∧ (t 20 0).toInt < 40) : Sf (Mo_atomNumber_107 F t tL x1 y0) (fun r => (r.1.toInt = x1.toInt ∧ (r.2.1 20 0).toInt = (t 20 0).toInt + 1) ∧ FRM [20, 25, 26, 27, 28] t r.2.1) := by
  rw [Mo_atomNumber_107]
  refine sf_bind (sp_Mo_star F hF t tL h.1) (fun r34 _ => ?_)
  exact sp_Mo_atomNumber_115 F hF t tL x1 r34 y0 h.2
set_option maxHeartbeats 4000000 in
theorem sp_Mo_atomNumber_2 (F : Nat) (hF : Big F) (t : StI) (tL : StL) (hE : EA t) (hp : (0 ≤ (t 6 0).toInt ∧ (t 6 0).toInt ≤ 600) ∧ (0 ≤ (t 17 0).toInt ∧ (t 17 0).toInt ≤ (t 18 0).toInt ∧ (t 18 0).toInt ≤ 9000) ∧ 0 ≤ (t 20 0).toInt ∧ (t 20 0).toInt < 40 ∧ (t 16 0).toInt ≤ 12) : ∀ (n : Nat) (x1 : Int32) (h : 0 ≤ x1.toInt ∧ x1.toInt ≤ (t 20 0).toInt ∧ 40 - x1.toInt < (n : Int) ∧ 1 ≤ n), Sf (Mo_atomNumber_2 F n t tL x1) (AN t) := by
  intro n; induction n with
  | zero => intro x1 h; omega
  | succ n ih =>
    intro x1 h; rw [Mo_atomNumber_2]
    have g1 : (x1 + (1 : Int32)).toInt = _ := iadd rfl (ilit (1 : Int32) 1 rfl)
    refine sf_le rfl rfl (fun c1 => ?_) (fun c1 => ?_)
    · refine sf_idx rfl (by omega) (by omega) ?_
      refine sf_up (fun t_36 h36 n36 => ?_)
      refine sf_idx rfl (by omega) (by omega) ?_
      refine sf_up (fun t_38 h38 n38 => ?_)
      refine sf_idx rfl (by omega) (by omega) ?_
      refine sf_up (fun t_40 h40 n40 => ?_)
      refine sf_idx rfl (by omega) (by omega) ?_
      refine sf_up (fun t_42 h42 n42 => ?_)
      have fr : ∀ k, k ∉ [22, 23, 24, 29] → t_42 k = t k := by
        intro k hk
        simp only [List.mem_cons, List.not_mem_nil, or_false, not_or] at hk
        rw [n42 k hk.2.2.1, n40 k hk.2.1, n38 k hk.2.2.2, n36 k hk.1]
      have e20 : t_42 20 = t 20 := fr 20 (by decide)
      have e6 : t_42 6 = t 6 := fr 6 (by decide)
      have e17 : t_42 17 = t 17 := fr 17 (by decide)
      have e18 : t_42 18 = t 18 := fr 18 (by decide)
      have c22 : t_42 22 = upd (t 22) (t 20 0).toNatClampNeg (t 16 0) := by rw [n42 22 (by decide), n40 22 (by decide), n38 22 (by decide), h36]
      have c23 : t_42 23 = upd (t 23) (t 20 0).toNatClampNeg (t 17 0) := by
        rw [n42 23 (by decide), h40, n38 23 (by decide), n36 23 (by decide), n38 17 (by decide), n36 17 (by decide)]
      have c24 : t_42 24 = upd (t 24) (t 20 0).toNatClampNeg ((t 18 0) - (t 17 0)) := by
        rw [h42, n40 24 (by decide), n38 24 (by decide), n36 24 (by decide), n40 18 (by decide), n38 18 (by decide), n36 18 (by decide), n40 17 (by decide), n38 17 (by decide), n36 17 (by decide)]
      have gl : ((t 18 0) - (t 17 0)).toInt = _ := isub rfl rfl
      have hE2 : EA t_42 := by
        intro j
        have hj := hE j
        rw [c22, c23, c24]
        unfold upd
        by_cases j1 : j = (t 20 0).toNatClampNeg
        · rw [if_pos j1, if_pos j1, if_pos j1]; omega
        · rw [if_neg j1, if_neg j1, if_neg j1]; exact hj
      have fin : ∀ r : Int32 × StI × StL, (r.1.toInt = (t 20 0).toInt ∧ (r.2.1 20 0).toInt = (t_42 20 0).toInt + 1) ∧ FRM [20, 25, 26, 27, 28] t_42 r.2.1 → AN t r := by
        intro r hr
        obtain ⟨⟨r1', r2⟩, r3⟩ := hr
        have r1 : r.1 = t 20 0 := Int32.toInt_inj.mp r1'
        rw [e20] at r2
        have k24 : r.2.1 24 = t_42 24 := r3 24 (by decide)
        have k23 : r.2.1 23 = t_42 23 := r3 23 (by decide)
        have k22 : r.2.1 22 = t_42 22 := r3 22 (by decide)
        refine ⟨by rw [r1]; omega, EA_of hE2 k22 k23 k24, fun k hk => ?_, ?_, ?_, fun j hj => ?_⟩
        · simp only [List.mem_cons, List.not_mem_nil, or_false, not_or] at hk
          rw [r3 k (by simp only [List.mem_cons, List.not_mem_nil, or_false, not_or]; exact ⟨hk.1, hk.2.2.2.2.1, hk.2.2.2.2.2.1, hk.2.2.2.2.2.2.1, hk.2.2.2.2.2.2.2.1⟩)]
          exact fr k (by simp only [List.mem_cons, List.not_mem_nil, or_false, not_or]; exact ⟨hk.2.1, hk.2.2.1, hk.2.2.2.1, hk.2.2.2.2.2.2.2.2⟩)
        · rw [k24, c24, r1]; unfold upd; rw [if_pos rfl]; omega
        · rw [k22, c22, r1]; unfold upd; rw [if_pos rfl]
        · have jn : j ≠ (t 20 0).toNatClampNeg := by rw [iclamp]; omega
          rw [k24, k22, c24, c22]; unfold upd; rw [if_neg jn, if_neg jn]; exact ⟨rfl, rfl⟩
      have hq : ((0 ≤ (t_42 6 0).toInt ∧ (t_42 6 0).toInt ≤ 600) ∧ (0 ≤ (t_42 17 0).toInt ∧ (t_42 17 0).toInt ≤ 9000 ∧ 0 ≤ (t_42 18 0).toInt ∧ (t_42 18 0).toInt ≤ 9000)) := by rw [e6, e17, e18]; omega
      have h20 : 0 ≤ (t 20 0).toInt ∧ (t 20 0).toInt < 40 ∧ 0 ≤ (t 20 0).toInt ∧ (t 20 0).toInt < 40 ∧ 0 ≤ (t_42 20 0).toInt ∧ (t_42 20 0).toInt < 40 := by rw [e20]; omega
      have a1 := sf_imp (sp_Mo_atomNumber_107 F hF t_42 tL (t 20 0) (t 20 0) ⟨hq, h20⟩) fin
      refine sf_any a1 (sf_any a1 (sf_any a1 ?_))
      exact sf_imp (sp_Mo_atomNumber_115 F hF t_42 tL (t 20 0) (-1) (t 20 0) h20) fin
    · refine sf_bind (sp_Mo_isAlike F hF t tL x1 hE (by omega)) (fun r47 h47 => ?_)
      refine sf_eq rfl (ilit 0 0 rfl) (fun c2 => ?_) (fun c2 => ?_)
      · exact ih (x1 + (1 : Int32)) (by omega)
      · have gl : ((t 18 0) - (t 17 0)).toInt = _ := isub rfl rfl
        have h48 : (t 24 x1.toNatClampNeg) = (t 18 0) - (t 17 0) ∧ t 22 x1.toNatClampNeg = t 16 0 := by
          rcases h47.2 with h | h
          · exact absurd h c2
          · exact h
        refine sf_some ⟨by (try dsimp only); omega, hE, FRM_refl _ _, ?_, ?_, fun j _ => ⟨rfl, rfl⟩⟩
        · show (t 24 x1.toNatClampNeg).toInt = _
          rw [h48.1]; omega
        · show (t 22 x1.toNatClampNeg).toInt = _
          rw [h48.2]
theorem sp_Mo_atomNumber (F : Nat) (hF : Big F) (t : StI) (tL : StL) (hE : EA t) (hp : (0 ≤ (t 6 0).toInt ∧ (t 6 0).toInt ≤ 600) ∧ (0 ≤ (t 17 0).toInt ∧ (t 17 0).toInt ≤ (t 18 0).toInt ∧ (t 18 0).toInt ≤ 9000) ∧ 0 ≤ (t 20 0).toInt ∧ (t 20 0).toInt < 40 ∧ (t 16 0).toInt ≤ 12) : Sf (Mo_atomNumber F t tL) (AN t) := by
  rw [Mo_atomNumber]
  have z0 := ilit (0 : Int32) 0 rfl
  exact sp_Mo_atomNumber_2 F hF t tL hE hp F 0 ⟨by omega, by omega, fuel_ok hF (by omega)⟩

/-! the reference's stacks: counts and sums over the first n entries -/
def cB (f : Nat → Int32) : Nat → Int
  | 0 => 0
  | n + 1 => cB f n + (if (f n).toInt = 4 ∨ (f n).toInt = 5 then 0 else 1)
def c5 (f : Nat → Int32) : Nat → Int
  | 0 => 0
  | n + 1 => c5 f n + (if (f n).toInt = 5 then 1 else 0)
/-- what the signs on the stack will print -/
def oc (f : Nat → Int32) : Nat → Int
  | 0 => 0
  | n + 1 => oc f n + (if (f n).toInt = 5 then 0 else if (f n).toInt = 4 then 4 else 7)
/-- binary nodes -/
def cN (f : Nat → Int32) : Nat → Int
  | 0 => 0
  | n + 1 => cN f n + (if (f n).toInt = 4 ∨ (f n).toInt = 7 then 0 else 1)
def sm (g : Nat → Int) (f : Nat → Int32) : Nat → Int
  | 0 => 0
  | n + 1 => sm g f n + g (f n).toNatClampNeg
theorem upd_lt {f : Nat → Int32} {k j : Nat} {v : Int32} (h : j ≠ k) : upd f k v j = f j := by unfold upd; rw [if_neg h]
theorem upd_at {f : Nat → Int32} {k : Nat} {v : Int32} : upd f k v k = v := by unfold upd; rw [if_pos rfl]
theorem cB_upd {f : Nat → Int32} {k : Nat} {v : Int32} : ∀ n, n ≤ k → cB (upd f k v) n = cB f n
  | 0, _ => rfl
  | n + 1, h => by rw [cB, cB, cB_upd n (by omega), upd_lt (by omega)]
theorem c5_upd {f : Nat → Int32} {k : Nat} {v : Int32} : ∀ n, n ≤ k → c5 (upd f k v) n = c5 f n
  | 0, _ => rfl
  | n + 1, h => by rw [c5, c5, c5_upd n (by omega), upd_lt (by omega)]
theorem oc_upd {f : Nat → Int32} {k : Nat} {v : Int32} : ∀ n, n ≤ k → oc (upd f k v) n = oc f n
  | 0, _ => rfl
  | n + 1, h => by rw [oc, oc, oc_upd n (by omega), upd_lt (by omega)]
theorem cN_upd {f : Nat → Int32} {k : Nat} {v : Int32} : ∀ n, n ≤ k → cN (upd f k v) n = cN f n
  | 0, _ => rfl
  | n + 1, h => by rw [cN, cN, cN_upd n (by omega), upd_lt (by omega)]
theorem sm_upd {g : Nat → Int} {f : Nat → Int32} {k : Nat} {v : Int32} : ∀ n, n ≤ k → sm g (upd f k v) n = sm g f n
  | 0, _ => rfl
  | n + 1, h => by rw [sm, sm, sm_upd n (by omega), upd_lt (by omega)]
/-- a new node's ghost value changes no sum over older ones -/
theorem sm_new {g : Nat → Int} {f : Nat → Int32} {k : Nat} {v : Int} : ∀ n, (∀ j, j < n → (f j).toNatClampNeg < k) → sm (fun i => if i = k then v else g i) f n = sm g f n
  | 0, _ => rfl
  | n + 1, h => by
    rw [sm, sm, sm_new n (fun j hj => h j (by omega))]
    have h1 := h n (by omega)
    rw [if_neg (by omega)]
theorem cB_nn (f : Nat → Int32) : ∀ n, 0 ≤ cB f n
  | 0 => by simp [cB]
  | n + 1 => by have := cB_nn f n; rw [cB]; split <;> omega
theorem c5_nn (f : Nat → Int32) : ∀ n, 0 ≤ c5 f n
  | 0 => by simp [c5]
  | n + 1 => by have := c5_nn f n; rw [c5]; split <;> omega
theorem oc_nn (f : Nat → Int32) : ∀ n, 0 ≤ oc f n
  | 0 => by simp [oc]
  | n + 1 => by have := oc_nn f n; rw [oc]; split <;> (try split) <;> omega
theorem cN_nn (f : Nat → Int32) : ∀ n, 0 ≤ cN f n
  | 0 => by simp [cN]
  | n + 1 => by have := cN_nn f n; rw [cN]; split <;> omega
theorem sm_nn {g : Nat → Int} {f : Nat → Int32} : ∀ n, (∀ j, j < n → 0 ≤ g (f j).toNatClampNeg) → 0 ≤ sm g f n
  | 0, _ => by simp [sm]
  | n + 1, h => by
    have h1 := sm_nn (g := g) (f := f) n (fun j hj => h j (by omega))
    have h2 := h n (by omega)
    rw [sm]; omega
/-- the nodes: a child has a lesser number; sz counts nodes, lv leaves, ct the bytes that a node prints at most -/
def ND (t : StI) (sz lv ct : Nat → Int) : Prop := ∀ i : Nat, (i : Int) < (t 30 0).toInt → 1 ≤ sz i ∧ 1 ≤ lv i ∧ 0 ≤ ct i ∧
  (((t 32 i).toInt = 7 ∧ 0 ≤ (t 33 i).toInt ∧ (t 33 i).toInt < (t 20 0).toInt ∧ sz i = 1 ∧ lv i = 1 ∧ ct i = 18 + (t 24 (t 33 i).toNatClampNeg).toInt) ∨
   ((t 32 i).toInt = 4 ∧ 0 ≤ (t 33 i).toInt ∧ (t 33 i).toInt < (i : Int) ∧ sz i = 1 + sz (t 33 i).toNatClampNeg ∧ lv i = lv (t 33 i).toNatClampNeg ∧ ct i = 4 + ct (t 33 i).toNatClampNeg) ∨
   ((1 ≤ (t 32 i).toInt ∧ (t 32 i).toInt ≤ 3) ∧ 0 ≤ (t 33 i).toInt ∧ (t 33 i).toInt < (i : Int) ∧ 0 ≤ (t 34 i).toInt ∧ (t 34 i).toInt < (i : Int) ∧ sz i = 1 + sz (t 33 i).toNatClampNeg + sz (t 34 i).toNatClampNeg ∧ lv i = lv (t 33 i).toNatClampNeg + lv (t 34 i).toNatClampNeg ∧ ct i = 7 + ct (t 33 i).toNatClampNeg + ct (t 34 i).toNatClampNeg))
/-- a node more: the older ones stay as they are -/
theorem ND_node {t t' : StI} {sz lv ct : Nat → Int} {x1 x2 x3 : Int32} {zs zl zc : Int} {n : Nat} (h : ND t sz lv ct) (hn : (n : Int) = (t 30 0).toInt) (h30 : (t' 30 0).toInt = (t 30 0).toInt + 1) (h20 : (t' 20 0).toInt = (t 20 0).toInt) (h24 : t' 24 = t 24)
    (h32 : t' 32 = upd (t 32) n x1) (h33 : t' 33 = upd (t 33) n x2) (h34 : t' 34 = upd (t 34) n x3)
    (hz : 1 ≤ zs ∧ 1 ≤ zl ∧ 0 ≤ zc ∧ ((x1.toInt = 7 ∧ 0 ≤ x2.toInt ∧ x2.toInt < (t 20 0).toInt ∧ zs = 1 ∧ zl = 1 ∧ zc = 18 + (t 24 x2.toNatClampNeg).toInt) ∨
      (x1.toInt = 4 ∧ 0 ≤ x2.toInt ∧ x2.toInt < (n : Int) ∧ zs = 1 + sz x2.toNatClampNeg ∧ zl = lv x2.toNatClampNeg ∧ zc = 4 + ct x2.toNatClampNeg) ∨
      ((1 ≤ x1.toInt ∧ x1.toInt ≤ 3) ∧ 0 ≤ x2.toInt ∧ x2.toInt < (n : Int) ∧ 0 ≤ x3.toInt ∧ x3.toInt < (n : Int) ∧ zs = 1 + sz x2.toNatClampNeg + sz x3.toNatClampNeg ∧ zl = lv x2.toNatClampNeg + lv x3.toNatClampNeg ∧ zc = 7 + ct x2.toNatClampNeg + ct x3.toNatClampNeg))) :
    ND t' (fun i => if i = n then zs else sz i) (fun i => if i = n then zl else lv i) (fun i => if i = n then zc else ct i) := by
  intro i hi
  rw [h30] at hi
  have old : ∀ x : Int32, 0 ≤ x.toInt → x.toInt < (n : Int) → x.toNatClampNeg ≠ n := fun x h0 h1 => by rw [iclamp]; omega
  by_cases e : i = n
  · subst e
    rw [h32, h33, h34, upd_at, upd_at, upd_at, h24, h20]
    dsimp only
    rw [if_pos rfl, if_pos rfl, if_pos rfl]
    refine ⟨hz.1, hz.2.1, hz.2.2.1, ?_⟩
    rcases hz.2.2.2 with q | q | q
    · exact Or.inl q
    · refine Or.inr (Or.inl ?_)
      rw [if_neg (old x2 q.2.1 q.2.2.1), if_neg (old x2 q.2.1 q.2.2.1), if_neg (old x2 q.2.1 q.2.2.1)]
      exact q
    · refine Or.inr (Or.inr ?_)
      rw [if_neg (old x2 q.2.1 q.2.2.1), if_neg (old x2 q.2.1 q.2.2.1), if_neg (old x2 q.2.1 q.2.2.1), if_neg (old x3 q.2.2.2.1 q.2.2.2.2.1), if_neg (old x3 q.2.2.2.1 q.2.2.2.2.1), if_neg (old x3 q.2.2.2.1 q.2.2.2.2.1)]
      exact q
  · have q := h i (by omega)
    rw [h32, h33, h34, upd_lt e, upd_lt e, upd_lt e, h24, h20]
    dsimp only
    rw [if_neg e, if_neg e, if_neg e]
    refine ⟨q.1, q.2.1, q.2.2.1, ?_⟩
    have lt : (i : Int) < (n : Int) := by omega
    rcases q.2.2.2 with q | q | q
    · exact Or.inl q
    · have o := old (t 33 i) q.2.1 (by omega)
      refine Or.inr (Or.inl ?_)
      rw [if_neg o, if_neg o, if_neg o]
      exact q
    · have o := old (t 33 i) q.2.1 (by omega)
      have o2 := old (t 34 i) q.2.2.2.1 (by omega)
      refine Or.inr (Or.inr ?_)
      rw [if_neg o, if_neg o, if_neg o, if_neg o2, if_neg o2, if_neg o2]
      exact q

/-! the reference's reading of a QUERY: nodes and stacks -/
theorem FRM_of1 {m : List Nat} {t t' : StI} {k : Nat} (hk : k ∈ m) (h : ∀ k', k' ≠ k → t' k' = t k') : FRM m t t' := fun j hj => h j (fun e => hj (e ▸ hk))
theorem clampN {x : Int32} {n : Nat} (h : x.toInt = n) : x.toNatClampNeg = n := by rw [iclamp]; omega
theorem sp_Mo_node (F : Nat) (t : StI) (tL : StL) (x1 x2 x3 : Int32) (n : Nat) (hn : (t 30 0).toInt = n) (h : n < 700) : Sf (Mo_node F t tL x1 x2 x3) (fun r => r.1.toInt = n ∧ (r.2.1 30 0).toInt = n + 1 ∧ r.2.1 32 = upd (t 32) n x1 ∧ r.2.1 33 = upd (t 33) n x2 ∧ r.2.1 34 = upd (t 34) n x3 ∧ FRM [30, 32, 33, 34] t r.2.1) := by
  rw [Mo_node]
  have en : (t 30 0).toNatClampNeg = n := clampN hn
  refine sf_idx hn (by omega) (by omega) ?_
  refine sf_up (fun t1 h1 n1 => ?_)
  have e1 : t1 30 = t 30 := n1 30 (by decide)
  refine sf_idx (a := n) (by rw [e1]; exact hn) (by omega) (by omega) ?_
  refine sf_up (fun t2 h2 n2 => ?_)
  have e2 : t2 30 = t 30 := (n2 30 (by decide)).trans e1
  refine sf_idx (a := n) (by rw [e2]; exact hn) (by omega) (by omega) ?_
  refine sf_up (fun t3 h3 n3 => ?_)
  have e3 : t3 30 = t 30 := (n3 30 (by decide)).trans e2
  refine sf_up (fun t4 h4 n4 => ?_)
  have g1 : ((t 30 0) + (1 : Int32)).toInt = _ := iadd hn (ilit (1 : Int32) 1 rfl)
  have e4 : t4 30 0 = (t 30 0) + 1 := by rw [h4, e3]
  have g3 : (t4 30 0).toInt = n + 1 := by rw [e4]; omega
  have g2 : ((t4 30 0) - (1 : Int32)).toInt = _ := isub g3 (ilit (1 : Int32) 1 rfl)
  rw [e1] at h2
  rw [e2] at h3
  rw [en] at h1 h2 h3
  refine sf_some ⟨?_, g3, ?_, ?_, ?_, ?_⟩
  · show ((t4 30 0) - (1 : Int32)).toInt = n
    omega
  · show t4 32 = _
    rw [n4 32 (by decide), n3 32 (by decide), n2 32 (by decide), h1]
  · show t4 33 = _
    rw [n4 33 (by decide), n3 33 (by decide), h2, n1 33 (by decide)]
  · show t4 34 = _
    rw [n4 34 (by decide), h3, n2 34 (by decide), n1 34 (by decide)]
  · exact FRM_up (FRM_up (FRM_up (FRM_up (FRM_refl _ t) (by decide) n1) (by decide) n2) (by decide) n3) (by decide) n4
theorem sp_Mo_push (F : Nat) (t : StI) (tL : StL) (x1 : Int32) (n : Nat) (hn : (t 35 0).toInt = n) (h : n < 700) : Sf (Mo_push F t tL x1) (fun r => (r.1 35 0).toInt = n + 1 ∧ r.1 38 = upd (t 38) n x1 ∧ FRM [35, 38] t r.1) := by
  rw [Mo_push]
  have en : (t 35 0).toNatClampNeg = n := clampN hn
  refine sf_idx hn (by omega) (by omega) ?_
  refine sf_up (fun t1 h1 n1 => ?_)
  have e1 : t1 35 = t 35 := n1 35 (by decide)
  refine sf_up (fun t4 h4 n4 => ?_)
  have g1 : ((t 35 0) + (1 : Int32)).toInt = _ := iadd hn (ilit (1 : Int32) 1 rfl)
  have e4 : t4 35 0 = (t 35 0) + 1 := by rw [h4, e1]
  have g3 : (t4 35 0).toInt = n + 1 := by rw [e4]; omega
  rw [en] at h1
  refine sf_some ⟨g3, ?_, ?_⟩
  · show t4 38 = _
    rw [n4 38 (by decide), h1]
  · exact FRM_up (FRM_up (FRM_refl _ t) (by decide) n1) (by decide) n4
theorem sp_Mo_hold (F : Nat) (t : StI) (tL : StL) (x1 : Int32) (n : Nat) (hn : (t 36 0).toInt = n) (h : n < 700) : Sf (Mo_hold F t tL x1) (fun r => (r.1 36 0).toInt = n + 1 ∧ r.1 39 = upd (t 39) n x1 ∧ FRM [36, 39] t r.1) := by
  rw [Mo_hold]
  have en : (t 36 0).toNatClampNeg = n := clampN hn
  refine sf_idx hn (by omega) (by omega) ?_
  refine sf_up (fun t1 h1 n1 => ?_)
  have e1 : t1 36 = t 36 := n1 36 (by decide)
  refine sf_up (fun t4 h4 n4 => ?_)
  have g1 : ((t 36 0) + (1 : Int32)).toInt = _ := iadd hn (ilit (1 : Int32) 1 rfl)
  have e4 : t4 36 0 = (t 36 0) + 1 := by rw [h4, e1]
  have g3 : (t4 36 0).toInt = n + 1 := by rw [e4]; omega
  rw [en] at h1
  refine sf_some ⟨g3, ?_, ?_⟩
  · show t4 39 = _
    rw [n4 39 (by decide), h1]
  · exact FRM_up (FRM_up (FRM_refl _ t) (by decide) n1) (by decide) n4
/-- the state while a QUERY is read without a fault: x = 1 behind an operand, p the place that has been read to -/
def PIg (x p : Int) (t : StI) (sz lv ct : Nat → Int) (a b c : Nat) : Prop := (ND t sz lv ct) ∧ (EA t) ∧ ((t 30 0).toInt = a) ∧ ((t 35 0).toInt = b) ∧ ((t 36 0).toInt = c) ∧ ((t 37 0).toInt = c5 (t 39) c) ∧ (0 ≤ (t 20 0).toInt ∧ (t 20 0).toInt ≤ (t 21 0).toInt ∧ (t 21 0).toInt ≤ 40) ∧ ((t 37 0).toInt ≤ 20) ∧ ((b : Int) = cB (t 39) c + x) ∧ ((a : Int) + c + x ≤ 2 * (t 21 0).toInt + p) ∧ (sm sz (t 38) b ≤ a) ∧ (sm lv (t 38) b ≤ (t 21 0).toInt) ∧ (cN (t 32) a + b ≤ (t 21 0).toInt) ∧ (3 * (sm ct (t 38) b + oc (t 39) c) + 21 * x ≤ 75 * (t 21 0).toInt + 4 * p) ∧ (∀ j, j < c → 1 ≤ (t 39 j).toInt ∧ (t 39 j).toInt ≤ 5) ∧ (∀ j, j < b → 0 ≤ (t 38 j).toInt ∧ (t 38 j).toInt < a)
theorem PIg.nd {x p : Int} {t : StI} {sz lv ct : Nat → Int} {a b c : Nat} (P : PIg x p t sz lv ct a b c) : ND t sz lv ct := P.1
theorem PIg.ea {x p : Int} {t : StI} {sz lv ct : Nat → Int} {a b c : Nat} (P : PIg x p t sz lv ct a b c) : EA t := P.2.1
theorem PIg.h30 {x p : Int} {t : StI} {sz lv ct : Nat → Int} {a b c : Nat} (P : PIg x p t sz lv ct a b c) : (t 30 0).toInt = a := P.2.2.1
theorem PIg.h35 {x p : Int} {t : StI} {sz lv ct : Nat → Int} {a b c : Nat} (P : PIg x p t sz lv ct a b c) : (t 35 0).toInt = b := P.2.2.2.1
theorem PIg.h36 {x p : Int} {t : StI} {sz lv ct : Nat → Int} {a b c : Nat} (P : PIg x p t sz lv ct a b c) : (t 36 0).toInt = c := P.2.2.2.2.1
theorem PIg.h37 {x p : Int} {t : StI} {sz lv ct : Nat → Int} {a b c : Nat} (P : PIg x p t sz lv ct a b c) : (t 37 0).toInt = c5 (t 39) c := P.2.2.2.2.2.1
theorem PIg.s20 {x p : Int} {t : StI} {sz lv ct : Nat → Int} {a b c : Nat} (P : PIg x p t sz lv ct a b c) : 0 ≤ (t 20 0).toInt ∧ (t 20 0).toInt ≤ (t 21 0).toInt ∧ (t 21 0).toInt ≤ 40 := P.2.2.2.2.2.2.1
theorem PIg.s37 {x p : Int} {t : StI} {sz lv ct : Nat → Int} {a b c : Nat} (P : PIg x p t sz lv ct a b c) : (t 37 0).toInt ≤ 20 := P.2.2.2.2.2.2.2.1
theorem PIg.sb {x p : Int} {t : StI} {sz lv ct : Nat → Int} {a b c : Nat} (P : PIg x p t sz lv ct a b c) : (b : Int) = cB (t 39) c + x := P.2.2.2.2.2.2.2.2.1
theorem PIg.sa {x p : Int} {t : StI} {sz lv ct : Nat → Int} {a b c : Nat} (P : PIg x p t sz lv ct a b c) : (a : Int) + c + x ≤ 2 * (t 21 0).toInt + p := P.2.2.2.2.2.2.2.2.2.1
theorem PIg.ssz {x p : Int} {t : StI} {sz lv ct : Nat → Int} {a b c : Nat} (P : PIg x p t sz lv ct a b c) : sm sz (t 38) b ≤ a := P.2.2.2.2.2.2.2.2.2.2.1
theorem PIg.slv {x p : Int} {t : StI} {sz lv ct : Nat → Int} {a b c : Nat} (P : PIg x p t sz lv ct a b c) : sm lv (t 38) b ≤ (t 21 0).toInt := P.2.2.2.2.2.2.2.2.2.2.2.1
theorem PIg.scn {x p : Int} {t : StI} {sz lv ct : Nat → Int} {a b c : Nat} (P : PIg x p t sz lv ct a b c) : cN (t 32) a + b ≤ (t 21 0).toInt := P.2.2.2.2.2.2.2.2.2.2.2.2.1
theorem PIg.sct {x p : Int} {t : StI} {sz lv ct : Nat → Int} {a b c : Nat} (P : PIg x p t sz lv ct a b c) : 3 * (sm ct (t 38) b + oc (t 39) c) + 21 * x ≤ 75 * (t 21 0).toInt + 4 * p := P.2.2.2.2.2.2.2.2.2.2.2.2.2.1
theorem PIg.e39 {x p : Int} {t : StI} {sz lv ct : Nat → Int} {a b c : Nat} (P : PIg x p t sz lv ct a b c) : ∀ j, j < c → 1 ≤ (t 39 j).toInt ∧ (t 39 j).toInt ≤ 5 := P.2.2.2.2.2.2.2.2.2.2.2.2.2.2.1
theorem PIg.e38 {x p : Int} {t : StI} {sz lv ct : Nat → Int} {a b c : Nat} (P : PIg x p t sz lv ct a b c) : ∀ j, j < b → 0 ≤ (t 38 j).toInt ∧ (t 38 j).toInt < a := P.2.2.2.2.2.2.2.2.2.2.2.2.2.2.2
/-- a not-node in place of the last operand -/
theorem PIg_not {p : Int} {t t' : StI} {sz lv ct : Nat → Int} {a b c : Nat} {v : Int32} (P : PIg 1 p t sz lv ct a (b + 1) (c + 1)) (h4 : (t 39 c).toInt = 4) (hv : v.toInt = a)
    (h30 : (t' 30 0).toInt = a + 1) (h32 : t' 32 = upd (t 32) a 4) (h33 : t' 33 = upd (t 33) a (t 38 b)) (h34 : t' 34 = upd (t 34) a (-1)) (h36 : (t' 36 0).toInt = c) (h38 : t' 38 = upd (t 38) b v) (hf : FRM [30, 32, 33, 34, 35, 36, 38] t t') (h35 : (t' 35 0).toInt = b + 1) :
    ∃ sz' lv' ct', PIg 1 p t' sz' lv' ct' (a + 1) (b + 1) c := by
  have q := P.e38 b (by omega)
  have k := P.nd (t 38 b).toNatClampNeg (by rw [iclamp, P.h30]; omega)
  have f := fun i (hi : i ∉ [30, 32, 33, 34, 35, 36, 38]) => hf i hi
  have f20 := f 20 (by decide)
  have f21 := f 21 (by decide)
  have f24 := f 24 (by decide)
  have f23 := f 23 (by decide)
  have f22 := f 22 (by decide)
  have f37 := f 37 (by decide)
  have f39 := f 39 (by decide)
  have old : ∀ j, j < b → (t 38 j).toNatClampNeg < a := fun j hj => by have := P.e38 j (by omega); rw [iclamp]; omega
  have va : v.toNatClampNeg = a := clampN hv
  have p1 := P.ssz; have p2 := P.slv; have p3 := P.sct; have p4 := P.scn; have p5 := P.h37; have p6 := P.sb; have p7 := P.sa
  rw [sm] at p1 p2 p3
  rw [c5] at p5
  rw [cB] at p6
  rw [oc] at p3
  rw [if_neg (by omega)] at p5
  rw [if_pos (Or.inl h4)] at p6
  rw [if_neg (by omega), if_pos h4] at p3
  refine ⟨_, _, _, ⟨ND_node (n := a) (x1 := 4) (x2 := t 38 b) (x3 := -1) (zs := 1 + sz (t 38 b).toNatClampNeg) (zl := lv (t 38 b).toNatClampNeg) (zc := 4 + ct (t 38 b).toNatClampNeg) P.nd (by rw [P.h30]) (by rw [P.h30, h30]) (by rw [f20]) f24 h32 h33 h34 ⟨by omega, by omega, by omega, Or.inr (Or.inl ⟨rfl, q.1, q.2, rfl, rfl, rfl⟩)⟩, EA_of P.ea f22 f23 f24, by rw [h30]; rfl, by rw [h35]; rfl, h36, by rw [f37, f39]; omega, by rw [f20, f21]; exact P.s20, by rw [f37]; exact P.s37, by rw [f39]; omega, ?_, ?_, ?_, ?_, ?_, ?_, ?_⟩⟩
  · rw [f21]; push_cast at p7 ⊢; omega
  · rw [h38, sm, sm_upd b (by omega), upd_at, sm_new b old, va, if_pos rfl]; push_cast at p1 ⊢; omega
  · rw [h38, sm, sm_upd b (by omega), upd_at, sm_new b old, va, if_pos rfl, f21]; omega
  · rw [h32, cN, cN_upd a (by omega), upd_at, if_pos (Or.inl (show Int32.toInt 4 = 4 from rfl)), f21]; omega
  · rw [h38, sm, sm_upd b (by omega), upd_at, sm_new b old, va, if_pos rfl, f21, f39]; omega
  · intro j hj; rw [f39]; exact P.e39 j (by omega)
  · intro j hj
    rw [h38]
    by_cases e : j = b
    · subst e; rw [upd_at, hv]; push_cast; omega
    · rw [upd_lt e]; have := P.e38 j hj; push_cast; omega
/-- a node of two in place of the last two operands -/
theorem PIg_bin {p : Int} {t t' : StI} {sz lv ct : Nat → Int} {a b c : Nat} {v w : Int32} (P : PIg 1 p t sz lv ct a (b + 2) (c + 1)) (h4 : t 39 c = w) (hw : 1 ≤ w.toInt ∧ w.toInt ≤ 3) (hv : v.toInt = a)
    (h30 : (t' 30 0).toInt = a + 1) (h32 : t' 32 = upd (t 32) a w) (h33 : t' 33 = upd (t 33) a (t 38 b)) (h34 : t' 34 = upd (t 34) a (t 38 (b + 1))) (h36 : (t' 36 0).toInt = c) (h38 : t' 38 = upd (t 38) b v) (hf : FRM [30, 32, 33, 34, 35, 36, 38] t t') (h35 : (t' 35 0).toInt = b + 1) :
    ∃ sz' lv' ct', PIg 1 p t' sz' lv' ct' (a + 1) (b + 1) c := by
  have q := P.e38 b (by omega)
  have q2 := P.e38 (b + 1) (by omega)
  have k := P.nd (t 38 b).toNatClampNeg (by rw [iclamp, P.h30]; omega)
  have k2 := P.nd (t 38 (b + 1)).toNatClampNeg (by rw [iclamp, P.h30]; omega)
  have f := fun i (hi : i ∉ [30, 32, 33, 34, 35, 36, 38]) => hf i hi
  have f20 := f 20 (by decide)
  have f21 := f 21 (by decide)
  have f24 := f 24 (by decide)
  have f23 := f 23 (by decide)
  have f22 := f 22 (by decide)
  have f37 := f 37 (by decide)
  have f39 := f 39 (by decide)
  have old : ∀ j, j < b → (t 38 j).toNatClampNeg < a := fun j hj => by have := P.e38 j (by omega); rw [iclamp]; omega
  have va : v.toNatClampNeg = a := clampN hv
  have p1 := P.ssz; have p2 := P.slv; have p3 := P.sct; have p4 := P.scn; have p5 := P.h37; have p6 := P.sb; have p7 := P.sa
  rw [sm, sm] at p1 p2 p3
  rw [c5, h4, if_neg (by omega)] at p5
  rw [cB, h4, if_neg (by omega)] at p6
  rw [oc, h4, if_neg (by omega), if_neg (by omega)] at p3
  refine ⟨_, _, _, ⟨ND_node (n := a) (x1 := w) (x2 := t 38 b) (x3 := t 38 (b + 1)) (zs := 1 + sz (t 38 b).toNatClampNeg + sz (t 38 (b + 1)).toNatClampNeg) (zl := lv (t 38 b).toNatClampNeg + lv (t 38 (b + 1)).toNatClampNeg) (zc := 7 + ct (t 38 b).toNatClampNeg + ct (t 38 (b + 1)).toNatClampNeg) P.nd (by rw [P.h30]) (by rw [P.h30, h30]) (by rw [f20]) f24 h32 h33 h34 ⟨by omega, by omega, by omega, Or.inr (Or.inr ⟨hw, q.1, q.2, q2.1, q2.2, rfl, rfl, rfl⟩)⟩, EA_of P.ea f22 f23 f24, by rw [h30]; rfl, by rw [h35]; rfl, h36, by rw [f37, f39]; omega, by rw [f20, f21]; exact P.s20, by rw [f37]; exact P.s37, by rw [f39]; push_cast at p6 ⊢; omega, ?_, ?_, ?_, ?_, ?_, ?_, ?_⟩⟩
  · rw [f21]; push_cast at p7 ⊢; omega
  · rw [h38, sm, sm_upd b (by omega), upd_at, sm_new b old, va, if_pos rfl]; push_cast at p1 ⊢; omega
  · rw [h38, sm, sm_upd b (by omega), upd_at, sm_new b old, va, if_pos rfl, f21]; omega
  · rw [h32, cN, cN_upd a (by omega), upd_at, if_neg (by omega), f21]; push_cast at p4 ⊢; omega
  · rw [h38, sm, sm_upd b (by omega), upd_at, sm_new b old, va, if_pos rfl, f21, f39]; omega
  · intro j hj; rw [f39]; exact P.e39 j (by omega)
  · intro j hj
    rw [h38]
    by_cases e : j = b
    · subst e; rw [upd_at, hv]; push_cast; omega
    · rw [upd_lt e]; have := P.e38 j (by omega); push_cast; omega

theorem sf_idxc {α : Type} {x : Int32} {a : Int} {n k : Nat} {B : Option α} {Q : α → Prop} (hk : x.toNatClampNeg = k) (hx : x.toInt = a) (h0 : 0 ≤ a) (h1 : a < (n : Int)) (h : Sf B Q) : Sf (if x < 0 ∨ n ≤ k then none else B) Q := by
  subst hk
  exact sf_idx hx h0 h1 h
set_option maxHeartbeats 4000000 in
theorem sp_Mo_reduce (F : Nat) (t : StI) (tL : StL) (p : Int) (sz lv ct : Nat → Int) (a b c : Nat) (hp : p ≤ 610) (P : PIg 1 p t sz lv ct a b (c + 1)) (h5 : (t 39 c).toInt ≠ 5) :
    Sf (Mo_reduce F t tL) (fun r => FRM [30, 32, 33, 34, 35, 36, 38] t r.1 ∧ ∃ b' sz' lv' ct', PIg 1 p r.1 sz' lv' ct' (a + 1) b' c) := by
  have q := P.e39 c (by omega)
  have hb := P.sb
  have hs := P.s20
  have ha := P.sa
  have hcn := P.scn
  have n1 := cB_nn (t 39) c
  have n2 := cN_nn (t 32) a
  rw [cB] at hb
  rw [Mo_reduce]
  have z1 := ilit (1 : Int32) 1 rfl
  have g1 : ((t 36 0) - (1 : Int32)).toInt = _ := isub P.h36 z1
  have hc2 : (c : Int) ≤ 700 := by omega
  have ha2 : (a : Int) < 700 := by omega
  refine sf_up (fun t1 h1 m1 => ?_)
  have e36 : (t1 36 0).toInt = c := by rw [h1]; show ((t 36 0) - (1 : Int32)).toInt = c; omega
  have e39 : t1 39 = t 39 := m1 39 (by decide)
  have e38 : t1 38 = t 38 := m1 38 (by decide)
  have e35 : t1 35 = t 35 := m1 35 (by decide)
  have e30 : t1 30 = t 30 := m1 30 (by decide)
  have c36 : (t1 36 0).toNatClampNeg = c := clampN e36
  rw [e35]
  have g2 : ((t 35 0) - (1 : Int32)).toInt = _ := isub P.h35 z1
  obtain ⟨b0, rfl⟩ : ∃ b0, b = b0 + 1 := ⟨b - 1, by split at hb <;> omega⟩
  have g3 : ((t 35 0) - (1 : Int32)).toInt = b0 := by omega
  have c35 : ((t 35 0) - (1 : Int32)).toNatClampNeg = b0 := clampN g3
  refine sf_idx e36 (by omega) (by omega) ?_
  refine sf_idx g3 (by omega) (by omega) ?_
  rw [c36, c35, e39, e38]
  refine sf_eq rfl (ilit (4 : Int32) 4 rfl) (fun c4 => ?_) (fun c4 => ?_)
  · refine sf_bind (sp_Mo_node F t1 tL 4 (t 38 b0) (-1) a (by rw [e30]; exact P.h30) (by omega)) (fun r hr => ?_)
    obtain ⟨r1, r2, r3, r4, r5, r6⟩ := hr
    refine sf_idxc c35 g3 (by omega) (by omega) ?_
    refine sf_up (fun t2 h2 m2 => ?_)
    have hf : FRM [30, 32, 33, 34, 35, 36, 38] t t2 := FRM_up (FRM_trans (FRM_of1 (by decide) m1) (FRM_sub (by decide) r6)) (by decide) m2
    refine sf_some ⟨hf, b0 + 1, ?_⟩
    refine PIg_not (t' := t2) (v := r.1) P c4 r1 ?_ ?_ ?_ ?_ ?_ ?_ hf ?_
    · rw [m2 30 (by decide), r2]
    · rw [m2 32 (by decide), r3, m1 32 (by decide)]
    · rw [m2 33 (by decide), r4, m1 33 (by decide)]
    · rw [m2 34 (by decide), r5, m1 34 (by decide)]
    · rw [m2 36 (by decide), r6 36 (by decide), e36]
    · rw [h2, r6 38 (by decide), e38]
    · rw [m2 35 (by decide), r6 35 (by decide), e35, P.h35]; rfl
  · rw [if_neg (by omega)] at hb
    obtain ⟨b1, rfl⟩ : ∃ b1, b0 = b1 + 1 := ⟨b0 - 1, by omega⟩
    refine sf_up (fun t2 h2 m2 => ?_)
    have e35' : (t2 35 0).toInt = b1 + 1 := by rw [h2, g3]; rfl
    have g4 : ((t2 35 0) - (1 : Int32)).toInt = _ := isub e35' z1
    have g5 : ((t2 35 0) - (1 : Int32)).toInt = b1 := by omega
    have c35' : ((t2 35 0) - (1 : Int32)).toNatClampNeg = b1 := clampN g5
    refine sf_idx g5 (by omega) (by omega) ?_
    have e38' : t2 38 = t 38 := (m2 38 (by decide)).trans e38
    rw [c35', e38']
    refine sf_bind (sp_Mo_node F t2 tL (t 39 c) (t 38 b1) (t 38 (b1 + 1)) a (by rw [m2 30 (by decide), e30]; exact P.h30) (by omega)) (fun r hr => ?_)
    obtain ⟨r1, r2, r3, r4, r5, r6⟩ := hr
    refine sf_idxc c35' g5 (by omega) (by omega) ?_
    refine sf_up (fun t3 h3 m3 => ?_)
    have hf : FRM [30, 32, 33, 34, 35, 36, 38] t t3 := FRM_up (FRM_trans (FRM_up (FRM_of1 (by decide) m1) (by decide) m2) (FRM_sub (by decide) r6)) (by decide) m3
    refine sf_some ⟨hf, b1 + 1, ?_⟩
    refine PIg_bin (t' := t3) (v := r.1) (w := t 39 c) P rfl (by omega) r1 ?_ ?_ ?_ ?_ ?_ ?_ hf ?_
    · rw [m3 30 (by decide), r2]
    · rw [m3 32 (by decide), r3, m2 32 (by decide), m1 32 (by decide)]
    · rw [m3 33 (by decide), r4, m2 33 (by decide), m1 33 (by decide)]
    · rw [m3 34 (by decide), r5, m2 34 (by decide), m1 34 (by decide)]
    · rw [m3 36 (by decide), r6 36 (by decide), m2 36 (by decide), e36]
    · rw [h3, r6 38 (by decide), e38']
    · rw [m3 35 (by decide), r6 35 (by decide), e35']
/-- behind reduceTo: the signs that stay on the stack are the first ones -/
def RT (p : Int) (x1 : Int32) (t : StI) (c : Nat) (r : StI × StL) : Prop := FRM [30, 32, 33, 34, 35, 36, 38] t r.1 ∧ ∃ a' b' c' sz' lv' ct', PIg 1 p r.1 sz' lv' ct' a' b' c' ∧ c' ≤ c ∧ (c' = 0 ∨ (t 39 (c' - 1)).toInt = 5 ∨ (t 39 (c' - 1)).toInt < x1.toInt)
set_option maxHeartbeats 4000000 in
theorem sp_Mo_reduceTo_0 (F : Nat) (p : Int) (hp : p ≤ 610) (x1 : Int32) : ∀ (n : Nat) (t : StI) (tL : StL) (sz lv ct : Nat → Int) (a b c : Nat) (P : PIg 1 p t sz lv ct a b c) (h : c < n),
    Sf (Mo_reduceTo_0 F n t tL x1) (RT p x1 t c) := by
  intro n; induction n with
  | zero => intro t tL sz lv ct a b c P h; omega
  | succ n ih =>
    intro t tL sz lv ct a b c P h
    have ha := P.sa
    have hs := P.s20
    have z1 := ilit (1 : Int32) 1 rfl
    have g1 : ((t 36 0) - (1 : Int32)).toInt = _ := isub P.h36 z1
    rw [Mo_reduceTo_0]
    refine sf_le P.h36 (ilit (0 : Int32) 0 rfl) (fun c1 => ?_) (fun c1 => ?_)
    · exact sf_some ⟨FRM_refl _ _, a, b, c, sz, lv, ct, P, Nat.le_refl _, Or.inl (by omega)⟩
    obtain ⟨c0, rfl⟩ : ∃ c0, c = c0 + 1 := ⟨c - 1, by omega⟩
    have g2 : ((t 36 0) - (1 : Int32)).toInt = c0 := by omega
    have e : ((t 36 0) - (1 : Int32)).toNatClampNeg = c0 := clampN g2
    refine sf_idx g2 (by omega) (by omega) ?_
    rw [e]
    refine sf_eq rfl (ilit (5 : Int32) 5 rfl) (fun c2 => ?_) (fun c2 => ?_)
    · exact sf_some ⟨FRM_refl _ _, a, b, c0 + 1, sz, lv, ct, P, Nat.le_refl _, Or.inr (Or.inl c2)⟩
    refine sf_idxc e g2 (by omega) (by omega) ?_
    refine sf_lt rfl rfl (fun c3 => ?_) (fun c3 => ?_)
    · exact sf_some ⟨FRM_refl _ _, a, b, c0 + 1, sz, lv, ct, P, Nat.le_refl _, Or.inr (Or.inr c3)⟩
    refine sf_bind (sp_Mo_reduce F t tL p sz lv ct a b c0 hp P c2) (fun r hr => ?_)
    obtain ⟨hf, b', sz', lv', ct', P'⟩ := hr
    refine sf_imp (ih r.1 r.2 sz' lv' ct' (a + 1) b' c0 P' (by omega)) (fun r' hr' => ?_)
    obtain ⟨hf', a2, b2, c2', s2, l2, t2, P2, le2, o2⟩ := hr'
    rw [hf 39 (by decide)] at o2
    exact ⟨FRM_trans hf hf', a2, b2, c2', s2, l2, t2, P2, by omega, o2⟩
theorem sp_Mo_reduceTo (F : Nat) (hF : Big F) (p : Int) (hp : p ≤ 610) (x1 : Int32) (t : StI) (tL : StL) (sz lv ct : Nat → Int) (a b c : Nat) (P : PIg 1 p t sz lv ct a b c) : Sf (Mo_reduceTo F t tL x1) (RT p x1 t c) := by
  rw [Mo_reduceTo]
  have ha := P.sa
  have hs := P.s20
  have hq := fuel_ok hF (M := (c : Int)) (by omega)
  exact sp_Mo_reduceTo_0 F p hp x1 F t tL sz lv ct a b c P (by omega)
/-- a sign more -/
theorem PIg_hold {x x' p p' : Int} {t t' : StI} {sz lv ct : Nat → Int} {a b c : Nat} {w : Int32} (P : PIg x p t sz lv ct a b c) (hw : 1 ≤ w.toInt ∧ w.toInt ≤ 5)
    (h36 : (t' 36 0).toInt = c + 1) (h39 : t' 39 = upd (t 39) c w) (hf : FRM [36, 37, 39] t t') (h37 : (t' 37 0).toInt ≤ 20 ∧ (t' 37 0).toInt = (t 37 0).toInt + (if w.toInt = 5 then 1 else 0))
    (hx : x = x' + (if w.toInt = 4 ∨ w.toInt = 5 then 0 else 1)) (hpp : (if w.toInt = 4 ∨ w.toInt = 5 then (if w.toInt = 4 then 3 else 1) else 0) ≤ p' - p) : PIg x' p' t' sz lv ct a b (c + 1) := by
  have f := fun i (hi : i ∉ [36, 37, 39]) => hf i hi
  have f20 := f 20 (by decide)
  have f21 := f 21 (by decide)
  have f24 := f 24 (by decide)
  have f23 := f 23 (by decide)
  have f22 := f 22 (by decide)
  have f30 := f 30 (by decide)
  have f32 := f 32 (by decide)
  have f33 := f 33 (by decide)
  have f34 := f 34 (by decide)
  have f35 := f 35 (by decide)
  have f38 := f 38 (by decide)
  have p3 := P.sct; have p5 := P.h37; have p6 := P.sb; have p7 := P.sa
  refine ⟨?_, EA_of P.ea f22 f23 f24, by rw [f30]; exact P.h30, by rw [f35]; exact P.h35, by rw [h36]; rfl, ?_, by rw [f20, f21]; exact P.s20, h37.1, ?_, ?_, by rw [f38]; exact P.ssz, by rw [f38, f21]; exact P.slv, by rw [f32, f21]; exact P.scn, ?_, ?_, ?_⟩
  · intro i hi
    rw [f30] at hi
    rw [f32, f33, f34, f20, f24]
    exact P.nd i hi
  · rw [h39, c5, c5_upd c (by omega), upd_at, h37.2, p5]
  · rw [h39, cB, cB_upd c (by omega), upd_at]; omega
  · rw [f21]; split at hx <;> split at hpp <;> (try split at hpp) <;> omega
  · rw [f38, f21, h39, oc, oc_upd c (by omega), upd_at]
    by_cases w5 : w.toInt = 5
    · rw [if_pos w5]; rw [if_pos (Or.inr w5)] at hx hpp; rw [if_neg (by omega)] at hpp; omega
    by_cases w4 : w.toInt = 4
    · rw [if_neg w5, if_pos w4]; rw [if_pos (Or.inl w4)] at hx hpp; rw [if_pos w4] at hpp; omega
    · rw [if_neg w5, if_neg w4]; rw [if_neg (by omega)] at hx hpp; omega
  · intro j hj
    rw [h39]
    by_cases e : j = c
    · subst e; rw [upd_at]; exact hw
    · rw [upd_lt e]; exact P.e39 j (by omega)
  · intro j hj; rw [f38]; exact P.e38 j hj
/-- a sign between two operands -/
theorem sp_Mo_between (F : Nat) (hF : Big F) (p : Int) (hp : p ≤ 610) (x1 : Int32) (h1 : 1 ≤ x1.toInt ∧ x1.toInt ≤ 3) (t : StI) (tL : StL) (sz lv ct : Nat → Int) (a b c : Nat) (P : PIg 1 p t sz lv ct a b c) :
    Sf (Mo_between F t tL x1) (fun r => FRM [30, 32, 33, 34, 35, 36, 38, 39] t r.1 ∧ ∃ a' b' c' sz' lv' ct', PIg 0 p r.1 sz' lv' ct' a' b' c') := by
  rw [Mo_between]
  refine sf_bind (sp_Mo_reduceTo F hF p hp x1 t tL sz lv ct a b c P) (fun r hr => ?_)
  obtain ⟨hf, a2, b2, c2, s2, l2, t2, P2, le2, o2⟩ := hr
  have ha := P2.sa
  have hs := P2.s20
  refine sf_bind (sp_Mo_hold F r.1 r.2 x1 c2 P2.h36 (by omega)) (fun r' hr' => ?_)
  obtain ⟨q1, q2, q3⟩ := hr'
  refine sf_some ⟨FRM_trans (FRM_sub (by decide) hf) (FRM_sub (by decide) q3), a2, b2, c2 + 1, s2, l2, t2, ?_⟩
  refine PIg_hold P2 (by omega) q1 q2 (FRM_sub (by decide) q3) ?_ ?_ ?_
  · rw [q3 37 (by decide), if_neg (by omega)]; have := P2.s37; omega
  · rw [if_neg (by omega)]; rfl
  · rw [if_neg (by omega)]; omega

