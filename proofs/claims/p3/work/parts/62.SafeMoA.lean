/-! frames: only the fields m are changed -/
def FRM (m : List Nat) (t t' : StI) : Prop := ∀ k, k ∉ m → t' k = t k
theorem FRM_refl (m : List Nat) (t : StI) : FRM m t t := fun _ _ => rfl
theorem FRM_trans {m : List Nat} {t t' t'' : StI} (h : FRM m t t') (g : FRM m t' t'') : FRM m t t'' := fun k hk => (g k hk).trans (h k hk)
theorem FRM_sub {m m' : List Nat} {t t' : StI} (hs : ∀ k ∈ m, k ∈ m') (h : FRM m t t') : FRM m' t t' := fun k hk => h k (fun z => hk (hs k z))
theorem FRM_up {m : List Nat} {t s s' : StI} {kk : Nat} (h : FRM m t s) (hk : kk ∈ m) (hn : ∀ k', k' ≠ kk → s' k' = s k') : FRM m t s' := fun k hm => (hn k (fun e => hm (e ▸ hk))).trans (h k hm)
theorem iand255 (x : Int32) : 0 ≤ (x &&& (255 : Int32)).toInt ∧ (x &&& (255 : Int32)).toInt ≤ 255 := by
  have h0 : (x &&& (255 : Int32)).toInt = (x.toBitVec &&& 255#32).toInt := rfl
  have h1 : (x.toBitVec &&& 255#32).toNat ≤ 255 := by
    rw [BitVec.toNat_and]
    exact Nat.and_le_right
  rw [h0, BitVec.toInt_eq_toNat_of_lt (by omega)]
  omega

set_option maxHeartbeats 4000000 in
set_option maxRecDepth 100000 in
theorem sp_Mo_lay_2 (F : Nat) (hF : Big F)   : ∀ (n : Nat) (t : StI) (tL : StL) (x1 : Int32) (x2 : Int32) (x3 : Int32) (h : (0 ≤ x1.toInt ∧ x1.toInt ≤ 16 ∧ 0 ≤ x3.toInt) ∧ 4 - x3.toInt < (n : Int) ∧ 1 ≤ n), Sf (Mo_lay_2 F  n t tL x1 x2 x3) (fun r => (True) ∧ FRM [1] t r.1) := by
  intro n; induction n with
  | zero => intro t tL x1 x2 x3 h; omega
  | succ n ih =>
    intro t tL x1 x2 x3 h; rw [Mo_lay_2]
    have b_x1 := ibd x1
    have b_x2 := ibd x2
    have b_x3 := ibd x3
    refine sf_le (ilit (4 : Int32) (4) rfl) rfl (fun c1 => ?_) (fun c1 => ?_)
    · skip
      exact sf_some ⟨trivial, FRM_refl _ _⟩
    · skip
      refine sf_idx (iadd rfl rfl) (by first | (clear b_x2; omega) | omega) (by first | (clear b_x2; omega) | omega) ?_
      refine sf_up (fun t_5 ht_t_5 hn_t_5 => ?_)
      have g2 : ((x3 + (1 : Int32))).toInt = _ := (iadd rfl (ilit (1 : Int32) (1) rfl))
      refine sf_imp (ih t_5 tL x1 x2 (x3 + (1 : Int32)) (by first | (clear b_x2; omega) | omega)) (fun r hr => ?_)
      (try dsimp only at hr)
      refine ⟨?_, FRM_trans (FRM_up (FRM_refl _ _) (by decide) hn_t_5) (FRM_sub (by decide) hr.2)⟩
      trivial
set_option maxHeartbeats 4000000 in
set_option maxRecDepth 100000 in
theorem sp_Mo_lay (F : Nat) (hF : Big F) (t : StI) (tL : StL) (x1 : Int32) (x2 : Int32) (h : 0 ≤ x1.toInt ∧ x1.toInt ≤ 16) : Sf (Mo_lay F t tL x1 x2) (fun r => (True) ∧ FRM [1] t r.1) := by
  rw [Mo_lay]
  have b_x1 := ibd x1
  have b_x2 := ibd x2
  have g1 := (ilit (0 : Int32) (0) rfl)
  refine sf_imp (sp_Mo_lay_2 F hF   F t tL x1 x2 (0 : Int32) (⟨by first | (clear b_x2; omega) | omega, fuel_ok hF (by first | (clear b_x2 b_x1; omega) | omega)⟩)) (fun r hr => ?_)
  (try dsimp only at hr)
  refine ⟨?_, FRM_trans (FRM_refl _ _) (FRM_sub (by decide) hr.2)⟩
  trivial
set_option maxHeartbeats 4000000 in
set_option maxRecDepth 100000 in
theorem sp_Mo_feed (F : Nat) (hF : Big F) (t : StI) (tL : StL) (x1 : Int32) (x2 : Int32) (x3 : Int32) (x4 : Int32) (x5 : Int32) (h : True) : Sf (Mo_feed F t tL x1 x2 x3 x4 x5) (fun r => (True) ∧ FRM [0, 1] t r.1) := by
  rw [Mo_feed]
  have b_x1 := ibd x1
  have b_x2 := ibd x2
  have b_x3 := ibd x3
  have b_x4 := ibd x4
  have b_x5 := ibd x5
  refine sf_up (fun t_7 ht_t_7 hn_t_7 => ?_)
  have g1 := (ilit (0 : Int32) (0) rfl)
  refine sf_bind (sp_Mo_lay F hF t_7 tL (0 : Int32) x1 (by first | (clear b_x5 b_x4 b_x3 b_x2 b_x1; omega) | omega)) (fun r8 h_r8 => ?_)
  have g2 := (ilit (4 : Int32) (4) rfl)
  refine sf_bind (sp_Mo_lay F hF r8.1 r8.2 (4 : Int32) x2 (by first | (clear h_r8 b_x5 b_x4 b_x3 b_x2 b_x1; omega) | omega)) (fun r9 h_r9 => ?_)
  have g3 := (ilit (8 : Int32) (8) rfl)
  refine sf_bind (sp_Mo_lay F hF r9.1 r9.2 (8 : Int32) x3 (by first | (clear h_r9 h_r8 b_x5 b_x4 b_x3 b_x2 b_x1; omega) | omega)) (fun r10 h_r10 => ?_)
  have g4 := (ilit (12 : Int32) (12) rfl)
  refine sf_bind (sp_Mo_lay F hF r10.1 r10.2 (12 : Int32) x4 (by first | (clear h_r10 h_r9 h_r8 b_x5 b_x4 b_x3 b_x2 b_x1; omega) | omega)) (fun r11 h_r11 => ?_)
  have g5 := (ilit (16 : Int32) (16) rfl)
  refine sf_bind (sp_Mo_lay F hF r11.1 r11.2 (16 : Int32) x5 (by first | (clear h_r11 h_r10 h_r9 h_r8 b_x5 b_x4 b_x3 b_x2 b_x1; omega) | omega)) (fun r12 h_r12 => ?_)
  exact sf_some ⟨trivial, FRM_trans (FRM_trans (FRM_trans (FRM_trans (FRM_trans (FRM_up (FRM_refl _ _) (by decide) hn_t_7) (FRM_sub (by decide) h_r8.2)) (FRM_sub (by decide) h_r9.2)) (FRM_sub (by decide) h_r10.2)) (FRM_sub (by decide) h_r11.2)) (FRM_sub (by decide) h_r12.2)⟩
set_option maxHeartbeats 4000000 in
set_option maxRecDepth 100000 in
theorem sp_Mo_end_69 (F : Nat) (hF : Big F)   : ∀ (n : Nat) (t : StI) (tL : StL) (x2 : Int32) (h : (0 ≤ x2.toInt) ∧ 20 - x2.toInt < (n : Int) ∧ 1 ≤ n), Sf (Mo_end_69 F  n t tL x2) (fun r => (r.1.toInt = (t 3 0).toInt) ∧ FRM [1] t r.2.1) := by
  intro n; induction n with
  | zero => intro t tL x2 h; omega
  | succ n ih =>
    intro t tL x2 h; rw [Mo_end_69]
    have b_x2 := ibd x2
    refine sf_le (ilit (20 : Int32) (20) rfl) rfl (fun c1 => ?_) (fun c1 => ?_)
    · skip
      refine sf_some ⟨?_, FRM_refl _ _⟩
      ((try dsimp only) <;> omega)
    · skip
      refine sf_idx rfl (by omega) (by omega) ?_
      refine sf_up (fun t_14 ht_t_14 hn_t_14 => ?_)
      have g2 : ((x2 + (1 : Int32))).toInt = _ := (iadd rfl (ilit (1 : Int32) (1) rfl))
      refine sf_imp (ih t_14 tL (x2 + (1 : Int32)) (by omega)) (fun r hr => ?_)
      have e3 : (t_14 3 0).toInt = (t 3 0).toInt := congrArg (fun q => Int32.toInt (q 0)) (hn_t_14 3 (by decide))
      (try dsimp only at hr)
      refine ⟨?_, FRM_trans (FRM_up (FRM_refl _ _) (by decide) hn_t_14) (FRM_sub (by decide) hr.2)⟩
      ((try dsimp only) <;> omega)
set_option maxHeartbeats 4000000 in
set_option maxRecDepth 100000 in
theorem sp_Mo_end_31 (F : Nat) (hF : Big F)   : ∀ (n : Nat) (t : StI) (tL : StL) (x1 : Int32) (x2 : Int32) (h : (0 ≤ x2.toInt ∧ x2.toInt ≤ x1.toInt ∧ x1.toInt ≤ 20 ∧ 0 ≤ (t 3 0).toInt ∧ (t 3 0).toInt + x1.toInt - x2.toInt ≤ 600) ∧ x1.toInt - x2.toInt < (n : Int) ∧ 1 ≤ n), Sf (Mo_end_31 F  n t tL x1 x2) (fun r => (r.1.toInt = (t 3 0).toInt + x1.toInt - x2.toInt ∧ (r.2.1 3 0).toInt = (t 3 0).toInt + x1.toInt - x2.toInt) ∧ FRM [1, 2, 3] t r.2.1) := by
  intro n; induction n with
  | zero => intro t tL x1 x2 h; omega
  | succ n ih =>
    intro t tL x1 x2 h; rw [Mo_end_31]
    have b_x1 := ibd x1
    have b_x2 := ibd x2
    refine sf_le rfl rfl (fun c1 => ?_) (fun c1 => ?_)
    · skip
      have g2 := (ilit (0 : Int32) (0) rfl)
      refine sf_imp (sp_Mo_end_69 F hF   F t tL (0 : Int32) (⟨by first | (clear c1 b_x2 b_x1; omega) | omega, fuel_ok hF (by first | (clear c1 b_x2 b_x1; omega) | omega)⟩)) (fun r hr => ?_)
      have e3 : (r.2.1 3 0).toInt = (t 3 0).toInt := congrArg (fun q => Int32.toInt (q 0)) (hr.2 3 (by decide))
      (try dsimp only at hr)
      refine ⟨?_, FRM_trans (FRM_refl _ _) (FRM_sub (by decide) hr.2)⟩
      ((try dsimp only) <;> omega)
    · skip
      refine sf_idx rfl (by omega) (by omega) ?_
      refine sf_idx rfl (by omega) (by omega) ?_
      refine sf_up (fun t_18 ht_t_18 hn_t_18 => ?_)
      refine sf_up (fun t_20 ht_t_20 hn_t_20 => ?_)
      have g4 : ((x2 + (1 : Int32))).toInt = _ := (iadd rfl (ilit (1 : Int32) (1) rfl))
      have e5 : (t_18 3 0).toInt = (t 3 0).toInt := congrArg (fun q => Int32.toInt (q 0)) (hn_t_18 3 (by decide))
      have e6 : (t_20 3 0).toInt = _ := (congrArg (fun q => Int32.toInt (q 0)) ht_t_20).trans (iadd rfl (ilit (1 : Int32) (1) rfl))
      refine sf_imp (ih t_20 tL x1 (x2 + (1 : Int32)) (by omega)) (fun r hr => ?_)
      (try dsimp only at hr)
      refine ⟨?_, FRM_trans (FRM_up (FRM_up (FRM_refl _ _) (by decide) hn_t_18) (by decide) hn_t_20) (FRM_sub (by decide) hr.2)⟩
      ((try dsimp only) <;> omega)
set_option maxHeartbeats 4000000 in
set_option maxRecDepth 100000 in
theorem sp_Mo_end (F : Nat) (hF : Big F) (t : StI) (tL : StL) (x1 : Int32) (h : 0 ≤ (t 3 0).toInt ∧ (t 3 0).toInt ≤ 600) : Sf (Mo_end F t tL x1) (fun r => (((x1.toInt < 0 ∨ 20 < x1.toInt ∨ 600 < (t 3 0).toInt + x1.toInt) ∧ r.1.toInt = -1 ∧ (r.2.1 3 0).toInt = (t 3 0).toInt) ∨ (0 ≤ x1.toInt ∧ x1.toInt ≤ 20 ∧ (t 3 0).toInt + x1.toInt ≤ 600 ∧ r.1.toInt = (t 3 0).toInt + x1.toInt ∧ (r.2.1 3 0).toInt = (t 3 0).toInt + x1.toInt)) ∧ FRM [0, 1, 2, 3] t r.2.1) := by
  rw [Mo_end]
  have b_x1 := ibd x1
  refine sf_up (fun t_21 ht_t_21 hn_t_21 => ?_)
  refine sf_lt rfl (ilit (0 : Int32) (0) rfl) (fun c1 => ?_) (fun c1 => ?_)
  · skip
    have g2 := (ilit (-1 : Int32) (-1) rfl)
    have e3 : (t_21 3 0).toInt = (t 3 0).toInt := congrArg (fun q => Int32.toInt (q 0)) (hn_t_21 3 (by decide))
    refine sf_some ⟨?_, FRM_up (FRM_refl _ _) (by decide) hn_t_21⟩
    ((try dsimp only) <;> omega)
  · skip
    refine sf_lt (ilit (20 : Int32) (20) rfl) rfl (fun c4 => ?_) (fun c4 => ?_)
    · skip
      have g5 := (ilit (-1 : Int32) (-1) rfl)
      have e6 : (t_21 3 0).toInt = (t 3 0).toInt := congrArg (fun q => Int32.toInt (q 0)) (hn_t_21 3 (by decide))
      refine sf_some ⟨?_, FRM_up (FRM_refl _ _) (by decide) hn_t_21⟩
      ((try dsimp only) <;> omega)
    · skip
      have e7 : (t_21 3 0).toInt = (t 3 0).toInt := congrArg (fun q => Int32.toInt (q 0)) (hn_t_21 3 (by decide))
      refine sf_le (iadd rfl rfl) (ilit (600 : Int32) (600) rfl) (fun c8 => ?_) (fun c8 => ?_)
      · skip
        have g9 := (ilit (0 : Int32) (0) rfl)
        refine sf_imp (sp_Mo_end_31 F hF   F t_21 tL x1 (0 : Int32) (⟨by omega, fuel_ok hF (by omega)⟩)) (fun r hr => ?_)
        (try dsimp only at hr)
        refine ⟨?_, FRM_trans (FRM_up (FRM_refl _ _) (by decide) hn_t_21) (FRM_sub (by decide) hr.2)⟩
        ((try dsimp only) <;> omega)
      · skip
        have g10 := (ilit (-1 : Int32) (-1) rfl)
        refine sf_some ⟨?_, FRM_up (FRM_refl _ _) (by decide) hn_t_21⟩
        ((try dsimp only) <;> omega)
theorem sp_Mo_see (F : Nat) (hF : Big F) (t : StI) (tL : StL) (x1 : Int32) (h : (0 ≤ (t 6 0).toInt ∧ (t 6 0).toInt ≤ 600) ∧ 0 ≤ x1.toInt) : Sf (Mo_see F t tL x1) (fun r => (-1 ≤ r.toInt ∧ r.toInt ≤ 255 ∧ (r.toInt = -1 ∨ x1.toInt < (t 6 0).toInt))) := by
  rw [Mo_see]
  refine sf_le rfl rfl (fun c1 => ?_) (fun c1 => ?_)
  · have g := ilit (-1 : Int32) (-1) rfl
    exact sf_some (by omega)
  · refine sf_idx rfl (by omega) (by omega) ?_
    have g := iand255 (t 4 x1.toNatClampNeg)
    exact sf_some (by omega)
set_option maxHeartbeats 4000000 in
set_option maxRecDepth 100000 in
theorem sp_Mo_fail (F : Nat) (hF : Big F) (t : StI) (tL : StL) (x1 : Int32) (x2 : Int32) (h : (0 ≤ (t 9 0).toInt ∧ (t 9 0).toInt ≤ 5) ∧ 1 ≤ x1.toInt ∧ x1.toInt ≤ 5) : Sf (Mo_fail F t tL x1 x2) (fun r => (1 ≤ (r.1 9 0).toInt ∧ (r.1 9 0).toInt ≤ 5) ∧ FRM [9, 10] t r.1) := by
  rw [Mo_fail]
  have b_x1 := ibd x1
  have b_x2 := ibd x2
  refine sf_eq rfl (ilit (0 : Int32) (0) rfl) (fun c1 => ?_) (fun c1 => ?_)
  · skip
    refine sf_up (fun t_5 ht_t_5 hn_t_5 => ?_)
    refine sf_up (fun t_6 ht_t_6 hn_t_6 => ?_)
    have e2 : (t_5 9 0).toInt = (x1).toInt := (congrArg (fun q => Int32.toInt (q 0)) ht_t_5).trans rfl
    have e3 : (t_6 9 0).toInt = (t_5 9 0).toInt := congrArg (fun q => Int32.toInt (q 0)) (hn_t_6 9 (by decide))
    refine sf_some ⟨?_, FRM_up (FRM_up (FRM_refl _ _) (by decide) hn_t_5) (by decide) hn_t_6⟩
    ((try dsimp only) <;> omega)
  · skip
    refine sf_some ⟨?_, FRM_refl _ _⟩
    ((try dsimp only) <;> omega)
set_option maxHeartbeats 4000000 in
set_option maxRecDepth 100000 in
theorem sp_Mo_isPart (F : Nat) (hF : Big F) (x0 : Int32) (h : True) : Sf (Mo_isPart F x0) (fun r => (r.toInt = 0 ∨ (r.toInt = 1 ∧ 33 ≤ x0.toInt))) := by
  rw [Mo_isPart]
  have b_x0 := ibd x0
  refine sf_le rfl (ilit (32 : Int32) (32) rfl) (fun c1 => ?_) (fun c1 => ?_)
  · skip
    have g2 := (ilit (0 : Int32) (0) rfl)
    refine sf_some ?_
    ((try dsimp only) <;> omega)
  · skip
    refine sf_le (ilit (127 : Int32) (127) rfl) rfl (fun c3 => ?_) (fun c3 => ?_)
    · skip
      have g4 := (ilit (0 : Int32) (0) rfl)
      refine sf_some ?_
      ((try dsimp only) <;> omega)
    · skip
      refine sf_eq rfl (ilit (40 : Int32) (40) rfl) (fun c5 => ?_) (fun c5 => ?_)
      · skip
        have g6 := (ilit (0 : Int32) (0) rfl)
        refine sf_some ?_
        ((try dsimp only) <;> omega)
      · skip
        refine sf_eq rfl (ilit (41 : Int32) (41) rfl) (fun c7 => ?_) (fun c7 => ?_)
        · skip
          have g8 := (ilit (0 : Int32) (0) rfl)
          refine sf_some ?_
          ((try dsimp only) <;> omega)
        · skip
          refine sf_eq rfl (ilit (34 : Int32) (34) rfl) (fun c9 => ?_) (fun c9 => ?_)
          · skip
            have g10 := (ilit (0 : Int32) (0) rfl)
            refine sf_some ?_
            ((try dsimp only) <;> omega)
          · skip
            refine sf_eq rfl (ilit (58 : Int32) (58) rfl) (fun c11 => ?_) (fun c11 => ?_)
            · skip
              have g12 := (ilit (0 : Int32) (0) rfl)
              refine sf_some ?_
              ((try dsimp only) <;> omega)
            · skip
              have g13 := (ilit (1 : Int32) (1) rfl)
              refine sf_some ?_
              ((try dsimp only) <;> omega)
set_option maxHeartbeats 4000000 in
set_option maxRecDepth 100000 in
theorem sp_Mo_isSmall (F : Nat) (hF : Big F) (x0 : Int32) (h : True) : Sf (Mo_isSmall F x0) (fun r => (r.toInt = 0 ∨ (r.toInt = 1 ∧ 97 ≤ x0.toInt))) := by
  rw [Mo_isSmall]
  have b_x0 := ibd x0
  refine sf_lt rfl (ilit (97 : Int32) (97) rfl) (fun c1 => ?_) (fun c1 => ?_)
  · skip
    have g2 := (ilit (0 : Int32) (0) rfl)
    refine sf_some ?_
    ((try dsimp only) <;> omega)
  · skip
    refine sf_lt (ilit (122 : Int32) (122) rfl) rfl (fun c3 => ?_) (fun c3 => ?_)
    · skip
      have g4 := (ilit (0 : Int32) (0) rfl)
      refine sf_some ?_
      ((try dsimp only) <;> omega)
    · skip
      have g5 := (ilit (1 : Int32) (1) rfl)
      refine sf_some ?_
      ((try dsimp only) <;> omega)
set_option maxHeartbeats 4000000 in
set_option maxRecDepth 100000 in
theorem sp_Mo_isDigit (F : Nat) (hF : Big F) (x0 : Int32) (h : True) : Sf (Mo_isDigit F x0) (fun r => (r.toInt = 0 ∨ (r.toInt = 1 ∧ 48 ≤ x0.toInt ∧ x0.toInt ≤ 57))) := by
  rw [Mo_isDigit]
  have b_x0 := ibd x0
  refine sf_lt rfl (ilit (48 : Int32) (48) rfl) (fun c1 => ?_) (fun c1 => ?_)
  · skip
    have g2 := (ilit (0 : Int32) (0) rfl)
    refine sf_some ?_
    ((try dsimp only) <;> omega)
  · skip
    refine sf_lt (ilit (57 : Int32) (57) rfl) rfl (fun c3 => ?_) (fun c3 => ?_)
    · skip
      have g4 := (ilit (0 : Int32) (0) rfl)
      refine sf_some ?_
      ((try dsimp only) <;> omega)
    · skip
      have g5 := (ilit (1 : Int32) (1) rfl)
      refine sf_some ?_
      ((try dsimp only) <;> omega)
set_option maxHeartbeats 4000000 in
set_option maxRecDepth 100000 in
theorem sp_Mo_runEnd_2 (F : Nat) (hF : Big F)   : ∀ (n : Nat) (t : StI) (tL : StL) (x2 : Int32) (h : ((0 ≤ (t 6 0).toInt ∧ (t 6 0).toInt ≤ 600) ∧ 0 ≤ x2.toInt ∧ x2.toInt ≤ 10000) ∧ 10001 - x2.toInt < (n : Int) ∧ 1 ≤ n), Sf (Mo_runEnd_2 F  n t tL x2) (fun r => (x2.toInt ≤ r.toInt ∧ (r.toInt ≤ 600 ∨ r.toInt = x2.toInt))) := by
  intro n; induction n with
  | zero => intro t tL x2 h; omega
  | succ n ih =>
    intro t tL x2 h; rw [Mo_runEnd_2]
    have b_x2 := ibd x2
    refine sf_bind (sp_Mo_see F hF t tL x2 (by omega)) (fun r4 h_r4 => ?_)
    refine sf_bind (sp_Mo_isPart F hF r4 (trivial)) (fun r5 h_r5 => ?_)
    refine sf_eq rfl (ilit (0 : Int32) (0) rfl) (fun c1 => ?_) (fun c1 => ?_)
    · skip
      refine sf_some ?_
      ((try dsimp only) <;> omega)
    · skip
      have g2 : ((x2 + (1 : Int32))).toInt = _ := (iadd rfl (ilit (1 : Int32) (1) rfl))
      refine sf_imp (ih t tL (x2 + (1 : Int32)) (by omega)) (fun r hr => ?_)
      (try dsimp only at hr)
      ((try dsimp only) <;> omega)
set_option maxHeartbeats 4000000 in
set_option maxRecDepth 100000 in
theorem sp_Mo_runEnd (F : Nat) (hF : Big F) (t : StI) (tL : StL) (x1 : Int32) (h : (0 ≤ (t 6 0).toInt ∧ (t 6 0).toInt ≤ 600) ∧ 0 ≤ x1.toInt ∧ x1.toInt ≤ 10000) : Sf (Mo_runEnd F t tL x1) (fun r => (x1.toInt ≤ r.toInt ∧ (r.toInt ≤ 600 ∨ r.toInt = x1.toInt))) := by
  rw [Mo_runEnd]
  have b_x1 := ibd x1
  refine sf_imp (sp_Mo_runEnd_2 F hF   F t tL x1 (⟨by omega, fuel_ok hF (by omega)⟩)) (fun r hr => ?_)
  (try dsimp only at hr)
  ((try dsimp only) <;> omega)
set_option maxHeartbeats 4000000 in
set_option maxRecDepth 100000 in
theorem sp_Mo_isLetters_14 (F : Nat) (hF : Big F)   : ∀ (n : Nat) (t : StI) (tL : StL) (x2 : Int32) (x3 : Int32) (x4 : Int32) (h : ((0 ≤ (t 6 0).toInt ∧ (t 6 0).toInt ≤ 600) ∧ 0 ≤ x4.toInt ∧ (x3.toInt = 0 ∨ x3.toInt = 1) ∧ x2.toInt ≤ 10000) ∧ 10001 - x4.toInt < (n : Int) ∧ 1 ≤ n), Sf (Mo_isLetters_14 F  n t tL x2 x3 x4) (fun r => (r.toInt = 0 ∨ r.toInt = 1)) := by
  intro n; induction n with
  | zero => intro t tL x2 x3 x4 h; omega
  | succ n ih =>
    intro t tL x2 x3 x4 h; rw [Mo_isLetters_14]
    have b_x2 := ibd x2
    have b_x3 := ibd x3
    have b_x4 := ibd x4
    refine sf_le rfl rfl (fun c1 => ?_) (fun c1 => ?_)
    · skip
      refine sf_b01 (by first | (clear c1 b_x4 b_x2; omega) | omega) ?_
      refine sf_some ?_
      ((try dsimp only) <;> omega)
    · skip
      refine sf_eq rfl (ilit (0 : Int32) (0) rfl) (fun c2 => ?_) (fun c2 => ?_)
      · skip
        rw [Mo_isLetters_40]
        rw [Mo_isLetters_41]
        have g3 := (ilit (0 : Int32) (0) rfl)
        have g4 : ((x4 + (1 : Int32))).toInt = _ := (iadd rfl (ilit (1 : Int32) (1) rfl))
        refine sf_imp (ih t tL x2 (0 : Int32) (x4 + (1 : Int32)) (by first | (clear c2 b_x3; omega) | omega)) (fun r hr => ?_)
        (try dsimp only at hr)
        ((try dsimp only) <;> omega)
      · skip
        refine sf_bind (sp_Mo_see F hF t tL x4 (by first | (clear c2 b_x3; omega) | omega)) (fun r11 h_r11 => ?_)
        refine sf_bind (sp_Mo_isSmall F hF r11 (trivial)) (fun r12 h_r12 => ?_)
        refine sf_eq rfl (ilit (0 : Int32) (0) rfl) (fun c5 => ?_) (fun c5 => ?_)
        · skip
          rw [Mo_isLetters_40]
          rw [Mo_isLetters_41]
          have g6 := (ilit (0 : Int32) (0) rfl)
          have g7 : ((x4 + (1 : Int32))).toInt = _ := (iadd rfl (ilit (1 : Int32) (1) rfl))
          refine sf_imp (ih t tL x2 (0 : Int32) (x4 + (1 : Int32)) (by first | (clear c2 b_x3; omega) | omega)) (fun r hr => ?_)
          (try dsimp only at hr)
          ((try dsimp only) <;> omega)
        · skip
          rw [Mo_isLetters_41]
          have g8 := (ilit (1 : Int32) (1) rfl)
          have g9 : ((x4 + (1 : Int32))).toInt = _ := (iadd rfl (ilit (1 : Int32) (1) rfl))
          refine sf_imp (ih t tL x2 (1 : Int32) (x4 + (1 : Int32)) (by first | (clear c2 b_x3; omega) | omega)) (fun r hr => ?_)
          (try dsimp only at hr)
          ((try dsimp only) <;> omega)
set_option maxHeartbeats 4000000 in
set_option maxRecDepth 100000 in
theorem sp_Mo_isLetters (F : Nat) (hF : Big F) (t : StI) (tL : StL) (x1 : Int32) (x2 : Int32) (h : (0 ≤ (t 6 0).toInt ∧ (t 6 0).toInt ≤ 600) ∧ 0 ≤ x1.toInt ∧ x1.toInt ≤ 10000 ∧ 0 ≤ x2.toInt ∧ x2.toInt ≤ 10000) : Sf (Mo_isLetters F t tL x1 x2) (fun r => (r.toInt = 0 ∨ r.toInt = 1)) := by
  rw [Mo_isLetters]
  have b_x1 := ibd x1
  have b_x2 := ibd x2
  refine sf_le rfl rfl (fun c1 => ?_) (fun c1 => ?_)
  · skip
    rw [Mo_isLetters_10]
    have g2 := (ilit (0 : Int32) (0) rfl)
    refine sf_imp (sp_Mo_isLetters_14 F hF   F t tL x2 (0 : Int32) x1 (⟨by omega, fuel_ok hF (by omega)⟩)) (fun r hr => ?_)
    (try dsimp only at hr)
    ((try dsimp only) <;> omega)
  · skip
    rw [Mo_isLetters_10]
    have g3 := (ilit (1 : Int32) (1) rfl)
    refine sf_imp (sp_Mo_isLetters_14 F hF   F t tL x2 (1 : Int32) x1 (⟨by omega, fuel_ok hF (by omega)⟩)) (fun r hr => ?_)
    (try dsimp only at hr)
    ((try dsimp only) <;> omega)
set_option maxHeartbeats 4000000 in
set_option maxRecDepth 100000 in
theorem sp_Mo_isText_18 (F : Nat) (hF : Big F)   : ∀ (n : Nat) (t : StI) (tL : StL) (x1 : Int32) (x3 : Int64) (x5 : Int32) (x6 : Int32) (x7 : Int32) (h : ((0 ≤ (t 6 0).toInt ∧ (t 6 0).toInt ≤ 600) ∧ 0 ≤ x1.toInt ∧ x1.toInt ≤ 10000 ∧ 0 ≤ x7.toInt ∧ x5.toInt ≤ 10 ∧ (x6.toInt = 0 ∨ x6.toInt = 1)) ∧ 11 - x7.toInt < (n : Int) ∧ 1 ≤ n), Sf (Mo_isText_18 F  n t tL x1 x3 x5 x6 x7) (fun r => (r.toInt = 0 ∨ r.toInt = 1) ∧ r.toInt ≤ x6.toInt) := by
  intro n; induction n with
  | zero => intro t tL x1 x3 x5 x6 x7 h; omega
  | succ n ih =>
    intro t tL x1 x3 x5 x6 x7 h; rw [Mo_isText_18]
    have b_x1 := ibd x1
    have b_x5 := ibd x5
    have b_x6 := ibd x6
    have b_x7 := ibd x7
    refine sf_le rfl rfl (fun c1 => ?_) (fun c1 => ?_)
    · skip
      refine sf_b01 (by first | (clear c1 b_x7 b_x5 b_x1; omega) | omega) ?_
      refine sf_some ?_
      ((try dsimp only) <;> omega)
    · skip
      refine sf_eq rfl (ilit (0 : Int32) (0) rfl) (fun c2 => ?_) (fun c2 => ?_)
      · skip
        refine sf_b01 (by first | (clear c1 b_x7 b_x5 b_x1; omega) | omega) ?_
        refine sf_some ?_
        ((try dsimp only) <;> omega)
      · skip
        have g3 : ((x1 + x7)).toInt = _ := (iadd rfl rfl)
        refine sf_bind (sp_Mo_see F hF t tL (x1 + x7) (by first | (clear c2 b_x6; omega) | omega)) (fun r12 h_r12 => ?_)
        refine sf_any ?_ ?_
        · skip
          rw [Mo_isText_63]
          have g5 := (ilit (1 : Int32) (1) rfl)
          have g6 : ((x7 + (1 : Int32))).toInt = _ := (iadd rfl (ilit (1 : Int32) (1) rfl))
          refine sf_imp (ih t tL x1 x3 x5 (1 : Int32) (x7 + (1 : Int32)) (by first | (clear c2 b_x6; omega) | omega)) (fun r hr => ?_)
          (try dsimp only at hr)
          ((try dsimp only) <;> omega)
        · skip
          rw [Mo_isText_63]
          have g7 := (ilit (0 : Int32) (0) rfl)
          have g8 : ((x7 + (1 : Int32))).toInt = _ := (iadd rfl (ilit (1 : Int32) (1) rfl))
          refine sf_imp (ih t tL x1 x3 x5 (0 : Int32) (x7 + (1 : Int32)) (by first | (clear c2 b_x6; omega) | omega)) (fun r hr => ?_)
          (try dsimp only at hr)
          ((try dsimp only) <;> omega)
set_option maxHeartbeats 4000000 in
set_option maxRecDepth 100000 in
theorem sp_Mo_isText (F : Nat) (hF : Big F) (t : StI) (tL : StL) (x1 : Int32) (x2 : Int32) (x3 : Int64) (x5 : Int32) (h : (0 ≤ (t 6 0).toInt ∧ (t 6 0).toInt ≤ 600) ∧ 0 ≤ x1.toInt ∧ x1.toInt ≤ 10000 ∧ 0 ≤ x2.toInt ∧ x2.toInt ≤ 10000 ∧ x5.toInt ≤ 10) : Sf (Mo_isText F t tL x1 x2 x3 x5) (fun r => (r.toInt = 0 ∨ (r.toInt = 1 ∧ x2.toInt - x1.toInt = x5.toInt))) := by
  rw [Mo_isText]
  have b_x1 := ibd x1
  have b_x2 := ibd x2
  have b_x5 := ibd x5
  refine sf_eq (isub rfl rfl) rfl (fun c1 => ?_) (fun c1 => ?_)
  · skip
    rw [Mo_isText_13]
    have g2 := (ilit (1 : Int32) (1) rfl)
    have g3 := (ilit (0 : Int32) (0) rfl)
    refine sf_imp (sp_Mo_isText_18 F hF   F t tL x1 x3 x5 (1 : Int32) (0 : Int32) (⟨by omega, fuel_ok hF (by first | (clear c1 b_x5 b_x2 b_x1; omega) | omega)⟩)) (fun r hr => ?_)
    (try dsimp only at hr)
    ((try dsimp only) <;> omega)
  · skip
    rw [Mo_isText_13]
    have g4 := (ilit (0 : Int32) (0) rfl)
    refine sf_imp (sp_Mo_isText_18 F hF   F t tL x1 x3 x5 (0 : Int32) (0 : Int32) (⟨by omega, fuel_ok hF (by first | (clear c1 b_x5 b_x2 b_x1; omega) | omega)⟩)) (fun r hr => ?_)
    (try dsimp only at hr)
    ((try dsimp only) <;> omega)
set_option maxHeartbeats 4000000 in
set_option maxRecDepth 100000 in
theorem sp_Mo_operator (F : Nat) (hF : Big F) (t : StI) (tL : StL) (x1 : Int32) (x2 : Int32) (h : (0 ≤ (t 6 0).toInt ∧ (t 6 0).toInt ≤ 600) ∧ 0 ≤ x1.toInt ∧ x1.toInt ≤ 10000 ∧ 0 ≤ x2.toInt ∧ x2.toInt ≤ 10000) : Sf (Mo_operator F t tL x1 x2) (fun r => (-1 ≤ r.toInt ∧ r.toInt ≤ 4 ∧ r.toInt ≠ 0 ∧ (r.toInt = -1 ∨ x1.toInt < x2.toInt) ∧ (r.toInt ≠ 4 ∨ x2.toInt - x1.toInt = 3))) := by
  rw [Mo_operator]
  have b_x1 := ibd x1
  have b_x2 := ibd x2
  have g1 := (ilit (3 : Int32) (3) rfl)
  refine sf_bind (sp_Mo_isText F hF t tL x1 x2 (6385252 : Int64) (3 : Int32) (by omega)) (fun r9 h_r9 => ?_)
  refine sf_eq rfl (ilit (0 : Int32) (0) rfl) (fun c2 => ?_) (fun c2 => ?_)
  · skip
    have g3 := (ilit (2 : Int32) (2) rfl)
    refine sf_bind (sp_Mo_isText F hF t tL x1 x2 (28530 : Int64) (2 : Int32) (by omega)) (fun r11 h_r11 => ?_)
    refine sf_eq rfl (ilit (0 : Int32) (0) rfl) (fun c4 => ?_) (fun c4 => ?_)
    · skip
      refine sf_bind (sp_Mo_isText F hF t tL x1 x2 (7892850 : Int64) (3 : Int32) (by omega)) (fun r13 h_r13 => ?_)
      refine sf_eq rfl (ilit (0 : Int32) (0) rfl) (fun c5 => ?_) (fun c5 => ?_)
      · skip
        refine sf_bind (sp_Mo_isText F hF t tL x1 x2 (7237492 : Int64) (3 : Int32) (by omega)) (fun r15 h_r15 => ?_)
        refine sf_eq rfl (ilit (0 : Int32) (0) rfl) (fun c6 => ?_) (fun c6 => ?_)
        · skip
          have g7 := (ilit (-1 : Int32) (-1) rfl)
          refine sf_some ?_
          ((try dsimp only) <;> omega)
        · skip
          have g8 := (ilit (4 : Int32) (4) rfl)
          refine sf_some ?_
          ((try dsimp only) <;> omega)
      · skip
        refine sf_some ?_
        ((try dsimp only) <;> omega)
    · skip
      have g9 := (ilit (1 : Int32) (1) rfl)
      refine sf_some ?_
      ((try dsimp only) <;> omega)
  · skip
    refine sf_some ?_
    ((try dsimp only) <;> omega)
set_option maxHeartbeats 4000000 in
set_option maxRecDepth 100000 in
theorem sp_Mo_fieldOf_48 (F : Nat) (hF : Big F)   : ∀ (n : Nat) (t : StI) (tL : StL) (x3 : Int64) (x5 : Int32) (h : (0 ≤ x5.toInt) ∧ 12 - x5.toInt < (n : Int) ∧ 1 ≤ n), Sf (Mo_fieldOf_48 F  n t tL x3 x5) (fun r => (-1 ≤ r.toInt ∧ r.toInt ≤ 12)) := by
  intro n; induction n with
  | zero => intro t tL x3 x5 h; omega
  | succ n ih =>
    intro t tL x3 x5 h; rw [Mo_fieldOf_48]
    have b_x5 := ibd x5
    refine sf_le (ilit (12 : Int32) (12) rfl) rfl (fun c1 => ?_) (fun c1 => ?_)
    · skip
      have g2 := (ilit (-1 : Int32) (-1) rfl)
      refine sf_some ?_
      ((try dsimp only) <;> omega)
    · skip
      refine sf_idx rfl (by omega) (by omega) ?_
      refine sf_any ?_ ?_
      · skip
        have g4 : ((x5 + (1 : Int32))).toInt = _ := (iadd rfl (ilit (1 : Int32) (1) rfl))
        refine sf_some ?_
        ((try dsimp only) <;> omega)
      · skip
        have g5 : ((x5 + (1 : Int32))).toInt = _ := (iadd rfl (ilit (1 : Int32) (1) rfl))
        refine sf_imp (ih t tL x3 (x5 + (1 : Int32)) (by omega)) (fun r hr => ?_)
        (try dsimp only at hr)
        ((try dsimp only) <;> omega)
set_option maxHeartbeats 4000000 in
set_option maxRecDepth 100000 in
theorem sp_Mo_fieldOf_15 (F : Nat) (hF : Big F)   : ∀ (n : Nat) (t : StI) (tL : StL) (x2 : Int32) (x3 : Int64) (x5 : Int32) (h : ((0 ≤ (t 6 0).toInt ∧ (t 6 0).toInt ≤ 600) ∧ 0 ≤ x5.toInt ∧ x2.toInt ≤ 10000) ∧ 10001 - x5.toInt < (n : Int) ∧ 1 ≤ n), Sf (Mo_fieldOf_15 F  n t tL x2 x3 x5) (fun r => (-1 ≤ r.toInt ∧ r.toInt ≤ 12)) := by
  intro n; induction n with
  | zero => intro t tL x2 x3 x5 h; omega
  | succ n ih =>
    intro t tL x2 x3 x5 h; rw [Mo_fieldOf_15]
    have b_x2 := ibd x2
    have b_x5 := ibd x5
    refine sf_le rfl rfl (fun c1 => ?_) (fun c1 => ?_)
    · skip
      have g2 := (ilit (0 : Int32) (0) rfl)
      refine sf_imp (sp_Mo_fieldOf_48 F hF   F t tL x3 (0 : Int32) (⟨by first | (clear c1 b_x5 b_x2; omega) | omega, fuel_ok hF (by first | (clear c1 b_x5 b_x2; omega) | omega)⟩)) (fun r hr => ?_)
      (try dsimp only at hr)
      ((try dsimp only) <;> omega)
    · skip
      refine sf_bind (sp_Mo_see F hF t tL x5 (by omega)) (fun r11 h_r11 => ?_)
      have g3 : ((x5 + (1 : Int32))).toInt = _ := (iadd rfl (ilit (1 : Int32) (1) rfl))
      refine sf_imp (ih t tL x2 ((((27 : Int64) * x3) + r11.toInt64) - (96 : Int64)) (x5 + (1 : Int32)) (by omega)) (fun r hr => ?_)
      (try dsimp only at hr)
      ((try dsimp only) <;> omega)
set_option maxHeartbeats 4000000 in
set_option maxRecDepth 100000 in
theorem sp_Mo_fieldOf (F : Nat) (hF : Big F) (t : StI) (tL : StL) (x1 : Int32) (x2 : Int32) (h : (0 ≤ (t 6 0).toInt ∧ (t 6 0).toInt ≤ 600) ∧ 0 ≤ x1.toInt ∧ x1.toInt ≤ 10000 ∧ 0 ≤ x2.toInt ∧ x2.toInt ≤ 10000) : Sf (Mo_fieldOf F t tL x1 x2) (fun r => (-1 ≤ r.toInt ∧ r.toInt ≤ 12)) := by
  rw [Mo_fieldOf]
  have b_x1 := ibd x1
  have b_x2 := ibd x2
  refine sf_le (isub rfl rfl) (ilit (10 : Int32) (10) rfl) (fun c1 => ?_) (fun c1 => ?_)
  · skip
    refine sf_imp (sp_Mo_fieldOf_15 F hF   F t tL x2 (0 : Int64) x1 (⟨by omega, fuel_ok hF (by omega)⟩)) (fun r hr => ?_)
    (try dsimp only at hr)
    ((try dsimp only) <;> omega)
  · skip
    have g2 := (ilit (-1 : Int32) (-1) rfl)
    refine sf_some ?_
    ((try dsimp only) <;> omega)
set_option maxHeartbeats 4000000 in
set_option maxRecDepth 100000 in
theorem sp_Mo_takePhrase_29 (F : Nat) (hF : Big F) (t : StI) (tL : StL) (x1 : Int32) (x2 : Int32) (h : (0 ≤ (t 6 0).toInt ∧ (t 6 0).toInt ≤ 600) ∧ 0 ≤ x1.toInt ∧ x1.toInt ≤ 10000 ∧ 0 ≤ x2.toInt ∧ x2.toInt ≤ 10000) : Sf (Mo_takePhrase_29 F t tL x1 x2) (fun r => ((r.1.toInt = 0 ∨ r.1.toInt = 1) ∧ (r.2.1 17 0).toInt = x1.toInt + 1 ∧ (r.2.1 8 0).toInt = (r.2.1 18 0).toInt + 1 ∧ (r.2.1 18 0).toInt = x2.toInt ∧ (r.1.toInt = 0 ∨ x2.toInt < (t 6 0).toInt)) ∧ FRM [8, 17, 18, 19] t r.2.1) := by
  rw [Mo_takePhrase_29]
  have b_x1 := ibd x1
  have b_x2 := ibd x2
  refine sf_up (fun t_12 ht_t_12 hn_t_12 => ?_)
  refine sf_up (fun t_13 ht_t_13 hn_t_13 => ?_)
  refine sf_up (fun t_14 ht_t_14 hn_t_14 => ?_)
  refine sf_up (fun t_15 ht_t_15 hn_t_15 => ?_)
  have e1 : (t_12 6 0).toInt = (t 6 0).toInt := congrArg (fun q => Int32.toInt (q 0)) (hn_t_12 6 (by decide))
  have e2 : (t_13 6 0).toInt = (t_12 6 0).toInt := congrArg (fun q => Int32.toInt (q 0)) (hn_t_13 6 (by decide))
  have e3 : (t_14 6 0).toInt = (t_13 6 0).toInt := congrArg (fun q => Int32.toInt (q 0)) (hn_t_14 6 (by decide))
  have e4 : (t_15 6 0).toInt = (t_14 6 0).toInt := congrArg (fun q => Int32.toInt (q 0)) (hn_t_15 6 (by decide))
  refine sf_bind (sp_Mo_see F hF t_15 tL x2 (by first | (clear b_x1; omega) | omega)) (fun r16 h_r16 => ?_)
  refine sf_eq rfl (ilit (34 : Int32) (34) rfl) (fun c5 => ?_) (fun c5 => ?_)
  · skip
    refine sf_le rfl (iadd rfl (ilit (1 : Int32) (1) rfl)) (fun c6 => ?_) (fun c6 => ?_)
    · skip
      have g7 := (ilit (0 : Int32) (0) rfl)
      have e8 : (t_13 17 0).toInt = _ := (congrArg (fun q => Int32.toInt (q 0)) ht_t_13).trans (iadd rfl (ilit (1 : Int32) (1) rfl))
      have e9 : (t_14 17 0).toInt = (t_13 17 0).toInt := congrArg (fun q => Int32.toInt (q 0)) (hn_t_14 17 (by decide))
      have e10 : (t_15 17 0).toInt = (t_14 17 0).toInt := congrArg (fun q => Int32.toInt (q 0)) (hn_t_15 17 (by decide))
      have e11 : (t_15 8 0).toInt = _ := (congrArg (fun q => Int32.toInt (q 0)) ht_t_15).trans (iadd rfl (ilit (1 : Int32) (1) rfl))
      have e12 : (t_14 18 0).toInt = (x2).toInt := (congrArg (fun q => Int32.toInt (q 0)) ht_t_14).trans rfl
      have e13 : (t_15 18 0).toInt = (t_14 18 0).toInt := congrArg (fun q => Int32.toInt (q 0)) (hn_t_15 18 (by decide))
      refine sf_some ⟨?_, FRM_up (FRM_up (FRM_up (FRM_up (FRM_refl _ _) (by decide) hn_t_12) (by decide) hn_t_13) (by decide) hn_t_14) (by decide) hn_t_15⟩
      ((try dsimp only) <;> omega)
    · skip
      have g14 := (ilit (1 : Int32) (1) rfl)
      have e15 : (t_13 17 0).toInt = _ := (congrArg (fun q => Int32.toInt (q 0)) ht_t_13).trans (iadd rfl (ilit (1 : Int32) (1) rfl))
      have e16 : (t_14 17 0).toInt = (t_13 17 0).toInt := congrArg (fun q => Int32.toInt (q 0)) (hn_t_14 17 (by decide))
      have e17 : (t_15 17 0).toInt = (t_14 17 0).toInt := congrArg (fun q => Int32.toInt (q 0)) (hn_t_15 17 (by decide))
      have e18 : (t_15 8 0).toInt = _ := (congrArg (fun q => Int32.toInt (q 0)) ht_t_15).trans (iadd rfl (ilit (1 : Int32) (1) rfl))
      have e19 : (t_14 18 0).toInt = (x2).toInt := (congrArg (fun q => Int32.toInt (q 0)) ht_t_14).trans rfl
      have e20 : (t_15 18 0).toInt = (t_14 18 0).toInt := congrArg (fun q => Int32.toInt (q 0)) (hn_t_15 18 (by decide))
      refine sf_some ⟨?_, FRM_up (FRM_up (FRM_up (FRM_up (FRM_refl _ _) (by decide) hn_t_12) (by decide) hn_t_13) (by decide) hn_t_14) (by decide) hn_t_15⟩
      ((try dsimp only) <;> omega)
  · skip
    have g21 := (ilit (0 : Int32) (0) rfl)
    have e22 : (t_13 17 0).toInt = _ := (congrArg (fun q => Int32.toInt (q 0)) ht_t_13).trans (iadd rfl (ilit (1 : Int32) (1) rfl))
    have e23 : (t_14 17 0).toInt = (t_13 17 0).toInt := congrArg (fun q => Int32.toInt (q 0)) (hn_t_14 17 (by decide))
    have e24 : (t_15 17 0).toInt = (t_14 17 0).toInt := congrArg (fun q => Int32.toInt (q 0)) (hn_t_15 17 (by decide))
    have e25 : (t_15 8 0).toInt = _ := (congrArg (fun q => Int32.toInt (q 0)) ht_t_15).trans (iadd rfl (ilit (1 : Int32) (1) rfl))
    have e26 : (t_14 18 0).toInt = (x2).toInt := (congrArg (fun q => Int32.toInt (q 0)) ht_t_14).trans rfl
    have e27 : (t_15 18 0).toInt = (t_14 18 0).toInt := congrArg (fun q => Int32.toInt (q 0)) (hn_t_15 18 (by decide))
    refine sf_some ⟨?_, FRM_up (FRM_up (FRM_up (FRM_up (FRM_refl _ _) (by decide) hn_t_12) (by decide) hn_t_13) (by decide) hn_t_14) (by decide) hn_t_15⟩
    ((try dsimp only) <;> omega)
set_option maxHeartbeats 4000000 in
set_option maxRecDepth 100000 in
theorem sp_Mo_takePhrase_4 (F : Nat) (hF : Big F)   : ∀ (n : Nat) (t : StI) (tL : StL) (x1 : Int32) (x2 : Int32) (h : ((0 ≤ (t 6 0).toInt ∧ (t 6 0).toInt ≤ 600) ∧ 0 ≤ x1.toInt ∧ x1.toInt < x2.toInt ∧ x2.toInt ≤ 10000) ∧ 10001 - x2.toInt < (n : Int) ∧ 1 ≤ n), Sf (Mo_takePhrase_4 F  n t tL x1 x2) (fun r => ((r.1.toInt = 0 ∨ r.1.toInt = 1) ∧ (r.2.1 17 0).toInt = x1.toInt + 1 ∧ (r.2.1 8 0).toInt = (r.2.1 18 0).toInt + 1 ∧ x2.toInt ≤ (r.2.1 18 0).toInt ∧ ((r.2.1 18 0).toInt ≤ 600 ∨ (r.2.1 18 0).toInt = x2.toInt) ∧ (r.1.toInt = 0 ∨ (r.2.1 18 0).toInt < (t 6 0).toInt)) ∧ FRM [8, 17, 18, 19] t r.2.1) := by
  intro n; induction n with
  | zero => intro t tL x1 x2 h; omega
  | succ n ih =>
    intro t tL x1 x2 h; rw [Mo_takePhrase_4]
    have b_x1 := ibd x1
    have b_x2 := ibd x2
    refine sf_bind (sp_Mo_see F hF t tL x2 (by omega)) (fun r19 h_r19 => ?_)
    refine sf_eq rfl (ilit (-1 : Int32) (-1) rfl) (fun c1 => ?_) (fun c1 => ?_)
    · skip
      refine sf_imp (sp_Mo_takePhrase_29 F hF t tL x1 x2 (by omega)) (fun r hr => ?_)
      (try dsimp only at hr)
      refine ⟨?_, FRM_trans (FRM_refl _ _) (FRM_sub (by decide) hr.2)⟩
      ((try dsimp only) <;> omega)
    · skip
      refine sf_bind (sp_Mo_see F hF t tL x2 (by omega)) (fun r21 h_r21 => ?_)
      refine sf_eq rfl (ilit (34 : Int32) (34) rfl) (fun c2 => ?_) (fun c2 => ?_)
      · skip
        refine sf_imp (sp_Mo_takePhrase_29 F hF t tL x1 x2 (by omega)) (fun r hr => ?_)
        (try dsimp only at hr)
        refine ⟨?_, FRM_trans (FRM_refl _ _) (FRM_sub (by decide) hr.2)⟩
        ((try dsimp only) <;> omega)
      · skip
        have g3 : ((x2 + (1 : Int32))).toInt = _ := (iadd rfl (ilit (1 : Int32) (1) rfl))
        refine sf_imp (ih t tL x1 (x2 + (1 : Int32)) (by omega)) (fun r hr => ?_)
        (try dsimp only at hr)
        refine ⟨?_, FRM_trans (FRM_refl _ _) (FRM_sub (by decide) hr.2)⟩
        ((try dsimp only) <;> omega)
set_option maxHeartbeats 4000000 in
set_option maxRecDepth 100000 in
theorem sp_Mo_takePhrase (F : Nat) (hF : Big F) (t : StI) (tL : StL) (x1 : Int32) (h : (0 ≤ (t 6 0).toInt ∧ (t 6 0).toInt ≤ 600) ∧ 0 ≤ x1.toInt ∧ x1.toInt ≤ 9000) : Sf (Mo_takePhrase F t tL x1) (fun r => ((r.1.toInt = 0 ∨ r.1.toInt = 1) ∧ (r.2.1 17 0).toInt = x1.toInt + 1 ∧ (r.2.1 8 0).toInt = (r.2.1 18 0).toInt + 1 ∧ x1.toInt < (r.2.1 18 0).toInt ∧ ((r.2.1 18 0).toInt ≤ 600 ∨ (r.2.1 18 0).toInt = x1.toInt + 1) ∧ (r.1.toInt = 0 ∨ (r.2.1 18 0).toInt < (t 6 0).toInt)) ∧ FRM [8, 17, 18, 19] t r.2.1) := by
  rw [Mo_takePhrase]
  have b_x1 := ibd x1
  have g1 : ((x1 + (1 : Int32))).toInt = _ := (iadd rfl (ilit (1 : Int32) (1) rfl))
  refine sf_imp (sp_Mo_takePhrase_4 F hF   F t tL x1 (x1 + (1 : Int32)) (⟨by omega, fuel_ok hF (by omega)⟩)) (fun r hr => ?_)
  (try dsimp only at hr)
  refine ⟨?_, FRM_trans (FRM_refl _ _) (FRM_sub (by decide) hr.2)⟩
  ((try dsimp only) <;> omega)
set_option maxHeartbeats 4000000 in
set_option maxRecDepth 100000 in
theorem sp_Mo_takeRun (F : Nat) (hF : Big F) (t : StI) (tL : StL) (x1 : Int32) (h : (0 ≤ (t 6 0).toInt ∧ (t 6 0).toInt ≤ 600) ∧ 0 ≤ x1.toInt ∧ x1.toInt ≤ 9000) : Sf (Mo_takeRun F t tL x1) (fun r => ((r.1 17 0).toInt = x1.toInt ∧ (r.1 8 0).toInt = (r.1 18 0).toInt ∧ x1.toInt ≤ (r.1 18 0).toInt ∧ ((r.1 18 0).toInt ≤ 600 ∨ (r.1 18 0).toInt = x1.toInt)) ∧ FRM [8, 17, 18, 19] t r.1) := by
  rw [Mo_takeRun]
  have b_x1 := ibd x1
  refine sf_up (fun t_6 ht_t_6 hn_t_6 => ?_)
  refine sf_up (fun t_7 ht_t_7 hn_t_7 => ?_)
  have e1 : (t_6 6 0).toInt = (t 6 0).toInt := congrArg (fun q => Int32.toInt (q 0)) (hn_t_6 6 (by decide))
  have e2 : (t_7 6 0).toInt = (t_6 6 0).toInt := congrArg (fun q => Int32.toInt (q 0)) (hn_t_7 6 (by decide))
  refine sf_bind (sp_Mo_runEnd F hF t_7 tL x1 (by omega)) (fun r8 h_r8 => ?_)
  refine sf_up (fun t_9 ht_t_9 hn_t_9 => ?_)
  refine sf_up (fun t_10 ht_t_10 hn_t_10 => ?_)
  have e3 : (t_7 17 0).toInt = (x1).toInt := (congrArg (fun q => Int32.toInt (q 0)) ht_t_7).trans rfl
  have e4 : (t_9 17 0).toInt = (t_7 17 0).toInt := congrArg (fun q => Int32.toInt (q 0)) (hn_t_9 17 (by decide))
  have e5 : (t_10 17 0).toInt = (t_9 17 0).toInt := congrArg (fun q => Int32.toInt (q 0)) (hn_t_10 17 (by decide))
  have e6 : (t_9 18 0).toInt = (r8).toInt := (congrArg (fun q => Int32.toInt (q 0)) ht_t_9).trans rfl
  have e7 : (t_10 8 0).toInt = ((t_9 18 0)).toInt := (congrArg (fun q => Int32.toInt (q 0)) ht_t_10).trans rfl
  have e8 : (t_10 18 0).toInt = (t_9 18 0).toInt := congrArg (fun q => Int32.toInt (q 0)) (hn_t_10 18 (by decide))
  refine sf_some ⟨?_, FRM_up (FRM_up (FRM_up (FRM_up (FRM_refl _ _) (by decide) hn_t_6) (by decide) hn_t_7) (by decide) hn_t_9) (by decide) hn_t_10⟩
  ((try dsimp only) <;> omega)
set_option maxHeartbeats 4000000 in
set_option maxRecDepth 100000 in
theorem sp_Mo_isSpace (F : Nat) (hF : Big F) (t : StI) (tL : StL) (x1 : Int32) (h : True) : Sf (Mo_isSpace F t tL x1) (fun r => (r.toInt = 0 ∨ (r.toInt = 1 ∧ 9 ≤ x1.toInt))) := by
  rw [Mo_isSpace]
  have b_x1 := ibd x1
  refine sf_eq rfl (ilit (32 : Int32) (32) rfl) (fun c1 => ?_) (fun c1 => ?_)
  · skip
    have g2 := (ilit (1 : Int32) (1) rfl)
    refine sf_some ?_
    ((try dsimp only) <;> omega)
  · skip
    refine sf_eq rfl (ilit (9 : Int32) (9) rfl) (fun c3 => ?_) (fun c3 => ?_)
    · skip
      have g4 := (ilit (1 : Int32) (1) rfl)
      refine sf_some ?_
      ((try dsimp only) <;> omega)
    · skip
      have g5 := (ilit (0 : Int32) (0) rfl)
      refine sf_some ?_
      ((try dsimp only) <;> omega)
set_option maxHeartbeats 4000000 in
set_option maxRecDepth 100000 in
theorem sp_Mo_next_229 (F : Nat) (hF : Big F) (t : StI) (tL : StL) (x2 : Int32) (x3 : Int32) (x4 : Int32) (y0 : Int32) (h : 0 ≤ x2.toInt ∧ x2.toInt ≤ 10000) : Sf (Mo_next_229 F t tL x2 x3 x4 y0) (fun r => ((r.1 16 0).toInt = y0.toInt ∧ ((x3.toInt = 0 ∧ x4.toInt = -1 ∧ (r.1 8 0).toInt = (t 8 0).toInt) ∨ (x3.toInt = 0 ∧ x4.toInt ≠ -1 ∧ (r.1 8 0).toInt = x2.toInt) ∨ (x3.toInt ≠ 0 ∧ (r.1 8 0).toInt = x2.toInt + 1))) ∧ FRM [8, 16] t r.1) := by
  rw [Mo_next_229]
  have b_x2 := ibd x2
  have b_x3 := ibd x3
  have b_x4 := ibd x4
  have b_y0 := ibd y0
  refine sf_up (fun t_37 ht_t_37 hn_t_37 => ?_)
  refine sf_eq rfl (ilit (0 : Int32) (0) rfl) (fun c1 => ?_) (fun c1 => ?_)
  · skip
    refine sf_eq rfl (ilit (-1 : Int32) (-1) rfl) (fun c2 => ?_) (fun c2 => ?_)
    · skip
      refine sf_up (fun t_41 ht_t_41 hn_t_41 => ?_)
      have e3 : (t_37 16 0).toInt = (y0).toInt := (congrArg (fun q => Int32.toInt (q 0)) ht_t_37).trans rfl
      have e4 : (t_41 16 0).toInt = (t_37 16 0).toInt := congrArg (fun q => Int32.toInt (q 0)) (hn_t_41 16 (by decide))
      have e5 : (t_37 8 0).toInt = (t 8 0).toInt := congrArg (fun q => Int32.toInt (q 0)) (hn_t_37 8 (by decide))
      have e6 : (t_41 8 0).toInt = ((t_37 8 0)).toInt := (congrArg (fun q => Int32.toInt (q 0)) ht_t_41).trans rfl
      refine sf_some ⟨?_, FRM_up (FRM_up (FRM_refl _ _) (by decide) hn_t_37) (by decide) hn_t_41⟩
      ((try dsimp only) <;> omega)
    · skip
      refine sf_up (fun t_40 ht_t_40 hn_t_40 => ?_)
      have e7 : (t_37 16 0).toInt = (y0).toInt := (congrArg (fun q => Int32.toInt (q 0)) ht_t_37).trans rfl
      have e8 : (t_40 16 0).toInt = (t_37 16 0).toInt := congrArg (fun q => Int32.toInt (q 0)) (hn_t_40 16 (by decide))
      have e9 : (t_40 8 0).toInt = (x2).toInt := (congrArg (fun q => Int32.toInt (q 0)) ht_t_40).trans rfl
      refine sf_some ⟨?_, FRM_up (FRM_up (FRM_refl _ _) (by decide) hn_t_37) (by decide) hn_t_40⟩
      ((try dsimp only) <;> omega)
  · skip
    refine sf_up (fun t_42 ht_t_42 hn_t_42 => ?_)
    have e10 : (t_37 16 0).toInt = (y0).toInt := (congrArg (fun q => Int32.toInt (q 0)) ht_t_37).trans rfl
    have e11 : (t_42 16 0).toInt = (t_37 16 0).toInt := congrArg (fun q => Int32.toInt (q 0)) (hn_t_42 16 (by decide))
    have e12 : (t_42 8 0).toInt = _ := (congrArg (fun q => Int32.toInt (q 0)) ht_t_42).trans (iadd rfl (ilit (1 : Int32) (1) rfl))
    refine sf_some ⟨?_, FRM_up (FRM_up (FRM_refl _ _) (by decide) hn_t_37) (by decide) hn_t_42⟩
    ((try dsimp only) <;> omega)
set_option maxHeartbeats 4000000 in
set_option maxRecDepth 100000 in
theorem sp_Mo_next_208 (F : Nat) (hF : Big F) (t : StI) (tL : StL) (x2 : Int32) (x3 : Int32) (x4 : Int32) (y0 : Int32) (h : (0 ≤ (t 6 0).toInt ∧ (t 6 0).toInt ≤ 600) ∧ 0 ≤ x2.toInt ∧ x2.toInt ≤ 10000 ∧ 0 ≤ (t 8 0).toInt ∧ (t 8 0).toInt ≤ 10000) : Sf (Mo_next_208 F t tL x2 x3 x4 y0) (fun r => ((r.1 14 0).toInt = y0.toInt ∧ (-1 ≤ (r.1 16 0).toInt ∧ (r.1 16 0).toInt ≤ 12) ∧ ((x3.toInt = 0 ∧ x4.toInt = -1 ∧ (r.1 8 0).toInt = (t 8 0).toInt) ∨ (x3.toInt = 0 ∧ x4.toInt ≠ -1 ∧ (r.1 8 0).toInt = x2.toInt) ∨ (x3.toInt ≠ 0 ∧ (r.1 8 0).toInt = x2.toInt + 1))) ∧ FRM [8, 14, 16] t r.1) := by
  rw [Mo_next_208]
  have b_x2 := ibd x2
  have b_x3 := ibd x3
  have b_x4 := ibd x4
  have b_y0 := ibd y0
  refine sf_up (fun t_43 ht_t_43 hn_t_43 => ?_)
  refine sf_eq rfl (ilit (0 : Int32) (0) rfl) (fun c1 => ?_) (fun c1 => ?_)
  · skip
    have g2 := (ilit (0 : Int32) (0) rfl)
    refine sf_imp (sp_Mo_next_229 F hF t_43 tL x2 x3 x4 (0 : Int32) (by first | (clear c1 b_y0 b_x4 b_x3; omega) | omega)) (fun r hr => ?_)
    have e3 : (t_43 14 0).toInt = (y0).toInt := (congrArg (fun q => Int32.toInt (q 0)) ht_t_43).trans rfl
    have e4 : (r.1 14 0).toInt = (t_43 14 0).toInt := congrArg (fun q => Int32.toInt (q 0)) (hr.2 14 (by decide))
    have e5 : (t_43 8 0).toInt = (t 8 0).toInt := congrArg (fun q => Int32.toInt (q 0)) (hn_t_43 8 (by decide))
    (try dsimp only at hr)
    refine ⟨?_, FRM_trans (FRM_up (FRM_refl _ _) (by decide) hn_t_43) (FRM_sub (by decide) hr.2)⟩
    ((try dsimp only) <;> omega)
  · skip
    have e6 : (t_43 8 0).toInt = (t 8 0).toInt := congrArg (fun q => Int32.toInt (q 0)) (hn_t_43 8 (by decide))
    have e7 : (t_43 6 0).toInt = (t 6 0).toInt := congrArg (fun q => Int32.toInt (q 0)) (hn_t_43 6 (by decide))
    refine sf_bind (sp_Mo_fieldOf F hF t_43 tL (t_43 8 0) x2 (by first | (clear c1 b_y0 b_x4 b_x3; omega) | omega)) (fun r45 h_r45 => ?_)
    refine sf_imp (sp_Mo_next_229 F hF t_43 tL x2 x3 x4 r45 (by first | (clear h_r45 e7 e6 c1 b_y0 b_x4 b_x3; omega) | omega)) (fun r hr => ?_)
    have e8 : (t_43 14 0).toInt = (y0).toInt := (congrArg (fun q => Int32.toInt (q 0)) ht_t_43).trans rfl
    have e9 : (r.1 14 0).toInt = (t_43 14 0).toInt := congrArg (fun q => Int32.toInt (q 0)) (hr.2 14 (by decide))
    (try dsimp only at hr)
    refine ⟨?_, FRM_trans (FRM_up (FRM_refl _ _) (by decide) hn_t_43) (FRM_sub (by decide) hr.2)⟩
    ((try dsimp only) <;> omega)
set_option maxHeartbeats 4000000 in
set_option maxRecDepth 100000 in
theorem sp_Mo_next_192 (F : Nat) (hF : Big F) (t : StI) (tL : StL) (x2 : Int32) (x3 : Int32) (y0 : Int32) (h : (0 ≤ (t 6 0).toInt ∧ (t 6 0).toInt ≤ 600) ∧ 0 ≤ x2.toInt ∧ x2.toInt ≤ 10000 ∧ 0 ≤ (t 8 0).toInt ∧ (t 8 0).toInt ≤ 10000) : Sf (Mo_next_192 F t tL x2 x3 y0) (fun r => (((y0.toInt = -1 ∧ (r.1 14 0).toInt = 7) ∨ (y0.toInt ≠ -1 ∧ (r.1 14 0).toInt = y0.toInt)) ∧ (-1 ≤ (r.1 16 0).toInt ∧ (r.1 16 0).toInt ≤ 12) ∧ ((x3.toInt = 0 ∧ y0.toInt = -1 ∧ (r.1 8 0).toInt = (t 8 0).toInt) ∨ (x3.toInt = 0 ∧ y0.toInt ≠ -1 ∧ (r.1 8 0).toInt = x2.toInt) ∨ (x3.toInt ≠ 0 ∧ (r.1 8 0).toInt = x2.toInt + 1))) ∧ FRM [8, 14, 16] t r.1) := by
  rw [Mo_next_192]
  have b_x2 := ibd x2
  have b_x3 := ibd x3
  have b_y0 := ibd y0
  refine sf_eq rfl (ilit (-1 : Int32) (-1) rfl) (fun c1 => ?_) (fun c1 => ?_)
  · skip
    have g2 := (ilit (7 : Int32) (7) rfl)
    refine sf_imp (sp_Mo_next_208 F hF t tL x2 x3 y0 (7 : Int32) (by first | (clear c1 b_y0 b_x3; omega) | omega)) (fun r hr => ?_)
    (try dsimp only at hr)
    refine ⟨?_, FRM_trans (FRM_refl _ _) (FRM_sub (by decide) hr.2)⟩
    ((try dsimp only) <;> omega)
  · skip
    refine sf_imp (sp_Mo_next_208 F hF t tL x2 x3 y0 y0 (by first | (clear c1 b_y0 b_x3; omega) | omega)) (fun r hr => ?_)
    (try dsimp only at hr)
    refine ⟨?_, FRM_trans (FRM_refl _ _) (FRM_sub (by decide) hr.2)⟩
    ((try dsimp only) <;> omega)
set_option maxHeartbeats 4000000 in
set_option maxRecDepth 100000 in
theorem sp_Mo_next_174 (F : Nat) (hF : Big F) (t : StI) (tL : StL) (x2 : Int32) (y0 : Int32) (h : (0 ≤ (t 6 0).toInt ∧ (t 6 0).toInt ≤ 600) ∧ 0 ≤ x2.toInt ∧ x2.toInt ≤ 10000 ∧ 0 ≤ (t 8 0).toInt ∧ (t 8 0).toInt ≤ 10000) : Sf (Mo_next_174 F t tL x2 y0) (fun r => ((1 ≤ (r.1 14 0).toInt ∧ (r.1 14 0).toInt ≤ 7) ∧ (-1 ≤ (r.1 16 0).toInt ∧ (r.1 16 0).toInt ≤ 12) ∧ (((r.1 14 0).toInt = 7 ∧ (r.1 8 0).toInt = (t 8 0).toInt) ∨ ((r.1 14 0).toInt ≤ 4 ∧ (r.1 8 0).toInt = x2.toInt ∧ (t 8 0).toInt < x2.toInt ∧ ((r.1 14 0).toInt ≠ 4 ∨ x2.toInt - (t 8 0).toInt = 3)) ∨ ((r.1 14 0).toInt = 7 ∧ (r.1 8 0).toInt = x2.toInt + 1))) ∧ FRM [8, 14, 16] t r.1) := by
  rw [Mo_next_174]
  have b_x2 := ibd x2
  have b_y0 := ibd y0
  refine sf_eq rfl (ilit (0 : Int32) (0) rfl) (fun c1 => ?_) (fun c1 => ?_)
  · skip
    refine sf_bind (sp_Mo_operator F hF t tL (t 8 0) x2 (by first | (clear c1 b_y0; omega) | omega)) (fun r48 h_r48 => ?_)
    refine sf_imp (sp_Mo_next_192 F hF t tL x2 y0 r48 (by first | (clear c1 b_y0; omega) | omega)) (fun r hr => ?_)
    (try dsimp only at hr)
    refine ⟨?_, FRM_trans (FRM_refl _ _) (FRM_sub (by decide) hr.2)⟩
    ((try dsimp only) <;> omega)
  · skip
    have g2 := (ilit (-1 : Int32) (-1) rfl)
    refine sf_imp (sp_Mo_next_192 F hF t tL x2 y0 (-1 : Int32) (by first | (clear c1 b_y0; omega) | omega)) (fun r hr => ?_)
    (try dsimp only at hr)
    refine ⟨?_, FRM_trans (FRM_refl _ _) (FRM_sub (by decide) hr.2)⟩
    ((try dsimp only) <;> omega)
set_option maxHeartbeats 4000000 in
set_option maxRecDepth 100000 in
theorem sp_Mo_next_83 (F : Nat) (hF : Big F) (t : StI) (tL : StL) (y0 : Int32) (h : 0 ≤ (t 8 0).toInt ∧ (t 8 0).toInt ≤ 10000) : Sf (Mo_next_83 F t tL y0) (fun r => ((r.1 14 0).toInt = y0.toInt ∧ (r.1 8 0).toInt = (t 8 0).toInt + 1) ∧ FRM [8, 14] t r.1) := by
  rw [Mo_next_83]
  have b_y0 := ibd y0
  refine sf_up (fun t_49 ht_t_49 hn_t_49 => ?_)
  refine sf_up (fun t_50 ht_t_50 hn_t_50 => ?_)
  have e1 : (t_49 14 0).toInt = (y0).toInt := (congrArg (fun q => Int32.toInt (q 0)) ht_t_49).trans rfl
  have e2 : (t_50 14 0).toInt = (t_49 14 0).toInt := congrArg (fun q => Int32.toInt (q 0)) (hn_t_50 14 (by decide))
  have e3 : (t_49 8 0).toInt = (t 8 0).toInt := congrArg (fun q => Int32.toInt (q 0)) (hn_t_49 8 (by decide))
  have e4 : (t_50 8 0).toInt = _ := (congrArg (fun q => Int32.toInt (q 0)) ht_t_50).trans (iadd rfl (ilit (1 : Int32) (1) rfl))
  refine sf_some ⟨?_, FRM_up (FRM_up (FRM_refl _ _) (by decide) hn_t_49) (by decide) hn_t_50⟩
  ((try dsimp only) <;> omega)
set_option maxHeartbeats 4000000 in
set_option maxRecDepth 100000 in
theorem sp_Mo_next_0 (F : Nat) (hF : Big F)   : ∀ (n : Nat) (t : StI) (tL : StL) (h : ((0 ≤ (t 6 0).toInt ∧ (t 6 0).toInt ≤ 600) ∧ 0 ≤ (t 8 0).toInt ∧ (t 8 0).toInt ≤ 10000 ∧ (-1 ≤ (t 16 0).toInt ∧ (t 16 0).toInt ≤ 12) ∧ (0 ≤ (t 9 0).toInt ∧ (t 9 0).toInt ≤ 5) ∧ 0 ≤ (t 14 0).toInt ∧ (t 14 0).toInt ≤ 7) ∧ 10001 - (t 8 0).toInt < (n : Int) ∧ 1 ≤ n), Sf (Mo_next_0 F  n t tL) (fun r => ((t 8 0).toInt ≤ (r.1 15 0).toInt ∧ ((r.1 15 0).toInt ≤ 600 ∨ (r.1 15 0).toInt = (t 8 0).toInt) ∧ (r.1 15 0).toInt ≤ (r.1 8 0).toInt ∧ ((r.1 8 0).toInt ≤ 601 ∨ (r.1 8 0).toInt = (t 8 0).toInt) ∧ 0 ≤ (r.1 14 0).toInt ∧ (r.1 14 0).toInt ≤ 7 ∧ (-1 ≤ (r.1 16 0).toInt ∧ (r.1 16 0).toInt ≤ 12) ∧ (0 ≤ (r.1 9 0).toInt ∧ (r.1 9 0).toInt ≤ 5) ∧ (1 ≤ (r.1 9 0).toInt ∨ (r.1 14 0).toInt = 0 ∨ ((r.1 15 0).toInt < (t 6 0).toInt ∧ ((r.1 14 0).toInt = 7 ∨ (r.1 15 0).toInt < (r.1 8 0).toInt))) ∧ ((r.1 14 0).toInt ≠ 4 ∨ 1 ≤ (r.1 9 0).toInt ∨ (r.1 15 0).toInt + 3 ≤ (r.1 8 0).toInt)) ∧ FRM [8, 9, 10, 14, 15, 16] t r.1) := by
  intro n; induction n with
  | zero => intro t tL h; omega
  | succ n ih =>
    intro t tL h; rw [Mo_next_0]
    refine sf_bind (sp_Mo_see F hF t tL (t 8 0) (by omega)) (fun r52 h_r52 => ?_)
    refine sf_bind (sp_Mo_isSpace F hF t tL r52 (trivial)) (fun r53 h_r53 => ?_)
    refine sf_eq rfl (ilit (0 : Int32) (0) rfl) (fun c1 => ?_) (fun c1 => ?_)
    · skip
      refine sf_up (fun t_55 ht_t_55 hn_t_55 => ?_)
      have e2 : (t_55 8 0).toInt = (t 8 0).toInt := congrArg (fun q => Int32.toInt (q 0)) (hn_t_55 8 (by decide))
      have e3 : (t_55 6 0).toInt = (t 6 0).toInt := congrArg (fun q => Int32.toInt (q 0)) (hn_t_55 6 (by decide))
      refine sf_bind (sp_Mo_see F hF t_55 tL (t_55 8 0) (by omega)) (fun r56 h_r56 => ?_)
      refine sf_eq rfl (ilit (-1 : Int32) (-1) rfl) (fun c4 => ?_) (fun c4 => ?_)
      · skip
        refine sf_up (fun t_71 ht_t_71 hn_t_71 => ?_)
        have e5 : (t_55 15 0).toInt = ((t 8 0)).toInt := (congrArg (fun q => Int32.toInt (q 0)) ht_t_55).trans rfl
        have e6 : (t_71 15 0).toInt = (t_55 15 0).toInt := congrArg (fun q => Int32.toInt (q 0)) (hn_t_71 15 (by decide))
        have e7 : (t_71 8 0).toInt = (t_55 8 0).toInt := congrArg (fun q => Int32.toInt (q 0)) (hn_t_71 8 (by decide))
        have e8 : (t_71 14 0).toInt = _ := (congrArg (fun q => Int32.toInt (q 0)) ht_t_71).trans (ilit (0 : Int32) (0) rfl)
        have e9 : (t_55 16 0).toInt = (t 16 0).toInt := congrArg (fun q => Int32.toInt (q 0)) (hn_t_55 16 (by decide))
        have e10 : (t_71 16 0).toInt = (t_55 16 0).toInt := congrArg (fun q => Int32.toInt (q 0)) (hn_t_71 16 (by decide))
        have e11 : (t_55 9 0).toInt = (t 9 0).toInt := congrArg (fun q => Int32.toInt (q 0)) (hn_t_55 9 (by decide))
        have e12 : (t_71 9 0).toInt = (t_55 9 0).toInt := congrArg (fun q => Int32.toInt (q 0)) (hn_t_71 9 (by decide))
        refine sf_some ⟨?_, FRM_up (FRM_up (FRM_refl _ _) (by decide) hn_t_55) (by decide) hn_t_71⟩
        ((try dsimp only) <;> omega)
      · skip
        refine sf_eq rfl (ilit (40 : Int32) (40) rfl) (fun c13 => ?_) (fun c13 => ?_)
        · skip
          rw [Mo_next_70]
          refine sf_eq rfl (ilit (40 : Int32) (40) rfl) (fun c14 => ?_) (fun c14 => ?_)
          · skip
            have g15 := (ilit (5 : Int32) (5) rfl)
            refine sf_imp (sp_Mo_next_83 F hF t_55 tL (5 : Int32) (by omega)) (fun r hr => ?_)
            have e16 : (t_55 15 0).toInt = ((t 8 0)).toInt := (congrArg (fun q => Int32.toInt (q 0)) ht_t_55).trans rfl
            have e17 : (r.1 15 0).toInt = (t_55 15 0).toInt := congrArg (fun q => Int32.toInt (q 0)) (hr.2 15 (by decide))
            have e18 : (t_55 16 0).toInt = (t 16 0).toInt := congrArg (fun q => Int32.toInt (q 0)) (hn_t_55 16 (by decide))
            have e19 : (r.1 16 0).toInt = (t_55 16 0).toInt := congrArg (fun q => Int32.toInt (q 0)) (hr.2 16 (by decide))
            have e20 : (t_55 9 0).toInt = (t 9 0).toInt := congrArg (fun q => Int32.toInt (q 0)) (hn_t_55 9 (by decide))
            have e21 : (r.1 9 0).toInt = (t_55 9 0).toInt := congrArg (fun q => Int32.toInt (q 0)) (hr.2 9 (by decide))
            (try dsimp only at hr)
            refine ⟨?_, FRM_trans (FRM_up (FRM_refl _ _) (by decide) hn_t_55) (FRM_sub (by decide) hr.2)⟩
            ((try dsimp only) <;> omega)
          · skip
            have g22 := (ilit (6 : Int32) (6) rfl)
            refine sf_imp (sp_Mo_next_83 F hF t_55 tL (6 : Int32) (by omega)) (fun r hr => ?_)
            have e23 : (t_55 15 0).toInt = ((t 8 0)).toInt := (congrArg (fun q => Int32.toInt (q 0)) ht_t_55).trans rfl
            have e24 : (r.1 15 0).toInt = (t_55 15 0).toInt := congrArg (fun q => Int32.toInt (q 0)) (hr.2 15 (by decide))
            have e25 : (t_55 16 0).toInt = (t 16 0).toInt := congrArg (fun q => Int32.toInt (q 0)) (hn_t_55 16 (by decide))
            have e26 : (r.1 16 0).toInt = (t_55 16 0).toInt := congrArg (fun q => Int32.toInt (q 0)) (hr.2 16 (by decide))
            have e27 : (t_55 9 0).toInt = (t 9 0).toInt := congrArg (fun q => Int32.toInt (q 0)) (hn_t_55 9 (by decide))
            have e28 : (r.1 9 0).toInt = (t_55 9 0).toInt := congrArg (fun q => Int32.toInt (q 0)) (hr.2 9 (by decide))
            (try dsimp only at hr)
            refine ⟨?_, FRM_trans (FRM_up (FRM_refl _ _) (by decide) hn_t_55) (FRM_sub (by decide) hr.2)⟩
            ((try dsimp only) <;> omega)
        · skip
          refine sf_eq rfl (ilit (41 : Int32) (41) rfl) (fun c29 => ?_) (fun c29 => ?_)
          · skip
            rw [Mo_next_70]
            refine sf_eq rfl (ilit (40 : Int32) (40) rfl) (fun c30 => ?_) (fun c30 => ?_)
            · skip
              have g31 := (ilit (5 : Int32) (5) rfl)
              refine sf_imp (sp_Mo_next_83 F hF t_55 tL (5 : Int32) (by omega)) (fun r hr => ?_)
              have e32 : (t_55 15 0).toInt = ((t 8 0)).toInt := (congrArg (fun q => Int32.toInt (q 0)) ht_t_55).trans rfl
              have e33 : (r.1 15 0).toInt = (t_55 15 0).toInt := congrArg (fun q => Int32.toInt (q 0)) (hr.2 15 (by decide))
              have e34 : (t_55 16 0).toInt = (t 16 0).toInt := congrArg (fun q => Int32.toInt (q 0)) (hn_t_55 16 (by decide))
              have e35 : (r.1 16 0).toInt = (t_55 16 0).toInt := congrArg (fun q => Int32.toInt (q 0)) (hr.2 16 (by decide))
              have e36 : (t_55 9 0).toInt = (t 9 0).toInt := congrArg (fun q => Int32.toInt (q 0)) (hn_t_55 9 (by decide))
              have e37 : (r.1 9 0).toInt = (t_55 9 0).toInt := congrArg (fun q => Int32.toInt (q 0)) (hr.2 9 (by decide))
              (try dsimp only at hr)
              refine ⟨?_, FRM_trans (FRM_up (FRM_refl _ _) (by decide) hn_t_55) (FRM_sub (by decide) hr.2)⟩
              ((try dsimp only) <;> omega)
            · skip
              have g38 := (ilit (6 : Int32) (6) rfl)
              refine sf_imp (sp_Mo_next_83 F hF t_55 tL (6 : Int32) (by omega)) (fun r hr => ?_)
              have e39 : (t_55 15 0).toInt = ((t 8 0)).toInt := (congrArg (fun q => Int32.toInt (q 0)) ht_t_55).trans rfl
              have e40 : (r.1 15 0).toInt = (t_55 15 0).toInt := congrArg (fun q => Int32.toInt (q 0)) (hr.2 15 (by decide))
              have e41 : (t_55 16 0).toInt = (t 16 0).toInt := congrArg (fun q => Int32.toInt (q 0)) (hn_t_55 16 (by decide))
              have e42 : (r.1 16 0).toInt = (t_55 16 0).toInt := congrArg (fun q => Int32.toInt (q 0)) (hr.2 16 (by decide))
              have e43 : (t_55 9 0).toInt = (t 9 0).toInt := congrArg (fun q => Int32.toInt (q 0)) (hn_t_55 9 (by decide))
              have e44 : (r.1 9 0).toInt = (t_55 9 0).toInt := congrArg (fun q => Int32.toInt (q 0)) (hr.2 9 (by decide))
              (try dsimp only at hr)
              refine ⟨?_, FRM_trans (FRM_up (FRM_refl _ _) (by decide) hn_t_55) (FRM_sub (by decide) hr.2)⟩
              ((try dsimp only) <;> omega)
          · skip
            refine sf_eq rfl (ilit (34 : Int32) (34) rfl) (fun c45 => ?_) (fun c45 => ?_)
            · skip
              refine sf_up (fun t_69 ht_t_69 hn_t_69 => ?_)
              refine sf_up (fun t_70 ht_t_70 hn_t_70 => ?_)
              have e46 : (t_55 15 0).toInt = ((t 8 0)).toInt := (congrArg (fun q => Int32.toInt (q 0)) ht_t_55).trans rfl
              have e47 : (t_69 15 0).toInt = (t_55 15 0).toInt := congrArg (fun q => Int32.toInt (q 0)) (hn_t_69 15 (by decide))
              have e48 : (t_70 15 0).toInt = (t_69 15 0).toInt := congrArg (fun q => Int32.toInt (q 0)) (hn_t_70 15 (by decide))
              have e49 : (t_69 8 0).toInt = (t_55 8 0).toInt := congrArg (fun q => Int32.toInt (q 0)) (hn_t_69 8 (by decide))
              have e50 : (t_70 8 0).toInt = (t_69 8 0).toInt := congrArg (fun q => Int32.toInt (q 0)) (hn_t_70 8 (by decide))
              have e51 : (t_69 14 0).toInt = _ := (congrArg (fun q => Int32.toInt (q 0)) ht_t_69).trans (ilit (7 : Int32) (7) rfl)
              have e52 : (t_70 14 0).toInt = (t_69 14 0).toInt := congrArg (fun q => Int32.toInt (q 0)) (hn_t_70 14 (by decide))
              have e53 : (t_70 16 0).toInt = _ := (congrArg (fun q => Int32.toInt (q 0)) ht_t_70).trans (ilit (0 : Int32) (0) rfl)
              have e54 : (t_55 9 0).toInt = (t 9 0).toInt := congrArg (fun q => Int32.toInt (q 0)) (hn_t_55 9 (by decide))
              have e55 : (t_69 9 0).toInt = (t_55 9 0).toInt := congrArg (fun q => Int32.toInt (q 0)) (hn_t_69 9 (by decide))
              have e56 : (t_70 9 0).toInt = (t_69 9 0).toInt := congrArg (fun q => Int32.toInt (q 0)) (hn_t_70 9 (by decide))
              refine sf_some ⟨?_, FRM_up (FRM_up (FRM_up (FRM_refl _ _) (by decide) hn_t_55) (by decide) hn_t_69) (by decide) hn_t_70⟩
              ((try dsimp only) <;> omega)
            · skip
              refine sf_bind (sp_Mo_isPart F hF r56 (trivial)) (fun r61 h_r61 => ?_)
              refine sf_eq rfl (ilit (0 : Int32) (0) rfl) (fun c57 => ?_) (fun c57 => ?_)
              · skip
                have g58 := (ilit (2 : Int32) (2) rfl)
                have e59 : (t_55 9 0).toInt = (t 9 0).toInt := congrArg (fun q => Int32.toInt (q 0)) (hn_t_55 9 (by decide))
                refine sf_bind (sp_Mo_fail F hF t_55 tL (2 : Int32) (t_55 8 0) (by first | (clear c57 h_r61 c45 c29 c13 c4 h_r56 e3 e2 c1 h_r53 h_r52; omega) | omega)) (fun r68 h_r68 => ?_)
                (try dsimp only at h_r68)
                have e60 : (t_55 15 0).toInt = ((t 8 0)).toInt := (congrArg (fun q => Int32.toInt (q 0)) ht_t_55).trans rfl
                have e61 : (r68.1 15 0).toInt = (t_55 15 0).toInt := congrArg (fun q => Int32.toInt (q 0)) (h_r68.2 15 (by decide))
                have e62 : (r68.1 8 0).toInt = (t_55 8 0).toInt := congrArg (fun q => Int32.toInt (q 0)) (h_r68.2 8 (by decide))
                have e63 : (t_55 14 0).toInt = (t 14 0).toInt := congrArg (fun q => Int32.toInt (q 0)) (hn_t_55 14 (by decide))
                have e64 : (r68.1 14 0).toInt = (t_55 14 0).toInt := congrArg (fun q => Int32.toInt (q 0)) (h_r68.2 14 (by decide))
                have e65 : (t_55 16 0).toInt = (t 16 0).toInt := congrArg (fun q => Int32.toInt (q 0)) (hn_t_55 16 (by decide))
                have e66 : (r68.1 16 0).toInt = (t_55 16 0).toInt := congrArg (fun q => Int32.toInt (q 0)) (h_r68.2 16 (by decide))
                refine sf_some ⟨?_, FRM_trans (FRM_up (FRM_refl _ _) (by decide) hn_t_55) (FRM_sub (by decide) h_r68.2)⟩
                ((try dsimp only) <;> omega)
              · skip
                refine sf_bind (sp_Mo_runEnd F hF t_55 tL (t_55 8 0) (by omega)) (fun r63 h_r63 => ?_)
                refine sf_bind (sp_Mo_isLetters F hF t_55 tL (t_55 8 0) r63 (by omega)) (fun r64 h_r64 => ?_)
                refine sf_eq rfl (ilit (0 : Int32) (0) rfl) (fun c67 => ?_) (fun c67 => ?_)
                · skip
                  rw [Mo_next_173]
                  have g68 := (ilit (0 : Int32) (0) rfl)
                  refine sf_imp (sp_Mo_next_174 F hF t_55 tL r63 (0 : Int32) (by first | (clear c67 h_r64; omega) | omega)) (fun r hr => ?_)
                  have e69 : (t_55 15 0).toInt = ((t 8 0)).toInt := (congrArg (fun q => Int32.toInt (q 0)) ht_t_55).trans rfl
                  have e70 : (r.1 15 0).toInt = (t_55 15 0).toInt := congrArg (fun q => Int32.toInt (q 0)) (hr.2 15 (by decide))
                  have e71 : (t_55 9 0).toInt = (t 9 0).toInt := congrArg (fun q => Int32.toInt (q 0)) (hn_t_55 9 (by decide))
                  have e72 : (r.1 9 0).toInt = (t_55 9 0).toInt := congrArg (fun q => Int32.toInt (q 0)) (hr.2 9 (by decide))
                  (try dsimp only at hr)
                  refine ⟨?_, FRM_trans (FRM_up (FRM_refl _ _) (by decide) hn_t_55) (FRM_sub (by decide) hr.2)⟩
                  ((try dsimp only) <;> omega)
                · skip
                  refine sf_bind (sp_Mo_see F hF t_55 tL r63 (by first | (clear c67 h_r64; omega) | omega)) (fun r66 h_r66 => ?_)
                  refine sf_eq rfl (ilit (58 : Int32) (58) rfl) (fun c73 => ?_) (fun c73 => ?_)
                  · skip
                    have g74 := (ilit (1 : Int32) (1) rfl)
                    refine sf_imp (sp_Mo_next_174 F hF t_55 tL r63 (1 : Int32) (by first | (clear c67 h_r64; omega) | omega)) (fun r hr => ?_)
                    have e75 : (t_55 15 0).toInt = ((t 8 0)).toInt := (congrArg (fun q => Int32.toInt (q 0)) ht_t_55).trans rfl
                    have e76 : (r.1 15 0).toInt = (t_55 15 0).toInt := congrArg (fun q => Int32.toInt (q 0)) (hr.2 15 (by decide))
                    have e77 : (t_55 9 0).toInt = (t 9 0).toInt := congrArg (fun q => Int32.toInt (q 0)) (hn_t_55 9 (by decide))
                    have e78 : (r.1 9 0).toInt = (t_55 9 0).toInt := congrArg (fun q => Int32.toInt (q 0)) (hr.2 9 (by decide))
                    (try dsimp only at hr)
                    refine ⟨?_, FRM_trans (FRM_up (FRM_refl _ _) (by decide) hn_t_55) (FRM_sub (by decide) hr.2)⟩
                    ((try dsimp only) <;> omega)
                  · skip
                    rw [Mo_next_173]
                    have g79 := (ilit (0 : Int32) (0) rfl)
                    refine sf_imp (sp_Mo_next_174 F hF t_55 tL r63 (0 : Int32) (by first | (clear c67 h_r64; omega) | omega)) (fun r hr => ?_)
                    have e80 : (t_55 15 0).toInt = ((t 8 0)).toInt := (congrArg (fun q => Int32.toInt (q 0)) ht_t_55).trans rfl
                    have e81 : (r.1 15 0).toInt = (t_55 15 0).toInt := congrArg (fun q => Int32.toInt (q 0)) (hr.2 15 (by decide))
                    have e82 : (t_55 9 0).toInt = (t 9 0).toInt := congrArg (fun q => Int32.toInt (q 0)) (hn_t_55 9 (by decide))
                    have e83 : (r.1 9 0).toInt = (t_55 9 0).toInt := congrArg (fun q => Int32.toInt (q 0)) (hr.2 9 (by decide))
                    (try dsimp only at hr)
                    refine ⟨?_, FRM_trans (FRM_up (FRM_refl _ _) (by decide) hn_t_55) (FRM_sub (by decide) hr.2)⟩
                    ((try dsimp only) <;> omega)
    · skip
      refine sf_up (fun t_72 ht_t_72 hn_t_72 => ?_)
      have e84 : (t_72 6 0).toInt = (t 6 0).toInt := congrArg (fun q => Int32.toInt (q 0)) (hn_t_72 6 (by decide))
      have e85 : (t_72 8 0).toInt = _ := (congrArg (fun q => Int32.toInt (q 0)) ht_t_72).trans (iadd rfl (ilit (1 : Int32) (1) rfl))
      have e86 : (t_72 16 0).toInt = (t 16 0).toInt := congrArg (fun q => Int32.toInt (q 0)) (hn_t_72 16 (by decide))
      have e87 : (t_72 9 0).toInt = (t 9 0).toInt := congrArg (fun q => Int32.toInt (q 0)) (hn_t_72 9 (by decide))
      have e88 : (t_72 14 0).toInt = (t 14 0).toInt := congrArg (fun q => Int32.toInt (q 0)) (hn_t_72 14 (by decide))
      refine sf_imp (ih t_72 tL (by omega)) (fun r hr => ?_)
      (try dsimp only at hr)
      refine ⟨?_, FRM_trans (FRM_up (FRM_refl _ _) (by decide) hn_t_72) (FRM_sub (by decide) hr.2)⟩
      ((try dsimp only) <;> omega)
set_option maxHeartbeats 4000000 in
set_option maxRecDepth 100000 in
theorem sp_Mo_next (F : Nat) (hF : Big F) (t : StI) (tL : StL) (h : (0 ≤ (t 6 0).toInt ∧ (t 6 0).toInt ≤ 600) ∧ 0 ≤ (t 8 0).toInt ∧ (t 8 0).toInt ≤ 10000 ∧ (-1 ≤ (t 16 0).toInt ∧ (t 16 0).toInt ≤ 12) ∧ (0 ≤ (t 9 0).toInt ∧ (t 9 0).toInt ≤ 5) ∧ 0 ≤ (t 14 0).toInt ∧ (t 14 0).toInt ≤ 7) : Sf (Mo_next F t tL) (fun r => ((t 8 0).toInt ≤ (r.1 15 0).toInt ∧ ((r.1 15 0).toInt ≤ 600 ∨ (r.1 15 0).toInt = (t 8 0).toInt) ∧ (r.1 15 0).toInt ≤ (r.1 8 0).toInt ∧ ((r.1 8 0).toInt ≤ 601 ∨ (r.1 8 0).toInt = (t 8 0).toInt) ∧ 0 ≤ (r.1 14 0).toInt ∧ (r.1 14 0).toInt ≤ 7 ∧ (-1 ≤ (r.1 16 0).toInt ∧ (r.1 16 0).toInt ≤ 12) ∧ (0 ≤ (r.1 9 0).toInt ∧ (r.1 9 0).toInt ≤ 5) ∧ (1 ≤ (r.1 9 0).toInt ∨ (r.1 14 0).toInt = 0 ∨ ((r.1 15 0).toInt < (t 6 0).toInt ∧ ((r.1 14 0).toInt = 7 ∨ (r.1 15 0).toInt < (r.1 8 0).toInt))) ∧ ((r.1 14 0).toInt ≠ 4 ∨ 1 ≤ (r.1 9 0).toInt ∨ (r.1 15 0).toInt + 3 ≤ (r.1 8 0).toInt)) ∧ FRM [8, 9, 10, 14, 15, 16] t r.1) := by
  rw [Mo_next]
  refine sf_imp (sp_Mo_next_0 F hF   F t tL (⟨by omega, fuel_ok hF (by omega)⟩)) (fun r hr => ?_)
  (try dsimp only at hr)
  refine ⟨?_, FRM_trans (FRM_refl _ _) (FRM_sub (by decide) hr.2)⟩
  ((try dsimp only) <;> omega)
set_option maxHeartbeats 4000000 in
set_option maxRecDepth 100000 in
theorem sp_Mo_isTag_17 (F : Nat) (hF : Big F)   : ∀ (n : Nat) (t : StI) (tL : StL) (x2 : Int32) (x3 : Int32) (x4 : Int32) (h : ((0 ≤ (t 6 0).toInt ∧ (t 6 0).toInt ≤ 600) ∧ 0 ≤ x4.toInt ∧ (x3.toInt = 0 ∨ x3.toInt = 1) ∧ x2.toInt ≤ 10000) ∧ 10001 - x4.toInt < (n : Int) ∧ 1 ≤ n), Sf (Mo_isTag_17 F  n t tL x2 x3 x4) (fun r => (r.toInt = 0 ∨ r.toInt = 1)) := by
  intro n; induction n with
  | zero => intro t tL x2 x3 x4 h; omega
  | succ n ih =>
    intro t tL x2 x3 x4 h; rw [Mo_isTag_17]
    have b_x2 := ibd x2
    have b_x3 := ibd x3
    have b_x4 := ibd x4
    refine sf_le rfl rfl (fun c1 => ?_) (fun c1 => ?_)
    · skip
      refine sf_b01 (by first | (clear c1 b_x4 b_x2; omega) | omega) ?_
      refine sf_some ?_
      ((try dsimp only) <;> omega)
    · skip
      refine sf_eq rfl (ilit (0 : Int32) (0) rfl) (fun c2 => ?_) (fun c2 => ?_)
      · skip
        rw [Mo_isTag_66]
        rw [Mo_isTag_67]
        have g3 := (ilit (0 : Int32) (0) rfl)
        have g4 : ((x4 + (1 : Int32))).toInt = _ := (iadd rfl (ilit (1 : Int32) (1) rfl))
        refine sf_imp (ih t tL x2 (0 : Int32) (x4 + (1 : Int32)) (by first | (clear c2 b_x3; omega) | omega)) (fun r hr => ?_)
        (try dsimp only at hr)
        ((try dsimp only) <;> omega)
      · skip
        refine sf_bind (sp_Mo_see F hF t tL x4 (by first | (clear c2 b_x3; omega) | omega)) (fun r16 h_r16 => ?_)
        refine sf_bind (sp_Mo_isSmall F hF r16 (trivial)) (fun r17 h_r17 => ?_)
        refine sf_eq rfl (ilit (0 : Int32) (0) rfl) (fun c5 => ?_) (fun c5 => ?_)
        · skip
          refine sf_bind (sp_Mo_see F hF t tL x4 (by first | (clear c2 b_x3; omega) | omega)) (fun r19 h_r19 => ?_)
          refine sf_bind (sp_Mo_isDigit F hF r19 (trivial)) (fun r20 h_r20 => ?_)
          refine sf_eq rfl (ilit (0 : Int32) (0) rfl) (fun c6 => ?_) (fun c6 => ?_)
          · skip
            refine sf_bind (sp_Mo_see F hF t tL x4 (by first | (clear c2 b_x3; omega) | omega)) (fun r22 h_r22 => ?_)
            refine sf_eq rfl (ilit (45 : Int32) (45) rfl) (fun c7 => ?_) (fun c7 => ?_)
            · skip
              rw [Mo_isTag_62]
              rw [Mo_isTag_67]
              have g8 := (ilit (1 : Int32) (1) rfl)
              have g9 : ((x4 + (1 : Int32))).toInt = _ := (iadd rfl (ilit (1 : Int32) (1) rfl))
              refine sf_imp (ih t tL x2 (1 : Int32) (x4 + (1 : Int32)) (by first | (clear c2 b_x3; omega) | omega)) (fun r hr => ?_)
              (try dsimp only at hr)
              ((try dsimp only) <;> omega)
            · skip
              rw [Mo_isTag_66]
              rw [Mo_isTag_67]
              have g10 := (ilit (0 : Int32) (0) rfl)
              have g11 : ((x4 + (1 : Int32))).toInt = _ := (iadd rfl (ilit (1 : Int32) (1) rfl))
              refine sf_imp (ih t tL x2 (0 : Int32) (x4 + (1 : Int32)) (by first | (clear c2 b_x3; omega) | omega)) (fun r hr => ?_)
              (try dsimp only at hr)
              ((try dsimp only) <;> omega)
          · skip
            rw [Mo_isTag_62]
            rw [Mo_isTag_67]
            have g12 := (ilit (1 : Int32) (1) rfl)
            have g13 : ((x4 + (1 : Int32))).toInt = _ := (iadd rfl (ilit (1 : Int32) (1) rfl))
            refine sf_imp (ih t tL x2 (1 : Int32) (x4 + (1 : Int32)) (by first | (clear c2 b_x3; omega) | omega)) (fun r hr => ?_)
            (try dsimp only at hr)
            ((try dsimp only) <;> omega)
        · skip
          rw [Mo_isTag_62]
          rw [Mo_isTag_67]
          have g14 := (ilit (1 : Int32) (1) rfl)
          have g15 : ((x4 + (1 : Int32))).toInt = _ := (iadd rfl (ilit (1 : Int32) (1) rfl))
          refine sf_imp (ih t tL x2 (1 : Int32) (x4 + (1 : Int32)) (by first | (clear c2 b_x3; omega) | omega)) (fun r hr => ?_)
          (try dsimp only at hr)
          ((try dsimp only) <;> omega)
set_option maxHeartbeats 4000000 in
set_option maxRecDepth 100000 in
theorem sp_Mo_isTag (F : Nat) (hF : Big F) (t : StI) (tL : StL) (x1 : Int32) (x2 : Int32) (h : (0 ≤ (t 6 0).toInt ∧ (t 6 0).toInt ≤ 600) ∧ 0 ≤ x1.toInt ∧ x1.toInt ≤ 10000 ∧ 0 ≤ x2.toInt ∧ x2.toInt ≤ 10000) : Sf (Mo_isTag F t tL x1 x2) (fun r => (r.toInt = 0 ∨ r.toInt = 1)) := by
  rw [Mo_isTag]
  have b_x1 := ibd x1
  have b_x2 := ibd x2
  refine sf_le (ilit (17 : Int32) (17) rfl) (isub rfl rfl) (fun c1 => ?_) (fun c1 => ?_)
  · skip
    rw [Mo_isTag_13]
    have g2 := (ilit (0 : Int32) (0) rfl)
    refine sf_imp (sp_Mo_isTag_17 F hF   F t tL x2 (0 : Int32) x1 (⟨by omega, fuel_ok hF (by omega)⟩)) (fun r hr => ?_)
    (try dsimp only at hr)
    ((try dsimp only) <;> omega)
  · skip
    rw [Mo_isTag_13]
    have g3 := (ilit (1 : Int32) (1) rfl)
    refine sf_imp (sp_Mo_isTag_17 F hF   F t tL x2 (1 : Int32) x1 (⟨by omega, fuel_ok hF (by omega)⟩)) (fun r hr => ?_)
    (try dsimp only at hr)
    ((try dsimp only) <;> omega)
set_option maxHeartbeats 4000000 in
set_option maxRecDepth 100000 in
theorem sp_Mo_digits_2 (F : Nat) (hF : Big F)   : ∀ (n : Nat) (t : StI) (tL : StL) (x1 : Int32) (x2 : Int32) (x3 : Int32) (h : ((0 ≤ (t 6 0).toInt ∧ (t 6 0).toInt ≤ 600) ∧ 0 ≤ x1.toInt ∧ x1.toInt ≤ 10000 ∧ 0 ≤ x2.toInt ∧ x2.toInt ≤ 10000 ∧ 0 ≤ x3.toInt ∧ x3.toInt ≤ 10000) ∧ 10001 - x3.toInt < (n : Int) ∧ 1 ≤ n), Sf (Mo_digits_2 F  n t tL x1 x2 x3) (fun r => (x3.toInt ≤ r.toInt ∧ r.toInt ≤ 10000)) := by
  intro n; induction n with
  | zero => intro t tL x1 x2 x3 h; omega
  | succ n ih =>
    intro t tL x1 x2 x3 h; rw [Mo_digits_2]
    have b_x1 := ibd x1
    have b_x2 := ibd x2
    have b_x3 := ibd x3
    refine sf_le rfl (iadd rfl rfl) (fun c1 => ?_) (fun c1 => ?_)
    · skip
      refine sf_some ?_
      ((try dsimp only) <;> omega)
    · skip
      have g2 : ((x1 + x3)).toInt = _ := (iadd rfl rfl)
      refine sf_bind (sp_Mo_see F hF t tL (x1 + x3) (by omega)) (fun r6 h_r6 => ?_)
      refine sf_bind (sp_Mo_isDigit F hF r6 (trivial)) (fun r7 h_r7 => ?_)
      refine sf_eq rfl (ilit (0 : Int32) (0) rfl) (fun c3 => ?_) (fun c3 => ?_)
      · skip
        refine sf_some ?_
        ((try dsimp only) <;> omega)
      · skip
        have g4 : ((x3 + (1 : Int32))).toInt = _ := (iadd rfl (ilit (1 : Int32) (1) rfl))
        refine sf_imp (ih t tL x1 x2 (x3 + (1 : Int32)) (by omega)) (fun r hr => ?_)
        (try dsimp only at hr)
        ((try dsimp only) <;> omega)
set_option maxHeartbeats 4000000 in
set_option maxRecDepth 100000 in
theorem sp_Mo_digits (F : Nat) (hF : Big F) (t : StI) (tL : StL) (x1 : Int32) (x2 : Int32) (h : (0 ≤ (t 6 0).toInt ∧ (t 6 0).toInt ≤ 600) ∧ 0 ≤ x1.toInt ∧ x1.toInt ≤ 10000 ∧ 0 ≤ x2.toInt ∧ x2.toInt ≤ 10000) : Sf (Mo_digits F t tL x1 x2) (fun r => (0 ≤ r.toInt ∧ r.toInt ≤ 10000)) := by
  rw [Mo_digits]
  have b_x1 := ibd x1
  have b_x2 := ibd x2
  have g1 := (ilit (0 : Int32) (0) rfl)
  refine sf_imp (sp_Mo_digits_2 F hF   F t tL x1 x2 (0 : Int32) (⟨by omega, fuel_ok hF (by first | (clear b_x2 b_x1; omega) | omega)⟩)) (fun r hr => ?_)
  (try dsimp only at hr)
  ((try dsimp only) <;> omega)
set_option maxHeartbeats 4000000 in
set_option maxRecDepth 100000 in
theorem sp_Mo_number_5 (F : Nat) (hF : Big F)   : ∀ (n : Nat) (t : StI) (tL : StL) (x1 : Int32) (x2 : Int32) (x3 : Int32) (x4 : Int32) (h : ((0 ≤ (t 6 0).toInt ∧ (t 6 0).toInt ≤ 600) ∧ 0 ≤ x1.toInt ∧ x1.toInt ≤ 20000 ∧ 0 ≤ x4.toInt ∧ x2.toInt ≤ 10000) ∧ 10001 - x4.toInt < (n : Int) ∧ 1 ≤ n), Sf (Mo_number_5 F  n t tL x1 x2 x3 x4) (fun r => True) := by
  intro n; induction n with
  | zero => intro t tL x1 x2 x3 x4 h; omega
  | succ n ih =>
    intro t tL x1 x2 x3 x4 h; rw [Mo_number_5]
    have b_x1 := ibd x1
    have b_x2 := ibd x2
    have b_x3 := ibd x3
    have b_x4 := ibd x4
    refine sf_le rfl rfl (fun c1 => ?_) (fun c1 => ?_)
    · skip
      exact sf_some trivial
    · skip
      have g2 : ((x1 + x4)).toInt = _ := (iadd rfl rfl)
      refine sf_bind (sp_Mo_see F hF t tL (x1 + x4) (by first | (clear b_x3; omega) | omega)) (fun r4 h_r4 => ?_)
      have g3 : (((((10 : Int32) * x3) + r4) - (48 : Int32))).toInt = _ := (isub (iadd (imul (ilit (10 : Int32) (10) rfl) rfl) rfl) (ilit (48 : Int32) (48) rfl))
      have g4 : ((x4 + (1 : Int32))).toInt = _ := (iadd rfl (ilit (1 : Int32) (1) rfl))
      exact ih t tL x1 x2 ((((10 : Int32) * x3) + r4) - (48 : Int32)) (x4 + (1 : Int32)) (by omega)
set_option maxHeartbeats 4000000 in
set_option maxRecDepth 100000 in
theorem sp_Mo_number (F : Nat) (hF : Big F) (t : StI) (tL : StL) (x1 : Int32) (x2 : Int32) (h : (0 ≤ (t 6 0).toInt ∧ (t 6 0).toInt ≤ 600) ∧ 0 ≤ x1.toInt ∧ x1.toInt ≤ 20000 ∧ x2.toInt ≤ 10000) : Sf (Mo_number F t tL x1 x2) (fun r => True) := by
  rw [Mo_number]
  have b_x1 := ibd x1
  have b_x2 := ibd x2
  have g1 := (ilit (0 : Int32) (0) rfl)
  refine sf_imp (sp_Mo_number_5 F hF   F t tL x1 x2 (0 : Int32) (0 : Int32) (⟨by omega, fuel_ok hF (by first | (clear b_x2 b_x1; omega) | omega)⟩)) (fun r hr => ?_)
  trivial
set_option maxHeartbeats 4000000 in
set_option maxRecDepth 100000 in
theorem sp_Mo_isLeap (F : Nat) (hF : Big F) (x0 : Int32) (h : True) : Sf (Mo_isLeap F x0) (fun r => (r.toInt = 0 ∨ r.toInt = 1)) := by
  rw [Mo_isLeap]
  have b_x0 := ibd x0
  refine sf_eq (isub rfl (imul rfl (ilit (4 : Int32) (4) rfl))) (ilit (0 : Int32) (0) rfl) (fun c1 => ?_) (fun c1 => ?_)
  · skip
    refine sf_eq (isub rfl (imul rfl (ilit (100 : Int32) (100) rfl))) (ilit (0 : Int32) (0) rfl) (fun c2 => ?_) (fun c2 => ?_)
    · skip
      refine sf_eq (isub rfl (imul rfl (ilit (400 : Int32) (400) rfl))) (ilit (0 : Int32) (0) rfl) (fun c3 => ?_) (fun c3 => ?_)
      · skip
        have g4 := (ilit (1 : Int32) (1) rfl)
        refine sf_some ?_
        ((try dsimp only) <;> omega)
      · skip
        have g5 := (ilit (0 : Int32) (0) rfl)
        refine sf_some ?_
        ((try dsimp only) <;> omega)
    · skip
      have g6 := (ilit (1 : Int32) (1) rfl)
      refine sf_some ?_
      ((try dsimp only) <;> omega)
  · skip
    have g7 := (ilit (0 : Int32) (0) rfl)
    refine sf_some ?_
    ((try dsimp only) <;> omega)
set_option maxHeartbeats 4000000 in
set_option maxRecDepth 100000 in
theorem sp_Mo_monthDays (F : Nat) (hF : Big F) (x0 : Int32) (x1 : Int32) (h : True) : Sf (Mo_monthDays F x0 x1) (fun r => True) := by
  rw [Mo_monthDays]
  have b_x0 := ibd x0
  have b_x1 := ibd x1
  refine sf_eq rfl (ilit (2 : Int32) (2) rfl) (fun c1 => ?_) (fun c1 => ?_)
  · skip
    refine sf_bind (sp_Mo_isLeap F hF x0 (trivial)) (fun r13 h_r13 => ?_)
    refine sf_eq rfl (ilit (0 : Int32) (0) rfl) (fun c2 => ?_) (fun c2 => ?_)
    · skip
      exact sf_some trivial
    · skip
      exact sf_some trivial
  · skip
    refine sf_eq rfl (ilit (4 : Int32) (4) rfl) (fun c3 => ?_) (fun c3 => ?_)
    · skip
      exact sf_some trivial
    · skip
      refine sf_eq rfl (ilit (6 : Int32) (6) rfl) (fun c4 => ?_) (fun c4 => ?_)
      · skip
        exact sf_some trivial
      · skip
        refine sf_eq rfl (ilit (9 : Int32) (9) rfl) (fun c5 => ?_) (fun c5 => ?_)
        · skip
          exact sf_some trivial
        · skip
          refine sf_eq rfl (ilit (11 : Int32) (11) rfl) (fun c6 => ?_) (fun c6 => ?_)
          · skip
            exact sf_some trivial
          · skip
            exact sf_some trivial
set_option maxHeartbeats 4000000 in
set_option maxRecDepth 100000 in
theorem sp_Mo_isDay_243 (F : Nat) (hF : Big F) (t : StI) (tL : StL) (x1 : Int32) (x2 : Int32) (x3 : Int32) (y0 : Int32) (h : (0 ≤ (t 6 0).toInt ∧ (t 6 0).toInt ≤ 600) ∧ 0 ≤ x1.toInt ∧ x1.toInt ≤ 10000 ∧ 0 ≤ x3.toInt ∧ x3.toInt ≤ 10000) : Sf (Mo_isDay_243 F t tL x1 x2 x3 y0) (fun r => ((r.1.toInt = 0 ∨ r.1.toInt = 1)) ∧ FRM [56] t r.2.1) := by
  rw [Mo_isDay_243]
  have b_x1 := ibd x1
  have b_x2 := ibd x2
  have b_x3 := ibd x3
  have b_y0 := ibd y0
  refine sf_lt rfl (ilit (1 : Int32) (1) rfl) (fun c1 => ?_) (fun c1 => ?_)
  · skip
    have g2 := (ilit (0 : Int32) (0) rfl)
    refine sf_some ⟨?_, FRM_refl _ _⟩
    ((try dsimp only) <;> omega)
  · skip
    refine sf_lt (ilit (3 : Int32) (3) rfl) rfl (fun c3 => ?_) (fun c3 => ?_)
    · skip
      have g4 := (ilit (0 : Int32) (0) rfl)
      refine sf_some ⟨?_, FRM_refl _ _⟩
      ((try dsimp only) <;> omega)
    · skip
      refine sf_eq (isub rfl rfl) (iadd rfl (ilit (1 : Int32) (1) rfl)) (fun c5 => ?_) (fun c5 => ?_)
      · skip
        refine sf_eq rfl (ilit (0 : Int32) (0) rfl) (fun c6 => ?_) (fun c6 => ?_)
        · skip
          have g7 := (ilit (0 : Int32) (0) rfl)
          refine sf_some ⟨?_, FRM_refl _ _⟩
          ((try dsimp only) <;> omega)
        · skip
          refine sf_bind (sp_Mo_number F hF t tL x1 x3 (by first | (clear c6 b_y0; omega) | omega)) (fun r39 h_r39 => ?_)
          refine sf_eq rfl (ilit (0 : Int32) (0) rfl) (fun c8 => ?_) (fun c8 => ?_)
          · skip
            have g9 := (ilit (0 : Int32) (0) rfl)
            refine sf_some ⟨?_, FRM_refl _ _⟩
            ((try dsimp only) <;> omega)
          · skip
            refine sf_bind (sp_Mo_number F hF t tL x1 x3 (by first | (clear c8 h_r39 c6 b_y0; omega) | omega)) (fun r41 h_r41 => ?_)
            refine sf_up (fun t_42 ht_t_42 hn_t_42 => ?_)
            have g10 := (ilit (1 : Int32) (1) rfl)
            refine sf_some ⟨?_, FRM_up (FRM_refl _ _) (by decide) hn_t_42⟩
            ((try dsimp only) <;> omega)
      · skip
        have g11 := (ilit (0 : Int32) (0) rfl)
        refine sf_some ⟨?_, FRM_refl _ _⟩
        ((try dsimp only) <;> omega)
set_option maxHeartbeats 4000000 in
set_option maxRecDepth 100000 in
theorem sp_Mo_isDay_185 (F : Nat) (hF : Big F) (t : StI) (tL : StL) (x1 : Int32) (x2 : Int32) (x3 : Int32) (h : (0 ≤ (t 6 0).toInt ∧ (t 6 0).toInt ≤ 600) ∧ 0 ≤ x1.toInt ∧ x1.toInt ≤ 10000 ∧ 0 ≤ x3.toInt ∧ x3.toInt ≤ 10000) : Sf (Mo_isDay_185 F t tL x1 x2 x3) (fun r => ((r.1.toInt = 0 ∨ r.1.toInt = 1)) ∧ FRM [56] t r.2.1) := by
  rw [Mo_isDay_185]
  have b_x1 := ibd x1
  have b_x2 := ibd x2
  have b_x3 := ibd x3
  have g1 : ((x1 + x3)).toInt = _ := (iadd rfl rfl)
  refine sf_bind (sp_Mo_see F hF t tL (x1 + x3) (by first | (clear b_x2; omega) | omega)) (fun r43 h_r43 => ?_)
  refine sf_eq rfl (ilit (100 : Int32) (100) rfl) (fun c2 => ?_) (fun c2 => ?_)
  · skip
    have g3 := (ilit (1 : Int32) (1) rfl)
    refine sf_imp (sp_Mo_isDay_243 F hF t tL x1 x2 x3 (1 : Int32) (by first | (clear b_x2; omega) | omega)) (fun r hr => ?_)
    (try dsimp only at hr)
    refine ⟨?_, FRM_trans (FRM_refl _ _) (FRM_sub (by decide) hr.2)⟩
    ((try dsimp only) <;> omega)
  · skip
    refine sf_eq rfl (ilit (119 : Int32) (119) rfl) (fun c4 => ?_) (fun c4 => ?_)
    · skip
      have g5 := (ilit (7 : Int32) (7) rfl)
      refine sf_imp (sp_Mo_isDay_243 F hF t tL x1 x2 x3 (7 : Int32) (by first | (clear b_x2; omega) | omega)) (fun r hr => ?_)
      (try dsimp only at hr)
      refine ⟨?_, FRM_trans (FRM_refl _ _) (FRM_sub (by decide) hr.2)⟩
      ((try dsimp only) <;> omega)
    · skip
      refine sf_eq rfl (ilit (109 : Int32) (109) rfl) (fun c6 => ?_) (fun c6 => ?_)
      · skip
        have g7 := (ilit (30 : Int32) (30) rfl)
        refine sf_imp (sp_Mo_isDay_243 F hF t tL x1 x2 x3 (30 : Int32) (by first | (clear b_x2; omega) | omega)) (fun r hr => ?_)
        (try dsimp only at hr)
        refine ⟨?_, FRM_trans (FRM_refl _ _) (FRM_sub (by decide) hr.2)⟩
        ((try dsimp only) <;> omega)
      · skip
        refine sf_eq rfl (ilit (121 : Int32) (121) rfl) (fun c8 => ?_) (fun c8 => ?_)
        · skip
          have g9 := (ilit (365 : Int32) (365) rfl)
          refine sf_imp (sp_Mo_isDay_243 F hF t tL x1 x2 x3 (365 : Int32) (by first | (clear b_x2; omega) | omega)) (fun r hr => ?_)
          (try dsimp only at hr)
          refine ⟨?_, FRM_trans (FRM_refl _ _) (FRM_sub (by decide) hr.2)⟩
          ((try dsimp only) <;> omega)
        · skip
          have g10 := (ilit (0 : Int32) (0) rfl)
          refine sf_imp (sp_Mo_isDay_243 F hF t tL x1 x2 x3 (0 : Int32) (by first | (clear b_x2; omega) | omega)) (fun r hr => ?_)
          (try dsimp only at hr)
          refine ⟨?_, FRM_trans (FRM_refl _ _) (FRM_sub (by decide) hr.2)⟩
          ((try dsimp only) <;> omega)
set_option maxHeartbeats 4000000 in
set_option maxRecDepth 100000 in
theorem sp_Mo_isDay_154 (F : Nat) (hF : Big F)   : ∀ (n : Nat) (t : StI) (tL : StL) (x4 : Int32) (x5 : Int32) (x7 : Int32) (h : (0 ≤ x7.toInt ∧ x5.toInt ≤ 12) ∧ 13 - x7.toInt < (n : Int) ∧ 1 ≤ n), Sf (Mo_isDay_154 F  n t tL x4 x5 x7) (fun r => ((r.1.toInt = 0 ∨ r.1.toInt = 1)) ∧ FRM [56] t r.2.1) := by
  intro n; induction n with
  | zero => intro t tL x4 x5 x7 h; omega
  | succ n ih =>
    intro t tL x4 x5 x7 h; rw [Mo_isDay_154]
    have b_x4 := ibd x4
    have b_x5 := ibd x5
    have b_x7 := ibd x7
    refine sf_le rfl rfl (fun c1 => ?_) (fun c1 => ?_)
    · skip
      have g2 := (ilit (1 : Int32) (1) rfl)
      refine sf_some ⟨?_, FRM_refl _ _⟩
      ((try dsimp only) <;> omega)
    · skip
      refine sf_bind (sp_Mo_monthDays F hF x4 x7 (trivial)) (fun r49 h_r49 => ?_)
      refine sf_up (fun t_50 ht_t_50 hn_t_50 => ?_)
      have g3 : ((x7 + (1 : Int32))).toInt = _ := (iadd rfl (ilit (1 : Int32) (1) rfl))
      refine sf_imp (ih t_50 tL x4 x5 (x7 + (1 : Int32)) (by first | (clear h_r49 b_x4; omega) | omega)) (fun r hr => ?_)
      (try dsimp only at hr)
      refine ⟨?_, FRM_trans (FRM_up (FRM_refl _ _) (by decide) hn_t_50) (FRM_sub (by decide) hr.2)⟩
      ((try dsimp only) <;> omega)
set_option maxHeartbeats 4000000 in
set_option maxRecDepth 100000 in
theorem sp_Mo_isDay_112 (F : Nat) (hF : Big F)   : ∀ (n : Nat) (t : StI) (tL : StL) (x4 : Int32) (x5 : Int32) (x7 : Int32) (h : (0 ≤ x7.toInt ∧ x4.toInt ≤ 2999 ∧ x5.toInt ≤ 12) ∧ 3000 - x7.toInt < (n : Int) ∧ 1 ≤ n), Sf (Mo_isDay_112 F  n t tL x4 x5 x7) (fun r => ((r.1.toInt = 0 ∨ r.1.toInt = 1)) ∧ FRM [56] t r.2.1) := by
  intro n; induction n with
  | zero => intro t tL x4 x5 x7 h; omega
  | succ n ih =>
    intro t tL x4 x5 x7 h; rw [Mo_isDay_112]
    have b_x4 := ibd x4
    have b_x5 := ibd x5
    have b_x7 := ibd x7
    refine sf_le rfl rfl (fun c1 => ?_) (fun c1 => ?_)
    · skip
      have g2 := (ilit (1 : Int32) (1) rfl)
      refine sf_imp (sp_Mo_isDay_154 F hF   F t tL x4 x5 (1 : Int32) (⟨by first | (clear c1 b_x7 b_x4; omega) | omega, fuel_ok hF (by first | (clear c1 b_x7 b_x5 b_x4; omega) | omega)⟩)) (fun r hr => ?_)
      (try dsimp only at hr)
      refine ⟨?_, FRM_trans (FRM_refl _ _) (FRM_sub (by decide) hr.2)⟩
      ((try dsimp only) <;> omega)
    · skip
      refine sf_bind (sp_Mo_isLeap F hF x7 (trivial)) (fun r53 h_r53 => ?_)
      refine sf_eq rfl (ilit (0 : Int32) (0) rfl) (fun c3 => ?_) (fun c3 => ?_)
      · skip
        rw [Mo_isDay_141]
        refine sf_up (fun t_51 ht_t_51 hn_t_51 => ?_)
        have g4 : ((x7 + (1 : Int32))).toInt = _ := (iadd rfl (ilit (1 : Int32) (1) rfl))
        refine sf_imp (ih t_51 tL x4 x5 (x7 + (1 : Int32)) (by first | (clear c3 h_r53; omega) | omega)) (fun r hr => ?_)
        (try dsimp only at hr)
        refine ⟨?_, FRM_trans (FRM_up (FRM_refl _ _) (by decide) hn_t_51) (FRM_sub (by decide) hr.2)⟩
        ((try dsimp only) <;> omega)
      · skip
        rw [Mo_isDay_141]
        refine sf_up (fun t_51 ht_t_51 hn_t_51 => ?_)
        have g5 : ((x7 + (1 : Int32))).toInt = _ := (iadd rfl (ilit (1 : Int32) (1) rfl))
        refine sf_imp (ih t_51 tL x4 x5 (x7 + (1 : Int32)) (by first | (clear c3 h_r53; omega) | omega)) (fun r hr => ?_)
        (try dsimp only at hr)
        refine ⟨?_, FRM_trans (FRM_up (FRM_refl _ _) (by decide) hn_t_51) (FRM_sub (by decide) hr.2)⟩
        ((try dsimp only) <;> omega)
set_option maxHeartbeats 4000000 in
set_option maxRecDepth 100000 in
theorem sp_Mo_isDay (F : Nat) (hF : Big F) (t : StI) (tL : StL) (x1 : Int32) (x2 : Int32) (h : (0 ≤ (t 6 0).toInt ∧ (t 6 0).toInt ≤ 600) ∧ 0 ≤ x1.toInt ∧ x1.toInt ≤ 10000 ∧ 0 ≤ x2.toInt ∧ x2.toInt ≤ 10000) : Sf (Mo_isDay F t tL x1 x2) (fun r => ((r.1.toInt = 0 ∨ r.1.toInt = 1)) ∧ FRM [56] t r.2.1) := by
  rw [Mo_isDay]
  have b_x1 := ibd x1
  have b_x2 := ibd x2
  refine sf_bind (sp_Mo_digits F hF t tL x1 x2 (by omega)) (fun r55 h_r55 => ?_)
  refine sf_eq rfl (ilit (8 : Int32) (8) rfl) (fun c1 => ?_) (fun c1 => ?_)
  · skip
    refine sf_eq (isub rfl rfl) (ilit (8 : Int32) (8) rfl) (fun c2 => ?_) (fun c2 => ?_)
    · skip
      have g3 := (ilit (4 : Int32) (4) rfl)
      refine sf_bind (sp_Mo_number F hF t tL x1 (4 : Int32) (by first | (clear c1 h_r55; omega) | omega)) (fun r58 h_r58 => ?_)
      have g4 : ((x1 + (4 : Int32))).toInt = _ := (iadd rfl (ilit (4 : Int32) (4) rfl))
      have g5 := (ilit (2 : Int32) (2) rfl)
      refine sf_bind (sp_Mo_number F hF t tL (x1 + (4 : Int32)) (2 : Int32) (by first | (clear h_r58 c1 h_r55; omega) | omega)) (fun r59 h_r59 => ?_)
      have g6 : ((x1 + (6 : Int32))).toInt = _ := (iadd rfl (ilit (6 : Int32) (6) rfl))
      refine sf_bind (sp_Mo_number F hF t tL (x1 + (6 : Int32)) (2 : Int32) (by first | (clear h_r59 h_r58 c1 h_r55; omega) | omega)) (fun r60 h_r60 => ?_)
      refine sf_lt rfl (ilit (1970 : Int32) (1970) rfl) (fun c7 => ?_) (fun c7 => ?_)
      · skip
        have g8 := (ilit (0 : Int32) (0) rfl)
        refine sf_some ⟨?_, FRM_refl _ _⟩
        ((try dsimp only) <;> omega)
      · skip
        refine sf_lt (ilit (2999 : Int32) (2999) rfl) rfl (fun c9 => ?_) (fun c9 => ?_)
        · skip
          have g10 := (ilit (0 : Int32) (0) rfl)
          refine sf_some ⟨?_, FRM_refl _ _⟩
          ((try dsimp only) <;> omega)
        · skip
          refine sf_lt rfl (ilit (1 : Int32) (1) rfl) (fun c11 => ?_) (fun c11 => ?_)
          · skip
            have g12 := (ilit (0 : Int32) (0) rfl)
            refine sf_some ⟨?_, FRM_refl _ _⟩
            ((try dsimp only) <;> omega)
          · skip
            refine sf_lt (ilit (12 : Int32) (12) rfl) rfl (fun c13 => ?_) (fun c13 => ?_)
            · skip
              have g14 := (ilit (0 : Int32) (0) rfl)
              refine sf_some ⟨?_, FRM_refl _ _⟩
              ((try dsimp only) <;> omega)
            · skip
              refine sf_lt rfl (ilit (1 : Int32) (1) rfl) (fun c15 => ?_) (fun c15 => ?_)
              · skip
                have g16 := (ilit (0 : Int32) (0) rfl)
                refine sf_some ⟨?_, FRM_refl _ _⟩
                ((try dsimp only) <;> omega)
              · skip
                refine sf_bind (sp_Mo_monthDays F hF r58 r59 (trivial)) (fun r66 h_r66 => ?_)
                refine sf_le rfl rfl (fun c17 => ?_) (fun c17 => ?_)
                · skip
                  refine sf_up (fun t_68 ht_t_68 hn_t_68 => ?_)
                  have g18 := (ilit (1970 : Int32) (1970) rfl)
                  refine sf_imp (sp_Mo_isDay_112 F hF   F t_68 tL r58 r59 (1970 : Int32) (⟨by first | (clear c17 h_r66 c15 h_r60 g6 h_r59 g4 h_r58 c2 c1 h_r55 b_x2 b_x1; omega) | omega, fuel_ok hF (by first | (clear c17 h_r66 c15 c13 c11 c9 c7 h_r60 g6 h_r59 g4 h_r58 c2 c1 h_r55 b_x2 b_x1; omega) | omega)⟩)) (fun r hr => ?_)
                  (try dsimp only at hr)
                  refine ⟨?_, FRM_trans (FRM_up (FRM_refl _ _) (by decide) hn_t_68) (FRM_sub (by decide) hr.2)⟩
                  ((try dsimp only) <;> omega)
                · skip
                  have g19 := (ilit (0 : Int32) (0) rfl)
                  refine sf_some ⟨?_, FRM_refl _ _⟩
                  ((try dsimp only) <;> omega)
    · skip
      refine sf_imp (sp_Mo_isDay_185 F hF t tL x1 x2 r55 (by omega)) (fun r hr => ?_)
      (try dsimp only at hr)
      refine ⟨?_, FRM_trans (FRM_refl _ _) (FRM_sub (by decide) hr.2)⟩
      ((try dsimp only) <;> omega)
  · skip
    refine sf_imp (sp_Mo_isDay_185 F hF t tL x1 x2 r55 (by first | (clear b_x2; omega) | omega)) (fun r hr => ?_)
    (try dsimp only at hr)
    refine ⟨?_, FRM_trans (FRM_refl _ _) (FRM_sub (by decide) hr.2)⟩
    ((try dsimp only) <;> omega)
set_option maxHeartbeats 4000000 in
set_option maxRecDepth 100000 in
theorem sp_Mo_isBytes_104 (F : Nat) (hF : Big F) (t : StI) (tL : StL) (y0 : Int64) (y1 : Int64) (h : True) : Sf (Mo_isBytes_104 F t tL y0 y1) (fun r => ((r.1.toInt = 0 ∨ r.1.toInt = 1)) ∧ FRM [56] t r.2.1) := by
  rw [Mo_isBytes_104]
  refine sf_up (fun t_17 ht_t_17 hn_t_17 => ?_)
  refine sf_any ?_ ?_
  · skip
    refine sf_up (fun t_19 ht_t_19 hn_t_19 => ?_)
    have g2 := (ilit (1 : Int32) (1) rfl)
    refine sf_some ⟨?_, FRM_up (FRM_refl _ _) (by decide) hn_t_19⟩
    ((try dsimp only) <;> omega)
  · skip
    refine sf_up (fun t_20 ht_t_20 hn_t_20 => ?_)
    have g3 := (ilit (1 : Int32) (1) rfl)
    refine sf_some ⟨?_, FRM_up (FRM_refl _ _) (by decide) hn_t_20⟩
    ((try dsimp only) <;> omega)
set_option maxHeartbeats 4000000 in
set_option maxRecDepth 100000 in
theorem sp_Mo_isBytes_70 (F : Nat) (hF : Big F) (t : StI) (tL : StL) (x1 : Int32) (x3 : Int32) (x4 : Int32) (h : (0 ≤ (t 6 0).toInt ∧ (t 6 0).toInt ≤ 600) ∧ 0 ≤ x1.toInt ∧ x1.toInt ≤ 10000 ∧ 0 ≤ x3.toInt ∧ x3.toInt ≤ 10000) : Sf (Mo_isBytes_70 F t tL x1 x3 x4) (fun r => ((r.1.toInt = 0 ∨ r.1.toInt = 1)) ∧ FRM [56] t r.2.1) := by
  rw [Mo_isBytes_70]
  have b_x1 := ibd x1
  have b_x3 := ibd x3
  have b_x4 := ibd x4
  refine sf_bind (sp_Mo_number F hF t tL x1 x3 (by first | (clear b_x4; omega) | omega)) (fun r21 h_r21 => ?_)
  refine sf_eq rfl (ilit (107 : Int32) (107) rfl) (fun c1 => ?_) (fun c1 => ?_)
  · skip
    refine sf_imp (sp_Mo_isBytes_104 F hF t tL (1024 : Int64) r21.toInt64 (trivial)) (fun r hr => ?_)
    (try dsimp only at hr)
    refine ⟨?_, FRM_trans (FRM_refl _ _) (FRM_sub (by decide) hr.2)⟩
    ((try dsimp only) <;> omega)
  · skip
    refine sf_eq rfl (ilit (109 : Int32) (109) rfl) (fun c2 => ?_) (fun c2 => ?_)
    · skip
      refine sf_imp (sp_Mo_isBytes_104 F hF t tL (1048576 : Int64) r21.toInt64 (trivial)) (fun r hr => ?_)
      (try dsimp only at hr)
      refine ⟨?_, FRM_trans (FRM_refl _ _) (FRM_sub (by decide) hr.2)⟩
      ((try dsimp only) <;> omega)
    · skip
      refine sf_imp (sp_Mo_isBytes_104 F hF t tL (1 : Int64) r21.toInt64 (trivial)) (fun r hr => ?_)
      (try dsimp only at hr)
      refine ⟨?_, FRM_trans (FRM_refl _ _) (FRM_sub (by decide) hr.2)⟩
      ((try dsimp only) <;> omega)
set_option maxHeartbeats 4000000 in
set_option maxRecDepth 100000 in
theorem sp_Mo_isBytes_47 (F : Nat) (hF : Big F) (t : StI) (tL : StL) (x1 : Int32) (x3 : Int32) (y0 : Int32) (h : (0 ≤ (t 6 0).toInt ∧ (t 6 0).toInt ≤ 600) ∧ 0 ≤ x1.toInt ∧ x1.toInt ≤ 10000 ∧ 0 ≤ x3.toInt ∧ x3.toInt ≤ 10000) : Sf (Mo_isBytes_47 F t tL x1 x3 y0) (fun r => ((r.1.toInt = 0 ∨ r.1.toInt = 1)) ∧ FRM [56] t r.2.1) := by
  rw [Mo_isBytes_47]
  have b_x1 := ibd x1
  have b_x3 := ibd x3
  have b_y0 := ibd y0
  refine sf_eq rfl (ilit (0 : Int32) (0) rfl) (fun c1 => ?_) (fun c1 => ?_)
  · skip
    refine sf_imp (sp_Mo_isBytes_70 F hF t tL x1 x3 y0 (by first | (clear c1 b_y0; omega) | omega)) (fun r hr => ?_)
    (try dsimp only at hr)
    refine ⟨?_, FRM_trans (FRM_refl _ _) (FRM_sub (by decide) hr.2)⟩
    ((try dsimp only) <;> omega)
  · skip
    refine sf_eq rfl (ilit (107 : Int32) (107) rfl) (fun c2 => ?_) (fun c2 => ?_)
    · skip
      refine sf_imp (sp_Mo_isBytes_70 F hF t tL x1 x3 y0 (by first | (clear c2 c1 b_y0; omega) | omega)) (fun r hr => ?_)
      (try dsimp only at hr)
      refine ⟨?_, FRM_trans (FRM_refl _ _) (FRM_sub (by decide) hr.2)⟩
      ((try dsimp only) <;> omega)
    · skip
      refine sf_eq rfl (ilit (109 : Int32) (109) rfl) (fun c3 => ?_) (fun c3 => ?_)
      · skip
        refine sf_imp (sp_Mo_isBytes_70 F hF t tL x1 x3 y0 (by first | (clear c3 c2 c1 b_y0; omega) | omega)) (fun r hr => ?_)
        (try dsimp only at hr)
        refine ⟨?_, FRM_trans (FRM_refl _ _) (FRM_sub (by decide) hr.2)⟩
        ((try dsimp only) <;> omega)
      · skip
        have g4 := (ilit (0 : Int32) (0) rfl)
        refine sf_some ⟨?_, FRM_refl _ _⟩
        ((try dsimp only) <;> omega)
set_option maxHeartbeats 4000000 in
set_option maxRecDepth 100000 in
theorem sp_Mo_isBytes (F : Nat) (hF : Big F) (t : StI) (tL : StL) (x1 : Int32) (x2 : Int32) (h : (0 ≤ (t 6 0).toInt ∧ (t 6 0).toInt ≤ 600) ∧ 0 ≤ x1.toInt ∧ x1.toInt ≤ 10000 ∧ 0 ≤ x2.toInt ∧ x2.toInt ≤ 10000) : Sf (Mo_isBytes F t tL x1 x2) (fun r => ((r.1.toInt = 0 ∨ r.1.toInt = 1)) ∧ FRM [56] t r.2.1) := by
  rw [Mo_isBytes]
  have b_x1 := ibd x1
  have b_x2 := ibd x2
  refine sf_bind (sp_Mo_digits F hF t tL x1 x2 (by omega)) (fun r27 h_r27 => ?_)
  refine sf_lt rfl (ilit (1 : Int32) (1) rfl) (fun c1 => ?_) (fun c1 => ?_)
  · skip
    have g2 := (ilit (0 : Int32) (0) rfl)
    refine sf_some ⟨?_, FRM_refl _ _⟩
    ((try dsimp only) <;> omega)
  · skip
    refine sf_lt (ilit (7 : Int32) (7) rfl) rfl (fun c3 => ?_) (fun c3 => ?_)
    · skip
      have g4 := (ilit (0 : Int32) (0) rfl)
      refine sf_some ⟨?_, FRM_refl _ _⟩
      ((try dsimp only) <;> omega)
    · skip
      refine sf_le (isub rfl rfl) (iadd rfl (ilit (1 : Int32) (1) rfl)) (fun c5 => ?_) (fun c5 => ?_)
      · skip
        refine sf_eq (isub rfl rfl) rfl (fun c6 => ?_) (fun c6 => ?_)
        · skip
          have g7 := (ilit (0 : Int32) (0) rfl)
          refine sf_imp (sp_Mo_isBytes_47 F hF t tL x1 r27 (0 : Int32) (by omega)) (fun r hr => ?_)
          (try dsimp only at hr)
          refine ⟨?_, FRM_trans (FRM_refl _ _) (FRM_sub (by decide) hr.2)⟩
          ((try dsimp only) <;> omega)
        · skip
          have g8 : ((x1 + r27)).toInt = _ := (iadd rfl rfl)
          refine sf_bind (sp_Mo_see F hF t tL (x1 + r27) (by omega)) (fun r32 h_r32 => ?_)
          refine sf_imp (sp_Mo_isBytes_47 F hF t tL x1 r27 r32 (by omega)) (fun r hr => ?_)
          (try dsimp only at hr)
          refine ⟨?_, FRM_trans (FRM_refl _ _) (FRM_sub (by decide) hr.2)⟩
          ((try dsimp only) <;> omega)
      · skip
        have g9 := (ilit (0 : Int32) (0) rfl)
        refine sf_some ⟨?_, FRM_refl _ _⟩
        ((try dsimp only) <;> omega)
set_option maxHeartbeats 4000000 in
set_option maxRecDepth 100000 in
theorem sp_Mo_isBound (F : Nat) (hF : Big F) (t : StI) (tL : StL) (x1 : Int32) (x2 : Int32) (x3 : Int32) (h : (0 ≤ (t 6 0).toInt ∧ (t 6 0).toInt ≤ 600) ∧ 0 ≤ x2.toInt ∧ x2.toInt ≤ 10000 ∧ 0 ≤ x3.toInt ∧ x3.toInt ≤ 10000) : Sf (Mo_isBound F t tL x1 x2 x3) (fun r => ((r.1.toInt = 0 ∨ r.1.toInt = 1)) ∧ FRM [56] t r.2.1) := by
  rw [Mo_isBound]
  have b_x1 := ibd x1
  have b_x2 := ibd x2
  have b_x3 := ibd x3
  refine sf_eq rfl (ilit (11 : Int32) (11) rfl) (fun c1 => ?_) (fun c1 => ?_)
  · skip
    refine sf_bind (sp_Mo_isDay F hF t tL x2 x3 (by first | (clear c1 b_x1; omega) | omega)) (fun r9 h_r9 => ?_)
    (try dsimp only at h_r9)
    refine sf_b01 (by first | (clear c1 b_x3 b_x2 b_x1; omega) | omega) ?_
    refine sf_some ⟨?_, FRM_trans (FRM_refl _ _) (FRM_sub (by decide) h_r9.2)⟩
    ((try dsimp only) <;> omega)
  · skip
    refine sf_bind (sp_Mo_isBytes F hF t tL x2 x3 (by first | (clear c1 b_x1; omega) | omega)) (fun r7 h_r7 => ?_)
    (try dsimp only at h_r7)
    refine sf_b01 (by first | (clear c1 b_x3 b_x2 b_x1; omega) | omega) ?_
    refine sf_some ⟨?_, FRM_trans (FRM_refl _ _) (FRM_sub (by decide) h_r7.2)⟩
    ((try dsimp only) <;> omega)
set_option maxHeartbeats 4000000 in
set_option maxRecDepth 100000 in
theorem sp_Mo_isRange_127 (F : Nat) (hF : Big F) (t : StI) (tL : StL) (x1 : Int32) (x3 : Int32) (x4 : Int32) (h : (0 ≤ (t 6 0).toInt ∧ (t 6 0).toInt ≤ 600) ∧ 0 ≤ x3.toInt ∧ x3.toInt ≤ 9000 ∧ 0 ≤ x4.toInt ∧ x4.toInt ≤ 9000) : Sf (Mo_isRange_127 F t tL x1 x3 x4) (fun r => ((r.1.toInt = 0 ∨ r.1.toInt = 1)) ∧ FRM [56, 59] t r.2.1) := by
  rw [Mo_isRange_127]
  have b_x1 := ibd x1
  have b_x3 := ibd x3
  have b_x4 := ibd x4
  refine sf_le rfl (iadd rfl (ilit (2 : Int32) (2) rfl)) (fun c1 => ?_) (fun c1 => ?_)
  · skip
    have g2 := (ilit (1 : Int32) (1) rfl)
    refine sf_some ⟨?_, FRM_refl _ _⟩
    ((try dsimp only) <;> omega)
  · skip
    have g3 : ((x4 + (2 : Int32))).toInt = _ := (iadd rfl (ilit (2 : Int32) (2) rfl))
    refine sf_bind (sp_Mo_isBound F hF t tL x1 (x4 + (2 : Int32)) x3 (by first | (clear b_x1; omega) | omega)) (fun r23 h_r23 => ?_)
    (try dsimp only at h_r23)
    refine sf_eq rfl (ilit (0 : Int32) (0) rfl) (fun c4 => ?_) (fun c4 => ?_)
    · skip
      have g5 := (ilit (0 : Int32) (0) rfl)
      refine sf_some ⟨?_, FRM_trans (FRM_refl _ _) (FRM_sub (by decide) h_r23.2)⟩
      ((try dsimp only) <;> omega)
    · skip
      refine sf_up (fun t_25 ht_t_25 hn_t_25 => ?_)
      have g6 := (ilit (1 : Int32) (1) rfl)
      refine sf_some ⟨?_, FRM_up (FRM_trans (FRM_refl _ _) (FRM_sub (by decide) h_r23.2)) (by decide) hn_t_25⟩
      ((try dsimp only) <;> omega)
set_option maxHeartbeats 4000000 in
set_option maxRecDepth 100000 in
theorem sp_Mo_isRange_41 (F : Nat) (hF : Big F) (t : StI) (tL : StL) (x1 : Int32) (x2 : Int32) (x3 : Int32) (x4 : Int32) (h : (0 ≤ (t 6 0).toInt ∧ (t 6 0).toInt ≤ 600) ∧ 0 ≤ x3.toInt ∧ x3.toInt ≤ 9000 ∧ 0 ≤ x4.toInt ∧ x4.toInt ≤ 9000 ∧ 0 ≤ x2.toInt ∧ x2.toInt ≤ 9000) : Sf (Mo_isRange_41 F t tL x1 x2 x3 x4) (fun r => ((r.1.toInt = 0 ∨ r.1.toInt = 1)) ∧ FRM [56, 58, 59] t r.2.1) := by
  rw [Mo_isRange_41]
  have b_x1 := ibd x1
  have b_x2 := ibd x2
  have b_x3 := ibd x3
  have b_x4 := ibd x4
  refine sf_lt (iadd rfl (ilit (1 : Int32) (1) rfl)) rfl (fun c1 => ?_) (fun c1 => ?_)
  · skip
    refine sf_up (fun t_27 ht_t_27 hn_t_27 => ?_)
    refine sf_up (fun t_28 ht_t_28 hn_t_28 => ?_)
    refine sf_eq (isub rfl rfl) (ilit (2 : Int32) (2) rfl) (fun c2 => ?_) (fun c2 => ?_)
    · skip
      have g3 := (ilit (0 : Int32) (0) rfl)
      refine sf_some ⟨?_, FRM_up (FRM_up (FRM_refl _ _) (by decide) hn_t_27) (by decide) hn_t_28⟩
      ((try dsimp only) <;> omega)
    · skip
      refine sf_le rfl rfl (fun c4 => ?_) (fun c4 => ?_)
      · skip
        have e5 : (t_27 6 0).toInt = (t 6 0).toInt := congrArg (fun q => Int32.toInt (q 0)) (hn_t_27 6 (by decide))
        have e6 : (t_28 6 0).toInt = (t_27 6 0).toInt := congrArg (fun q => Int32.toInt (q 0)) (hn_t_28 6 (by decide))
        refine sf_imp (sp_Mo_isRange_127 F hF t_28 tL x1 x3 x4 (by first | (clear b_x1; omega) | omega)) (fun r hr => ?_)
        (try dsimp only at hr)
        refine ⟨?_, FRM_trans (FRM_up (FRM_up (FRM_refl _ _) (by decide) hn_t_27) (by decide) hn_t_28) (FRM_sub (by decide) hr.2)⟩
        ((try dsimp only) <;> omega)
      · skip
        have e7 : (t_27 6 0).toInt = (t 6 0).toInt := congrArg (fun q => Int32.toInt (q 0)) (hn_t_27 6 (by decide))
        have e8 : (t_28 6 0).toInt = (t_27 6 0).toInt := congrArg (fun q => Int32.toInt (q 0)) (hn_t_28 6 (by decide))
        refine sf_bind (sp_Mo_isBound F hF t_28 tL x1 x2 x4 (by first | (clear b_x1; omega) | omega)) (fun r31 h_r31 => ?_)
        (try dsimp only at h_r31)
        refine sf_eq rfl (ilit (0 : Int32) (0) rfl) (fun c9 => ?_) (fun c9 => ?_)
        · skip
          have g10 := (ilit (0 : Int32) (0) rfl)
          refine sf_some ⟨?_, FRM_trans (FRM_up (FRM_up (FRM_refl _ _) (by decide) hn_t_27) (by decide) hn_t_28) (FRM_sub (by decide) h_r31.2)⟩
          ((try dsimp only) <;> omega)
        · skip
          refine sf_up (fun t_33 ht_t_33 hn_t_33 => ?_)
          have e11 : (r31.2.1 6 0).toInt = (t_28 6 0).toInt := congrArg (fun q => Int32.toInt (q 0)) (h_r31.2 6 (by decide))
          have e12 : (t_33 6 0).toInt = (r31.2.1 6 0).toInt := congrArg (fun q => Int32.toInt (q 0)) (hn_t_33 6 (by decide))
          refine sf_imp (sp_Mo_isRange_127 F hF t_33 r31.2.2 x1 x3 x4 (by first | (clear c9 h_r31 b_x1; omega) | omega)) (fun r hr => ?_)
          (try dsimp only at hr)
          refine ⟨?_, FRM_trans (FRM_up (FRM_trans (FRM_up (FRM_up (FRM_refl _ _) (by decide) hn_t_27) (by decide) hn_t_28) (FRM_sub (by decide) h_r31.2)) (by decide) hn_t_33) (FRM_sub (by decide) hr.2)⟩
          ((try dsimp only) <;> omega)
  · skip
    refine sf_bind (sp_Mo_isBound F hF t tL x1 x2 x3 (by first | (clear b_x1; omega) | omega)) (fun r34 h_r34 => ?_)
    (try dsimp only at h_r34)
    refine sf_up (fun t_35 ht_t_35 hn_t_35 => ?_)
    refine sf_up (fun t_36 ht_t_36 hn_t_36 => ?_)
    refine sf_b01 (by first | (clear c1 b_x4 b_x3 b_x2 b_x1; omega) | omega) ?_
    refine sf_some ⟨?_, FRM_up (FRM_up (FRM_trans (FRM_refl _ _) (FRM_sub (by decide) h_r34.2)) (by decide) hn_t_35) (by decide) hn_t_36⟩
    ((try dsimp only) <;> omega)
set_option maxHeartbeats 4000000 in
set_option maxRecDepth 100000 in
theorem sp_Mo_isRange_3 (F : Nat) (hF : Big F)   : ∀ (n : Nat) (t : StI) (tL : StL) (x1 : Int32) (x2 : Int32) (x3 : Int32) (x4 : Int32) (h : ((0 ≤ (t 6 0).toInt ∧ (t 6 0).toInt ≤ 600) ∧ 0 ≤ x3.toInt ∧ x3.toInt ≤ 9000 ∧ 0 ≤ x4.toInt ∧ x4.toInt ≤ 9000 ∧ 0 ≤ x2.toInt ∧ x2.toInt ≤ 9000) ∧ 10001 - x4.toInt < (n : Int) ∧ 1 ≤ n), Sf (Mo_isRange_3 F  n t tL x1 x2 x3 x4) (fun r => ((r.1.toInt = 0 ∨ r.1.toInt = 1)) ∧ FRM [56, 58, 59] t r.2.1) := by
  intro n; induction n with
  | zero => intro t tL x1 x2 x3 x4 h; omega
  | succ n ih =>
    intro t tL x1 x2 x3 x4 h; rw [Mo_isRange_3]
    have b_x1 := ibd x1
    have b_x2 := ibd x2
    have b_x3 := ibd x3
    have b_x4 := ibd x4
    refine sf_le rfl (iadd rfl (ilit (1 : Int32) (1) rfl)) (fun c1 => ?_) (fun c1 => ?_)
    · skip
      refine sf_imp (sp_Mo_isRange_41 F hF t tL x1 x2 x3 x4 (by first | (clear b_x1; omega) | omega)) (fun r hr => ?_)
      (try dsimp only at hr)
      refine ⟨?_, FRM_trans (FRM_refl _ _) (FRM_sub (by decide) hr.2)⟩
      ((try dsimp only) <;> omega)
    · skip
      refine sf_bind (sp_Mo_see F hF t tL x4 (by first | (clear b_x2 b_x1; omega) | omega)) (fun r39 h_r39 => ?_)
      refine sf_eq rfl (ilit (46 : Int32) (46) rfl) (fun c2 => ?_) (fun c2 => ?_)
      · skip
        have g3 : ((x4 + (1 : Int32))).toInt = _ := (iadd rfl (ilit (1 : Int32) (1) rfl))
        refine sf_bind (sp_Mo_see F hF t tL (x4 + (1 : Int32)) (by first | (clear b_x2 b_x1; omega) | omega)) (fun r41 h_r41 => ?_)
        refine sf_eq rfl (ilit (46 : Int32) (46) rfl) (fun c4 => ?_) (fun c4 => ?_)
        · skip
          refine sf_imp (sp_Mo_isRange_41 F hF t tL x1 x2 x3 x4 (by first | (clear b_x1; omega) | omega)) (fun r hr => ?_)
          (try dsimp only at hr)
          refine ⟨?_, FRM_trans (FRM_refl _ _) (FRM_sub (by decide) hr.2)⟩
          ((try dsimp only) <;> omega)
        · skip
          rw [Mo_isRange_35]
          refine sf_imp (ih t tL x1 x2 x3 (x4 + (1 : Int32)) (by first | (clear b_x1; omega) | omega)) (fun r hr => ?_)
          (try dsimp only at hr)
          refine ⟨?_, FRM_trans (FRM_refl _ _) (FRM_sub (by decide) hr.2)⟩
          ((try dsimp only) <;> omega)
      · skip
        rw [Mo_isRange_35]
        have g5 : ((x4 + (1 : Int32))).toInt = _ := (iadd rfl (ilit (1 : Int32) (1) rfl))
        refine sf_imp (ih t tL x1 x2 x3 (x4 + (1 : Int32)) (by first | (clear b_x1; omega) | omega)) (fun r hr => ?_)
        (try dsimp only at hr)
        refine ⟨?_, FRM_trans (FRM_refl _ _) (FRM_sub (by decide) hr.2)⟩
        ((try dsimp only) <;> omega)
set_option maxHeartbeats 4000000 in
set_option maxRecDepth 100000 in
theorem sp_Mo_isRange (F : Nat) (hF : Big F) (t : StI) (tL : StL) (x1 : Int32) (x2 : Int32) (x3 : Int32) (h : (0 ≤ (t 6 0).toInt ∧ (t 6 0).toInt ≤ 600) ∧ 0 ≤ x2.toInt ∧ x2.toInt ≤ 9000 ∧ 0 ≤ x3.toInt ∧ x3.toInt ≤ 9000) : Sf (Mo_isRange F t tL x1 x2 x3) (fun r => ((r.1.toInt = 0 ∨ r.1.toInt = 1)) ∧ FRM [56, 58, 59] t r.2.1) := by
  rw [Mo_isRange]
  have b_x1 := ibd x1
  have b_x2 := ibd x2
  have b_x3 := ibd x3
  refine sf_imp (sp_Mo_isRange_3 F hF   F t tL x1 x2 x3 x2 (⟨by first | (clear b_x1; omega) | omega, fuel_ok hF (by first | (clear b_x3 b_x1; omega) | omega)⟩)) (fun r hr => ?_)
  (try dsimp only at hr)
  refine ⟨?_, FRM_trans (FRM_refl _ _) (FRM_sub (by decide) hr.2)⟩
  ((try dsimp only) <;> omega)
set_option maxHeartbeats 4000000 in
set_option maxRecDepth 100000 in
theorem sp_Mo_star_16 (F : Nat) (hF : Big F)   : ∀ (n : Nat) (t : StI) (tL : StL) (x1 : Int32) (x2 : Int32) (h : ((0 ≤ (t 6 0).toInt ∧ (t 6 0).toInt ≤ 600) ∧ (0 ≤ (t 17 0).toInt ∧ (t 17 0).toInt ≤ 9000 ∧ 0 ≤ (t 18 0).toInt ∧ (t 18 0).toInt ≤ 9000) ∧ 0 ≤ x2.toInt) ∧ 10001 - x2.toInt < (n : Int) ∧ 1 ≤ n), Sf (Mo_star_16 F  n t tL x1 x2) (fun r => True) := by
  intro n; induction n with
  | zero => intro t tL x1 x2 h; omega
  | succ n ih =>
    intro t tL x1 x2 h; rw [Mo_star_16]
    have b_x1 := ibd x1
    have b_x2 := ibd x2
    refine sf_le rfl rfl (fun c1 => ?_) (fun c1 => ?_)
    · skip
      refine sf_lt rfl (ilit (5 : Int32) (5) rfl) (fun c2 => ?_) (fun c2 => ?_)
      · skip
        rw [Mo_star_83]
        rw [Mo_star_88]
        refine sf_eq rfl (ilit (-1 : Int32) (-1) rfl) (fun c3 => ?_) (fun c3 => ?_)
        · skip
          exact sf_some trivial
        · skip
          refine sf_eq (ilit (1 : Int32) (1) rfl) (ilit (0 : Int32) (0) rfl) (fun c4 => ?_) (fun c4 => ?_)
          · skip
            exact sf_some trivial
          · skip
            refine sf_eq (isub rfl rfl) (ilit (1 : Int32) (1) rfl) (fun c5 => ?_) (fun c5 => ?_)
            · skip
              exact sf_some trivial
            · skip
              exact sf_some trivial
      · skip
        refine sf_eq rfl (ilit (7 : Int32) (7) rfl) (fun c6 => ?_) (fun c6 => ?_)
        · skip
          rw [Mo_star_83]
          rw [Mo_star_88]
          refine sf_eq rfl (ilit (-1 : Int32) (-1) rfl) (fun c7 => ?_) (fun c7 => ?_)
          · skip
            exact sf_some trivial
          · skip
            refine sf_eq (ilit (1 : Int32) (1) rfl) (ilit (0 : Int32) (0) rfl) (fun c8 => ?_) (fun c8 => ?_)
            · skip
              exact sf_some trivial
            · skip
              refine sf_eq (isub rfl rfl) (ilit (1 : Int32) (1) rfl) (fun c9 => ?_) (fun c9 => ?_)
              · skip
                exact sf_some trivial
              · skip
                exact sf_some trivial
        · skip
          refine sf_eq rfl (ilit (9 : Int32) (9) rfl) (fun c10 => ?_) (fun c10 => ?_)
          · skip
            rw [Mo_star_83]
            rw [Mo_star_88]
            refine sf_eq rfl (ilit (-1 : Int32) (-1) rfl) (fun c11 => ?_) (fun c11 => ?_)
            · skip
              exact sf_some trivial
            · skip
              refine sf_eq (ilit (1 : Int32) (1) rfl) (ilit (0 : Int32) (0) rfl) (fun c12 => ?_) (fun c12 => ?_)
              · skip
                exact sf_some trivial
              · skip
                refine sf_eq (isub rfl rfl) (ilit (1 : Int32) (1) rfl) (fun c13 => ?_) (fun c13 => ?_)
                · skip
                  exact sf_some trivial
                · skip
                  exact sf_some trivial
          · skip
            rw [Mo_star_88]
            refine sf_eq rfl (ilit (-1 : Int32) (-1) rfl) (fun c14 => ?_) (fun c14 => ?_)
            · skip
              exact sf_some trivial
            · skip
              refine sf_eq (ilit (0 : Int32) (0) rfl) (ilit (0 : Int32) (0) rfl) (fun c15 => ?_) (fun c15 => ?_)
              · skip
                exact sf_some trivial
              · skip
                refine sf_eq (isub rfl rfl) (ilit (1 : Int32) (1) rfl) (fun c16 => ?_) (fun c16 => ?_)
                · skip
                  exact sf_some trivial
                · skip
                  exact sf_some trivial
    · skip
      refine sf_bind (sp_Mo_see F hF t tL x2 (by first | (clear b_x1; omega) | omega)) (fun r19 h_r19 => ?_)
      refine sf_eq rfl (ilit (42 : Int32) (42) rfl) (fun c17 => ?_) (fun c17 => ?_)
      · skip
        refine sf_eq rfl (ilit (-1 : Int32) (-1) rfl) (fun c18 => ?_) (fun c18 => ?_)
        · skip
          rw [Mo_star_50]
          rw [Mo_star_51]
          have g19 : ((x2 - (t 17 0))).toInt = _ := (isub rfl rfl)
          have g20 : ((x2 + (1 : Int32))).toInt = _ := (iadd rfl (ilit (1 : Int32) (1) rfl))
          exact ih t tL (x2 - (t 17 0)) (x2 + (1 : Int32)) (by first | (clear c18 b_x1; omega) | omega)
        · skip
          rw [Mo_star_50]
          rw [Mo_star_51]
          have g21 := (ilit (-2 : Int32) (-2) rfl)
          have g22 : ((x2 + (1 : Int32))).toInt = _ := (iadd rfl (ilit (1 : Int32) (1) rfl))
          exact ih t tL (-2 : Int32) (x2 + (1 : Int32)) (by first | (clear c18 b_x1; omega) | omega)
      · skip
        rw [Mo_star_51]
        have g23 : ((x2 + (1 : Int32))).toInt = _ := (iadd rfl (ilit (1 : Int32) (1) rfl))
        exact ih t tL x1 (x2 + (1 : Int32)) (by first | (clear b_x1; omega) | omega)
set_option maxHeartbeats 4000000 in
set_option maxRecDepth 100000 in
theorem sp_Mo_star (F : Nat) (hF : Big F) (t : StI) (tL : StL) (h : (0 ≤ (t 6 0).toInt ∧ (t 6 0).toInt ≤ 600) ∧ (0 ≤ (t 17 0).toInt ∧ (t 17 0).toInt ≤ 9000 ∧ 0 ≤ (t 18 0).toInt ∧ (t 18 0).toInt ≤ 9000)) : Sf (Mo_star F t tL) (fun r => True) := by
  rw [Mo_star]
  refine sf_eq rfl (ilit (0 : Int32) (0) rfl) (fun c1 => ?_) (fun c1 => ?_)
  · skip
    have g2 := (ilit (-1 : Int32) (-1) rfl)
    refine sf_imp (sp_Mo_star_16 F hF   F t tL (-1 : Int32) (t 17 0) (⟨by first | (clear c1; omega) | omega, fuel_ok hF (by first | (clear c1; omega) | omega)⟩)) (fun r hr => ?_)
    trivial
  · skip
    exact sf_some trivial
set_option maxHeartbeats 4000000 in
set_option maxRecDepth 100000 in
theorem sp_Mo_isEncrypted (F : Nat) (hF : Big F) (t : StI) (tL : StL) (h : (0 ≤ (t 6 0).toInt ∧ (t 6 0).toInt ≤ 600) ∧ (0 ≤ (t 17 0).toInt ∧ (t 17 0).toInt ≤ 9000 ∧ 0 ≤ (t 18 0).toInt ∧ (t 18 0).toInt ≤ 9000)) : Sf (Mo_isEncrypted F t tL) (fun r => (r.toInt = 0 ∨ r.toInt = 1)) := by
  rw [Mo_isEncrypted]
  refine sf_eq (isub rfl rfl) (ilit (9 : Int32) (9) rfl) (fun c1 => ?_) (fun c1 => ?_)
  · skip
    have g2 : (((t 17 0) + (8 : Int32))).toInt = _ := (iadd rfl (ilit (8 : Int32) (8) rfl))
    have g3 := (ilit (8 : Int32) (8) rfl)
    refine sf_bind (sp_Mo_isText F hF t tL (t 17 0) ((t 17 0) + (8 : Int32)) (7308888588583728229 : Int64) (8 : Int32) (by omega)) (fun r7 h_r7 => ?_)
    refine sf_eq rfl (ilit (0 : Int32) (0) rfl) (fun c4 => ?_) (fun c4 => ?_)
    · skip
      have g5 := (ilit (0 : Int32) (0) rfl)
      refine sf_some ?_
      ((try dsimp only) <;> omega)
    · skip
      have g6 : (((t 18 0) - (1 : Int32))).toInt = _ := (isub rfl (ilit (1 : Int32) (1) rfl))
      refine sf_bind (sp_Mo_see F hF t tL ((t 18 0) - (1 : Int32)) (by omega)) (fun r9 h_r9 => ?_)
      refine sf_eq rfl (ilit (100 : Int32) (100) rfl) (fun c7 => ?_) (fun c7 => ?_)
      · skip
        have g8 := (ilit (1 : Int32) (1) rfl)
        refine sf_some ?_
        ((try dsimp only) <;> omega)
      · skip
        have g9 := (ilit (0 : Int32) (0) rfl)
        refine sf_some ?_
        ((try dsimp only) <;> omega)
  · skip
    have g10 := (ilit (0 : Int32) (0) rfl)
    refine sf_some ?_
    ((try dsimp only) <;> omega)
set_option maxHeartbeats 4000000 in
set_option maxRecDepth 100000 in
theorem sp_Mo_isRight (F : Nat) (hF : Big F) (t : StI) (tL : StL) (h : (0 ≤ (t 6 0).toInt ∧ (t 6 0).toInt ≤ 600) ∧ (0 ≤ (t 17 0).toInt ∧ (t 17 0).toInt ≤ 9000 ∧ 0 ≤ (t 18 0).toInt ∧ (t 18 0).toInt ≤ 9000)) : Sf (Mo_isRight F t tL) (fun r => ((r.1.toInt = 0 ∨ r.1.toInt = 1)) ∧ FRM [56, 58, 59] t r.2.1) := by
  rw [Mo_isRight]
  refine sf_up (fun t_23 ht_t_23 hn_t_23 => ?_)
  refine sf_up (fun t_24 ht_t_24 hn_t_24 => ?_)
  have e1 : (t_23 16 0).toInt = (t 16 0).toInt := congrArg (fun q => Int32.toInt (q 0)) (hn_t_23 16 (by decide))
  have e2 : (t_24 16 0).toInt = (t_23 16 0).toInt := congrArg (fun q => Int32.toInt (q 0)) (hn_t_24 16 (by decide))
  refine sf_eq rfl (ilit (5 : Int32) (5) rfl) (fun c3 => ?_) (fun c3 => ?_)
  · skip
    have e4 : (t_23 19 0).toInt = (t 19 0).toInt := congrArg (fun q => Int32.toInt (q 0)) (hn_t_23 19 (by decide))
    have e5 : (t_24 19 0).toInt = (t_23 19 0).toInt := congrArg (fun q => Int32.toInt (q 0)) (hn_t_24 19 (by decide))
    refine sf_eq rfl (ilit (0 : Int32) (0) rfl) (fun c6 => ?_) (fun c6 => ?_)
    · skip
      have e7 : (t_23 17 0).toInt = (t 17 0).toInt := congrArg (fun q => Int32.toInt (q 0)) (hn_t_23 17 (by decide))
      have e8 : (t_24 17 0).toInt = (t_23 17 0).toInt := congrArg (fun q => Int32.toInt (q 0)) (hn_t_24 17 (by decide))
      have e9 : (t_23 18 0).toInt = (t 18 0).toInt := congrArg (fun q => Int32.toInt (q 0)) (hn_t_23 18 (by decide))
      have e10 : (t_24 18 0).toInt = (t_23 18 0).toInt := congrArg (fun q => Int32.toInt (q 0)) (hn_t_24 18 (by decide))
      have e11 : (t_23 6 0).toInt = (t 6 0).toInt := congrArg (fun q => Int32.toInt (q 0)) (hn_t_23 6 (by decide))
      have e12 : (t_24 6 0).toInt = (t_23 6 0).toInt := congrArg (fun q => Int32.toInt (q 0)) (hn_t_24 6 (by decide))
      refine sf_bind (sp_Mo_isTag F hF t_24 tL (t_24 17 0) (t_24 18 0) (by first | (clear c6 e5 e4 c3 e2 e1; omega) | omega)) (fun r43 h_r43 => ?_)
      refine sf_eq rfl (ilit (0 : Int32) (0) rfl) (fun c13 => ?_) (fun c13 => ?_)
      · skip
        have g14 := (ilit (0 : Int32) (0) rfl)
        refine sf_some ⟨?_, FRM_up (FRM_up (FRM_refl _ _) (by decide) hn_t_23) (by decide) hn_t_24⟩
        ((try dsimp only) <;> omega)
      · skip
        have g15 := (ilit (1 : Int32) (1) rfl)
        refine sf_some ⟨?_, FRM_up (FRM_up (FRM_refl _ _) (by decide) hn_t_23) (by decide) hn_t_24⟩
        ((try dsimp only) <;> omega)
    · skip
      have g16 := (ilit (0 : Int32) (0) rfl)
      refine sf_some ⟨?_, FRM_up (FRM_up (FRM_refl _ _) (by decide) hn_t_23) (by decide) hn_t_24⟩
      ((try dsimp only) <;> omega)
  · skip
    refine sf_eq rfl (ilit (10 : Int32) (10) rfl) (fun c17 => ?_) (fun c17 => ?_)
    · skip
      have e18 : (t_23 19 0).toInt = (t 19 0).toInt := congrArg (fun q => Int32.toInt (q 0)) (hn_t_23 19 (by decide))
      have e19 : (t_24 19 0).toInt = (t_23 19 0).toInt := congrArg (fun q => Int32.toInt (q 0)) (hn_t_24 19 (by decide))
      refine sf_eq rfl (ilit (0 : Int32) (0) rfl) (fun c20 => ?_) (fun c20 => ?_)
      · skip
        have e21 : (t_23 17 0).toInt = (t 17 0).toInt := congrArg (fun q => Int32.toInt (q 0)) (hn_t_23 17 (by decide))
        have e22 : (t_24 17 0).toInt = (t_23 17 0).toInt := congrArg (fun q => Int32.toInt (q 0)) (hn_t_24 17 (by decide))
        have e23 : (t_23 18 0).toInt = (t 18 0).toInt := congrArg (fun q => Int32.toInt (q 0)) (hn_t_23 18 (by decide))
        have e24 : (t_24 18 0).toInt = (t_23 18 0).toInt := congrArg (fun q => Int32.toInt (q 0)) (hn_t_24 18 (by decide))
        have g25 := (ilit (6 : Int32) (6) rfl)
        have e26 : (t_23 6 0).toInt = (t 6 0).toInt := congrArg (fun q => Int32.toInt (q 0)) (hn_t_23 6 (by decide))
        have e27 : (t_24 6 0).toInt = (t_23 6 0).toInt := congrArg (fun q => Int32.toInt (q 0)) (hn_t_24 6 (by decide))
        refine sf_bind (sp_Mo_isText F hF t_24 tL (t_24 17 0) (t_24 18 0) (129117226099044 : Int64) (6 : Int32) (by first | (clear c20 e19 e18 c17 c3 e2 e1; omega) | omega)) (fun r34 h_r34 => ?_)
        refine sf_eq rfl (ilit (0 : Int32) (0) rfl) (fun c28 => ?_) (fun c28 => ?_)
        · skip
          have g29 := (ilit (7 : Int32) (7) rfl)
          refine sf_bind (sp_Mo_isText F hF t_24 tL (t_24 17 0) (t_24 18 0) (28829613226943844 : Int64) (7 : Int32) (by first | (clear c20 e19 e18 c17 c3 e2 e1; omega) | omega)) (fun r36 h_r36 => ?_)
          refine sf_eq rfl (ilit (0 : Int32) (0) rfl) (fun c30 => ?_) (fun c30 => ?_)
          · skip
            refine sf_bind (sp_Mo_isText F hF t_24 tL (t_24 17 0) (t_24 18 0) (32199680874603876 : Int64) (7 : Int32) (by first | (clear c20 e19 e18 c17 c3 e2 e1; omega) | omega)) (fun r38 h_r38 => ?_)
            refine sf_eq rfl (ilit (0 : Int32) (0) rfl) (fun c31 => ?_) (fun c31 => ?_)
            · skip
              refine sf_bind (sp_Mo_isEncrypted F hF t_24 tL (by first | (clear c20 e19 e18 c17 c3 e2 e1; omega) | omega)) (fun r40 h_r40 => ?_)
              refine sf_eq rfl (ilit (0 : Int32) (0) rfl) (fun c32 => ?_) (fun c32 => ?_)
              · skip
                have g33 := (ilit (0 : Int32) (0) rfl)
                refine sf_some ⟨?_, FRM_up (FRM_up (FRM_refl _ _) (by decide) hn_t_23) (by decide) hn_t_24⟩
                ((try dsimp only) <;> omega)
              · skip
                have g34 := (ilit (1 : Int32) (1) rfl)
                refine sf_some ⟨?_, FRM_up (FRM_up (FRM_refl _ _) (by decide) hn_t_23) (by decide) hn_t_24⟩
                ((try dsimp only) <;> omega)
            · skip
              have g35 := (ilit (1 : Int32) (1) rfl)
              refine sf_some ⟨?_, FRM_up (FRM_up (FRM_refl _ _) (by decide) hn_t_23) (by decide) hn_t_24⟩
              ((try dsimp only) <;> omega)
          · skip
            have g36 := (ilit (1 : Int32) (1) rfl)
            refine sf_some ⟨?_, FRM_up (FRM_up (FRM_refl _ _) (by decide) hn_t_23) (by decide) hn_t_24⟩
            ((try dsimp only) <;> omega)
        · skip
          have g37 := (ilit (1 : Int32) (1) rfl)
          refine sf_some ⟨?_, FRM_up (FRM_up (FRM_refl _ _) (by decide) hn_t_23) (by decide) hn_t_24⟩
          ((try dsimp only) <;> omega)
      · skip
        have g38 := (ilit (0 : Int32) (0) rfl)
        refine sf_some ⟨?_, FRM_up (FRM_up (FRM_refl _ _) (by decide) hn_t_23) (by decide) hn_t_24⟩
        ((try dsimp only) <;> omega)
    · skip
      refine sf_le (ilit (11 : Int32) (11) rfl) rfl (fun c39 => ?_) (fun c39 => ?_)
      · skip
        have e40 : (t_23 19 0).toInt = (t 19 0).toInt := congrArg (fun q => Int32.toInt (q 0)) (hn_t_23 19 (by decide))
        have e41 : (t_24 19 0).toInt = (t_23 19 0).toInt := congrArg (fun q => Int32.toInt (q 0)) (hn_t_24 19 (by decide))
        refine sf_eq rfl (ilit (0 : Int32) (0) rfl) (fun c42 => ?_) (fun c42 => ?_)
        · skip
          have e43 : (t_23 17 0).toInt = (t 17 0).toInt := congrArg (fun q => Int32.toInt (q 0)) (hn_t_23 17 (by decide))
          have e44 : (t_24 17 0).toInt = (t_23 17 0).toInt := congrArg (fun q => Int32.toInt (q 0)) (hn_t_24 17 (by decide))
          have e45 : (t_23 18 0).toInt = (t 18 0).toInt := congrArg (fun q => Int32.toInt (q 0)) (hn_t_23 18 (by decide))
          have e46 : (t_24 18 0).toInt = (t_23 18 0).toInt := congrArg (fun q => Int32.toInt (q 0)) (hn_t_24 18 (by decide))
          have e47 : (t_23 6 0).toInt = (t 6 0).toInt := congrArg (fun q => Int32.toInt (q 0)) (hn_t_23 6 (by decide))
          have e48 : (t_24 6 0).toInt = (t_23 6 0).toInt := congrArg (fun q => Int32.toInt (q 0)) (hn_t_24 6 (by decide))
          refine sf_bind (sp_Mo_isRange F hF t_24 tL (t_24 16 0) (t_24 17 0) (t_24 18 0) (by first | (clear c42 e41 e40 c39 c17 c3 e2 e1; omega) | omega)) (fun r29 h_r29 => ?_)
          (try dsimp only at h_r29)
          refine sf_eq rfl (ilit (0 : Int32) (0) rfl) (fun c49 => ?_) (fun c49 => ?_)
          · skip
            have g50 := (ilit (0 : Int32) (0) rfl)
            refine sf_some ⟨?_, FRM_trans (FRM_up (FRM_up (FRM_refl _ _) (by decide) hn_t_23) (by decide) hn_t_24) (FRM_sub (by decide) h_r29.2)⟩
            ((try dsimp only) <;> omega)
          · skip
            have g51 := (ilit (1 : Int32) (1) rfl)
            refine sf_some ⟨?_, FRM_trans (FRM_up (FRM_up (FRM_refl _ _) (by decide) hn_t_23) (by decide) hn_t_24) (FRM_sub (by decide) h_r29.2)⟩
            ((try dsimp only) <;> omega)
        · skip
          have g52 := (ilit (0 : Int32) (0) rfl)
          refine sf_some ⟨?_, FRM_up (FRM_up (FRM_refl _ _) (by decide) hn_t_23) (by decide) hn_t_24⟩
          ((try dsimp only) <;> omega)
      · skip
        have e53 : (t_23 6 0).toInt = (t 6 0).toInt := congrArg (fun q => Int32.toInt (q 0)) (hn_t_23 6 (by decide))
        have e54 : (t_24 6 0).toInt = (t_23 6 0).toInt := congrArg (fun q => Int32.toInt (q 0)) (hn_t_24 6 (by decide))
        have e55 : (t_23 17 0).toInt = (t 17 0).toInt := congrArg (fun q => Int32.toInt (q 0)) (hn_t_23 17 (by decide))
        have e56 : (t_24 17 0).toInt = (t_23 17 0).toInt := congrArg (fun q => Int32.toInt (q 0)) (hn_t_24 17 (by decide))
        have e57 : (t_23 18 0).toInt = (t 18 0).toInt := congrArg (fun q => Int32.toInt (q 0)) (hn_t_23 18 (by decide))
        have e58 : (t_24 18 0).toInt = (t_23 18 0).toInt := congrArg (fun q => Int32.toInt (q 0)) (hn_t_24 18 (by decide))
        refine sf_bind (sp_Mo_star F hF t_24 tL (by first | (clear c39 c17 c3 e2 e1; omega) | omega)) (fun r31 h_r31 => ?_)
        refine sf_eq rfl (ilit (-2 : Int32) (-2) rfl) (fun c59 => ?_) (fun c59 => ?_)
        · skip
          have g60 := (ilit (0 : Int32) (0) rfl)
          refine sf_some ⟨?_, FRM_up (FRM_up (FRM_refl _ _) (by decide) hn_t_23) (by decide) hn_t_24⟩
          ((try dsimp only) <;> omega)
        · skip
          have g61 := (ilit (1 : Int32) (1) rfl)
          refine sf_some ⟨?_, FRM_up (FRM_up (FRM_refl _ _) (by decide) hn_t_23) (by decide) hn_t_24⟩
          ((try dsimp only) <;> omega)
set_option maxHeartbeats 4000000 in
set_option maxRecDepth 100000 in
theorem sp_Mo_small (F : Nat) (hF : Big F) (x0 : Int32) (h : True) : Sf (Mo_small F x0) (fun r => True) := by
  rw [Mo_small]
  have b_x0 := ibd x0
  refine sf_lt rfl (ilit (65 : Int32) (65) rfl) (fun c1 => ?_) (fun c1 => ?_)
  · skip
    exact sf_some trivial
  · skip
    refine sf_lt (ilit (90 : Int32) (90) rfl) rfl (fun c2 => ?_) (fun c2 => ?_)
    · skip
      exact sf_some trivial
    · skip
      exact sf_some trivial
set_option maxHeartbeats 4000000 in
set_option maxRecDepth 100000 in
theorem sp_Mo_atomNumber_115 (F : Nat) (hF : Big F) (t : StI) (tL : StL) (x1 : Int32) (y0 : Int32) (y1 : Int32) (h : 0 ≤ x1.toInt ∧ x1.toInt < 40 ∧ 0 ≤ y1.toInt ∧ y1.toInt < 40 ∧ 0 ≤ (t 20 0).toInt ∧ (t 20 0).toInt < 40) : Sf (Mo_atomNumber_115 F t tL x1 y0 y1) (fun r => (r.1.toInt = x1.toInt ∧ (r.2.1 20 0).toInt = (t 20 0).toInt + 1) ∧ FRM [20, 25, 26, 27, 28] t r.2.1) := by
  rw [Mo_atomNumber_115]
  have b_x1 := ibd x1
  have b_y0 := ibd y0
  have b_y1 := ibd y1
  refine sf_idx rfl (by first | (clear b_y0 b_x1; omega) | omega) (by first | (clear b_y0 b_x1; omega) | omega) ?_
  refine sf_up (fun t_25 ht_t_25 hn_t_25 => ?_)
  refine sf_idx rfl (by first | (clear b_y1 b_y0; omega) | omega) (by first | (clear b_y1 b_y0; omega) | omega) ?_
  refine sf_up (fun t_27 ht_t_27 hn_t_27 => ?_)
  refine sf_idx rfl (by first | (clear b_y1 b_y0; omega) | omega) (by first | (clear b_y1 b_y0; omega) | omega) ?_
  refine sf_up (fun t_29 ht_t_29 hn_t_29 => ?_)
  refine sf_idx rfl (by first | (clear b_y1 b_y0; omega) | omega) (by first | (clear b_y1 b_y0; omega) | omega) ?_
  refine sf_up (fun t_31 ht_t_31 hn_t_31 => ?_)
  refine sf_up (fun t_33 ht_t_33 hn_t_33 => ?_)
  have e1 : (t_25 20 0).toInt = (t 20 0).toInt := congrArg (fun q => Int32.toInt (q 0)) (hn_t_25 20 (by decide))
  have e2 : (t_27 20 0).toInt = (t_25 20 0).toInt := congrArg (fun q => Int32.toInt (q 0)) (hn_t_27 20 (by decide))
  have e3 : (t_29 20 0).toInt = (t_27 20 0).toInt := congrArg (fun q => Int32.toInt (q 0)) (hn_t_29 20 (by decide))
  have e4 : (t_31 20 0).toInt = (t_29 20 0).toInt := congrArg (fun q => Int32.toInt (q 0)) (hn_t_31 20 (by decide))
  have e5 : (t_33 20 0).toInt = _ := (congrArg (fun q => Int32.toInt (q 0)) ht_t_33).trans (iadd rfl (ilit (1 : Int32) (1) rfl))
  refine sf_some ⟨?_, FRM_up (FRM_up (FRM_up (FRM_up (FRM_up (FRM_refl _ _) (by decide) hn_t_25) (by decide) hn_t_27) (by decide) hn_t_29) (by decide) hn_t_31) (by decide) hn_t_33⟩
  ((try dsimp only) <;> omega)
set_option maxHeartbeats 4000000 in
set_option maxRecDepth 100000 in
theorem sp_Mo_take_hand_2 (F : Nat) (hF : Big F)   : ∀ (n : Nat) (t : StI) (tL : StL) (x2 : Int32) (x3 : Int32) (h : (0 ≤ x3.toInt ∧ x2.toInt ≤ 600) ∧ 601 - x3.toInt < (n : Int) ∧ 1 ≤ n), Sf (Mo_take_hand_2 F  n t tL x2 x3) (fun r => ((r.1 6 0).toInt = x2.toInt) ∧ FRM [4, 6] t r.1) := by
  intro n; induction n with
  | zero => intro t tL x2 x3 h; omega
  | succ n ih =>
    intro t tL x2 x3 h; rw [Mo_take_hand_2]
    have b_x2 := ibd x2
    have b_x3 := ibd x3
    refine sf_le rfl rfl (fun c1 => ?_) (fun c1 => ?_)
    · skip
      refine sf_up (fun t_7 ht_t_7 hn_t_7 => ?_)
      have e2 : (t_7 6 0).toInt = (x2).toInt := (congrArg (fun q => Int32.toInt (q 0)) ht_t_7).trans rfl
      refine sf_some ⟨?_, FRM_up (FRM_refl _ _) (by decide) hn_t_7⟩
      ((try dsimp only) <;> omega)
    · skip
      refine sf_idx rfl (by omega) (by omega) ?_
      refine sf_idx rfl (by omega) (by omega) ?_
      refine sf_up (fun t_9 ht_t_9 hn_t_9 => ?_)
      have g3 : ((x3 + (1 : Int32))).toInt = _ := (iadd rfl (ilit (1 : Int32) (1) rfl))
      refine sf_imp (ih t_9 tL x2 (x3 + (1 : Int32)) (by omega)) (fun r hr => ?_)
      (try dsimp only at hr)
      refine ⟨?_, FRM_trans (FRM_up (FRM_refl _ _) (by decide) hn_t_9) (FRM_sub (by decide) hr.2)⟩
      ((try dsimp only) <;> omega)
set_option maxHeartbeats 4000000 in
set_option maxRecDepth 100000 in
theorem sp_Mo_take_hand (F : Nat) (hF : Big F) (t : StI) (tL : StL) (x2 : Int32) (h : 0 ≤ x2.toInt ∧ x2.toInt ≤ 600) : Sf (Mo_take_hand F t tL x2) (fun r => ((r.1 6 0).toInt = x2.toInt) ∧ FRM [4, 6] t r.1) := by
  rw [Mo_take_hand]
  have b_x2 := ibd x2
  have g1 := (ilit (0 : Int32) (0) rfl)
  refine sf_imp (sp_Mo_take_hand_2 F hF   F t tL x2 (0 : Int32) (⟨by omega, fuel_ok hF (by first | (clear b_x2; omega) | omega)⟩)) (fun r hr => ?_)
  (try dsimp only at hr)
  refine ⟨?_, FRM_trans (FRM_refl _ _) (FRM_sub (by decide) hr.2)⟩
  ((try dsimp only) <;> omega)
set_option maxHeartbeats 4000000 in
set_option maxRecDepth 100000 in
theorem sp_Mo_take_query_2 (F : Nat) (hF : Big F)   : ∀ (n : Nat) (t : StI) (tL : StL) (x2 : Int32) (x3 : Int32) (h : (0 ≤ x3.toInt ∧ x2.toInt ≤ 600) ∧ 601 - x3.toInt < (n : Int) ∧ 1 ≤ n), Sf (Mo_take_query_2 F  n t tL x2 x3) (fun r => ((r.1 6 0).toInt = x2.toInt) ∧ FRM [4, 6] t r.1) := by
  intro n; induction n with
  | zero => intro t tL x2 x3 h; omega
  | succ n ih =>
    intro t tL x2 x3 h; rw [Mo_take_query_2]
    have b_x2 := ibd x2
    have b_x3 := ibd x3
    refine sf_le rfl rfl (fun c1 => ?_) (fun c1 => ?_)
    · skip
      refine sf_up (fun t_7 ht_t_7 hn_t_7 => ?_)
      have e2 : (t_7 6 0).toInt = (x2).toInt := (congrArg (fun q => Int32.toInt (q 0)) ht_t_7).trans rfl
      refine sf_some ⟨?_, FRM_up (FRM_refl _ _) (by decide) hn_t_7⟩
      ((try dsimp only) <;> omega)
    · skip
      refine sf_idx rfl (by omega) (by omega) ?_
      refine sf_idx rfl (by omega) (by omega) ?_
      refine sf_up (fun t_9 ht_t_9 hn_t_9 => ?_)
      have g3 : ((x3 + (1 : Int32))).toInt = _ := (iadd rfl (ilit (1 : Int32) (1) rfl))
      refine sf_imp (ih t_9 tL x2 (x3 + (1 : Int32)) (by omega)) (fun r hr => ?_)
      (try dsimp only at hr)
      refine ⟨?_, FRM_trans (FRM_up (FRM_refl _ _) (by decide) hn_t_9) (FRM_sub (by decide) hr.2)⟩
      ((try dsimp only) <;> omega)
set_option maxHeartbeats 4000000 in
set_option maxRecDepth 100000 in
theorem sp_Mo_take_query (F : Nat) (hF : Big F) (t : StI) (tL : StL) (x2 : Int32) (h : 0 ≤ x2.toInt ∧ x2.toInt ≤ 600) : Sf (Mo_take_query F t tL x2) (fun r => ((r.1 6 0).toInt = x2.toInt) ∧ FRM [4, 6] t r.1) := by
  rw [Mo_take_query]
  have b_x2 := ibd x2
  have g1 := (ilit (0 : Int32) (0) rfl)
  refine sf_imp (sp_Mo_take_query_2 F hF   F t tL x2 (0 : Int32) (⟨by omega, fuel_ok hF (by first | (clear b_x2; omega) | omega)⟩)) (fun r hr => ?_)
  (try dsimp only at hr)
  refine ⟨?_, FRM_trans (FRM_refl _ _) (FRM_sub (by decide) hr.2)⟩
  ((try dsimp only) <;> omega)
set_option maxHeartbeats 4000000 in
set_option maxRecDepth 100000 in
theorem sp_Mo_read_88 (F : Nat) (hF : Big F)   : ∀ (n : Nat) (t : StI) (tL : StL) (x1 : Int32) (h : ((0 ≤ (t 6 0).toInt ∧ (t 6 0).toInt ≤ 600) ∧ 0 ≤ x1.toInt) ∧ 601 - x1.toInt < (n : Int) ∧ 1 ≤ n), Sf (Mo_read_88 F  n t tL x1) (fun r => (r.1.toInt = (t 20 0).toInt) ∧ FRM [5] t r.2.1) := by
  intro n; induction n with
  | zero => intro t tL x1 h; omega
  | succ n ih =>
    intro t tL x1 h; rw [Mo_read_88]
    have b_x1 := ibd x1
    refine sf_le rfl rfl (fun c1 => ?_) (fun c1 => ?_)
    · skip
      refine sf_some ⟨?_, FRM_refl _ _⟩
      ((try dsimp only) <;> omega)
    · skip
      refine sf_idx rfl (by omega) (by omega) ?_
      refine sf_idx rfl (by omega) (by omega) ?_
      refine sf_up (fun t_18 ht_t_18 hn_t_18 => ?_)
      have g2 : ((x1 + (1 : Int32))).toInt = _ := (iadd rfl (ilit (1 : Int32) (1) rfl))
      have e3 : (t_18 6 0).toInt = (t 6 0).toInt := congrArg (fun q => Int32.toInt (q 0)) (hn_t_18 6 (by decide))
      refine sf_imp (ih t_18 tL (x1 + (1 : Int32)) (by omega)) (fun r hr => ?_)
      have e4 : (t_18 20 0).toInt = (t 20 0).toInt := congrArg (fun q => Int32.toInt (q 0)) (hn_t_18 20 (by decide))
      (try dsimp only at hr)
      refine ⟨?_, FRM_trans (FRM_up (FRM_refl _ _) (by decide) hn_t_18) (FRM_sub (by decide) hr.2)⟩
      ((try dsimp only) <;> omega)
set_option maxHeartbeats 4000000 in
set_option maxRecDepth 100000 in
theorem sp_Mo_fault (F : Nat) (hF : Big F) (t : StI) (tL : StL) (x1 : Int32) (h : True) : Sf (Mo_fault F t tL x1) (fun r => (True) ∧ FRM [0] t r.2.1) := by
  rw [Mo_fault]
  have b_x1 := ibd x1
  refine sf_up (fun t_4 ht_t_4 hn_t_4 => ?_)
  refine sf_eq rfl (ilit (0 : Int32) (0) rfl) (fun c1 => ?_) (fun c1 => ?_)
  · skip
    exact sf_some ⟨trivial, FRM_up (FRM_refl _ _) (by decide) hn_t_4⟩
  · skip
    refine sf_eq rfl (ilit (1 : Int32) (1) rfl) (fun c2 => ?_) (fun c2 => ?_)
    · skip
      exact sf_some ⟨trivial, FRM_up (FRM_refl _ _) (by decide) hn_t_4⟩
    · skip
      exact sf_some ⟨trivial, FRM_up (FRM_refl _ _) (by decide) hn_t_4⟩
set_option maxHeartbeats 4000000 in
set_option maxRecDepth 100000 in
theorem sp_Mo_atom (F : Nat) (hF : Big F) (t : StI) (tL : StL) (x1 : Int32) (x2 : Int32) (h : 0 ≤ (t 20 0).toInt ∧ (t 20 0).toInt ≤ 40) : Sf (Mo_atom F t tL x1 x2) (fun r => (True) ∧ FRM [0] t r.2.1) := by
  rw [Mo_atom]
  have b_x1 := ibd x1
  have b_x2 := ibd x2
  refine sf_up (fun t_15 ht_t_15 hn_t_15 => ?_)
  refine sf_lt rfl (ilit (0 : Int32) (0) rfl) (fun c1 => ?_) (fun c1 => ?_)
  · skip
    exact sf_some ⟨trivial, FRM_up (FRM_refl _ _) (by decide) hn_t_15⟩
  · skip
    have e2 : (t_15 20 0).toInt = (t 20 0).toInt := congrArg (fun q => Int32.toInt (q 0)) (hn_t_15 20 (by decide))
    refine sf_lt rfl rfl (fun c3 => ?_) (fun c3 => ?_)
    · skip
      refine sf_eq rfl (ilit (0 : Int32) (0) rfl) (fun c4 => ?_) (fun c4 => ?_)
      · skip
        refine sf_idx rfl (by first | (clear c4 b_x2; omega) | omega) (by first | (clear c4 b_x2; omega) | omega) ?_
        exact sf_some ⟨trivial, FRM_up (FRM_refl _ _) (by decide) hn_t_15⟩
      · skip
        refine sf_eq rfl (ilit (1 : Int32) (1) rfl) (fun c5 => ?_) (fun c5 => ?_)
        · skip
          refine sf_idx rfl (by first | (clear c5 c4 b_x2; omega) | omega) (by first | (clear c5 c4 b_x2; omega) | omega) ?_
          have b7 := ibd ((t_15 29) x1.toNatClampNeg)
          refine sf_eq rfl (ilit (0 : Int32) (0) rfl) (fun c6 => ?_) (fun c6 => ?_)
          · skip
            exact sf_some ⟨trivial, FRM_up (FRM_refl _ _) (by decide) hn_t_15⟩
          · skip
            exact sf_some ⟨trivial, FRM_up (FRM_refl _ _) (by decide) hn_t_15⟩
        · skip
          refine sf_eq rfl (ilit (2 : Int32) (2) rfl) (fun c8 => ?_) (fun c8 => ?_)
          · skip
            refine sf_idx rfl (by first | (clear c8 c5 c4 b_x2; omega) | omega) (by first | (clear c8 c5 c4 b_x2; omega) | omega) ?_
            exact sf_some ⟨trivial, FRM_up (FRM_refl _ _) (by decide) hn_t_15⟩
          · skip
            refine sf_eq rfl (ilit (3 : Int32) (3) rfl) (fun c9 => ?_) (fun c9 => ?_)
            · skip
              refine sf_idx rfl (by first | (clear c9 c8 c5 c4 b_x2; omega) | omega) (by first | (clear c9 c8 c5 c4 b_x2; omega) | omega) ?_
              exact sf_some ⟨trivial, FRM_up (FRM_refl _ _) (by decide) hn_t_15⟩
            · skip
              refine sf_eq rfl (ilit (4 : Int32) (4) rfl) (fun c10 => ?_) (fun c10 => ?_)
              · skip
                refine sf_idx rfl (by first | (clear c10 c9 c8 c5 c4 b_x2; omega) | omega) (by first | (clear c10 c9 c8 c5 c4 b_x2; omega) | omega) ?_
                exact sf_some ⟨trivial, FRM_up (FRM_refl _ _) (by decide) hn_t_15⟩
              · skip
                exact sf_some ⟨trivial, FRM_up (FRM_refl _ _) (by decide) hn_t_15⟩
    · skip
      exact sf_some ⟨trivial, FRM_up (FRM_refl _ _) (by decide) hn_t_15⟩
set_option maxHeartbeats 4000000 in
set_option maxRecDepth 100000 in
theorem sp_Mo_range (F : Nat) (hF : Big F) (t : StI) (tL : StL) (x1 : Int32) (x2 : Int32) (h : 0 ≤ (t 20 0).toInt ∧ (t 20 0).toInt ≤ 40) : Sf (Mo_range F t tL x1 x2) (fun r => (True) ∧ FRM [0] t r.2.1) := by
  rw [Mo_range]
  have b_x1 := ibd x1
  have b_x2 := ibd x2
  refine sf_up (fun t_10 ht_t_10 hn_t_10 => ?_)
  refine sf_lt rfl (ilit (0 : Int32) (0) rfl) (fun c1 => ?_) (fun c1 => ?_)
  · skip
    exact sf_some ⟨trivial, FRM_up (FRM_refl _ _) (by decide) hn_t_10⟩
  · skip
    have e2 : (t_10 20 0).toInt = (t 20 0).toInt := congrArg (fun q => Int32.toInt (q 0)) (hn_t_10 20 (by decide))
    refine sf_le rfl rfl (fun c3 => ?_) (fun c3 => ?_)
    · skip
      exact sf_some ⟨trivial, FRM_up (FRM_refl _ _) (by decide) hn_t_10⟩
    · skip
      refine sf_idx rfl (by first | (clear b_x2; omega) | omega) (by first | (clear b_x2; omega) | omega) ?_
      have b5 := ibd ((t_10 22) x1.toNatClampNeg)
      refine sf_le (ilit (11 : Int32) (11) rfl) rfl (fun c4 => ?_) (fun c4 => ?_)
      · skip
        refine sf_eq rfl (ilit (0 : Int32) (0) rfl) (fun c6 => ?_) (fun c6 => ?_)
        · skip
          refine sf_idx rfl (by first | (clear c6 b_x2; omega) | omega) (by first | (clear c6 b_x2; omega) | omega) ?_
          exact sf_some ⟨trivial, FRM_up (FRM_refl _ _) (by decide) hn_t_10⟩
        · skip
          refine sf_eq rfl (ilit (1 : Int32) (1) rfl) (fun c7 => ?_) (fun c7 => ?_)
          · skip
            refine sf_idx rfl (by first | (clear c7 c6 b_x2; omega) | omega) (by first | (clear c7 c6 b_x2; omega) | omega) ?_
            exact sf_some ⟨trivial, FRM_up (FRM_refl _ _) (by decide) hn_t_10⟩
          · skip
            exact sf_some ⟨trivial, FRM_up (FRM_refl _ _) (by decide) hn_t_10⟩
      · skip
        exact sf_some ⟨trivial, FRM_up (FRM_refl _ _) (by decide) hn_t_10⟩
set_option maxHeartbeats 4000000 in
set_option maxRecDepth 100000 in
theorem sp_Mo_printed (F : Nat) (hF : Big F) (t : StI) (tL : StL) (x1 : Int32) (h : (t 46 0).toInt ≤ 2000) : Sf (Mo_printed F t tL x1) (fun r => (True) ∧ FRM [0] t r.2.1) := by
  rw [Mo_printed]
  have b_x1 := ibd x1
  refine sf_up (fun t_5 ht_t_5 hn_t_5 => ?_)
  refine sf_lt rfl (ilit (0 : Int32) (0) rfl) (fun c1 => ?_) (fun c1 => ?_)
  · skip
    exact sf_some ⟨trivial, FRM_up (FRM_refl _ _) (by decide) hn_t_5⟩
  · skip
    have e2 : (t_5 46 0).toInt = (t 46 0).toInt := congrArg (fun q => Int32.toInt (q 0)) (hn_t_5 46 (by decide))
    refine sf_le rfl rfl (fun c3 => ?_) (fun c3 => ?_)
    · skip
      exact sf_some ⟨trivial, FRM_up (FRM_refl _ _) (by decide) hn_t_5⟩
    · skip
      refine sf_idx rfl (by omega) (by omega) ?_
      exact sf_some ⟨trivial, FRM_up (FRM_refl _ _) (by decide) hn_t_5⟩
set_option maxHeartbeats 4000000 in
set_option maxRecDepth 100000 in
theorem sp_Mo_row (F : Nat) (hF : Big F) (t : StI) (tL : StL) (x1 : Int32) (x2 : Int32) (h : 0 ≤ (t 52 0).toInt ∧ (t 52 0).toInt ≤ 200) : Sf (Mo_row F t tL x1 x2) (fun r => (True) ∧ FRM [0] t r.2.1) := by
  rw [Mo_row]
  have b_x1 := ibd x1
  have b_x2 := ibd x2
  refine sf_up (fun t_7 ht_t_7 hn_t_7 => ?_)
  refine sf_lt rfl (ilit (0 : Int32) (0) rfl) (fun c1 => ?_) (fun c1 => ?_)
  · skip
    exact sf_some ⟨trivial, FRM_up (FRM_refl _ _) (by decide) hn_t_7⟩
  · skip
    have e2 : (t_7 52 0).toInt = (t 52 0).toInt := congrArg (fun q => Int32.toInt (q 0)) (hn_t_7 52 (by decide))
    refine sf_lt rfl rfl (fun c3 => ?_) (fun c3 => ?_)
    · skip
      refine sf_eq rfl (ilit (0 : Int32) (0) rfl) (fun c4 => ?_) (fun c4 => ?_)
      · skip
        refine sf_idx rfl (by first | (clear c4 b_x2; omega) | omega) (by first | (clear c4 b_x2; omega) | omega) ?_
        exact sf_some ⟨trivial, FRM_up (FRM_refl _ _) (by decide) hn_t_7⟩
      · skip
        refine sf_idx rfl (by first | (clear c4 b_x2; omega) | omega) (by first | (clear c4 b_x2; omega) | omega) ?_
        exact sf_some ⟨trivial, FRM_up (FRM_refl _ _) (by decide) hn_t_7⟩
    · skip
      exact sf_some ⟨trivial, FRM_up (FRM_refl _ _) (by decide) hn_t_7⟩

