set_option maxHeartbeats 4000000 in
set_option maxRecDepth 100000 in
theorem sp_Rows_bitsOf (F : Nat) (hF : Big F) (t : StI) (tL : StL) (x1 : Int32) (x2 : Int32) (h : (0 ≤ (t 2 0).toInt ∧ (t 2 0).toInt ≤ 2400 ∧ 0 ≤ (t 5 0).toInt ∧ (t 5 0).toInt ≤ 40 ∧ 0 ≤ (t 10 0).toInt ∧ (t 10 0).toInt ≤ 200)) : Sf (Rows_bitsOf F t tL x1 x2) (fun r => True) := by
  rw [Rows_bitsOf]
  have b_x1 := ibd x1
  have b_x2 := ibd x2
  refine sf_lt rfl (ilit (0 : Int32) (0) rfl) (fun c1 => ?_) (fun c1 => ?_)
  · skip
    exact sf_some trivial
  · skip
    refine sf_lt rfl rfl (fun c2 => ?_) (fun c2 => ?_)
    · skip
      refine sf_eq rfl (ilit (0 : Int32) (0) rfl) (fun c3 => ?_) (fun c3 => ?_)
      · skip
        refine sf_idx rfl (by first | (clear c3 b_x2; omega) | omega) (by first | (clear c3 b_x2; omega) | omega) ?_
        exact sf_some trivial
      · skip
        refine sf_idx rfl (by first | (clear c3 b_x2; omega) | omega) (by first | (clear c3 b_x2; omega) | omega) ?_
        exact sf_some trivial
    · skip
      exact sf_some trivial
set_option maxHeartbeats 4000000 in
set_option maxRecDepth 100000 in
theorem sp_Rows_sideFrom (F : Nat) (hF : Big F) (t : StI) (tL : StL) (x1 : Int32) (x2 : Int32) (hI : RowsI t) (h : (0 ≤ (t 2 0).toInt ∧ (t 2 0).toInt ≤ 2400 ∧ 0 ≤ (t 5 0).toInt ∧ (t 5 0).toInt ≤ 40 ∧ 0 ≤ (t 10 0).toInt ∧ (t 10 0).toInt ≤ 200)) : Sf (Rows_sideFrom F t tL x1 x2) (fun r => 0 ≤ r.toInt ∧ r.toInt ≤ 2400) := by
  rw [Rows_sideFrom]
  have b_x1 := ibd x1
  have b_x2 := ibd x2
  refine sf_lt rfl (ilit (0 : Int32) (0) rfl) (fun c1 => ?_) (fun c1 => ?_)
  · skip
    have g2 := (ilit (0 : Int32) (0) rfl)
    refine sf_some ?_
    (try dsimp only)
    omega
  · skip
    refine sf_lt rfl rfl (fun c3 => ?_) (fun c3 => ?_)
    · skip
      refine sf_eq rfl (ilit (1 : Int32) (1) rfl) (fun c4 => ?_) (fun c4 => ?_)
      · skip
        refine sf_idx rfl (by first | (clear c4 b_x2; omega) | omega) (by first | (clear c4 b_x2; omega) | omega) ?_
        have q_1 := hI (x1.toNatClampNeg)
        refine sf_some ?_
        (try dsimp only)
        omega
      · skip
        refine sf_idx rfl (by first | (clear c4 b_x2; omega) | omega) (by first | (clear c4 b_x2; omega) | omega) ?_
        have q_1 := hI (x1.toNatClampNeg)
        refine sf_some ?_
        (try dsimp only)
        omega
    · skip
      have g5 := (ilit (0 : Int32) (0) rfl)
      refine sf_some ?_
      (try dsimp only)
      omega
set_option maxHeartbeats 4000000 in
set_option maxRecDepth 100000 in
theorem sp_Rows_sideTo (F : Nat) (hF : Big F) (t : StI) (tL : StL) (x1 : Int32) (x2 : Int32) (hI : RowsI t) (h : (0 ≤ (t 2 0).toInt ∧ (t 2 0).toInt ≤ 2400 ∧ 0 ≤ (t 5 0).toInt ∧ (t 5 0).toInt ≤ 40 ∧ 0 ≤ (t 10 0).toInt ∧ (t 10 0).toInt ≤ 200)) : Sf (Rows_sideTo F t tL x1 x2) (fun r => 0 ≤ r.toInt ∧ r.toInt ≤ 2400) := by
  rw [Rows_sideTo]
  have b_x1 := ibd x1
  have b_x2 := ibd x2
  refine sf_lt rfl (ilit (0 : Int32) (0) rfl) (fun c1 => ?_) (fun c1 => ?_)
  · skip
    have g2 := (ilit (0 : Int32) (0) rfl)
    refine sf_some ?_
    (try dsimp only)
    omega
  · skip
    refine sf_lt rfl rfl (fun c3 => ?_) (fun c3 => ?_)
    · skip
      refine sf_eq rfl (ilit (1 : Int32) (1) rfl) (fun c4 => ?_) (fun c4 => ?_)
      · skip
        refine sf_idx rfl (by first | (clear c4 b_x2; omega) | omega) (by first | (clear c4 b_x2; omega) | omega) ?_
        have q_1 := hI (x1.toNatClampNeg)
        refine sf_some ?_
        (try dsimp only)
        omega
      · skip
        refine sf_idx (iadd rfl (ilit (1 : Int32) (1) rfl)) (by first | (clear c4 b_x2; omega) | omega) (by first | (clear c4 b_x2; omega) | omega) ?_
        have q_1 := hI ((x1 + (1 : Int32)).toNatClampNeg)
        refine sf_some ?_
        (try dsimp only)
        omega
    · skip
      have g5 := (ilit (0 : Int32) (0) rfl)
      refine sf_some ?_
      (try dsimp only)
      omega
set_option maxHeartbeats 4000000 in
set_option maxRecDepth 100000 in
theorem sp_Rows_put (F : Nat) (hF : Big F) (t : StI) (tL : StL) (x1 : Int32) (x2 : Int64) (x4 : Int64) (h : (0 ≤ (t 2 0).toInt ∧ (t 2 0).toInt ≤ 2400 ∧ 0 ≤ (t 5 0).toInt ∧ (t 5 0).toInt ≤ 40 ∧ 0 ≤ (t 10 0).toInt ∧ (t 10 0).toInt ≤ 200)) : Sf (Rows_put F t tL x1 x2 x4) (fun r => ((r.1.toInt = 0 ∨ r.1.toInt = 1) ∧ (0 ≤ (r.2.1 2 0).toInt ∧ (r.2.1 2 0).toInt ≤ 2400 ∧ 0 ≤ (r.2.1 5 0).toInt ∧ (r.2.1 5 0).toInt ≤ 40 ∧ 0 ≤ (r.2.1 10 0).toInt ∧ (r.2.1 10 0).toInt ≤ 200) ∧ (r.2.1 5 0).toInt = (t 5 0).toInt ∧ (r.2.1 10 0).toInt = (t 10 0).toInt ∧ (t 2 0).toInt ≤ (r.2.1 2 0).toInt) ∧ RF 2 t r.2.1) := by
  rw [Rows_put]
  have b_x1 := ibd x1
  refine sf_le (ilit (200 : Int32) (200) rfl) (isub rfl rfl) (fun c1 => ?_) (fun c1 => ?_)
  · skip
    have g2 := (ilit (0 : Int32) (0) rfl)
    refine sf_some ⟨?_, RF_refl _⟩
    (try dsimp only)
    omega
  · skip
    refine sf_lt rfl (ilit (0 : Int32) (0) rfl) (fun c3 => ?_) (fun c3 => ?_)
    · skip
      have g4 := (ilit (0 : Int32) (0) rfl)
      refine sf_some ⟨?_, RF_refl _⟩
      (try dsimp only)
      omega
    · skip
      refine sf_lt rfl (ilit (2400 : Int32) (2400) rfl) (fun c5 => ?_) (fun c5 => ?_)
      · skip
        refine sf_idx rfl (by omega) (by omega) ?_
        refine sf_up (fun t_12 ht_t_12 hn_t_12 => ?_)
        refine sf_idx rfl (by omega) (by omega) ?_
        refine sf_up (fun t_14 ht_t_14 hn_t_14 => ?_)
        refine sf_up (fun t_16 ht_t_16 hn_t_16 => ?_)
        have g6 := (ilit (1 : Int32) (1) rfl)
        have e7 : (t_16 2 0).toInt = _ := (congrArg (fun q => Int32.toInt (q 0)) ht_t_16).trans (iadd rfl (ilit (1 : Int32) (1) rfl))
        have e8 : (t_16 5 0).toInt = (t 5 0).toInt := congrArg (fun q => Int32.toInt (q 0)) (hn_t_16 5 (by decide))
        have e9 : (t_16 10 0).toInt = (t 10 0).toInt := congrArg (fun q => Int32.toInt (q 0)) (hn_t_16 10 (by decide))
        refine sf_some ⟨?_, RF_trans (RF_refl _) hn_t_16⟩
        (try dsimp only)
        omega
      · skip
        have g10 := (ilit (0 : Int32) (0) rfl)
        refine sf_some ⟨?_, RF_refl _⟩
        (try dsimp only)
        omega
set_option maxHeartbeats 4000000 in
set_option maxRecDepth 100000 in
theorem sp_Rows_hasOneOf_27 (F : Nat) (hF : Big F)   : ∀ (n : Nat) (t : StI) (tL : StL) (x1 : Int32) (x3 : Int32) (x4 : Int32) (x5 : Int64) (x7 : Int64) (x9 : Int32) (h : (0 ≤ x1.toInt ∧ x1.toInt < 2400 ∧ 0 ≤ x9.toInt ∧ x3.toInt ≤ 2400) ∧ x3.toInt - x9.toInt < (n : Int) ∧ 1 ≤ n), Sf (Rows_hasOneOf_27 F  n t tL x1 x3 x4 x5 x7 x9) (fun r => (r.toInt = 0 ∨ r.toInt = 1)) := by
  intro n; induction n with
  | zero => intro t tL x1 x3 x4 x5 x7 x9 h; omega
  | succ n ih =>
    intro t tL x1 x3 x4 x5 x7 x9 h; rw [Rows_hasOneOf_27]
    have b_x1 := ibd x1
    have b_x3 := ibd x3
    have b_x4 := ibd x4
    have b_x9 := ibd x9
    refine sf_le rfl rfl (fun c1 => ?_) (fun c1 => ?_)
    · skip
      have g2 := (ilit (0 : Int32) (0) rfl)
      refine sf_some ?_
      (try dsimp only)
      omega
    · skip
      refine sf_idx rfl (by first | (clear b_x4 b_x1; omega) | omega) (by first | (clear b_x4 b_x1; omega) | omega) ?_
      refine sf_any ?_ ?_
      · skip
        refine sf_idx rfl (by first | (clear b_x4 b_x1; omega) | omega) (by first | (clear b_x4 b_x1; omega) | omega) ?_
        refine sf_any ?_ ?_
        · skip
          refine sf_eq rfl (ilit (0 : Int32) (0) rfl) (fun c5 => ?_) (fun c5 => ?_)
          · skip
            refine sf_idx rfl (by first | (clear c5 b_x4 b_x1; omega) | omega) (by first | (clear c5 b_x4 b_x1; omega) | omega) ?_
            refine sf_idx rfl (by first | (clear c5 c1 b_x9 b_x4 b_x3; omega) | omega) (by first | (clear c5 c1 b_x9 b_x4 b_x3; omega) | omega) ?_
            refine sf_any ?_ ?_
            · skip
              refine sf_idx rfl (by first | (clear c5 b_x4 b_x1; omega) | omega) (by first | (clear c5 b_x4 b_x1; omega) | omega) ?_
              refine sf_idx rfl (by first | (clear c5 c1 b_x9 b_x4 b_x3; omega) | omega) (by first | (clear c5 c1 b_x9 b_x4 b_x3; omega) | omega) ?_
              refine sf_any ?_ ?_
              · skip
                rw [Rows_hasOneOf_104]
                have g8 : ((x9 + (1 : Int32))).toInt = _ := (iadd rfl (ilit (1 : Int32) (1) rfl))
                refine sf_imp (ih t tL x1 x3 x4 x5 x7 (x9 + (1 : Int32)) (by first | (clear c5 b_x4; omega) | omega)) (fun r hr => ?_)
                (try dsimp only at hr)
                (try dsimp only)
                omega
              · skip
                have g9 := (ilit (1 : Int32) (1) rfl)
                refine sf_some ?_
                (try dsimp only)
                omega
            · skip
              have g10 := (ilit (1 : Int32) (1) rfl)
              refine sf_some ?_
              (try dsimp only)
              omega
          · skip
            have g11 := (ilit (1 : Int32) (1) rfl)
            refine sf_some ?_
            (try dsimp only)
            omega
        · skip
          rw [Rows_hasOneOf_104]
          have g12 : ((x9 + (1 : Int32))).toInt = _ := (iadd rfl (ilit (1 : Int32) (1) rfl))
          refine sf_imp (ih t tL x1 x3 x4 x5 x7 (x9 + (1 : Int32)) (by first | (clear b_x4; omega) | omega)) (fun r hr => ?_)
          (try dsimp only at hr)
          (try dsimp only)
          omega
      · skip
        rw [Rows_hasOneOf_104]
        have g13 : ((x9 + (1 : Int32))).toInt = _ := (iadd rfl (ilit (1 : Int32) (1) rfl))
        refine sf_imp (ih t tL x1 x3 x4 x5 x7 (x9 + (1 : Int32)) (by first | (clear b_x4; omega) | omega)) (fun r hr => ?_)
        (try dsimp only at hr)
        (try dsimp only)
        omega
set_option maxHeartbeats 4000000 in
set_option maxRecDepth 100000 in
theorem sp_Rows_hasOneOf (F : Nat) (hF : Big F) (t : StI) (tL : StL) (x1 : Int32) (x2 : Int32) (x3 : Int32) (x4 : Int32) (h : 0 ≤ x1.toInt ∧ x1.toInt < 2400 ∧ 0 ≤ x2.toInt ∧ x3.toInt ≤ 2400) : Sf (Rows_hasOneOf F t tL x1 x2 x3 x4) (fun r => (r.toInt = 0 ∨ r.toInt = 1)) := by
  rw [Rows_hasOneOf]
  have b_x1 := ibd x1
  have b_x2 := ibd x2
  have b_x3 := ibd x3
  have b_x4 := ibd x4
  refine sf_idx rfl (by first | (clear b_x4 b_x3 b_x2; omega) | omega) (by first | (clear b_x4 b_x3 b_x2; omega) | omega) ?_
  refine sf_idx rfl (by first | (clear b_x4 b_x3 b_x2; omega) | omega) (by first | (clear b_x4 b_x3 b_x2; omega) | omega) ?_
  refine sf_imp (sp_Rows_hasOneOf_27 F hF   F t tL x1 x3 x4 (((tL 0) x1.toNatClampNeg) ^^^ (-1 : Int64)) (((tL 1) x1.toNatClampNeg) ^^^ (-1 : Int64)) x2 (⟨by first | (clear b_x4; omega) | omega, fuel_ok hF (by first | (clear b_x4 b_x1; omega) | omega)⟩)) (fun r hr => ?_)
  (try dsimp only at hr)
  (try dsimp only)
  omega
set_option maxHeartbeats 4000000 in
set_option maxRecDepth 100000 in
theorem sp_Rows_leaveOut_10 (F : Nat) (hF : Big F)   : ∀ (n : Nat) (t : StI) (tL : StL) (x1 : Int32) (x2 : Int32) (x3 : Int32) (x4 : Int32) (h : ((0 ≤ (t 2 0).toInt ∧ (t 2 0).toInt ≤ 2400 ∧ 0 ≤ (t 5 0).toInt ∧ (t 5 0).toInt ≤ 40 ∧ 0 ≤ (t 10 0).toInt ∧ (t 10 0).toInt ≤ 200) ∧ 0 ≤ x1.toInt ∧ x1.toInt ≤ x3.toInt ∧ x3.toInt ≤ x4.toInt ∧ x4.toInt ≤ x2.toInt ∧ x2.toInt ≤ 2400) ∧ x2.toInt - x4.toInt < (n : Int) ∧ 1 ≤ n), Sf (Rows_leaveOut_10 F  n t tL x1 x2 x3 x4) (fun r => ((0 ≤ (r.1 2 0).toInt ∧ (r.1 2 0).toInt ≤ 2400 ∧ 0 ≤ (r.1 5 0).toInt ∧ (r.1 5 0).toInt ≤ 40 ∧ 0 ≤ (r.1 10 0).toInt ∧ (r.1 10 0).toInt ≤ 200) ∧ (r.1 5 0).toInt = (t 5 0).toInt ∧ (r.1 10 0).toInt = (t 10 0).toInt ∧ x1.toInt ≤ (r.1 2 0).toInt) ∧ RF 2 t r.1) := by
  intro n; induction n with
  | zero => intro t tL x1 x2 x3 x4 h; omega
  | succ n ih =>
    intro t tL x1 x2 x3 x4 h; rw [Rows_leaveOut_10]
    have b_x1 := ibd x1
    have b_x2 := ibd x2
    have b_x3 := ibd x3
    have b_x4 := ibd x4
    refine sf_le rfl rfl (fun c1 => ?_) (fun c1 => ?_)
    · skip
      refine sf_up (fun t_14 ht_t_14 hn_t_14 => ?_)
      have e2 : (t_14 2 0).toInt = (x3).toInt := (congrArg (fun q => Int32.toInt (q 0)) ht_t_14).trans rfl
      have e3 : (t_14 5 0).toInt = (t 5 0).toInt := congrArg (fun q => Int32.toInt (q 0)) (hn_t_14 5 (by decide))
      have e4 : (t_14 10 0).toInt = (t 10 0).toInt := congrArg (fun q => Int32.toInt (q 0)) (hn_t_14 10 (by decide))
      refine sf_some ⟨?_, RF_trans (RF_refl _) hn_t_14⟩
      (try dsimp only)
      omega
    · skip
      have g5 := (ilit (1 : Int32) (1) rfl)
      refine sf_bind (sp_Rows_hasOneOf F hF t tL x4 x1 x3 (1 : Int32) (by omega)) (fun r15 h_r15 => ?_)
      refine sf_eq rfl (ilit (0 : Int32) (0) rfl) (fun c6 => ?_) (fun c6 => ?_)
      · skip
        have g7 : ((x4 + (1 : Int32))).toInt = _ := (iadd rfl (ilit (1 : Int32) (1) rfl))
        have g8 := (ilit (0 : Int32) (0) rfl)
        refine sf_bind (sp_Rows_hasOneOf F hF t tL x4 (x4 + (1 : Int32)) x2 (0 : Int32) (by first | (clear c6 h_r15; omega) | omega)) (fun r17 h_r17 => ?_)
        refine sf_eq rfl (ilit (0 : Int32) (0) rfl) (fun c9 => ?_) (fun c9 => ?_)
        · skip
          refine sf_idx rfl (by first | (clear c9 h_r17 c6 h_r15; omega) | omega) (by first | (clear c9 h_r17 c6 h_r15; omega) | omega) ?_
          refine sf_idx rfl (by first | (clear c9 h_r17 c6 h_r15; omega) | omega) (by first | (clear c9 h_r17 c6 h_r15; omega) | omega) ?_
          refine sf_up (fun t_20 ht_t_20 hn_t_20 => ?_)
          refine sf_idx rfl (by first | (clear c9 h_r17 c6 h_r15; omega) | omega) (by first | (clear c9 h_r17 c6 h_r15; omega) | omega) ?_
          refine sf_idx rfl (by first | (clear c9 h_r17 c6 h_r15; omega) | omega) (by first | (clear c9 h_r17 c6 h_r15; omega) | omega) ?_
          refine sf_up (fun t_23 ht_t_23 hn_t_23 => ?_)
          rw [Rows_leaveOut_72]
          have g10 : ((x3 + (1 : Int32))).toInt = _ := (iadd rfl (ilit (1 : Int32) (1) rfl))
          refine sf_imp (ih t t_23 x1 x2 (x3 + (1 : Int32)) (x4 + (1 : Int32)) (by first | (clear c9 h_r17 c6 h_r15; omega) | omega)) (fun r hr => ?_)
          (try dsimp only at hr)
          (try dsimp only)
          refine ⟨?_, RF_trans (RF_refl _) hr.2⟩
          omega
        · skip
          rw [Rows_leaveOut_72]
          refine sf_imp (ih t tL x1 x2 x3 (x4 + (1 : Int32)) (by first | (clear c9 h_r17 c6 h_r15; omega) | omega)) (fun r hr => ?_)
          (try dsimp only at hr)
          (try dsimp only)
          refine ⟨?_, RF_trans (RF_refl _) hr.2⟩
          omega
      · skip
        rw [Rows_leaveOut_72]
        have g11 : ((x4 + (1 : Int32))).toInt = _ := (iadd rfl (ilit (1 : Int32) (1) rfl))
        refine sf_imp (ih t tL x1 x2 x3 (x4 + (1 : Int32)) (by first | (clear c6 h_r15; omega) | omega)) (fun r hr => ?_)
        (try dsimp only at hr)
        (try dsimp only)
        refine ⟨?_, RF_trans (RF_refl _) hr.2⟩
        omega
set_option maxHeartbeats 4000000 in
set_option maxRecDepth 100000 in
theorem sp_Rows_leaveOut (F : Nat) (hF : Big F) (t : StI) (tL : StL) (x1 : Int32) (h : (0 ≤ (t 2 0).toInt ∧ (t 2 0).toInt ≤ 2400 ∧ 0 ≤ (t 5 0).toInt ∧ (t 5 0).toInt ≤ 40 ∧ 0 ≤ (t 10 0).toInt ∧ (t 10 0).toInt ≤ 200) ∧ 0 ≤ x1.toInt ∧ x1.toInt ≤ (t 2 0).toInt) : Sf (Rows_leaveOut F t tL x1) (fun r => ((0 ≤ (r.1 2 0).toInt ∧ (r.1 2 0).toInt ≤ 2400 ∧ 0 ≤ (r.1 5 0).toInt ∧ (r.1 5 0).toInt ≤ 40 ∧ 0 ≤ (r.1 10 0).toInt ∧ (r.1 10 0).toInt ≤ 200) ∧ (r.1 5 0).toInt = (t 5 0).toInt ∧ (r.1 10 0).toInt = (t 10 0).toInt ∧ x1.toInt ≤ (r.1 2 0).toInt) ∧ RF 2 t r.1) := by
  rw [Rows_leaveOut]
  have b_x1 := ibd x1
  refine sf_imp (sp_Rows_leaveOut_10 F hF   F t tL x1 (t 2 0) x1 x1 (⟨by omega, fuel_ok hF (by omega)⟩)) (fun r hr => ?_)
  (try dsimp only at hr)
  (try dsimp only)
  refine ⟨?_, RF_trans (RF_refl _) hr.2⟩
  omega
set_option maxHeartbeats 4000000 in
set_option maxRecDepth 100000 in
theorem sp_Rows_putSide_16 (F : Nat) (hF : Big F)   : ∀ (n : Nat) (t : StI) (tL : StL) (x1 : Int32) (x4 : Int32) (x5 : Int32) (h : ((0 ≤ (t 2 0).toInt ∧ (t 2 0).toInt ≤ 2400 ∧ 0 ≤ (t 5 0).toInt ∧ (t 5 0).toInt ≤ 40 ∧ 0 ≤ (t 10 0).toInt ∧ (t 10 0).toInt ≤ 200) ∧ 0 ≤ x5.toInt ∧ x4.toInt ≤ 2400) ∧ x4.toInt - x5.toInt < (n : Int) ∧ 1 ≤ n), Sf (Rows_putSide_16 F  n t tL x1 x4 x5) (fun r => ((r.1.toInt = 0 ∨ r.1.toInt = 1) ∧ (0 ≤ (r.2.1 2 0).toInt ∧ (r.2.1 2 0).toInt ≤ 2400 ∧ 0 ≤ (r.2.1 5 0).toInt ∧ (r.2.1 5 0).toInt ≤ 40 ∧ 0 ≤ (r.2.1 10 0).toInt ∧ (r.2.1 10 0).toInt ≤ 200) ∧ (r.2.1 5 0).toInt = (t 5 0).toInt ∧ (r.2.1 10 0).toInt = (t 10 0).toInt ∧ (t 2 0).toInt ≤ (r.2.1 2 0).toInt) ∧ RF 2 t r.2.1) := by
  intro n; induction n with
  | zero => intro t tL x1 x4 x5 h; omega
  | succ n ih =>
    intro t tL x1 x4 x5 h; rw [Rows_putSide_16]
    have b_x1 := ibd x1
    have b_x4 := ibd x4
    have b_x5 := ibd x5
    refine sf_le rfl rfl (fun c1 => ?_) (fun c1 => ?_)
    · skip
      have g2 := (ilit (1 : Int32) (1) rfl)
      refine sf_some ⟨?_, RF_refl _⟩
      (try dsimp only)
      omega
    · skip
      refine sf_idx rfl (by first | (clear b_x1; omega) | omega) (by first | (clear b_x1; omega) | omega) ?_
      refine sf_idx rfl (by first | (clear b_x1; omega) | omega) (by first | (clear b_x1; omega) | omega) ?_
      refine sf_bind (sp_Rows_put F hF t tL x1 ((tL 0) x5.toNatClampNeg) ((tL 1) x5.toNatClampNeg) (by first | (clear c1 b_x5 b_x4 b_x1; omega) | omega)) (fun r11 h_r11 => ?_)
      (try dsimp only at h_r11)
      refine sf_eq rfl (ilit (0 : Int32) (0) rfl) (fun c3 => ?_) (fun c3 => ?_)
      · skip
        have g4 := (ilit (0 : Int32) (0) rfl)
        refine sf_some ⟨?_, RF_trans (RF_refl _) h_r11.2⟩
        (try dsimp only)
        omega
      · skip
        have g5 : ((x5 + (1 : Int32))).toInt = _ := (iadd rfl (ilit (1 : Int32) (1) rfl))
        refine sf_imp (ih r11.2.1 r11.2.2 x1 x4 (x5 + (1 : Int32)) (by first | (clear b_x1; omega) | omega)) (fun r hr => ?_)
        (try dsimp only at hr)
        (try dsimp only)
        refine ⟨?_, RF_trans (RF_trans (RF_refl _) h_r11.2) hr.2⟩
        omega
set_option maxHeartbeats 4000000 in
set_option maxRecDepth 100000 in
theorem sp_Rows_putSide (F : Nat) (hF : Big F) (t : StI) (tL : StL) (x1 : Int32) (x2 : Int32) (x3 : Int32) (hI : RowsI t) (h : (0 ≤ (t 2 0).toInt ∧ (t 2 0).toInt ≤ 2400 ∧ 0 ≤ (t 5 0).toInt ∧ (t 5 0).toInt ≤ 40 ∧ 0 ≤ (t 10 0).toInt ∧ (t 10 0).toInt ≤ 200)) : Sf (Rows_putSide F t tL x1 x2 x3) (fun r => ((r.1.toInt = 0 ∨ r.1.toInt = 1) ∧ (0 ≤ (r.2.1 2 0).toInt ∧ (r.2.1 2 0).toInt ≤ 2400 ∧ 0 ≤ (r.2.1 5 0).toInt ∧ (r.2.1 5 0).toInt ≤ 40 ∧ 0 ≤ (r.2.1 10 0).toInt ∧ (r.2.1 10 0).toInt ≤ 200) ∧ (r.2.1 5 0).toInt = (t 5 0).toInt ∧ (r.2.1 10 0).toInt = (t 10 0).toInt ∧ (t 2 0).toInt ≤ (r.2.1 2 0).toInt) ∧ RF 2 t r.2.1) := by
  rw [Rows_putSide]
  have b_x1 := ibd x1
  have b_x2 := ibd x2
  have b_x3 := ibd x3
  refine sf_bind (sp_Rows_sideTo F hF t tL x2 x3 (RowsI_rf hI (RF_refl _)) (by first | (clear b_x3 b_x2 b_x1; omega) | omega)) (fun r13 h_r13 => ?_)
  refine sf_bind (sp_Rows_sideFrom F hF t tL x2 x3 (RowsI_rf hI (RF_refl _)) (by first | (clear h_r13 b_x3 b_x2 b_x1; omega) | omega)) (fun r14 h_r14 => ?_)
  refine sf_imp (sp_Rows_putSide_16 F hF   F t tL x1 r13 r14 (⟨by first | (clear b_x3 b_x2 b_x1; omega) | omega, fuel_ok hF (by first | (clear b_x3 b_x2 b_x1; omega) | omega)⟩)) (fun r hr => ?_)
  (try dsimp only at hr)
  (try dsimp only)
  refine ⟨?_, RF_trans (RF_refl _) hr.2⟩
  omega
set_option maxHeartbeats 4000000 in
set_option maxRecDepth 100000 in
theorem sp_Rows_putPairs_68 (F : Nat) (hF : Big F) (k57 : StI → StL → Int32 → Int32 → Int32 → Int32 → Int32 → Option (Int32 × StI × StL)) (x3 x4 x5 x6 x7 : Int32) (hx : 0 ≤ x3.toInt ∧ x6.toInt ≤ 2400 ∧ 0 ≤ x7.toInt ∧ x7.toInt < 2400)
    (hk : ∀ (t : StI) (tL : StL), ((0 ≤ (t 2 0).toInt ∧ (t 2 0).toInt ≤ 2400 ∧ 0 ≤ (t 5 0).toInt ∧ (t 5 0).toInt ≤ 40 ∧ 0 ≤ (t 10 0).toInt ∧ (t 10 0).toInt ≤ 200) ∧ x3.toInt ≤ (t 2 0).toInt) → Sf (k57 t tL x3 x4 x5 x6 (x7 + (1 : Int32))) (fun r => ((r.1.toInt = 0 ∨ r.1.toInt = 1) ∧ (0 ≤ (r.2.1 2 0).toInt ∧ (r.2.1 2 0).toInt ≤ 2400 ∧ 0 ≤ (r.2.1 5 0).toInt ∧ (r.2.1 5 0).toInt ≤ 40 ∧ 0 ≤ (r.2.1 10 0).toInt ∧ (r.2.1 10 0).toInt ≤ 200) ∧ (r.2.1 5 0).toInt = (t 5 0).toInt ∧ (r.2.1 10 0).toInt = (t 10 0).toInt ∧ x3.toInt ≤ (r.2.1 2 0).toInt) ∧ RF 2 t r.2.1)) :
    ∀ (n : Nat) (t : StI) (tL : StL) (x8 : Int32) (h : ((0 ≤ (t 2 0).toInt ∧ (t 2 0).toInt ≤ 2400 ∧ 0 ≤ (t 5 0).toInt ∧ (t 5 0).toInt ≤ 40 ∧ 0 ≤ (t 10 0).toInt ∧ (t 10 0).toInt ≤ 200) ∧ x3.toInt ≤ (t 2 0).toInt ∧ 0 ≤ x8.toInt) ∧ x6.toInt - x8.toInt < (n : Int) ∧ 1 ≤ n), Sf (Rows_putPairs_68 F k57 n t tL x3 x4 x5 x6 x7 x8) (fun r => ((r.1.toInt = 0 ∨ r.1.toInt = 1) ∧ (0 ≤ (r.2.1 2 0).toInt ∧ (r.2.1 2 0).toInt ≤ 2400 ∧ 0 ≤ (r.2.1 5 0).toInt ∧ (r.2.1 5 0).toInt ≤ 40 ∧ 0 ≤ (r.2.1 10 0).toInt ∧ (r.2.1 10 0).toInt ≤ 200) ∧ (r.2.1 5 0).toInt = (t 5 0).toInt ∧ (r.2.1 10 0).toInt = (t 10 0).toInt ∧ x3.toInt ≤ (r.2.1 2 0).toInt) ∧ RF 2 t r.2.1) := by
  intro n; induction n with
  | zero => intro t tL x8 h; omega
  | succ n ih =>
    intro t tL x8 h; rw [Rows_putPairs_68]
    have b_x8 := ibd x8
    refine sf_le rfl rfl (fun c1 => hk t tL (by omega)) (fun c1 => ?_)
    refine sf_idx rfl (by omega) (by omega) ?_
    refine sf_idx rfl (by omega) (by omega) ?_
    refine sf_idx rfl (by omega) (by omega) ?_
    refine sf_idx rfl (by omega) (by omega) ?_
    have g1 : (x8 + (1 : Int32)).toInt = _ := iadd rfl (ilit (1 : Int32) (1) rfl)
    refine sf_any ?_ ?_
    · refine sf_bind (sp_Rows_put F hF t tL x3 _ _ (by omega)) (fun r21 h_r21 => ?_)
      refine sf_eq rfl (ilit 0 0 rfl) (fun c2 => ?_) (fun c2 => ?_)
      · refine sf_some ⟨?_, h_r21.2⟩
        have g2 := ilit (0 : Int32) (0) rfl
        (try dsimp only)
        omega
      · rw [Rows_putPairs_133]
        refine sf_imp (ih r21.2.1 r21.2.2 (x8 + (1 : Int32)) (by omega)) (fun r hr => ⟨?_, RF_trans h_r21.2 hr.2⟩)
        (try dsimp only at hr)
        (try dsimp only)
        omega
    · rw [Rows_putPairs_133]
      exact ih t tL (x8 + (1 : Int32)) (by omega)
set_option maxHeartbeats 4000000 in
set_option maxRecDepth 100000 in
theorem sp_Rows_putPairs_57 (F : Nat) (hF : Big F) : ∀ (n : Nat) (t : StI) (tL : StL) (x3 x4 x5 x6 x7 : Int32) (h : ((0 ≤ (t 2 0).toInt ∧ (t 2 0).toInt ≤ 2400 ∧ 0 ≤ (t 5 0).toInt ∧ (t 5 0).toInt ≤ 40 ∧ 0 ≤ (t 10 0).toInt ∧ (t 10 0).toInt ≤ 200) ∧ 0 ≤ x3.toInt ∧ x3.toInt ≤ (t 2 0).toInt ∧ x4.toInt ≤ 2400 ∧ 0 ≤ x5.toInt ∧ x6.toInt ≤ 2400 ∧ 0 ≤ x7.toInt) ∧ x4.toInt - x7.toInt < (n : Int) ∧ 1 ≤ n), Sf (Rows_putPairs_57 F n t tL x3 x4 x5 x6 x7) (fun r => ((r.1.toInt = 0 ∨ r.1.toInt = 1) ∧ (0 ≤ (r.2.1 2 0).toInt ∧ (r.2.1 2 0).toInt ≤ 2400 ∧ 0 ≤ (r.2.1 5 0).toInt ∧ (r.2.1 5 0).toInt ≤ 40 ∧ 0 ≤ (r.2.1 10 0).toInt ∧ (r.2.1 10 0).toInt ≤ 200) ∧ (r.2.1 5 0).toInt = (t 5 0).toInt ∧ (r.2.1 10 0).toInt = (t 10 0).toInt ∧ x3.toInt ≤ (r.2.1 2 0).toInt) ∧ RF 2 t r.2.1) := by
  intro n; induction n with
  | zero => intro t tL x3 x4 x5 x6 x7 h; omega
  | succ n ih =>
    intro t tL x3 x4 x5 x6 x7 h; rw [Rows_putPairs_57]
    have b_x5 := ibd x5
    have b_x6 := ibd x6
    refine sf_le rfl rfl (fun c1 => ?_) (fun c1 => ?_)
    · refine sf_bind (sp_Rows_leaveOut F hF t tL x3 (by omega)) (fun r24 h_r24 => ?_)
      refine sf_some ⟨?_, h_r24.2⟩
      have g2 := ilit (1 : Int32) (1) rfl
      (try dsimp only)
      omega
    · have g1 : (x7 + (1 : Int32)).toInt = _ := iadd rfl (ilit (1 : Int32) (1) rfl)
      exact sp_Rows_putPairs_68 F hF (Rows_putPairs_57 F n) x3 x4 x5 x6 x7 (by omega) (fun t tL hp => ih t tL x3 x4 x5 x6 (x7 + (1 : Int32)) (by omega)) F t tL x5 ⟨by omega, fuel_ok hF (by omega)⟩
set_option maxHeartbeats 4000000 in
set_option maxRecDepth 100000 in
theorem sp_Rows_putPairs (F : Nat) (hF : Big F) (t : StI) (tL : StL) (x1 : Int32) (x2 : Int32) (hI : RowsI t) (h : (0 ≤ (t 2 0).toInt ∧ (t 2 0).toInt ≤ 2400 ∧ 0 ≤ (t 5 0).toInt ∧ (t 5 0).toInt ≤ 40 ∧ 0 ≤ (t 10 0).toInt ∧ (t 10 0).toInt ≤ 200)) : Sf (Rows_putPairs F t tL x1 x2) (fun r => ((r.1.toInt = 0 ∨ r.1.toInt = 1) ∧ (0 ≤ (r.2.1 2 0).toInt ∧ (r.2.1 2 0).toInt ≤ 2400 ∧ 0 ≤ (r.2.1 5 0).toInt ∧ (r.2.1 5 0).toInt ≤ 40 ∧ 0 ≤ (r.2.1 10 0).toInt ∧ (r.2.1 10 0).toInt ≤ 200) ∧ (r.2.1 5 0).toInt = (t 5 0).toInt ∧ (r.2.1 10 0).toInt = (t 10 0).toInt ∧ (t 2 0).toInt ≤ (r.2.1 2 0).toInt) ∧ RF 2 t r.2.1) := by
  rw [Rows_putPairs]
  have b_x1 := ibd x1
  have b_x2 := ibd x2
  have g1 : (((t 5 0) - (1 : Int32))).toInt = _ := (isub rfl (ilit (1 : Int32) (1) rfl))
  refine sf_bind (sp_Rows_sideTo F hF t tL ((t 5 0) - (1 : Int32)) x1 (RowsI_rf hI (RF_refl _)) (by first | (clear b_x2 b_x1; omega) | omega)) (fun r25 h_r25 => ?_)
  have g2 : (((t 5 0) - (2 : Int32))).toInt = _ := (isub rfl (ilit (2 : Int32) (2) rfl))
  refine sf_bind (sp_Rows_sideFrom F hF t tL ((t 5 0) - (2 : Int32)) x2 (RowsI_rf hI (RF_refl _)) (by first | (clear h_r25 b_x2 b_x1; omega) | omega)) (fun r26 h_r26 => ?_)
  refine sf_bind (sp_Rows_sideTo F hF t tL ((t 5 0) - (2 : Int32)) x2 (RowsI_rf hI (RF_refl _)) (by first | (clear h_r26 h_r25 b_x2 b_x1; omega) | omega)) (fun r27 h_r27 => ?_)
  refine sf_bind (sp_Rows_sideFrom F hF t tL ((t 5 0) - (1 : Int32)) x1 (RowsI_rf hI (RF_refl _)) (by first | (clear h_r27 h_r26 h_r25 b_x2 b_x1; omega) | omega)) (fun r28 h_r28 => ?_)
  refine sf_imp (sp_Rows_putPairs_57 F hF   F t tL (t 2 0) r25 r26 r27 r28 (⟨by first | (clear b_x2 b_x1; omega) | omega, fuel_ok hF (by first | (clear h_r27 h_r26 g2 g1 b_x2 b_x1; omega) | omega)⟩)) (fun r hr => ?_)
  (try dsimp only at hr)
  (try dsimp only)
  refine ⟨?_, RF_trans (RF_refl _) hr.2⟩
  omega
set_option maxHeartbeats 4000000 in
set_option maxRecDepth 100000 in
theorem sp_Rows_putAny (F : Nat) (hF : Big F) (t : StI) (tL : StL) (x1 : Int32) (hI : RowsI t) (h : (0 ≤ (t 2 0).toInt ∧ (t 2 0).toInt ≤ 2400 ∧ 0 ≤ (t 5 0).toInt ∧ (t 5 0).toInt ≤ 40 ∧ 0 ≤ (t 10 0).toInt ∧ (t 10 0).toInt ≤ 200)) : Sf (Rows_putAny F t tL x1) (fun r => ((r.1.toInt = 0 ∨ r.1.toInt = 1) ∧ (0 ≤ (r.2.1 2 0).toInt ∧ (r.2.1 2 0).toInt ≤ 2400 ∧ 0 ≤ (r.2.1 5 0).toInt ∧ (r.2.1 5 0).toInt ≤ 40 ∧ 0 ≤ (r.2.1 10 0).toInt ∧ (r.2.1 10 0).toInt ≤ 200) ∧ (r.2.1 5 0).toInt = (t 5 0).toInt ∧ (r.2.1 10 0).toInt = (t 10 0).toInt ∧ (t 2 0).toInt ≤ (r.2.1 2 0).toInt) ∧ RF 2 t r.2.1) := by
  rw [Rows_putAny]
  have b_x1 := ibd x1
  have g1 : (((t 5 0) - (1 : Int32))).toInt = _ := (isub rfl (ilit (1 : Int32) (1) rfl))
  refine sf_bind (sp_Rows_putSide F hF t tL (t 2 0) ((t 5 0) - (1 : Int32)) x1 (RowsI_rf hI (RF_refl _)) (by first | (clear b_x1; omega) | omega)) (fun r6 h_r6 => ?_)
  (try dsimp only at h_r6)
  refine sf_eq rfl (ilit (0 : Int32) (0) rfl) (fun c2 => ?_) (fun c2 => ?_)
  · skip
    have g3 := (ilit (0 : Int32) (0) rfl)
    refine sf_some ⟨?_, RF_trans (RF_refl _) h_r6.2⟩
    (try dsimp only)
    omega
  · skip
    have g4 : (((r6.2.1 5 0) - (2 : Int32))).toInt = _ := (isub rfl (ilit (2 : Int32) (2) rfl))
    refine sf_bind (sp_Rows_putSide F hF r6.2.1 r6.2.2 (t 2 0) ((r6.2.1 5 0) - (2 : Int32)) x1 (RowsI_rf hI (RF_trans (RF_refl _) h_r6.2)) (by first | (clear b_x1; omega) | omega)) (fun r8 h_r8 => ?_)
    (try dsimp only at h_r8)
    refine sf_eq rfl (ilit (0 : Int32) (0) rfl) (fun c5 => ?_) (fun c5 => ?_)
    · skip
      have g6 := (ilit (0 : Int32) (0) rfl)
      refine sf_some ⟨?_, RF_trans (RF_trans (RF_refl _) h_r6.2) h_r8.2⟩
      (try dsimp only)
      omega
    · skip
      refine sf_bind (sp_Rows_leaveOut F hF r8.2.1 r8.2.2 (t 2 0) (by first | (clear b_x1; omega) | omega)) (fun r10 h_r10 => ?_)
      (try dsimp only at h_r10)
      have g7 := (ilit (1 : Int32) (1) rfl)
      refine sf_some ⟨?_, RF_trans (RF_trans (RF_trans (RF_refl _) h_r6.2) h_r8.2) h_r10.2⟩
      (try dsimp only)
      omega
set_option maxHeartbeats 4000000 in
set_option maxRecDepth 100000 in
theorem sp_Rows_putEither (F : Nat) (hF : Big F) (t : StI) (tL : StL) (x1 : Int32) (x2 : Int32) (x3 : Int32) (x4 : Int32) (hI : RowsI t) (h : (0 ≤ (t 2 0).toInt ∧ (t 2 0).toInt ≤ 2400 ∧ 0 ≤ (t 5 0).toInt ∧ (t 5 0).toInt ≤ 40 ∧ 0 ≤ (t 10 0).toInt ∧ (t 10 0).toInt ≤ 200)) : Sf (Rows_putEither F t tL x1 x2 x3 x4) (fun r => ((r.1.toInt = 0 ∨ r.1.toInt = 1) ∧ (0 ≤ (r.2.1 2 0).toInt ∧ (r.2.1 2 0).toInt ≤ 2400 ∧ 0 ≤ (r.2.1 5 0).toInt ∧ (r.2.1 5 0).toInt ≤ 40 ∧ 0 ≤ (r.2.1 10 0).toInt ∧ (r.2.1 10 0).toInt ≤ 200) ∧ (r.2.1 5 0).toInt = (t 5 0).toInt ∧ (r.2.1 10 0).toInt = (t 10 0).toInt ∧ (t 2 0).toInt ≤ (r.2.1 2 0).toInt) ∧ RF 2 t r.2.1) := by
  rw [Rows_putEither]
  have b_x1 := ibd x1
  have b_x2 := ibd x2
  have b_x3 := ibd x3
  have b_x4 := ibd x4
  refine sf_bind (sp_Rows_putPairs F hF t tL x1 x2 (RowsI_rf hI (RF_refl _)) (by first | (clear b_x4 b_x3 b_x2 b_x1; omega) | omega)) (fun r7 h_r7 => ?_)
  (try dsimp only at h_r7)
  refine sf_eq rfl (ilit (0 : Int32) (0) rfl) (fun c1 => ?_) (fun c1 => ?_)
  · skip
    have g2 := (ilit (0 : Int32) (0) rfl)
    refine sf_some ⟨?_, RF_trans (RF_refl _) h_r7.2⟩
    (try dsimp only)
    omega
  · skip
    refine sf_bind (sp_Rows_putPairs F hF r7.2.1 r7.2.2 x3 x4 (RowsI_rf hI (RF_trans (RF_refl _) h_r7.2)) (by first | (clear b_x4 b_x3 b_x2 b_x1; omega) | omega)) (fun r9 h_r9 => ?_)
    (try dsimp only at h_r9)
    refine sf_eq rfl (ilit (0 : Int32) (0) rfl) (fun c3 => ?_) (fun c3 => ?_)
    · skip
      have g4 := (ilit (0 : Int32) (0) rfl)
      refine sf_some ⟨?_, RF_trans (RF_trans (RF_refl _) h_r7.2) h_r9.2⟩
      (try dsimp only)
      omega
    · skip
      refine sf_le (isub rfl rfl) (ilit (200 : Int32) (200) rfl) (fun c5 => ?_) (fun c5 => ?_)
      · skip
        refine sf_bind (sp_Rows_leaveOut F hF r9.2.1 r9.2.2 (t 2 0) (by first | (clear b_x4 b_x3 b_x2 b_x1; omega) | omega)) (fun r12 h_r12 => ?_)
        (try dsimp only at h_r12)
        have g6 := (ilit (1 : Int32) (1) rfl)
        refine sf_some ⟨?_, RF_trans (RF_trans (RF_trans (RF_refl _) h_r7.2) h_r9.2) h_r12.2⟩
        (try dsimp only)
        omega
      · skip
        have g7 := (ilit (0 : Int32) (0) rfl)
        refine sf_some ⟨?_, RF_trans (RF_trans (RF_refl _) h_r7.2) h_r9.2⟩
        (try dsimp only)
        omega
set_option maxHeartbeats 4000000 in
set_option maxRecDepth 100000 in
theorem sp_Rows_joinAsIs (F : Nat) (hF : Big F) (t : StI) (tL : StL) (x1 : Int32) (hI : RowsI t) (h : (0 ≤ (t 2 0).toInt ∧ (t 2 0).toInt ≤ 2400 ∧ 0 ≤ (t 5 0).toInt ∧ (t 5 0).toInt ≤ 40 ∧ 0 ≤ (t 10 0).toInt ∧ (t 10 0).toInt ≤ 200)) : Sf (Rows_joinAsIs F t tL x1) (fun r => ((r.1.toInt = 0 ∨ r.1.toInt = 1) ∧ (0 ≤ (r.2.1 2 0).toInt ∧ (r.2.1 2 0).toInt ≤ 2400 ∧ 0 ≤ (r.2.1 5 0).toInt ∧ (r.2.1 5 0).toInt ≤ 40 ∧ 0 ≤ (r.2.1 10 0).toInt ∧ (r.2.1 10 0).toInt ≤ 200) ∧ (r.2.1 5 0).toInt = (t 5 0).toInt ∧ (r.2.1 10 0).toInt = (t 10 0).toInt ∧ (t 2 0).toInt ≤ (r.2.1 2 0).toInt) ∧ RF 2 t r.2.1) := by
  rw [Rows_joinAsIs]
  have b_x1 := ibd x1
  refine sf_eq rfl (ilit (-5 : Int32) (-5) rfl) (fun c1 => ?_) (fun c1 => ?_)
  · skip
    have g2 := (ilit (1 : Int32) (1) rfl)
    have g3 := (ilit (2 : Int32) (2) rfl)
    refine sf_bind (sp_Rows_putEither F hF t tL (1 : Int32) (2 : Int32) (2 : Int32) (1 : Int32) (RowsI_rf hI (RF_refl _)) (by first | (clear c1 b_x1; omega) | omega)) (fun r15 h_r15 => ?_)
    (try dsimp only at h_r15)
    refine sf_b01 (by first | (clear c1 b_x1; omega) | omega) ?_
    refine sf_some ⟨?_, RF_trans (RF_refl _) h_r15.2⟩
    (try dsimp only)
    omega
  · skip
    refine sf_eq rfl (ilit (-4 : Int32) (-4) rfl) (fun c4 => ?_) (fun c4 => ?_)
    · skip
      have g5 := (ilit (1 : Int32) (1) rfl)
      refine sf_bind (sp_Rows_putAny F hF t tL (1 : Int32) (RowsI_rf hI (RF_refl _)) (by first | (clear c4 c1 b_x1; omega) | omega)) (fun r13 h_r13 => ?_)
      (try dsimp only at h_r13)
      refine sf_b01 (by first | (clear c4 c1 b_x1; omega) | omega) ?_
      refine sf_some ⟨?_, RF_trans (RF_refl _) h_r13.2⟩
      (try dsimp only)
      omega
    · skip
      have g6 := (ilit (1 : Int32) (1) rfl)
      refine sf_bind (sp_Rows_putPairs F hF t tL (1 : Int32) (1 : Int32) (RowsI_rf hI (RF_refl _)) (by first | (clear c4 c1 b_x1; omega) | omega)) (fun r11 h_r11 => ?_)
      (try dsimp only at h_r11)
      refine sf_b01 (by first | (clear c4 c1 b_x1; omega) | omega) ?_
      refine sf_some ⟨?_, RF_trans (RF_refl _) h_r11.2⟩
      (try dsimp only)
      omega
set_option maxHeartbeats 4000000 in
set_option maxRecDepth 100000 in
theorem sp_Rows_joinTurned (F : Nat) (hF : Big F) (t : StI) (tL : StL) (x1 : Int32) (hI : RowsI t) (h : (0 ≤ (t 2 0).toInt ∧ (t 2 0).toInt ≤ 2400 ∧ 0 ≤ (t 5 0).toInt ∧ (t 5 0).toInt ≤ 40 ∧ 0 ≤ (t 10 0).toInt ∧ (t 10 0).toInt ≤ 200)) : Sf (Rows_joinTurned F t tL x1) (fun r => ((r.1.toInt = 0 ∨ r.1.toInt = 1) ∧ (0 ≤ (r.2.1 2 0).toInt ∧ (r.2.1 2 0).toInt ≤ 2400 ∧ 0 ≤ (r.2.1 5 0).toInt ∧ (r.2.1 5 0).toInt ≤ 40 ∧ 0 ≤ (r.2.1 10 0).toInt ∧ (r.2.1 10 0).toInt ≤ 200) ∧ (r.2.1 5 0).toInt = (t 5 0).toInt ∧ (r.2.1 10 0).toInt = (t 10 0).toInt ∧ (t 2 0).toInt ≤ (r.2.1 2 0).toInt) ∧ RF 2 t r.2.1) := by
  rw [Rows_joinTurned]
  have b_x1 := ibd x1
  refine sf_eq rfl (ilit (-5 : Int32) (-5) rfl) (fun c1 => ?_) (fun c1 => ?_)
  · skip
    have g2 := (ilit (1 : Int32) (1) rfl)
    have g3 := (ilit (2 : Int32) (2) rfl)
    refine sf_bind (sp_Rows_putEither F hF t tL (1 : Int32) (1 : Int32) (2 : Int32) (2 : Int32) (RowsI_rf hI (RF_refl _)) (by first | (clear c1 b_x1; omega) | omega)) (fun r15 h_r15 => ?_)
    (try dsimp only at h_r15)
    refine sf_b01 (by first | (clear c1 b_x1; omega) | omega) ?_
    refine sf_some ⟨?_, RF_trans (RF_refl _) h_r15.2⟩
    (try dsimp only)
    omega
  · skip
    refine sf_eq rfl (ilit (-4 : Int32) (-4) rfl) (fun c4 => ?_) (fun c4 => ?_)
    · skip
      have g5 := (ilit (2 : Int32) (2) rfl)
      refine sf_bind (sp_Rows_putPairs F hF t tL (2 : Int32) (2 : Int32) (RowsI_rf hI (RF_refl _)) (by first | (clear c4 c1 b_x1; omega) | omega)) (fun r13 h_r13 => ?_)
      (try dsimp only at h_r13)
      refine sf_b01 (by first | (clear c4 c1 b_x1; omega) | omega) ?_
      refine sf_some ⟨?_, RF_trans (RF_refl _) h_r13.2⟩
      (try dsimp only)
      omega
    · skip
      have g6 := (ilit (2 : Int32) (2) rfl)
      refine sf_bind (sp_Rows_putAny F hF t tL (2 : Int32) (RowsI_rf hI (RF_refl _)) (by first | (clear c4 c1 b_x1; omega) | omega)) (fun r11 h_r11 => ?_)
      (try dsimp only at h_r11)
      refine sf_b01 (by first | (clear c4 c1 b_x1; omega) | omega) ?_
      refine sf_some ⟨?_, RF_trans (RF_refl _) h_r11.2⟩
      (try dsimp only)
      omega
set_option maxHeartbeats 4000000 in
set_option maxRecDepth 100000 in
theorem sp_Rows_replaceSets_45 (F : Nat) (t : StI) (tL : StL) (x2 x3 x4 y0 : Int32) (hI : RowsI t) (hs : (0 ≤ (t 2 0).toInt ∧ (t 2 0).toInt ≤ 2400 ∧ 0 ≤ (t 5 0).toInt ∧ (t 5 0).toInt ≤ 40 ∧ 0 ≤ (t 10 0).toInt ∧ (t 10 0).toInt ≤ 200))
    (h : 0 ≤ y0.toInt ∧ y0.toInt ≤ x2.toInt ∧ x2.toInt ≤ x3.toInt ∧ x3.toInt ≤ (t 2 0).toInt ∧ 0 ≤ x4.toInt ∧ x4.toInt < 40)
    (hM : ∀ i j : Nat, i ≤ j → (j : Int) < x4.toInt → (t 3 i).toInt ≤ (t 3 j).toInt ∧ (t 3 j).toInt ≤ y0.toInt) :
    Sf (Rows_replaceSets_45 F t tL x2 x3 x4 y0) (fun r => r.1.toInt = 1 ∧ (0 ≤ (r.2.1 2 0).toInt ∧ (r.2.1 2 0).toInt ≤ 2400 ∧ 0 ≤ (r.2.1 5 0).toInt ∧ (r.2.1 5 0).toInt ≤ 40 ∧ 0 ≤ (r.2.1 10 0).toInt ∧ (r.2.1 10 0).toInt ≤ 200) ∧ RowsI r.2.1 ∧ RowsM r.2.1 (r.2.1 2 0).toInt) := by
  rw [Rows_replaceSets_45]
  have g0 : ((t 2 0) - x2).toInt = _ := isub rfl rfl
  refine sf_neg rfl (by omega) ?_
  refine sf_neg rfl (by omega) ?_
  refine sf_neg rfl (by omega) ?_
  refine sf_cap rfl rfl (by omega) (by omega) (by omega) ?_
  refine sf_cap rfl rfl (by omega) (by omega) (by omega) ?_
  refine sf_up (fun t_28 h1 h2 => ?_)
  refine sf_neg rfl (by omega) ?_
  refine sf_neg rfl (by omega) ?_
  refine sf_neg rfl (by omega) ?_
  refine sf_cap rfl rfl (by omega) (by omega) (by omega) ?_
  refine sf_cap rfl rfl (by omega) (by omega) (by omega) ?_
  refine sf_up (fun t_35 h3 h4 => ?_)
  refine sf_idx rfl (by omega) (by omega) ?_
  refine sf_up (fun t_42 h5 h6 => ?_)
  refine sf_idx rfl (by omega) (by omega) ?_
  refine sf_up (fun t_44 h7 h8 => ?_)
  refine sf_up (fun t_46 h9 h10 => ?_)
  refine sf_up (fun t_47 h11 h12 => ?_)
  have e44 : (t_44 2 0).toInt = (t 2 0).toInt := congrArg (fun q => Int32.toInt (q 0)) ((h8 2 (by decide)).trans (h6 2 (by decide)))
  have e46 : (t_46 2 0).toInt = _ := (congrArg (fun q => Int32.toInt (q 0)) h9).trans (isub (iadd (x := y0) (y := t_44 2 0) rfl rfl) (y := x2) rfl)
  have e47 : (t_47 2 0).toInt = (t_46 2 0).toInt := congrArg (fun q => Int32.toInt (q 0)) (h12 2 (by decide))
  have e5 : (t_47 5 0).toInt = _ := (congrArg (fun q => Int32.toInt (q 0)) h11).trans (iadd (x := x4) rfl (ilit (1 : Int32) (1) rfl))
  have e10 : (t_47 10 0).toInt = (t 10 0).toInt := congrArg (fun q => Int32.toInt (q 0)) ((h12 10 (by decide)).trans ((h10 10 (by decide)).trans ((h8 10 (by decide)).trans (h6 10 (by decide)))))
  have em : ((y0 + x3) - x2).toInt = _ := isub (iadd (x := y0) (y := x3) rfl rfl) (y := x2) rfl
  refine sf_idx rfl (by omega) (by omega) ?_
  refine sf_up (fun t_48 h13 h14 => ?_)
  have f2 : (t_48 2 0).toInt = (t_47 2 0).toInt := congrArg (fun q => Int32.toInt (q 0)) (h14 2 (by decide))
  have f5 : (t_48 5 0).toInt = (t_47 5 0).toInt := congrArg (fun q => Int32.toInt (q 0)) (h14 5 (by decide))
  have f10 : (t_48 10 0).toInt = (t_47 10 0).toInt := congrArg (fun q => Int32.toInt (q 0)) (h14 10 (by decide))
  have c3 : t_48 3 = upd (upd (t 3) x4.toNatClampNeg y0) (t_47 5 0).toNatClampNeg (t_47 2 0) := by
    rw [h13, h12 3 (by decide), h10 3 (by decide), h8 3 (by decide), h5]
  have c4 : t_48 4 = upd (t 4) x4.toNatClampNeg ((y0 + x3) - x2) := by
    rw [h14 4 (by decide), h12 4 (by decide), h10 4 (by decide), h7, h6 4 (by decide)]
  have k4 : (x4.toNatClampNeg : Int) = x4.toInt := by rw [iclamp]; omega
  have k5 : ((t_47 5 0).toNatClampNeg : Int) = x4.toInt + 1 := by rw [iclamp]; omega
  refine sf_some ⟨rfl, ?_, ?_, ?_⟩
  · (try dsimp only)
    omega
  · intro j
    have hj := hI j
    (try dsimp only)
    rw [c3, c4]
    unfold upd
    by_cases j1 : j = (t_47 5 0).toNatClampNeg
    · by_cases j2 : j = x4.toNatClampNeg
      · rw [if_pos j1, if_pos j2]; omega
      · rw [if_pos j1, if_neg j2]; omega
    · by_cases j2 : j = x4.toNatClampNeg
      · rw [if_neg j1, if_pos j2, if_pos j2]; omega
      · rw [if_neg j1, if_neg j2, if_neg j2]; omega
  · intro i j hij hj
    (try dsimp only at hj)
    (try dsimp only)
    rw [c3]
    unfold upd
    have j1 : j ≠ (t_47 5 0).toNatClampNeg := by omega
    have i1 : i ≠ (t_47 5 0).toNatClampNeg := by omega
    rw [if_neg j1, if_neg i1]
    by_cases j2 : j = x4.toNatClampNeg
    · rw [if_pos j2]
      by_cases i2 : i = x4.toNatClampNeg
      · rw [if_pos i2]; omega
      · rw [if_neg i2]
        have := hM i i (Nat.le_refl _) (by omega)
        omega
    · have i2 : i ≠ x4.toNatClampNeg := by omega
      rw [if_neg j2, if_neg i2]
      have := hM i j hij (by omega)
      omega
set_option maxHeartbeats 4000000 in
set_option maxRecDepth 100000 in
theorem sp_Rows_replaceSets (F : Nat) (t : StI) (tL : StL) (x1 x2 x3 : Int32) (hI : RowsI t) (hs : (0 ≤ (t 2 0).toInt ∧ (t 2 0).toInt ≤ 2400 ∧ 0 ≤ (t 5 0).toInt ∧ (t 5 0).toInt ≤ 40 ∧ 0 ≤ (t 10 0).toInt ∧ (t 10 0).toInt ≤ 200))
    (h : 0 ≤ x2.toInt ∧ x2.toInt ≤ x3.toInt ∧ x3.toInt ≤ (t 2 0).toInt ∧ 0 ≤ x1.toInt ∧ x1.toInt ≤ 2) (hM : RowsM t x2.toInt) :
    Sf (Rows_replaceSets F t tL x1 x2 x3) (fun r => (r.1.toInt = 0 ∨ r.1.toInt = 1) ∧ (0 ≤ (r.2.1 2 0).toInt ∧ (r.2.1 2 0).toInt ≤ 2400 ∧ 0 ≤ (r.2.1 5 0).toInt ∧ (r.2.1 5 0).toInt ≤ 40 ∧ 0 ≤ (r.2.1 10 0).toInt ∧ (r.2.1 10 0).toInt ≤ 200) ∧ RowsI r.2.1 ∧ (r.1.toInt = 1 → RowsM r.2.1 (r.2.1 2 0).toInt)) := by
  rw [Rows_replaceSets]
  have g0 : ((t 5 0) - x1).toInt = _ := isub rfl rfl
  have z0 := ilit (0 : Int32) (0) rfl
  have mM : ∀ i j : Nat, i ≤ j → (j : Int) < (t 5 0).toInt → (t 3 i).toInt ≤ (t 3 j).toInt ∧ (t 3 j).toInt ≤ x2.toInt := hM
  refine sf_lt rfl (ilit (0 : Int32) (0) rfl) (fun c1 => ?_) (fun c1 => ?_)
  · exact sf_some ⟨Or.inl rfl, hs, hI, fun e => by (try dsimp only at e); omega⟩
  refine sf_le (ilit (40 : Int32) (40) rfl) rfl (fun c2 => ?_) (fun c2 => ?_)
  · exact sf_some ⟨Or.inl rfl, hs, hI, fun e => by (try dsimp only at e); omega⟩
  refine sf_le rfl rfl (fun c3 => ?_) (fun c3 => ?_)
  · refine sf_le rfl (ilit (0 : Int32) (0) rfl) (fun c4 => ?_) (fun c4 => ?_)
    · refine sf_imp (sp_Rows_replaceSets_45 F t tL x2 x3 ((t 5 0) - x1) x2 hI hs (by omega) (fun i j hij hj => ?_)) (fun r hr => ⟨Or.inr hr.1, hr.2.1, hr.2.2.1, fun _ => hr.2.2.2⟩)
      exact mM i j hij (by omega)
    · refine sf_idx rfl (by omega) (by omega) ?_
      have k4 : (((t 5 0) - x1).toNatClampNeg : Int) = ((t 5 0) - x1).toInt := by rw [iclamp]; omega
      have q1 := mM ((t 5 0) - x1).toNatClampNeg ((t 5 0) - x1).toNatClampNeg (Nat.le_refl _) (by omega)
      have q2 := hI ((t 5 0) - x1).toNatClampNeg
      refine sf_imp (sp_Rows_replaceSets_45 F t tL x2 x3 ((t 5 0) - x1) _ hI hs (by omega) (fun i j hij hj => ?_)) (fun r hr => ⟨Or.inr hr.1, hr.2.1, hr.2.2.1, fun _ => hr.2.2.2⟩)
      have q3 := mM i j hij (by omega)
      have q4 := mM j ((t 5 0) - x1).toNatClampNeg (by omega) (by omega)
      omega
  · exact sf_some ⟨Or.inl rfl, hs, hI, fun e => by (try dsimp only at e); omega⟩
def MPost (r : Int32 × StI × StL) : Prop := (r.1.toInt = 0 ∨ r.1.toInt = 1) ∧ (0 ≤ (r.2.1 2 0).toInt ∧ (r.2.1 2 0).toInt ≤ 2400 ∧ 0 ≤ (r.2.1 5 0).toInt ∧ (r.2.1 5 0).toInt ≤ 40 ∧ 0 ≤ (r.2.1 10 0).toInt ∧ (r.2.1 10 0).toInt ≤ 200) ∧ RowsI r.2.1 ∧ (r.1.toInt = 1 → RowsM r.2.1 (r.2.1 2 0).toInt)
theorem mp_rep (F : Nat) (t : StI) (tL : StL) (x1 x2 x3 : Int32) (hI : RowsI t) (hs : (0 ≤ (t 2 0).toInt ∧ (t 2 0).toInt ≤ 2400 ∧ 0 ≤ (t 5 0).toInt ∧ (t 5 0).toInt ≤ 40 ∧ 0 ≤ (t 10 0).toInt ∧ (t 10 0).toInt ≤ 200))
    (h : 0 ≤ x2.toInt ∧ x2.toInt ≤ x3.toInt ∧ x3.toInt ≤ (t 2 0).toInt ∧ 0 ≤ x1.toInt ∧ x1.toInt ≤ 2) (hM : RowsM t x2.toInt) :
    Sf ((Rows_replaceSets F t tL x1 x2 x3).bind fun r30 => if r30.1 = 0 then some ((0 : Int32), r30.2.1, r30.2.2) else some ((1 : Int32), r30.2.1, r30.2.2)) MPost := by
  refine sf_bind (sp_Rows_replaceSets F t tL x1 x2 x3 hI hs h hM) (fun r hr => ?_)
  refine sf_eq rfl (ilit (0 : Int32) (0) rfl) (fun c => ?_) (fun c => ?_)
  · exact sf_some ⟨Or.inl rfl, hr.2.1, hr.2.2.1, fun e => absurd (show (0 : Int32).toInt = 1 from e) (by decide)⟩
  · exact sf_some ⟨Or.inr rfl, hr.2.1, hr.2.2.1, fun _ => hr.2.2.2 (by omega)⟩
theorem mp_zero {t : StI} {tL : StL} (hI : RowsI t) (hs : (0 ≤ (t 2 0).toInt ∧ (t 2 0).toInt ≤ 2400 ∧ 0 ≤ (t 5 0).toInt ∧ (t 5 0).toInt ≤ 40 ∧ 0 ≤ (t 10 0).toInt ∧ (t 10 0).toInt ≤ 200)) : Sf (some ((0 : Int32), t, tL)) MPost :=
  sf_some ⟨Or.inl rfl, hs, hI, fun e => absurd (show (0 : Int32).toInt = 1 from e) (by decide)⟩
theorem sp_Rows_makeSet_208 (F : Nat) (t : StI) (tL : StL) (x3 x5 y0 : Int32) (hI : RowsI t) (hs : (0 ≤ (t 2 0).toInt ∧ (t 2 0).toInt ≤ 2400 ∧ 0 ≤ (t 5 0).toInt ∧ (t 5 0).toInt ≤ 40 ∧ 0 ≤ (t 10 0).toInt ∧ (t 10 0).toInt ≤ 200))
    (h : 0 ≤ x3.toInt ∧ x3.toInt ≤ x5.toInt ∧ x5.toInt ≤ (t 2 0).toInt) (hM : RowsM t x3.toInt) : Sf (Rows_makeSet_208 F t tL x3 x5 y0) MPost := by
  rw [Rows_makeSet_208]
  have g2 := ilit (2 : Int32) (2) rfl
  exact sf_any (mp_zero hI hs) (mp_rep F t tL 2 x3 x5 hI hs (by omega) hM)
theorem sp_Rows_makeSet_69 (F : Nat) (t : StI) (tL : StL) (x3 x5 y0 : Int32) (hI : RowsI t) (hs : (0 ≤ (t 2 0).toInt ∧ (t 2 0).toInt ≤ 2400 ∧ 0 ≤ (t 5 0).toInt ∧ (t 5 0).toInt ≤ 40 ∧ 0 ≤ (t 10 0).toInt ∧ (t 10 0).toInt ≤ 200))
    (h : 0 ≤ x3.toInt ∧ x3.toInt ≤ x5.toInt ∧ x5.toInt ≤ (t 2 0).toInt) (hM : RowsM t x3.toInt) : Sf (Rows_makeSet_69 F t tL x3 x5 y0) MPost := by
  rw [Rows_makeSet_69]
  have g2 := ilit (0 : Int32) (0) rfl
  exact sf_any (mp_zero hI hs) (mp_rep F t tL 0 x3 x5 hI hs (by omega) hM)
set_option maxHeartbeats 4000000 in
theorem sp_Rows_makeSet_176 (F : Nat) (hF : Big F) (t : StI) (tL : StL) (x1 x2 x3 y0 : Int32) (hI : RowsI t) (hs : (0 ≤ (t 2 0).toInt ∧ (t 2 0).toInt ≤ 2400 ∧ 0 ≤ (t 5 0).toInt ∧ (t 5 0).toInt ≤ 40 ∧ 0 ≤ (t 10 0).toInt ∧ (t 10 0).toInt ≤ 200))
    (h : 0 ≤ x3.toInt ∧ x3.toInt ≤ (t 2 0).toInt) (hM : RowsM t x3.toInt) : Sf (Rows_makeSet_176 F t tL x1 x2 x3 y0) MPost := by
  rw [Rows_makeSet_176]
  refine sf_any ?_ (sf_any ?_ ?_)
  · rw [Rows_makeSet_207]
    exact sp_Rows_makeSet_208 F t tL x3 _ _ hI hs (by omega) hM
  · rw [Rows_makeSet_203]
    exact sp_Rows_makeSet_208 F t tL x3 _ _ hI hs (by omega) hM
  · refine sf_bind (sp_Rows_joinTurned F hF t tL x1 hI hs) (fun r hr => ?_)
    have hI2 := RowsI_rf hI hr.2
    have hM2 := RowsM_rf hM hr.2
    refine sf_any ?_ ?_
    · rw [Rows_makeSet_207]
      exact sp_Rows_makeSet_208 F r.2.1 r.2.2 x3 _ _ hI2 (by omega) (by omega) hM2
    · rw [Rows_makeSet_203]
      exact sp_Rows_makeSet_208 F r.2.1 r.2.2 x3 _ _ hI2 (by omega) (by omega) hM2
set_option maxHeartbeats 4000000 in
theorem sp_Rows_makeSet_32 (F : Nat) (hF : Big F) (t : StI) (tL : StL) (x1 x2 x3 y0 : Int32) (hI : RowsI t) (hs : (0 ≤ (t 2 0).toInt ∧ (t 2 0).toInt ≤ 2400 ∧ 0 ≤ (t 5 0).toInt ∧ (t 5 0).toInt ≤ 40 ∧ 0 ≤ (t 10 0).toInt ∧ (t 10 0).toInt ≤ 200))
    (h : 0 ≤ x3.toInt ∧ x3.toInt ≤ (t 2 0).toInt) (hM : RowsM t x3.toInt) : Sf (Rows_makeSet_32 F t tL x1 x2 x3 y0) MPost := by
  rw [Rows_makeSet_32]
  refine sf_any ?_ (sf_any ?_ ?_)
  · rw [Rows_makeSet_68]
    exact sp_Rows_makeSet_69 F t tL x3 _ _ hI hs (by omega) hM
  · rw [Rows_makeSet_64]
    exact sp_Rows_makeSet_69 F t tL x3 _ _ hI hs (by omega) hM
  · refine sf_bind (sp_Rows_put F hF t tL _ _ _ hs) (fun r hr => ?_)
    have hI2 := RowsI_rf hI hr.2
    have hM2 := RowsM_rf hM hr.2
    refine sf_any ?_ ?_
    · rw [Rows_makeSet_68]
      exact sp_Rows_makeSet_69 F r.2.1 r.2.2 x3 _ _ hI2 (by omega) (by omega) hM2
    · rw [Rows_makeSet_64]
      exact sp_Rows_makeSet_69 F r.2.1 r.2.2 x3 _ _ hI2 (by omega) (by omega) hM2
set_option maxHeartbeats 4000000 in
theorem sp_Rows_makeSet (F : Nat) (hF : Big F) (t : StI) (tL : StL) (x1 x2 : Int32) (hI : RowsI t) (hs : (0 ≤ (t 2 0).toInt ∧ (t 2 0).toInt ≤ 2400 ∧ 0 ≤ (t 5 0).toInt ∧ (t 5 0).toInt ≤ 40 ∧ 0 ≤ (t 10 0).toInt ∧ (t 10 0).toInt ≤ 200)) (hM : RowsM t (t 2 0).toInt) : Sf (Rows_makeSet F t tL x1 x2) MPost := by
  rw [Rows_makeSet]
  refine sf_any (sf_any ?_ (sf_any ?_ ?_)) (sf_any ?_ ?_)
  · refine sf_bind (sp_Rows_putSide F hF t tL _ _ _ hI hs) (fun r hr => ?_)
    have hI2 := RowsI_rf hI hr.2
    have hM2 := RowsM_rf hM hr.2
    refine sf_any (mp_zero hI2 (by omega)) ?_
    refine sf_bind (sp_Rows_putSide F hF r.2.1 r.2.2 _ _ _ hI2 (by omega)) (fun q hq => ?_)
    have hI3 := RowsI_rf hI2 hq.2
    have hM3 := RowsM_rf hM2 hq.2
    have g2 := ilit (1 : Int32) (1) rfl
    exact sf_any (mp_zero hI3 (by omega)) (mp_rep F q.2.1 q.2.2 1 (t 2 0) (r.2.1 2 0) hI3 (by omega) (by omega) hM3)
  · rw [Rows_makeSet_171]
    exact sp_Rows_makeSet_176 F hF t tL x1 x2 _ _ hI hs (by omega) hM
  · refine sf_bind (sp_Rows_joinAsIs F hF t tL x1 hI hs) (fun r hr => ?_)
    have hI2 := RowsI_rf hI hr.2
    have hM2 := RowsM_rf hM hr.2
    refine sf_any ?_ ?_
    · exact sp_Rows_makeSet_176 F hF r.2.1 r.2.2 x1 x2 _ _ hI2 (by omega) (by omega) hM2
    · rw [Rows_makeSet_171]
      exact sp_Rows_makeSet_176 F hF r.2.1 r.2.2 x1 x2 _ _ hI2 (by omega) (by omega) hM2
  · rw [Rows_makeSet_27]
    exact sp_Rows_makeSet_32 F hF t tL x1 x2 _ _ hI hs (by omega) hM
  · refine sf_bind (sp_Rows_put F hF t tL _ _ _ hs) (fun r hr => ?_)
    have hI2 := RowsI_rf hI hr.2
    have hM2 := RowsM_rf hM hr.2
    refine sf_any ?_ ?_
    · exact sp_Rows_makeSet_32 F hF r.2.1 r.2.2 x1 x2 _ _ hI2 (by omega) (by omega) hM2
    · rw [Rows_makeSet_27]
      exact sp_Rows_makeSet_32 F hF r.2.1 r.2.2 x1 x2 _ _ hI2 (by omega) (by omega) hM2
set_option maxHeartbeats 4000000 in
set_option maxRecDepth 100000 in
theorem sp_Rows_noteWhatIsAsked_17 (F : Nat) (hF : Big F)   : ∀ (n : Nat) (t : StI) (tL : StL) (p1 : StI) (pile : StI) (pileL : StL) (x2 : Int32) (h : ((0 ≤ (p1 1 0).toInt ∧ (p1 1 0).toInt ≤ 600 ∧ 0 ≤ (p1 3 0).toInt ∧ (p1 3 0).toInt ≤ 40 ∧ 0 ≤ (p1 13 0).toInt ∧ (p1 13 0).toInt ≤ 229) ∧ (0 ≤ (pile 1 0).toInt ∧ (pile 1 0).toInt ≤ 41) ∧ 0 ≤ x2.toInt) ∧ 229 - x2.toInt < (n : Int) ∧ 1 ≤ n), Sf (Rows_noteWhatIsAsked_17 F  n t tL p1 pile pileL x2) (fun r => ((0 ≤ (r.2.2.1 1 0).toInt ∧ (r.2.2.1 1 0).toInt ≤ 41) ∧ (r.1 2 0).toInt = (t 2 0).toInt ∧ (r.1 5 0).toInt = (t 5 0).toInt ∧ (r.1 10 0).toInt = (t 10 0).toInt) ∧ RF 6 t r.1) := by
  intro n; induction n with
  | zero => intro t tL p1 pile pileL x2 h; omega
  | succ n ih =>
    intro t tL p1 pile pileL x2 h; rw [Rows_noteWhatIsAsked_17]
    have b_x2 := ibd x2
    refine sf_le rfl rfl (fun c1 => ?_) (fun c1 => ?_)
    · skip
      refine sf_some ⟨?_, RF_refl _⟩
      (try dsimp only)
      omega
    · skip
      refine sf_le (ilit (229 : Int32) (229) rfl) rfl (fun c2 => ?_) (fun c2 => ?_)
      · skip
        refine sf_some ⟨?_, RF_refl _⟩
        (try dsimp only)
        omega
      · skip
        refine sf_bind (sp_Pile_pop F hF 41 pile pileL (by first | (clear c2 c1 b_x2; omega) | omega)) (fun r21 h_r21 => ?_)
        (try dsimp only at h_r21)
        refine sf_idx rfl (by first | (clear h_r21; omega) | omega) (by first | (clear h_r21; omega) | omega) ?_
        refine sf_up (fun t_22 ht_t_22 hn_t_22 => ?_)
        refine sf_bind (sp_Query_entryAt F hF p1 x2 (by first | (clear h_r21; omega) | omega)) (fun r24 h_r24 => ?_)
        refine sf_eq rfl (ilit (-2 : Int32) (-2) rfl) (fun c3 => ?_) (fun c3 => ?_)
        · skip
          refine sf_eq rfl (ilit (3 : Int32) (3) rfl) (fun c4 => ?_) (fun c4 => ?_)
          · skip
            rw [Rows_noteWhatIsAsked_83]
            refine sf_bind (sp_Pile_push F hF 41 r21.2.1 r21.2.2 (3 : Int64) (by first | (clear c4 c3 h_r24 c2 c1 b_x2; omega) | omega)) (fun r18 h_r18 => ?_)
            (try dsimp only at h_r18)
            rw [Rows_noteWhatIsAsked_128]
            have g5 : ((x2 + (1 : Int32))).toInt = _ := (iadd rfl (ilit (1 : Int32) (1) rfl))
            refine sf_imp (ih t_22 tL p1 r18.1 r18.2 (x2 + (1 : Int32)) (by first | (clear c4 c3 h_r24 h_r21; omega) | omega)) (fun r hr => ?_)
            have e6 : (t_22 2 0).toInt = (t 2 0).toInt := congrArg (fun q => Int32.toInt (q 0)) (hn_t_22 2 (by decide))
            have e7 : (t_22 5 0).toInt = (t 5 0).toInt := congrArg (fun q => Int32.toInt (q 0)) (hn_t_22 5 (by decide))
            have e8 : (t_22 10 0).toInt = (t 10 0).toInt := congrArg (fun q => Int32.toInt (q 0)) (hn_t_22 10 (by decide))
            (try dsimp only at hr)
            (try dsimp only)
            refine ⟨?_, RF_trans (RF_trans (RF_refl _) hn_t_22) hr.2⟩
            omega
          · skip
            rw [Rows_noteWhatIsAsked_83]
            refine sf_bind (sp_Pile_push F hF 41 r21.2.1 r21.2.2 (((3 : Int32) - r21.1.toInt32).toInt64) (by first | (clear c4 c3 h_r24 c2 c1 b_x2; omega) | omega)) (fun r18 h_r18 => ?_)
            (try dsimp only at h_r18)
            rw [Rows_noteWhatIsAsked_128]
            have g9 : ((x2 + (1 : Int32))).toInt = _ := (iadd rfl (ilit (1 : Int32) (1) rfl))
            refine sf_imp (ih t_22 tL p1 r18.1 r18.2 (x2 + (1 : Int32)) (by first | (clear c4 c3 h_r24 h_r21; omega) | omega)) (fun r hr => ?_)
            have e10 : (t_22 2 0).toInt = (t 2 0).toInt := congrArg (fun q => Int32.toInt (q 0)) (hn_t_22 2 (by decide))
            have e11 : (t_22 5 0).toInt = (t 5 0).toInt := congrArg (fun q => Int32.toInt (q 0)) (hn_t_22 5 (by decide))
            have e12 : (t_22 10 0).toInt = (t 10 0).toInt := congrArg (fun q => Int32.toInt (q 0)) (hn_t_22 10 (by decide))
            (try dsimp only at hr)
            (try dsimp only)
            refine ⟨?_, RF_trans (RF_trans (RF_refl _) hn_t_22) hr.2⟩
            omega
        · skip
          refine sf_le (ilit (0 : Int32) (0) rfl) rfl (fun c13 => ?_) (fun c13 => ?_)
          · skip
            rw [Rows_noteWhatIsAsked_128]
            have g14 : ((x2 + (1 : Int32))).toInt = _ := (iadd rfl (ilit (1 : Int32) (1) rfl))
            refine sf_imp (ih t_22 tL p1 r21.2.1 r21.2.2 (x2 + (1 : Int32)) (by first | (clear c13 c3 h_r24; omega) | omega)) (fun r hr => ?_)
            have e15 : (t_22 2 0).toInt = (t 2 0).toInt := congrArg (fun q => Int32.toInt (q 0)) (hn_t_22 2 (by decide))
            have e16 : (t_22 5 0).toInt = (t 5 0).toInt := congrArg (fun q => Int32.toInt (q 0)) (hn_t_22 5 (by decide))
            have e17 : (t_22 10 0).toInt = (t 10 0).toInt := congrArg (fun q => Int32.toInt (q 0)) (hn_t_22 10 (by decide))
            (try dsimp only at hr)
            (try dsimp only)
            refine ⟨?_, RF_trans (RF_trans (RF_refl _) hn_t_22) hr.2⟩
            omega
          · skip
            refine sf_eq rfl (ilit (-5 : Int32) (-5) rfl) (fun c18 => ?_) (fun c18 => ?_)
            · skip
              rw [Rows_noteWhatIsAsked_106]
              refine sf_bind (sp_Pile_push F hF 41 r21.2.1 r21.2.2 (3 : Int32).toInt64 (by first | (clear c18 c13 c3 h_r24 c2 c1 b_x2; omega) | omega)) (fun r16 h_r16 => ?_)
              (try dsimp only at h_r16)
              refine sf_bind (sp_Pile_push F hF 41 r16.1 r16.2 (3 : Int32).toInt64 (by first | (clear c18 c13 c3 h_r24 h_r21 c2 c1 b_x2; omega) | omega)) (fun r17 h_r17 => ?_)
              (try dsimp only at h_r17)
              rw [Rows_noteWhatIsAsked_128]
              have g19 : ((x2 + (1 : Int32))).toInt = _ := (iadd rfl (ilit (1 : Int32) (1) rfl))
              refine sf_imp (ih t_22 tL p1 r17.1 r17.2 (x2 + (1 : Int32)) (by first | (clear h_r16 c18 c13 c3 h_r24 h_r21; omega) | omega)) (fun r hr => ?_)
              have e20 : (t_22 2 0).toInt = (t 2 0).toInt := congrArg (fun q => Int32.toInt (q 0)) (hn_t_22 2 (by decide))
              have e21 : (t_22 5 0).toInt = (t 5 0).toInt := congrArg (fun q => Int32.toInt (q 0)) (hn_t_22 5 (by decide))
              have e22 : (t_22 10 0).toInt = (t 10 0).toInt := congrArg (fun q => Int32.toInt (q 0)) (hn_t_22 10 (by decide))
              (try dsimp only at hr)
              (try dsimp only)
              refine ⟨?_, RF_trans (RF_trans (RF_refl _) hn_t_22) hr.2⟩
              omega
            · skip
              rw [Rows_noteWhatIsAsked_106]
              refine sf_bind (sp_Pile_push F hF 41 r21.2.1 r21.2.2 r21.1.toInt32.toInt64 (by first | (clear c18 c13 c3 h_r24 c2 c1 b_x2; omega) | omega)) (fun r16 h_r16 => ?_)
              (try dsimp only at h_r16)
              refine sf_bind (sp_Pile_push F hF 41 r16.1 r16.2 r21.1.toInt32.toInt64 (by first | (clear c18 c13 c3 h_r24 h_r21 c2 c1 b_x2; omega) | omega)) (fun r17 h_r17 => ?_)
              (try dsimp only at h_r17)
              rw [Rows_noteWhatIsAsked_128]
              have g23 : ((x2 + (1 : Int32))).toInt = _ := (iadd rfl (ilit (1 : Int32) (1) rfl))
              refine sf_imp (ih t_22 tL p1 r17.1 r17.2 (x2 + (1 : Int32)) (by first | (clear h_r16 c18 c13 c3 h_r24 h_r21; omega) | omega)) (fun r hr => ?_)
              have e24 : (t_22 2 0).toInt = (t 2 0).toInt := congrArg (fun q => Int32.toInt (q 0)) (hn_t_22 2 (by decide))
              have e25 : (t_22 5 0).toInt = (t 5 0).toInt := congrArg (fun q => Int32.toInt (q 0)) (hn_t_22 5 (by decide))
              have e26 : (t_22 10 0).toInt = (t 10 0).toInt := congrArg (fun q => Int32.toInt (q 0)) (hn_t_22 10 (by decide))
              (try dsimp only at hr)
              (try dsimp only)
              refine ⟨?_, RF_trans (RF_trans (RF_refl _) hn_t_22) hr.2⟩
              omega
set_option maxHeartbeats 4000000 in
set_option maxRecDepth 100000 in
theorem sp_Rows_noteWhatIsAsked (F : Nat) (hF : Big F) (t : StI) (tL : StL) (p1 : StI) (pile : StI) (pileL : StL) (h : (0 ≤ (p1 1 0).toInt ∧ (p1 1 0).toInt ≤ 600 ∧ 0 ≤ (p1 3 0).toInt ∧ (p1 3 0).toInt ≤ 40 ∧ 0 ≤ (p1 13 0).toInt ∧ (p1 13 0).toInt ≤ 229) ∧ (0 ≤ (pile 1 0).toInt ∧ (pile 1 0).toInt ≤ 41)) : Sf (Rows_noteWhatIsAsked F t tL p1 pile pileL) (fun r => ((0 ≤ (r.2.2.1 1 0).toInt ∧ (r.2.2.1 1 0).toInt ≤ 41) ∧ (r.1 2 0).toInt = (t 2 0).toInt ∧ (r.1 5 0).toInt = (t 5 0).toInt ∧ (r.1 10 0).toInt = (t 10 0).toInt) ∧ RF 6 t r.1) := by
  rw [Rows_noteWhatIsAsked]
  refine sf_bind (sp_Pile_clear F hF 41 pile pileL (by omega)) (fun r29 h_r29 => ?_)
  (try dsimp only at h_r29)
  refine sf_bind (sp_Pile_push F hF 41 r29.1 r29.2 (1 : Int64) (by omega)) (fun r30 h_r30 => ?_)
  (try dsimp only at h_r30)
  have g1 := (ilit (0 : Int32) (0) rfl)
  refine sf_imp (sp_Rows_noteWhatIsAsked_17 F hF   F t tL p1 r30.1 r30.2 (0 : Int32) (⟨by first | (clear h_r29; omega) | omega, fuel_ok hF (by first | (clear h_r30 h_r29; omega) | omega)⟩)) (fun r hr => ?_)
  (try dsimp only at hr)
  (try dsimp only)
  refine ⟨?_, RF_trans (RF_refl _) hr.2⟩
  omega
set_option maxHeartbeats 4000000 in
set_option maxRecDepth 100000 in
theorem sp_Rows_keepRows (F : Nat) (hF : Big F) (t : StI) (tL : StL) (x1 : Int32) (h : (0 ≤ (t 2 0).toInt ∧ (t 2 0).toInt ≤ 2400 ∧ 0 ≤ (t 5 0).toInt ∧ (t 5 0).toInt ≤ 40 ∧ 0 ≤ (t 10 0).toInt ∧ (t 10 0).toInt ≤ 200)) : Sf (Rows_keepRows F t tL x1) (fun r => ((0 ≤ (r.2.1 2 0).toInt ∧ (r.2.1 2 0).toInt ≤ 2400 ∧ 0 ≤ (r.2.1 5 0).toInt ∧ (r.2.1 5 0).toInt ≤ 40 ∧ 0 ≤ (r.2.1 10 0).toInt ∧ (r.2.1 10 0).toInt ≤ 200) ∧ (r.2.1 2 0).toInt = (t 2 0).toInt ∧ (r.2.1 5 0).toInt = (t 5 0).toInt) ∧ RF 10 t r.2.1) := by
  rw [Rows_keepRows]
  have b_x1 := ibd x1
  refine sf_up (fun t_16 ht_t_16 hn_t_16 => ?_)
  refine sf_neg (ilit (0 : Int32) (0) rfl) (by first | (clear b_x1; omega) | omega) ?_
  refine sf_neg (ilit (0 : Int32) (0) rfl) (by first | (clear b_x1; omega) | omega) ?_
  have e1 : (t_16 10 0).toInt = _ := (congrArg (fun q => Int32.toInt (q 0)) ht_t_16).trans (iitelt (ilit (0 : Int32) (0) rfl) (iitelt (ilit (200 : Int32) (200) rfl) rfl (ilit (200 : Int32) (200) rfl) rfl) (iitelt (ilit (200 : Int32) (200) rfl) rfl (ilit (200 : Int32) (200) rfl) rfl) (ilit (0 : Int32) (0) rfl))
  refine sf_neg rfl (by omega) ?_
  refine sf_cap (ilit (0 : Int32) (0) rfl) rfl (by omega) (by omega) (by omega) ?_
  refine sf_cap (ilit (0 : Int32) (0) rfl) rfl (by omega) (by omega) (by omega) ?_
  refine sf_up (fun t_17 ht_t_17 hn_t_17 => ?_)
  refine sf_neg (ilit (0 : Int32) (0) rfl) (by first | (clear e1 b_x1; omega) | omega) ?_
  refine sf_neg (ilit (0 : Int32) (0) rfl) (by first | (clear e1 b_x1; omega) | omega) ?_
  refine sf_neg rfl (by omega) ?_
  refine sf_cap (ilit (0 : Int32) (0) rfl) rfl (by omega) (by omega) (by omega) ?_
  refine sf_cap (ilit (0 : Int32) (0) rfl) rfl (by omega) (by omega) (by omega) ?_
  refine sf_up (fun t_24 ht_t_24 hn_t_24 => ?_)
  have e2 : (t_16 2 0).toInt = (t 2 0).toInt := congrArg (fun q => Int32.toInt (q 0)) (hn_t_16 2 (by decide))
  have e3 : (t_16 5 0).toInt = (t 5 0).toInt := congrArg (fun q => Int32.toInt (q 0)) (hn_t_16 5 (by decide))
  refine sf_some ⟨?_, RF_trans (RF_refl _) hn_t_16⟩
  (try dsimp only)
  omega
set_option maxHeartbeats 4000000 in
theorem sp_Rows_make_54 (F : Nat) (hF : Big F) : ∀ (n : Nat) (t : StI) (tL : StL) (p1 pile : StI) (pileL : StL) (x2 : Int32) (hI : RowsI t) (hs : (0 ≤ (t 2 0).toInt ∧ (t 2 0).toInt ≤ 2400 ∧ 0 ≤ (t 5 0).toInt ∧ (t 5 0).toInt ≤ 40 ∧ 0 ≤ (t 10 0).toInt ∧ (t 10 0).toInt ≤ 200)) (hM : RowsM t (t 2 0).toInt)
    (h : ((0 ≤ (p1 1 0).toInt ∧ (p1 1 0).toInt ≤ 600 ∧ 0 ≤ (p1 3 0).toInt ∧ (p1 3 0).toInt ≤ 40 ∧ 0 ≤ (p1 13 0).toInt ∧ (p1 13 0).toInt ≤ 229) ∧ (0 ≤ (pile 1 0).toInt ∧ (pile 1 0).toInt ≤ 41)) ∧ x2.toInt < 229 ∧ x2.toInt + 1 < (n : Int) ∧ 1 ≤ n), Sf (Rows_make_54 F n t tL p1 pile pileL x2) (fun r => RowsI r.2.1 ∧ (0 ≤ (r.2.1 2 0).toInt ∧ (r.2.1 2 0).toInt ≤ 2400 ∧ 0 ≤ (r.2.1 5 0).toInt ∧ (r.2.1 5 0).toInt ≤ 40 ∧ 0 ≤ (r.2.1 10 0).toInt ∧ (r.2.1 10 0).toInt ≤ 200) ∧ (0 ≤ (r.2.2.2.1 1 0).toInt ∧ (r.2.2.2.1 1 0).toInt ≤ 41)) := by
  intro n
  induction n with
  | zero => intro t tL p1 pile pileL x2 hI hs hM h; omega
  | succ n ih =>
    intro t tL p1 pile pileL x2 hI hs hM h
    rw [Rows_make_54]
    refine sf_lt rfl (ilit (0 : Int32) (0) rfl) (fun c1 => ?_) (fun c1 => ?_)
    · refine sf_bind (sp_Rows_sideTo F hF t tL 0 1 hI hs) (fun r15 _ => ?_)
      refine sf_bind (sp_Rows_keepRows F hF t tL r15 hs) (fun r16 h16 => ?_)
      refine sf_some ⟨?_, ?_, ?_⟩
      · exact RowsI_rf10 hI h16.2
      · (try dsimp only)
        omega
      · (try dsimp only)
        omega
    · refine sf_bind (sp_Query_entryAt F hF p1 x2 (by omega)) (fun r17 _ => ?_)
      refine sf_idx rfl (by omega) (by omega) ?_
      refine sf_bind (sp_Rows_makeSet F hF t tL r17 _ hI hs hM) (fun r19 h19 => ?_)
      obtain ⟨m1, m2, m3, m4⟩ := h19
      have g4 : (x2 + (-1 : Int32)).toInt = x2.toInt - 1 := idec (by omega)
      refine sf_eq rfl (ilit (0 : Int32) (0) rfl) (fun c2 => ?_) (fun c2 => ?_)
      · refine sf_some ⟨m3, m2, ?_⟩
        (try dsimp only)
        omega
      · exact ih r19.2.1 r19.2.2 p1 pile pileL (x2 + (-1 : Int32)) m3 m2 (m4 (by omega)) (by clear m1 m2 m3 m4 c2; omega)
set_option maxHeartbeats 4000000 in
theorem sp_Rows_make (F : Nat) (hF : Big F) (t : StI) (tL : StL) (p1 pile : StI) (pileL : StL) (hI : RowsI t) (hs : (0 ≤ (t 2 0).toInt ∧ (t 2 0).toInt ≤ 2400 ∧ 0 ≤ (t 5 0).toInt ∧ (t 5 0).toInt ≤ 40 ∧ 0 ≤ (t 10 0).toInt ∧ (t 10 0).toInt ≤ 200))
    (h : ((0 ≤ (p1 1 0).toInt ∧ (p1 1 0).toInt ≤ 600 ∧ 0 ≤ (p1 3 0).toInt ∧ (p1 3 0).toInt ≤ 40 ∧ 0 ≤ (p1 13 0).toInt ∧ (p1 13 0).toInt ≤ 229) ∧ (0 ≤ (pile 1 0).toInt ∧ (pile 1 0).toInt ≤ 41))) : Sf (Rows_make F t tL p1 pile pileL) (fun r => RowsI r.2.1 ∧ (0 ≤ (r.2.1 2 0).toInt ∧ (r.2.1 2 0).toInt ≤ 2400 ∧ 0 ≤ (r.2.1 5 0).toInt ∧ (r.2.1 5 0).toInt ≤ 40 ∧ 0 ≤ (r.2.1 10 0).toInt ∧ (r.2.1 10 0).toInt ≤ 200) ∧ (0 ≤ (r.2.2.2.1 1 0).toInt ∧ (r.2.2.2.1 1 0).toInt ≤ 41)) := by
  rw [Rows_make]
  refine sf_up (fun t_21 h1 h2 => ?_)
  refine sf_up (fun t_22 h3 h4 => ?_)
  have e2 : (t_22 2 0).toInt = 0 := congrArg (fun q => Int32.toInt (q 0)) ((h4 2 (by decide)).trans h1)
  have e5 : (t_22 5 0).toInt = 0 := congrArg (fun q => Int32.toInt (q 0)) h3
  have e10 : (t_22 10 0).toInt = (t 10 0).toInt := congrArg (fun q => Int32.toInt (q 0)) ((h4 10 (by decide)).trans (h2 10 (by decide)))
  have hI2 : RowsI t_22 := by
    intro j
    rw [h4 3 (by decide), h4 4 (by decide), h2 3 (by decide), h2 4 (by decide)]
    exact hI j
  refine sf_eq rfl (ilit (0 : Int32) (0) rfl) (fun c1 => ?_) (fun c1 => ?_)
  · refine sf_bind (sp_Rows_put F hF t_22 tL 0 0 0 (by omega)) (fun r25 h25 => ?_)
    refine sf_bind (sp_Rows_keepRows F hF r25.2.1 r25.2.2 _ (by omega)) (fun r26 h26 => ?_)
    refine sf_some ⟨?_, ?_, ?_⟩
    · exact RowsI_rf10 (RowsI_rf hI2 h25.2) h26.2
    · (try dsimp only)
      omega
    · (try dsimp only)
      omega
  · refine sf_bind (sp_Rows_noteWhatIsAsked F hF t_22 tL p1 pile pileL (by omega)) (fun r24 h24 => ?_)
    have g1 : ((if (229 : Int32) < (p1 13 0) then (229 : Int32) else (p1 13 0)) - (1 : Int32)).toInt = _ := isub (iitelt (ilit (229 : Int32) (229) rfl) rfl (ilit (229 : Int32) (229) rfl) rfl) (ilit (1 : Int32) (1) rfl)
    have h24a := h24.1
    refine sp_Rows_make_54 F hF F r24.1 r24.2.1 p1 r24.2.2.1 r24.2.2.2 _ (RowsI_rf6 hI2 h24.2) (by omega) ?_ ⟨by omega, by omega, fuel_ok hF (by omega)⟩
    intro i j hij hj
    omega

