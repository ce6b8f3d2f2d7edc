set_option maxHeartbeats 4000000 in
set_option maxRecDepth 100000 in
theorem sp_MQ_isSmallLetter (F : Nat) (hF : Big F) (x0 : Int32) (h : True) : Sf (MQ_isSmallLetter F x0) (fun r => (r.toInt = 0 ∨ r.toInt = 1)) := by
  rw [MQ_isSmallLetter]
  have b_x0 := ibd x0
  refine sf_lt rfl (ilit (97 : Int32) (97) rfl) (fun c1 => ?_) (fun c1 => ?_)
  · skip
    have g2 := (ilit (0 : Int32) (0) rfl)
    refine sf_some ?_
    (try dsimp only)
    omega
  · skip
    refine sf_lt (ilit (122 : Int32) (122) rfl) rfl (fun c3 => ?_) (fun c3 => ?_)
    · skip
      have g4 := (ilit (0 : Int32) (0) rfl)
      refine sf_some ?_
      (try dsimp only)
      omega
    · skip
      have g5 := (ilit (1 : Int32) (1) rfl)
      refine sf_some ?_
      (try dsimp only)
      omega
set_option maxHeartbeats 4000000 in
set_option maxRecDepth 100000 in
theorem sp_MQ_isDigit (F : Nat) (hF : Big F) (x0 : Int32) (h : True) : Sf (MQ_isDigit F x0) (fun r => (r.toInt = 0 ∨ r.toInt = 1)) := by
  rw [MQ_isDigit]
  have b_x0 := ibd x0
  refine sf_lt rfl (ilit (48 : Int32) (48) rfl) (fun c1 => ?_) (fun c1 => ?_)
  · skip
    have g2 := (ilit (0 : Int32) (0) rfl)
    refine sf_some ?_
    (try dsimp only)
    omega
  · skip
    refine sf_lt (ilit (57 : Int32) (57) rfl) rfl (fun c3 => ?_) (fun c3 => ?_)
    · skip
      have g4 := (ilit (0 : Int32) (0) rfl)
      refine sf_some ?_
      (try dsimp only)
      omega
    · skip
      have g5 := (ilit (1 : Int32) (1) rfl)
      refine sf_some ?_
      (try dsimp only)
      omega
set_option maxHeartbeats 4000000 in
set_option maxRecDepth 100000 in
theorem sp_MQ_isSpace (F : Nat) (hF : Big F) (x0 : Int32) (h : True) : Sf (MQ_isSpace F x0) (fun r => (r.toInt = 0 ∨ r.toInt = 1)) := by
  rw [MQ_isSpace]
  have b_x0 := ibd x0
  refine sf_eq rfl (ilit (32 : Int32) (32) rfl) (fun c1 => ?_) (fun c1 => ?_)
  · skip
    have g2 := (ilit (1 : Int32) (1) rfl)
    refine sf_some ?_
    (try dsimp only)
    omega
  · skip
    refine sf_eq rfl (ilit (9 : Int32) (9) rfl) (fun c3 => ?_) (fun c3 => ?_)
    · skip
      have g4 := (ilit (1 : Int32) (1) rfl)
      refine sf_some ?_
      (try dsimp only)
      omega
    · skip
      have g5 := (ilit (0 : Int32) (0) rfl)
      refine sf_some ?_
      (try dsimp only)
      omega
set_option maxHeartbeats 4000000 in
set_option maxRecDepth 100000 in
theorem sp_MQ_isTextByte (F : Nat) (hF : Big F) (x0 : Int32) (h : True) : Sf (MQ_isTextByte F x0) (fun r => (r.toInt = 0 ∨ r.toInt = 1)) := by
  rw [MQ_isTextByte]
  have b_x0 := ibd x0
  refine sf_lt rfl (ilit (33 : Int32) (33) rfl) (fun c1 => ?_) (fun c1 => ?_)
  · skip
    have g2 := (ilit (0 : Int32) (0) rfl)
    refine sf_some ?_
    (try dsimp only)
    omega
  · skip
    refine sf_lt (ilit (126 : Int32) (126) rfl) rfl (fun c3 => ?_) (fun c3 => ?_)
    · skip
      have g4 := (ilit (0 : Int32) (0) rfl)
      refine sf_some ?_
      (try dsimp only)
      omega
    · skip
      refine sf_eq rfl (ilit (40 : Int32) (40) rfl) (fun c5 => ?_) (fun c5 => ?_)
      · skip
        have g6 := (ilit (0 : Int32) (0) rfl)
        refine sf_some ?_
        (try dsimp only)
        omega
      · skip
        refine sf_eq rfl (ilit (41 : Int32) (41) rfl) (fun c7 => ?_) (fun c7 => ?_)
        · skip
          have g8 := (ilit (0 : Int32) (0) rfl)
          refine sf_some ?_
          (try dsimp only)
          omega
        · skip
          refine sf_eq rfl (ilit (34 : Int32) (34) rfl) (fun c9 => ?_) (fun c9 => ?_)
          · skip
            have g10 := (ilit (0 : Int32) (0) rfl)
            refine sf_some ?_
            (try dsimp only)
            omega
          · skip
            refine sf_eq rfl (ilit (58 : Int32) (58) rfl) (fun c11 => ?_) (fun c11 => ?_)
            · skip
              have g12 := (ilit (0 : Int32) (0) rfl)
              refine sf_some ?_
              (try dsimp only)
              omega
            · skip
              have g13 := (ilit (1 : Int32) (1) rfl)
              refine sf_some ?_
              (try dsimp only)
              omega
set_option maxHeartbeats 4000000 in
set_option maxRecDepth 100000 in
theorem sp_MQ_small (F : Nat) (hF : Big F) (x0 : Int32) (h : True) : Sf (MQ_small F x0) (fun r => True) := by
  rw [MQ_small]
  have b_x0 := ibd x0
  refine sf_lt rfl (ilit (65 : Int32) (65) rfl) (fun c1 => ?_) (fun c1 => ?_)
  · skip
    exact sf_some trivial
  · skip
    refine sf_lt (ilit (90 : Int32) (90) rfl) rfl (fun c2 => ?_) (fun c2 => ?_)
    · skip
      exact sf_some trivial
    · skip
      exact sf_some trivial
set_option maxHeartbeats 4000000 in
set_option maxRecDepth 100000 in
theorem sp_MQ_nameOf (F : Nat) (hF : Big F) (x0 : Int32) (h : True) : Sf (MQ_nameOf F x0) (fun r => r < 13) := by
  rw [MQ_nameOf]
  have b_x0 := ibd x0
  refine sf_eq rfl (ilit (1 : Int32) (1) rfl) (fun c1 => ?_) (fun c1 => ?_)
  · skip
    have g2 := (ilit (0 : Int32) (0) rfl)
    refine sf_some ?_
    (try dsimp only)
    omega
  · skip
    refine sf_eq rfl (ilit (2 : Int32) (2) rfl) (fun c3 => ?_) (fun c3 => ?_)
    · skip
      have g4 := (ilit (1 : Int32) (1) rfl)
      refine sf_some ?_
      (try dsimp only)
      omega
    · skip
      refine sf_eq rfl (ilit (3 : Int32) (3) rfl) (fun c5 => ?_) (fun c5 => ?_)
      · skip
        have g6 := (ilit (2 : Int32) (2) rfl)
        refine sf_some ?_
        (try dsimp only)
        omega
      · skip
        refine sf_eq rfl (ilit (4 : Int32) (4) rfl) (fun c7 => ?_) (fun c7 => ?_)
        · skip
          have g8 := (ilit (3 : Int32) (3) rfl)
          refine sf_some ?_
          (try dsimp only)
          omega
        · skip
          refine sf_eq rfl (ilit (5 : Int32) (5) rfl) (fun c9 => ?_) (fun c9 => ?_)
          · skip
            have g10 := (ilit (4 : Int32) (4) rfl)
            refine sf_some ?_
            (try dsimp only)
            omega
          · skip
            refine sf_eq rfl (ilit (6 : Int32) (6) rfl) (fun c11 => ?_) (fun c11 => ?_)
            · skip
              have g12 := (ilit (5 : Int32) (5) rfl)
              refine sf_some ?_
              (try dsimp only)
              omega
            · skip
              refine sf_eq rfl (ilit (7 : Int32) (7) rfl) (fun c13 => ?_) (fun c13 => ?_)
              · skip
                have g14 := (ilit (6 : Int32) (6) rfl)
                refine sf_some ?_
                (try dsimp only)
                omega
              · skip
                refine sf_eq rfl (ilit (8 : Int32) (8) rfl) (fun c15 => ?_) (fun c15 => ?_)
                · skip
                  have g16 := (ilit (7 : Int32) (7) rfl)
                  refine sf_some ?_
                  (try dsimp only)
                  omega
                · skip
                  refine sf_eq rfl (ilit (9 : Int32) (9) rfl) (fun c17 => ?_) (fun c17 => ?_)
                  · skip
                    have g18 := (ilit (8 : Int32) (8) rfl)
                    refine sf_some ?_
                    (try dsimp only)
                    omega
                  · skip
                    refine sf_eq rfl (ilit (10 : Int32) (10) rfl) (fun c19 => ?_) (fun c19 => ?_)
                    · skip
                      have g20 := (ilit (9 : Int32) (9) rfl)
                      refine sf_some ?_
                      (try dsimp only)
                      omega
                    · skip
                      refine sf_eq rfl (ilit (11 : Int32) (11) rfl) (fun c21 => ?_) (fun c21 => ?_)
                      · skip
                        have g22 := (ilit (10 : Int32) (10) rfl)
                        refine sf_some ?_
                        (try dsimp only)
                        omega
                      · skip
                        refine sf_eq rfl (ilit (12 : Int32) (12) rfl) (fun c23 => ?_) (fun c23 => ?_)
                        · skip
                          have g24 := (ilit (11 : Int32) (11) rfl)
                          refine sf_some ?_
                          (try dsimp only)
                          omega
                        · skip
                          have g25 := (ilit (12 : Int32) (12) rfl)
                          refine sf_some ?_
                          (try dsimp only)
                          omega
set_option maxHeartbeats 4000000 in
set_option maxRecDepth 100000 in
theorem sp_Pile_clear (F : Nat) (hF : Big F) (tN : Nat) (t : StI) (tL : StL) (h : tN ≤ 1000) : Sf (Pile_clear F tN t tL) (fun r => (0 ≤ (r.1 1 0).toInt ∧ (r.1 1 0).toInt ≤ tN)) := by
  rw [Pile_clear]
  refine sf_up (fun t_2 ht_t_2 hn_t_2 => ?_)
  have e1 : (t_2 1 0).toInt = _ := (congrArg (fun q => Int32.toInt (q 0)) ht_t_2).trans (ilit (0 : Int32) (0) rfl)
  refine sf_some ?_
  (try dsimp only)
  omega
set_option maxHeartbeats 4000000 in
set_option maxRecDepth 100000 in
theorem sp_Pile_isEmpty (F : Nat) (hF : Big F) (tN : Nat) (t : StI) (tL : StL) (h : tN ≤ 1000) : Sf (Pile_isEmpty F tN t tL) (fun r => (r.toInt = 0 ∨ r.toInt = 1)) := by
  rw [Pile_isEmpty]
  refine sf_eq rfl (ilit (0 : Int32) (0) rfl) (fun c1 => ?_) (fun c1 => ?_)
  · skip
    have g2 := (ilit (1 : Int32) (1) rfl)
    refine sf_some ?_
    (try dsimp only)
    omega
  · skip
    have g3 := (ilit (0 : Int32) (0) rfl)
    refine sf_some ?_
    (try dsimp only)
    omega
set_option maxHeartbeats 4000000 in
set_option maxRecDepth 100000 in
theorem sp_Pile_push (F : Nat) (hF : Big F) (tN : Nat) (t : StI) (tL : StL) (x1 : Int64) (h : tN ≤ 1000 ∧ (0 ≤ (t 1 0).toInt ∧ (t 1 0).toInt ≤ tN)) : Sf (Pile_push F tN t tL x1) (fun r => (0 ≤ (r.1 1 0).toInt ∧ (r.1 1 0).toInt ≤ tN)) := by
  rw [Pile_push]
  refine sf_le (iofn tN (by omega)) rfl (fun c1 => ?_) (fun c1 => ?_)
  · skip
    refine sf_some ?_
    (try dsimp only)
    omega
  · skip
    refine sf_idx rfl (by omega) (by omega) ?_
    refine sf_up (fun t_6 ht_t_6 hn_t_6 => ?_)
    refine sf_up (fun t_8 ht_t_8 hn_t_8 => ?_)
    have e2 : (t_8 1 0).toInt = _ := (congrArg (fun q => Int32.toInt (q 0)) ht_t_8).trans (iadd rfl (ilit (1 : Int32) (1) rfl))
    refine sf_some ?_
    (try dsimp only)
    omega
set_option maxHeartbeats 4000000 in
set_option maxRecDepth 100000 in
theorem sp_Pile_pop (F : Nat) (hF : Big F) (tN : Nat) (t : StI) (tL : StL) (h : tN ≤ 1000 ∧ (0 ≤ (t 1 0).toInt ∧ (t 1 0).toInt ≤ tN)) : Sf (Pile_pop F tN t tL) (fun r => (0 ≤ (r.2.1 1 0).toInt ∧ (r.2.1 1 0).toInt ≤ tN)) := by
  rw [Pile_pop]
  refine sf_lt (ilit (0 : Int32) (0) rfl) rfl (fun c1 => ?_) (fun c1 => ?_)
  · skip
    refine sf_up (fun t_5 ht_t_5 hn_t_5 => ?_)
    have e2 : (t_5 1 0).toInt = _ := (congrArg (fun q => Int32.toInt (q 0)) ht_t_5).trans (isub rfl (ilit (1 : Int32) (1) rfl))
    refine sf_idx rfl (by omega) (by omega) ?_
    refine sf_some ?_
    (try dsimp only)
    omega
  · skip
    refine sf_some ?_
    (try dsimp only)
    omega
set_option maxHeartbeats 4000000 in
set_option maxRecDepth 100000 in
theorem sp_Query_has (F : Nat) (hF : Big F) (t : StI) (x1 : Int32) (h : True) : Sf (Query_has F t x1) (fun r => (r.toInt = 0 ∨ (r.toInt = 1 ∧ 0 ≤ x1.toInt ∧ x1.toInt < (t 3 0).toInt))) := by
  rw [Query_has]
  have b_x1 := ibd x1
  refine sf_lt rfl (ilit (0 : Int32) (0) rfl) (fun c1 => ?_) (fun c1 => ?_)
  · skip
    have g2 := (ilit (0 : Int32) (0) rfl)
    refine sf_some ?_
    (try dsimp only)
    omega
  · skip
    refine sf_le rfl rfl (fun c3 => ?_) (fun c3 => ?_)
    · skip
      have g4 := (ilit (0 : Int32) (0) rfl)
      refine sf_some ?_
      (try dsimp only)
      omega
    · skip
      have g5 := (ilit (1 : Int32) (1) rfl)
      refine sf_some ?_
      (try dsimp only)
      omega
set_option maxHeartbeats 4000000 in
set_option maxRecDepth 100000 in
theorem sp_Query_isFull (F : Nat) (hF : Big F) (t : StI) (h : True) : Sf (Query_isFull F t) (fun r => (r.toInt = 0 ∨ r.toInt = 1)) := by
  rw [Query_isFull]
  refine sf_lt rfl (ilit (40 : Int32) (40) rfl) (fun c1 => ?_) (fun c1 => ?_)
  · skip
    have g2 := (ilit (0 : Int32) (0) rfl)
    refine sf_some ?_
    (try dsimp only)
    omega
  · skip
    have g3 := (ilit (1 : Int32) (1) rfl)
    refine sf_some ?_
    (try dsimp only)
    omega
set_option maxHeartbeats 4000000 in
set_option maxRecDepth 100000 in
theorem sp_Query_byteAt (F : Nat) (hF : Big F) (t : StI) (x1 : Int32) (h : (0 ≤ (t 1 0).toInt ∧ (t 1 0).toInt ≤ 600 ∧ 0 ≤ (t 3 0).toInt ∧ (t 3 0).toInt ≤ 40 ∧ 0 ≤ (t 13 0).toInt ∧ (t 13 0).toInt ≤ 229)) : Sf (Query_byteAt F t x1) (fun r => True) := by
  rw [Query_byteAt]
  have b_x1 := ibd x1
  refine sf_lt rfl (ilit (0 : Int32) (0) rfl) (fun c1 => ?_) (fun c1 => ?_)
  · skip
    exact sf_some trivial
  · skip
    refine sf_le rfl rfl (fun c2 => ?_) (fun c2 => ?_)
    · skip
      exact sf_some trivial
    · skip
      refine sf_idx rfl (by omega) (by omega) ?_
      exact sf_some trivial
set_option maxHeartbeats 4000000 in
set_option maxRecDepth 100000 in
theorem sp_Query_entryAt (F : Nat) (hF : Big F) (t : StI) (x1 : Int32) (h : (0 ≤ (t 1 0).toInt ∧ (t 1 0).toInt ≤ 600 ∧ 0 ≤ (t 3 0).toInt ∧ (t 3 0).toInt ≤ 40 ∧ 0 ≤ (t 13 0).toInt ∧ (t 13 0).toInt ≤ 229)) : Sf (Query_entryAt F t x1) (fun r => True) := by
  rw [Query_entryAt]
  have b_x1 := ibd x1
  refine sf_lt rfl (ilit (0 : Int32) (0) rfl) (fun c1 => ?_) (fun c1 => ?_)
  · skip
    exact sf_some trivial
  · skip
    refine sf_le rfl rfl (fun c2 => ?_) (fun c2 => ?_)
    · skip
      exact sf_some trivial
    · skip
      refine sf_idx rfl (by omega) (by omega) ?_
      exact sf_some trivial
set_option maxHeartbeats 4000000 in
set_option maxRecDepth 100000 in
theorem sp_Query_find_3 (F : Nat) (hF : Big F)   : ∀ (n : Nat) (t : StI) (x1 : Int32) (x3 : Int32) (x4 : Int32) (h : ((0 ≤ (t 1 0).toInt ∧ (t 1 0).toInt ≤ 600 ∧ 0 ≤ (t 3 0).toInt ∧ (t 3 0).toInt ≤ 40 ∧ 0 ≤ (t 13 0).toInt ∧ (t 13 0).toInt ≤ 229)) ∧ x3.toInt - x4.toInt < (n : Int) ∧ 1 ≤ n), Sf (Query_find_3 F  n t x1 x3 x4) (fun r => (r.toInt = -1 ∨ (x4.toInt ≤ r.toInt ∧ r.toInt < x3.toInt))) := by
  intro n; induction n with
  | zero => intro t x1 x3 x4 h; omega
  | succ n ih =>
    intro t x1 x3 x4 h; rw [Query_find_3]
    have b_x1 := ibd x1
    have b_x3 := ibd x3
    have b_x4 := ibd x4
    refine sf_le rfl rfl (fun c1 => ?_) (fun c1 => ?_)
    · skip
      have g2 := (ilit (-1 : Int32) (-1) rfl)
      refine sf_some ?_
      (try dsimp only)
      omega
    · skip
      refine sf_bind (sp_Query_byteAt F hF t x4 (by first | (clear c1 b_x4 b_x3 b_x1; omega) | omega)) (fun r5 h_r5 => ?_)
      refine sf_eq rfl rfl (fun c3 => ?_) (fun c3 => ?_)
      · skip
        refine sf_some ?_
        (try dsimp only)
        omega
      · skip
        have g4 : ((x4 + (1 : Int32))).toInt = _ := (iadd rfl (ilit (1 : Int32) (1) rfl))
        refine sf_imp (ih t x1 x3 (x4 + (1 : Int32)) (by first | (clear c3 h_r5 b_x1; omega) | omega)) (fun r hr => ?_)
        (try dsimp only at hr)
        (try dsimp only)
        omega
set_option maxHeartbeats 4000000 in
set_option maxRecDepth 100000 in
theorem sp_Query_find (F : Nat) (hF : Big F) (t : StI) (x1 : Int32) (x2 : Int32) (x3 : Int32) (h : (0 ≤ (t 1 0).toInt ∧ (t 1 0).toInt ≤ 600 ∧ 0 ≤ (t 3 0).toInt ∧ (t 3 0).toInt ≤ 40 ∧ 0 ≤ (t 13 0).toInt ∧ (t 13 0).toInt ≤ 229)) : Sf (Query_find F t x1 x2 x3) (fun r => (r.toInt = -1 ∨ (x2.toInt ≤ r.toInt ∧ r.toInt < x3.toInt))) := by
  rw [Query_find]
  have b_x1 := ibd x1
  have b_x2 := ibd x2
  have b_x3 := ibd x3
  refine sf_imp (sp_Query_find_3 F hF   F t x1 x3 x2 (⟨by first | (clear b_x3 b_x2 b_x1; omega) | omega, fuel_ok hF (by first | (clear b_x1; omega) | omega)⟩)) (fun r hr => ?_)
  (try dsimp only at hr)
  (try dsimp only)
  omega
set_option maxHeartbeats 4000000 in
set_option maxRecDepth 100000 in
theorem sp_Query_says_15 (F : Nat) (hF : Big F)   : ∀ (n : Nat) (t : StI) (x1 : Int32) (x3 : Nat) (x4 : Int32) (h : ((0 ≤ (t 1 0).toInt ∧ (t 1 0).toInt ≤ 600 ∧ 0 ≤ (t 3 0).toInt ∧ (t 3 0).toInt ≤ 40 ∧ 0 ≤ (t 13 0).toInt ∧ (t 13 0).toInt ≤ 229) ∧ x3 < 23 ∧ 0 ≤ x4.toInt ∧ x4.toInt ≤ 20) ∧ 20 - x4.toInt < (n : Int) ∧ 1 ≤ n), Sf (Query_says_15 F  n t x1 x3 x4) (fun r => (r.toInt = 0 ∨ r.toInt = 1)) := by
  intro n; induction n with
  | zero => intro t x1 x3 x4 h; omega
  | succ n ih =>
    intro t x1 x3 x4 h; rw [Query_says_15]
    have b_x1 := ibd x1
    have b_x4 := ibd x4
    refine sf_bind (sp_String_length F x3 (by omega)) (fun r8 h_r8 => ?_)
    refine sf_le rfl rfl (fun c1 => ?_) (fun c1 => ?_)
    · skip
      have g2 := (ilit (1 : Int32) (1) rfl)
      refine sf_some ?_
      (try dsimp only)
      omega
    · skip
      have g3 : ((x1 + x4)).toInt = _ := (iadd rfl rfl)
      refine sf_bind (sp_Query_byteAt F hF t (x1 + x4) (by first | (clear g3 c1 b_x4 b_x1; omega) | omega)) (fun r10 h_r10 => ?_)
      refine sf_bind (sp_String_charAt F x3 x4 (by omega) (by omega) (by omega)) (fun r11 h_r11 => ?_)
      refine sf_eq rfl rfl (fun c4 => ?_) (fun c4 => ?_)
      · skip
        have g5 : ((x4 + (1 : Int32))).toInt = _ := (iadd rfl (ilit (1 : Int32) (1) rfl))
        refine sf_imp (ih t x1 x3 (x4 + (1 : Int32)) (by first | (clear c4 h_r10; omega) | omega)) (fun r hr => ?_)
        (try dsimp only at hr)
        (try dsimp only)
        omega
      · skip
        have g6 := (ilit (0 : Int32) (0) rfl)
        refine sf_some ?_
        (try dsimp only)
        omega
set_option maxHeartbeats 4000000 in
set_option maxRecDepth 100000 in
theorem sp_Query_says (F : Nat) (hF : Big F) (t : StI) (x1 : Int32) (x2 : Int32) (x3 : Nat) (h : (0 ≤ (t 1 0).toInt ∧ (t 1 0).toInt ≤ 600 ∧ 0 ≤ (t 3 0).toInt ∧ (t 3 0).toInt ≤ 40 ∧ 0 ≤ (t 13 0).toInt ∧ (t 13 0).toInt ≤ 229) ∧ x3 < 23) : Sf (Query_says F t x1 x2 x3) (fun r => (r.toInt = 0 ∨ r.toInt = 1)) := by
  rw [Query_says]
  have b_x1 := ibd x1
  have b_x2 := ibd x2
  refine sf_bind (sp_String_length F x3 (by omega)) (fun r13 h_r13 => ?_)
  refine sf_eq (isub rfl rfl) rfl (fun c1 => ?_) (fun c1 => ?_)
  · skip
    have g2 := (ilit (0 : Int32) (0) rfl)
    refine sf_imp (sp_Query_says_15 F hF   F t x1 x3 (0 : Int32) (⟨by first | (clear c1 b_x2 b_x1; omega) | omega, fuel_ok hF (by first | (clear c1 b_x2 b_x1; omega) | omega)⟩)) (fun r hr => ?_)
    (try dsimp only at hr)
    (try dsimp only)
    omega
  · skip
    have g3 := (ilit (0 : Int32) (0) rfl)
    refine sf_some ?_
    (try dsimp only)
    omega
set_option maxHeartbeats 4000000 in
set_option maxRecDepth 100000 in
theorem sp_Query_insert (F : Nat) (hF : Big F) (t : StI) (x1 : Int32) (x2 : Int32) (h : (0 ≤ (t 1 0).toInt ∧ (t 1 0).toInt ≤ 600 ∧ 0 ≤ (t 3 0).toInt ∧ (t 3 0).toInt ≤ 40 ∧ 0 ≤ (t 13 0).toInt ∧ (t 13 0).toInt ≤ 229)) : Sf (Query_insert F t x1 x2) (fun r => (0 ≤ (r 1 0).toInt ∧ (r 1 0).toInt ≤ 600 ∧ 0 ≤ (r 3 0).toInt ∧ (r 3 0).toInt ≤ 40 ∧ 0 ≤ (r 13 0).toInt ∧ (r 13 0).toInt ≤ 229)) := by
  rw [Query_insert]
  have b_x1 := ibd x1
  have b_x2 := ibd x2
  refine sf_lt rfl (ilit (0 : Int32) (0) rfl) (fun c1 => ?_) (fun c1 => ?_)
  · skip
    refine sf_some ?_
    (try dsimp only)
    omega
  · skip
    refine sf_lt rfl rfl (fun c2 => ?_) (fun c2 => ?_)
    · skip
      refine sf_some ?_
      (try dsimp only)
      omega
    · skip
      refine sf_lt rfl (ilit (229 : Int32) (229) rfl) (fun c3 => ?_) (fun c3 => ?_)
      · skip
        refine sf_neg rfl (by first | (clear b_x2; omega) | omega) ?_
        refine sf_neg (iadd rfl (ilit (1 : Int32) (1) rfl)) (by first | (clear b_x2; omega) | omega) ?_
        refine sf_neg (isub rfl rfl) (by first | (clear b_x2; omega) | omega) ?_
        refine sf_cap rfl (isub rfl rfl) (by first | (clear b_x2; omega) | omega) (by first | (clear b_x2; omega) | omega) (by first | (clear b_x2; omega) | omega) ?_
        refine sf_cap (iadd rfl (ilit (1 : Int32) (1) rfl)) (isub rfl rfl) (by first | (clear b_x2; omega) | omega) (by first | (clear b_x2; omega) | omega) (by first | (clear b_x2; omega) | omega) ?_
        refine sf_up (fun t_17 ht_t_17 hn_t_17 => ?_)
        refine sf_idx rfl (by first | (clear b_x2; omega) | omega) (by first | (clear b_x2; omega) | omega) ?_
        refine sf_up (fun t_24 ht_t_24 hn_t_24 => ?_)
        refine sf_up (fun t_26 ht_t_26 hn_t_26 => ?_)
        have e4 : (t_17 1 0).toInt = (t 1 0).toInt := congrArg (fun q => Int32.toInt (q 0)) (hn_t_17 1 (by decide))
        have e5 : (t_24 1 0).toInt = (t_17 1 0).toInt := congrArg (fun q => Int32.toInt (q 0)) (hn_t_24 1 (by decide))
        have e6 : (t_26 1 0).toInt = (t_24 1 0).toInt := congrArg (fun q => Int32.toInt (q 0)) (hn_t_26 1 (by decide))
        have e7 : (t_17 3 0).toInt = (t 3 0).toInt := congrArg (fun q => Int32.toInt (q 0)) (hn_t_17 3 (by decide))
        have e8 : (t_24 3 0).toInt = (t_17 3 0).toInt := congrArg (fun q => Int32.toInt (q 0)) (hn_t_24 3 (by decide))
        have e9 : (t_26 3 0).toInt = (t_24 3 0).toInt := congrArg (fun q => Int32.toInt (q 0)) (hn_t_26 3 (by decide))
        have e10 : (t_17 13 0).toInt = (t 13 0).toInt := congrArg (fun q => Int32.toInt (q 0)) (hn_t_17 13 (by decide))
        have e11 : (t_24 13 0).toInt = (t_17 13 0).toInt := congrArg (fun q => Int32.toInt (q 0)) (hn_t_24 13 (by decide))
        have e12 : (t_26 13 0).toInt = _ := (congrArg (fun q => Int32.toInt (q 0)) ht_t_26).trans (iadd rfl (ilit (1 : Int32) (1) rfl))
        refine sf_some ?_
        (try dsimp only)
        omega
      · skip
        refine sf_some ?_
        (try dsimp only)
        omega
set_option maxHeartbeats 4000000 in
set_option maxRecDepth 100000 in
theorem sp_Query_append (F : Nat) (hF : Big F) (t : StI) (x1 : Int32) (h : (0 ≤ (t 1 0).toInt ∧ (t 1 0).toInt ≤ 600 ∧ 0 ≤ (t 3 0).toInt ∧ (t 3 0).toInt ≤ 40 ∧ 0 ≤ (t 13 0).toInt ∧ (t 13 0).toInt ≤ 229)) : Sf (Query_append F t x1) (fun r => (0 ≤ (r 1 0).toInt ∧ (r 1 0).toInt ≤ 600 ∧ 0 ≤ (r 3 0).toInt ∧ (r 3 0).toInt ≤ 40 ∧ 0 ≤ (r 13 0).toInt ∧ (r 13 0).toInt ≤ 229)) := by
  rw [Query_append]
  have b_x1 := ibd x1
  refine sf_bind (sp_Query_insert F hF t (t 13 0) x1 (by first | (clear b_x1; omega) | omega)) (fun r2 h_r2 => ?_)
  refine sf_some ?_
  (try dsimp only)
  omega
set_option maxHeartbeats 4000000 in
set_option maxRecDepth 100000 in
theorem sp_Query_sameLetters_3 (F : Nat) (hF : Big F)   : ∀ (n : Nat) (t : StI) (x1 : Int32) (x2 : Int32) (x3 : Int32) (x4 : Int32) (h : ((0 ≤ (t 1 0).toInt ∧ (t 1 0).toInt ≤ 600 ∧ 0 ≤ (t 3 0).toInt ∧ (t 3 0).toInt ≤ 40 ∧ 0 ≤ (t 13 0).toInt ∧ (t 13 0).toInt ≤ 229)) ∧ x3.toInt - x4.toInt < (n : Int) ∧ 1 ≤ n), Sf (Query_sameLetters_3 F  n t x1 x2 x3 x4) (fun r => (r.toInt = 0 ∨ r.toInt = 1)) := by
  intro n; induction n with
  | zero => intro t x1 x2 x3 x4 h; omega
  | succ n ih =>
    intro t x1 x2 x3 x4 h; rw [Query_sameLetters_3]
    have b_x1 := ibd x1
    have b_x2 := ibd x2
    have b_x3 := ibd x3
    have b_x4 := ibd x4
    refine sf_le rfl rfl (fun c1 => ?_) (fun c1 => ?_)
    · skip
      have g2 := (ilit (1 : Int32) (1) rfl)
      refine sf_some ?_
      (try dsimp only)
      omega
    · skip
      have g3 : ((x1 + x4)).toInt = _ := (iadd rfl rfl)
      refine sf_bind (sp_Query_byteAt F hF t (x1 + x4) (by first | (clear g3 c1 b_x4 b_x3 b_x2 b_x1; omega) | omega)) (fun r8 h_r8 => ?_)
      refine sf_bind (sp_MQ_small F hF r8 (trivial)) (fun r9 h_r9 => ?_)
      have g4 : ((x2 + x4)).toInt = _ := (iadd rfl rfl)
      refine sf_bind (sp_Query_byteAt F hF t (x2 + x4) (by first | (clear g4 h_r9 h_r8 g3 c1 b_x4 b_x3 b_x2 b_x1; omega) | omega)) (fun r10 h_r10 => ?_)
      refine sf_bind (sp_MQ_small F hF r10 (trivial)) (fun r11 h_r11 => ?_)
      refine sf_eq rfl rfl (fun c5 => ?_) (fun c5 => ?_)
      · skip
        have g6 : ((x4 + (1 : Int32))).toInt = _ := (iadd rfl (ilit (1 : Int32) (1) rfl))
        refine sf_imp (ih t x1 x2 x3 (x4 + (1 : Int32)) (by first | (clear c5 h_r11 h_r10 h_r9 h_r8; omega) | omega)) (fun r hr => ?_)
        (try dsimp only at hr)
        (try dsimp only)
        omega
      · skip
        have g7 := (ilit (0 : Int32) (0) rfl)
        refine sf_some ?_
        (try dsimp only)
        omega
set_option maxHeartbeats 4000000 in
set_option maxRecDepth 100000 in
theorem sp_Query_sameLetters (F : Nat) (hF : Big F) (t : StI) (x1 : Int32) (x2 : Int32) (x3 : Int32) (h : (0 ≤ (t 1 0).toInt ∧ (t 1 0).toInt ≤ 600 ∧ 0 ≤ (t 3 0).toInt ∧ (t 3 0).toInt ≤ 40 ∧ 0 ≤ (t 13 0).toInt ∧ (t 13 0).toInt ≤ 229)) : Sf (Query_sameLetters F t x1 x2 x3) (fun r => (r.toInt = 0 ∨ r.toInt = 1)) := by
  rw [Query_sameLetters]
  have b_x1 := ibd x1
  have b_x2 := ibd x2
  have b_x3 := ibd x3
  have g1 := (ilit (0 : Int32) (0) rfl)
  refine sf_imp (sp_Query_sameLetters_3 F hF   F t x1 x2 x3 (0 : Int32) (⟨by first | (clear b_x3 b_x2 b_x1; omega) | omega, fuel_ok hF (by first | (clear b_x2 b_x1; omega) | omega)⟩)) (fun r hr => ?_)
  (try dsimp only at hr)
  (try dsimp only)
  omega
set_option maxHeartbeats 4000000 in
set_option maxRecDepth 100000 in
theorem sp_Query_alike_3 (F : Nat) (hF : Big F)   : ∀ (n : Nat) (t : StI) (x1 : Int32) (x2 : Int32) (x3 : Int32) (x4 : Int32) (x5 : Int32) (h : ((0 ≤ (t 1 0).toInt ∧ (t 1 0).toInt ≤ 600 ∧ 0 ≤ (t 3 0).toInt ∧ (t 3 0).toInt ≤ 40 ∧ 0 ≤ (t 13 0).toInt ∧ (t 13 0).toInt ≤ 229) ∧ 0 ≤ x5.toInt) ∧ 40 - x5.toInt < (n : Int) ∧ 1 ≤ n), Sf (Query_alike_3 F  n t x1 x2 x3 x4 x5) (fun r => (r.toInt = -1 ∨ (0 ≤ r.toInt ∧ r.toInt < 40))) := by
  intro n; induction n with
  | zero => intro t x1 x2 x3 x4 x5 h; omega
  | succ n ih =>
    intro t x1 x2 x3 x4 x5 h; rw [Query_alike_3]
    have b_x1 := ibd x1
    have b_x2 := ibd x2
    have b_x3 := ibd x3
    have b_x4 := ibd x4
    have b_x5 := ibd x5
    refine sf_le rfl rfl (fun c1 => ?_) (fun c1 => ?_)
    · skip
      have g2 := (ilit (-1 : Int32) (-1) rfl)
      refine sf_some ?_
      (try dsimp only)
      omega
    · skip
      refine sf_idx rfl (by first | (clear b_x4 b_x3 b_x2 b_x1; omega) | omega) (by first | (clear b_x4 b_x3 b_x2 b_x1; omega) | omega) ?_
      have b4 := ibd ((t 4) x5.toNatClampNeg)
      refine sf_eq rfl rfl (fun c3 => ?_) (fun c3 => ?_)
      · skip
        refine sf_idx rfl (by first | (clear b_x4 b_x3 b_x2; omega) | omega) (by first | (clear b_x4 b_x3 b_x2; omega) | omega) ?_
        have b6 := ibd ((t 5) x5.toNatClampNeg)
        refine sf_eq rfl rfl (fun c5 => ?_) (fun c5 => ?_)
        · skip
          refine sf_idx rfl (by first | (clear b_x4 b_x3; omega) | omega) (by first | (clear b_x4 b_x3; omega) | omega) ?_
          have b8 := ibd ((t 7) x5.toNatClampNeg)
          refine sf_eq rfl (isub rfl rfl) (fun c7 => ?_) (fun c7 => ?_)
          · skip
            refine sf_idx rfl (by omega) (by omega) ?_
            have g9 : ((x4 - x3)).toInt = _ := (isub rfl rfl)
            refine sf_bind (sp_Query_sameLetters F hF t ((t 6) x5.toNatClampNeg) x3 (x4 - x3) (by omega)) (fun r19 h_r19 => ?_)
            refine sf_eq rfl (ilit (0 : Int32) (0) rfl) (fun c10 => ?_) (fun c10 => ?_)
            · skip
              rw [Query_alike_70]
              have g11 : ((x5 + (1 : Int32))).toInt = _ := (iadd rfl (ilit (1 : Int32) (1) rfl))
              refine sf_imp (ih t x1 x2 x3 x4 (x5 + (1 : Int32)) (by first | (clear c10 h_r19; omega) | omega)) (fun r hr => ?_)
              (try dsimp only at hr)
              (try dsimp only)
              omega
            · skip
              refine sf_some ?_
              (try dsimp only)
              omega
          · skip
            rw [Query_alike_70]
            have g12 : ((x5 + (1 : Int32))).toInt = _ := (iadd rfl (ilit (1 : Int32) (1) rfl))
            refine sf_imp (ih t x1 x2 x3 x4 (x5 + (1 : Int32)) (by omega)) (fun r hr => ?_)
            (try dsimp only at hr)
            (try dsimp only)
            omega
        · skip
          rw [Query_alike_70]
          have g13 : ((x5 + (1 : Int32))).toInt = _ := (iadd rfl (ilit (1 : Int32) (1) rfl))
          refine sf_imp (ih t x1 x2 x3 x4 (x5 + (1 : Int32)) (by first | (clear b_x4 b_x3; omega) | omega)) (fun r hr => ?_)
          (try dsimp only at hr)
          (try dsimp only)
          omega
      · skip
        rw [Query_alike_70]
        have g14 : ((x5 + (1 : Int32))).toInt = _ := (iadd rfl (ilit (1 : Int32) (1) rfl))
        refine sf_imp (ih t x1 x2 x3 x4 (x5 + (1 : Int32)) (by first | (clear b_x4 b_x3 b_x2; omega) | omega)) (fun r hr => ?_)
        (try dsimp only at hr)
        (try dsimp only)
        omega
set_option maxHeartbeats 4000000 in
set_option maxRecDepth 100000 in
theorem sp_Query_alike (F : Nat) (hF : Big F) (t : StI) (x1 : Int32) (x2 : Int32) (x3 : Int32) (x4 : Int32) (h : (0 ≤ (t 1 0).toInt ∧ (t 1 0).toInt ≤ 600 ∧ 0 ≤ (t 3 0).toInt ∧ (t 3 0).toInt ≤ 40 ∧ 0 ≤ (t 13 0).toInt ∧ (t 13 0).toInt ≤ 229)) : Sf (Query_alike F t x1 x2 x3 x4) (fun r => (r.toInt = -1 ∨ (0 ≤ r.toInt ∧ r.toInt < 40))) := by
  rw [Query_alike]
  have b_x1 := ibd x1
  have b_x2 := ibd x2
  have b_x3 := ibd x3
  have b_x4 := ibd x4
  have g1 := (ilit (0 : Int32) (0) rfl)
  refine sf_imp (sp_Query_alike_3 F hF   F t x1 x2 x3 x4 (0 : Int32) (⟨by first | (clear b_x4 b_x3 b_x2 b_x1; omega) | omega, fuel_ok hF (by first | (clear b_x4 b_x3 b_x2 b_x1; omega) | omega)⟩)) (fun r hr => ?_)
  (try dsimp only at hr)
  (try dsimp only)
  omega
set_option maxHeartbeats 4000000 in
set_option maxRecDepth 100000 in
theorem sp_Query_take_177 (F : Nat) (hF : Big F) (t : StI) (p5 : StI) (x6 : Int32) (h : (0 ≤ (t 1 0).toInt ∧ (t 1 0).toInt ≤ 600 ∧ 0 ≤ (t 3 0).toInt ∧ (t 3 0).toInt ≤ 40 ∧ 0 ≤ (t 13 0).toInt ∧ (t 13 0).toInt ≤ 229) ∧ 0 ≤ x6.toInt ∧ x6.toInt < 40) : Sf (Query_take_177 F t p5 x6) (fun r => (0 ≤ (r 1 0).toInt ∧ (r 1 0).toInt ≤ 600 ∧ 0 ≤ (r 3 0).toInt ∧ (r 3 0).toInt ≤ 40 ∧ 0 ≤ (r 13 0).toInt ∧ (r 13 0).toInt ≤ 229)) := by
  rw [Query_take_177]
  have b_x6 := ibd x6
  refine sf_idx rfl (by omega) (by omega) ?_
  refine sf_idx rfl (by omega) (by omega) ?_
  refine sf_up (fun t_33 ht_t_33 hn_t_33 => ?_)
  refine sf_up (fun t_35 ht_t_35 hn_t_35 => ?_)
  have e1 : (t_33 1 0).toInt = (t 1 0).toInt := congrArg (fun q => Int32.toInt (q 0)) (hn_t_33 1 (by decide))
  have e2 : (t_35 1 0).toInt = (t_33 1 0).toInt := congrArg (fun q => Int32.toInt (q 0)) (hn_t_35 1 (by decide))
  have e3 : (t_33 3 0).toInt = (t 3 0).toInt := congrArg (fun q => Int32.toInt (q 0)) (hn_t_33 3 (by decide))
  have e4 : (t_35 3 0).toInt = (t_33 3 0).toInt := congrArg (fun q => Int32.toInt (q 0)) (hn_t_35 3 (by decide))
  have e5 : (t_33 13 0).toInt = (t 13 0).toInt := congrArg (fun q => Int32.toInt (q 0)) (hn_t_33 13 (by decide))
  have e6 : (t_35 13 0).toInt = (t_33 13 0).toInt := congrArg (fun q => Int32.toInt (q 0)) (hn_t_35 13 (by decide))
  refine sf_bind (sp_Query_append F hF t_35 x6 (by first | (clear b_x6; omega) | omega)) (fun r36 h_r36 => ?_)
  refine sf_some ?_
  (try dsimp only)
  omega
set_option maxHeartbeats 4000000 in
set_option maxRecDepth 100000 in
theorem sp_Query_take_168 (F : Nat) (hF : Big F) (t : StI) (p5 : StI) (x6 : Int32) (y0 : Int32) (y1 : Int32) (h : (0 ≤ (t 1 0).toInt ∧ (t 1 0).toInt ≤ 600 ∧ 0 ≤ (t 3 0).toInt ∧ (t 3 0).toInt ≤ 40 ∧ 0 ≤ (t 13 0).toInt ∧ (t 13 0).toInt ≤ 229) ∧ 0 ≤ x6.toInt ∧ x6.toInt < 40 ∧ 0 ≤ y1.toInt ∧ y1.toInt < 40) : Sf (Query_take_168 F t p5 x6 y0 y1) (fun r => (0 ≤ (r 1 0).toInt ∧ (r 1 0).toInt ≤ 600 ∧ 0 ≤ (r 3 0).toInt ∧ (r 3 0).toInt ≤ 40 ∧ 0 ≤ (r 13 0).toInt ∧ (r 13 0).toInt ≤ 229)) := by
  rw [Query_take_168]
  have b_x6 := ibd x6
  have b_y0 := ibd y0
  have b_y1 := ibd y1
  refine sf_idx rfl (by first | (clear b_y0 b_x6; omega) | omega) (by first | (clear b_y0 b_x6; omega) | omega) ?_
  refine sf_up (fun t_37 ht_t_37 hn_t_37 => ?_)
  refine sf_idx rfl (by first | (clear b_y1 b_y0; omega) | omega) (by first | (clear b_y1 b_y0; omega) | omega) ?_
  refine sf_up (fun t_39 ht_t_39 hn_t_39 => ?_)
  have e1 : (t_37 1 0).toInt = (t 1 0).toInt := congrArg (fun q => Int32.toInt (q 0)) (hn_t_37 1 (by decide))
  have e2 : (t_39 1 0).toInt = (t_37 1 0).toInt := congrArg (fun q => Int32.toInt (q 0)) (hn_t_39 1 (by decide))
  have e3 : (t_37 3 0).toInt = (t 3 0).toInt := congrArg (fun q => Int32.toInt (q 0)) (hn_t_37 3 (by decide))
  have e4 : (t_39 3 0).toInt = (t_37 3 0).toInt := congrArg (fun q => Int32.toInt (q 0)) (hn_t_39 3 (by decide))
  have e5 : (t_37 13 0).toInt = (t 13 0).toInt := congrArg (fun q => Int32.toInt (q 0)) (hn_t_37 13 (by decide))
  have e6 : (t_39 13 0).toInt = (t_37 13 0).toInt := congrArg (fun q => Int32.toInt (q 0)) (hn_t_39 13 (by decide))
  refine sf_imp (sp_Query_take_177 F hF t_39 p5 x6 (by first | (clear b_y1 b_y0; omega) | omega)) (fun r hr => ?_)
  (try dsimp only at hr)
  (try dsimp only)
  omega
set_option maxHeartbeats 4000000 in
set_option maxRecDepth 100000 in
theorem sp_Query_take_147 (F : Nat) (hF : Big F) (t : StI) (p5 : StI) (x6 : Int32) (x8 : Int32) (y0 : Int32) (y1 : Int32) (h : (0 ≤ (t 1 0).toInt ∧ (t 1 0).toInt ≤ 600 ∧ 0 ≤ (t 3 0).toInt ∧ (t 3 0).toInt ≤ 40 ∧ 0 ≤ (t 13 0).toInt ∧ (t 13 0).toInt ≤ 229) ∧ 0 ≤ x6.toInt ∧ x6.toInt < 40 ∧ 0 ≤ y1.toInt ∧ y1.toInt < 40) : Sf (Query_take_147 F t p5 x6 x8 y0 y1) (fun r => (0 ≤ (r 1 0).toInt ∧ (r 1 0).toInt ≤ 600 ∧ 0 ≤ (r 3 0).toInt ∧ (r 3 0).toInt ≤ 40 ∧ 0 ≤ (r 13 0).toInt ∧ (r 13 0).toInt ≤ 229)) := by
  rw [Query_take_147]
  have b_x6 := ibd x6
  have b_x8 := ibd x8
  have b_y0 := ibd y0
  have b_y1 := ibd y1
  refine sf_idx rfl (by first | (clear b_y0 b_x8 b_x6; omega) | omega) (by first | (clear b_y0 b_x8 b_x6; omega) | omega) ?_
  refine sf_up (fun t_41 ht_t_41 hn_t_41 => ?_)
  refine sf_eq rfl (ilit (0 : Int32) (0) rfl) (fun c1 => ?_) (fun c1 => ?_)
  · skip
    have g2 := (ilit (0 : Int32) (0) rfl)
    have e3 : (t_41 1 0).toInt = (t 1 0).toInt := congrArg (fun q => Int32.toInt (q 0)) (hn_t_41 1 (by decide))
    have e4 : (t_41 3 0).toInt = (t 3 0).toInt := congrArg (fun q => Int32.toInt (q 0)) (hn_t_41 3 (by decide))
    have e5 : (t_41 13 0).toInt = (t 13 0).toInt := congrArg (fun q => Int32.toInt (q 0)) (hn_t_41 13 (by decide))
    refine sf_imp (sp_Query_take_168 F hF t_41 p5 x6 (0 : Int32) x6 (by first | (clear c1 b_y1 b_y0 b_x8; omega) | omega)) (fun r hr => ?_)
    (try dsimp only at hr)
    (try dsimp only)
    omega
  · skip
    have e6 : (t_41 1 0).toInt = (t 1 0).toInt := congrArg (fun q => Int32.toInt (q 0)) (hn_t_41 1 (by decide))
    have e7 : (t_41 3 0).toInt = (t 3 0).toInt := congrArg (fun q => Int32.toInt (q 0)) (hn_t_41 3 (by decide))
    have e8 : (t_41 13 0).toInt = (t 13 0).toInt := congrArg (fun q => Int32.toInt (q 0)) (hn_t_41 13 (by decide))
    refine sf_imp (sp_Query_take_168 F hF t_41 p5 x6 (p5 1 0) x6 (by first | (clear c1 b_y1 b_y0 b_x8; omega) | omega)) (fun r hr => ?_)
    (try dsimp only at hr)
    (try dsimp only)
    omega
set_option maxHeartbeats 4000000 in
set_option maxRecDepth 100000 in
theorem sp_Query_take_125 (F : Nat) (hF : Big F) (t : StI) (p5 : StI) (x6 : Int32) (y0 : Int32) (h : (0 ≤ (t 1 0).toInt ∧ (t 1 0).toInt ≤ 600 ∧ 0 ≤ (t 3 0).toInt ∧ (t 3 0).toInt ≤ 40 ∧ 0 ≤ (t 13 0).toInt ∧ (t 13 0).toInt ≤ 229) ∧ 0 ≤ x6.toInt ∧ x6.toInt < 40) : Sf (Query_take_125 F t p5 x6 y0) (fun r => (0 ≤ (r 1 0).toInt ∧ (r 1 0).toInt ≤ 600 ∧ 0 ≤ (r 3 0).toInt ∧ (r 3 0).toInt ≤ 40 ∧ 0 ≤ (r 13 0).toInt ∧ (r 13 0).toInt ≤ 229)) := by
  rw [Query_take_125]
  have b_x6 := ibd x6
  have b_y0 := ibd y0
  refine sf_eq rfl (ilit (0 : Int32) (0) rfl) (fun c1 => ?_) (fun c1 => ?_)
  · skip
    have g2 := (ilit (0 : Int32) (0) rfl)
    refine sf_imp (sp_Query_take_147 F hF t p5 x6 y0 (0 : Int32) x6 (by first | (clear c1 b_y0; omega) | omega)) (fun r hr => ?_)
    (try dsimp only at hr)
    (try dsimp only)
    omega
  · skip
    refine sf_imp (sp_Query_take_147 F hF t p5 x6 y0 (p5 0 0) x6 (by first | (clear c1 b_y0; omega) | omega)) (fun r hr => ?_)
    (try dsimp only at hr)
    (try dsimp only)
    omega
set_option maxHeartbeats 4000000 in
set_option maxRecDepth 100000 in
theorem sp_Query_take_107 (F : Nat) (hF : Big F) (t : StI) (p5 : StI) (x1 : Int32) (x6 : Int32) (y0 : Int32) (y1 : Int32) (h : (0 ≤ (t 1 0).toInt ∧ (t 1 0).toInt ≤ 600 ∧ 0 ≤ (t 3 0).toInt ∧ (t 3 0).toInt ≤ 40 ∧ 0 ≤ (t 13 0).toInt ∧ (t 13 0).toInt ≤ 229) ∧ 0 ≤ x6.toInt ∧ x6.toInt < 40 ∧ 0 ≤ y1.toInt ∧ y1.toInt < 40) : Sf (Query_take_107 F t p5 x1 x6 y0 y1) (fun r => (0 ≤ (r 1 0).toInt ∧ (r 1 0).toInt ≤ 600 ∧ 0 ≤ (r 3 0).toInt ∧ (r 3 0).toInt ≤ 40 ∧ 0 ≤ (r 13 0).toInt ∧ (r 13 0).toInt ≤ 229)) := by
  rw [Query_take_107]
  have b_x1 := ibd x1
  have b_x6 := ibd x6
  have b_y0 := ibd y0
  have b_y1 := ibd y1
  refine sf_idx rfl (by first | (clear b_y0 b_x6 b_x1; omega) | omega) (by first | (clear b_y0 b_x6 b_x1; omega) | omega) ?_
  refine sf_up (fun t_45 ht_t_45 hn_t_45 => ?_)
  refine sf_eq rfl (ilit (11 : Int32) (11) rfl) (fun c1 => ?_) (fun c1 => ?_)
  · skip
    rw [Query_take_120]
    have g2 := (ilit (1 : Int32) (1) rfl)
    have e3 : (t_45 1 0).toInt = (t 1 0).toInt := congrArg (fun q => Int32.toInt (q 0)) (hn_t_45 1 (by decide))
    have e4 : (t_45 3 0).toInt = (t 3 0).toInt := congrArg (fun q => Int32.toInt (q 0)) (hn_t_45 3 (by decide))
    have e5 : (t_45 13 0).toInt = (t 13 0).toInt := congrArg (fun q => Int32.toInt (q 0)) (hn_t_45 13 (by decide))
    refine sf_imp (sp_Query_take_125 F hF t_45 p5 x6 (1 : Int32) (by first | (clear c1 b_y1 b_y0 b_x1; omega) | omega)) (fun r hr => ?_)
    (try dsimp only at hr)
    (try dsimp only)
    omega
  · skip
    refine sf_eq rfl (ilit (12 : Int32) (12) rfl) (fun c6 => ?_) (fun c6 => ?_)
    · skip
      rw [Query_take_120]
      have g7 := (ilit (1 : Int32) (1) rfl)
      have e8 : (t_45 1 0).toInt = (t 1 0).toInt := congrArg (fun q => Int32.toInt (q 0)) (hn_t_45 1 (by decide))
      have e9 : (t_45 3 0).toInt = (t 3 0).toInt := congrArg (fun q => Int32.toInt (q 0)) (hn_t_45 3 (by decide))
      have e10 : (t_45 13 0).toInt = (t 13 0).toInt := congrArg (fun q => Int32.toInt (q 0)) (hn_t_45 13 (by decide))
      refine sf_imp (sp_Query_take_125 F hF t_45 p5 x6 (1 : Int32) (by first | (clear c6 c1 b_y1 b_y0 b_x1; omega) | omega)) (fun r hr => ?_)
      (try dsimp only at hr)
      (try dsimp only)
      omega
    · skip
      have g11 := (ilit (0 : Int32) (0) rfl)
      have e12 : (t_45 1 0).toInt = (t 1 0).toInt := congrArg (fun q => Int32.toInt (q 0)) (hn_t_45 1 (by decide))
      have e13 : (t_45 3 0).toInt = (t 3 0).toInt := congrArg (fun q => Int32.toInt (q 0)) (hn_t_45 3 (by decide))
      have e14 : (t_45 13 0).toInt = (t 13 0).toInt := congrArg (fun q => Int32.toInt (q 0)) (hn_t_45 13 (by decide))
      refine sf_imp (sp_Query_take_125 F hF t_45 p5 x6 (0 : Int32) (by first | (clear c6 c1 b_y1 b_y0 b_x1; omega) | omega)) (fun r hr => ?_)
      (try dsimp only at hr)
      (try dsimp only)
      omega
set_option maxHeartbeats 4000000 in
set_option maxRecDepth 100000 in
theorem sp_Query_take (F : Nat) (hF : Big F) (t : StI) (p5 : StI) (x1 : Int32) (x2 : Int32) (x3 : Int32) (x4 : Int32) (h : (0 ≤ (t 1 0).toInt ∧ (t 1 0).toInt ≤ 600 ∧ 0 ≤ (t 3 0).toInt ∧ (t 3 0).toInt ≤ 40 ∧ 0 ≤ (t 13 0).toInt ∧ (t 13 0).toInt ≤ 229)) : Sf (Query_take F t p5 x1 x2 x3 x4) (fun r => (0 ≤ (r 1 0).toInt ∧ (r 1 0).toInt ≤ 600 ∧ 0 ≤ (r 3 0).toInt ∧ (r 3 0).toInt ≤ 40 ∧ 0 ≤ (r 13 0).toInt ∧ (r 13 0).toInt ≤ 229)) := by
  rw [Query_take]
  have b_x1 := ibd x1
  have b_x2 := ibd x2
  have b_x3 := ibd x3
  have b_x4 := ibd x4
  refine sf_bind (sp_Query_alike F hF t x1 x2 x3 x4 (by first | (clear b_x4 b_x3 b_x2 b_x1; omega) | omega)) (fun r49 h_r49 => ?_)
  refine sf_eq rfl (ilit (-1 : Int32) (-1) rfl) (fun c1 => ?_) (fun c1 => ?_)
  · skip
    refine sf_lt rfl (ilit (40 : Int32) (40) rfl) (fun c2 => ?_) (fun c2 => ?_)
    · skip
      refine sf_up (fun t_52 ht_t_52 hn_t_52 => ?_)
      refine sf_idx rfl (by first | (clear c1 h_r49 b_x4 b_x3 b_x2 b_x1; omega) | omega) (by first | (clear c1 h_r49 b_x4 b_x3 b_x2 b_x1; omega) | omega) ?_
      refine sf_up (fun t_53 ht_t_53 hn_t_53 => ?_)
      refine sf_idx rfl (by first | (clear c1 h_r49 b_x4 b_x3 b_x2 b_x1; omega) | omega) (by first | (clear c1 h_r49 b_x4 b_x3 b_x2 b_x1; omega) | omega) ?_
      refine sf_up (fun t_55 ht_t_55 hn_t_55 => ?_)
      refine sf_idx rfl (by first | (clear c1 h_r49 b_x4 b_x3 b_x2 b_x1; omega) | omega) (by first | (clear c1 h_r49 b_x4 b_x3 b_x2 b_x1; omega) | omega) ?_
      refine sf_up (fun t_57 ht_t_57 hn_t_57 => ?_)
      refine sf_idx rfl (by first | (clear c1 h_r49 b_x4 b_x3 b_x2 b_x1; omega) | omega) (by first | (clear c1 h_r49 b_x4 b_x3 b_x2 b_x1; omega) | omega) ?_
      refine sf_up (fun t_59 ht_t_59 hn_t_59 => ?_)
      have g3 := (ilit (42 : Int32) (42) rfl)
      have e4 : (t_52 1 0).toInt = (t 1 0).toInt := congrArg (fun q => Int32.toInt (q 0)) (hn_t_52 1 (by decide))
      have e5 : (t_53 1 0).toInt = (t_52 1 0).toInt := congrArg (fun q => Int32.toInt (q 0)) (hn_t_53 1 (by decide))
      have e6 : (t_55 1 0).toInt = (t_53 1 0).toInt := congrArg (fun q => Int32.toInt (q 0)) (hn_t_55 1 (by decide))
      have e7 : (t_57 1 0).toInt = (t_55 1 0).toInt := congrArg (fun q => Int32.toInt (q 0)) (hn_t_57 1 (by decide))
      have e8 : (t_59 1 0).toInt = (t_57 1 0).toInt := congrArg (fun q => Int32.toInt (q 0)) (hn_t_59 1 (by decide))
      have e9 : (t_52 3 0).toInt = _ := (congrArg (fun q => Int32.toInt (q 0)) ht_t_52).trans (iadd rfl (ilit (1 : Int32) (1) rfl))
      have e10 : (t_53 3 0).toInt = (t_52 3 0).toInt := congrArg (fun q => Int32.toInt (q 0)) (hn_t_53 3 (by decide))
      have e11 : (t_55 3 0).toInt = (t_53 3 0).toInt := congrArg (fun q => Int32.toInt (q 0)) (hn_t_55 3 (by decide))
      have e12 : (t_57 3 0).toInt = (t_55 3 0).toInt := congrArg (fun q => Int32.toInt (q 0)) (hn_t_57 3 (by decide))
      have e13 : (t_59 3 0).toInt = (t_57 3 0).toInt := congrArg (fun q => Int32.toInt (q 0)) (hn_t_59 3 (by decide))
      have e14 : (t_52 13 0).toInt = (t 13 0).toInt := congrArg (fun q => Int32.toInt (q 0)) (hn_t_52 13 (by decide))
      have e15 : (t_53 13 0).toInt = (t_52 13 0).toInt := congrArg (fun q => Int32.toInt (q 0)) (hn_t_53 13 (by decide))
      have e16 : (t_55 13 0).toInt = (t_53 13 0).toInt := congrArg (fun q => Int32.toInt (q 0)) (hn_t_55 13 (by decide))
      have e17 : (t_57 13 0).toInt = (t_55 13 0).toInt := congrArg (fun q => Int32.toInt (q 0)) (hn_t_57 13 (by decide))
      have e18 : (t_59 13 0).toInt = (t_57 13 0).toInt := congrArg (fun q => Int32.toInt (q 0)) (hn_t_59 13 (by decide))
      refine sf_bind (sp_Query_find F hF t_59 (42 : Int32) x3 x4 (by first | (clear c1 h_r49 b_x4 b_x3 b_x2 b_x1; omega) | omega)) (fun r61 h_r61 => ?_)
      refine sf_eq rfl (ilit (-1 : Int32) (-1) rfl) (fun c19 => ?_) (fun c19 => ?_)
      · skip
        have g20 := (ilit (-1 : Int32) (-1) rfl)
        refine sf_imp (sp_Query_take_107 F hF t_59 p5 x1 (t 3 0) (-1 : Int32) (t 3 0) (by first | (clear c19 h_r61 c1 h_r49 b_x4 b_x3 b_x2 b_x1; omega) | omega)) (fun r hr => ?_)
        (try dsimp only at hr)
        (try dsimp only)
        omega
      · skip
        have g21 : ((r61 - x3)).toInt = _ := (isub rfl rfl)
        refine sf_imp (sp_Query_take_107 F hF t_59 p5 x1 (t 3 0) (r61 - x3) (t 3 0) (by first | (clear g21 c19 h_r61 c1 h_r49 b_x4 b_x3 b_x2 b_x1; omega) | omega)) (fun r hr => ?_)
        (try dsimp only at hr)
        (try dsimp only)
        omega
    · skip
      refine sf_some ?_
      (try dsimp only)
      omega
  · skip
    refine sf_imp (sp_Query_take_177 F hF t p5 r49 (by first | (clear b_x4 b_x3 b_x2 b_x1; omega) | omega)) (fun r hr => ?_)
    (try dsimp only at hr)
    (try dsimp only)
    omega
set_option maxHeartbeats 4000000 in
set_option maxRecDepth 100000 in
theorem sp_Query_begin (F : Nat) (hF : Big F) (t : StI) (p1N : Nat) (p1 : StI) (x2 : Int32) (h : p1N = 600 ∧ ChOk (p1 0)) : Sf (Query_begin F t p1N p1 x2) (fun r => (0 ≤ (r 1 0).toInt ∧ (r 1 0).toInt ≤ 600 ∧ 0 ≤ (r 3 0).toInt ∧ (r 3 0).toInt ≤ 40 ∧ 0 ≤ (r 13 0).toInt ∧ (r 13 0).toInt ≤ 229)) := by
  rw [Query_begin]
  have b_x2 := ibd x2
  refine sf_up (fun t_12 ht_t_12 hn_t_12 => ?_)
  refine sf_neg (ilit (0 : Int32) (0) rfl) (by first | (clear b_x2; omega) | omega) ?_
  refine sf_neg (ilit (0 : Int32) (0) rfl) (by first | (clear b_x2; omega) | omega) ?_
  have e1 : (t_12 1 0).toInt = _ := (congrArg (fun q => Int32.toInt (q 0)) ht_t_12).trans (iitelt (ilit (0 : Int32) (0) rfl) (iitelt (iitelt (ilit (600 : Int32) (600) rfl) (iofn p1N (by omega)) (ilit (600 : Int32) (600) rfl) (iofn p1N (by omega))) rfl (iitelt (ilit (600 : Int32) (600) rfl) (iofn p1N (by omega)) (ilit (600 : Int32) (600) rfl) (iofn p1N (by omega))) rfl) (iitelt (iitelt (ilit (600 : Int32) (600) rfl) (iofn p1N (by omega)) (ilit (600 : Int32) (600) rfl) (iofn p1N (by omega))) rfl (iitelt (ilit (600 : Int32) (600) rfl) (iofn p1N (by omega)) (ilit (600 : Int32) (600) rfl) (iofn p1N (by omega))) rfl) (ilit (0 : Int32) (0) rfl))
  refine sf_neg rfl (by omega) ?_
  refine sf_cap (ilit (0 : Int32) (0) rfl) rfl (by omega) (by omega) (by omega) ?_
  refine sf_cap (ilit (0 : Int32) (0) rfl) rfl (by omega) (by omega) (by omega) ?_
  refine sf_all (fun i _ => h.2 _) ?_
  refine sf_up (fun t_13 ht_t_13 hn_t_13 => ?_)
  refine sf_up (fun t_20 ht_t_20 hn_t_20 => ?_)
  refine sf_up (fun t_21 ht_t_21 hn_t_21 => ?_)
  refine sf_up (fun t_22 ht_t_22 hn_t_22 => ?_)
  have e2 : (t_13 1 0).toInt = (t_12 1 0).toInt := congrArg (fun q => Int32.toInt (q 0)) (hn_t_13 1 (by decide))
  have e3 : (t_20 1 0).toInt = (t_13 1 0).toInt := congrArg (fun q => Int32.toInt (q 0)) (hn_t_20 1 (by decide))
  have e4 : (t_21 1 0).toInt = (t_20 1 0).toInt := congrArg (fun q => Int32.toInt (q 0)) (hn_t_21 1 (by decide))
  have e5 : (t_22 1 0).toInt = (t_21 1 0).toInt := congrArg (fun q => Int32.toInt (q 0)) (hn_t_22 1 (by decide))
  have e6 : (t_21 3 0).toInt = _ := (congrArg (fun q => Int32.toInt (q 0)) ht_t_21).trans (ilit (0 : Int32) (0) rfl)
  have e7 : (t_22 3 0).toInt = (t_21 3 0).toInt := congrArg (fun q => Int32.toInt (q 0)) (hn_t_22 3 (by decide))
  have e8 : (t_22 13 0).toInt = _ := (congrArg (fun q => Int32.toInt (q 0)) ht_t_22).trans (ilit (0 : Int32) (0) rfl)
  refine sf_some ?_
  (try dsimp only)
  omega
set_option maxHeartbeats 4000000 in
set_option maxRecDepth 100000 in
theorem sp_Span_keeps (F : Nat) (hF : Big F) (t : StI) (x1 : Int64) (x3 : Int64) (h : True) : Sf (Span_keeps F t x1 x3) (fun r => (r.1.toInt = 0 ∨ r.1.toInt = 1)) := by
  rw [Span_keeps]
  refine sf_any ?_ ?_
  · skip
    have g2 := (ilit (0 : Int32) (0) rfl)
    refine sf_some ?_
    (try dsimp only)
    omega
  · skip
    refine sf_any ?_ ?_
    · skip
      have g4 := (ilit (0 : Int32) (0) rfl)
      refine sf_some ?_
      (try dsimp only)
      omega
    · skip
      refine sf_up (fun t_7 ht_t_7 hn_t_7 => ?_)
      refine sf_up (fun t_8 ht_t_8 hn_t_8 => ?_)
      have g5 := (ilit (1 : Int32) (1) rfl)
      refine sf_some ?_
      (try dsimp only)
      omega
set_option maxHeartbeats 4000000 in
set_option maxRecDepth 100000 in
theorem sp_Span_numberOf_34 (F : Nat) (hF : Big F)   : ∀ (n : Nat) (p1 : StI) (x1 : Int32) (x2 : Int32) (x3 : Int64) (x5 : Int32) (h : ((0 ≤ (p1 1 0).toInt ∧ (p1 1 0).toInt ≤ 600 ∧ 0 ≤ (p1 3 0).toInt ∧ (p1 3 0).toInt ≤ 40 ∧ 0 ≤ (p1 13 0).toInt ∧ (p1 13 0).toInt ≤ 229) ∧ 0 ≤ x1.toInt ∧ 0 ≤ x5.toInt ∧ x2.toInt ≤ 8 ∧ x1.toInt + x2.toInt ≤ 600) ∧ x2.toInt - x5.toInt < (n : Int) ∧ 1 ≤ n), Sf (Span_numberOf_34 F  n p1 x1 x2 x3 x5) (fun r => True) := by
  intro n; induction n with
  | zero => intro p1 x1 x2 x3 x5 h; omega
  | succ n ih =>
    intro p1 x1 x2 x3 x5 h; rw [Span_numberOf_34]
    have b_x1 := ibd x1
    have b_x2 := ibd x2
    have b_x5 := ibd x5
    refine sf_le rfl rfl (fun c1 => ?_) (fun c1 => ?_)
    · skip
      exact sf_some trivial
    · skip
      refine sf_idx (iadd rfl rfl) (by omega) (by omega) ?_
      refine sf_lt (isub rfl (ilit (48 : Int32) (48) rfl)) (ilit (0 : Int32) (0) rfl) (fun c2 => ?_) (fun c2 => ?_)
      · skip
        exact sf_some trivial
      · skip
        refine sf_le (isub rfl (ilit (48 : Int32) (48) rfl)) (ilit (9 : Int32) (9) rfl) (fun c3 => ?_) (fun c3 => ?_)
        · skip
          have g4 : ((x5 + (1 : Int32))).toInt = _ := (iadd rfl (ilit (1 : Int32) (1) rfl))
          exact ih p1 x1 x2 ((x3 * (10 : Int64)) + (((p1 0) (x1 + x5).toNatClampNeg) - (48 : Int32)).toInt64) (x5 + (1 : Int32)) (by omega)
        · skip
          exact sf_some trivial
set_option maxHeartbeats 4000000 in
set_option maxRecDepth 100000 in
theorem sp_Span_numberOf (F : Nat) (hF : Big F) (p1 : StI) (x1 : Int32) (x2 : Int32) (h : (0 ≤ (p1 1 0).toInt ∧ (p1 1 0).toInt ≤ 600 ∧ 0 ≤ (p1 3 0).toInt ∧ (p1 3 0).toInt ≤ 40 ∧ 0 ≤ (p1 13 0).toInt ∧ (p1 13 0).toInt ≤ 229) ∧ x1.toInt ≤ 20000) : Sf (Span_numberOf F p1 x1 x2) (fun r => True) := by
  rw [Span_numberOf]
  have b_x1 := ibd x1
  have b_x2 := ibd x2
  refine sf_lt rfl (ilit (1 : Int32) (1) rfl) (fun c1 => ?_) (fun c1 => ?_)
  · skip
    exact sf_some trivial
  · skip
    refine sf_lt (ilit (8 : Int32) (8) rfl) rfl (fun c2 => ?_) (fun c2 => ?_)
    · skip
      exact sf_some trivial
    · skip
      refine sf_lt rfl (ilit (0 : Int32) (0) rfl) (fun c3 => ?_) (fun c3 => ?_)
      · skip
        exact sf_some trivial
      · skip
        refine sf_le (iadd rfl rfl) rfl (fun c4 => ?_) (fun c4 => ?_)
        · skip
          have g5 := (ilit (0 : Int32) (0) rfl)
          refine sf_imp (sp_Span_numberOf_34 F hF   F p1 x1 x2 (0 : Int64) (0 : Int32) (⟨by omega, fuel_ok hF (by omega)⟩)) (fun r hr => ?_)
          trivial
        · skip
          exact sf_some trivial
set_option maxHeartbeats 4000000 in
set_option maxRecDepth 100000 in
theorem sp_Span_bytesOf (F : Nat) (hF : Big F) (x0 : Int64) (x2 : Int32) (h : True) : Sf (Span_bytesOf F x0 x2) (fun r => True) := by
  rw [Span_bytesOf]
  have b_x2 := ibd x2
  refine sf_eq rfl (ilit (107 : Int32) (107) rfl) (fun c1 => ?_) (fun c1 => ?_)
  · skip
    rw [Span_bytesOf_29]
    refine sf_any ?_ ?_
    · skip
      exact sf_some trivial
    · skip
      exact sf_some trivial
  · skip
    refine sf_eq rfl (ilit (109 : Int32) (109) rfl) (fun c3 => ?_) (fun c3 => ?_)
    · skip
      rw [Span_bytesOf_29]
      refine sf_any ?_ ?_
      · skip
        exact sf_some trivial
      · skip
        exact sf_some trivial
    · skip
      rw [Span_bytesOf_29]
      refine sf_any ?_ ?_
      · skip
        exact sf_some trivial
      · skip
        exact sf_some trivial
set_option maxHeartbeats 4000000 in
set_option maxRecDepth 100000 in
theorem sp_Span_daysAgo (F : Nat) (hF : Big F) (x0 : Int64) (x2 : Int32) (h : True) : Sf (Span_daysAgo F x0 x2) (fun r => True) := by
  rw [Span_daysAgo]
  have b_x2 := ibd x2
  refine sf_eq rfl (ilit (100 : Int32) (100) rfl) (fun c1 => ?_) (fun c1 => ?_)
  · skip
    exact sf_some trivial
  · skip
    refine sf_eq rfl (ilit (109 : Int32) (109) rfl) (fun c2 => ?_) (fun c2 => ?_)
    · skip
      exact sf_some trivial
    · skip
      refine sf_eq rfl (ilit (119 : Int32) (119) rfl) (fun c3 => ?_) (fun c3 => ?_)
      · skip
        exact sf_some trivial
      · skip
        refine sf_eq rfl (ilit (121 : Int32) (121) rfl) (fun c4 => ?_) (fun c4 => ?_)
        · skip
          exact sf_some trivial
        · skip
          exact sf_some trivial
set_option maxHeartbeats 4000000 in
set_option maxRecDepth 100000 in
theorem sp_Span_dayOf_79 (F : Nat) (hF : Big F) (x1 : Int32) (x2 : Int32) (x3 : Int32) (y0 : Int32) (h : 1 ≤ x2.toInt ∧ x2.toInt ≤ 12) : Sf (Span_dayOf_79 F x1 x2 x3 y0) (fun r => True) := by
  rw [Span_dayOf_79]
  have b_x1 := ibd x1
  have b_x2 := ibd x2
  have b_x3 := ibd x3
  have b_y0 := ibd y0
  refine sf_idx rfl (by first | (clear b_y0 b_x3 b_x1; omega) | omega) (by first | (clear b_y0 b_x3 b_x1; omega) | omega) ?_
  refine sf_idx (isub rfl (ilit (1 : Int32) (1) rfl)) (by first | (clear b_y0 b_x3 b_x1; omega) | omega) (by first | (clear b_y0 b_x3 b_x1; omega) | omega) ?_
  refine sf_eq rfl (ilit (0 : Int32) (0) rfl) (fun c1 => ?_) (fun c1 => ?_)
  · skip
    rw [Span_dayOf_114]
    rw [Span_dayOf_116]
    refine sf_le rfl (isub rfl rfl) (fun c2 => ?_) (fun c2 => ?_)
    · skip
      refine sf_eq rfl (ilit (0 : Int32) (0) rfl) (fun c3 => ?_) (fun c3 => ?_)
      · skip
        rw [Span_dayOf_164]
        refine sf_idx (isub rfl (ilit (1 : Int32) (1) rfl)) (by first | (clear c3 c1 b_y0 b_x1; omega) | omega) (by first | (clear c3 c1 b_y0 b_x1; omega) | omega) ?_
        exact sf_some trivial
      · skip
        refine sf_le rfl (ilit (2 : Int32) (2) rfl) (fun c4 => ?_) (fun c4 => ?_)
        · skip
          rw [Span_dayOf_164]
          refine sf_idx (isub rfl (ilit (1 : Int32) (1) rfl)) (by first | (clear c3 c1 b_y0 b_x1; omega) | omega) (by first | (clear c3 c1 b_y0 b_x1; omega) | omega) ?_
          exact sf_some trivial
        · skip
          rw [Span_dayOf_164]
          refine sf_idx (isub rfl (ilit (1 : Int32) (1) rfl)) (by first | (clear c3 c1 b_y0 b_x1; omega) | omega) (by first | (clear c3 c1 b_y0 b_x1; omega) | omega) ?_
          exact sf_some trivial
    · skip
      exact sf_some trivial
  · skip
    refine sf_eq rfl (ilit (2 : Int32) (2) rfl) (fun c5 => ?_) (fun c5 => ?_)
    · skip
      rw [Span_dayOf_116]
      refine sf_le rfl (iadd (isub rfl rfl) (ilit (1 : Int32) (1) rfl)) (fun c6 => ?_) (fun c6 => ?_)
      · skip
        refine sf_eq rfl (ilit (0 : Int32) (0) rfl) (fun c7 => ?_) (fun c7 => ?_)
        · skip
          rw [Span_dayOf_164]
          refine sf_idx (isub rfl (ilit (1 : Int32) (1) rfl)) (by first | (clear c7 c1 b_y0 b_x1; omega) | omega) (by first | (clear c7 c1 b_y0 b_x1; omega) | omega) ?_
          exact sf_some trivial
        · skip
          refine sf_le rfl (ilit (2 : Int32) (2) rfl) (fun c8 => ?_) (fun c8 => ?_)
          · skip
            rw [Span_dayOf_164]
            refine sf_idx (isub rfl (ilit (1 : Int32) (1) rfl)) (by first | (clear c7 c1 b_y0 b_x1; omega) | omega) (by first | (clear c7 c1 b_y0 b_x1; omega) | omega) ?_
            exact sf_some trivial
          · skip
            rw [Span_dayOf_164]
            refine sf_idx (isub rfl (ilit (1 : Int32) (1) rfl)) (by first | (clear c7 c1 b_y0 b_x1; omega) | omega) (by first | (clear c7 c1 b_y0 b_x1; omega) | omega) ?_
            exact sf_some trivial
      · skip
        exact sf_some trivial
    · skip
      rw [Span_dayOf_114]
      rw [Span_dayOf_116]
      refine sf_le rfl (isub rfl rfl) (fun c9 => ?_) (fun c9 => ?_)
      · skip
        refine sf_eq rfl (ilit (0 : Int32) (0) rfl) (fun c10 => ?_) (fun c10 => ?_)
        · skip
          rw [Span_dayOf_164]
          refine sf_idx (isub rfl (ilit (1 : Int32) (1) rfl)) (by first | (clear c10 c1 b_y0 b_x1; omega) | omega) (by first | (clear c10 c1 b_y0 b_x1; omega) | omega) ?_
          exact sf_some trivial
        · skip
          refine sf_le rfl (ilit (2 : Int32) (2) rfl) (fun c11 => ?_) (fun c11 => ?_)
          · skip
            rw [Span_dayOf_164]
            refine sf_idx (isub rfl (ilit (1 : Int32) (1) rfl)) (by first | (clear c10 c1 b_y0 b_x1; omega) | omega) (by first | (clear c10 c1 b_y0 b_x1; omega) | omega) ?_
            exact sf_some trivial
          · skip
            rw [Span_dayOf_164]
            refine sf_idx (isub rfl (ilit (1 : Int32) (1) rfl)) (by first | (clear c10 c1 b_y0 b_x1; omega) | omega) (by first | (clear c10 c1 b_y0 b_x1; omega) | omega) ?_
            exact sf_some trivial
      · skip
        exact sf_some trivial
set_option maxHeartbeats 4000000 in
set_option maxRecDepth 100000 in
theorem sp_Span_dayOf (F : Nat) (hF : Big F) (x0 : Int32) (h : True) : Sf (Span_dayOf F x0) (fun r => True) := by
  rw [Span_dayOf]
  have b_x0 := ibd x0
  refine sf_lt rfl (ilit (1970 : Int32) (1970) rfl) (fun c1 => ?_) (fun c1 => ?_)
  · skip
    exact sf_some trivial
  · skip
    refine sf_lt (ilit (2999 : Int32) (2999) rfl) rfl (fun c2 => ?_) (fun c2 => ?_)
    · skip
      exact sf_some trivial
    · skip
      refine sf_lt (isub rfl (imul rfl (ilit (100 : Int32) (100) rfl))) (ilit (1 : Int32) (1) rfl) (fun c3 => ?_) (fun c3 => ?_)
      · skip
        exact sf_some trivial
      · skip
        refine sf_lt (ilit (12 : Int32) (12) rfl) (isub rfl (imul rfl (ilit (100 : Int32) (100) rfl))) (fun c4 => ?_) (fun c4 => ?_)
        · skip
          exact sf_some trivial
        · skip
          refine sf_le (ilit (1 : Int32) (1) rfl) (isub rfl (imul rfl (ilit (100 : Int32) (100) rfl))) (fun c5 => ?_) (fun c5 => ?_)
          · skip
            refine sf_eq (isub rfl (imul rfl (ilit (4 : Int32) (4) rfl))) (ilit (0 : Int32) (0) rfl) (fun c6 => ?_) (fun c6 => ?_)
            · skip
              refine sf_eq (isub rfl (imul rfl (ilit (100 : Int32) (100) rfl))) (ilit (0 : Int32) (0) rfl) (fun c7 => ?_) (fun c7 => ?_)
              · skip
                refine sf_eq (isub rfl (imul rfl (ilit (400 : Int32) (400) rfl))) (ilit (0 : Int32) (0) rfl) (fun c8 => ?_) (fun c8 => ?_)
                · skip
                  rw [Span_dayOf_74]
                  have g9 : (((x0 / (100 : Int32)) - (x0 / (100 : Int32)) / (100 : Int32) * (100 : Int32))).toInt = _ := (isub rfl (imul rfl (ilit (100 : Int32) (100) rfl)))
                  have g10 : ((x0 - x0 / (100 : Int32) * (100 : Int32))).toInt = _ := (isub rfl (imul rfl (ilit (100 : Int32) (100) rfl)))
                  have g11 := (ilit (1 : Int32) (1) rfl)
                  refine sf_imp (sp_Span_dayOf_79 F hF (x0 / (10000 : Int32)) ((x0 / (100 : Int32)) - (x0 / (100 : Int32)) / (100 : Int32) * (100 : Int32)) (x0 - x0 / (100 : Int32) * (100 : Int32)) (1 : Int32) (by omega)) (fun r hr => ?_)
                  trivial
                · skip
                  rw [Span_dayOf_78]
                  have g12 : (((x0 / (100 : Int32)) - (x0 / (100 : Int32)) / (100 : Int32) * (100 : Int32))).toInt = _ := (isub rfl (imul rfl (ilit (100 : Int32) (100) rfl)))
                  have g13 : ((x0 - x0 / (100 : Int32) * (100 : Int32))).toInt = _ := (isub rfl (imul rfl (ilit (100 : Int32) (100) rfl)))
                  have g14 := (ilit (0 : Int32) (0) rfl)
                  refine sf_imp (sp_Span_dayOf_79 F hF (x0 / (10000 : Int32)) ((x0 / (100 : Int32)) - (x0 / (100 : Int32)) / (100 : Int32) * (100 : Int32)) (x0 - x0 / (100 : Int32) * (100 : Int32)) (0 : Int32) (by omega)) (fun r hr => ?_)
                  trivial
              · skip
                rw [Span_dayOf_74]
                have g15 : (((x0 / (100 : Int32)) - (x0 / (100 : Int32)) / (100 : Int32) * (100 : Int32))).toInt = _ := (isub rfl (imul rfl (ilit (100 : Int32) (100) rfl)))
                have g16 : ((x0 - x0 / (100 : Int32) * (100 : Int32))).toInt = _ := (isub rfl (imul rfl (ilit (100 : Int32) (100) rfl)))
                have g17 := (ilit (1 : Int32) (1) rfl)
                refine sf_imp (sp_Span_dayOf_79 F hF (x0 / (10000 : Int32)) ((x0 / (100 : Int32)) - (x0 / (100 : Int32)) / (100 : Int32) * (100 : Int32)) (x0 - x0 / (100 : Int32) * (100 : Int32)) (1 : Int32) (by omega)) (fun r hr => ?_)
                trivial
            · skip
              rw [Span_dayOf_78]
              have g18 : (((x0 / (100 : Int32)) - (x0 / (100 : Int32)) / (100 : Int32) * (100 : Int32))).toInt = _ := (isub rfl (imul rfl (ilit (100 : Int32) (100) rfl)))
              have g19 : ((x0 - x0 / (100 : Int32) * (100 : Int32))).toInt = _ := (isub rfl (imul rfl (ilit (100 : Int32) (100) rfl)))
              have g20 := (ilit (0 : Int32) (0) rfl)
              refine sf_imp (sp_Span_dayOf_79 F hF (x0 / (10000 : Int32)) ((x0 / (100 : Int32)) - (x0 / (100 : Int32)) / (100 : Int32) * (100 : Int32)) (x0 - x0 / (100 : Int32) * (100 : Int32)) (0 : Int32) (by omega)) (fun r hr => ?_)
              trivial
          · skip
            exact sf_some trivial
set_option maxHeartbeats 4000000 in
set_option maxRecDepth 100000 in
theorem sp_Span_valueOf_28 (F : Nat) (hF : Big F) (p1 : StI) (x1 : Int32) (x3 : Int32) (x4 : Int32) (y0 : Int32) (h : (0 ≤ (p1 1 0).toInt ∧ (p1 1 0).toInt ≤ 600 ∧ 0 ≤ (p1 3 0).toInt ∧ (p1 3 0).toInt ≤ 40 ∧ 0 ≤ (p1 13 0).toInt ∧ (p1 13 0).toInt ≤ 229) ∧ x1.toInt ≤ 20000) : Sf (Span_valueOf_28 F p1 x1 x3 x4 y0) (fun r => True) := by
  rw [Span_valueOf_28]
  have b_x1 := ibd x1
  have b_x3 := ibd x3
  have b_x4 := ibd x4
  have b_y0 := ibd y0
  refine sf_bind (sp_Span_numberOf F hF p1 x1 y0 (by first | (clear b_y0 b_x4 b_x3; omega) | omega)) (fun r24 h_r24 => ?_)
  refine sf_any ?_ ?_
  · skip
    exact sf_some trivial
  · skip
    refine sf_eq rfl (ilit (0 : Int32) (0) rfl) (fun c2 => ?_) (fun c2 => ?_)
    · skip
      refine sf_bind (sp_MQ_isDigit F hF x4 (trivial)) (fun r34 h_r34 => ?_)
      refine sf_eq rfl (ilit (0 : Int32) (0) rfl) (fun c3 => ?_) (fun c3 => ?_)
      · skip
        refine sf_eq rfl (ilit (107 : Int32) (107) rfl) (fun c4 => ?_) (fun c4 => ?_)
        · skip
          rw [Span_valueOf_78]
          rw [Span_valueOf_83]
          refine sf_lt (ilit (7 : Int32) (7) rfl) rfl (fun c5 => ?_) (fun c5 => ?_)
          · skip
            exact sf_some trivial
          · skip
            refine sf_eq (ilit (1 : Int32) (1) rfl) (ilit (0 : Int32) (0) rfl) (fun c6 => ?_) (fun c6 => ?_)
            · skip
              exact sf_some trivial
            · skip
              refine sf_bind (sp_Span_bytesOf F hF r24 x4 (trivial)) (fun r23 h_r23 => ?_)
              exact sf_some trivial
        · skip
          refine sf_eq rfl (ilit (109 : Int32) (109) rfl) (fun c7 => ?_) (fun c7 => ?_)
          · skip
            rw [Span_valueOf_78]
            rw [Span_valueOf_83]
            refine sf_lt (ilit (7 : Int32) (7) rfl) rfl (fun c8 => ?_) (fun c8 => ?_)
            · skip
              exact sf_some trivial
            · skip
              refine sf_eq (ilit (1 : Int32) (1) rfl) (ilit (0 : Int32) (0) rfl) (fun c9 => ?_) (fun c9 => ?_)
              · skip
                exact sf_some trivial
              · skip
                refine sf_bind (sp_Span_bytesOf F hF r24 x4 (trivial)) (fun r23 h_r23 => ?_)
                exact sf_some trivial
          · skip
            rw [Span_valueOf_83]
            refine sf_lt (ilit (7 : Int32) (7) rfl) rfl (fun c10 => ?_) (fun c10 => ?_)
            · skip
              exact sf_some trivial
            · skip
              refine sf_eq (ilit (0 : Int32) (0) rfl) (ilit (0 : Int32) (0) rfl) (fun c11 => ?_) (fun c11 => ?_)
              · skip
                exact sf_some trivial
              · skip
                refine sf_bind (sp_Span_bytesOf F hF r24 x4 (trivial)) (fun r23 h_r23 => ?_)
                exact sf_some trivial
      · skip
        rw [Span_valueOf_78]
        rw [Span_valueOf_83]
        refine sf_lt (ilit (7 : Int32) (7) rfl) rfl (fun c12 => ?_) (fun c12 => ?_)
        · skip
          exact sf_some trivial
        · skip
          refine sf_eq (ilit (1 : Int32) (1) rfl) (ilit (0 : Int32) (0) rfl) (fun c13 => ?_) (fun c13 => ?_)
          · skip
            exact sf_some trivial
          · skip
            refine sf_bind (sp_Span_bytesOf F hF r24 x4 (trivial)) (fun r23 h_r23 => ?_)
            exact sf_some trivial
    · skip
      refine sf_bind (sp_MQ_isDigit F hF x4 (trivial)) (fun r27 h_r27 => ?_)
      refine sf_eq rfl (ilit (0 : Int32) (0) rfl) (fun c14 => ?_) (fun c14 => ?_)
      · skip
        refine sf_lt (ilit (3 : Int32) (3) rfl) rfl (fun c15 => ?_) (fun c15 => ?_)
        · skip
          exact sf_some trivial
        · skip
          refine sf_any ?_ ?_
          · skip
            exact sf_some trivial
          · skip
            refine sf_bind (sp_Span_daysAgo F hF r24 x4 (trivial)) (fun r31 h_r31 => ?_)
            exact sf_some trivial
      · skip
        refine sf_eq rfl (ilit (8 : Int32) (8) rfl) (fun c17 => ?_) (fun c17 => ?_)
        · skip
          refine sf_bind (sp_Span_dayOf F hF r24.toInt32 (trivial)) (fun r33 h_r33 => ?_)
          exact sf_some trivial
        · skip
          exact sf_some trivial
set_option maxHeartbeats 4000000 in
set_option maxRecDepth 100000 in
theorem sp_Span_valueOf (F : Nat) (hF : Big F) (p1 : StI) (x1 : Int32) (x2 : Int32) (x3 : Int32) (h : (0 ≤ (p1 1 0).toInt ∧ (p1 1 0).toInt ≤ 600 ∧ 0 ≤ (p1 3 0).toInt ∧ (p1 3 0).toInt ≤ 40 ∧ 0 ≤ (p1 13 0).toInt ∧ (p1 13 0).toInt ≤ 229) ∧ x1.toInt ≤ 20000) : Sf (Span_valueOf F p1 x1 x2 x3) (fun r => True) := by
  rw [Span_valueOf]
  have b_x1 := ibd x1
  have b_x2 := ibd x2
  have b_x3 := ibd x3
  have g1 : ((x2 - (1 : Int32))).toInt = _ := (isub rfl (ilit (1 : Int32) (1) rfl))
  refine sf_bind (sp_Query_byteAt F hF p1 (x2 - (1 : Int32)) (by first | (clear g1 b_x3 b_x2 b_x1; omega) | omega)) (fun r38 h_r38 => ?_)
  refine sf_bind (sp_MQ_isDigit F hF r38 (trivial)) (fun r39 h_r39 => ?_)
  refine sf_eq rfl (ilit (0 : Int32) (0) rfl) (fun c2 => ?_) (fun c2 => ?_)
  · skip
    have g3 : (((x2 - (1 : Int32)) - x1)).toInt = _ := (isub (isub rfl (ilit (1 : Int32) (1) rfl)) rfl)
    refine sf_imp (sp_Span_valueOf_28 F hF p1 x1 x3 r38 ((x2 - (1 : Int32)) - x1) (by first | (clear c2 h_r39 h_r38 b_x3; omega) | omega)) (fun r hr => ?_)
    trivial
  · skip
    have g4 : ((x2 - x1)).toInt = _ := (isub rfl rfl)
    refine sf_imp (sp_Span_valueOf_28 F hF p1 x1 x3 r38 (x2 - x1) (by first | (clear c2 h_r39 h_r38 b_x3; omega) | omega)) (fun r hr => ?_)
    trivial
set_option maxHeartbeats 4000000 in
set_option maxRecDepth 100000 in
theorem sp_Span_fits_129 (F : Nat) (hF : Big F) (t : StI) (p1 : StI) (x7 : Int64) (y0 : Int64) (h : True) : Sf (Span_fits_129 F t p1 x7 y0) (fun r => (r.1.toInt = 0 ∨ r.1.toInt = 1)) := by
  rw [Span_fits_129]
  refine sf_bind (sp_Span_keeps F hF t x7 y0 (trivial)) (fun r18 h_r18 => ?_)
  (try dsimp only at h_r18)
  refine sf_b01 (by omega) ?_
  refine sf_some ?_
  (try dsimp only)
  omega
set_option maxHeartbeats 4000000 in
set_option maxRecDepth 100000 in
theorem sp_Span_fits_105 (F : Nat) (hF : Big F) (t : StI) (p1 : StI) (x3 : Int32) (x4 : Int32) (x5 : Int32) (x6 : Int32) (y0 : Int64) (h : (0 ≤ (p1 1 0).toInt ∧ (p1 1 0).toInt ≤ 600 ∧ 0 ≤ (p1 3 0).toInt ∧ (p1 3 0).toInt ≤ 40 ∧ 0 ≤ (p1 13 0).toInt ∧ (p1 13 0).toInt ≤ 229) ∧ x5.toInt ≤ 10000 ∧ -1 ≤ x5.toInt) : Sf (Span_fits_105 F t p1 x3 x4 x5 x6 y0) (fun r => (r.1.toInt = 0 ∨ r.1.toInt = 1)) := by
  rw [Span_fits_105]
  have b_x3 := ibd x3
  have b_x4 := ibd x4
  have b_x5 := ibd x5
  have b_x6 := ibd x6
  refine sf_eq rfl (ilit (0 : Int32) (0) rfl) (fun c1 => ?_) (fun c1 => ?_)
  · skip
    have g2 : ((x5 + (2 : Int32))).toInt = _ := (iadd rfl (ilit (2 : Int32) (2) rfl))
    refine sf_bind (sp_Span_valueOf F hF p1 (x5 + (2 : Int32)) x3 x4 (by first | (clear c1 b_x6 b_x4 b_x3; omega) | omega)) (fun r21 h_r21 => ?_)
    refine sf_imp (sp_Span_fits_129 F hF t p1 y0 r21 (trivial)) (fun r hr => ?_)
    (try dsimp only at hr)
    (try dsimp only)
    omega
  · skip
    refine sf_imp (sp_Span_fits_129 F hF t p1 y0 (2147483647 : Int64) (trivial)) (fun r hr => ?_)
    (try dsimp only at hr)
    (try dsimp only)
    omega
set_option maxHeartbeats 4000000 in
set_option maxRecDepth 100000 in
theorem sp_Span_fits_84 (F : Nat) (hF : Big F) (t : StI) (p1 : StI) (x2 : Int32) (x3 : Int32) (x4 : Int32) (x5 : Int32) (x6 : Int32) (h : (0 ≤ (p1 1 0).toInt ∧ (p1 1 0).toInt ≤ 600 ∧ 0 ≤ (p1 3 0).toInt ∧ (p1 3 0).toInt ≤ 40 ∧ 0 ≤ (p1 13 0).toInt ∧ (p1 13 0).toInt ≤ 229) ∧ x5.toInt ≤ 10000 ∧ -1 ≤ x5.toInt ∧ 0 ≤ x2.toInt ∧ x2.toInt ≤ 10000) : Sf (Span_fits_84 F t p1 x2 x3 x4 x5 x6) (fun r => (r.1.toInt = 0 ∨ r.1.toInt = 1)) := by
  rw [Span_fits_84]
  have b_x2 := ibd x2
  have b_x3 := ibd x3
  have b_x4 := ibd x4
  have b_x5 := ibd x5
  have b_x6 := ibd x6
  refine sf_eq rfl rfl (fun c1 => ?_) (fun c1 => ?_)
  · skip
    refine sf_imp (sp_Span_fits_105 F hF t p1 x3 x4 x5 x6 (-2147483648 : Int64) (by first | (clear b_x6 b_x4 b_x3; omega) | omega)) (fun r hr => ?_)
    (try dsimp only at hr)
    (try dsimp only)
    omega
  · skip
    refine sf_bind (sp_Span_valueOf F hF p1 x2 x5 x4 (by first | (clear b_x6 b_x4 b_x3; omega) | omega)) (fun r23 h_r23 => ?_)
    refine sf_imp (sp_Span_fits_105 F hF t p1 x3 x4 x5 x6 r23 (by first | (clear h_r23 b_x6 b_x4 b_x3; omega) | omega)) (fun r hr => ?_)
    (try dsimp only at hr)
    (try dsimp only)
    omega
set_option maxHeartbeats 4000000 in
set_option maxRecDepth 100000 in
theorem sp_Span_fits_48 (F : Nat) (hF : Big F) (t : StI) (p1 : StI) (x2 : Int32) (x3 : Int32) (x4 : Int32) (x5 : Int32) (y0 : Int32) (h : (0 ≤ (p1 1 0).toInt ∧ (p1 1 0).toInt ≤ 600 ∧ 0 ≤ (p1 3 0).toInt ∧ (p1 3 0).toInt ≤ 40 ∧ 0 ≤ (p1 13 0).toInt ∧ (p1 13 0).toInt ≤ 229) ∧ x5.toInt ≤ 10000 ∧ -1 ≤ x5.toInt ∧ 0 ≤ x2.toInt ∧ x2.toInt ≤ 10000) : Sf (Span_fits_48 F t p1 x2 x3 x4 x5 y0) (fun r => (r.1.toInt = 0 ∨ r.1.toInt = 1)) := by
  rw [Span_fits_48]
  have b_x2 := ibd x2
  have b_x3 := ibd x3
  have b_x4 := ibd x4
  have b_x5 := ibd x5
  have b_y0 := ibd y0
  have g1 : ((x5 + (1 : Int32))).toInt = _ := (iadd rfl (ilit (1 : Int32) (1) rfl))
  refine sf_bind (sp_Query_byteAt F hF p1 (x5 + (1 : Int32)) (by first | (clear g1 b_y0 b_x5 b_x4 b_x3 b_x2; omega) | omega)) (fun r24 h_r24 => ?_)
  refine sf_eq rfl (ilit (46 : Int32) (46) rfl) (fun c2 => ?_) (fun c2 => ?_)
  · skip
    refine sf_lt rfl (iadd rfl (ilit (2 : Int32) (2) rfl)) (fun c3 => ?_) (fun c3 => ?_)
    · skip
      have g4 := (ilit (0 : Int32) (0) rfl)
      refine sf_some ?_
      (try dsimp only)
      omega
    · skip
      refine sf_eq rfl rfl (fun c5 => ?_) (fun c5 => ?_)
      · skip
        refine sf_eq rfl (ilit (0 : Int32) (0) rfl) (fun c6 => ?_) (fun c6 => ?_)
        · skip
          refine sf_imp (sp_Span_fits_84 F hF t p1 x2 x3 x4 x5 y0 (by first | (clear c6 c2 h_r24 b_y0 b_x4; omega) | omega)) (fun r hr => ?_)
          (try dsimp only at hr)
          (try dsimp only)
          omega
        · skip
          have g7 := (ilit (0 : Int32) (0) rfl)
          refine sf_some ?_
          (try dsimp only)
          omega
      · skip
        refine sf_imp (sp_Span_fits_84 F hF t p1 x2 x3 x4 x5 y0 (by first | (clear c2 h_r24 b_y0 b_x4; omega) | omega)) (fun r hr => ?_)
        (try dsimp only at hr)
        (try dsimp only)
        omega
  · skip
    have g8 := (ilit (0 : Int32) (0) rfl)
    refine sf_some ?_
    (try dsimp only)
    omega
set_option maxHeartbeats 4000000 in
set_option maxRecDepth 100000 in
theorem sp_Span_fits (F : Nat) (hF : Big F) (t : StI) (p1 : StI) (x2 : Int32) (x3 : Int32) (x4 : Int32) (h : (0 ≤ (p1 1 0).toInt ∧ (p1 1 0).toInt ≤ 600 ∧ 0 ≤ (p1 3 0).toInt ∧ (p1 3 0).toInt ≤ 40 ∧ 0 ≤ (p1 13 0).toInt ∧ (p1 13 0).toInt ≤ 229) ∧ 0 ≤ x2.toInt ∧ x2.toInt ≤ 10000 ∧ 0 ≤ x3.toInt ∧ x3.toInt ≤ 10000) : Sf (Span_fits F t p1 x2 x3 x4) (fun r => (r.1.toInt = 0 ∨ r.1.toInt = 1)) := by
  rw [Span_fits]
  have b_x2 := ibd x2
  have b_x3 := ibd x3
  have b_x4 := ibd x4
  have g1 := (ilit (46 : Int32) (46) rfl)
  refine sf_bind (sp_Query_find F hF p1 (46 : Int32) x2 x3 (by first | (clear b_x4 b_x3 b_x2; omega) | omega)) (fun r29 h_r29 => ?_)
  refine sf_eq rfl (ilit (-1 : Int32) (-1) rfl) (fun c2 => ?_) (fun c2 => ?_)
  · skip
    refine sf_bind (sp_Span_valueOf F hF p1 x2 x3 x4 (by first | (clear b_x4; omega) | omega)) (fun r32 h_r32 => ?_)
    refine sf_bind (sp_Span_keeps F hF t r32 r32 (trivial)) (fun r33 h_r33 => ?_)
    (try dsimp only at h_r33)
    refine sf_b01 (by first | (clear h_r32 c2 h_r29 b_x4 b_x3 b_x2; omega) | omega) ?_
    refine sf_some ?_
    (try dsimp only)
    omega
  · skip
    refine sf_eq (iadd rfl (ilit (2 : Int32) (2) rfl)) rfl (fun c3 => ?_) (fun c3 => ?_)
    · skip
      have g4 := (ilit (1 : Int32) (1) rfl)
      refine sf_imp (sp_Span_fits_48 F hF t p1 x2 x3 x4 r29 (1 : Int32) (by first | (clear b_x4; omega) | omega)) (fun r hr => ?_)
      (try dsimp only at hr)
      (try dsimp only)
      omega
    · skip
      have g5 := (ilit (0 : Int32) (0) rfl)
      refine sf_imp (sp_Span_fits_48 F hF t p1 x2 x3 x4 r29 (0 : Int32) (by first | (clear b_x4; omega) | omega)) (fun r hr => ?_)
      (try dsimp only at hr)
      (try dsimp only)
      omega

