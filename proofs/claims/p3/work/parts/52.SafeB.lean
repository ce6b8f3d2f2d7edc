set_option maxHeartbeats 4000000 in
set_option maxRecDepth 100000 in
theorem sp_Reader_fail (F : Nat) (hF : Big F) (t : StI) (x1 : Int32) (x2 : Int32) (h : True) : Sf (Reader_fail F t x1 x2) (fun r => r.1.toInt = -1) := by
  rw [Reader_fail]
  have b_x1 := ibd x1
  have b_x2 := ibd x2
  refine sf_up (fun t_3 ht_t_3 hn_t_3 => ?_)
  refine sf_up (fun t_4 ht_t_4 hn_t_4 => ?_)
  have g1 := (ilit (-1 : Int32) (-1) rfl)
  refine sf_some ?_
  (try dsimp only)
  omega
set_option maxHeartbeats 4000000 in
set_option maxRecDepth 100000 in
theorem sp_Reader_pastSpaces_2 (F : Nat) (hF : Big F)   : ∀ (n : Nat) (t : StI) (query : StI) (x2 : Int32) (h : ((0 ≤ (query 1 0).toInt ∧ (query 1 0).toInt ≤ 600 ∧ 0 ≤ (query 3 0).toInt ∧ (query 3 0).toInt ≤ 40 ∧ 0 ≤ (query 13 0).toInt ∧ (query 13 0).toInt ≤ 229)) ∧ (query 1 0).toInt - x2.toInt < (n : Int) ∧ 1 ≤ n), Sf (Reader_pastSpaces_2 F  n t query x2) (fun r => (x2.toInt ≤ r.toInt ∧ (r.toInt ≤ 600 ∨ r.toInt = x2.toInt))) := by
  intro n; induction n with
  | zero => intro t query x2 h; omega
  | succ n ih =>
    intro t query x2 h; rw [Reader_pastSpaces_2]
    have b_x2 := ibd x2
    refine sf_le rfl rfl (fun c1 => ?_) (fun c1 => ?_)
    · skip
      refine sf_some ?_
      (try dsimp only)
      omega
    · skip
      refine sf_bind (sp_Query_byteAt F hF query x2 (by omega)) (fun r6 h_r6 => ?_)
      refine sf_bind (sp_MQ_isSpace F hF r6 (trivial)) (fun r7 h_r7 => ?_)
      refine sf_eq rfl (ilit (0 : Int32) (0) rfl) (fun c2 => ?_) (fun c2 => ?_)
      · skip
        refine sf_some ?_
        (try dsimp only)
        omega
      · skip
        have g3 : ((x2 + (1 : Int32))).toInt = _ := (iadd rfl (ilit (1 : Int32) (1) rfl))
        refine sf_imp (ih t query (x2 + (1 : Int32)) (by first | (clear c2 h_r7 h_r6; omega) | omega)) (fun r hr => ?_)
        (try dsimp only at hr)
        (try dsimp only)
        omega
set_option maxHeartbeats 4000000 in
set_option maxRecDepth 100000 in
theorem sp_Reader_pastSpaces (F : Nat) (hF : Big F) (t : StI) (query : StI) (x1 : Int32) (h : (0 ≤ (query 1 0).toInt ∧ (query 1 0).toInt ≤ 600 ∧ 0 ≤ (query 3 0).toInt ∧ (query 3 0).toInt ≤ 40 ∧ 0 ≤ (query 13 0).toInt ∧ (query 13 0).toInt ≤ 229)) : Sf (Reader_pastSpaces F t query x1) (fun r => (x1.toInt ≤ r.toInt ∧ (r.toInt ≤ 600 ∨ r.toInt = x1.toInt))) := by
  rw [Reader_pastSpaces]
  have b_x1 := ibd x1
  refine sf_imp (sp_Reader_pastSpaces_2 F hF   F t query x1 (⟨by first | (clear b_x1; omega) | omega, fuel_ok hF (by omega)⟩)) (fun r hr => ?_)
  (try dsimp only at hr)
  (try dsimp only)
  omega
set_option maxHeartbeats 4000000 in
set_option maxRecDepth 100000 in
theorem sp_Reader_pastLetters_2 (F : Nat) (hF : Big F)   : ∀ (n : Nat) (t : StI) (query : StI) (x2 : Int32) (h : ((0 ≤ (query 1 0).toInt ∧ (query 1 0).toInt ≤ 600 ∧ 0 ≤ (query 3 0).toInt ∧ (query 3 0).toInt ≤ 40 ∧ 0 ≤ (query 13 0).toInt ∧ (query 13 0).toInt ≤ 229)) ∧ (query 1 0).toInt - x2.toInt < (n : Int) ∧ 1 ≤ n), Sf (Reader_pastLetters_2 F  n t query x2) (fun r => (x2.toInt ≤ r.toInt ∧ (r.toInt ≤ 600 ∨ r.toInt = x2.toInt))) := by
  intro n; induction n with
  | zero => intro t query x2 h; omega
  | succ n ih =>
    intro t query x2 h; rw [Reader_pastLetters_2]
    have b_x2 := ibd x2
    refine sf_le rfl rfl (fun c1 => ?_) (fun c1 => ?_)
    · skip
      refine sf_some ?_
      (try dsimp only)
      omega
    · skip
      refine sf_bind (sp_Query_byteAt F hF query x2 (by omega)) (fun r6 h_r6 => ?_)
      refine sf_bind (sp_MQ_isSmallLetter F hF r6 (trivial)) (fun r7 h_r7 => ?_)
      refine sf_eq rfl (ilit (0 : Int32) (0) rfl) (fun c2 => ?_) (fun c2 => ?_)
      · skip
        refine sf_some ?_
        (try dsimp only)
        omega
      · skip
        have g3 : ((x2 + (1 : Int32))).toInt = _ := (iadd rfl (ilit (1 : Int32) (1) rfl))
        refine sf_imp (ih t query (x2 + (1 : Int32)) (by first | (clear c2 h_r7 h_r6; omega) | omega)) (fun r hr => ?_)
        (try dsimp only at hr)
        (try dsimp only)
        omega
set_option maxHeartbeats 4000000 in
set_option maxRecDepth 100000 in
theorem sp_Reader_pastLetters (F : Nat) (hF : Big F) (t : StI) (query : StI) (x1 : Int32) (h : (0 ≤ (query 1 0).toInt ∧ (query 1 0).toInt ≤ 600 ∧ 0 ≤ (query 3 0).toInt ∧ (query 3 0).toInt ≤ 40 ∧ 0 ≤ (query 13 0).toInt ∧ (query 13 0).toInt ≤ 229)) : Sf (Reader_pastLetters F t query x1) (fun r => (x1.toInt ≤ r.toInt ∧ (r.toInt ≤ 600 ∨ r.toInt = x1.toInt))) := by
  rw [Reader_pastLetters]
  have b_x1 := ibd x1
  refine sf_imp (sp_Reader_pastLetters_2 F hF   F t query x1 (⟨by first | (clear b_x1; omega) | omega, fuel_ok hF (by omega)⟩)) (fun r hr => ?_)
  (try dsimp only at hr)
  (try dsimp only)
  omega
set_option maxHeartbeats 4000000 in
set_option maxRecDepth 100000 in
theorem sp_Reader_pastTextBytes_2 (F : Nat) (hF : Big F)   : ∀ (n : Nat) (t : StI) (query : StI) (x2 : Int32) (h : ((0 ≤ (query 1 0).toInt ∧ (query 1 0).toInt ≤ 600 ∧ 0 ≤ (query 3 0).toInt ∧ (query 3 0).toInt ≤ 40 ∧ 0 ≤ (query 13 0).toInt ∧ (query 13 0).toInt ≤ 229)) ∧ (query 1 0).toInt - x2.toInt < (n : Int) ∧ 1 ≤ n), Sf (Reader_pastTextBytes_2 F  n t query x2) (fun r => (x2.toInt ≤ r.toInt ∧ (r.toInt ≤ 600 ∨ r.toInt = x2.toInt))) := by
  intro n; induction n with
  | zero => intro t query x2 h; omega
  | succ n ih =>
    intro t query x2 h; rw [Reader_pastTextBytes_2]
    have b_x2 := ibd x2
    refine sf_le rfl rfl (fun c1 => ?_) (fun c1 => ?_)
    · skip
      refine sf_some ?_
      (try dsimp only)
      omega
    · skip
      refine sf_bind (sp_Query_byteAt F hF query x2 (by omega)) (fun r6 h_r6 => ?_)
      refine sf_bind (sp_MQ_isTextByte F hF r6 (trivial)) (fun r7 h_r7 => ?_)
      refine sf_eq rfl (ilit (0 : Int32) (0) rfl) (fun c2 => ?_) (fun c2 => ?_)
      · skip
        refine sf_some ?_
        (try dsimp only)
        omega
      · skip
        have g3 : ((x2 + (1 : Int32))).toInt = _ := (iadd rfl (ilit (1 : Int32) (1) rfl))
        refine sf_imp (ih t query (x2 + (1 : Int32)) (by first | (clear c2 h_r7 h_r6; omega) | omega)) (fun r hr => ?_)
        (try dsimp only at hr)
        (try dsimp only)
        omega
set_option maxHeartbeats 4000000 in
set_option maxRecDepth 100000 in
theorem sp_Reader_pastTextBytes (F : Nat) (hF : Big F) (t : StI) (query : StI) (x1 : Int32) (h : (0 ≤ (query 1 0).toInt ∧ (query 1 0).toInt ≤ 600 ∧ 0 ≤ (query 3 0).toInt ∧ (query 3 0).toInt ≤ 40 ∧ 0 ≤ (query 13 0).toInt ∧ (query 13 0).toInt ≤ 229)) : Sf (Reader_pastTextBytes F t query x1) (fun r => (x1.toInt ≤ r.toInt ∧ (r.toInt ≤ 600 ∨ r.toInt = x1.toInt))) := by
  rw [Reader_pastTextBytes]
  have b_x1 := ibd x1
  refine sf_imp (sp_Reader_pastTextBytes_2 F hF   F t query x1 (⟨by first | (clear b_x1; omega) | omega, fuel_ok hF (by omega)⟩)) (fun r hr => ?_)
  (try dsimp only at hr)
  (try dsimp only)
  omega
set_option maxHeartbeats 4000000 in
set_option maxRecDepth 100000 in
theorem sp_Reader_signOf (F : Nat) (hF : Big F) (t : StI) (query : StI) (x1 : Int32) (x2 : Int32) (h : (0 ≤ (query 1 0).toInt ∧ (query 1 0).toInt ≤ 600 ∧ 0 ≤ (query 3 0).toInt ∧ (query 3 0).toInt ≤ 40 ∧ 0 ≤ (query 13 0).toInt ∧ (query 13 0).toInt ≤ 229)) : Sf (Reader_signOf F t query x1 x2) (fun r => True) := by
  rw [Reader_signOf]
  have b_x1 := ibd x1
  have b_x2 := ibd x2
  refine sf_bind (sp_Query_says F hF query x1 x2 21 (by first | (clear b_x2 b_x1; omega) | omega)) (fun r9 h_r9 => ?_)
  refine sf_eq rfl (ilit (0 : Int32) (0) rfl) (fun c1 => ?_) (fun c1 => ?_)
  · skip
    refine sf_bind (sp_Query_says F hF query x1 x2 15 (by first | (clear c1 h_r9 b_x2 b_x1; omega) | omega)) (fun r11 h_r11 => ?_)
    refine sf_eq rfl (ilit (0 : Int32) (0) rfl) (fun c2 => ?_) (fun c2 => ?_)
    · skip
      refine sf_bind (sp_Query_says F hF query x1 x2 16 (by first | (clear c2 h_r11 c1 h_r9 b_x2 b_x1; omega) | omega)) (fun r13 h_r13 => ?_)
      refine sf_eq rfl (ilit (0 : Int32) (0) rfl) (fun c3 => ?_) (fun c3 => ?_)
      · skip
        refine sf_bind (sp_Query_says F hF query x1 x2 13 (by first | (clear c3 h_r13 c2 h_r11 c1 h_r9 b_x2 b_x1; omega) | omega)) (fun r15 h_r15 => ?_)
        refine sf_eq rfl (ilit (0 : Int32) (0) rfl) (fun c4 => ?_) (fun c4 => ?_)
        · skip
          exact sf_some trivial
        · skip
          exact sf_some trivial
      · skip
        exact sf_some trivial
    · skip
      exact sf_some trivial
  · skip
    exact sf_some trivial
set_option maxHeartbeats 4000000 in
set_option maxRecDepth 100000 in
theorem sp_Reader_fieldOf_2 (F : Nat) (hF : Big F)   : ∀ (n : Nat) (t : StI) (query : StI) (x1 : Int32) (x2 : Int32) (x3 : Int32) (h : ((0 ≤ (query 1 0).toInt ∧ (query 1 0).toInt ≤ 600 ∧ 0 ≤ (query 3 0).toInt ∧ (query 3 0).toInt ≤ 40 ∧ 0 ≤ (query 13 0).toInt ∧ (query 13 0).toInt ≤ 229)) ∧ 13 - x3.toInt < (n : Int) ∧ 1 ≤ n), Sf (Reader_fieldOf_2 F  n t query x1 x2 x3) (fun r => True) := by
  intro n; induction n with
  | zero => intro t query x1 x2 x3 h; omega
  | succ n ih =>
    intro t query x1 x2 x3 h; rw [Reader_fieldOf_2]
    have b_x1 := ibd x1
    have b_x2 := ibd x2
    have b_x3 := ibd x3
    refine sf_lt (ilit (12 : Int32) (12) rfl) rfl (fun c1 => ?_) (fun c1 => ?_)
    · skip
      exact sf_some trivial
    · skip
      refine sf_bind (sp_MQ_nameOf F hF x3 (trivial)) (fun r6 h_r6 => ?_)
      refine sf_bind (sp_Query_says F hF query x1 x2 r6 (by first | (clear c1 b_x3 b_x2 b_x1; omega) | omega)) (fun r7 h_r7 => ?_)
      refine sf_eq rfl (ilit (0 : Int32) (0) rfl) (fun c2 => ?_) (fun c2 => ?_)
      · skip
        have g3 : ((x3 + (1 : Int32))).toInt = _ := (iadd rfl (ilit (1 : Int32) (1) rfl))
        exact ih t query x1 x2 (x3 + (1 : Int32)) (by first | (clear c2 h_r7 h_r6 b_x2 b_x1; omega) | omega)
      · skip
        exact sf_some trivial
set_option maxHeartbeats 4000000 in
set_option maxRecDepth 100000 in
theorem sp_Reader_fieldOf (F : Nat) (hF : Big F) (t : StI) (query : StI) (x1 : Int32) (x2 : Int32) (h : (0 ≤ (query 1 0).toInt ∧ (query 1 0).toInt ≤ 600 ∧ 0 ≤ (query 3 0).toInt ∧ (query 3 0).toInt ≤ 40 ∧ 0 ≤ (query 13 0).toInt ∧ (query 13 0).toInt ≤ 229)) : Sf (Reader_fieldOf F t query x1 x2) (fun r => True) := by
  rw [Reader_fieldOf]
  have b_x1 := ibd x1
  have b_x2 := ibd x2
  have g1 := (ilit (1 : Int32) (1) rfl)
  refine sf_imp (sp_Reader_fieldOf_2 F hF   F t query x1 x2 (1 : Int32) (⟨by first | (clear b_x2 b_x1; omega) | omega, fuel_ok hF (by first | (clear b_x2 b_x1; omega) | omega)⟩)) (fun r hr => ?_)
  trivial
set_option maxHeartbeats 4000000 in
set_option maxRecDepth 100000 in
theorem sp_Reader_starFits_44 (F : Nat) (hF : Big F) (t : StI) (query : StI) (x2 : Int32) (x3 : Int32) (x4 : Int32) (x5 : Int32) (y0 : Int32) (h : (0 ≤ (query 1 0).toInt ∧ (query 1 0).toInt ≤ 600 ∧ 0 ≤ (query 3 0).toInt ∧ (query 3 0).toInt ≤ 40 ∧ 0 ≤ (query 13 0).toInt ∧ (query 13 0).toInt ≤ 229)) : Sf (Reader_starFits_44 F t query x2 x3 x4 x5 y0) (fun r => (r.toInt = 0 ∨ r.toInt = 1)) := by
  rw [Reader_starFits_44]
  have b_x2 := ibd x2
  have b_x3 := ibd x3
  have b_x4 := ibd x4
  have b_x5 := ibd x5
  have b_y0 := ibd y0
  refine sf_eq rfl (ilit (0 : Int32) (0) rfl) (fun c1 => ?_) (fun c1 => ?_)
  · skip
    have g2 := (ilit (0 : Int32) (0) rfl)
    refine sf_some ?_
    (try dsimp only)
    omega
  · skip
    refine sf_eq rfl (ilit (0 : Int32) (0) rfl) (fun c3 => ?_) (fun c3 => ?_)
    · skip
      refine sf_le (isub rfl rfl) (ilit (1 : Int32) (1) rfl) (fun c4 => ?_) (fun c4 => ?_)
      · skip
        have g5 := (ilit (0 : Int32) (0) rfl)
        refine sf_some ?_
        (try dsimp only)
        omega
      · skip
        have g6 := (ilit (42 : Int32) (42) rfl)
        have g7 : ((x5 + (1 : Int32))).toInt = _ := (iadd rfl (ilit (1 : Int32) (1) rfl))
        refine sf_bind (sp_Query_find F hF query (42 : Int32) (x5 + (1 : Int32)) x4 (by first | (clear g7 c4 c3 c1 b_y0 b_x5 b_x4 b_x3 b_x2; omega) | omega)) (fun r14 h_r14 => ?_)
        refine sf_eq rfl (ilit (-1 : Int32) (-1) rfl) (fun c8 => ?_) (fun c8 => ?_)
        · skip
          have g9 := (ilit (1 : Int32) (1) rfl)
          refine sf_some ?_
          (try dsimp only)
          omega
        · skip
          have g10 := (ilit (0 : Int32) (0) rfl)
          refine sf_some ?_
          (try dsimp only)
          omega
    · skip
      have g11 := (ilit (0 : Int32) (0) rfl)
      refine sf_some ?_
      (try dsimp only)
      omega
set_option maxHeartbeats 4000000 in
set_option maxRecDepth 100000 in
theorem sp_Reader_starFits (F : Nat) (hF : Big F) (t : StI) (query : StI) (x1 : Int32) (x2 : Int32) (x3 : Int32) (x4 : Int32) (h : (0 ≤ (query 1 0).toInt ∧ (query 1 0).toInt ≤ 600 ∧ 0 ≤ (query 3 0).toInt ∧ (query 3 0).toInt ≤ 40 ∧ 0 ≤ (query 13 0).toInt ∧ (query 13 0).toInt ≤ 229)) : Sf (Reader_starFits F t query x1 x2 x3 x4) (fun r => (r.toInt = 0 ∨ r.toInt = 1)) := by
  rw [Reader_starFits]
  have b_x1 := ibd x1
  have b_x2 := ibd x2
  have b_x3 := ibd x3
  have b_x4 := ibd x4
  have g1 := (ilit (42 : Int32) (42) rfl)
  refine sf_bind (sp_Query_find F hF query (42 : Int32) x3 x4 (by first | (clear b_x4 b_x3 b_x2 b_x1; omega) | omega)) (fun r16 h_r16 => ?_)
  refine sf_eq rfl (ilit (-1 : Int32) (-1) rfl) (fun c2 => ?_) (fun c2 => ?_)
  · skip
    have g3 := (ilit (1 : Int32) (1) rfl)
    refine sf_some ?_
    (try dsimp only)
    omega
  · skip
    refine sf_le rfl (ilit (4 : Int32) (4) rfl) (fun c4 => ?_) (fun c4 => ?_)
    · skip
      rw [Reader_starFits_39]
      have g5 := (ilit (1 : Int32) (1) rfl)
      refine sf_imp (sp_Reader_starFits_44 F hF t query x2 x3 x4 r16 (1 : Int32) (by first | (clear c4 c2 h_r16 b_x4 b_x3 b_x2 b_x1; omega) | omega)) (fun r hr => ?_)
      (try dsimp only at hr)
      (try dsimp only)
      omega
    · skip
      refine sf_eq rfl (ilit (7 : Int32) (7) rfl) (fun c6 => ?_) (fun c6 => ?_)
      · skip
        rw [Reader_starFits_39]
        have g7 := (ilit (1 : Int32) (1) rfl)
        refine sf_imp (sp_Reader_starFits_44 F hF t query x2 x3 x4 r16 (1 : Int32) (by first | (clear c6 c4 c2 h_r16 b_x4 b_x3 b_x2 b_x1; omega) | omega)) (fun r hr => ?_)
        (try dsimp only at hr)
        (try dsimp only)
        omega
      · skip
        refine sf_eq rfl (ilit (9 : Int32) (9) rfl) (fun c8 => ?_) (fun c8 => ?_)
        · skip
          rw [Reader_starFits_39]
          have g9 := (ilit (1 : Int32) (1) rfl)
          refine sf_imp (sp_Reader_starFits_44 F hF t query x2 x3 x4 r16 (1 : Int32) (by first | (clear c8 c6 c4 c2 h_r16 b_x4 b_x3 b_x2 b_x1; omega) | omega)) (fun r hr => ?_)
          (try dsimp only at hr)
          (try dsimp only)
          omega
        · skip
          have g10 := (ilit (0 : Int32) (0) rfl)
          refine sf_imp (sp_Reader_starFits_44 F hF t query x2 x3 x4 r16 (0 : Int32) (by first | (clear c8 c6 c4 c2 h_r16 b_x4 b_x3 b_x2 b_x1; omega) | omega)) (fun r hr => ?_)
          (try dsimp only at hr)
          (try dsimp only)
          omega
set_option maxHeartbeats 4000000 in
set_option maxRecDepth 100000 in
theorem sp_Reader_isState (F : Nat) (hF : Big F) (t : StI) (query : StI) (x1 : Int32) (x2 : Int32) (h : (0 ≤ (query 1 0).toInt ∧ (query 1 0).toInt ≤ 600 ∧ 0 ≤ (query 3 0).toInt ∧ (query 3 0).toInt ≤ 40 ∧ 0 ≤ (query 13 0).toInt ∧ (query 13 0).toInt ≤ 229)) : Sf (Reader_isState F t query x1 x2) (fun r => (r.toInt = 0 ∨ r.toInt = 1)) := by
  rw [Reader_isState]
  have b_x1 := ibd x1
  have b_x2 := ibd x2
  refine sf_bind (sp_Query_says F hF query x1 x2 17 (by first | (clear b_x2 b_x1; omega) | omega)) (fun r9 h_r9 => ?_)
  refine sf_eq rfl (ilit (0 : Int32) (0) rfl) (fun c1 => ?_) (fun c1 => ?_)
  · skip
    refine sf_bind (sp_Query_says F hF query x1 x2 18 (by first | (clear c1 h_r9 b_x2 b_x1; omega) | omega)) (fun r11 h_r11 => ?_)
    refine sf_eq rfl (ilit (0 : Int32) (0) rfl) (fun c2 => ?_) (fun c2 => ?_)
    · skip
      refine sf_bind (sp_Query_says F hF query x1 x2 19 (by first | (clear c2 h_r11 c1 h_r9 b_x2 b_x1; omega) | omega)) (fun r13 h_r13 => ?_)
      refine sf_eq rfl (ilit (0 : Int32) (0) rfl) (fun c3 => ?_) (fun c3 => ?_)
      · skip
        refine sf_bind (sp_Query_says F hF query x1 x2 20 (by first | (clear c3 h_r13 c2 h_r11 c1 h_r9 b_x2 b_x1; omega) | omega)) (fun r15 h_r15 => ?_)
        refine sf_eq rfl (ilit (0 : Int32) (0) rfl) (fun c4 => ?_) (fun c4 => ?_)
        · skip
          have g5 := (ilit (0 : Int32) (0) rfl)
          refine sf_some ?_
          (try dsimp only)
          omega
        · skip
          have g6 := (ilit (1 : Int32) (1) rfl)
          refine sf_some ?_
          (try dsimp only)
          omega
      · skip
        have g7 := (ilit (1 : Int32) (1) rfl)
        refine sf_some ?_
        (try dsimp only)
        omega
    · skip
      have g8 := (ilit (1 : Int32) (1) rfl)
      refine sf_some ?_
      (try dsimp only)
      omega
  · skip
    have g9 := (ilit (1 : Int32) (1) rfl)
    refine sf_some ?_
    (try dsimp only)
    omega
set_option maxHeartbeats 4000000 in
set_option maxRecDepth 100000 in
theorem sp_Reader_isTag_2 (F : Nat) (hF : Big F)   : ∀ (n : Nat) (t : StI) (query : StI) (x1 : Int32) (x2 : Int32) (x3 : Int32) (h : ((0 ≤ (query 1 0).toInt ∧ (query 1 0).toInt ≤ 600 ∧ 0 ≤ (query 3 0).toInt ∧ (query 3 0).toInt ≤ 40 ∧ 0 ≤ (query 13 0).toInt ∧ (query 13 0).toInt ≤ 229)) ∧ x2.toInt - x3.toInt < (n : Int) ∧ 1 ≤ n), Sf (Reader_isTag_2 F  n t query x1 x2 x3) (fun r => (r.toInt = 0 ∨ r.toInt = 1)) := by
  intro n; induction n with
  | zero => intro t query x1 x2 x3 h; omega
  | succ n ih =>
    intro t query x1 x2 x3 h; rw [Reader_isTag_2]
    have b_x1 := ibd x1
    have b_x2 := ibd x2
    have b_x3 := ibd x3
    refine sf_le rfl rfl (fun c1 => ?_) (fun c1 => ?_)
    · skip
      refine sf_lt (ilit (16 : Int32) (16) rfl) (isub rfl rfl) (fun c2 => ?_) (fun c2 => ?_)
      · skip
        have g3 := (ilit (0 : Int32) (0) rfl)
        refine sf_some ?_
        (try dsimp only)
        omega
      · skip
        have g4 := (ilit (1 : Int32) (1) rfl)
        refine sf_some ?_
        (try dsimp only)
        omega
    · skip
      refine sf_bind (sp_Query_byteAt F hF query x3 (by first | (clear c1 b_x3 b_x2 b_x1; omega) | omega)) (fun r11 h_r11 => ?_)
      refine sf_bind (sp_MQ_isSmallLetter F hF r11 (trivial)) (fun r12 h_r12 => ?_)
      refine sf_eq rfl (ilit (0 : Int32) (0) rfl) (fun c5 => ?_) (fun c5 => ?_)
      · skip
        refine sf_bind (sp_MQ_isDigit F hF r11 (trivial)) (fun r14 h_r14 => ?_)
        refine sf_eq rfl (ilit (0 : Int32) (0) rfl) (fun c6 => ?_) (fun c6 => ?_)
        · skip
          refine sf_eq rfl (ilit (45 : Int32) (45) rfl) (fun c7 => ?_) (fun c7 => ?_)
          · skip
            rw [Reader_isTag_42]
            have g8 : ((x3 + (1 : Int32))).toInt = _ := (iadd rfl (ilit (1 : Int32) (1) rfl))
            refine sf_imp (ih t query x1 x2 (x3 + (1 : Int32)) (by first | (clear c7 c6 h_r14 c5 h_r12 h_r11 b_x1; omega) | omega)) (fun r hr => ?_)
            (try dsimp only at hr)
            (try dsimp only)
            omega
          · skip
            have g9 := (ilit (0 : Int32) (0) rfl)
            refine sf_some ?_
            (try dsimp only)
            omega
        · skip
          rw [Reader_isTag_42]
          have g10 : ((x3 + (1 : Int32))).toInt = _ := (iadd rfl (ilit (1 : Int32) (1) rfl))
          refine sf_imp (ih t query x1 x2 (x3 + (1 : Int32)) (by first | (clear c6 h_r14 c5 h_r12 h_r11 b_x1; omega) | omega)) (fun r hr => ?_)
          (try dsimp only at hr)
          (try dsimp only)
          omega
      · skip
        rw [Reader_isTag_42]
        have g11 : ((x3 + (1 : Int32))).toInt = _ := (iadd rfl (ilit (1 : Int32) (1) rfl))
        refine sf_imp (ih t query x1 x2 (x3 + (1 : Int32)) (by first | (clear c5 h_r12 h_r11 b_x1; omega) | omega)) (fun r hr => ?_)
        (try dsimp only at hr)
        (try dsimp only)
        omega
set_option maxHeartbeats 4000000 in
set_option maxRecDepth 100000 in
theorem sp_Reader_isTag (F : Nat) (hF : Big F) (t : StI) (query : StI) (x1 : Int32) (x2 : Int32) (h : (0 ≤ (query 1 0).toInt ∧ (query 1 0).toInt ≤ 600 ∧ 0 ≤ (query 3 0).toInt ∧ (query 3 0).toInt ≤ 40 ∧ 0 ≤ (query 13 0).toInt ∧ (query 13 0).toInt ≤ 229)) : Sf (Reader_isTag F t query x1 x2) (fun r => (r.toInt = 0 ∨ r.toInt = 1)) := by
  rw [Reader_isTag]
  have b_x1 := ibd x1
  have b_x2 := ibd x2
  refine sf_imp (sp_Reader_isTag_2 F hF   F t query x1 x2 x1 (⟨by first | (clear b_x2 b_x1; omega) | omega, fuel_ok hF (by omega)⟩)) (fun r hr => ?_)
  (try dsimp only at hr)
  (try dsimp only)
  omega
set_option maxHeartbeats 4000000 in
set_option maxRecDepth 100000 in
theorem sp_Reader_fieldHas (F : Nat) (hF : Big F) (t : StI) (query : StI) (span : StI) (x1 : Int32) (x2 : Int32) (x3 : Int32) (x4 : Int32) (h : (0 ≤ (query 1 0).toInt ∧ (query 1 0).toInt ≤ 600 ∧ 0 ≤ (query 3 0).toInt ∧ (query 3 0).toInt ≤ 40 ∧ 0 ≤ (query 13 0).toInt ∧ (query 13 0).toInt ≤ 229) ∧ 0 ≤ x3.toInt ∧ x3.toInt ≤ 10000 ∧ 0 ≤ x4.toInt ∧ x4.toInt ≤ 10000) : Sf (Reader_fieldHas F t query span x1 x2 x3 x4) (fun r => (r.1.toInt = 0 ∨ r.1.toInt = 1)) := by
  rw [Reader_fieldHas]
  have b_x1 := ibd x1
  have b_x2 := ibd x2
  have b_x3 := ibd x3
  have b_x4 := ibd x4
  refine sf_eq rfl (ilit (5 : Int32) (5) rfl) (fun c1 => ?_) (fun c1 => ?_)
  · skip
    refine sf_eq rfl (ilit (0 : Int32) (0) rfl) (fun c2 => ?_) (fun c2 => ?_)
    · skip
      refine sf_bind (sp_Reader_isTag F hF t query x3 x4 (by first | (clear c2 c1 b_x4 b_x3 b_x2 b_x1; omega) | omega)) (fun r59 h_r59 => ?_)
      refine sf_eq rfl (ilit (0 : Int32) (0) rfl) (fun c3 => ?_) (fun c3 => ?_)
      · skip
        have g4 := (ilit (0 : Int32) (0) rfl)
        refine sf_some ?_
        (try dsimp only)
        omega
      · skip
        have g5 := (ilit (1 : Int32) (1) rfl)
        refine sf_some ?_
        (try dsimp only)
        omega
    · skip
      have g6 := (ilit (0 : Int32) (0) rfl)
      refine sf_some ?_
      (try dsimp only)
      omega
  · skip
    refine sf_eq rfl (ilit (6 : Int32) (6) rfl) (fun c7 => ?_) (fun c7 => ?_)
    · skip
      refine sf_bind (sp_Reader_starFits F hF t query x1 x2 x3 x4 (by first | (clear c7 c1 b_x4 b_x3 b_x2 b_x1; omega) | omega)) (fun r56 h_r56 => ?_)
      refine sf_b01 (by first | (clear c7 c1 b_x4 b_x3 b_x2 b_x1; omega) | omega) ?_
      refine sf_some ?_
      (try dsimp only)
      omega
    · skip
      refine sf_eq rfl (ilit (7 : Int32) (7) rfl) (fun c8 => ?_) (fun c8 => ?_)
      · skip
        refine sf_bind (sp_Reader_starFits F hF t query x1 x2 x3 x4 (by first | (clear c8 c7 c1 b_x4 b_x3 b_x2 b_x1; omega) | omega)) (fun r54 h_r54 => ?_)
        refine sf_b01 (by first | (clear c8 c7 c1 b_x4 b_x3 b_x2 b_x1; omega) | omega) ?_
        refine sf_some ?_
        (try dsimp only)
        omega
      · skip
        refine sf_eq rfl (ilit (8 : Int32) (8) rfl) (fun c9 => ?_) (fun c9 => ?_)
        · skip
          refine sf_bind (sp_Reader_starFits F hF t query x1 x2 x3 x4 (by first | (clear c9 c8 c7 c1 b_x4 b_x3 b_x2 b_x1; omega) | omega)) (fun r52 h_r52 => ?_)
          refine sf_b01 (by first | (clear c9 c8 c7 c1 b_x4 b_x3 b_x2 b_x1; omega) | omega) ?_
          refine sf_some ?_
          (try dsimp only)
          omega
        · skip
          refine sf_eq rfl (ilit (9 : Int32) (9) rfl) (fun c10 => ?_) (fun c10 => ?_)
          · skip
            refine sf_bind (sp_Reader_starFits F hF t query x1 x2 x3 x4 (by first | (clear c10 c9 c8 c7 c1 b_x4 b_x3 b_x2 b_x1; omega) | omega)) (fun r50 h_r50 => ?_)
            refine sf_b01 (by first | (clear c10 c9 c8 c7 c1 b_x4 b_x3 b_x2 b_x1; omega) | omega) ?_
            refine sf_some ?_
            (try dsimp only)
            omega
          · skip
            refine sf_eq rfl (ilit (10 : Int32) (10) rfl) (fun c11 => ?_) (fun c11 => ?_)
            · skip
              refine sf_eq rfl (ilit (0 : Int32) (0) rfl) (fun c12 => ?_) (fun c12 => ?_)
              · skip
                refine sf_bind (sp_Reader_isState F hF t query x3 x4 (by first | (clear c12 c11 c10 c9 c8 c7 c1 b_x4 b_x3 b_x2 b_x1; omega) | omega)) (fun r48 h_r48 => ?_)
                refine sf_eq rfl (ilit (0 : Int32) (0) rfl) (fun c13 => ?_) (fun c13 => ?_)
                · skip
                  have g14 := (ilit (0 : Int32) (0) rfl)
                  refine sf_some ?_
                  (try dsimp only)
                  omega
                · skip
                  have g15 := (ilit (1 : Int32) (1) rfl)
                  refine sf_some ?_
                  (try dsimp only)
                  omega
              · skip
                have g16 := (ilit (0 : Int32) (0) rfl)
                refine sf_some ?_
                (try dsimp only)
                omega
            · skip
              refine sf_eq rfl (ilit (11 : Int32) (11) rfl) (fun c17 => ?_) (fun c17 => ?_)
              · skip
                refine sf_eq rfl (ilit (0 : Int32) (0) rfl) (fun c18 => ?_) (fun c18 => ?_)
                · skip
                  have g19 := (ilit (1 : Int32) (1) rfl)
                  refine sf_bind (sp_Span_fits F hF span query x3 x4 (1 : Int32) (by first | (clear c18 c17 c11 c10 c9 c8 c7 c1 b_x2 b_x1; omega) | omega)) (fun r45 h_r45 => ?_)
                  (try dsimp only at h_r45)
                  refine sf_eq rfl (ilit (0 : Int32) (0) rfl) (fun c20 => ?_) (fun c20 => ?_)
                  · skip
                    have g21 := (ilit (0 : Int32) (0) rfl)
                    refine sf_some ?_
                    (try dsimp only)
                    omega
                  · skip
                    refine sf_some ?_
                    (try dsimp only)
                    omega
                · skip
                  have g22 := (ilit (0 : Int32) (0) rfl)
                  refine sf_some ?_
                  (try dsimp only)
                  omega
              · skip
                refine sf_eq rfl (ilit (12 : Int32) (12) rfl) (fun c23 => ?_) (fun c23 => ?_)
                · skip
                  refine sf_eq rfl (ilit (0 : Int32) (0) rfl) (fun c24 => ?_) (fun c24 => ?_)
                  · skip
                    have g25 := (ilit (0 : Int32) (0) rfl)
                    refine sf_bind (sp_Span_fits F hF span query x3 x4 (0 : Int32) (by first | (clear c24 c23 c17 c11 c10 c9 c8 c7 c1 b_x2 b_x1; omega) | omega)) (fun r42 h_r42 => ?_)
                    (try dsimp only at h_r42)
                    refine sf_eq rfl (ilit (0 : Int32) (0) rfl) (fun c26 => ?_) (fun c26 => ?_)
                    · skip
                      refine sf_some ?_
                      (try dsimp only)
                      omega
                    · skip
                      have g27 := (ilit (1 : Int32) (1) rfl)
                      refine sf_some ?_
                      (try dsimp only)
                      omega
                  · skip
                    have g28 := (ilit (0 : Int32) (0) rfl)
                    refine sf_some ?_
                    (try dsimp only)
                    omega
                · skip
                  refine sf_bind (sp_Reader_starFits F hF t query x1 x2 x3 x4 (by first | (clear c23 c17 c11 c10 c9 c8 c7 c1 b_x4 b_x3 b_x2 b_x1; omega) | omega)) (fun r39 h_r39 => ?_)
                  refine sf_b01 (by first | (clear c23 c17 c11 c10 c9 c8 c7 c1 b_x4 b_x3 b_x2 b_x1; omega) | omega) ?_
                  refine sf_some ?_
                  (try dsimp only)
                  omega
set_option maxHeartbeats 4000000 in
set_option maxRecDepth 100000 in
theorem sp_Reader_beginAll (F : Nat) (hF : Big F) (t : StI) (query : StI) (h : True) : Sf (Reader_beginAll F t query) (fun r => True) := by
  rw [Reader_beginAll]
  refine sf_lt rfl (ilit (0 : Int32) (0) rfl) (fun c1 => ?_) (fun c1 => ?_)
  · skip
    exact sf_some trivial
  · skip
    refine sf_lt (ilit (20 : Int32) (20) rfl) rfl (fun c2 => ?_) (fun c2 => ?_)
    · skip
      exact sf_some trivial
    · skip
      refine sf_idx rfl (by omega) (by omega) ?_
      refine sf_up (fun t_7 ht_t_7 hn_t_7 => ?_)
      exact sf_some trivial
set_option maxHeartbeats 4000000 in
set_option maxRecDepth 100000 in
theorem sp_Reader_beginEither (F : Nat) (hF : Big F) (t : StI) (query : StI) (h : True) : Sf (Reader_beginEither F t query) (fun r => True) := by
  rw [Reader_beginEither]
  refine sf_lt rfl (ilit (0 : Int32) (0) rfl) (fun c1 => ?_) (fun c1 => ?_)
  · skip
    exact sf_some trivial
  · skip
    refine sf_lt (ilit (20 : Int32) (20) rfl) rfl (fun c2 => ?_) (fun c2 => ?_)
    · skip
      exact sf_some trivial
    · skip
      refine sf_idx rfl (by omega) (by omega) ?_
      refine sf_up (fun t_8 ht_t_8 hn_t_8 => ?_)
      refine sf_bind (sp_Reader_beginAll F hF t_8 query (trivial)) (fun r10 h_r10 => ?_)
      exact sf_some trivial
set_option maxHeartbeats 4000000 in
set_option maxRecDepth 100000 in
theorem sp_Reader_beginAny (F : Nat) (hF : Big F) (t : StI) (query : StI) (h : True) : Sf (Reader_beginAny F t query) (fun r => True) := by
  rw [Reader_beginAny]
  refine sf_lt rfl (ilit (0 : Int32) (0) rfl) (fun c1 => ?_) (fun c1 => ?_)
  · skip
    exact sf_some trivial
  · skip
    refine sf_lt (ilit (20 : Int32) (20) rfl) rfl (fun c2 => ?_) (fun c2 => ?_)
    · skip
      exact sf_some trivial
    · skip
      refine sf_idx rfl (by omega) (by omega) ?_
      refine sf_up (fun t_8 ht_t_8 hn_t_8 => ?_)
      refine sf_bind (sp_Reader_beginEither F hF t_8 query (trivial)) (fun r10 h_r10 => ?_)
      exact sf_some trivial
set_option maxHeartbeats 4000000 in
set_option maxRecDepth 100000 in
theorem sp_Reader_joinBy (F : Nat) (hF : Big F) (t : StI) (query : StI) (x1 : Int32) (h : (0 ≤ (query 1 0).toInt ∧ (query 1 0).toInt ≤ 600 ∧ 0 ≤ (query 3 0).toInt ∧ (query 3 0).toInt ≤ 40 ∧ 0 ≤ (query 13 0).toInt ∧ (query 13 0).toInt ≤ 229)) : Sf (Reader_joinBy F t query x1) (fun r => (0 ≤ (r.2 1 0).toInt ∧ (r.2 1 0).toInt ≤ 600 ∧ 0 ≤ (r.2 3 0).toInt ∧ (r.2 3 0).toInt ≤ 40 ∧ 0 ≤ (r.2 13 0).toInt ∧ (r.2 13 0).toInt ≤ 229)) := by
  rw [Reader_joinBy]
  have b_x1 := ibd x1
  refine sf_up (fun t_14 ht_t_14 hn_t_14 => ?_)
  have e1 : (t_14 5 0).toInt = (t 5 0).toInt := congrArg (fun q => Int32.toInt (q 0)) (hn_t_14 5 (by decide))
  refine sf_lt rfl (ilit (0 : Int32) (0) rfl) (fun c2 => ?_) (fun c2 => ?_)
  · skip
    refine sf_some ?_
    (try dsimp only)
    omega
  · skip
    refine sf_le rfl (ilit (20 : Int32) (20) rfl) (fun c3 => ?_) (fun c3 => ?_)
    · skip
      refine sf_eq rfl (ilit (-4 : Int32) (-4) rfl) (fun c4 => ?_) (fun c4 => ?_)
      · skip
        refine sf_idx rfl (by first | (clear c4 b_x1; omega) | omega) (by first | (clear c4 b_x1; omega) | omega) ?_
        have g5 := (ilit (-4 : Int32) (-4) rfl)
        refine sf_bind (sp_Query_insert F hF query ((t_14 6) (t_14 5 0).toNatClampNeg) (-4 : Int32) (by first | (clear c4 c3 c2 e1 b_x1; omega) | omega)) (fun r25 h_r25 => ?_)
        refine sf_bind (sp_Reader_beginEither F hF t_14 r25 (trivial)) (fun r26 h_r26 => ?_)
        refine sf_some ?_
        (try dsimp only)
        omega
      · skip
        refine sf_eq rfl (ilit (-5 : Int32) (-5) rfl) (fun c6 => ?_) (fun c6 => ?_)
        · skip
          refine sf_idx rfl (by first | (clear c6 c4 b_x1; omega) | omega) (by first | (clear c6 c4 b_x1; omega) | omega) ?_
          have g7 := (ilit (-5 : Int32) (-5) rfl)
          refine sf_bind (sp_Query_insert F hF query ((t_14 7) (t_14 5 0).toNatClampNeg) (-5 : Int32) (by first | (clear c6 c4 c3 c2 e1 b_x1; omega) | omega)) (fun r22 h_r22 => ?_)
          refine sf_bind (sp_Reader_beginAll F hF t_14 r22 (trivial)) (fun r23 h_r23 => ?_)
          refine sf_some ?_
          (try dsimp only)
          omega
        · skip
          refine sf_idx rfl (by first | (clear c6 c4 b_x1; omega) | omega) (by first | (clear c6 c4 b_x1; omega) | omega) ?_
          have g8 := (ilit (-3 : Int32) (-3) rfl)
          refine sf_bind (sp_Query_insert F hF query ((t_14 8) (t_14 5 0).toNatClampNeg) (-3 : Int32) (by first | (clear c6 c4 c3 c2 e1 b_x1; omega) | omega)) (fun r20 h_r20 => ?_)
          refine sf_some ?_
          (try dsimp only)
          omega
    · skip
      refine sf_some ?_
      (try dsimp only)
      omega
set_option maxHeartbeats 4000000 in
set_option maxRecDepth 100000 in
theorem sp_Reader_beginOperand (F : Nat) (hF : Big F) (t : StI) (query : StI) (h : (0 ≤ (query 1 0).toInt ∧ (query 1 0).toInt ≤ 600 ∧ 0 ≤ (query 3 0).toInt ∧ (query 3 0).toInt ≤ 40 ∧ 0 ≤ (query 13 0).toInt ∧ (query 13 0).toInt ≤ 229)) : Sf (Reader_beginOperand F t query) (fun r => (0 ≤ (r.2 1 0).toInt ∧ (r.2 1 0).toInt ≤ 600 ∧ 0 ≤ (r.2 3 0).toInt ∧ (r.2 3 0).toInt ≤ 40 ∧ 0 ≤ (r.2 13 0).toInt ∧ (r.2 13 0).toInt ≤ 229)) := by
  rw [Reader_beginOperand]
  refine sf_eq rfl (ilit (0 : Int32) (0) rfl) (fun c1 => ?_) (fun c1 => ?_)
  · skip
    have g2 := (ilit (-3 : Int32) (-3) rfl)
    refine sf_bind (sp_Reader_joinBy F hF t query (-3 : Int32) (by first | (clear c1; omega) | omega)) (fun r4 h_r4 => ?_)
    (try dsimp only at h_r4)
    refine sf_some ?_
    (try dsimp only)
    omega
  · skip
    refine sf_some ?_
    (try dsimp only)
    omega
set_option maxHeartbeats 4000000 in
set_option maxRecDepth 100000 in
theorem sp_Reader_isBegun_67 (F : Nat) (hF : Big F) (t : StI) (query : StI) (h : True) : Sf (Reader_isBegun_67 F t query) (fun r => (r.1.toInt = 0 ∨ r.1.toInt = 1)) := by
  rw [Reader_isBegun_67]
  refine sf_eq rfl (ilit (0 : Int32) (0) rfl) (fun c1 => ?_) (fun c1 => ?_)
  · skip
    have g2 := (ilit (1 : Int32) (1) rfl)
    refine sf_some ?_
    (try dsimp only)
    omega
  · skip
    have g3 := (ilit (0 : Int32) (0) rfl)
    refine sf_some ?_
    (try dsimp only)
    omega
set_option maxHeartbeats 4000000 in
set_option maxRecDepth 100000 in
theorem sp_Reader_isBegun (F : Nat) (hF : Big F) (t : StI) (query : StI) (x1 : Int32) (x2 : Int32) (x3 : Int32) (h : (0 ≤ (query 1 0).toInt ∧ (query 1 0).toInt ≤ 600 ∧ 0 ≤ (query 3 0).toInt ∧ (query 3 0).toInt ≤ 40 ∧ 0 ≤ (query 13 0).toInt ∧ (query 13 0).toInt ≤ 229)) : Sf (Reader_isBegun F t query x1 x2 x3) (fun r => (r.1.toInt = 0 ∨ r.1.toInt = 1)) := by
  rw [Reader_isBegun]
  have b_x1 := ibd x1
  have b_x2 := ibd x2
  have b_x3 := ibd x3
  refine sf_bind (sp_Query_byteAt F hF query x3 (by first | (clear b_x3 b_x2 b_x1; omega) | omega)) (fun r13 h_r13 => ?_)
  refine sf_eq rfl (ilit (-1 : Int32) (-1) rfl) (fun c1 => ?_) (fun c1 => ?_)
  · skip
    refine sf_bind (sp_Reader_fail F hF t (3 : Int32) x2 (trivial)) (fun r22 h_r22 => ?_)
    (try dsimp only at h_r22)
    refine sf_imp (sp_Reader_isBegun_67 F hF r22.2 query (trivial)) (fun r hr => ?_)
    (try dsimp only at hr)
    (try dsimp only)
    omega
  · skip
    refine sf_bind (sp_Query_isFull F hF query (trivial)) (fun r15 h_r15 => ?_)
    refine sf_eq rfl (ilit (0 : Int32) (0) rfl) (fun c2 => ?_) (fun c2 => ?_)
    · skip
      refine sf_eq rfl (ilit (34 : Int32) (34) rfl) (fun c3 => ?_) (fun c3 => ?_)
      · skip
        refine sf_imp (sp_Reader_isBegun_67 F hF t query (trivial)) (fun r hr => ?_)
        (try dsimp only at hr)
        (try dsimp only)
        omega
      · skip
        refine sf_bind (sp_MQ_isTextByte F hF r13 (trivial)) (fun r18 h_r18 => ?_)
        refine sf_eq rfl (ilit (0 : Int32) (0) rfl) (fun c4 => ?_) (fun c4 => ?_)
        · skip
          refine sf_bind (sp_Reader_fail F hF t (1 : Int32) x3 (trivial)) (fun r20 h_r20 => ?_)
          (try dsimp only at h_r20)
          refine sf_imp (sp_Reader_isBegun_67 F hF r20.2 query (trivial)) (fun r hr => ?_)
          (try dsimp only at hr)
          (try dsimp only)
          omega
        · skip
          refine sf_imp (sp_Reader_isBegun_67 F hF t query (trivial)) (fun r hr => ?_)
          (try dsimp only at hr)
          (try dsimp only)
          omega
    · skip
      refine sf_bind (sp_Reader_fail F hF t (5 : Int32) x2 (trivial)) (fun r21 h_r21 => ?_)
      (try dsimp only at h_r21)
      refine sf_imp (sp_Reader_isBegun_67 F hF r21.2 query (trivial)) (fun r hr => ?_)
      (try dsimp only at hr)
      (try dsimp only)
      omega
set_option maxHeartbeats 4000000 in
set_option maxRecDepth 100000 in
theorem sp_Reader_takeAtom_97 (F : Nat) (hF : Big F) (t : StI) (query : StI) (span : StI) (x3 : Int32) (h : (0 ≤ (query 1 0).toInt ∧ (query 1 0).toInt ≤ 600 ∧ 0 ≤ (query 3 0).toInt ∧ (query 3 0).toInt ≤ 40 ∧ 0 ≤ (query 13 0).toInt ∧ (query 13 0).toInt ≤ 229)) : Sf (Reader_takeAtom_97 F t query span x3) (fun r => (0 ≤ (r.2.2.1 1 0).toInt ∧ (r.2.2.1 1 0).toInt ≤ 600 ∧ 0 ≤ (r.2.2.1 3 0).toInt ∧ (r.2.2.1 3 0).toInt ≤ 40 ∧ 0 ≤ (r.2.2.1 13 0).toInt ∧ (r.2.2.1 13 0).toInt ≤ 229) ∧ -1 ≤ r.1.toInt ∧ r.1.toInt ≤ 2000) := by
  rw [Reader_takeAtom_97]
  have b_x3 := ibd x3
  refine sf_bind (sp_Reader_fail F hF t (2 : Int32) x3 (trivial)) (fun r23 h_r23 => ?_)
  (try dsimp only at h_r23)
  refine sf_some ?_
  (try dsimp only)
  omega
set_option maxHeartbeats 4000000 in
set_option maxRecDepth 100000 in
theorem sp_Reader_takeAtom_82 (F : Nat) (hF : Big F) (t : StI) (query : StI) (span : StI) (x1 : Int32) (x2 : Int32) (x3 : Int32) (x4 : Int32) (x5 : Int32) (y0 : Int32) (h : (0 ≤ (query 1 0).toInt ∧ (query 1 0).toInt ≤ 600 ∧ 0 ≤ (query 3 0).toInt ∧ (query 3 0).toInt ≤ 40 ∧ 0 ≤ (query 13 0).toInt ∧ (query 13 0).toInt ≤ 229) ∧ 0 ≤ x5.toInt ∧ x5.toInt ≤ 1000 ∧ -1 ≤ y0.toInt ∧ y0.toInt ≤ 1000) : Sf (Reader_takeAtom_82 F t query span x1 x2 x3 x4 x5 y0) (fun r => (0 ≤ (r.2.2.1 1 0).toInt ∧ (r.2.2.1 1 0).toInt ≤ 600 ∧ 0 ≤ (r.2.2.1 3 0).toInt ∧ (r.2.2.1 3 0).toInt ≤ 40 ∧ 0 ≤ (r.2.2.1 13 0).toInt ∧ (r.2.2.1 13 0).toInt ≤ 229) ∧ -1 ≤ r.1.toInt ∧ r.1.toInt ≤ 2000) := by
  rw [Reader_takeAtom_82]
  have b_x1 := ibd x1
  have b_x2 := ibd x2
  have b_x3 := ibd x3
  have b_x4 := ibd x4
  have b_x5 := ibd x5
  have b_y0 := ibd y0
  refine sf_eq rfl (ilit (-1 : Int32) (-1) rfl) (fun c1 => ?_) (fun c1 => ?_)
  · skip
    refine sf_imp (sp_Reader_takeAtom_97 F hF t query span x3 (by first | (clear c1 b_y0 b_x5 b_x4 b_x3 b_x2 b_x1; omega) | omega)) (fun r hr => ?_)
    (try dsimp only at hr)
    (try dsimp only)
    omega
  · skip
    refine sf_eq rfl rfl (fun c2 => ?_) (fun c2 => ?_)
    · skip
      refine sf_imp (sp_Reader_takeAtom_97 F hF t query span x3 (by first | (clear c2 c1 b_y0 b_x5 b_x4 b_x3 b_x2 b_x1; omega) | omega)) (fun r hr => ?_)
      (try dsimp only at hr)
      (try dsimp only)
      omega
    · skip
      refine sf_bind (sp_Reader_fieldHas F hF t query span x1 x4 x5 y0 (by first | (clear b_x4 b_x3 b_x2 b_x1; omega) | omega)) (fun r26 h_r26 => ?_)
      (try dsimp only at h_r26)
      refine sf_eq rfl (ilit (0 : Int32) (0) rfl) (fun c3 => ?_) (fun c3 => ?_)
      · skip
        refine sf_bind (sp_Reader_fail F hF t (4 : Int32) x3 (trivial)) (fun r35 h_r35 => ?_)
        (try dsimp only at h_r35)
        refine sf_some ?_
        (try dsimp only)
        omega
      · skip
        refine sf_bind (sp_Query_isFull F hF query (trivial)) (fun r28 h_r28 => ?_)
        refine sf_eq rfl (ilit (0 : Int32) (0) rfl) (fun c4 => ?_) (fun c4 => ?_)
        · skip
          refine sf_bind (sp_Reader_beginOperand F hF t query (by first | (clear c4 h_r28 c3 h_r26 c2 c1 b_y0 b_x5 b_x4 b_x3 b_x2 b_x1; omega) | omega)) (fun r30 h_r30 => ?_)
          (try dsimp only at h_r30)
          refine sf_bind (sp_Query_take F hF r30.2 r26.2 x1 x4 x5 y0 (by first | (clear c4 h_r28 c3 h_r26 c2 c1 b_y0 b_x5 b_x4 b_x3 b_x2 b_x1; omega) | omega)) (fun r31 h_r31 => ?_)
          refine sf_up (fun t_32 ht_t_32 hn_t_32 => ?_)
          refine sf_eq rfl (ilit (0 : Int32) (0) rfl) (fun c5 => ?_) (fun c5 => ?_)
          · skip
            refine sf_some ?_
            (try dsimp only)
            omega
          · skip
            have g6 : ((y0 + (1 : Int32))).toInt = _ := (iadd rfl (ilit (1 : Int32) (1) rfl))
            refine sf_some ?_
            (try dsimp only)
            omega
        · skip
          refine sf_bind (sp_Reader_fail F hF t (5 : Int32) x2 (trivial)) (fun r34 h_r34 => ?_)
          (try dsimp only at h_r34)
          refine sf_some ?_
          (try dsimp only)
          omega
set_option maxHeartbeats 4000000 in
set_option maxRecDepth 100000 in
theorem sp_Reader_takeAtom_48 (F : Nat) (hF : Big F) (t : StI) (query : StI) (span : StI) (x1 : Int32) (x2 : Int32) (x3 : Int32) (x4 : Int32) (y0 : Int32) (h : (0 ≤ (query 1 0).toInt ∧ (query 1 0).toInt ≤ 600 ∧ 0 ≤ (query 3 0).toInt ∧ (query 3 0).toInt ≤ 40 ∧ 0 ≤ (query 13 0).toInt ∧ (query 13 0).toInt ≤ 229) ∧ 0 ≤ y0.toInt ∧ y0.toInt ≤ 1000) : Sf (Reader_takeAtom_48 F t query span x1 x2 x3 x4 y0) (fun r => (0 ≤ (r.2.2.1 1 0).toInt ∧ (r.2.2.1 1 0).toInt ≤ 600 ∧ 0 ≤ (r.2.2.1 3 0).toInt ∧ (r.2.2.1 3 0).toInt ≤ 40 ∧ 0 ≤ (r.2.2.1 13 0).toInt ∧ (r.2.2.1 13 0).toInt ≤ 229) ∧ -1 ≤ r.1.toInt ∧ r.1.toInt ≤ 2000) := by
  rw [Reader_takeAtom_48]
  have b_x1 := ibd x1
  have b_x2 := ibd x2
  have b_x3 := ibd x3
  have b_x4 := ibd x4
  have b_y0 := ibd y0
  refine sf_eq rfl (ilit (0 : Int32) (0) rfl) (fun c1 => ?_) (fun c1 => ?_)
  · skip
    refine sf_bind (sp_Reader_pastTextBytes F hF t query y0 (by first | (clear c1 b_y0 b_x4 b_x3 b_x2 b_x1; omega) | omega)) (fun r37 h_r37 => ?_)
    refine sf_imp (sp_Reader_takeAtom_82 F hF t query span x1 x2 x3 x4 y0 r37 (by first | (clear c1 b_x4 b_x3 b_x2 b_x1; omega) | omega)) (fun r hr => ?_)
    (try dsimp only at hr)
    (try dsimp only)
    omega
  · skip
    have g2 := (ilit (34 : Int32) (34) rfl)
    refine sf_bind (sp_Query_find F hF query (34 : Int32) y0 (query 1 0) (by first | (clear c1 b_y0 b_x4 b_x3 b_x2 b_x1; omega) | omega)) (fun r38 h_r38 => ?_)
    refine sf_imp (sp_Reader_takeAtom_82 F hF t query span x1 x2 x3 x4 y0 r38 (by first | (clear c1 b_x4 b_x3 b_x2 b_x1; omega) | omega)) (fun r hr => ?_)
    (try dsimp only at hr)
    (try dsimp only)
    omega
set_option maxHeartbeats 4000000 in
set_option maxRecDepth 100000 in
theorem sp_Reader_takeAtom_34 (F : Nat) (hF : Big F) (t : StI) (query : StI) (span : StI) (x1 : Int32) (x2 : Int32) (x3 : Int32) (y0 : Int32) (h : (0 ≤ (query 1 0).toInt ∧ (query 1 0).toInt ≤ 600 ∧ 0 ≤ (query 3 0).toInt ∧ (query 3 0).toInt ≤ 40 ∧ 0 ≤ (query 13 0).toInt ∧ (query 13 0).toInt ≤ 229) ∧ 0 ≤ x3.toInt ∧ x3.toInt ≤ 900) : Sf (Reader_takeAtom_34 F t query span x1 x2 x3 y0) (fun r => (0 ≤ (r.2.2.1 1 0).toInt ∧ (r.2.2.1 1 0).toInt ≤ 600 ∧ 0 ≤ (r.2.2.1 3 0).toInt ∧ (r.2.2.1 3 0).toInt ≤ 40 ∧ 0 ≤ (r.2.2.1 13 0).toInt ∧ (r.2.2.1 13 0).toInt ≤ 229) ∧ -1 ≤ r.1.toInt ∧ r.1.toInt ≤ 2000) := by
  rw [Reader_takeAtom_34]
  have b_x1 := ibd x1
  have b_x2 := ibd x2
  have b_x3 := ibd x3
  have b_y0 := ibd y0
  refine sf_eq rfl (ilit (0 : Int32) (0) rfl) (fun c1 => ?_) (fun c1 => ?_)
  · skip
    refine sf_imp (sp_Reader_takeAtom_48 F hF t query span x1 x2 x3 y0 x3 (by first | (clear c1 b_y0 b_x2 b_x1; omega) | omega)) (fun r hr => ?_)
    (try dsimp only at hr)
    (try dsimp only)
    omega
  · skip
    have g2 : ((x3 + (1 : Int32))).toInt = _ := (iadd rfl (ilit (1 : Int32) (1) rfl))
    refine sf_imp (sp_Reader_takeAtom_48 F hF t query span x1 x2 x3 y0 (x3 + (1 : Int32)) (by first | (clear c1 b_y0 b_x2 b_x1; omega) | omega)) (fun r hr => ?_)
    (try dsimp only at hr)
    (try dsimp only)
    omega
set_option maxHeartbeats 4000000 in
set_option maxRecDepth 100000 in
theorem sp_Reader_takeAtom_16 (F : Nat) (hF : Big F) (t : StI) (query : StI) (span : StI) (x1 : Int32) (x2 : Int32) (x3 : Int32) (h : (0 ≤ (query 1 0).toInt ∧ (query 1 0).toInt ≤ 600 ∧ 0 ≤ (query 3 0).toInt ∧ (query 3 0).toInt ≤ 40 ∧ 0 ≤ (query 13 0).toInt ∧ (query 13 0).toInt ≤ 229) ∧ 0 ≤ x3.toInt ∧ x3.toInt ≤ 900) : Sf (Reader_takeAtom_16 F t query span x1 x2 x3) (fun r => (0 ≤ (r.2.2.1 1 0).toInt ∧ (r.2.2.1 1 0).toInt ≤ 600 ∧ 0 ≤ (r.2.2.1 3 0).toInt ∧ (r.2.2.1 3 0).toInt ≤ 40 ∧ 0 ≤ (r.2.2.1 13 0).toInt ∧ (r.2.2.1 13 0).toInt ≤ 229) ∧ -1 ≤ r.1.toInt ∧ r.1.toInt ≤ 2000) := by
  rw [Reader_takeAtom_16]
  have b_x1 := ibd x1
  have b_x2 := ibd x2
  have b_x3 := ibd x3
  refine sf_bind (sp_Query_byteAt F hF query x3 (by first | (clear b_x3 b_x2 b_x1; omega) | omega)) (fun r40 h_r40 => ?_)
  refine sf_eq rfl (ilit (34 : Int32) (34) rfl) (fun c1 => ?_) (fun c1 => ?_)
  · skip
    have g2 := (ilit (1 : Int32) (1) rfl)
    refine sf_imp (sp_Reader_takeAtom_34 F hF t query span x1 x2 x3 (1 : Int32) (by first | (clear c1 h_r40 b_x2 b_x1; omega) | omega)) (fun r hr => ?_)
    (try dsimp only at hr)
    (try dsimp only)
    omega
  · skip
    have g3 := (ilit (0 : Int32) (0) rfl)
    refine sf_imp (sp_Reader_takeAtom_34 F hF t query span x1 x2 x3 (0 : Int32) (by first | (clear c1 h_r40 b_x2 b_x1; omega) | omega)) (fun r hr => ?_)
    (try dsimp only at hr)
    (try dsimp only)
    omega
set_option maxHeartbeats 4000000 in
set_option maxRecDepth 100000 in
theorem sp_Reader_takeAtom (F : Nat) (hF : Big F) (t : StI) (query : StI) (span : StI) (x1 : Int32) (x2 : Int32) (x3 : Int32) (h : (0 ≤ (query 1 0).toInt ∧ (query 1 0).toInt ≤ 600 ∧ 0 ≤ (query 3 0).toInt ∧ (query 3 0).toInt ≤ 40 ∧ 0 ≤ (query 13 0).toInt ∧ (query 13 0).toInt ≤ 229) ∧ 0 ≤ x3.toInt ∧ x3.toInt ≤ 900) : Sf (Reader_takeAtom F t query span x1 x2 x3) (fun r => (0 ≤ (r.2.2.1 1 0).toInt ∧ (r.2.2.1 1 0).toInt ≤ 600 ∧ 0 ≤ (r.2.2.1 3 0).toInt ∧ (r.2.2.1 3 0).toInt ≤ 40 ∧ 0 ≤ (r.2.2.1 13 0).toInt ∧ (r.2.2.1 13 0).toInt ≤ 229) ∧ -1 ≤ r.1.toInt ∧ r.1.toInt ≤ 2000) := by
  rw [Reader_takeAtom]
  have b_x1 := ibd x1
  have b_x2 := ibd x2
  have b_x3 := ibd x3
  refine sf_eq rfl (ilit (0 : Int32) (0) rfl) (fun c1 => ?_) (fun c1 => ?_)
  · skip
    refine sf_imp (sp_Reader_takeAtom_16 F hF t query span x1 x2 x3 (by first | (clear c1 b_x2 b_x1; omega) | omega)) (fun r hr => ?_)
    (try dsimp only at hr)
    (try dsimp only)
    omega
  · skip
    refine sf_bind (sp_Reader_isBegun F hF t query x1 x2 x3 (by first | (clear c1 b_x3 b_x2 b_x1; omega) | omega)) (fun r43 h_r43 => ?_)
    (try dsimp only at h_r43)
    refine sf_eq rfl (ilit (0 : Int32) (0) rfl) (fun c2 => ?_) (fun c2 => ?_)
    · skip
      have g3 := (ilit (-1 : Int32) (-1) rfl)
      refine sf_some ?_
      (try dsimp only)
      omega
    · skip
      refine sf_imp (sp_Reader_takeAtom_16 F hF r43.2 query span x1 x2 x3 (by first | (clear c2 h_r43 c1 b_x2 b_x1; omega) | omega)) (fun r hr => ?_)
      (try dsimp only at hr)
      (try dsimp only)
      omega
set_option maxHeartbeats 4000000 in
set_option maxRecDepth 100000 in
theorem sp_Reader_takeSign (F : Nat) (hF : Big F) (t : StI) (query : StI) (x1 : Int32) (x2 : Int32) (x3 : Int32) (h : (0 ≤ (query 1 0).toInt ∧ (query 1 0).toInt ≤ 600 ∧ 0 ≤ (query 3 0).toInt ∧ (query 3 0).toInt ≤ 40 ∧ 0 ≤ (query 13 0).toInt ∧ (query 13 0).toInt ≤ 229) ∧ -1 ≤ x3.toInt ∧ x3.toInt ≤ 2000) : Sf (Reader_takeSign F t query x1 x2 x3) (fun r => (0 ≤ (r.2.2 1 0).toInt ∧ (r.2.2 1 0).toInt ≤ 600 ∧ 0 ≤ (r.2.2 3 0).toInt ∧ (r.2.2 3 0).toInt ≤ 40 ∧ 0 ≤ (r.2.2 13 0).toInt ∧ (r.2.2 13 0).toInt ≤ 229) ∧ -1 ≤ r.1.toInt ∧ r.1.toInt ≤ 2000) := by
  rw [Reader_takeSign]
  have b_x1 := ibd x1
  have b_x2 := ibd x2
  have b_x3 := ibd x3
  refine sf_eq rfl (ilit (-2 : Int32) (-2) rfl) (fun c1 => ?_) (fun c1 => ?_)
  · skip
    refine sf_bind (sp_Reader_beginOperand F hF t query (by first | (clear c1 b_x3 b_x2 b_x1; omega) | omega)) (fun r11 h_r11 => ?_)
    (try dsimp only at h_r11)
    have g2 := (ilit (-2 : Int32) (-2) rfl)
    refine sf_bind (sp_Query_append F hF r11.2 (-2 : Int32) (by first | (clear c1 b_x3 b_x2 b_x1; omega) | omega)) (fun r12 h_r12 => ?_)
    refine sf_some ?_
    (try dsimp only)
    omega
  · skip
    refine sf_eq rfl (ilit (0 : Int32) (0) rfl) (fun c3 => ?_) (fun c3 => ?_)
    · skip
      refine sf_bind (sp_Reader_joinBy F hF t query x1 (by first | (clear c3 c1 b_x3 b_x2 b_x1; omega) | omega)) (fun r9 h_r9 => ?_)
      (try dsimp only at h_r9)
      refine sf_some ?_
      (try dsimp only)
      omega
    · skip
      refine sf_bind (sp_Reader_fail F hF t (1 : Int32) x2 (trivial)) (fun r10 h_r10 => ?_)
      (try dsimp only at h_r10)
      refine sf_some ?_
      (try dsimp only)
      omega
set_option maxHeartbeats 4000000 in
set_option maxRecDepth 100000 in
theorem sp_Reader_takeClosing_14 (F : Nat) (hF : Big F) (t : StI) (x1 : Int32) (h : True) : Sf (Reader_takeClosing_14 F t x1) (fun r => -1 ≤ r.1.toInt ∧ r.1.toInt ≤ 2000) := by
  rw [Reader_takeClosing_14]
  have b_x1 := ibd x1
  refine sf_bind (sp_Reader_fail F hF t (1 : Int32) x1 (trivial)) (fun r5 h_r5 => ?_)
  (try dsimp only at h_r5)
  refine sf_some ?_
  (try dsimp only)
  omega
set_option maxHeartbeats 4000000 in
set_option maxRecDepth 100000 in
theorem sp_Reader_takeClosing (F : Nat) (hF : Big F) (t : StI) (x1 : Int32) (h : 0 ≤ x1.toInt ∧ x1.toInt ≤ 600) : Sf (Reader_takeClosing F t x1) (fun r => -1 ≤ r.1.toInt ∧ r.1.toInt ≤ 2000) := by
  rw [Reader_takeClosing]
  have b_x1 := ibd x1
  refine sf_eq rfl (ilit (0 : Int32) (0) rfl) (fun c1 => ?_) (fun c1 => ?_)
  · skip
    refine sf_lt (ilit (0 : Int32) (0) rfl) rfl (fun c2 => ?_) (fun c2 => ?_)
    · skip
      refine sf_up (fun t_8 ht_t_8 hn_t_8 => ?_)
      have g3 : ((x1 + (1 : Int32))).toInt = _ := (iadd rfl (ilit (1 : Int32) (1) rfl))
      refine sf_some ?_
      (try dsimp only)
      omega
    · skip
      refine sf_imp (sp_Reader_takeClosing_14 F hF t x1 (trivial)) (fun r hr => ?_)
      (try dsimp only at hr)
      (try dsimp only)
      omega
  · skip
    refine sf_imp (sp_Reader_takeClosing_14 F hF t x1 (trivial)) (fun r hr => ?_)
    (try dsimp only at hr)
    (try dsimp only)
    omega
set_option maxHeartbeats 4000000 in
set_option maxRecDepth 100000 in
theorem sp_Reader_takeOpening (F : Nat) (hF : Big F) (t : StI) (query : StI) (x1 : Int32) (h : (0 ≤ (query 1 0).toInt ∧ (query 1 0).toInt ≤ 600 ∧ 0 ≤ (query 3 0).toInt ∧ (query 3 0).toInt ≤ 40 ∧ 0 ≤ (query 13 0).toInt ∧ (query 13 0).toInt ≤ 229) ∧ 0 ≤ x1.toInt ∧ x1.toInt ≤ 600) : Sf (Reader_takeOpening F t query x1) (fun r => (0 ≤ (r.2.2 1 0).toInt ∧ (r.2.2 1 0).toInt ≤ 600 ∧ 0 ≤ (r.2.2 3 0).toInt ∧ (r.2.2 3 0).toInt ≤ 40 ∧ 0 ≤ (r.2.2 13 0).toInt ∧ (r.2.2 13 0).toInt ≤ 229) ∧ -1 ≤ r.1.toInt ∧ r.1.toInt ≤ 2000) := by
  rw [Reader_takeOpening]
  have b_x1 := ibd x1
  refine sf_lt rfl (ilit (20 : Int32) (20) rfl) (fun c1 => ?_) (fun c1 => ?_)
  · skip
    refine sf_bind (sp_Reader_beginOperand F hF t query (by first | (clear c1 b_x1; omega) | omega)) (fun r7 h_r7 => ?_)
    (try dsimp only at h_r7)
    refine sf_up (fun t_8 ht_t_8 hn_t_8 => ?_)
    refine sf_bind (sp_Reader_beginAny F hF t_8 r7.2 (trivial)) (fun r9 h_r9 => ?_)
    have g2 : ((x1 + (1 : Int32))).toInt = _ := (iadd rfl (ilit (1 : Int32) (1) rfl))
    refine sf_some ?_
    (try dsimp only)
    omega
  · skip
    refine sf_bind (sp_Reader_fail F hF t (5 : Int32) x1 (trivial)) (fun r10 h_r10 => ?_)
    (try dsimp only at h_r10)
    refine sf_some ?_
    (try dsimp only)
    omega
set_option maxHeartbeats 4000000 in
set_option maxRecDepth 100000 in
theorem sp_Reader_takeWord_92 (F : Nat) (hF : Big F) (t : StI) (query : StI) (span : StI) (x1 : Int32) (h : (0 ≤ (query 1 0).toInt ∧ (query 1 0).toInt ≤ 600 ∧ 0 ≤ (query 3 0).toInt ∧ (query 3 0).toInt ≤ 40 ∧ 0 ≤ (query 13 0).toInt ∧ (query 13 0).toInt ≤ 229) ∧ 0 ≤ x1.toInt ∧ x1.toInt ≤ 600) : Sf (Reader_takeWord_92 F t query span x1) (fun r => (0 ≤ (r.2.2.1 1 0).toInt ∧ (r.2.2.1 1 0).toInt ≤ 600 ∧ 0 ≤ (r.2.2.1 3 0).toInt ∧ (r.2.2.1 3 0).toInt ≤ 40 ∧ 0 ≤ (r.2.2.1 13 0).toInt ∧ (r.2.2.1 13 0).toInt ≤ 229) ∧ -1 ≤ r.1.toInt ∧ r.1.toInt ≤ 2000) := by
  rw [Reader_takeWord_92]
  have b_x1 := ibd x1
  refine sf_bind (sp_Reader_pastTextBytes F hF t query x1 (by first | (clear b_x1; omega) | omega)) (fun r21 h_r21 => ?_)
  refine sf_bind (sp_Reader_signOf F hF t query x1 r21 (by first | (clear h_r21 b_x1; omega) | omega)) (fun r22 h_r22 => ?_)
  refine sf_eq rfl (ilit (-1 : Int32) (-1) rfl) (fun c1 => ?_) (fun c1 => ?_)
  · skip
    have g2 := (ilit (0 : Int32) (0) rfl)
    refine sf_bind (sp_Reader_takeAtom F hF t query span (0 : Int32) x1 x1 (by first | (clear c1 h_r22; omega) | omega)) (fun r25 h_r25 => ?_)
    (try dsimp only at h_r25)
    refine sf_some ?_
    (try dsimp only)
    omega
  · skip
    refine sf_bind (sp_Reader_takeSign F hF t query r22 x1 r21 (by first | (clear c1 h_r22; omega) | omega)) (fun r24 h_r24 => ?_)
    (try dsimp only at h_r24)
    refine sf_some ?_
    (try dsimp only)
    omega
set_option maxHeartbeats 4000000 in
set_option maxRecDepth 100000 in
theorem sp_Reader_takeWord_53 (F : Nat) (hF : Big F) (t : StI) (query : StI) (span : StI) (x1 : Int32) (h : (0 ≤ (query 1 0).toInt ∧ (query 1 0).toInt ≤ 600 ∧ 0 ≤ (query 3 0).toInt ∧ (query 3 0).toInt ≤ 40 ∧ 0 ≤ (query 13 0).toInt ∧ (query 13 0).toInt ≤ 229) ∧ 0 ≤ x1.toInt ∧ x1.toInt ≤ 600) : Sf (Reader_takeWord_53 F t query span x1) (fun r => (0 ≤ (r.2.2.1 1 0).toInt ∧ (r.2.2.1 1 0).toInt ≤ 600 ∧ 0 ≤ (r.2.2.1 3 0).toInt ∧ (r.2.2.1 3 0).toInt ≤ 40 ∧ 0 ≤ (r.2.2.1 13 0).toInt ∧ (r.2.2.1 13 0).toInt ≤ 229) ∧ -1 ≤ r.1.toInt ∧ r.1.toInt ≤ 2000) := by
  rw [Reader_takeWord_53]
  have b_x1 := ibd x1
  refine sf_bind (sp_Reader_pastLetters F hF t query x1 (by first | (clear b_x1; omega) | omega)) (fun r26 h_r26 => ?_)
  refine sf_le rfl rfl (fun c1 => ?_) (fun c1 => ?_)
  · skip
    refine sf_imp (sp_Reader_takeWord_92 F hF t query span x1 (by omega)) (fun r hr => ?_)
    (try dsimp only at hr)
    (try dsimp only)
    omega
  · skip
    refine sf_bind (sp_Query_byteAt F hF query r26 (by first | (clear c1 h_r26 b_x1; omega) | omega)) (fun r28 h_r28 => ?_)
    refine sf_eq rfl (ilit (58 : Int32) (58) rfl) (fun c2 => ?_) (fun c2 => ?_)
    · skip
      refine sf_bind (sp_Reader_fieldOf F hF t query x1 r26 (by first | (clear c2 h_r28 c1 h_r26 b_x1; omega) | omega)) (fun r30 h_r30 => ?_)
      have g3 : ((r26 + (1 : Int32))).toInt = _ := (iadd rfl (ilit (1 : Int32) (1) rfl))
      refine sf_bind (sp_Reader_takeAtom F hF t query span r30 x1 (r26 + (1 : Int32)) (by first | (clear h_r30 c2 h_r28; omega) | omega)) (fun r31 h_r31 => ?_)
      (try dsimp only at h_r31)
      refine sf_some ?_
      (try dsimp only)
      omega
    · skip
      refine sf_imp (sp_Reader_takeWord_92 F hF t query span x1 (by first | (clear c2 h_r28; omega) | omega)) (fun r hr => ?_)
      (try dsimp only at hr)
      (try dsimp only)
      omega
set_option maxHeartbeats 4000000 in
set_option maxRecDepth 100000 in
theorem sp_Reader_takeWord (F : Nat) (hF : Big F) (t : StI) (query : StI) (span : StI) (x1 : Int32) (h : (0 ≤ (query 1 0).toInt ∧ (query 1 0).toInt ≤ 600 ∧ 0 ≤ (query 3 0).toInt ∧ (query 3 0).toInt ≤ 40 ∧ 0 ≤ (query 13 0).toInt ∧ (query 13 0).toInt ≤ 229) ∧ 0 ≤ x1.toInt ∧ x1.toInt ≤ 600) : Sf (Reader_takeWord F t query span x1) (fun r => (0 ≤ (r.2.2.1 1 0).toInt ∧ (r.2.2.1 1 0).toInt ≤ 600 ∧ 0 ≤ (r.2.2.1 3 0).toInt ∧ (r.2.2.1 3 0).toInt ≤ 40 ∧ 0 ≤ (r.2.2.1 13 0).toInt ∧ (r.2.2.1 13 0).toInt ≤ 229) ∧ -1 ≤ r.1.toInt ∧ r.1.toInt ≤ 2000) := by
  rw [Reader_takeWord]
  have b_x1 := ibd x1
  refine sf_bind (sp_Query_byteAt F hF query x1 (by first | (clear b_x1; omega) | omega)) (fun r32 h_r32 => ?_)
  refine sf_eq rfl (ilit (40 : Int32) (40) rfl) (fun c1 => ?_) (fun c1 => ?_)
  · skip
    refine sf_bind (sp_Reader_takeOpening F hF t query x1 (by first | (clear c1 h_r32; omega) | omega)) (fun r40 h_r40 => ?_)
    (try dsimp only at h_r40)
    refine sf_some ?_
    (try dsimp only)
    omega
  · skip
    refine sf_eq rfl (ilit (41 : Int32) (41) rfl) (fun c2 => ?_) (fun c2 => ?_)
    · skip
      refine sf_bind (sp_Reader_takeClosing F hF t x1 (by first | (clear c2 c1 h_r32; omega) | omega)) (fun r39 h_r39 => ?_)
      (try dsimp only at h_r39)
      refine sf_some ?_
      (try dsimp only)
      omega
    · skip
      refine sf_eq rfl (ilit (34 : Int32) (34) rfl) (fun c3 => ?_) (fun c3 => ?_)
      · skip
        refine sf_imp (sp_Reader_takeWord_53 F hF t query span x1 (by first | (clear c3 c2 c1 h_r32; omega) | omega)) (fun r hr => ?_)
        (try dsimp only at hr)
        (try dsimp only)
        omega
      · skip
        refine sf_bind (sp_MQ_isTextByte F hF r32 (trivial)) (fun r36 h_r36 => ?_)
        refine sf_eq rfl (ilit (0 : Int32) (0) rfl) (fun c4 => ?_) (fun c4 => ?_)
        · skip
          refine sf_bind (sp_Reader_fail F hF t (2 : Int32) x1 (trivial)) (fun r38 h_r38 => ?_)
          (try dsimp only at h_r38)
          refine sf_some ?_
          (try dsimp only)
          omega
        · skip
          refine sf_imp (sp_Reader_takeWord_53 F hF t query span x1 (by first | (clear c4 h_r36 c3 c2 c1 h_r32; omega) | omega)) (fun r hr => ?_)
          (try dsimp only at hr)
          (try dsimp only)
          omega
set_option maxHeartbeats 4000000 in
set_option maxRecDepth 100000 in
theorem sp_Reader_takesIn_134 (F : Nat) (hF : Big F) (t : StI) (p1N : Nat) (p1 : StI) (query : StI) (span : StI) (x3 : Int32) (h : (0 ≤ (query 1 0).toInt ∧ (query 1 0).toInt ≤ 600 ∧ 0 ≤ (query 3 0).toInt ∧ (query 3 0).toInt ≤ 40 ∧ 0 ≤ (query 13 0).toInt ∧ (query 13 0).toInt ≤ 229)) : Sf (Reader_takesIn_134 F t p1N p1 query span x3) (fun r => (r.1.toInt = 0 ∨ r.1.toInt = 1) ∧ (0 ≤ (r.2.2.1 1 0).toInt ∧ (r.2.2.1 1 0).toInt ≤ 600 ∧ 0 ≤ (r.2.2.1 3 0).toInt ∧ (r.2.2.1 3 0).toInt ≤ 40 ∧ 0 ≤ (r.2.2.1 13 0).toInt ∧ (r.2.2.1 13 0).toInt ≤ 229)) := by
  rw [Reader_takesIn_134]
  have b_x3 := ibd x3
  refine sf_eq rfl (ilit (-1 : Int32) (-1) rfl) (fun c1 => ?_) (fun c1 => ?_)
  · skip
    have g2 := (ilit (0 : Int32) (0) rfl)
    refine sf_some ?_
    (try dsimp only)
    omega
  · skip
    have g3 := (ilit (1 : Int32) (1) rfl)
    refine sf_some ?_
    (try dsimp only)
    omega
set_option maxHeartbeats 4000000 in
set_option maxRecDepth 100000 in
theorem sp_Reader_takesIn_121 (F : Nat) (hF : Big F) (t : StI) (p1N : Nat) (p1 : StI) (query : StI) (span : StI) (h : (0 ≤ (query 1 0).toInt ∧ (query 1 0).toInt ≤ 600 ∧ 0 ≤ (query 3 0).toInt ∧ (query 3 0).toInt ≤ 40 ∧ 0 ≤ (query 13 0).toInt ∧ (query 13 0).toInt ≤ 229)) : Sf (Reader_takesIn_121 F t p1N p1 query span) (fun r => (r.1.toInt = 0 ∨ r.1.toInt = 1) ∧ (0 ≤ (r.2.2.1 1 0).toInt ∧ (r.2.2.1 1 0).toInt ≤ 600 ∧ 0 ≤ (r.2.2.1 3 0).toInt ∧ (r.2.2.1 3 0).toInt ≤ 40 ∧ 0 ≤ (r.2.2.1 13 0).toInt ∧ (r.2.2.1 13 0).toInt ≤ 229)) := by
  rw [Reader_takesIn_121]
  refine sf_bind (sp_Reader_fail F hF t (1 : Int32) (query 1 0) (trivial)) (fun r21 h_r21 => ?_)
  (try dsimp only at h_r21)
  refine sf_imp (sp_Reader_takesIn_134 F hF r21.2 p1N p1 query span r21.1 (by first | (clear h_r21; omega) | omega)) (fun r hr => ?_)
  (try dsimp only at hr)
  (try dsimp only)
  omega
set_option maxHeartbeats 4000000 in
set_option maxRecDepth 100000 in
theorem sp_Reader_takesIn_102 (F : Nat) (hF : Big F) (t : StI) (p1N : Nat) (p1 : StI) (query : StI) (span : StI) (x3 : Int32) (h : (0 ≤ (query 1 0).toInt ∧ (query 1 0).toInt ≤ 600 ∧ 0 ≤ (query 3 0).toInt ∧ (query 3 0).toInt ≤ 40 ∧ 0 ≤ (query 13 0).toInt ∧ (query 13 0).toInt ≤ 229)) : Sf (Reader_takesIn_102 F t p1N p1 query span x3) (fun r => (r.1.toInt = 0 ∨ r.1.toInt = 1) ∧ (0 ≤ (r.2.2.1 1 0).toInt ∧ (r.2.2.1 1 0).toInt ≤ 600 ∧ 0 ≤ (r.2.2.1 3 0).toInt ∧ (r.2.2.1 3 0).toInt ≤ 40 ∧ 0 ≤ (r.2.2.1 13 0).toInt ∧ (r.2.2.1 13 0).toInt ≤ 229)) := by
  rw [Reader_takesIn_102]
  have b_x3 := ibd x3
  refine sf_eq rfl (ilit (-1 : Int32) (-1) rfl) (fun c1 => ?_) (fun c1 => ?_)
  · skip
    refine sf_imp (sp_Reader_takesIn_134 F hF t p1N p1 query span x3 (by first | (clear c1 b_x3; omega) | omega)) (fun r hr => ?_)
    (try dsimp only at hr)
    (try dsimp only)
    omega
  · skip
    refine sf_eq rfl (ilit (0 : Int32) (0) rfl) (fun c2 => ?_) (fun c2 => ?_)
    · skip
      refine sf_le rfl (ilit (0 : Int32) (0) rfl) (fun c3 => ?_) (fun c3 => ?_)
      · skip
        refine sf_imp (sp_Reader_takesIn_134 F hF t p1N p1 query span x3 (by first | (clear c3 c2 c1 b_x3; omega) | omega)) (fun r hr => ?_)
        (try dsimp only at hr)
        (try dsimp only)
        omega
      · skip
        refine sf_imp (sp_Reader_takesIn_121 F hF t p1N p1 query span (by first | (clear c3 c2 c1 b_x3; omega) | omega)) (fun r hr => ?_)
        (try dsimp only at hr)
        (try dsimp only)
        omega
    · skip
      refine sf_imp (sp_Reader_takesIn_121 F hF t p1N p1 query span (by first | (clear c2 c1 b_x3; omega) | omega)) (fun r hr => ?_)
      (try dsimp only at hr)
      (try dsimp only)
      omega
set_option maxHeartbeats 4000000 in
set_option maxRecDepth 100000 in
theorem sp_Reader_takesIn_55 (F : Nat) (hF : Big F)   : ∀ (n : Nat) (t : StI) (p1N : Nat) (p1 : StI) (query : StI) (span : StI) (x3 : Int32) (x4 : Int32) (h : ((0 ≤ (query 1 0).toInt ∧ (query 1 0).toInt ≤ 600 ∧ 0 ≤ (query 3 0).toInt ∧ (query 3 0).toInt ≤ 40 ∧ 0 ≤ (query 13 0).toInt ∧ (query 13 0).toInt ≤ 229) ∧ 0 ≤ x4.toInt ∧ -1 ≤ x3.toInt) ∧ 600 - x4.toInt < (n : Int) ∧ 1 ≤ n), Sf (Reader_takesIn_55 F  n t p1N p1 query span x3 x4) (fun r => (r.1.toInt = 0 ∨ r.1.toInt = 1) ∧ (0 ≤ (r.2.2.1 1 0).toInt ∧ (r.2.2.1 1 0).toInt ≤ 600 ∧ 0 ≤ (r.2.2.1 3 0).toInt ∧ (r.2.2.1 3 0).toInt ≤ 40 ∧ 0 ≤ (r.2.2.1 13 0).toInt ∧ (r.2.2.1 13 0).toInt ≤ 229)) := by
  intro n; induction n with
  | zero => intro t p1N p1 query span x3 x4 h; omega
  | succ n ih =>
    intro t p1N p1 query span x3 x4 h; rw [Reader_takesIn_55]
    have b_x3 := ibd x3
    have b_x4 := ibd x4
    refine sf_le (ilit (600 : Int32) (600) rfl) rfl (fun c1 => ?_) (fun c1 => ?_)
    · skip
      refine sf_imp (sp_Reader_takesIn_102 F hF t p1N p1 query span x3 (by first | (clear c1 b_x4 b_x3; omega) | omega)) (fun r hr => ?_)
      (try dsimp only at hr)
      (try dsimp only)
      omega
    · skip
      refine sf_eq rfl (ilit (-1 : Int32) (-1) rfl) (fun c2 => ?_) (fun c2 => ?_)
      · skip
        refine sf_imp (sp_Reader_takesIn_102 F hF t p1N p1 query span x3 (by first | (clear c2 c1 b_x4 b_x3; omega) | omega)) (fun r hr => ?_)
        (try dsimp only at hr)
        (try dsimp only)
        omega
      · skip
        refine sf_le rfl rfl (fun c3 => ?_) (fun c3 => ?_)
        · skip
          refine sf_imp (sp_Reader_takesIn_102 F hF t p1N p1 query span x3 (by first | (clear c1 b_x4; omega) | omega)) (fun r hr => ?_)
          (try dsimp only at hr)
          (try dsimp only)
          omega
        · skip
          refine sf_bind (sp_Reader_takeWord F hF t query span x3 (by first | (clear c1 b_x4; omega) | omega)) (fun r28 h_r28 => ?_)
          (try dsimp only at h_r28)
          refine sf_eq rfl (ilit (-1 : Int32) (-1) rfl) (fun c4 => ?_) (fun c4 => ?_)
          · skip
            rw [Reader_takesIn_96]
            have g5 : ((x4 + (1 : Int32))).toInt = _ := (iadd rfl (ilit (1 : Int32) (1) rfl))
            refine sf_imp (ih r28.2.1 p1N p1 r28.2.2.1 r28.2.2.2 r28.1 (x4 + (1 : Int32)) (by first | (clear c3 c2 b_x3; omega) | omega)) (fun r hr => ?_)
            (try dsimp only at hr)
            (try dsimp only)
            omega
          · skip
            refine sf_bind (sp_Reader_pastSpaces F hF r28.2.1 r28.2.2.1 r28.1 (by first | (clear c3 c2 c1 b_x4 b_x3; omega) | omega)) (fun r30 h_r30 => ?_)
            rw [Reader_takesIn_96]
            have g6 : ((x4 + (1 : Int32))).toInt = _ := (iadd rfl (ilit (1 : Int32) (1) rfl))
            refine sf_imp (ih r28.2.1 p1N p1 r28.2.2.1 r28.2.2.2 r30 (x4 + (1 : Int32)) (by first | (clear c3 c2 b_x3; omega) | omega)) (fun r hr => ?_)
            (try dsimp only at hr)
            (try dsimp only)
            omega
set_option maxHeartbeats 4000000 in
theorem sp_Reader_takesIn (F : Nat) (hF : Big F) (t : StI) (p1N : Nat) (p1 : StI) (query : StI) (span : StI) (x2 : Int32) (h : p1N = 600 ∧ ChOk (p1 0)) : Sf (Reader_takesIn F t p1N p1 query span x2) (fun r => (r.1.toInt = 0 ∨ r.1.toInt = 1) ∧ (0 ≤ (r.2.2.1 1 0).toInt ∧ (r.2.2.1 1 0).toInt ≤ 600 ∧ 0 ≤ (r.2.2.1 3 0).toInt ∧ (r.2.2.1 3 0).toInt ≤ 40 ∧ 0 ≤ (r.2.2.1 13 0).toInt ∧ (r.2.2.1 13 0).toInt ≤ 229)) := by
  rw [Reader_takesIn]
  refine sf_bind (sp_Query_begin F hF query p1N (fun _ => (p1 0)) x2 h) (fun q hq => ?_)
  clear h
  refine sf_up (fun t_30 ht_t_30 hn_t_30 => ?_)
  refine sf_up (fun t_31 ht_t_31 hn_t_31 => ?_)
  refine sf_up (fun t_32 ht_t_32 hn_t_32 => ?_)
  refine sf_up (fun t_33 ht_t_33 hn_t_33 => ?_)
  refine sf_bind (sp_Reader_beginAny F hF t_33 q (trivial)) (fun r34 h_r34 => ?_)
  have g1 := (ilit (0 : Int32) (0) rfl)
  refine sf_bind (sp_Reader_pastSpaces F hF r34 q (0 : Int32) (by first | (clear h_r34; omega) | omega)) (fun r35 h_r35 => ?_)
  refine sf_lt rfl rfl (fun c2 => ?_) (fun c2 => ?_)
  · refine sf_imp (sp_Reader_takesIn_55 F hF F r34 p1N p1 q span r35 (0 : Int32) (⟨by first | (clear h_r34; omega) | omega, fuel_ok hF (by first | (clear c2 h_r35 h_r34; omega) | omega)⟩)) (fun r hr => ?_)
    (try dsimp only at hr)
    (try dsimp only)
    omega
  · have g3 := (ilit (1 : Int32) (1) rfl)
    refine sf_some ?_
    (try dsimp only)
    omega
set_option maxHeartbeats 4000000 in
set_option maxRecDepth 100000 in
theorem sp_Printer_byteAt (F : Nat) (hF : Big F) (t : StI) (x1 : Int32) (h : (0 ≤ (t 1 0).toInt ∧ (t 1 0).toInt ≤ 1200)) : Sf (Printer_byteAt F t x1) (fun r => True) := by
  rw [Printer_byteAt]
  have b_x1 := ibd x1
  refine sf_lt rfl (ilit (0 : Int32) (0) rfl) (fun c1 => ?_) (fun c1 => ?_)
  · skip
    exact sf_some trivial
  · skip
    refine sf_le rfl rfl (fun c2 => ?_) (fun c2 => ?_)
    · skip
      exact sf_some trivial
    · skip
      refine sf_idx rfl (by omega) (by omega) ?_
      exact sf_some trivial
set_option maxHeartbeats 4000000 in
set_option maxRecDepth 100000 in
theorem sp_Printer_put (F : Nat) (hF : Big F) (t : StI) (x1 : Int32) (h : (0 ≤ (t 1 0).toInt ∧ (t 1 0).toInt ≤ 1200)) : Sf (Printer_put F t x1) (fun r => (0 ≤ (r 1 0).toInt ∧ (r 1 0).toInt ≤ 1200)) := by
  rw [Printer_put]
  have b_x1 := ibd x1
  refine sf_le (ilit (1200 : Int32) (1200) rfl) rfl (fun c1 => ?_) (fun c1 => ?_)
  · skip
    refine sf_some ?_
    (try dsimp only)
    omega
  · skip
    refine sf_idx rfl (by first | (clear b_x1; omega) | omega) (by first | (clear b_x1; omega) | omega) ?_
    refine sf_up (fun t_6 ht_t_6 hn_t_6 => ?_)
    refine sf_up (fun t_8 ht_t_8 hn_t_8 => ?_)
    have e2 : (t_6 1 0).toInt = (t 1 0).toInt := congrArg (fun q => Int32.toInt (q 0)) (hn_t_6 1 (by decide))
    have e3 : (t_8 1 0).toInt = _ := (congrArg (fun q => Int32.toInt (q 0)) ht_t_8).trans (iadd rfl (ilit (1 : Int32) (1) rfl))
    refine sf_some ?_
    (try dsimp only)
    omega
set_option maxHeartbeats 4000000 in
set_option maxRecDepth 100000 in
theorem sp_Printer_writeWord_20 (F : Nat) (hF : Big F)   : ∀ (n : Nat) (t : StI) (x1 : Nat) (x2 : Int32) (h : ((0 ≤ (t 1 0).toInt ∧ (t 1 0).toInt ≤ 1200) ∧ x1 < 23 ∧ 0 ≤ x2.toInt ∧ x2.toInt ≤ 20) ∧ 20 - x2.toInt < (n : Int) ∧ 1 ≤ n), Sf (Printer_writeWord_20 F  n t x1 x2) (fun r => (0 ≤ (r 1 0).toInt ∧ (r 1 0).toInt ≤ 1200)) := by
  intro n; induction n with
  | zero => intro t x1 x2 h; omega
  | succ n ih =>
    intro t x1 x2 h; rw [Printer_writeWord_20]
    have b_x2 := ibd x2
    refine sf_bind (sp_String_length F x1 (by omega)) (fun r8 h_r8 => ?_)
    refine sf_le rfl rfl (fun c1 => ?_) (fun c1 => ?_)
    · skip
      refine sf_some ?_
      (try dsimp only)
      omega
    · skip
      refine sf_bind (sp_String_charAt F x1 x2 (by omega) (by omega) (by omega)) (fun r10 h_r10 => ?_)
      refine sf_bind (sp_Printer_put F hF t r10 (by first | (clear c1 b_x2; omega) | omega)) (fun r11 h_r11 => ?_)
      have g2 : ((x2 + (1 : Int32))).toInt = _ := (iadd rfl (ilit (1 : Int32) (1) rfl))
      refine sf_imp (ih r11 x1 (x2 + (1 : Int32)) (by omega)) (fun r hr => ?_)
      (try dsimp only at hr)
      (try dsimp only)
      omega
set_option maxHeartbeats 4000000 in
set_option maxRecDepth 100000 in
theorem sp_Printer_writeWord_13 (F : Nat) (hF : Big F) (t : StI) (x1 : Nat) (h : (0 ≤ (t 1 0).toInt ∧ (t 1 0).toInt ≤ 1200) ∧ x1 < 23) : Sf (Printer_writeWord_13 F t x1) (fun r => (0 ≤ (r 1 0).toInt ∧ (r 1 0).toInt ≤ 1200)) := by
  rw [Printer_writeWord_13]
  refine sf_up (fun t_12 ht_t_12 hn_t_12 => ?_)
  have g1 := (ilit (0 : Int32) (0) rfl)
  have e2 : (t_12 1 0).toInt = (t 1 0).toInt := congrArg (fun q => Int32.toInt (q 0)) (hn_t_12 1 (by decide))
  refine sf_imp (sp_Printer_writeWord_20 F hF   F t_12 x1 (0 : Int32) (⟨by omega, fuel_ok hF (by first | (clear e2; omega) | omega)⟩)) (fun r hr => ?_)
  (try dsimp only at hr)
  (try dsimp only)
  omega
set_option maxHeartbeats 4000000 in
set_option maxRecDepth 100000 in
theorem sp_Printer_writeWord (F : Nat) (hF : Big F) (t : StI) (x1 : Nat) (h : (0 ≤ (t 1 0).toInt ∧ (t 1 0).toInt ≤ 1200) ∧ x1 < 23) : Sf (Printer_writeWord F t x1) (fun r => (0 ≤ (r 1 0).toInt ∧ (r 1 0).toInt ≤ 1200)) := by
  rw [Printer_writeWord]
  refine sf_eq rfl (ilit (0 : Int32) (0) rfl) (fun c1 => ?_) (fun c1 => ?_)
  · skip
    refine sf_imp (sp_Printer_writeWord_13 F hF t x1 (by first | (clear c1; omega) | omega)) (fun r hr => ?_)
    (try dsimp only at hr)
    (try dsimp only)
    omega
  · skip
    have g2 := (ilit (32 : Int32) (32) rfl)
    refine sf_bind (sp_Printer_put F hF t (32 : Int32) (by first | (clear c1; omega) | omega)) (fun r14 h_r14 => ?_)
    refine sf_imp (sp_Printer_writeWord_13 F hF r14 x1 (by first | (clear c1; omega) | omega)) (fun r hr => ?_)
    (try dsimp only at hr)
    (try dsimp only)
    omega
set_option maxHeartbeats 4000000 in
set_option maxRecDepth 100000 in
theorem sp_Printer_writeSign (F : Nat) (hF : Big F) (t : StI) (x1 : Int32) (h : (0 ≤ (t 1 0).toInt ∧ (t 1 0).toInt ≤ 1200)) : Sf (Printer_writeSign F t x1) (fun r => (0 ≤ (r 1 0).toInt ∧ (r 1 0).toInt ≤ 1200)) := by
  rw [Printer_writeSign]
  have b_x1 := ibd x1
  refine sf_eq rfl (ilit (-4 : Int32) (-4) rfl) (fun c1 => ?_) (fun c1 => ?_)
  · skip
    refine sf_bind (sp_Printer_writeWord F hF t 15 (by first | (clear c1 b_x1; omega) | omega)) (fun r8 h_r8 => ?_)
    refine sf_some ?_
    (try dsimp only)
    omega
  · skip
    refine sf_eq rfl (ilit (-5 : Int32) (-5) rfl) (fun c2 => ?_) (fun c2 => ?_)
    · skip
      refine sf_bind (sp_Printer_writeWord F hF t 16 (by first | (clear c2 c1 b_x1; omega) | omega)) (fun r7 h_r7 => ?_)
      refine sf_some ?_
      (try dsimp only)
      omega
    · skip
      refine sf_some ?_
      (try dsimp only)
      omega
set_option maxHeartbeats 4000000 in
set_option maxRecDepth 100000 in
theorem sp_Printer_tightnessOf (F : Nat) (hF : Big F) (x0 : Int32) (h : True) : Sf (Printer_tightnessOf F x0) (fun r => True) := by
  rw [Printer_tightnessOf]
  have b_x0 := ibd x0
  refine sf_eq rfl (ilit (-4 : Int32) (-4) rfl) (fun c1 => ?_) (fun c1 => ?_)
  · skip
    exact sf_some trivial
  · skip
    refine sf_eq rfl (ilit (-5 : Int32) (-5) rfl) (fun c2 => ?_) (fun c2 => ?_)
    · skip
      exact sf_some trivial
    · skip
      exact sf_some trivial
set_option maxHeartbeats 4000000 in
set_option maxRecDepth 100000 in
theorem sp_Printer_writeAtom_54 (F : Nat) (hF : Big F)   : ∀ (n : Nat) (t : StI) (p1 : StI) (x2 : Int32) (x3 : Int32) (h : ((0 ≤ (t 1 0).toInt ∧ (t 1 0).toInt ≤ 1200) ∧ (0 ≤ (p1 1 0).toInt ∧ (p1 1 0).toInt ≤ 600 ∧ 0 ≤ (p1 3 0).toInt ∧ (p1 3 0).toInt ≤ 40 ∧ 0 ≤ (p1 13 0).toInt ∧ (p1 13 0).toInt ≤ 229) ∧ 0 ≤ x2.toInt ∧ x2.toInt < 40) ∧ 2147483648 - x3.toInt < (n : Int) ∧ 1 ≤ n), Sf (Printer_writeAtom_54 F  n t p1 x2 x3) (fun r => (0 ≤ (r 1 0).toInt ∧ (r 1 0).toInt ≤ 1200)) := by
  intro n; induction n with
  | zero => intro t p1 x2 x3 h; omega
  | succ n ih =>
    intro t p1 x2 x3 h; rw [Printer_writeAtom_54]
    have b_x2 := ibd x2
    have b_x3 := ibd x3
    refine sf_idx rfl (by first | (clear b_x3; omega) | omega) (by first | (clear b_x3; omega) | omega) ?_
    have b2 := ibd ((p1 7) x2.toNatClampNeg)
    refine sf_le rfl rfl (fun c1 => ?_) (fun c1 => ?_)
    · skip
      refine sf_idx rfl (by omega) (by omega) ?_
      have b4 := ibd ((p1 5) x2.toNatClampNeg)
      refine sf_eq rfl (ilit (0 : Int32) (0) rfl) (fun c3 => ?_) (fun c3 => ?_)
      · skip
        refine sf_some ?_
        (try dsimp only)
        omega
      · skip
        have g5 := (ilit (34 : Int32) (34) rfl)
        refine sf_bind (sp_Printer_put F hF t (34 : Int32) (by first | (clear c3 b4 c1 b2 b_x3 b_x2; omega) | omega)) (fun r24 h_r24 => ?_)
        refine sf_some ?_
        (try dsimp only)
        omega
    · skip
      refine sf_idx rfl (by omega) (by omega) ?_
      have g6 : ((((p1 6) x2.toNatClampNeg) + x3)).toInt = _ := (iadd rfl rfl)
      refine sf_bind (sp_Query_byteAt F hF p1 (((p1 6) x2.toNatClampNeg) + x3) (by first | (clear g6 c1 b2 b_x3 b_x2; omega) | omega)) (fun r26 h_r26 => ?_)
      refine sf_bind (sp_Printer_put F hF t r26 (by first | (clear h_r26 g6 c1 b2 b_x3 b_x2; omega) | omega)) (fun r27 h_r27 => ?_)
      have g7 : ((x3 + (1 : Int32))).toInt = _ := (iadd rfl (ilit (1 : Int32) (1) rfl))
      refine sf_imp (ih r27 p1 x2 (x3 + (1 : Int32)) (by first | (clear h_r26; omega) | omega)) (fun r hr => ?_)
      (try dsimp only at hr)
      (try dsimp only)
      omega
set_option maxHeartbeats 4000000 in
set_option maxRecDepth 100000 in
theorem sp_Printer_writeAtom_37 (F : Nat) (hF : Big F) (t : StI) (p1 : StI) (x2 : Int32) (h : (0 ≤ (t 1 0).toInt ∧ (t 1 0).toInt ≤ 1200) ∧ (0 ≤ (p1 1 0).toInt ∧ (p1 1 0).toInt ≤ 600 ∧ 0 ≤ (p1 3 0).toInt ∧ (p1 3 0).toInt ≤ 40 ∧ 0 ≤ (p1 13 0).toInt ∧ (p1 13 0).toInt ≤ 229) ∧ 0 ≤ x2.toInt ∧ x2.toInt < 40) : Sf (Printer_writeAtom_37 F t p1 x2) (fun r => (0 ≤ (r 1 0).toInt ∧ (r 1 0).toInt ≤ 1200)) := by
  rw [Printer_writeAtom_37]
  have b_x2 := ibd x2
  refine sf_idx rfl (by omega) (by omega) ?_
  have b2 := ibd ((p1 5) x2.toNatClampNeg)
  refine sf_eq rfl (ilit (0 : Int32) (0) rfl) (fun c1 => ?_) (fun c1 => ?_)
  · skip
    rw [Printer_writeAtom_52]
    have g3 := (ilit (0 : Int32) (0) rfl)
    refine sf_imp (sp_Printer_writeAtom_54 F hF   F t p1 x2 (0 : Int32) (⟨by omega, fuel_ok hF (by first | (clear c1 b2 b_x2; omega) | omega)⟩)) (fun r hr => ?_)
    (try dsimp only at hr)
    (try dsimp only)
    omega
  · skip
    have g4 := (ilit (34 : Int32) (34) rfl)
    refine sf_bind (sp_Printer_put F hF t (34 : Int32) (by first | (clear c1 b2 b_x2; omega) | omega)) (fun r30 h_r30 => ?_)
    rw [Printer_writeAtom_52]
    have g5 := (ilit (0 : Int32) (0) rfl)
    refine sf_imp (sp_Printer_writeAtom_54 F hF   F r30 p1 x2 (0 : Int32) (⟨by omega, fuel_ok hF (by first | (clear h_r30 c1 b2 b_x2; omega) | omega)⟩)) (fun r hr => ?_)
    (try dsimp only at hr)
    (try dsimp only)
    omega
set_option maxHeartbeats 4000000 in
set_option maxRecDepth 100000 in
theorem sp_Printer_writeAtom (F : Nat) (hF : Big F) (t : StI) (p1 : StI) (x2 : Int32) (h : (0 ≤ (t 1 0).toInt ∧ (t 1 0).toInt ≤ 1200) ∧ (0 ≤ (p1 1 0).toInt ∧ (p1 1 0).toInt ≤ 600 ∧ 0 ≤ (p1 3 0).toInt ∧ (p1 3 0).toInt ≤ 40 ∧ 0 ≤ (p1 13 0).toInt ∧ (p1 13 0).toInt ≤ 229)) : Sf (Printer_writeAtom F t p1 x2) (fun r => (0 ≤ (r 1 0).toInt ∧ (r 1 0).toInt ≤ 1200)) := by
  rw [Printer_writeAtom]
  have b_x2 := ibd x2
  refine sf_bind (sp_Query_has F hF p1 x2 (trivial)) (fun r31 h_r31 => ?_)
  refine sf_eq rfl (ilit (0 : Int32) (0) rfl) (fun c1 => ?_) (fun c1 => ?_)
  · skip
    refine sf_some ?_
    (try dsimp only)
    omega
  · skip
    refine sf_idx rfl (by omega) (by omega) ?_
    refine sf_bind (sp_MQ_nameOf F hF ((p1 4) x2.toNatClampNeg) (trivial)) (fun r34 h_r34 => ?_)
    refine sf_bind (sp_Printer_writeWord F hF t r34 (by first | (clear c1 h_r31 b_x2; omega) | omega)) (fun r35 h_r35 => ?_)
    refine sf_idx rfl (by first | (clear h_r35 h_r34; omega) | omega) (by first | (clear h_r35 h_r34; omega) | omega) ?_
    have b3 := ibd ((p1 4) x2.toNatClampNeg)
    refine sf_eq rfl (ilit (0 : Int32) (0) rfl) (fun c2 => ?_) (fun c2 => ?_)
    · skip
      refine sf_imp (sp_Printer_writeAtom_37 F hF r35 p1 x2 (by first | (clear h_r34; omega) | omega)) (fun r hr => ?_)
      (try dsimp only at hr)
      (try dsimp only)
      omega
    · skip
      have g4 := (ilit (58 : Int32) (58) rfl)
      refine sf_bind (sp_Printer_put F hF r35 (58 : Int32) (by first | (clear c2 b3 h_r34 c1 h_r31 b_x2; omega) | omega)) (fun r38 h_r38 => ?_)
      refine sf_imp (sp_Printer_writeAtom_37 F hF r38 p1 x2 (by first | (clear h_r35 h_r34; omega) | omega)) (fun r hr => ?_)
      (try dsimp only at hr)
      (try dsimp only)
      omega
set_option maxHeartbeats 4000000 in
set_option maxRecDepth 100000 in
theorem sp_Printer_writeOperand_71 (F : Nat) (hF : Big F) (t : StI) (p1 : StI) (due : StI) (dueL : StL) (x2 : Int32) (x4 : Int32) (h : (0 ≤ (t 1 0).toInt ∧ (t 1 0).toInt ≤ 1200) ∧ (0 ≤ (p1 1 0).toInt ∧ (p1 1 0).toInt ≤ 600 ∧ 0 ≤ (p1 3 0).toInt ∧ (p1 3 0).toInt ≤ 40 ∧ 0 ≤ (p1 13 0).toInt ∧ (p1 13 0).toInt ≤ 229) ∧ (0 ≤ (due 1 0).toInt ∧ (due 1 0).toInt ≤ 160)) : Sf (Printer_writeOperand_71 F t p1 due dueL x2 x4) (fun r => (0 ≤ (r.1 1 0).toInt ∧ (r.1 1 0).toInt ≤ 1200) ∧ (0 ≤ (r.2.1 1 0).toInt ∧ (r.2.1 1 0).toInt ≤ 160)) := by
  rw [Printer_writeOperand_71]
  have b_x2 := ibd x2
  have b_x4 := ibd x4
  refine sf_bind (sp_Pile_push F hF 160 due dueL ((x4 + (1 : Int32)).toInt64) (by first | (clear b_x4 b_x2; omega) | omega)) (fun r14 h_r14 => ?_)
  (try dsimp only at h_r14)
  refine sf_bind (sp_Pile_push F hF 160 r14.1 r14.2 x2.toInt64 (by first | (clear b_x4 b_x2; omega) | omega)) (fun r15 h_r15 => ?_)
  (try dsimp only at h_r15)
  refine sf_bind (sp_Pile_push F hF 160 r15.1 r15.2 x4.toInt64 (by first | (clear h_r14 b_x4 b_x2; omega) | omega)) (fun r16 h_r16 => ?_)
  (try dsimp only at h_r16)
  refine sf_some ?_
  (try dsimp only)
  omega
set_option maxHeartbeats 4000000 in
set_option maxRecDepth 100000 in
theorem sp_Printer_writeOperand (F : Nat) (hF : Big F) (t : StI) (p1 : StI) (due : StI) (dueL : StL) (x2 : Int32) (x3 : Int32) (h : (0 ≤ (t 1 0).toInt ∧ (t 1 0).toInt ≤ 1200) ∧ (0 ≤ (p1 1 0).toInt ∧ (p1 1 0).toInt ≤ 600 ∧ 0 ≤ (p1 3 0).toInt ∧ (p1 3 0).toInt ≤ 40 ∧ 0 ≤ (p1 13 0).toInt ∧ (p1 13 0).toInt ≤ 229) ∧ (0 ≤ (due 1 0).toInt ∧ (due 1 0).toInt ≤ 160)) : Sf (Printer_writeOperand F t p1 due dueL x2 x3) (fun r => (0 ≤ (r.1 1 0).toInt ∧ (r.1 1 0).toInt ≤ 1200) ∧ (0 ≤ (r.2.1 1 0).toInt ∧ (r.2.1 1 0).toInt ≤ 160)) := by
  rw [Printer_writeOperand]
  have b_x2 := ibd x2
  have b_x3 := ibd x3
  refine sf_lt rfl (ilit (0 : Int32) (0) rfl) (fun c1 => ?_) (fun c1 => ?_)
  · skip
    refine sf_eq rfl (ilit (-2 : Int32) (-2) rfl) (fun c2 => ?_) (fun c2 => ?_)
    · skip
      refine sf_bind (sp_Printer_writeWord F hF t 13 (by first | (clear c2 c1 b_x3 b_x2; omega) | omega)) (fun r24 h_r24 => ?_)
      refine sf_bind (sp_Pile_push F hF 160 due dueL (3 : Int64) (by first | (clear h_r24 c2 c1 b_x3 b_x2; omega) | omega)) (fun r25 h_r25 => ?_)
      (try dsimp only at h_r25)
      refine sf_some ?_
      (try dsimp only)
      omega
    · skip
      refine sf_bind (sp_Printer_tightnessOf F hF x2 (trivial)) (fun r19 h_r19 => ?_)
      refine sf_le rfl rfl (fun c3 => ?_) (fun c3 => ?_)
      · skip
        refine sf_imp (sp_Printer_writeOperand_71 F hF t p1 due dueL x2 r19 (by first | (clear c3 h_r19 c2 c1 b_x3 b_x2; omega) | omega)) (fun r hr => ?_)
        (try dsimp only at hr)
        (try dsimp only)
        omega
      · skip
        refine sf_bind (sp_Printer_writeWord F hF t 14 (by first | (clear c3 h_r19 c2 c1 b_x3 b_x2; omega) | omega)) (fun r21 h_r21 => ?_)
        refine sf_up (fun t_22 ht_t_22 hn_t_22 => ?_)
        refine sf_bind (sp_Pile_push F hF 160 due dueL (-1 : Int64) (by first | (clear h_r21 c3 h_r19 c2 c1 b_x3 b_x2; omega) | omega)) (fun r23 h_r23 => ?_)
        (try dsimp only at h_r23)
        have e4 : (t_22 1 0).toInt = (r21 1 0).toInt := congrArg (fun q => Int32.toInt (q 0)) (hn_t_22 1 (by decide))
        refine sf_imp (sp_Printer_writeOperand_71 F hF t_22 p1 r23.1 r23.2 x2 r19 (by first | (clear c3 h_r19 c2 c1 b_x3 b_x2; omega) | omega)) (fun r hr => ?_)
        (try dsimp only at hr)
        (try dsimp only)
        omega
  · skip
    refine sf_bind (sp_Printer_writeAtom F hF t p1 x2 (by first | (clear c1 b_x3 b_x2; omega) | omega)) (fun r26 h_r26 => ?_)
    refine sf_some ?_
    (try dsimp only)
    omega
set_option maxHeartbeats 4000000 in
set_option maxRecDepth 100000 in
theorem sp_Printer_write_36 (F : Nat) (hF : Big F)   : ∀ (n : Nat) (t : StI) (p1 : StI) (due : StI) (dueL : StL) (x2 : Int32) (x3 : Int32) (h : ((0 ≤ (t 1 0).toInt ∧ (t 1 0).toInt ≤ 1200) ∧ (0 ≤ (p1 1 0).toInt ∧ (p1 1 0).toInt ≤ 600 ∧ 0 ≤ (p1 3 0).toInt ∧ (p1 3 0).toInt ≤ 40 ∧ 0 ≤ (p1 13 0).toInt ∧ (p1 13 0).toInt ≤ 229) ∧ (0 ≤ (due 1 0).toInt ∧ (due 1 0).toInt ≤ 160)) ∧ 916 - x3.toInt < (n : Int) ∧ 1 ≤ n), Sf (Printer_write_36 F  n t p1 due dueL x2 x3) (fun r => (0 ≤ (r.2.1 1 0).toInt ∧ (r.2.1 1 0).toInt ≤ 1200) ∧ (0 ≤ (r.2.2.1 1 0).toInt ∧ (r.2.2.1 1 0).toInt ≤ 160)) := by
  intro n; induction n with
  | zero => intro t p1 due dueL x2 x3 h; omega
  | succ n ih =>
    intro t p1 due dueL x2 x3 h; rw [Printer_write_36]
    have b_x2 := ibd x2
    have b_x3 := ibd x3
    refine sf_le (ilit (916 : Int32) (916) rfl) rfl (fun c1 => ?_) (fun c1 => ?_)
    · skip
      refine sf_some ?_
      (try dsimp only)
      omega
    · skip
      refine sf_bind (sp_Pile_isEmpty F hF 160 due dueL (by first | (clear c1 b_x3 b_x2; omega) | omega)) (fun r17 h_r17 => ?_)
      refine sf_eq rfl (ilit (0 : Int32) (0) rfl) (fun c2 => ?_) (fun c2 => ?_)
      · skip
        refine sf_bind (sp_Pile_pop F hF 160 due dueL (by first | (clear c2 h_r17 c1 b_x3 b_x2; omega) | omega)) (fun r19 h_r19 => ?_)
        (try dsimp only at h_r19)
        refine sf_lt rfl (ilit (0 : Int32) (0) rfl) (fun c3 => ?_) (fun c3 => ?_)
        · skip
          refine sf_eq rfl (ilit (-1 : Int32) (-1) rfl) (fun c4 => ?_) (fun c4 => ?_)
          · skip
            have g5 := (ilit (41 : Int32) (41) rfl)
            refine sf_bind (sp_Printer_put F hF t (41 : Int32) (by first | (clear c4 c3 h_r19 c2 h_r17 c1 b_x3 b_x2; omega) | omega)) (fun r23 h_r23 => ?_)
            rw [Printer_write_107]
            have g6 : ((x3 + (1 : Int32))).toInt = _ := (iadd rfl (ilit (1 : Int32) (1) rfl))
            refine sf_imp (ih r23 p1 r19.2.1 r19.2.2 x2 (x3 + (1 : Int32)) (by first | (clear c4 c3 c2 h_r17 b_x2; omega) | omega)) (fun r hr => ?_)
            (try dsimp only at hr)
            (try dsimp only)
            omega
          · skip
            refine sf_bind (sp_Printer_writeSign F hF t r19.1.toInt32 (by first | (clear c4 c3 h_r19 c2 h_r17 c1 b_x3 b_x2; omega) | omega)) (fun r22 h_r22 => ?_)
            rw [Printer_write_107]
            have g7 : ((x3 + (1 : Int32))).toInt = _ := (iadd rfl (ilit (1 : Int32) (1) rfl))
            refine sf_imp (ih r22 p1 r19.2.1 r19.2.2 x2 (x3 + (1 : Int32)) (by first | (clear c4 c3 c2 h_r17 b_x2; omega) | omega)) (fun r hr => ?_)
            (try dsimp only at hr)
            (try dsimp only)
            omega
        · skip
          refine sf_bind (sp_Query_entryAt F hF p1 x2 (by first | (clear c3 h_r19 c2 h_r17 c1 b_x3 b_x2; omega) | omega)) (fun r24 h_r24 => ?_)
          refine sf_bind (sp_Printer_writeOperand F hF t p1 r19.2.1 r19.2.2 r24 r19.1.toInt32 (by first | (clear h_r24 c3 c2 h_r17 c1 b_x3 b_x2; omega) | omega)) (fun r25 h_r25 => ?_)
          (try dsimp only at h_r25)
          rw [Printer_write_107]
          have g8 : ((x2 + (1 : Int32))).toInt = _ := (iadd rfl (ilit (1 : Int32) (1) rfl))
          have g9 : ((x3 + (1 : Int32))).toInt = _ := (iadd rfl (ilit (1 : Int32) (1) rfl))
          refine sf_imp (ih r25.1 p1 r25.2.1 r25.2.2 (x2 + (1 : Int32)) (x3 + (1 : Int32)) (by first | (clear g8 h_r24 c3 h_r19 c2 h_r17 b_x2; omega) | omega)) (fun r hr => ?_)
          (try dsimp only at hr)
          (try dsimp only)
          omega
      · skip
        refine sf_some ?_
        (try dsimp only)
        omega
set_option maxHeartbeats 4000000 in
set_option maxRecDepth 100000 in
theorem sp_Printer_write_34 (F : Nat) (hF : Big F) (t : StI) (p1 : StI) (due : StI) (dueL : StL) (x2 : Int32) (h : (0 ≤ (t 1 0).toInt ∧ (t 1 0).toInt ≤ 1200) ∧ (0 ≤ (p1 1 0).toInt ∧ (p1 1 0).toInt ≤ 600 ∧ 0 ≤ (p1 3 0).toInt ∧ (p1 3 0).toInt ≤ 40 ∧ 0 ≤ (p1 13 0).toInt ∧ (p1 13 0).toInt ≤ 229) ∧ (0 ≤ (due 1 0).toInt ∧ (due 1 0).toInt ≤ 160)) : Sf (Printer_write_34 F t p1 due dueL x2) (fun r => (0 ≤ (r.2.1 1 0).toInt ∧ (r.2.1 1 0).toInt ≤ 1200) ∧ (0 ≤ (r.2.2.1 1 0).toInt ∧ (r.2.2.1 1 0).toInt ≤ 160)) := by
  rw [Printer_write_34]
  have b_x2 := ibd x2
  have g1 := (ilit (0 : Int32) (0) rfl)
  refine sf_imp (sp_Printer_write_36 F hF   F t p1 due dueL x2 (0 : Int32) (⟨by first | (clear b_x2; omega) | omega, fuel_ok hF (by first | (clear b_x2; omega) | omega)⟩)) (fun r hr => ?_)
  (try dsimp only at hr)
  (try dsimp only)
  omega
set_option maxHeartbeats 4000000 in
set_option maxRecDepth 100000 in
theorem sp_Printer_write (F : Nat) (hF : Big F) (t : StI) (p1 : StI) (due : StI) (dueL : StL) (h : (0 ≤ (t 1 0).toInt ∧ (t 1 0).toInt ≤ 1200) ∧ (0 ≤ (p1 1 0).toInt ∧ (p1 1 0).toInt ≤ 600 ∧ 0 ≤ (p1 3 0).toInt ∧ (p1 3 0).toInt ≤ 40 ∧ 0 ≤ (p1 13 0).toInt ∧ (p1 13 0).toInt ≤ 229) ∧ (0 ≤ (due 1 0).toInt ∧ (due 1 0).toInt ≤ 160)) : Sf (Printer_write F t p1 due dueL) (fun r => (0 ≤ (r.2.1 1 0).toInt ∧ (r.2.1 1 0).toInt ≤ 1200) ∧ (0 ≤ (r.2.2.1 1 0).toInt ∧ (r.2.2.1 1 0).toInt ≤ 160)) := by
  rw [Printer_write]
  refine sf_up (fun t_26 ht_t_26 hn_t_26 => ?_)
  refine sf_up (fun t_27 ht_t_27 hn_t_27 => ?_)
  refine sf_bind (sp_Pile_clear F hF 160 due dueL (by omega)) (fun r28 h_r28 => ?_)
  (try dsimp only at h_r28)
  refine sf_le rfl (ilit (0 : Int32) (0) rfl) (fun c1 => ?_) (fun c1 => ?_)
  · skip
    have g2 := (ilit (0 : Int32) (0) rfl)
    have e3 : (t_26 1 0).toInt = _ := (congrArg (fun q => Int32.toInt (q 0)) ht_t_26).trans (ilit (0 : Int32) (0) rfl)
    have e4 : (t_27 1 0).toInt = (t_26 1 0).toInt := congrArg (fun q => Int32.toInt (q 0)) (hn_t_27 1 (by decide))
    refine sf_imp (sp_Printer_write_34 F hF t_27 p1 r28.1 r28.2 (0 : Int32) (by omega)) (fun r hr => ?_)
    (try dsimp only at hr)
    (try dsimp only)
    omega
  · skip
    refine sf_bind (sp_Pile_push F hF 160 r28.1 r28.2 (0 : Int64) (by first | (clear c1; omega) | omega)) (fun r30 h_r30 => ?_)
    (try dsimp only at h_r30)
    have g5 := (ilit (0 : Int32) (0) rfl)
    have e6 : (t_26 1 0).toInt = _ := (congrArg (fun q => Int32.toInt (q 0)) ht_t_26).trans (ilit (0 : Int32) (0) rfl)
    have e7 : (t_27 1 0).toInt = (t_26 1 0).toInt := congrArg (fun q => Int32.toInt (q 0)) (hn_t_27 1 (by decide))
    refine sf_imp (sp_Printer_write_34 F hF t_27 p1 r30.1 r30.2 (0 : Int32) (by first | (clear h_r28; omega) | omega)) (fun r hr => ?_)
    (try dsimp only at hr)
    (try dsimp only)
    omega
set_option maxHeartbeats 4000000 in
set_option maxRecDepth 100000 in
theorem sp_Long_bitCount (F : Nat) (hF : Big F) (x0 : Int64) (h : True) : Sf (Long_bitCount F x0) (fun r => True) := by
  rw [Long_bitCount]
  exact sf_some trivial
set_option maxHeartbeats 4000000 in
set_option maxRecDepth 100000 in
theorem sp_Judge_joined (F : Nat) (hF : Big F) (x0 : Int32) (x1 : Int64) (x3 : Int64) (h : True) : Sf (Judge_joined F x0 x1 x3) (fun r => True) := by
  rw [Judge_joined]
  have b_x0 := ibd x0
  refine sf_eq rfl (ilit (-4 : Int32) (-4) rfl) (fun c1 => ?_) (fun c1 => ?_)
  · skip
    exact sf_some trivial
  · skip
    refine sf_eq rfl (ilit (-5 : Int32) (-5) rfl) (fun c2 => ?_) (fun c2 => ?_)
    · skip
      exact sf_some trivial
    · skip
      exact sf_some trivial
set_option maxHeartbeats 4000000 in
set_option maxRecDepth 100000 in
theorem sp_Judge_valueOf_25 (F : Nat) (hF : Big F)   : ∀ (n : Nat) (tL : StL) (p1 : StI) (pile : StI) (pileL : StL) (x2 : Int32) (h : ((0 ≤ (p1 1 0).toInt ∧ (p1 1 0).toInt ≤ 600 ∧ 0 ≤ (p1 3 0).toInt ∧ (p1 3 0).toInt ≤ 40 ∧ 0 ≤ (p1 13 0).toInt ∧ (p1 13 0).toInt ≤ 229) ∧ (0 ≤ (pile 1 0).toInt ∧ (pile 1 0).toInt ≤ 40)) ∧ x2.toInt + 1 < (n : Int) ∧ 1 ≤ n), Sf (Judge_valueOf_25 F  n tL p1 pile pileL x2) (fun r => (0 ≤ (r.2.1 1 0).toInt ∧ (r.2.1 1 0).toInt ≤ 40)) := by
  intro n; induction n with
  | zero => intro tL p1 pile pileL x2 h; omega
  | succ n ih =>
    intro tL p1 pile pileL x2 h; rw [Judge_valueOf_25]
    have b_x2 := ibd x2
    refine sf_lt rfl (ilit (0 : Int32) (0) rfl) (fun c1 => ?_) (fun c1 => ?_)
    · skip
      refine sf_bind (sp_Pile_pop F hF 40 pile pileL (by first | (clear c1 b_x2; omega) | omega)) (fun r19 h_r19 => ?_)
      (try dsimp only at h_r19)
      refine sf_some ?_
      (try dsimp only)
      omega
    · skip
      refine sf_bind (sp_Query_entryAt F hF p1 x2 (by first | (clear c1 b_x2; omega) | omega)) (fun r20 h_r20 => ?_)
      refine sf_lt rfl (ilit (0 : Int32) (0) rfl) (fun c2 => ?_) (fun c2 => ?_)
      · skip
        refine sf_eq rfl (ilit (-2 : Int32) (-2) rfl) (fun c3 => ?_) (fun c3 => ?_)
        · skip
          refine sf_bind (sp_Pile_pop F hF 40 pile pileL (by first | (clear c3 c2 h_r20 c1 b_x2; omega) | omega)) (fun r27 h_r27 => ?_)
          (try dsimp only at h_r27)
          refine sf_bind (sp_Pile_push F hF 40 r27.2.1 r27.2.2 (r27.1 ^^^ (-1 : Int64)) (by first | (clear c3 c2 h_r20 c1 b_x2; omega) | omega)) (fun r28 h_r28 => ?_)
          (try dsimp only at h_r28)
          rw [Judge_valueOf_124]
          have g4 : ((x2 + (-1 : Int32))).toInt = x2.toInt - 1 := idec (by first | (clear h_r28 h_r27 c3 c2 h_r20; omega) | omega)
          refine sf_imp (ih tL p1 r28.1 r28.2 (x2 + (-1 : Int32)) (by first | (clear h_r27 c3 c2 h_r20; omega) | omega)) (fun r hr => ?_)
          (try dsimp only at hr)
          (try dsimp only)
          omega
        · skip
          refine sf_bind (sp_Pile_pop F hF 40 pile pileL (by first | (clear c3 c2 h_r20 c1 b_x2; omega) | omega)) (fun r23 h_r23 => ?_)
          (try dsimp only at h_r23)
          refine sf_bind (sp_Pile_pop F hF 40 r23.2.1 r23.2.2 (by first | (clear c3 c2 h_r20 c1 b_x2; omega) | omega)) (fun r24 h_r24 => ?_)
          (try dsimp only at h_r24)
          refine sf_bind (sp_Judge_joined F hF r20 r23.1 r24.1 (trivial)) (fun r25 h_r25 => ?_)
          refine sf_bind (sp_Pile_push F hF 40 r24.2.1 r24.2.2 r25 (by first | (clear h_r25 h_r23 c3 c2 h_r20 c1 b_x2; omega) | omega)) (fun r26 h_r26 => ?_)
          (try dsimp only at h_r26)
          rw [Judge_valueOf_124]
          have g5 : ((x2 + (-1 : Int32))).toInt = x2.toInt - 1 := idec (by first | (clear h_r26 h_r25 h_r24 h_r23 c3 c2 h_r20; omega) | omega)
          refine sf_imp (ih tL p1 r26.1 r26.2 (x2 + (-1 : Int32)) (by first | (clear h_r25 h_r24 h_r23 c3 c2 h_r20; omega) | omega)) (fun r hr => ?_)
          (try dsimp only at hr)
          (try dsimp only)
          omega
      · skip
        refine sf_le (ilit (40 : Int32) (40) rfl) rfl (fun c6 => ?_) (fun c6 => ?_)
        · skip
          rw [Judge_valueOf_62]
          refine sf_bind (sp_Pile_push F hF 40 pile pileL (0 : Int64) (by first | (clear c6 c2 h_r20 c1 b_x2; omega) | omega)) (fun r17 h_r17 => ?_)
          (try dsimp only at h_r17)
          rw [Judge_valueOf_124]
          have g7 : ((x2 + (-1 : Int32))).toInt = x2.toInt - 1 := idec (by first | (clear h_r17 c6 c2 h_r20; omega) | omega)
          refine sf_imp (ih tL p1 r17.1 r17.2 (x2 + (-1 : Int32)) (by first | (clear c6 c2 h_r20; omega) | omega)) (fun r hr => ?_)
          (try dsimp only at hr)
          (try dsimp only)
          omega
        · skip
          refine sf_idx rfl (by first | (clear h_r20 c1 b_x2; omega) | omega) (by first | (clear h_r20 c1 b_x2; omega) | omega) ?_
          rw [Judge_valueOf_62]
          refine sf_bind (sp_Pile_push F hF 40 pile pileL ((tL 0) r20.toNatClampNeg) (by first | (clear c6 c2 h_r20 c1 b_x2; omega) | omega)) (fun r17 h_r17 => ?_)
          (try dsimp only at h_r17)
          rw [Judge_valueOf_124]
          have g8 : ((x2 + (-1 : Int32))).toInt = x2.toInt - 1 := idec (by first | (clear h_r17 c6 c2 h_r20; omega) | omega)
          refine sf_imp (ih tL p1 r17.1 r17.2 (x2 + (-1 : Int32)) (by first | (clear c6 c2 h_r20; omega) | omega)) (fun r hr => ?_)
          (try dsimp only at hr)
          (try dsimp only)
          omega
set_option maxHeartbeats 4000000 in
set_option maxRecDepth 100000 in
theorem sp_Judge_valueOf (F : Nat) (hF : Big F) (tL : StL) (p1 : StI) (pile : StI) (pileL : StL) (h : (0 ≤ (p1 1 0).toInt ∧ (p1 1 0).toInt ≤ 600 ∧ 0 ≤ (p1 3 0).toInt ∧ (p1 3 0).toInt ≤ 40 ∧ 0 ≤ (p1 13 0).toInt ∧ (p1 13 0).toInt ≤ 229) ∧ (0 ≤ (pile 1 0).toInt ∧ (pile 1 0).toInt ≤ 40)) : Sf (Judge_valueOf F tL p1 pile pileL) (fun r => (0 ≤ (r.2.1 1 0).toInt ∧ (r.2.1 1 0).toInt ≤ 40)) := by
  rw [Judge_valueOf]
  refine sf_eq rfl (ilit (0 : Int32) (0) rfl) (fun c1 => ?_) (fun c1 => ?_)
  · skip
    refine sf_some ?_
    (try dsimp only)
    omega
  · skip
    refine sf_bind (sp_Pile_clear F hF 40 pile pileL (by first | (clear c1; omega) | omega)) (fun r32 h_r32 => ?_)
    (try dsimp only at h_r32)
    have g2 : (((p1 13 0) - (1 : Int32))).toInt = _ := (isub rfl (ilit (1 : Int32) (1) rfl))
    refine sf_imp (sp_Judge_valueOf_25 F hF   F tL p1 r32.1 r32.2 ((p1 13 0) - (1 : Int32)) (⟨by omega, fuel_ok hF (by first | (clear h_r32; omega) | omega)⟩)) (fun r hr => ?_)
    (try dsimp only at hr)
    (try dsimp only)
    omega
set_option maxHeartbeats 4000000 in
set_option maxRecDepth 100000 in
theorem sp_Judge_setValues_2 (F : Nat) (hF : Big F)   : ∀ (n : Nat) (tL : StL) (x1 : Int32) (x2 : Int32) (x3 : Int32) (h : (0 ≤ x3.toInt) ∧ 40 - x3.toInt < (n : Int) ∧ 1 ≤ n), Sf (Judge_setValues_2 F  n tL x1 x2 x3) (fun r => True) := by
  intro n; induction n with
  | zero => intro tL x1 x2 x3 h; omega
  | succ n ih =>
    intro tL x1 x2 x3 h; rw [Judge_setValues_2]
    have b_x1 := ibd x1
    have b_x2 := ibd x2
    have b_x3 := ibd x3
    refine sf_le rfl rfl (fun c1 => ?_) (fun c1 => ?_)
    · skip
      exact sf_some trivial
    · skip
      refine sf_le (ilit (40 : Int32) (40) rfl) rfl (fun c2 => ?_) (fun c2 => ?_)
      · skip
        exact sf_some trivial
      · skip
        refine sf_le (ilit (6 : Int32) (6) rfl) rfl (fun c3 => ?_) (fun c3 => ?_)
        · skip
          rw [Judge_setValues_49]
          refine sf_idx rfl (by first | (clear b_x2; omega) | omega) (by first | (clear b_x2; omega) | omega) ?_
          refine sf_up (fun t_7 ht_t_7 hn_t_7 => ?_)
          have g4 : ((x3 + (1 : Int32))).toInt = _ := (iadd rfl (ilit (1 : Int32) (1) rfl))
          exact ih t_7 x1 x2 (x3 + (1 : Int32)) (by first | (clear b_x2; omega) | omega)
        · skip
          refine sf_idx rfl (by first | (clear b_x2; omega) | omega) (by first | (clear b_x2; omega) | omega) ?_
          rw [Judge_setValues_49]
          refine sf_idx rfl (by first | (clear b_x2; omega) | omega) (by first | (clear b_x2; omega) | omega) ?_
          refine sf_up (fun t_7 ht_t_7 hn_t_7 => ?_)
          have g5 : ((x3 + (1 : Int32))).toInt = _ := (iadd rfl (ilit (1 : Int32) (1) rfl))
          exact ih t_7 x1 x2 (x3 + (1 : Int32)) (by first | (clear b_x2; omega) | omega)
set_option maxHeartbeats 4000000 in
set_option maxRecDepth 100000 in
theorem sp_Judge_setValues (F : Nat) (hF : Big F) (tL : StL) (x1 : Int32) (x2 : Int32) (h : True) : Sf (Judge_setValues F tL x1 x2) (fun r => True) := by
  rw [Judge_setValues]
  have b_x1 := ibd x1
  have b_x2 := ibd x2
  have g1 := (ilit (0 : Int32) (0) rfl)
  refine sf_imp (sp_Judge_setValues_2 F hF   F tL x1 x2 (0 : Int32) (⟨by first | (clear b_x2 b_x1; omega) | omega, fuel_ok hF (by first | (clear b_x2 b_x1; omega) | omega)⟩)) (fun r hr => ?_)
  trivial
set_option maxHeartbeats 4000000 in
set_option maxRecDepth 100000 in
theorem sp_Judge_accepts_3 (F : Nat) (hF : Big F)   : ∀ (n : Nat) (tL : StL) (p1 : StI) (pile : StI) (pileL : StL) (x2 : Int64) (x4 : Int32) (h : ((0 ≤ (p1 1 0).toInt ∧ (p1 1 0).toInt ≤ 600 ∧ 0 ≤ (p1 3 0).toInt ∧ (p1 3 0).toInt ≤ 40 ∧ 0 ≤ (p1 13 0).toInt ∧ (p1 13 0).toInt ≤ 229) ∧ (0 ≤ (pile 1 0).toInt ∧ (pile 1 0).toInt ≤ 40) ∧ 0 ≤ x4.toInt) ∧ 40 - x4.toInt < (n : Int) ∧ 1 ≤ n), Sf (Judge_accepts_3 F  n tL p1 pile pileL x2 x4) (fun r => (r.1.toInt = 0 ∨ r.1.toInt = 1) ∧ (0 ≤ (r.2.2.1 1 0).toInt ∧ (r.2.2.1 1 0).toInt ≤ 40)) := by
  intro n; induction n with
  | zero => intro tL p1 pile pileL x2 x4 h; omega
  | succ n ih =>
    intro tL p1 pile pileL x2 x4 h; rw [Judge_accepts_3]
    have b_x4 := ibd x4
    refine sf_le (ilit (40 : Int32) (40) rfl) rfl (fun c1 => ?_) (fun c1 => ?_)
    · skip
      refine sf_bind (sp_Judge_valueOf F hF tL p1 pile pileL (by first | (clear c1 b_x4; omega) | omega)) (fun r7 h_r7 => ?_)
      (try dsimp only at h_r7)
      refine sf_any ?_ ?_
      · skip
        have g3 := (ilit (0 : Int32) (0) rfl)
        refine sf_some ?_
        (try dsimp only)
        omega
      · skip
        have g4 := (ilit (1 : Int32) (1) rfl)
        refine sf_some ?_
        (try dsimp only)
        omega
    · skip
      refine sf_idx rfl (by omega) (by omega) ?_
      refine sf_up (fun t_9 ht_t_9 hn_t_9 => ?_)
      have g5 : ((x4 + (1 : Int32))).toInt = _ := (iadd rfl (ilit (1 : Int32) (1) rfl))
      refine sf_imp (ih t_9 p1 pile pileL x2 (x4 + (1 : Int32)) (by omega)) (fun r hr => ?_)
      (try dsimp only at hr)
      (try dsimp only)
      omega
set_option maxHeartbeats 4000000 in
set_option maxRecDepth 100000 in
theorem sp_Judge_accepts (F : Nat) (hF : Big F) (tL : StL) (p1 : StI) (pile : StI) (pileL : StL) (x2 : Int64) (h : (0 ≤ (p1 1 0).toInt ∧ (p1 1 0).toInt ≤ 600 ∧ 0 ≤ (p1 3 0).toInt ∧ (p1 3 0).toInt ≤ 40 ∧ 0 ≤ (p1 13 0).toInt ∧ (p1 13 0).toInt ≤ 229) ∧ (0 ≤ (pile 1 0).toInt ∧ (pile 1 0).toInt ≤ 40)) : Sf (Judge_accepts F tL p1 pile pileL x2) (fun r => (r.1.toInt = 0 ∨ r.1.toInt = 1) ∧ (0 ≤ (r.2.2.1 1 0).toInt ∧ (r.2.2.1 1 0).toInt ≤ 40)) := by
  rw [Judge_accepts]
  have g1 := (ilit (0 : Int32) (0) rfl)
  refine sf_imp (sp_Judge_accepts_3 F hF   F tL p1 pile pileL x2 (0 : Int32) (⟨by omega, fuel_ok hF (by omega)⟩)) (fun r hr => ?_)
  (try dsimp only at hr)
  (try dsimp only)
  omega
set_option maxHeartbeats 4000000 in
set_option maxRecDepth 100000 in
theorem sp_Judge_countWays_57 (F : Nat) (hF : Big F)   : ∀ (n : Nat) (tL : StL) (p1 : StI) (pile : StI) (pileL : StL) (x2 : Int32) (x3 : Int32) (x4 : Int64) (x6 : Int32) (x7 : Int32) (h : ((0 ≤ (p1 1 0).toInt ∧ (p1 1 0).toInt ≤ 600 ∧ 0 ≤ (p1 3 0).toInt ∧ (p1 3 0).toInt ≤ 40 ∧ 0 ≤ (p1 13 0).toInt ∧ (p1 13 0).toInt ≤ 229) ∧ (0 ≤ (pile 1 0).toInt ∧ (pile 1 0).toInt ≤ 40)) ∧ x3.toInt - x7.toInt < (n : Int) ∧ 1 ≤ n), Sf (Judge_countWays_57 F  n tL p1 pile pileL x2 x3 x4 x6 x7) (fun r => (0 ≤ (r.2.2.1 1 0).toInt ∧ (r.2.2.1 1 0).toInt ≤ 40)) := by
  intro n; induction n with
  | zero => intro tL p1 pile pileL x2 x3 x4 x6 x7 h; omega
  | succ n ih =>
    intro tL p1 pile pileL x2 x3 x4 x6 x7 h; rw [Judge_countWays_57]
    have b_x2 := ibd x2
    have b_x3 := ibd x3
    have b_x6 := ibd x6
    have b_x7 := ibd x7
    refine sf_le rfl rfl (fun c1 => ?_) (fun c1 => ?_)
    · skip
      refine sf_some ?_
      (try dsimp only)
      omega
    · skip
      refine sf_bind (sp_Judge_setValues F hF tL x2 x7 (trivial)) (fun r9 h_r9 => ?_)
      refine sf_bind (sp_Judge_valueOf F hF r9 p1 pile pileL (by first | (clear h_r9 c1 b_x7 b_x6 b_x3 b_x2; omega) | omega)) (fun r10 h_r10 => ?_)
      (try dsimp only at h_r10)
      refine sf_bind (sp_Long_bitCount F hF (r10.1 &&& x4) (trivial)) (fun r11 h_r11 => ?_)
      have g2 : ((x6 + r11)).toInt = _ := (iadd rfl rfl)
      have g3 : ((x7 + (1 : Int32))).toInt = _ := (iadd rfl (ilit (1 : Int32) (1) rfl))
      refine sf_imp (ih r9 p1 r10.2.1 r10.2.2 x2 x3 x4 (x6 + r11) (x7 + (1 : Int32)) (by first | (clear g2 h_r11 h_r9 b_x6 b_x2; omega) | omega)) (fun r hr => ?_)
      (try dsimp only at hr)
      (try dsimp only)
      omega
set_option maxHeartbeats 4000000 in
set_option maxRecDepth 100000 in
theorem sp_Judge_countWays_49 (F : Nat) (hF : Big F) (tL : StL) (p1 : StI) (pile : StI) (pileL : StL) (x2 : Int32) (x3 : Int32) (y0 : Int64) (h : (0 ≤ (p1 1 0).toInt ∧ (p1 1 0).toInt ≤ 600 ∧ 0 ≤ (p1 3 0).toInt ∧ (p1 3 0).toInt ≤ 40 ∧ 0 ≤ (p1 13 0).toInt ∧ (p1 13 0).toInt ≤ 229) ∧ (0 ≤ (pile 1 0).toInt ∧ (pile 1 0).toInt ≤ 40)) : Sf (Judge_countWays_49 F tL p1 pile pileL x2 x3 y0) (fun r => (0 ≤ (r.2.2.1 1 0).toInt ∧ (r.2.2.1 1 0).toInt ≤ 40)) := by
  rw [Judge_countWays_49]
  have b_x2 := ibd x2
  have b_x3 := ibd x3
  have g1 := (ilit (0 : Int32) (0) rfl)
  refine sf_imp (sp_Judge_countWays_57 F hF   F tL p1 pile pileL x2 x3 y0 (0 : Int32) (0 : Int32) (⟨by first | (clear b_x3 b_x2; omega) | omega, fuel_ok hF (by first | (clear b_x2; omega) | omega)⟩)) (fun r hr => ?_)
  (try dsimp only at hr)
  (try dsimp only)
  omega
set_option maxHeartbeats 4000000 in
set_option maxRecDepth 100000 in
theorem sp_Judge_countWays_29 (F : Nat) (hF : Big F) (tL : StL) (p1 : StI) (pile : StI) (pileL : StL) (x2 : Int32) (y0 : Int32) (h : (0 ≤ (p1 1 0).toInt ∧ (p1 1 0).toInt ≤ 600 ∧ 0 ≤ (p1 3 0).toInt ∧ (p1 3 0).toInt ≤ 40 ∧ 0 ≤ (p1 13 0).toInt ∧ (p1 13 0).toInt ≤ 229) ∧ (0 ≤ (pile 1 0).toInt ∧ (pile 1 0).toInt ≤ 40)) : Sf (Judge_countWays_29 F tL p1 pile pileL x2 y0) (fun r => (0 ≤ (r.2.2.1 1 0).toInt ∧ (r.2.2.1 1 0).toInt ≤ 40)) := by
  rw [Judge_countWays_29]
  have b_x2 := ibd x2
  have b_y0 := ibd y0
  refine sf_lt rfl (ilit (6 : Int32) (6) rfl) (fun c1 => ?_) (fun c1 => ?_)
  · skip
    refine sf_imp (sp_Judge_countWays_49 F hF tL p1 pile pileL x2 y0 (((1 : Int64) <<< (((1 : Int32) <<< (x2 &&& 31)).toInt64 &&& 63)) - (1 : Int64)) (by first | (clear c1 b_y0 b_x2; omega) | omega)) (fun r hr => ?_)
    (try dsimp only at hr)
    (try dsimp only)
    omega
  · skip
    refine sf_imp (sp_Judge_countWays_49 F hF tL p1 pile pileL x2 y0 (-1 : Int64) (by first | (clear c1 b_y0 b_x2; omega) | omega)) (fun r hr => ?_)
    (try dsimp only at hr)
    (try dsimp only)
    omega
set_option maxHeartbeats 4000000 in
set_option maxRecDepth 100000 in
theorem sp_Judge_countWays (F : Nat) (hF : Big F) (tL : StL) (p1 : StI) (pile : StI) (pileL : StL) (h : (0 ≤ (p1 1 0).toInt ∧ (p1 1 0).toInt ≤ 600 ∧ 0 ≤ (p1 3 0).toInt ∧ (p1 3 0).toInt ≤ 40 ∧ 0 ≤ (p1 13 0).toInt ∧ (p1 13 0).toInt ≤ 229) ∧ (0 ≤ (pile 1 0).toInt ∧ (pile 1 0).toInt ≤ 40)) : Sf (Judge_countWays F tL p1 pile pileL) (fun r => (0 ≤ (r.2.2.1 1 0).toInt ∧ (r.2.2.1 1 0).toInt ≤ 40)) := by
  rw [Judge_countWays]
  refine sf_le rfl (ilit (12 : Int32) (12) rfl) (fun c1 => ?_) (fun c1 => ?_)
  · skip
    refine sf_le rfl (ilit (6 : Int32) (6) rfl) (fun c2 => ?_) (fun c2 => ?_)
    · skip
      have g3 := (ilit (1 : Int32) (1) rfl)
      refine sf_imp (sp_Judge_countWays_29 F hF tL p1 pile pileL (p1 3 0) (1 : Int32) (by omega)) (fun r hr => ?_)
      (try dsimp only at hr)
      (try dsimp only)
      omega
    · skip
      refine sf_imp (sp_Judge_countWays_29 F hF tL p1 pile pileL (p1 3 0) ((1 : Int32) <<< (((p1 3 0) - (6 : Int32)) &&& 31)) (by omega)) (fun r hr => ?_)
      (try dsimp only at hr)
      (try dsimp only)
      omega
  · skip
    have g4 := (ilit (-1 : Int32) (-1) rfl)
    refine sf_some ?_
    (try dsimp only)
    omega

