theorem u16_i32 (u : UInt16) : (0 : Int32) ≤ u.toUInt32.toInt32 ∧ u.toUInt32.toInt32 ≤ (65535 : Int32) := by
  have h0 : u.toUInt32.toInt32.toInt = (u.toNat : Int) := by
    have h1 : u.toUInt32.toInt32.toInt = u.toUInt32.toBitVec.toInt := rfl
    have h2 : u.toUInt32.toBitVec.toNat = u.toNat := by
      show u.toUInt32.toNat = u.toNat
      simp
    have h3 : u.toNat < 65536 := UInt16.toNat_lt u
    rw [h1, BitVec.toInt_eq_toNat_of_lt (by rw [h2]; omega), h2]
  have h3 : u.toNat < 65536 := UInt16.toNat_lt u
  rw [Int32.le_iff_toInt_le, Int32.le_iff_toInt_le, h0]
  exact ⟨by rw [ilit 0 0 rfl]; omega, by rw [ilit 65535 65535 rfl]; omega⟩
theorem fits_nar (x : Int32) : fits .char (.int (vp_nar .char x)) = true := by
  have h := u16_i32 x.toUInt32.toUInt16
  show (decide (0 ≤ x.toUInt32.toUInt16.toUInt32.toInt32) && decide (x.toUInt32.toUInt16.toUInt32.toInt32 ≤ 65535)) = true
  rw [decide_eq_true h.1, decide_eq_true h.2]
  rfl
def ReadyOk (t : StI) : Prop := ChOk (t 0) ∧ ChOk (t 1)
theorem ch_upd {f : Nat → Int32} (h : ChOk f) (k : Nat) (x : Int32) : ChOk (upd f k (vp_nar .char x)) := by
  intro i
  unfold upd
  split
  · exact fits_nar x
  · exact h i
set_option maxHeartbeats 4000000 in
theorem sp_MQ_makeReady_2 (F : Nat) : ∀ (n : Nat) (t : StI) (x1 x2 x3 : Int32) (h : 0 ≤ x3.toInt ∧ 4 - x3.toInt < (n : Int) ∧ 1 ≤ n) (hc : ChOk (t 0)), Sf (MQ_makeReady_2 F n t x1 x2 x3) (fun r => ChOk (r 0) ∧ RF 0 t r) := by
  intro n; induction n with
  | zero => intro t x1 x2 x3 h hc; omega
  | succ n ih =>
    intro t x1 x2 x3 h hc; rw [MQ_makeReady_2]
    have g1 : (x3 + (1 : Int32)).toInt = _ := iadd rfl (ilit (1 : Int32) (1) rfl)
    have g2 := ibd x3
    refine sf_le (ilit (4 : Int32) (4) rfl) rfl (fun c1 => sf_some ⟨hc, RF_refl _⟩) (fun c1 => ?_)
    have hn : 0 ≤ (x3 + (1 : Int32)).toInt ∧ 4 - (x3 + (1 : Int32)).toInt < (n : Int) ∧ 1 ≤ n := by omega
    refine sf_lt (a := (x1 + x3).toInt) rfl (ilit (0 : Int32) (0) rfl) (fun c2 => ?_) (fun c2 => ?_)
    · rw [MQ_makeReady_48]
      exact ih t x1 x2 _ hn hc
    refine sf_le (b := (x1 + x3).toInt) (ilit (20 : Int32) (20) rfl) rfl (fun c3 => ?_) (fun c3 => ?_)
    · rw [MQ_makeReady_48]
      exact ih t x1 x2 _ hn hc
    refine sf_idx (a := (x1 + x3).toInt) rfl (by omega) (by omega) ?_
    refine sf_up (fun t_9 h9 k9 => ?_)
    rw [MQ_makeReady_48]
    refine sf_imp (ih t_9 x1 x2 _ hn ?_) (fun r hr => ⟨hr.1, RF_trans k9 hr.2⟩)
    rw [h9]
    exact ch_upd hc _ _
theorem sp_MQ_makeReady (F : Nat) (hF : Big F) (t : StI) (x1 x2 : Int32) (hc : ChOk (t 0)) : Sf (MQ_makeReady F t x1 x2) (fun r => ChOk (r 0) ∧ RF 0 t r) := by
  rw [MQ_makeReady]
  have g0 := ilit (0 : Int32) (0) rfl
  exact sp_MQ_makeReady_2 F F t x1 x2 0 ⟨by omega, fuel_ok hF (by omega)⟩ hc
theorem sp_MQ_feed (F : Nat) (hF : Big F) (t : StI) (x1 x2 x3 x4 x5 : Int32) (hc : ChOk (t 0)) : Sf (MQ_feed F t x1 x2 x3 x4 x5) (fun r => ChOk (r 0) ∧ RF 0 t r) := by
  rw [MQ_feed]
  refine sf_bind (sp_MQ_makeReady F hF t _ _ hc) (fun r6 h6 => ?_)
  refine sf_bind (sp_MQ_makeReady F hF r6 _ _ h6.1) (fun r7 h7 => ?_)
  refine sf_bind (sp_MQ_makeReady F hF r7 _ _ h7.1) (fun r8 h8 => ?_)
  refine sf_bind (sp_MQ_makeReady F hF r8 _ _ h8.1) (fun r9 h9 => ?_)
  refine sf_bind (sp_MQ_makeReady F hF r9 _ _ h9.1) (fun r10 h10 => ?_)
  exact sf_some ⟨h10.1, RF_trans (RF_trans (RF_trans (RF_trans h6.2 h7.2) h8.2) h9.2) h10.2⟩
theorem ch_cpy {f g : Nat → Int32} (hf : ChOk f) (hg : ChOk g) (a b n : Nat) : ChOk (va_cpy f g a b n) := by
  intro i
  unfold va_cpy
  split
  · exact hf _
  · exact hg _
def endLen (x : Int) (n : Int) : Int := if n < 0 ∨ 20 < n ∨ 600 < x + n then -1 else x + n
def endSt (x : Int) (n : Int) : Int := if n < 0 ∨ 20 < n ∨ 600 < x + n then x else x + n
set_option maxHeartbeats 4000000 in
theorem sp_MQ_end (F : Nat) (hF : Big F) (t : StI) (x1 : Int32) (hc : ReadyOk t) (h : 0 ≤ (t 2 0).toInt ∧ (t 2 0).toInt ≤ 600) :
    Sf (MQ_end F t x1) (fun r => r.1.toInt = endLen (t 2 0).toInt x1.toInt ∧ (r.2 2 0).toInt = endSt (t 2 0).toInt x1.toInt ∧ ReadyOk r.2) := by
  rw [MQ_end]
  have g1 : ((t 2 0) + x1).toInt = _ := iadd rfl rfl
  have gm := ilit (-1 : Int32) (-1) rfl
  refine sf_lt rfl (ilit (0 : Int32) (0) rfl) (fun c1 => ?_) (fun c1 => ?_)
  · refine sf_some ⟨?_, ?_, hc⟩
    · show (-1 : Int32).toInt = _
      rw [endLen, if_pos (Or.inl c1)]; exact gm
    · rw [endSt, if_pos (Or.inl c1)]
  refine sf_lt (ilit (20 : Int32) (20) rfl) rfl (fun c2 => ?_) (fun c2 => ?_)
  · refine sf_some ⟨?_, ?_, hc⟩
    · show (-1 : Int32).toInt = _
      rw [endLen, if_pos (Or.inr (Or.inl c2))]; exact gm
    · rw [endSt, if_pos (Or.inr (Or.inl c2))]
  refine sf_le (a := ((t 2 0) + x1).toInt) rfl (ilit (600 : Int32) (600) rfl) (fun c3 => ?_) (fun c3 => ?_)
  · refine sf_neg (ilit (0 : Int32) (0) rfl) (by omega) ?_
    refine sf_neg rfl (by omega) ?_
    refine sf_neg rfl (by omega) ?_
    refine sf_cap (ilit (0 : Int32) (0) rfl) rfl (by omega) (by omega) (by omega) ?_
    refine sf_cap rfl rfl (by omega) (by omega) (by omega) ?_
    refine sf_all (fun i _ => hc.1 _) ?_
    refine sf_up (fun t_16 h1 h2 => ?_)
    refine sf_up (fun t_23 h3 h4 => ?_)
    have c0 : ChOk (t_23 0) := by
      rw [h4 0 (by decide), h2 0 (by decide)]
      exact hc.1
    refine sf_bind (sp_MQ_feed F hF t_23 _ _ _ _ _ c0) (fun r hr => ?_)
    have e1 : (r 2 0).toInt = (t_23 2 0).toInt := congrArg (fun q => Int32.toInt (q 0)) (hr.2 2 (by decide))
    have e2 : (t_23 2 0).toInt = _ := (congrArg (fun q => Int32.toInt (q 0)) h3).trans (iadd (x := t_16 2 0) (y := x1) rfl rfl)
    have e3 : (t_16 2 0).toInt = (t 2 0).toInt := congrArg (fun q => Int32.toInt (q 0)) (h2 2 (by decide))
    have hn : ¬ (x1.toInt < 0 ∨ 20 < x1.toInt ∨ 600 < (t 2 0).toInt + x1.toInt) := by omega
    refine sf_some ⟨?_, ?_, hr.1, ?_⟩
    · show (r 2 0).toInt = _
      rw [endLen, if_neg hn]; omega
    · show (r 2 0).toInt = _
      rw [endSt, if_neg hn]; omega
    · show ChOk (r 1)
      rw [hr.2 1 (by decide), h4 1 (by decide), h1]
      exact ch_cpy hc.1 hc.2 _ _ _
  · have hn : x1.toInt < 0 ∨ 20 < x1.toInt ∨ 600 < (t 2 0).toInt + x1.toInt := by omega
    refine sf_some ⟨?_, ?_, hc⟩
    · show (-1 : Int32).toInt = _
      rw [endLen, if_pos hn]; exact gm
    · rw [endSt, if_pos hn]
set_option maxHeartbeats 4000000 in
set_option maxRecDepth 100000 in
theorem sp_MQ_fault (F : Nat) (hF : Big F) (t : StI) (reader : StI) (x1 : Int32) (h : True) : Sf (MQ_fault F t reader x1) (fun r => True) := by
  rw [MQ_fault]
  have b_x1 := ibd x1
  refine sf_eq rfl (ilit (0 : Int32) (0) rfl) (fun c1 => ?_) (fun c1 => ?_)
  · skip
    exact sf_some trivial
  · skip
    refine sf_eq rfl (ilit (1 : Int32) (1) rfl) (fun c2 => ?_) (fun c2 => ?_)
    · skip
      exact sf_some trivial
    · skip
      exact sf_some trivial
set_option maxHeartbeats 4000000 in
set_option maxRecDepth 100000 in
theorem sp_MQ_atom (F : Nat) (hF : Big F) (t : StI) (query : StI) (x1 : Int32) (x2 : Int32) (h : (0 ≤ (query 1 0).toInt ∧ (query 1 0).toInt ≤ 600 ∧ 0 ≤ (query 3 0).toInt ∧ (query 3 0).toInt ≤ 40 ∧ 0 ≤ (query 13 0).toInt ∧ (query 13 0).toInt ≤ 229)) : Sf (MQ_atom F t query x1 x2) (fun r => True) := by
  rw [MQ_atom]
  have b_x1 := ibd x1
  have b_x2 := ibd x2
  refine sf_bind (sp_Query_has F hF query x1 (trivial)) (fun r14 h_r14 => ?_)
  refine sf_eq rfl (ilit (0 : Int32) (0) rfl) (fun c1 => ?_) (fun c1 => ?_)
  · skip
    exact sf_some trivial
  · skip
    refine sf_eq rfl (ilit (0 : Int32) (0) rfl) (fun c2 => ?_) (fun c2 => ?_)
    · skip
      refine sf_idx rfl (by first | (clear c2 b_x2; omega) | omega) (by first | (clear c2 b_x2; omega) | omega) ?_
      exact sf_some trivial
    · skip
      refine sf_eq rfl (ilit (1 : Int32) (1) rfl) (fun c3 => ?_) (fun c3 => ?_)
      · skip
        refine sf_idx rfl (by first | (clear c3 c2 b_x2; omega) | omega) (by first | (clear c3 c2 b_x2; omega) | omega) ?_
        have b5 := ibd ((query 5) x1.toNatClampNeg)
        refine sf_eq rfl (ilit (0 : Int32) (0) rfl) (fun c4 => ?_) (fun c4 => ?_)
        · skip
          exact sf_some trivial
        · skip
          exact sf_some trivial
      · skip
        refine sf_eq rfl (ilit (2 : Int32) (2) rfl) (fun c6 => ?_) (fun c6 => ?_)
        · skip
          refine sf_idx rfl (by first | (clear c6 c3 c2 b_x2; omega) | omega) (by first | (clear c6 c3 c2 b_x2; omega) | omega) ?_
          exact sf_some trivial
        · skip
          refine sf_eq rfl (ilit (3 : Int32) (3) rfl) (fun c7 => ?_) (fun c7 => ?_)
          · skip
            refine sf_idx rfl (by first | (clear c7 c6 c3 c2 b_x2; omega) | omega) (by first | (clear c7 c6 c3 c2 b_x2; omega) | omega) ?_
            exact sf_some trivial
          · skip
            refine sf_eq rfl (ilit (4 : Int32) (4) rfl) (fun c8 => ?_) (fun c8 => ?_)
            · skip
              refine sf_idx rfl (by first | (clear c8 c7 c6 c3 c2 b_x2; omega) | omega) (by first | (clear c8 c7 c6 c3 c2 b_x2; omega) | omega) ?_
              exact sf_some trivial
            · skip
              exact sf_some trivial
set_option maxHeartbeats 4000000 in
set_option maxRecDepth 100000 in
theorem sp_MQ_atomByte (F : Nat) (hF : Big F) (t : StI) (query : StI) (x1 : Int32) (x2 : Int32) (h : (0 ≤ (query 1 0).toInt ∧ (query 1 0).toInt ≤ 600 ∧ 0 ≤ (query 3 0).toInt ∧ (query 3 0).toInt ≤ 40 ∧ 0 ≤ (query 13 0).toInt ∧ (query 13 0).toInt ≤ 229)) : Sf (MQ_atomByte F t query x1 x2) (fun r => True) := by
  rw [MQ_atomByte]
  have b_x1 := ibd x1
  have b_x2 := ibd x2
  refine sf_bind (sp_Query_has F hF query x1 (trivial)) (fun r8 h_r8 => ?_)
  refine sf_eq rfl (ilit (0 : Int32) (0) rfl) (fun c1 => ?_) (fun c1 => ?_)
  · skip
    exact sf_some trivial
  · skip
    refine sf_lt rfl (ilit (0 : Int32) (0) rfl) (fun c2 => ?_) (fun c2 => ?_)
    · skip
      exact sf_some trivial
    · skip
      refine sf_idx rfl (by first | (clear c2 b_x2; omega) | omega) (by first | (clear c2 b_x2; omega) | omega) ?_
      have b4 := ibd ((query 7) x1.toNatClampNeg)
      refine sf_lt rfl rfl (fun c3 => ?_) (fun c3 => ?_)
      · skip
        refine sf_idx rfl (by omega) (by omega) ?_
        have g5 : ((((query 6) x1.toNatClampNeg) + x2)).toInt = _ := (iadd rfl rfl)
        refine sf_bind (sp_Query_byteAt F hF query (((query 6) x1.toNatClampNeg) + x2) (by omega)) (fun r14 h_r14 => ?_)
        exact sf_some trivial
      · skip
        exact sf_some trivial
set_option maxHeartbeats 4000000 in
set_option maxRecDepth 100000 in
theorem sp_MQ_range (F : Nat) (hF : Big F) (t : StI) (query : StI) (x1 : Int32) (x2 : Int32) (h : (0 ≤ (query 1 0).toInt ∧ (query 1 0).toInt ≤ 600 ∧ 0 ≤ (query 3 0).toInt ∧ (query 3 0).toInt ≤ 40 ∧ 0 ≤ (query 13 0).toInt ∧ (query 13 0).toInt ≤ 229)) : Sf (MQ_range F t query x1 x2) (fun r => True) := by
  rw [MQ_range]
  have b_x1 := ibd x1
  have b_x2 := ibd x2
  refine sf_bind (sp_Query_has F hF query x1 (trivial)) (fun r7 h_r7 => ?_)
  refine sf_eq rfl (ilit (0 : Int32) (0) rfl) (fun c1 => ?_) (fun c1 => ?_)
  · skip
    exact sf_some trivial
  · skip
    refine sf_eq rfl (ilit (0 : Int32) (0) rfl) (fun c2 => ?_) (fun c2 => ?_)
    · skip
      refine sf_idx rfl (by first | (clear c2 b_x2; omega) | omega) (by first | (clear c2 b_x2; omega) | omega) ?_
      exact sf_some trivial
    · skip
      refine sf_eq rfl (ilit (1 : Int32) (1) rfl) (fun c3 => ?_) (fun c3 => ?_)
      · skip
        refine sf_idx rfl (by first | (clear c3 c2 b_x2; omega) | omega) (by first | (clear c3 c2 b_x2; omega) | omega) ?_
        exact sf_some trivial
      · skip
        exact sf_some trivial
set_option maxHeartbeats 4000000 in
set_option maxRecDepth 100000 in
theorem sp_MQ_tree (F : Nat) (hF : Big F) (t : StI) (query : StI) (x1 : Int32) (h : (0 ≤ (query 1 0).toInt ∧ (query 1 0).toInt ≤ 600 ∧ 0 ≤ (query 3 0).toInt ∧ (query 3 0).toInt ≤ 40 ∧ 0 ≤ (query 13 0).toInt ∧ (query 13 0).toInt ≤ 229)) : Sf (MQ_tree F t query x1) (fun r => True) := by
  rw [MQ_tree]
  have b_x1 := ibd x1
  refine sf_bind (sp_Query_entryAt F hF query x1 (by first | (clear b_x1; omega) | omega)) (fun r2 h_r2 => ?_)
  exact sf_some trivial
set_option maxHeartbeats 4000000 in
set_option maxRecDepth 100000 in
theorem sp_MQ_print (F : Nat) (hF : Big F) (t : StI) (printer : StI) (query : StI) (printer_due : StI) (printer_dueL : StL) (h : (0 ≤ (printer 1 0).toInt ∧ (printer 1 0).toInt ≤ 1200) ∧ (0 ≤ (query 1 0).toInt ∧ (query 1 0).toInt ≤ 600 ∧ 0 ≤ (query 3 0).toInt ∧ (query 3 0).toInt ≤ 40 ∧ 0 ≤ (query 13 0).toInt ∧ (query 13 0).toInt ≤ 229) ∧ (0 ≤ (printer_due 1 0).toInt ∧ (printer_due 1 0).toInt ≤ 160)) : Sf (MQ_print F t printer query printer_due printer_dueL) (fun r => (0 ≤ (r.2.1 1 0).toInt ∧ (r.2.1 1 0).toInt ≤ 1200) ∧ (0 ≤ (r.2.2.1 1 0).toInt ∧ (r.2.2.1 1 0).toInt ≤ 160)) := by
  rw [MQ_print]
  refine sf_bind (sp_Printer_write F hF printer query printer_due printer_dueL (by omega)) (fun r2 h_r2 => ?_)
  (try dsimp only at h_r2)
  refine sf_some ?_
  (try dsimp only)
  omega
set_option maxHeartbeats 4000000 in
set_option maxRecDepth 100000 in
theorem sp_MQ_printed (F : Nat) (hF : Big F) (t : StI) (printer : StI) (x1 : Int32) (h : (0 ≤ (printer 1 0).toInt ∧ (printer 1 0).toInt ≤ 1200)) : Sf (MQ_printed F t printer x1) (fun r => True) := by
  rw [MQ_printed]
  have b_x1 := ibd x1
  refine sf_bind (sp_Printer_byteAt F hF printer x1 (by first | (clear b_x1; omega) | omega)) (fun r2 h_r2 => ?_)
  exact sf_some trivial
theorem sp_MQ_normal (F : Nat) (hF : Big F) (t query rows : StI) (rowsL : StL) (pile : StI) (pileL : StL) (hI : RowsI rows) (hs : (0 ≤ (rows 2 0).toInt ∧ (rows 2 0).toInt ≤ 2400 ∧ 0 ≤ (rows 5 0).toInt ∧ (rows 5 0).toInt ≤ 40 ∧ 0 ≤ (rows 10 0).toInt ∧ (rows 10 0).toInt ≤ 200)) (h : (0 ≤ (query 1 0).toInt ∧ (query 1 0).toInt ≤ 600 ∧ 0 ≤ (query 3 0).toInt ∧ (query 3 0).toInt ≤ 40 ∧ 0 ≤ (query 13 0).toInt ∧ (query 13 0).toInt ≤ 229) ∧ (0 ≤ (pile 1 0).toInt ∧ (pile 1 0).toInt ≤ 41)) : Sf (MQ_normal F t query rows rowsL pile pileL) (fun r => RowsI r.2.1 ∧ (0 ≤ (r.2.1 2 0).toInt ∧ (r.2.1 2 0).toInt ≤ 2400 ∧ 0 ≤ (r.2.1 5 0).toInt ∧ (r.2.1 5 0).toInt ≤ 40 ∧ 0 ≤ (r.2.1 10 0).toInt ∧ (r.2.1 10 0).toInt ≤ 200) ∧ (0 ≤ (r.2.2.2.1 1 0).toInt ∧ (r.2.2.2.1 1 0).toInt ≤ 41)) := by
  rw [MQ_normal]
  refine sf_bind (sp_Rows_make F hF rows rowsL query pile pileL hI hs h) (fun r hr => ?_)
  exact sf_some hr
set_option maxHeartbeats 4000000 in
set_option maxRecDepth 100000 in
theorem sp_MQ_row (F : Nat) (hF : Big F) (t : StI) (rows : StI) (rowsL : StL) (x1 : Int32) (x2 : Int32) (h : (0 ≤ (rows 2 0).toInt ∧ (rows 2 0).toInt ≤ 2400 ∧ 0 ≤ (rows 5 0).toInt ∧ (rows 5 0).toInt ≤ 40 ∧ 0 ≤ (rows 10 0).toInt ∧ (rows 10 0).toInt ≤ 200)) : Sf (MQ_row F t rows rowsL x1 x2) (fun r => True) := by
  rw [MQ_row]
  have b_x1 := ibd x1
  have b_x2 := ibd x2
  refine sf_bind (sp_Rows_bitsOf F hF rows rowsL x1 x2 (by first | (clear b_x2 b_x1; omega) | omega)) (fun r2 h_r2 => ?_)
  exact sf_some trivial
set_option maxHeartbeats 4000000 in
set_option maxRecDepth 100000 in
theorem sp_MQ_ask (F : Nat) (hF : Big F) (t : StI) (judgeL : StL) (query : StI) (judge_pile : StI) (judge_pileL : StL) (x1 : Int64) (h : (0 ≤ (query 1 0).toInt ∧ (query 1 0).toInt ≤ 600 ∧ 0 ≤ (query 3 0).toInt ∧ (query 3 0).toInt ≤ 40 ∧ 0 ≤ (query 13 0).toInt ∧ (query 13 0).toInt ≤ 229) ∧ (0 ≤ (judge_pile 1 0).toInt ∧ (judge_pile 1 0).toInt ≤ 40)) : Sf (MQ_ask F t judgeL query judge_pile judge_pileL x1) (fun r => (r.1.toInt = 0 ∨ r.1.toInt = 1) ∧ (0 ≤ (r.2.2.1 1 0).toInt ∧ (r.2.2.1 1 0).toInt ≤ 40)) := by
  rw [MQ_ask]
  refine sf_bind (sp_Judge_accepts F hF judgeL query judge_pile judge_pileL x1 (by omega)) (fun r3 h_r3 => ?_)
  (try dsimp only at h_r3)
  refine sf_b01 (by omega) ?_
  refine sf_some ?_
  (try dsimp only)
  omega
set_option maxHeartbeats 4000000 in
set_option maxRecDepth 100000 in
theorem sp_MQ_ways (F : Nat) (hF : Big F) (t : StI) (judgeL : StL) (query : StI) (judge_pile : StI) (judge_pileL : StL) (h : (0 ≤ (query 1 0).toInt ∧ (query 1 0).toInt ≤ 600 ∧ 0 ≤ (query 3 0).toInt ∧ (query 3 0).toInt ≤ 40 ∧ 0 ≤ (query 13 0).toInt ∧ (query 13 0).toInt ≤ 229) ∧ (0 ≤ (judge_pile 1 0).toInt ∧ (judge_pile 1 0).toInt ≤ 40)) : Sf (MQ_ways F t judgeL query judge_pile judge_pileL) (fun r => (0 ≤ (r.2.2.1 1 0).toInt ∧ (r.2.2.1 1 0).toInt ≤ 40)) := by
  rw [MQ_ways]
  refine sf_bind (sp_Judge_countWays F hF judgeL query judge_pile judge_pileL (by omega)) (fun r2 h_r2 => ?_)
  (try dsimp only at h_r2)
  refine sf_some ?_
  (try dsimp only)
  omega

