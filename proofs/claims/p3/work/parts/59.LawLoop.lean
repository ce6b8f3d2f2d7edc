theorem in_r {i : Int32} {L : Nat} (hL : L ≤ 3072) (h0 : 0 ≤ i.toInt) (h1 : i.toInt + 6 ≤ (L : Int)) : InR i L := by
  have key : ∀ (k : Int32) (n : Int), k.toInt = n → 0 ≤ n → n ≤ 5 → vp_in (i + k) L := by
    intro k n hk hn0 hn5
    have e1 : (i + k).toInt = _ := iadd rfl hk
    show ¬ ((i + k) < 0 ∨ L ≤ (i + k).toNatClampNeg)
    rw [Int32.lt_iff_toInt_lt, ilit 0 0 rfl, iclamp]
    omega
  refine ⟨?_, key 1 1 rfl (by omega) (by omega), key 2 2 rfl (by omega) (by omega), key 3 3 rfl (by omega) (by omega), key 4 4 rfl (by omega) (by omega), key 5 5 rfl (by omega) (by omega)⟩
  show ¬ (i < 0 ∨ L ≤ i.toNatClampNeg)
  rw [Int32.lt_iff_toInt_lt, ilit 0 0 rfl, iclamp]
  omega
theorem out_tab {z : Int32} (h : ∀ k : Int32, k ∈ ([0, 1, 2, 3, 4, 5, 6, 7, 8, 9, 10, 11, 12, 13] : List Int32) → z ≠ k) : z.toInt < 0 ∨ 13 < z.toInt := by
  have key : ∀ (k : Int32) (n : Int), k.toInt = n → z ≠ k → z.toInt ≠ n := fun k n hk hne he => hne (Int32.toInt_inj.mp (he.trans hk.symm))
  have h0 := key 0 0 rfl (h 0 (by decide))
  have h1 := key 1 1 rfl (h 1 (by decide))
  have h2 := key 2 2 rfl (h 2 (by decide))
  have h3 := key 3 3 rfl (h 3 (by decide))
  have h4 := key 4 4 rfl (h 4 (by decide))
  have h5 := key 5 5 rfl (h 5 (by decide))
  have h6 := key 6 6 rfl (h 6 (by decide))
  have h7 := key 7 7 rfl (h 7 (by decide))
  have h8 := key 8 8 rfl (h 8 (by decide))
  have h9 := key 9 9 rfl (h 9 (by decide))
  have h10 := key 10 10 rfl (h 10 (by decide))
  have h11 := key 11 11 rfl (h 11 (by decide))
  have h12 := key 12 12 rfl (h 12 (by decide))
  have h13 := key 13 13 rfl (h 13 (by decide))
  clear h key
  omega
set_option maxHeartbeats 4000000 in
set_option maxRecDepth 100000 in
theorem law_loop {p : Program} {l : Launch} {e : Env} {s : State} {m : MethodId} {below : List Frame} {meth : Method} {c : Code} {g : Gz} {b L : Nat} {xs : Nat → Int32} {F : Nat} {MI : StI → StL → Prop} {ML : StI → Int} (hC : LC p l s m meth c g b L xs) (hF : Big F) (hMo : MoOk F MI ML) (hL3 : L ≤ 3072) : ∀ (n : Nat) (a : Nat → Nat → Nat) (x : Nat → StI) (y : Nat → StL) (i : Int32) (cells slots : Nat) (H : Heap) (locs : List Loc) (ls : Array Slot), INV x → MI (x 11) (y 11) → ML (x 11) = (x 0 2 0).toInt → 0 ≤ i.toInt → i.toInt ≤ 4000 → (L : Int) - i.toInt < 6 * (n : Int) → cells + n ≤ 601024 → slots + 6 * n ≤ 7293034 → va_P (gD g) vwCl (w_cls g a x y) H → va_D (A0 s) (w_cls g a x y) → va_P (gD g) vwCl (pic_Mo g (a 11) (x 11) (y 11)) H → va_D (A0 s) (pic_Mo g (a 11) (x 11) (y 11)) → Apart (w_cls g a x y) (pic_Mo g (a 11) (x 11) (y 11)) → va_S (A0 s) s.heap H locs → lv_has ls 7 (lvL b a i) → W p l e room_1 s m #[Value.ref b] below meth c H locs cells slots (lw_Z below #[Value.ref b] s) (F0 m 23 ls []) := by
  obtain ⟨hx, hb, hr, hml, hown, htb, hlocks, hX, hbl, hG, hXS, hno⟩ := id hC
  have hbA : ¬ A0 s b := Nat.not_le.mpr hbl
  have eL : (Int32.ofNat L).toInt = (L : Int) := iofn L (by omega)
  have e6 : (Int32.ofNat L - 6).toInt = _ := isub eL (ilit 6 6 rfl)
  intro n
  induction n with
  | zero =>
    intro a x y i cells slots H locs ls hI hM hL h0 h4 hn hc1 hc2 hP hD hPm hDm hap hS hl
    refine lv_iload hx hb d_LW_23 (lv_at hl 0 rfl) ?_
    refine lv_aload_n hx hb d_LW_25 rfl (lv_at hl 4 rfl) ?_
    refine va_slen hx hb hX hbl hbA hS d_LW_26 ?_
    refine lv_bipush (v := 6) hx hb d_LW_27 (by decide) ?_
    refine lv_isub hx hb d_LW_29 ?_
    refine lv_icmp_gt (tgt := 565) hx hb d_LW_30 (by decide) (fun c1 => ?_) (fun c1 => ?_)
    · refine va_forget hS.2.2 ?_
      refine W.widen (k := 601024) (n := 7293034) (by omega) (by omega) ?_
      refine lv_iconst (v := 1) hx hb d_LW_565 (by decide) ?_
      exact lw_ret hx hb hr hlocks d_LW_566
    · exfalso
      have c2 : ¬ (Int32.ofNat L - 6) < i := c1
      rw [Int32.lt_iff_toInt_lt, e6] at c2
      omega
  | succ n ih =>
    intro a x y i cells slots H locs ls hI hM hL h0 h4 hn hc1 hc2 hP hD hPm hDm hap hS hl
    refine lv_iload hx hb d_LW_23 (lv_at hl 0 rfl) ?_
    refine lv_aload_n hx hb d_LW_25 rfl (lv_at hl 4 rfl) ?_
    refine va_slen hx hb hX hbl hbA hS d_LW_26 ?_
    refine lv_bipush (v := 6) hx hb d_LW_27 (by decide) ?_
    refine lv_isub hx hb d_LW_29 ?_
    refine lv_icmp_gt (tgt := 565) hx hb d_LW_30 (by decide) (fun c1 => ?_) (fun c1 => ?_)
    · refine va_forget hS.2.2 ?_
      refine W.widen (k := 601024) (n := 7293034) (by omega) (by omega) ?_
      refine lv_iconst (v := 1) hx hb d_LW_565 (by decide) ?_
      exact lw_ret hx hb hr hlocks d_LW_566
    have c2 : ¬ (Int32.ofNat L - 6) < i := c1
    rw [Int32.lt_iff_toInt_lt, e6] at c2
    have hi6 : i.toInt + 6 ≤ (L : Int) := by omega
    have hin := in_r hL3 h0 hi6
    have hcs : cells + 1 ≤ 601024 ∧ slots + 6 ≤ 7293034 := by omega
    have K : Nxt p l e s m below meth c g b MI ML i (cells + 1) (slots + 6) := by
      intro a x y H locs ls hI hM hL hP hD hPm hDm hap hS hl
      refine lv_iinc (v := i + 6) (lv' := lvL b a (i + 6)) hx hb d_LW_559 hl (k := 0) rfl rfl (by decide) rfl (fun ls hl => ?_)
      refine lv_goto (tgt := 23) hx hb d_LW_562 (by decide) ?_
      have e7 : (i + 6).toInt = _ := iadd rfl (ilit 6 6 rfl)
      exact ih a x y (i + 6) (cells + 1) (slots + 6) H locs ls hI hM hL (by omega) (by omega) (by omega) (by omega) (by omega) hP hD hPm hDm hap hS hl
    refine lv_aload_n hx hb d_LW_33 rfl (lv_at hl 4 rfl) ?_
    refine lv_iload hx hb d_LW_34 (lv_at hl 0 rfl) ?_
    refine va_sld hx hb hX hbl hbA hS hin.1 d_LW_36 ?_
    refine lv_bipush (v := 15) hx hb d_LW_37 (by decide) ?_
    refine lv_iand hx hb d_LW_39 ?_
    generalize (xs i.toNatClampNeg &&& 15) = z
    by_cases z0 : z = 0
    · refine lv_tableIn (off := 72) (tgt := 112) hx hb d_LW_40 (by rw [z0]; decide) (by rw [z0]; decide) (by rw [z0]; rfl) (by decide) ?_
      exact lc_feed hC hF hMo hin hcs hI hM hL hP hD hPm hDm hap hS hl K
    by_cases z1 : z = 1
    · refine lv_tableIn (off := 143) (tgt := 183) hx hb d_LW_40 (by rw [z1]; decide) (by rw [z1]; decide) (by rw [z1]; rfl) (by decide) ?_
      exact lc_end hC hF hMo hin hcs hI hM hL hP hD hPm hDm hap hS hl K
    by_cases z2 : z = 2
    · refine lv_tableIn (off := 168) (tgt := 208) hx hb d_LW_40 (by rw [z2]; decide) (by rw [z2]; decide) (by rw [z2]; rfl) (by decide) ?_
      obtain ⟨res, e1, p1⟩ := sp_MQ_readF F hF (x 0) (x 2) (x 3) (x 4) hI.1
      by_cases h1 : res.1 = 0
      · exact lc_readX hC hF hMo hin hcs hI hM hL hP hD hPm hDm hap hS hl K e1 h1 p1
      · exact lc_readOk hC hF hMo hin hcs hI hM hL hP hD hPm hDm hap hS hl K e1 h1 p1
    by_cases z3 : z = 3
    · refine lv_tableIn (off := 184) (tgt := 224) hx hb d_LW_40 (by rw [z3]; decide) (by rw [z3]; decide) (by rw [z3]; rfl) (by decide) ?_
      exact lc_fault hC hF hMo hin hcs hI hM hL hP hD hPm hDm hap hS hl K
    by_cases z4 : z = 4
    · refine lv_tableIn (off := 209) (tgt := 249) hx hb d_LW_40 (by rw [z4]; decide) (by rw [z4]; decide) (by rw [z4]; rfl) (by decide) ?_
      exact lc_atom hC hF hMo hin hcs hI hM hL hP hD hPm hDm hap hS hl K
    by_cases z5 : z = 5
    · refine lv_tableIn (off := 246) (tgt := 286) hx hb d_LW_40 (by rw [z5]; decide) (by rw [z5]; decide) (by rw [z5]; rfl) (by decide) ?_
      exact lc_atomByte hC hF hMo hin hcs hI hM hL hP hD hPm hDm hap hS hl K
    by_cases z6 : z = 6
    · refine lv_tableIn (off := 283) (tgt := 323) hx hb d_LW_40 (by rw [z6]; decide) (by rw [z6]; decide) (by rw [z6]; rfl) (by decide) ?_
      exact lc_range hC hF hMo hin hcs hI hM hL hP hD hPm hDm hap hS hl K
    by_cases z7 : z = 7
    · refine lv_tableIn (off := 320) (tgt := 360) hx hb d_LW_40 (by rw [z7]; decide) (by rw [z7]; decide) (by rw [z7]; rfl) (by decide) ?_
      exact lc_tree hC hF hMo hin hcs hI hM hL hP hD hPm hDm hap hS hl K
    by_cases z8 : z = 8
    · refine lv_tableIn (off := 345) (tgt := 385) hx hb d_LW_40 (by rw [z8]; decide) (by rw [z8]; decide) (by rw [z8]; rfl) (by decide) ?_
      exact lc_print hC hF hMo hin hcs hI hM hL hP hD hPm hDm hap hS hl K
    by_cases z9 : z = 9
    · refine lv_tableIn (off := 358) (tgt := 398) hx hb d_LW_40 (by rw [z9]; decide) (by rw [z9]; decide) (by rw [z9]; rfl) (by decide) ?_
      exact lc_printed hC hF hMo hin hcs hI hM hL hP hD hPm hDm hap hS hl K
    by_cases z10 : z = 10
    · refine lv_tableIn (off := 383) (tgt := 423) hx hb d_LW_40 (by rw [z10]; decide) (by rw [z10]; decide) (by rw [z10]; rfl) (by decide) ?_
      exact lc_normal hC hF hMo hin hcs hI hM hL hP hD hPm hDm hap hS hl K
    by_cases z11 : z = 11
    · refine lv_tableIn (off := 396) (tgt := 436) hx hb d_LW_40 (by rw [z11]; decide) (by rw [z11]; decide) (by rw [z11]; rfl) (by decide) ?_
      exact lc_row hC hF hMo hin hcs hI hM hL hP hD hPm hDm hap hS hl K
    by_cases z12 : z = 12
    · refine lv_tableIn (off := 449) (tgt := 489) hx hb d_LW_40 (by rw [z12]; decide) (by rw [z12]; decide) (by rw [z12]; rfl) (by decide) ?_
      exact lc_ask hC hF hMo hin hcs hI hM hL hP hD hPm hDm hap hS hl K
    by_cases z13 : z = 13
    · refine lv_tableIn (off := 506) (tgt := 546) hx hb d_LW_40 (by rw [z13]; decide) (by rw [z13]; decide) (by rw [z13]; rfl) (by decide) ?_
      exact lc_ways hC hF hMo hin hcs hI hM hL hP hD hPm hDm hap hS hl K
    refine lv_tableOut (tgt := 559) hx hb d_LW_40 (out_tab (fun k hk => ?_)) (by decide) ?_
    · simp only [List.mem_cons, List.not_mem_nil, or_false] at hk
      rcases hk with rfl | rfl | rfl | rfl | rfl | rfl | rfl | rfl | rfl | rfl | rfl | rfl | rfl | rfl <;> assumption
    refine W.widen (k := cells + 1) (n := slots + 6) (by omega) (by omega) ?_
    exact K a x y H locs ls hI hM hL hP hD hPm hDm hap hS hl

