theorem IN_MQ : (Jvm.Cond.instantiable "MailQueries" (8 : Nat)) ∈ TBL := TBL_in (List.mem_of_getElem? (i := 122) (by decide +kernel)) (by decide +kernel)
theorem IN_Mo : (Jvm.Cond.instantiable "MailQueriesModel" (64 : Nat)) ∈ TBL := TBL_in (List.mem_of_getElem? (i := 949) (by decide +kernel)) (by decide +kernel)

/-! what the law's start gives: the classes, the arrays' classes, the literals, the tables, the statics -/
def strTm (i : Nat) : Term := match strL.find? (fun x => x.2.2.2 == i) with
  | some x => .string x.1 x.2.1
  | none => .arg 0
def nar0 : Cond := Jvm.Cond.and given_1 narrow_1
def flat0 : List Cond := flatC nar0
theorem s_ex : ∀ i, i < nStr → Cond.exactly (strTm i) "java/lang/String" ∈ flat0 := by decide +kernel
theorem s_co : ∀ i, i < nStr → Cond.eq (.field (strTm i) "java/lang/String" "coder" "B") (.int 0) ∈ flat0 := by decide +kernel
theorem s_ar : ∀ i, i < nStr → Cond.arrayOf (.field (strTm i) "java/lang/String" "value" "[B") .byte ∈ flat0 := by decide +kernel
theorem s_le : ∀ i, i < nStr → Cond.eq (.length (.field (strTm i) "java/lang/String" "value" "[B")) (.int (Int32.ofNat (lenStr.getD i 0))) ∈ flat0 := by decide +kernel
theorem s_el : ∀ i, i < nStr → ∀ j, j < lenStr.getD i 0 → Cond.eq (.elem (.field (strTm i) "java/lang/String" "value" "[B") (.int (Int32.ofNat j))) (.int ((bytStr.getD i []).getD j 0)) ∈ flat0 := by decide +kernel
/-- no two of the literals have one text -/
theorem s_dif : ∀ i, i < nStr → ∀ j, j < nStr → i ≠ j → lenStr.getD i 0 ≠ lenStr.getD j 0 ∨ ∃ k, k < lenStr.getD i 0 ∧ (bytStr.getD i []).getD k 0 ≠ (bytStr.getD j []).getD k 0 := by decide +kernel
theorem s_two : ∀ x ∈ strL, strTm x.2.2.2 = .string x.1 x.2.1 ∨ Cond.eq (strTm x.2.2.2) (.string x.1 x.2.1) ∈ flat0 ∨ Cond.eq (.string x.1 x.2.1) (strTm x.2.2.2) ∈ flat0 := by decide +kernel
theorem s_ref : ∀ x ∈ strL, Cond.stringRef x.1 x.2.1 x.2.2.1 ∈ lw_tbl ∧ x.2.2.2 < nStr := by decide +kernel
theorem s_ne {args : Array Value} {s : State} (hs : ∀ c ∈ flat0, c.before args s = true) {i j : Nat} (hi : i < nStr) (hj : j < nStr) (hij : i ≠ j) : (Cond.not (Cond.eq (strTm i) (strTm j))).before args s = true := by
  obtain ⟨a, c, cA, kA, q1, -⟩ := Cond.exactly_spec (args := args) (first := s) (o := none) (s := s) (idx := []) (t := strTm i) (cls := "java/lang/String") (hs _ (s_ex i hi))
  obtain ⟨a', c', cA', kA', q1', -⟩ := Cond.exactly_spec (args := args) (first := s) (o := none) (s := s) (idx := []) (t := strTm j) (cls := "java/lang/String") (hs _ (s_ex j hj))
  have hne : a ≠ a' := by
    intro e
    subst e
    have hf : (Term.field (strTm i) "java/lang/String" "value" "[B").eval args s none [] s = (Term.field (strTm j) "java/lang/String" "value" "[B").eval args s none [] s := by
      simp only [Term.eval, q1, q1']
    have hl : (Term.length (.field (strTm i) "java/lang/String" "value" "[B")).eval args s none [] s = (Term.length (.field (strTm j) "java/lang/String" "value" "[B")).eval args s none [] s := by
      simp only [Term.eval, q1, q1']
    have hk : ∀ k : Nat, (Term.elem (.field (strTm i) "java/lang/String" "value" "[B") (.int (Int32.ofNat k))).eval args s none [] s = (Term.elem (.field (strTm j) "java/lang/String" "value" "[B") (.int (Int32.ofNat k))).eval args s none [] s := by
      intro k
      simp only [Term.eval, q1, q1']
    have hl1 := va_eqt (hs _ (s_le i hi))
    have hl2 := va_eqt (hs _ (s_le j hj))
    rw [hl, hl2] at hl1
    have hl3 : Int32.ofNat (lenStr.getD j 0) = Int32.ofNat (lenStr.getD i 0) := by simpa using hl1
    have hb1 := lenStr_lt i hi
    have hb2 := lenStr_lt j hj
    have hl4 : lenStr.getD i 0 = lenStr.getD j 0 := by
      have h5 := congrArg Int32.toInt hl3
      rw [Int32.toInt_ofNat_of_lt hb2, Int32.toInt_ofNat_of_lt hb1] at h5
      omega
    rcases s_dif i hi j hj hij with h | ⟨k, h, h6⟩
    · exact h hl4
    · have e1 := va_eqt (hs _ (s_el i hi k h))
      have e2 := va_eqt (hs _ (s_el j hj k (hl4 ▸ h)))
      rw [hk k, e2] at e1
      have e3 : (bytStr.getD j []).getD k 0 = (bytStr.getD i []).getD k 0 := by simpa using e1
      exact h6 e3.symm
  simp [Cond.before, Cond.holds, Cond.value, q1, q1', hne]
theorem t_d1 : Cond.arrayOf (.static "MailQueries$Span" "DAYS_BEFORE" "[I") .int ∈ flat0 ∧ Cond.eq (.length (.static "MailQueries$Span" "DAYS_BEFORE" "[I")) (.int (Int32.ofNat 13)) ∈ flat0 ∧ (∀ j, j < 13 → Cond.eq (.elem (.static "MailQueries$Span" "DAYS_BEFORE" "[I") (.int (Int32.ofNat j))) (.int (tabDAYS j)) ∈ flat0) ∧ Cond.laysStatic "MailQueries$Span" "DAYS_BEFORE" "[I" ∈ lw_tbl ∧ Cond.initialized "MailQueries$Span" ∈ lw_tbl := by decide +kernel
theorem t_p1 : Cond.arrayOf (.static "MailQueries$Judge" "PATTERNS" "[J") .long ∈ flat0 ∧ Cond.eq (.length (.static "MailQueries$Judge" "PATTERNS" "[J")) (.int (Int32.ofNat 6)) ∈ flat0 ∧ (∀ j, j < 6 → Cond.eq (.elem (.static "MailQueries$Judge" "PATTERNS" "[J") (.int (Int32.ofNat j))) (.long (tabPATT j)) ∈ flat0) ∧ Cond.laysStatic "MailQueries$Judge" "PATTERNS" "[J" ∈ lw_tbl ∧ Cond.initialized "MailQueries$Judge" ∈ lw_tbl := by decide +kernel
theorem t_s1 : Cond.eq (.static "java/lang/String" "COMPACT_STRINGS" "Z") (.int 1) ∈ flat0 ∧ Cond.laysStatic "java/lang/String" "COMPACT_STRINGS" "Z" ∈ lw_tbl ∧ Cond.initialized "java/lang/String" ∈ lw_tbl ∧ Cond.isRef (.static "jdk/internal/util/Preconditions" "SIOOBE_FORMATTER" "Ljava/util/function/BiFunction;") ∈ flat0 ∧ Cond.laysStatic "jdk/internal/util/Preconditions" "SIOOBE_FORMATTER" "Ljava/util/function/BiFunction;" ∈ lw_tbl ∧ Cond.initialized "jdk/internal/util/Preconditions" ∈ lw_tbl := by decide +kernel
theorem t_x1 : Cond.laysStatic Bundle.tN "UNASSIGNED_STACK" Bundle.steD ∈ lw_tbl ∧ Cond.laysStatic Bundle.tN "SUPPRESSED_SENTINEL" Bundle.listD ∈ lw_tbl ∧ Cond.initialized Bundle.tN ∈ lw_tbl ∧ Cond.isRef (.static Bundle.tN "UNASSIGNED_STACK" Bundle.steD) ∈ flat0 ∧ Cond.isRef (.static Bundle.tN "SUPPRESSED_SENTINEL" Bundle.listD) ∈ flat0 ∧ ∀ w ∈ iaeW, w ∈ lw_tbl := by decide +kernel
theorem n_f1 : ∀ x ∈ nwF, Cond.fieldLinkNest x.1 x.2.1 x.2.2.1 x.2.2.2.1 x.2.2.2.2.1 x.2.2.2.2.2 ∈ lw_tbl := by decide +kernel
theorem n_m1 : ∀ x ∈ nwM, Cond.methodLinkNest x.1 x.2.1 x.2.2.1 x.2.2.2 ∈ lw_tbl := by decide +kernel
theorem arr_of {args : Array Value} {s : State} {ty : FieldType} (h : (Cond.arrayClass ty).before args s = true) : ∃ c : ClassId, ArrOfT s c ty ∧ s.vm.findClass ("[" ++ ty.toString) = some c := by
  obtain ⟨c, k, comp, h1, h2, h3⟩ := Cond.arrayClass_spec h
  exact ⟨c, fun n z => ⟨fun k h => (by cases h), k, h2, comp, h3⟩, h1⟩

set_option maxHeartbeats 4000000 in
set_option maxRecDepth 100000 in
/-- all that the methods know of the surroundings, at the law's start; A holds no cell that is there -/
theorem start_G {args : Array Value} {s : State} {A : Nat → Prop} (hts : ∀ w ∈ lw_tbl, w.before args s = true) (hs : ∀ c ∈ flat0, c.before args s = true) (hA : ∀ a : Nat, a < s.heap.size → ¬ A a) : ∃ g : Gz, Gx g A s s.heap := by
  have htb := TBL_all hts
  obtain ⟨c0, i0, k0⟩ := u_known (C := R_Pile) (T := T_Pile) (N := 2) (n := 2) htb in_Pile (htb _ IN_Pile)
  obtain ⟨c1, i1, k1⟩ := u_known (C := R_Query) (T := T_Query) (N := 14) (n := 14) htb in_Query (htb _ IN_Query)
  obtain ⟨c2, i2, k2⟩ := u_known (C := R_Span) (T := T_Span) (N := 2) (n := 2) htb in_Span (htb _ IN_Span)
  obtain ⟨c3, i3, k3⟩ := u_known (C := R_Reader) (T := T_Reader) (N := 9) (n := 9) htb in_Reader (htb _ IN_Reader)
  obtain ⟨c4, i4, k4⟩ := u_known (C := R_Printer) (T := T_Printer) (N := 4) (n := 4) htb in_Printer (htb _ IN_Printer)
  obtain ⟨c5, i5, k5⟩ := u_known (C := R_Judge) (T := T_Judge) (N := 2) (n := 2) htb in_Judge (htb _ IN_Judge)
  obtain ⟨c6, i6, k6⟩ := u_known (C := R_Rows) (T := T_Rows) (N := 11) (n := 11) htb in_Rows (htb _ IN_Rows)
  obtain ⟨c7, i7, k7⟩ := u_known (C := R_MQ) (T := T_MQ) (N := 8) (n := 8) htb in_MQ (htb _ IN_MQ)
  obtain ⟨c8, i8, k8⟩ := u_known (C := R_Mo) (T := T_Mo) (N := 64) (n := 64) htb in_Mo (htb _ IN_Mo)
  obtain ⟨a0, r0, f0⟩ := arr_of (htb _ AC_int)
  obtain ⟨a1, r1, f1⟩ := arr_of (htb _ AC_char)
  obtain ⟨a2, r2, f2⟩ := arr_of (htb _ AC_boolean)
  obtain ⟨a3, r3, f3⟩ := arr_of (htb _ AC_long)
  obtain ⟨a4, r4, f4⟩ := arr_of (htb _ AC_byte)
  obtain ⟨adK, adV, hST, hev⟩ := vk_Sof (args := args) (s := s) (N := nStr) (tm := strTm) (len := lenStr) (byt := bytStr) (A := A) lenStr_lt (fun i hi => hs _ (s_ex i hi)) (fun i hi => hs _ (s_co i hi)) (fun i hi => hs _ (s_ar i hi)) (fun i hi => hs _ (s_le i hi)) (fun i hi j hj => hs _ (s_el i hi j hj)) (fun i j hi hj hij => Or.inl (s_ne hs hi hj hij)) hA
  obtain ⟨d1, d2, d3, d4, d5⟩ := t_d1
  obtain ⟨p1, p2, p3, p4, p5⟩ := t_p1
  obtain ⟨tD, eD, hTD⟩ := va_Tof (f := fun i => .int (tabDAYS i)) (A := A) (N := 13) (by decide) (hs _ d1) (va_eqt (hs _ d2)) (fun j hj => va_eqt (hs _ (d3 j hj))) hA
  obtain ⟨tP, eP, hTP⟩ := va_Tof (f := fun i => .long (tabPATT i)) (A := A) (N := 6) (by decide) (hs _ p1) (va_eqt (hs _ p2)) (fun j hj => va_eqtl (hs _ (p3 j hj))) hA
  obtain ⟨s1, s2, s3, s4, s5, s6⟩ := t_s1
  refine ⟨(fun k => [c0, c1, c2, c3, c4, c5, c6, c7, c8].getD k 0, fun k => [i0, i1, i2, i3, i4, i5, i6, i7, i8].getD k (fun _ => 0), fun k => [a0, a1, a2, a3, a4].getD k 0, adK, adV, fun k => [tD, tP].getD k 0), ⟨?_, ?_⟩, ?_, ?_, hST, ?_, ?_⟩
  · intro k q hq
    match k, hq with
    | 0, hq => cases hq; exact k0
    | 1, hq => cases hq; exact k1
    | 2, hq => cases hq; exact k2
    | 3, hq => cases hq; exact k3
    | 4, hq => cases hq; exact k4
    | 5, hq => cases hq; exact k5
    | 6, hq => cases hq; exact k6
    | 7, hq => cases hq; exact k7
    | 8, hq => cases hq; exact k8
    | k + 9, hq => simp [vwCl] at hq
  · intro k q hq
    match k, hq with
    | 0, hq => cases hq; exact ⟨r0, f0⟩
    | 1, hq => cases hq; exact ⟨r1, f1⟩
    | 2, hq => cases hq; exact ⟨r2, f2⟩
    | 3, hq => cases hq; exact ⟨r3, f3⟩
    | 4, hq => cases hq; exact ⟨r4, f4⟩
    | k + 5, hq => simp [tys0] at hq
  · exact ⟨fun x hx => hts _ (n_f1 x hx), fun x hx => hts _ (n_m1 x hx)⟩
  · intro x hx
    obtain ⟨w1, w2⟩ := s_ref x hx
    refine vk_R.of (hts _ w1) ?_
    rcases s_two x hx with h | h | h
    · rw [← h]; exact hev _ w2
    · exact va_eqR (hs _ h) (hev _ w2)
    · exact va_eqv (hs _ h) (hev _ w2)
  · intro x hx
    have hx2 : x = ("MailQueries$Span", "DAYS_BEFORE", "[I", 0, .int, 13, fun i => .int (tabDAYS i)) ∨ x = ("MailQueries$Judge", "PATTERNS", "[J", 1, .long, 6, fun i => .long (tabPATT i)) := by
      rcases List.mem_cons.mp hx with h | h
      · exact Or.inl h
      · rcases List.mem_cons.mp h with h | h
        · exact Or.inr h
        · cases h
    rcases hx2 with rfl | rfl
    · exact ⟨va_Zref (hts _ d4) (hts _ d5) eD hA, hTD⟩
    · exact ⟨va_Zref (hts _ p4) (hts _ p5) eP hA, hTP⟩
  · exact ⟨va_Zof (hts _ s2) (hts _ s3) (va_eqi (hs _ s1)) hA, va_Zqof (hts _ s5) (hts _ s6) (hs _ s4) hA⟩
theorem start_X {args : Array Value} {s : State} {A : Nat → Prop} (hts : ∀ w ∈ lw_tbl, w.before args s = true) (hs : ∀ c ∈ flat0, c.before args s = true) (hA : ∀ a : Nat, a < s.heap.size → ¬ A a) : XS A s s.heap := by
  obtain ⟨x1, x2, x3, x4, x5, x6⟩ := t_x1
  refine ⟨fun w hw => ?_, XL.of (hts _ x1) hA, XL.of (hts _ x2) hA, va_Zqof (hts _ x1) (hts _ x3) (hs _ x4) hA, va_Zqof (hts _ x2) (hts _ x3) (hs _ x5) hA⟩
  have h1 := Cond.onTables_vm (A := args) (A' := #[]) (U := s) (U' := s) s.vm w (iaeW_face w hw).1
  rw [State.setVm_self] at h1
  rw [← h1]
  exact hts _ (x6 w hw)

