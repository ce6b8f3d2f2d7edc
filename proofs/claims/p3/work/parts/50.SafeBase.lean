def Sf {α : Type} (o : Option α) (Q : α → Prop) : Prop := ∃ r, o = some r ∧ Q r
theorem sf_some {α : Type} {x : α} {Q : α → Prop} (h : Q x) : Sf (some x) Q := ⟨x, rfl, h⟩
theorem sf_imp {α : Type} {o : Option α} {P Q : α → Prop} (h : Sf o P) (k : ∀ r, P r → Q r) : Sf o Q := by
  obtain ⟨r, e, hr⟩ := h
  exact ⟨r, e, k r hr⟩
theorem sf_bind {α β : Type} {o : Option α} {f : α → Option β} {P : α → Prop} {Q : β → Prop} (h : Sf o P) (k : ∀ r, P r → Sf (f r) Q) : Sf (o.bind f) Q := by
  obtain ⟨r, e, hr⟩ := h
  subst e
  exact k r hr
theorem sf_up {α β : Type} {f : Nat → α} {k : Nat} {v : α} {K : (Nat → α) → Option β} {Q : β → Prop} (h : ∀ t' : Nat → α, t' k = v → (∀ k', k' ≠ k → t' k' = f k') → Sf (K t') Q) : Sf (letS (va_up f k v) K) Q :=
  h _ (by simp [va_up]) (fun k' hk => by simp [va_up, hk])
theorem sf_any {α : Type} {c : Prop} [Decidable c] {A B : Option α} {Q : α → Prop} (h1 : Sf A Q) (h2 : Sf B Q) : Sf (if c then A else B) Q := by
  split
  · exact h1
  · exact h2
theorem sf_ite {α : Type} {c : Prop} [Decidable c] {A B : Option α} {Q : α → Prop} (h1 : c → Sf A Q) (h2 : ¬ c → Sf B Q) : Sf (if c then A else B) Q := by
  split
  · exact h1 ‹_›
  · exact h2 ‹_›
theorem sf_all {α : Type} {c : Prop} [Decidable c] {A B : Option α} {Q : α → Prop} (hc : c) (h1 : Sf A Q) : Sf (if c then A else B) Q := by
  rw [if_pos hc]
  exact h1
theorem sf_not {α : Type} {c : Prop} [Decidable c] {A B : Option α} {Q : α → Prop} (hc : ¬ c) (h1 : Sf B Q) : Sf (if c then A else B) Q := by
  rw [if_neg hc]
  exact h1
theorem ilit (x : Int32) (n : Int) (h : x.toInt = n) : x.toInt = n := h
theorem iclamp (x : Int32) : x.toNatClampNeg = x.toInt.toNat := rfl
theorem ibd (x : Int32) : -2147483648 ≤ x.toInt ∧ x.toInt < 2147483648 := ⟨Int32.le_toInt x, Int32.toInt_lt x⟩
theorem iadd {x y : Int32} {a b : Int} (hx : x.toInt = a) (hy : y.toInt = b) : (x + y).toInt = (a + b + 2147483648) % 4294967296 - 2147483648 := by
  rw [Int32.toInt_add, Int.bmod_def, hx, hy]
  omega
theorem isub {x y : Int32} {a b : Int} (hx : x.toInt = a) (hy : y.toInt = b) : (x - y).toInt = (a - b + 2147483648) % 4294967296 - 2147483648 := by
  rw [Int32.toInt_sub, Int.bmod_def, hx, hy]
  omega
theorem imul {x y : Int32} {a b : Int} (hx : x.toInt = a) (hy : y.toInt = b) : (x * y).toInt = (a * b + 2147483648) % 4294967296 - 2147483648 := by
  rw [Int32.toInt_mul, Int.bmod_def, hx, hy]
  omega
theorem idec {x : Int32} (h : 0 ≤ x.toInt) : (x + (-1 : Int32)).toInt = x.toInt - 1 := by
  have h1 := iadd (x := x) rfl (ilit (-1 : Int32) (-1) rfl)
  have h2 := ibd x
  omega
theorem iofn (n : Nat) (h : n < 2147483648) : (Int32.ofNat n).toInt = (n : Int) := Int32.toInt_ofNat_of_lt h
theorem iitelt {p q u v : Int32} {a b c d : Int} (hp : p.toInt = a) (hq : q.toInt = b) (hu : u.toInt = c) (hv : v.toInt = d) : (if p < q then u else v).toInt = if a < b then c else d := by
  subst hp hq hu hv
  by_cases h : p < q
  · rw [if_pos h, if_pos (Int32.lt_iff_toInt_lt.mp h)]
  · rw [if_neg h, if_neg (fun g => h (Int32.lt_iff_toInt_lt.mpr g))]
theorem sf_le {α : Type} {x y : Int32} {a b : Int} {A B : Option α} {Q : α → Prop} (hx : x.toInt = a) (hy : y.toInt = b) (h1 : a ≤ b → Sf A Q) (h2 : b < a → Sf B Q) : Sf (if x ≤ y then A else B) Q := by
  subst hx hy
  refine sf_ite (fun c => h1 (Int32.le_iff_toInt_le.mp c)) (fun c => h2 ?_)
  rw [Int32.le_iff_toInt_le] at c
  omega
theorem sf_lt {α : Type} {x y : Int32} {a b : Int} {A B : Option α} {Q : α → Prop} (hx : x.toInt = a) (hy : y.toInt = b) (h1 : a < b → Sf A Q) (h2 : b ≤ a → Sf B Q) : Sf (if x < y then A else B) Q := by
  subst hx hy
  refine sf_ite (fun c => h1 (Int32.lt_iff_toInt_lt.mp c)) (fun c => h2 ?_)
  rw [Int32.lt_iff_toInt_lt] at c
  omega
theorem sf_eq {α : Type} {x y : Int32} {a b : Int} {A B : Option α} {Q : α → Prop} (hx : x.toInt = a) (hy : y.toInt = b) (h1 : a = b → Sf A Q) (h2 : a ≠ b → Sf B Q) : Sf (if x = y then A else B) Q := by
  subst hx hy
  exact sf_ite (fun c => h1 (Int32.toInt_inj.mpr c)) (fun c => h2 (fun g => c (Int32.toInt_inj.mp g)))
theorem sf_idx {α : Type} {x : Int32} {a : Int} {n : Nat} {B : Option α} {Q : α → Prop} (hx : x.toInt = a) (h0 : 0 ≤ a) (h1 : a < (n : Int)) (h : Sf B Q) : Sf (if x < 0 ∨ n ≤ x.toNatClampNeg then none else B) Q := by
  subst hx
  refine sf_not ?_ h
  rw [Int32.lt_iff_toInt_lt, ilit 0 0 rfl, iclamp x]
  omega
theorem sf_neg {α : Type} {x : Int32} {a : Int} {B : Option α} {Q : α → Prop} (hx : x.toInt = a) (h0 : 0 ≤ a) (h : Sf B Q) : Sf (if x < 0 then none else B) Q := by
  subst hx
  refine sf_not ?_ h
  rw [Int32.lt_iff_toInt_lt, ilit 0 0 rfl]
  omega
theorem sf_cap {α : Type} {x y : Int32} {a b : Int} {n : Nat} {B : Option α} {Q : α → Prop} (hx : x.toInt = a) (hy : y.toInt = b) (h0 : 0 ≤ a) (h1 : 0 ≤ b) (h2 : a + b ≤ (n : Int)) (h : Sf B Q) : Sf (if n < x.toNatClampNeg + y.toNatClampNeg then none else B) Q := by
  subst hx hy
  refine sf_not ?_ h
  rw [iclamp x, iclamp y]
  omega
theorem sf_b01 {α : Type} {x : Int32} {A : Option α} {Q : α → Prop} (h01 : x.toInt = 0 ∨ x.toInt = 1) (h : Sf A Q) : Sf (if x = 0 ∨ x = 1 then A else none) Q :=
  sf_all (h01.elim (fun e => Or.inl (Int32.toInt_inj.mp e)) (fun e => Or.inr (Int32.toInt_inj.mp e))) h
theorem lenStr_le : ∀ w, w < nStr → lenStr.getD w 0 ≤ 20 := by decide +kernel
theorem sp_String_length (F w : Nat) (h : w < 23) : Sf (String_length F w) (fun r => r.toInt = (lenStr.getD w 0 : Nat) ∧ lenStr.getD w 0 ≤ 20) := by
  rw [String_length]
  have hw : w < nStr := h
  rw [if_pos hw]
  refine sf_some ⟨?_, lenStr_le w hw⟩
  have := lenStr_le w hw
  exact Int32.toInt_ofNat_of_lt (by omega)
theorem sp_String_charAt (F w : Nat) (i : Int32) (h : w < 23) (h0 : 0 ≤ i.toInt) (h1 : i.toInt < (lenStr.getD w 0 : Nat)) : Sf (String_charAt F w i) (fun _ => True) := by
  rw [String_charAt]
  have hw : w < nStr := h
  rw [if_pos hw]
  exact sf_idx rfl h0 h1 (sf_some trivial)
def Big (F : Nat) : Prop := 4294967297 ≤ F
theorem fuel_ok {F : Nat} (hF : Big F) {M : Int} (h : M ≤ 4294967296) : M < (F : Int) ∧ 1 ≤ F := by
  have h2 : 4294967297 ≤ F := hF
  omega
def ChOk (f : Nat → Int32) : Prop := ∀ i, fits .char (.int (f i)) = true
def RF (k0 : Nat) (t t' : StI) : Prop := ∀ k, k ≠ k0 → t' k = t k
theorem RF_refl {k0 : Nat} (t : StI) : RF k0 t t := fun _ _ => rfl
theorem RF_trans {k0 : Nat} {t t' t'' : StI} (h : RF k0 t t') (g : RF k0 t' t'') : RF k0 t t'' := fun k hk => (g k hk).trans (h k hk)
def RowsI (t : StI) : Prop := ∀ j, 0 ≤ (t 3 j).toInt ∧ (t 3 j).toInt ≤ 2400 ∧ 0 ≤ (t 4 j).toInt ∧ (t 4 j).toInt ≤ 2400
theorem RowsI_of {k0 : Nat} {t t' : StI} (h : RowsI t) (h3 : 3 ≠ k0) (h4 : 4 ≠ k0) (g : RF k0 t t') : RowsI t' := by
  intro j
  rw [g 3 h3, g 4 h4]
  exact h j
theorem RowsI_rf {t t' : StI} (h : RowsI t) (g : RF 2 t t') : RowsI t' := RowsI_of h (by decide) (by decide) g
theorem RowsI_rf6 {t t' : StI} (h : RowsI t) (g : RF 6 t t') : RowsI t' := RowsI_of h (by decide) (by decide) g
theorem RowsI_rf10 {t t' : StI} (h : RowsI t) (g : RF 10 t t') : RowsI t' := RowsI_of h (by decide) (by decide) g
def RowsM (t : StI) (b : Int) : Prop := ∀ i j : Nat, i ≤ j → (j : Int) < (t 5 0).toInt → (t 3 i).toInt ≤ (t 3 j).toInt ∧ (t 3 j).toInt ≤ b
theorem RowsM_rf {t t' : StI} {b : Int} (h : RowsM t b) (g : RF 2 t t') : RowsM t' b := by
  intro i j
  rw [g 3 (by decide), g 5 (by decide)]
  exact h i j

