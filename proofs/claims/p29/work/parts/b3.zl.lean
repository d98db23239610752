/-- a row of laws: Texts that stand; one for each law; the law in force is one of them, or none -/
def LWI (txs : List TX) (f : Nat → Option Nat) (lc fo : Int32) : Prop := (∀ k, k < 6 → ∀ v, f k = some v → ∃ x ∈ txs, x.1 = v) ∧ (∀ k : Nat, (k : Int) < lc.toInt → ∃ v, f k = some v) ∧ fo.toInt < lc.toInt ∧ lc.toInt ≤ 6 ∧ -1 ≤ fo.toInt
theorem LWI.cp {txs : List TX} {f g : Nat → Option Nat} {lc fo lc' fo' : Int32} (h : LWI txs f lc fo) (hg : ∀ k, k < 6 → g k = f k) (e1 : lc' = lc) (e2 : fo' = fo) : LWI txs g lc' fo' := by
  subst e1; subst e2
  obtain ⟨h1, h2, h3, h4, h5⟩ := h
  exact ⟨fun k hk v hv => h1 k hk v ((hg k hk).symm.trans hv), fun k hk => by rw [hg k (by omega)]; exact h2 k hk, h3, h4, h5⟩
theorem LWI.fo {txs : List TX} {f : Nat → Option Nat} {lc fo fo' : Int32} (h : LWI txs f lc fo) (h2 : fo'.toInt < lc.toInt) (h3 : -1 ≤ fo'.toInt) : LWI txs f lc fo' := ⟨h.1, h.2.1, h2, h.2.2.2.1, h3⟩
theorem LWI.of {txs : List TX} {f : Nat → Option Nat} {lc fo : Int32} (h : LWI txs f lc fo) {k : Int32} (h0 : 0 ≤ k.toInt) (h1 : k.toInt < lc.toInt) : ∃ (a b : List TX) (x : TX), txs = a ++ x :: b ∧ f (Int32.toNatClampNeg k) = some x.1 := by
  have e := tnz (i := k) (x := k.toInt) rfl h0
  have h6 := h.2.2.2.1
  obtain ⟨v, hv⟩ := h.2.1 (Int32.toNatClampNeg k) (by omega)
  obtain ⟨x, hx, hxv⟩ := h.1 _ (by omega) v hv
  obtain ⟨a, b, e2⟩ := List.append_of_mem hx
  exact ⟨a, b, x, e2, by rw [hv, hxv]⟩
theorem LWI.cs {txs : List TX} {f : Nat → Option Nat} {lc fo : Int32} (h : LWI txs f lc fo) : fo.toInt = -1 ∨ (0 ≤ fo.toInt ∧ fo.toInt ≤ 5 ∧ ∃ (a b : List TX) (x : TX), txs = a ++ x :: b ∧ f (Int32.toNatClampNeg fo) = some x.1) := by
  obtain ⟨h1, h2, h3, h4, h5⟩ := id h
  by_cases c : fo.toInt = -1
  · exact Or.inl c
  · exact Or.inr ⟨by omega, by omega, h.of (by omega) h3⟩
theorem LWI.oth {a b : List TX} {x : TX} {f : Nat → Option Nat} {lc fo : Int32} (h : LWI (a ++ x :: b) f lc fo) : ∀ k, k < 6 → ∀ v, f k = some v → (∃ y ∈ a ++ b, y.1 = v) ∨ v = x.1 := by
  intro k hk v hv
  obtain ⟨y, hy, e⟩ := h.1 k hk v hv
  rcases List.mem_append.mp hy with h1 | h1
  · exact Or.inl ⟨y, List.mem_append_left _ h1, e⟩
  · rcases List.mem_cons.mp h1 with rfl | h1
    · exact Or.inr e.symm
    · exact Or.inl ⟨y, List.mem_append_right _ h1, e⟩
theorem LWI.more {txs : List TX} {x : TX} {f : Nat → Option Nat} {lc fo : Int32} (h : LWI txs f lc fo) : LWI (x :: txs) f lc fo := ⟨fun k hk v hv => by
  obtain ⟨y, hy, e⟩ := h.1 k hk v hv
  exact ⟨y, List.mem_cons_of_mem _ hy, e⟩, h.2⟩
