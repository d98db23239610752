/-! the reference's row: ranges, and its laws -/
/-- one step of a code: how high the pile stands ahead of it and behind it -/
def ST (op ar : Nat → Int32) (ht : Nat → Nat) (b i : Nat) : Prop :=
  (0 ≤ (op i).toInt ∧ (op i).toInt ≤ 9 ∧ ht (i + 1) = ht i + 1) ∨
  (20 ≤ (op i).toInt ∧ (op i).toInt ≤ 27 ∧ 2 ≤ ht i ∧ ht (i + 1) + 1 = ht i) ∨
  ((op i).toInt = 28 ∧ 1 ≤ ht i ∧ ht (i + 1) = ht i) ∨
  (29 ≤ (op i).toInt ∧ (op i).toInt ≤ 30 ∧ 1 ≤ ht i ∧ ht (i + 1) + 1 = ht i ∧ ∃ j : Nat, (ar i).toInt = (j : Int) ∧ i < j ∧ j ≤ b ∧ ht j = ht i)
/-- a code that can be reckoned -/
def SG (op ar : Nat → Int32) (a b : Nat) : Prop := ∃ ht : Nat → Nat, ht a = 0 ∧ ∀ i, a ≤ i → i < b → ST op ar ht b i
/-- a clause whose head stands at k, its code at c -/
def CW (f : Nat → Int32) (k c : Nat) : Prop := ∃ p3 p4 p5 p6 : Nat, (f (k + 3)).toInt = (p3 : Int) ∧ (f (k + 4)).toInt = (p4 : Int) ∧ (f (k + 5)).toInt = (p5 : Int) ∧ (f (k + 6)).toInt = (p6 : Int) ∧ p4 ≤ 400 ∧ p6 ≤ 400 ∧ p3 ≤ p4 ∧ p5 ≤ p6 ∧ SG (fun i => f (c + 2 * i)) (fun i => f (c + 2 * i + 1)) p3 p4 ∧ SG (fun i => f (c + 2 * i)) (fun i => f (c + 2 * i + 1)) p5 p6
def LW (f : Nat → Int32) : Prop := ∀ m : Nat, m < 6 → (f (251 + 900 * m)).toInt ≤ 12 ∧ ∀ c : Nat, (c : Int) < (f (251 + 900 * m)).toInt → CW f (252 + 900 * m + 8 * c) (348 + 900 * m)
theorem LW.up {f : Nat → Int32} (h : LW f) {n : Nat} {v : Int32} (hn : n < 250) : LW (upd f n v) := by
  have e : ∀ k : Nat, 250 ≤ k → upd f n v k = f k := fun k hk => pk_un (by omega)
  intro m hm
  obtain ⟨h1, h2⟩ := h m hm
  rw [e _ (by omega)]
  refine ⟨h1, fun c hc => ?_⟩
  obtain ⟨p3, p4, p5, p6, q3, q4, q5, q6, q7, q8, q9, q10, s1, s2⟩ := h2 c hc
  have eo : (fun i => upd f n v (348 + 900 * m + 2 * i)) = (fun i => f (348 + 900 * m + 2 * i)) := funext fun i => e _ (by omega)
  have ea : (fun i => upd f n v (348 + 900 * m + 2 * i + 1)) = (fun i => f (348 + 900 * m + 2 * i + 1)) := funext fun i => e _ (by omega)
  refine ⟨p3, p4, p5, p6, ?_, ?_, ?_, ?_, q7, q8, q9, q10, ?_, ?_⟩
  · rw [e _ (by omega)]; exact q3
  · rw [e _ (by omega)]; exact q4
  · rw [e _ (by omega)]; exact q5
  · rw [e _ (by omega)]; exact q6
  · rw [eo, ea]; exact s1
  · rw [eo, ea]; exact s2
