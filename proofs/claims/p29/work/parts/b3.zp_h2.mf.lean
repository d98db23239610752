/-! the reference reckons what the code tells -/
/-- where the reference's code stands: in a LAW's row, or in its ORDERS -/
def CMo (ordered law : Int32) (row nOp nArg : Nat → Int32) (op ar : Nat → Int32) : Prop :=
  (ordered = 0 ∧ ∃ lw : Nat, law.toInt = (lw : Int) ∧ lw ≤ 4750 ∧ (∀ i, op i = row (lw + 98 + 2 * i)) ∧ ∀ i, ar i = row (lw + 98 + 2 * i + 1)) ∨ (ordered = 1 ∧ op = nOp ∧ ar = nArg)
/-- what words stand for, as the reference asks them -/
def EvM (ordered : Int32) (v : Nat → Nat → Int64) (row : Nat → Int32) (set now : Nat → Int64) : Prop :=
  (ordered = 0 ∧ ∀ o a, 1 ≤ o → o ≤ 9 → v o a = set o) ∨ (ordered = 1 ∧ (0 ≤ (row 0).toInt ∧ (row 0).toInt ≤ 6 ∧ 0 ≤ (row 1).toInt ∧ (row 1).toInt ≤ 5) ∧ (∀ o a, 1 ≤ o → o < 4 → v o a = now o) ∧ (∀ a : Nat, v 4 a = if (a : Int) < (row 0).toInt then (row (10 + a)).toInt64 else -1) ∧ (∀ o a : Nat, 5 ≤ o → ¬ o = 6 → v o a = if (a : Int) < (row 0).toInt then (row (16 + a)).toInt64 else -1) ∧ ∀ a : Nat, v 6 a = if (a : Int) < (row 1).toInt then (row (28 + a)).toInt64 else -1)
theorem x_mreck {o : Int32} {O : Nat} (ho : o.toInt = (O : Int)) (h2 : 20 ≤ O) (h9 : O ≤ 27) {a b : Int64} {Q : Int64 → Int32 → Prop} (h1 : ∀ x, rd_ar O a b = some x → Q x 0) (h0 : rd_ar O a b = none → ∀ (x : Int64) (u : Int32), (u = 0 ∧ (1000000000 < x.toInt ∨ x.toInt < -1000000000)) ∨ u = 1 → Q x u) : wp_X12_reckon o a b 0 Q := by
  unfold wp_X12_reckon
  have hO : O = 20 ∨ O = 21 ∨ O = 22 ∨ O = 23 ∨ O = 24 ∨ O = 25 ∨ O = 26 ∨ O = 27 := by omega
  have chk : ∀ x : Int64, rd_ar O a b = rd_chk x → Q x 0 := fun x e => by
    cases c : rd_chk x with
    | none => exact h0 (e.trans c) x 0 (Or.inl ⟨rfl, rd_chk_n c⟩)
    | some y =>
      have := rd_chk_s c
      rw [this] at c
      exact h1 x (e.trans c)
  have ne : ∀ k : Int32, ∀ z : Int, k.toInt = z → ¬ (O : Int) = z → ¬ o = k := fun k z hk hz => z_ne ho hk hz
  have eq : ∀ k : Int32, ∀ z : Int, k.toInt = z → (O : Int) = z → o = k := fun k z hk hz => z_eq ho hk hz
  rcases hO with rfl | rfl | rfl | rfl | rfl | rfl | rfl | rfl
  · exact br1 (eq 20 20 rfl rfl) (chk _ rfl)
  · exact br0 (ne 20 20 rfl (by decide)) (br1 (eq 21 21 rfl rfl) (chk _ rfl))
  · exact br0 (ne 20 20 rfl (by decide)) (br0 (ne 21 21 rfl (by decide)) (br1 (eq 22 22 rfl rfl) (chk _ rfl)))
  · refine br0 (ne 20 20 rfl (by decide)) (br0 (ne 21 21 rfl (by decide)) (br0 (ne 22 22 rfl (by decide)) (br1 (eq 23 23 rfl rfl) (jn_s ?_))))
    have e : rd_ar 23 a b = if b = 0 then none else rd_chk (a / b) := rfl
    by_cases c : lg_cmp b 0 = 0
    · have c' : b = 0 := Int64.toInt_inj.mp (cmp_eq.mp c)
      exact br1 c ⟨Or.inr rfl, br0 (by decide) (h0 (by rw [e, if_pos c']) _ _ (Or.inr rfl))⟩
    · have c' : ¬ b = 0 := fun q => c (cmp_eq.mpr (by rw [q]))
      exact br0 c ⟨Or.inl rfl, br1 rfl ⟨c', chk _ (by rw [e, if_neg c'])⟩⟩
  · refine br0 (ne 20 20 rfl (by decide)) (br0 (ne 21 21 rfl (by decide)) (br0 (ne 22 22 rfl (by decide)) (br0 (ne 23 23 rfl (by decide)) (br1 (eq 24 24 rfl rfl) (jn_s ?_)))))
    have e : rd_ar 24 a b = if b = 0 then none else rd_chk (a - a / b * b) := rfl
    by_cases c : lg_cmp b 0 = 0
    · have c' : b = 0 := Int64.toInt_inj.mp (cmp_eq.mp c)
      exact br1 c ⟨Or.inr rfl, br0 (by decide) (h0 (by rw [e, if_pos c']) _ _ (Or.inr rfl))⟩
    · have c' : ¬ b = 0 := fun q => c (cmp_eq.mpr (by rw [q]))
      exact br0 c ⟨Or.inl rfl, br1 rfl ⟨c', chk _ (by rw [e, if_neg c'])⟩⟩
  · refine br0 (ne 20 20 rfl (by decide)) (br0 (ne 21 21 rfl (by decide)) (br0 (ne 22 22 rfl (by decide)) (br0 (ne 23 23 rfl (by decide)) (br0 (ne 24 24 rfl (by decide)) (br1 (eq 25 25 rfl rfl) ?_)))))
    have e : rd_ar 25 a b = if a.toInt < b.toInt then some 1 else some 0 := rfl
    by_cases c : 0 ≤ lg_cmp a b
    · have c' := c_ge (x := a.toInt) (y := b.toInt) rfl rfl c
      exact br1 c (h1 _ (by rw [e, if_neg (by omega)]))
    · have c' := c_nge (x := a.toInt) (y := b.toInt) rfl rfl c
      exact br0 c (h1 _ (by rw [e, if_pos c']))
  · refine br0 (ne 20 20 rfl (by decide)) (br0 (ne 21 21 rfl (by decide)) (br0 (ne 22 22 rfl (by decide)) (br0 (ne 23 23 rfl (by decide)) (br0 (ne 24 24 rfl (by decide)) (br0 (ne 25 25 rfl (by decide)) (br1 (eq 26 26 rfl rfl) ?_))))))
    have e : rd_ar 26 a b = if b.toInt < a.toInt then some 1 else some 0 := rfl
    by_cases c : lg_cmp a b ≤ 0
    · have c' := c_le (x := a.toInt) (y := b.toInt) rfl rfl c
      exact br1 c (h1 _ (by rw [e, if_neg (by omega)]))
    · have c' := c_nle (x := a.toInt) (y := b.toInt) rfl rfl c
      exact br0 c (h1 _ (by rw [e, if_pos c']))
  · refine br0 (ne 20 20 rfl (by decide)) (br0 (ne 21 21 rfl (by decide)) (br0 (ne 22 22 rfl (by decide)) (br0 (ne 23 23 rfl (by decide)) (br0 (ne 24 24 rfl (by decide)) (br0 (ne 25 25 rfl (by decide)) (br0 (ne 26 26 rfl (by decide)) ?_))))))
    have e : rd_ar 27 a b = if a = b then some 1 else some 0 := rfl
    by_cases c : lg_cmp a b = 0
    · have c' : a = b := Int64.toInt_inj.mp (cmp_eq.mp c)
      exact br1 c (h1 _ (by rw [e, if_pos c']))
    · have c' : ¬ a = b := fun q => c (cmp_eq.mpr (by rw [q]))
      exact br0 c (h1 _ (by rw [e, if_neg c']))
theorem x_mIn {a : Int32} {A : Nat} (ha : a.toInt = (A : Int)) {r : Int32} (hr0 : 0 ≤ r.toInt) (hr6 : r.toInt ≤ 100) {Q : Int32 → Prop} (h1 : (A : Int) < r.toInt → Q 1) (h0 : ¬ (A : Int) < r.toInt → Q 0) : wp_X12_in a.toInt64 0 (r.toInt64 - 1) Q := by
  have e : (r.toInt64 - 1).toInt = r.toInt - 1 := lsub_z (i2l_z rfl) rfl (by show _ ≤ r.toInt - 1; omega) (by show r.toInt - 1 ≤ _; omega)
  have e0 : (0 : Int64).toInt = 0 := rfl
  refine e_in (fun k1 k2 => h1 ?_) (fun k0 => h0 (fun q => k0 ⟨?_, ?_⟩))
  · rw [e, i2l_z ha] at k2; omega
  · rw [i2l_z ha, e0]; omega
  · rw [e, i2l_z ha]; omega
