theorem b_rng {b b0 : Int32} (h0 : 0 ≤ b0.toInt ∧ b0.toInt ≤ 1) (h : b = 0 ∨ b = 1 ∨ b = b0) : 0 ≤ b.toInt ∧ b.toInt ≤ 1 := by
  rcases h with h | h | h
  · rw [h]; decide
  · rw [h]; decide
  · rw [h]; exact h0
theorem b_01 {b : Int32} (h : 0 ≤ b.toInt ∧ b.toInt ≤ 1) : B01 b := z01 rfl h.1 h.2
theorem b_10 {b : Int32} (h : B01 b) : 0 ≤ b.toInt ∧ b.toInt ≤ 1 := by
  rcases h with h | h
  · rw [h]; decide
  · rw [h]; decide
theorem s_X12_tells (a : Int32) (b : Int32) (d : Int32) (g : Int32) (k : Int64) (h0_ordered : Int32) (h0_law : Int32) (h0_broken : Int32) (h0_value : Int64) (h0_sum : Int64) (f_row : Nat → Int32) (f_set : Nat → Int64) (f_nOp : Nat → Int32) (f_nArg : Nat → Int32) (f_rest : Nat → Int64) (f_now : Nat → Int64) (h_b : 0 ≤ b.toInt ∧ b.toInt ≤ 39) (h_h0_ordered : 0 ≤ h0_ordered.toInt ∧ h0_ordered.toInt ≤ 0) (h_h0_broken : 0 ≤ h0_broken.toInt ∧ h0_broken.toInt ≤ 1) (h_f_row : RLW f_row) {Q : Int64 → (Int32 × Int32 × Int64 × Int64 × (Nat → Int64) × (Nat → Int64)) → Prop} (hq : ∀ (r : Int64) (u_0 : Int32) (u_1 : Int32) (u_2 : Int64) (u_3 : Int64) (u_4 : Nat → Int64) (u_5 : Nat → Int64), (0 ≤ u_1.toInt ∧ u_1.toInt ≤ 1) → Q r (u_0, u_1, u_2, u_3, u_4, u_5)) : wp_X12_tells a b d g k h0_ordered h0_law h0_broken h0_value h0_sum f_row f_set f_nOp f_nArg f_rest f_now Q := by
  obtain rfl : h0_ordered = 0 := z_eq (y := 0) rfl rfl (by omega)
  exact s_tellsF h_b h_f_row (fun law br v s set rest hb => hq _ _ _ _ _ _ _ (b_rng h_h0_broken hb))

theorem s_X12_findDown (a : Int32) (b : Int32) (h0_ordered : Int32) (h0_law : Int32) (h0_broken : Int32) (h0_value : Int64) (h0_sum : Int64) (f_days : Nat → Int32) (f_row : Nat → Int32) (f_set : Nat → Int64) (f_nOp : Nat → Int32) (f_nArg : Nat → Int32) (f_rest : Nat → Int64) (f_now : Nat → Int64) (h_a : 0 ≤ a.toInt ∧ a.toInt ≤ 5) (h_h0_ordered : 0 ≤ h0_ordered.toInt ∧ h0_ordered.toInt ≤ 0) (h_h0_broken : 0 ≤ h0_broken.toInt ∧ h0_broken.toInt ≤ 1) (h_f_days : DY f_days) (h_f_row : RLW f_row) {Q : Int32 → (Int32 × Int32 × Int64 × Int64 × (Nat → Int32) × (Nat → Int64) × (Nat → Int64)) → Prop} (hq : ∀ (r : Int32) (u_0 : Int32) (u_1 : Int32) (u_2 : Int64) (u_3 : Int64) (u_4 : Nat → Int32) (u_5 : Nat → Int64) (u_6 : Nat → Int64), (0 ≤ r.toInt ∧ r.toInt ≤ 100000000) ∧ (0 ≤ u_1.toInt ∧ u_1.toInt ≤ 1) ∧ (DY u_4) → Q r (u_0, u_1, u_2, u_3, u_4, u_5, u_6)) : wp_X12_findDown a b h0_ordered h0_law h0_broken h0_value h0_sum f_days f_row f_set f_nOp f_nArg f_rest f_now Q := by
  obtain rfl : h0_ordered = 0 := z_eq (y := 0) rfl rfl (by omega)
  exact s_findDownF h_a.1 h_a.2 h_f_row (b_01 h_h0_broken) (fun r law br v s days set rest k1 k2 k3 k4 => hq _ _ _ _ _ _ _ _ ⟨k3, b_10 k2, k1⟩)

theorem s_X12_down (a : Int32) (b : Int32) (d : Int32) (h0_ordered : Int32) (h0_law : Int32) (h0_broken : Int32) (h0_value : Int64) (h0_sum : Int64) (f_row : Nat → Int32) (f_days : Nat → Int32) (f_set : Nat → Int64) (f_nOp : Nat → Int32) (f_nArg : Nat → Int32) (f_rest : Nat → Int64) (f_now : Nat → Int64) (h_h0_ordered : 0 ≤ h0_ordered.toInt ∧ h0_ordered.toInt ≤ 0) (h_h0_broken : 0 ≤ h0_broken.toInt ∧ h0_broken.toInt ≤ 1) (h_f_row : RLW f_row) (h_f_days : DY f_days) {Q : Int32 → (Int32 × Int32 × Int32 × Int64 × Int64 × (Nat → Int32) × (Nat → Int64) × (Nat → Int64)) → Prop} (hq : ∀ (r : Int32) (u_0 : Int32) (u_1 : Int32) (u_2 : Int32) (u_3 : Int64) (u_4 : Int64) (u_5 : Nat → Int32) (u_6 : Nat → Int64) (u_7 : Nat → Int64), (0 ≤ u_2.toInt ∧ u_2.toInt ≤ 1) ∧ (DY u_5) → Q r (u_0, u_1, u_2, u_3, u_4, u_5, u_6, u_7)) : wp_X12_down a b d h0_ordered h0_law h0_broken h0_value h0_sum f_row f_days f_set f_nOp f_nArg f_rest f_now Q := by
  obtain rfl : h0_ordered = 0 := z_eq (y := 0) rfl rfl (by omega)
  exact s_downF h_f_row h_f_days (b_01 h_h0_broken) (fun r law br v s days set rest k1 k2 => hq _ _ _ _ _ _ _ _ _ ⟨b_10 k2, k1⟩)
