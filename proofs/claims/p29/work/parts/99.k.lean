theorem s_X12_digNow (a : Int32) (b : Int32) (h0_nUndo : Int32) (h0_ordered : Int32) (h0_law : Int32) (h0_broken : Int32) (h0_value : Int64) (h0_sum : Int64) (f_row : Nat → Int32) (f_set : Nat → Int64) (f_nOp : Nat → Int32) (f_nArg : Nat → Int32) (f_rest : Nat → Int64) (f_now : Nat → Int64) (f_undos : Nat → Int32) (f_sorts : Nat → Int32) (h_h0_nUndo : 0 ≤ h0_nUndo.toInt ∧ h0_nUndo.toInt ≤ 16) (h_h0_ordered : 0 ≤ h0_ordered.toInt ∧ h0_ordered.toInt ≤ 0) (h_h0_broken : 0 ≤ h0_broken.toInt ∧ h0_broken.toInt ≤ 1) (h_f_row : RLW f_row) (h_f_undos : UN f_undos) (h_f_sorts : SO f_sorts) {Q : Int32 → (Int32 × Int32 × Int32 × Int64 × Int64 × (Nat → Int32) × (Nat → Int64) × (Nat → Int64) × (Nat → Int32) × (Nat → Int32)) → Prop} (hq : ∀ (r : Int32) (u_0 : Int32) (u_1 : Int32) (u_2 : Int32) (u_3 : Int64) (u_4 : Int64) (u_5 : Nat → Int32) (u_6 : Nat → Int64) (u_7 : Nat → Int64) (u_8 : Nat → Int32) (u_9 : Nat → Int32), ((-3) ≤ r.toInt ∧ r.toInt ≤ 39) ∧ (0 ≤ u_0.toInt ∧ u_0.toInt ≤ 16) ∧ (0 ≤ u_2.toInt ∧ u_2.toInt ≤ 1) ∧ (RLW u_5) ∧ (UN u_8) ∧ (SO u_9) → Q r (u_0, u_1, u_2, u_3, u_4, u_5, u_6, u_7, u_8, u_9)) : wp_X12_digNow a b h0_nUndo h0_ordered h0_law h0_broken h0_value h0_sum f_row f_set f_nOp f_nArg f_rest f_now f_undos f_sorts Q := by
  obtain rfl : h0_ordered = 0 := z_eq (y := 0) rfl rfl (by omega)
  exact s_digNowF h_h0_nUndo h_f_row (b_01 h_h0_broken) h_f_undos h_f_sorts (fun r nU law br v s row set rest un so k1 k2 k3 k4 k5 k6 => hq _ _ _ _ _ _ _ _ _ _ _ ⟨k1, k2, b_10 k3, k4, k5, k6⟩)

theorem s_X12_haulNow (a : Int32) (h0_nUndo : Int32) (h0_ordered : Int32) (h0_law : Int32) (h0_broken : Int32) (h0_value : Int64) (h0_sum : Int64) (f_row : Nat → Int32) (f_undos : Nat → Int32) (f_sorts : Nat → Int32) (f_set : Nat → Int64) (f_nOp : Nat → Int32) (f_nArg : Nat → Int32) (f_rest : Nat → Int64) (f_now : Nat → Int64) (h_h0_nUndo : 0 ≤ h0_nUndo.toInt ∧ h0_nUndo.toInt ≤ 16) (h_h0_ordered : 0 ≤ h0_ordered.toInt ∧ h0_ordered.toInt ≤ 0) (h_h0_broken : 0 ≤ h0_broken.toInt ∧ h0_broken.toInt ≤ 1) (h_f_row : RLW f_row) (h_f_undos : UN f_undos) (h_f_sorts : SO f_sorts) {Q : Int32 → (Int32 × Int32 × Int32 × Int64 × Int64 × (Nat → Int32) × (Nat → Int32) × (Nat → Int32) × (Nat → Int64) × (Nat → Int64)) → Prop} (hq : ∀ (r : Int32) (u_0 : Int32) (u_1 : Int32) (u_2 : Int32) (u_3 : Int64) (u_4 : Int64) (u_5 : Nat → Int32) (u_6 : Nat → Int32) (u_7 : Nat → Int32) (u_8 : Nat → Int64) (u_9 : Nat → Int64), ((-3) ≤ r.toInt ∧ r.toInt ≤ 99) ∧ (0 ≤ u_0.toInt ∧ u_0.toInt ≤ 16) ∧ (0 ≤ u_2.toInt ∧ u_2.toInt ≤ 1) ∧ (RLW u_5) ∧ (UN u_6) ∧ (SO u_7) → Q r (u_0, u_1, u_2, u_3, u_4, u_5, u_6, u_7, u_8, u_9)) : wp_X12_haulNow a h0_nUndo h0_ordered h0_law h0_broken h0_value h0_sum f_row f_undos f_sorts f_set f_nOp f_nArg f_rest f_now Q := by
  obtain rfl : h0_ordered = 0 := z_eq (y := 0) rfl rfl (by omega)
  exact s_haulNowF h_h0_nUndo h_f_row (b_01 h_h0_broken) h_f_undos h_f_sorts (fun r nU law br v s row un so set rest k1 k2 k3 k4 k5 k6 => hq _ _ _ _ _ _ _ _ _ _ _ ⟨k1, k2, b_10 k3, k4, k5, k6⟩)

theorem s_X12_hasOf (a : Int32) (f_row : Nat → Int32) (h_a : 0 ≤ a.toInt ∧ a.toInt ≤ 5) (h_f_row : RLW f_row) (e_0 : a.toInt < (f_row (0 : Int32).toNatClampNeg).toInt) {Q : Int32 → Prop} (hq : ∀ (r : Int32), True → Q r) : wp_X12_hasOf a f_row Q := by
  exact s_hasF h_a.1 e_0 h_f_row (fun r => hq _ trivial)

theorem s_X12_veinOf (a : Int32) (f_row : Nat → Int32) (h_a : 0 ≤ a.toInt ∧ a.toInt ≤ 39) (h_f_row : RLW f_row) {Q : Int64 → Prop} (hq : ∀ (r : Int64), True → Q r) : wp_X12_veinOf a f_row Q := by
  exact s_veinF (k := a.toInt.toNat) (by omega) (by omega) (fun v _ => hq _ trivial)

set_option maxRecDepth 100000 in
theorem s_X12_dig (a : Int32) (b : Int32) (h0_nUndo : Int32) (h0_ordered : Int32) (h0_law : Int32) (h0_broken : Int32) (h0_value : Int64) (h0_sum : Int64) (f_row : Nat → Int32) (f_set : Nat → Int64) (f_nOp : Nat → Int32) (f_nArg : Nat → Int32) (f_rest : Nat → Int64) (f_now : Nat → Int64) (f_undos : Nat → Int32) (f_sorts : Nat → Int32) (f_refusals : Nat → Int32) (h_h0_nUndo : 0 ≤ h0_nUndo.toInt ∧ h0_nUndo.toInt ≤ 16) (h_h0_ordered : 0 ≤ h0_ordered.toInt ∧ h0_ordered.toInt ≤ 0) (h_h0_broken : 0 ≤ h0_broken.toInt ∧ h0_broken.toInt ≤ 1) (h_f_row : RLW f_row) (h_f_undos : UN f_undos) (h_f_sorts : SO f_sorts) {Q : Int32 → (Int32 × Int32 × Int32 × Int32 × Int32 × Int64 × Int64 × (Nat → Int32) × (Nat → Int64) × (Nat → Int64) × (Nat → Int32) × (Nat → Int32) × (Nat → Int32)) → Prop} (hq : ∀ (r : Int32) (u_0 : Int32) (u_1 : Int32) (u_2 : Int32) (u_3 : Int32) (u_4 : Int32) (u_5 : Int64) (u_6 : Int64) (u_7 : Nat → Int32) (u_8 : Nat → Int64) (u_9 : Nat → Int64) (u_10 : Nat → Int32) (u_11 : Nat → Int32) (u_12 : Nat → Int32), (0 ≤ u_2.toInt ∧ u_2.toInt ≤ 16) ∧ (0 ≤ u_4.toInt ∧ u_4.toInt ≤ 1) ∧ (RLW u_7) ∧ (UN u_10) ∧ (SO u_11) → Q r (u_0, u_1, u_2, u_3, u_4, u_5, u_6, u_7, u_8, u_9, u_10, u_11, u_12)) : wp_X12_dig a b h0_nUndo h0_ordered h0_law h0_broken h0_value h0_sum f_row f_set f_nOp f_nArg f_rest f_now f_undos f_sorts f_refusals Q := by
  unfold wp_X12_dig
  refine s_X12_digNow a b h0_nUndo h0_ordered h0_law h0_broken h0_value h0_sum (f_row) (f_set) (f_nOp) (f_nArg) (f_rest) (f_now) (f_undos) (f_sorts) ⟨by omega, by omega⟩ ⟨by omega, by omega⟩ ⟨by omega, by omega⟩ h_f_row h_f_undos h_f_sorts (fun r1 u2_0 u2_1 u2_2 u2_3 u2_4 u2_5 u2_6 u2_7 u2_8 u2_9 H3 => ?_)
  have j4 := H3.1
  have j5 := H3.2.1
  have j6 := H3.2.2.1
  have j7 := H3.2.2.2.1
  have j8 := H3.2.2.2.2.1
  have j9 := H3.2.2.2.2.2
  refine un10_i ?_
  refine o_X12_tell _ _ _ ?_
  refine jn_s ?_
  by_cases c10 : 0 ≤ r1
  · refine br1 c10 ?_
    have d11 := le_z (x := 0) (y := (Int32.toInt r1)) rfl rfl c10
    refine br1 (z_le (x := 0) (y := (Int32.toInt r1)) rfl rfl (by omega)) ?_
    refine un2_i ?_
    exact hq _ _ _ _ _ _ _ _ _ _ _ _ _ _ ⟨⟨by omega, by omega⟩, ⟨by omega, by omega⟩, j7, j8, j9⟩
  · refine br0 c10 ?_
    have d12 := nle_z (x := 0) (y := (Int32.toInt r1)) rfl rfl c10
    refine br0 (z_nle (x := 0) (y := (Int32.toInt r1)) rfl rfl (by omega)) ?_
    have t13 : (Int32.toInt (-r1)) = - (Int32.toInt r1) := neg_z rfl (by omega) (by omega)
    refine ⟨vpi (x := (Int32.toInt (-r1))) rfl (by omega) (by omega), ?_⟩
    refine ⟨vpi (x := (Int32.toInt (-r1))) rfl (by omega) (by omega), ?_⟩
    refine un2_i ?_
    exact hq _ _ _ _ _ _ _ _ _ _ _ _ _ _ ⟨⟨by omega, by omega⟩, ⟨by omega, by omega⟩, j7, j8, j9⟩


set_option maxRecDepth 100000 in
theorem s_X12_haul (a : Int32) (h0_nUndo : Int32) (h0_ordered : Int32) (h0_law : Int32) (h0_broken : Int32) (h0_value : Int64) (h0_sum : Int64) (f_row : Nat → Int32) (f_undos : Nat → Int32) (f_sorts : Nat → Int32) (f_set : Nat → Int64) (f_nOp : Nat → Int32) (f_nArg : Nat → Int32) (f_rest : Nat → Int64) (f_now : Nat → Int64) (f_refusals : Nat → Int32) (h_h0_nUndo : 0 ≤ h0_nUndo.toInt ∧ h0_nUndo.toInt ≤ 16) (h_h0_ordered : 0 ≤ h0_ordered.toInt ∧ h0_ordered.toInt ≤ 0) (h_h0_broken : 0 ≤ h0_broken.toInt ∧ h0_broken.toInt ≤ 1) (h_f_row : RLW f_row) (h_f_undos : UN f_undos) (h_f_sorts : SO f_sorts) {Q : Int32 → (Int32 × Int32 × Int32 × Int32 × Int32 × Int64 × Int64 × (Nat → Int32) × (Nat → Int32) × (Nat → Int32) × (Nat → Int64) × (Nat → Int64) × (Nat → Int32)) → Prop} (hq : ∀ (r : Int32) (u_0 : Int32) (u_1 : Int32) (u_2 : Int32) (u_3 : Int32) (u_4 : Int32) (u_5 : Int64) (u_6 : Int64) (u_7 : Nat → Int32) (u_8 : Nat → Int32) (u_9 : Nat → Int32) (u_10 : Nat → Int64) (u_11 : Nat → Int64) (u_12 : Nat → Int32), (0 ≤ u_2.toInt ∧ u_2.toInt ≤ 16) ∧ (0 ≤ u_4.toInt ∧ u_4.toInt ≤ 1) ∧ (RLW u_7) ∧ (UN u_8) ∧ (SO u_9) → Q r (u_0, u_1, u_2, u_3, u_4, u_5, u_6, u_7, u_8, u_9, u_10, u_11, u_12)) : wp_X12_haul a h0_nUndo h0_ordered h0_law h0_broken h0_value h0_sum f_row f_undos f_sorts f_set f_nOp f_nArg f_rest f_now f_refusals Q := by
  unfold wp_X12_haul
  refine s_X12_haulNow a h0_nUndo h0_ordered h0_law h0_broken h0_value h0_sum (f_row) (f_undos) (f_sorts) (f_set) (f_nOp) (f_nArg) (f_rest) (f_now) ⟨by omega, by omega⟩ ⟨by omega, by omega⟩ ⟨by omega, by omega⟩ h_f_row h_f_undos h_f_sorts (fun r1 u2_0 u2_1 u2_2 u2_3 u2_4 u2_5 u2_6 u2_7 u2_8 u2_9 H3 => ?_)
  have j4 := H3.1
  have j5 := H3.2.1
  have j6 := H3.2.2.1
  have j7 := H3.2.2.2.1
  have j8 := H3.2.2.2.2.1
  have j9 := H3.2.2.2.2.2
  refine un10_i ?_
  refine o_X12_tell _ _ _ ?_
  refine jn_s ?_
  by_cases c10 : 0 ≤ r1
  · refine br1 c10 ?_
    have d11 := le_z (x := 0) (y := (Int32.toInt r1)) rfl rfl c10
    refine br1 (z_le (x := 0) (y := (Int32.toInt r1)) rfl rfl (by omega)) ?_
    refine un2_i ?_
    exact hq _ _ _ _ _ _ _ _ _ _ _ _ _ _ ⟨⟨by omega, by omega⟩, ⟨by omega, by omega⟩, j7, j8, j9⟩
  · refine br0 c10 ?_
    have d12 := nle_z (x := 0) (y := (Int32.toInt r1)) rfl rfl c10
    refine br0 (z_nle (x := 0) (y := (Int32.toInt r1)) rfl rfl (by omega)) ?_
    have t13 : (Int32.toInt (-r1)) = - (Int32.toInt r1) := neg_z rfl (by omega) (by omega)
    refine ⟨vpi (x := (Int32.toInt (-r1))) rfl (by omega) (by omega), ?_⟩
    refine ⟨vpi (x := (Int32.toInt (-r1))) rfl (by omega) (by omega), ?_⟩
    refine un2_i ?_
    exact hq _ _ _ _ _ _ _ _ _ _ _ _ _ _ ⟨⟨by omega, by omega⟩, ⟨by omega, by omega⟩, j7, j8, j9⟩


set_option maxRecDepth 100000 in
theorem s_X12_force (a : Int32) (f_row : Nat → Int32) (f_refusals : Nat → Int32) (h_f_row : RLW f_row) {Q : Int32 → (Int32 × Int32 × (Nat → Int32) × (Nat → Int32)) → Prop} (hq : ∀ (r : Int32) (u_0 : Int32) (u_1 : Int32) (u_2 : Nat → Int32) (u_3 : Nat → Int32), (RLW u_2) → Q r (u_0, u_1, u_2, u_3)) : wp_X12_force a f_row f_refusals Q := by
  unfold wp_X12_force
  refine o_X12_isLaw _ _ _ ?_
  by_cases c1 : a = (-1)
  · refine br1 c1 ?_
    have d2 := eq_z (x := (Int32.toInt a)) (y := (-1)) rfl (by decide) c1
    refine br0 (by decide) ?_
    refine o_X12_change _ _ _ _ ?_
    refine ⟨by unfold vp_in; decide, ?_⟩
    refine ⟨by unfold vp_in; decide, ?_⟩
    refine un2_i ?_
    have g3 : (-1) ≤ (Int32.toInt (f_row (6 : Int32).toNatClampNeg)) ∧ (Int32.toInt (f_row (6 : Int32).toNatClampNeg)) ≤ 5 := RLW.at_6 h_f_row (rfl : ((6 : Nat) : Int) = 6) (by omega) (by omega)
    have R4 : RLW (upd f_row 6 a) := RLW.up_6 h_f_row (rfl : ((6 : Nat) : Int) = 6) (by omega) (by omega) (w := (Int32.toInt a)) rfl (by omega) (by omega)
    exact hq _ _ _ _ _ R4
  · refine br0 c1 ?_
    have d5 := ne_z (x := (Int32.toInt a)) (y := (-1)) rfl (by decide) c1
    refine o_X12_in _ _ _ _ ?_
    by_cases c6 : (lg_cmp a.toInt64 0) < 0
    · refine br1 c6 ?_
      have t7 : (Int64.toInt a.toInt64) = (Int32.toInt a) := i2l_z rfl
      have d8 := c_lt (x := (Int64.toInt a.toInt64)) (y := 0) rfl rfl c6
      refine br1 (by decide) ?_
      refine br1 (by decide) ?_
      refine o_X12_tell _ _ _ ?_
      refine jn_s ?_
      refine br0 (by decide) ?_
      refine br0 (by decide) ?_
      refine ⟨by unfold vp_in; decide, ?_⟩
      refine ⟨by unfold vp_in; decide, ?_⟩
      refine un2_i ?_
      exact hq _ _ _ _ _ h_f_row
    · refine br0 c6 ?_
      have t9 : (Int64.toInt a.toInt64) = (Int32.toInt a) := i2l_z rfl
      have d10 := c_nlt (x := (Int64.toInt a.toInt64)) (y := 0) rfl rfl c6
      by_cases c11 : 0 < (lg_cmp a.toInt64 ((f_row (5 : Int32).toNatClampNeg).toInt64 - 1))
      · refine br1 c11 ?_
        have g12 : 0 ≤ (Int32.toInt (f_row (5 : Int32).toNatClampNeg)) ∧ (Int32.toInt (f_row (5 : Int32).toNatClampNeg)) ≤ 6 := RLW.at_5 h_f_row (rfl : ((5 : Nat) : Int) = 5) (by omega) (by omega)
        have t13 : (Int64.toInt (f_row (5 : Int32).toNatClampNeg).toInt64) = (Int32.toInt (f_row (5 : Int32).toNatClampNeg)) := i2l_z rfl
        have t14 : (Int64.toInt ((f_row (5 : Int32).toNatClampNeg).toInt64 - 1)) = (Int64.toInt (f_row (5 : Int32).toNatClampNeg).toInt64) - 1 := lsub_z rfl rfl (by omega) (by omega)
        have d15 := c_gt (x := (Int64.toInt a.toInt64)) (y := (Int64.toInt ((f_row (5 : Int32).toNatClampNeg).toInt64 - 1))) rfl rfl c11
        refine br1 (by decide) ?_
        refine br1 (by decide) ?_
        refine o_X12_tell _ _ _ ?_
        refine jn_s ?_
        refine br0 (by decide) ?_
        refine br0 (by decide) ?_
        refine ⟨by unfold vp_in; decide, ?_⟩
        refine ⟨by unfold vp_in; decide, ?_⟩
        refine un2_i ?_
        exact hq _ _ _ _ _ h_f_row
      · refine br0 c11 ?_
        have g16 : 0 ≤ (Int32.toInt (f_row (5 : Int32).toNatClampNeg)) ∧ (Int32.toInt (f_row (5 : Int32).toNatClampNeg)) ≤ 6 := RLW.at_5 h_f_row (rfl : ((5 : Nat) : Int) = 5) (by omega) (by omega)
        have t17 : (Int64.toInt (f_row (5 : Int32).toNatClampNeg).toInt64) = (Int32.toInt (f_row (5 : Int32).toNatClampNeg)) := i2l_z rfl
        have t18 : (Int64.toInt ((f_row (5 : Int32).toNatClampNeg).toInt64 - 1)) = (Int64.toInt (f_row (5 : Int32).toNatClampNeg).toInt64) - 1 := lsub_z rfl rfl (by omega) (by omega)
        have d19 := c_ngt (x := (Int64.toInt a.toInt64)) (y := (Int64.toInt ((f_row (5 : Int32).toNatClampNeg).toInt64 - 1))) rfl rfl c11
        refine br0 (by decide) ?_
        refine br0 (by decide) ?_
        refine o_X12_change _ _ _ _ ?_
        refine ⟨by unfold vp_in; decide, ?_⟩
        refine ⟨by unfold vp_in; decide, ?_⟩
        refine un2_i ?_
        have g20 : (-1) ≤ (Int32.toInt (f_row (6 : Int32).toNatClampNeg)) ∧ (Int32.toInt (f_row (6 : Int32).toNatClampNeg)) ≤ 5 := RLW.at_6 h_f_row (rfl : ((6 : Nat) : Int) = 6) (by omega) (by omega)
        have R21 : RLW (upd f_row 6 a) := RLW.up_6 h_f_row (rfl : ((6 : Nat) : Int) = 6) (by omega) (by omega) (w := (Int32.toInt a)) rfl (by omega) (by omega)
        exact hq _ _ _ _ _ R21


set_option maxRecDepth 100000 in
theorem sl_X12_time_77 (Qb : Int32 → (Nat → Int64) → Prop) (KX : ∀ (x_77_0 : Int32) (x_77_1 : Nat → Int64), (202 ≤ x_77_0.toInt ∧ x_77_0.toInt ≤ 202) → Qb x_77_0 x_77_1) : ∀ (n : Nat) (x_77_0 : Int32) (x_77_1 : Nat → Int64), (0 ≤ x_77_0.toInt ∧ x_77_0.toInt ≤ 202) → 203 - x_77_0.toInt < (n : Int) → wl_X12_time_77 Qb n x_77_0 x_77_1 := by
  intro n
  induction n with
  | zero =>
    intro x_77_0 x_77_1 hI hm
    exfalso; have hm : 203 - x_77_0.toInt < 0 := hm; omega
  | succ n ih =>
    intro x_77_0 x_77_1 hI hm
    have hm : 203 - x_77_0.toInt < (n : Int) + 1 := by simpa using hm
    have h_x_77_0 := hI
    unfold wl_X12_time_77
    by_cases c42 : 202 ≤ x_77_0
    · refine br1 c42 ?_
      have d43 := le_z (x := 202) (y := (Int32.toInt x_77_0)) rfl rfl c42
      exact KX _ _ ⟨by omega, by omega⟩
    · refine br0 c42 ?_
      have d44 := nle_z (x := 202) (y := (Int32.toInt x_77_0)) rfl rfl c42
      refine ⟨vpi (x := (Int32.toInt x_77_0)) rfl (by omega) (by omega), ?_⟩
      have t45 : (Int32.toInt (x_77_0 + 1)) = (Int32.toInt x_77_0) + 1 := add_z rfl rfl (by omega) (by omega)
      exact ih _ _ ⟨by omega, by omega⟩ (by omega)
set_option maxRecDepth 100000 in
theorem sl_X12_time_132 (f_row : Nat → Int32) (h_f_row : RLW f_row) (Qb : Int32 → (Nat → Int64) → Prop) (KX : ∀ (x_132_0 : Int32) (x_132_1 : Nat → Int64), ((-1) ≤ x_132_0.toInt ∧ x_132_0.toInt ≤ (-1)) → Qb x_132_0 x_132_1) : ∀ (n : Nat) (x_132_0 : Int32) (x_132_1 : Nat → Int64), ((-1) ≤ x_132_0.toInt ∧ x_132_0.toInt ≤ 199) → x_132_0.toInt - (-2) < (n : Int) → wl_X12_time_132 f_row Qb n x_132_0 x_132_1 := by
  intro n
  induction n with
  | zero =>
    intro x_132_0 x_132_1 hI hm
    exfalso; have hm : x_132_0.toInt - (-2) < 0 := hm; omega
  | succ n ih =>
    intro x_132_0 x_132_1 hI hm
    have hm : x_132_0.toInt - (-2) < (n : Int) + 1 := by simpa using hm
    have h_x_132_0 := hI
    unfold wl_X12_time_132
    by_cases c49 : x_132_0 < 0
    · refine br1 c49 ?_
      have d50 := lt_z (x := (Int32.toInt x_132_0)) (y := 0) rfl rfl c49
      exact KX _ _ ⟨by omega, by omega⟩
    · refine br0 c49 ?_
      have d51 := nlt_z (x := (Int32.toInt x_132_0)) (y := 0) rfl rfl c49
      refine ⟨vpi (x := (Int32.toInt x_132_0)) rfl (by omega) (by omega), ?_⟩
      refine ⟨vpi (x := (Int32.toInt x_132_0)) rfl (by omega) (by omega), ?_⟩
      have t52 : (Int32.toInt (x_132_0 + 1)) = (Int32.toInt x_132_0) + 1 := add_z rfl rfl (by omega) (by omega)
      refine ⟨vpi (x := (Int32.toInt (x_132_0 + 1))) rfl (by omega) (by omega), ?_⟩
      refine ⟨vpi (x := (Int32.toInt (x_132_0 + 1))) rfl (by omega) (by omega), ?_⟩
      have t53 : (Int32.toInt (x_132_0 + (-1))) = (Int32.toInt x_132_0) + (-1) := add_z rfl (by decide) (by omega) (by omega)
      exact ih _ _ ⟨by omega, by omega⟩ (by omega)
set_option maxRecDepth 100000 in
theorem sl_X12_time_120 (d : Int32) (f_row : Nat → Int32) (r_39 : Int32) (h_d : 0 ≤ d.toInt ∧ d.toInt ≤ 200) (h_f_row : RLW f_row) (h_r_39 : 0 ≤ r_39.toInt ∧ r_39.toInt ≤ 200) (Qb : Int32 → (Nat → Int64) → Prop) (KX : ∀ (x_120_0 : Int32) (x_120_1 : Nat → Int64), (0 ≤ x_120_0.toInt ∧ x_120_0.toInt ≤ 200) → Qb x_120_0 x_120_1) : ∀ (n : Nat) (x_120_0 : Int32) (x_120_1 : Nat → Int64), (0 ≤ x_120_0.toInt ∧ x_120_0.toInt ≤ 200) → 201 - x_120_0.toInt < (n : Int) → wl_X12_time_120 d f_row r_39 Qb n x_120_0 x_120_1 := by
  intro n
  induction n with
  | zero =>
    intro x_120_0 x_120_1 hI hm
    exfalso; have hm : 201 - x_120_0.toInt < 0 := hm; omega
  | succ n ih =>
    intro x_120_0 x_120_1 hI hm
    have hm : 201 - x_120_0.toInt < (n : Int) + 1 := by simpa using hm
    have h_x_120_0 := hI
    unfold wl_X12_time_120
    by_cases c46 : d ≤ x_120_0
    · refine br1 c46 ?_
      have d47 := le_z (x := (Int32.toInt d)) (y := (Int32.toInt x_120_0)) rfl rfl c46
      exact KX _ _ ⟨by omega, by omega⟩
    · refine br0 c46 ?_
      have d48 := nle_z (x := (Int32.toInt d)) (y := (Int32.toInt x_120_0)) rfl rfl c46
      have t51 : (Int32.toInt (r_39 - 1)) = (Int32.toInt r_39) - 1 := sub_z rfl rfl (by omega) (by omega)
      refine sl_X12_time_132 (f_row) h_f_row _ (fun x49_0 x49_1 X50 => ?_) 1000000000000 (r_39 - 1) (x_120_1) ⟨by omega, by omega⟩ (by omega)
      have j52 := X50
      have t53 : (Int32.toInt (x_120_0 + 1)) = (Int32.toInt x_120_0) + 1 := add_z rfl rfl (by omega) (by omega)
      exact ih _ _ ⟨by omega, by omega⟩ (by omega)
set_option maxRecDepth 100000 in
theorem s_X12_time (a : Int32) (b : Int32) (d : Int32) (h0_ordered : Int32) (h0_law : Int32) (h0_broken : Int32) (h0_value : Int64) (h0_sum : Int64) (f_row : Nat → Int32) (f_days : Nat → Int32) (f_set : Nat → Int64) (f_nOp : Nat → Int32) (f_nArg : Nat → Int32) (f_rest : Nat → Int64) (f_now : Nat → Int64) (f_parts : Nat → Int64) (h_h0_ordered : 0 ≤ h0_ordered.toInt ∧ h0_ordered.toInt ≤ 0) (h_h0_broken : 0 ≤ h0_broken.toInt ∧ h0_broken.toInt ≤ 1) (h_f_row : RLW f_row) (h_f_days : DY f_days) {Q : Int64 → (Int32 × Int32 × Int32 × Int64 × Int64 × (Nat → Int32) × (Nat → Int64) × (Nat → Int64) × (Nat → Int64)) → Prop} (hq : ∀ (r : Int64) (u_0 : Int32) (u_1 : Int32) (u_2 : Int32) (u_3 : Int64) (u_4 : Int64) (u_5 : Nat → Int32) (u_6 : Nat → Int64) (u_7 : Nat → Int64) (u_8 : Nat → Int64), (0 ≤ u_2.toInt ∧ u_2.toInt ≤ 1) ∧ (DY u_5) → Q r (u_0, u_1, u_2, u_3, u_4, u_5, u_6, u_7, u_8)) : wp_X12_time a b d h0_ordered h0_law h0_broken h0_value h0_sum f_row f_days f_set f_nOp f_nArg f_rest f_now f_parts Q := by
  unfold wp_X12_time
  refine o_X12_isShaft _ _ _ ?_
  refine o_X12_in _ _ _ _ ?_
  by_cases c1 : (lg_cmp a.toInt64 0) < 0
  · refine br1 c1 ?_
    have t2 : (Int64.toInt a.toInt64) = (Int32.toInt a) := i2l_z rfl
    have d3 := c_lt (x := (Int64.toInt a.toInt64)) (y := 0) rfl rfl c1
    refine br1 (by decide) ?_
    exact hq _ _ _ _ _ _ _ _ _ _ ⟨⟨by omega, by omega⟩, h_f_days⟩
  · refine br0 c1 ?_
    have t4 : (Int64.toInt a.toInt64) = (Int32.toInt a) := i2l_z rfl
    have d5 := c_nlt (x := (Int64.toInt a.toInt64)) (y := 0) rfl rfl c1
    by_cases c6 : 0 < (lg_cmp a.toInt64 ((f_row (0 : Int32).toNatClampNeg).toInt64 - 1))
    · refine br1 c6 ?_
      have g7 : 0 ≤ (Int32.toInt (f_row (0 : Int32).toNatClampNeg)) ∧ (Int32.toInt (f_row (0 : Int32).toNatClampNeg)) ≤ 6 := RLW.at_0 h_f_row (rfl : ((0 : Nat) : Int) = 0) (by omega) (by omega)
      have t8 : (Int64.toInt (f_row (0 : Int32).toNatClampNeg).toInt64) = (Int32.toInt (f_row (0 : Int32).toNatClampNeg)) := i2l_z rfl
      have t9 : (Int64.toInt ((f_row (0 : Int32).toNatClampNeg).toInt64 - 1)) = (Int64.toInt (f_row (0 : Int32).toNatClampNeg).toInt64) - 1 := lsub_z rfl rfl (by omega) (by omega)
      have d10 := c_gt (x := (Int64.toInt a.toInt64)) (y := (Int64.toInt ((f_row (0 : Int32).toNatClampNeg).toInt64 - 1))) rfl rfl c6
      refine br1 (by decide) ?_
      exact hq _ _ _ _ _ _ _ _ _ _ ⟨⟨by omega, by omega⟩, h_f_days⟩
    · refine br0 c6 ?_
      have g11 : 0 ≤ (Int32.toInt (f_row (0 : Int32).toNatClampNeg)) ∧ (Int32.toInt (f_row (0 : Int32).toNatClampNeg)) ≤ 6 := RLW.at_0 h_f_row (rfl : ((0 : Nat) : Int) = 0) (by omega) (by omega)
      have t12 : (Int64.toInt (f_row (0 : Int32).toNatClampNeg).toInt64) = (Int32.toInt (f_row (0 : Int32).toNatClampNeg)) := i2l_z rfl
      have t13 : (Int64.toInt ((f_row (0 : Int32).toNatClampNeg).toInt64 - 1)) = (Int64.toInt (f_row (0 : Int32).toNatClampNeg).toInt64) - 1 := lsub_z rfl rfl (by omega) (by omega)
      have d14 := c_ngt (x := (Int64.toInt a.toInt64)) (y := (Int64.toInt ((f_row (0 : Int32).toNatClampNeg).toInt64 - 1))) rfl rfl c6
      refine br0 (by decide) ?_
      refine o_X12_isCell _ _ ?_
      refine o_X12_in _ _ _ _ ?_
      by_cases c15 : (lg_cmp b.toInt64 0) < 0
      · refine br1 c15 ?_
        have t16 : (Int64.toInt b.toInt64) = (Int32.toInt b) := i2l_z rfl
        have d17 := c_lt (x := (Int64.toInt b.toInt64)) (y := 0) rfl rfl c15
        refine br1 (by decide) ?_
        exact hq _ _ _ _ _ _ _ _ _ _ ⟨⟨by omega, by omega⟩, h_f_days⟩
      · refine br0 c15 ?_
        have t18 : (Int64.toInt b.toInt64) = (Int32.toInt b) := i2l_z rfl
        have d19 := c_nlt (x := (Int64.toInt b.toInt64)) (y := 0) rfl rfl c15
        by_cases c20 : 0 < (lg_cmp b.toInt64 39)
        · refine br1 c20 ?_
          have d21 := c_gt (x := (Int64.toInt b.toInt64)) (y := 39) rfl rfl c20
          refine br1 (by decide) ?_
          exact hq _ _ _ _ _ _ _ _ _ _ ⟨⟨by omega, by omega⟩, h_f_days⟩
        · refine br0 c20 ?_
          have d22 := c_ngt (x := (Int64.toInt b.toInt64)) (y := 39) rfl rfl c20
          refine br0 (by decide) ?_
          refine o_X12_in _ _ _ _ ?_
          by_cases c23 : (lg_cmp d.toInt64 0) < 0
          · refine br1 c23 ?_
            have t24 : (Int64.toInt d.toInt64) = (Int32.toInt d) := i2l_z rfl
            have d25 := c_lt (x := (Int64.toInt d.toInt64)) (y := 0) rfl rfl c23
            refine br1 (by decide) ?_
            exact hq _ _ _ _ _ _ _ _ _ _ ⟨⟨by omega, by omega⟩, h_f_days⟩
          · refine br0 c23 ?_
            have t26 : (Int64.toInt d.toInt64) = (Int32.toInt d) := i2l_z rfl
            have d27 := c_nlt (x := (Int64.toInt d.toInt64)) (y := 0) rfl rfl c23
            by_cases c28 : 0 < (lg_cmp d.toInt64 200)
            · refine br1 c28 ?_
              have d29 := c_gt (x := (Int64.toInt d.toInt64)) (y := 200) rfl rfl c28
              refine br1 (by decide) ?_
              exact hq _ _ _ _ _ _ _ _ _ _ ⟨⟨by omega, by omega⟩, h_f_days⟩
            · refine br0 c28 ?_
              have d30 := c_ngt (x := (Int64.toInt d.toInt64)) (y := 200) rfl rfl c28
              refine br0 (by decide) ?_
              refine s_X12_findDown a b h0_ordered h0_law h0_broken h0_value h0_sum (f_days) (f_row) (f_set) (f_nOp) (f_nArg) (f_rest) (f_now) ⟨by omega, by omega⟩ ⟨by omega, by omega⟩ ⟨by omega, by omega⟩ h_f_days h_f_row (fun r31 u32_0 u32_1 u32_2 u32_3 u32_4 u32_5 u32_6 H33 => ?_)
              have j34 := H33.1
              have j35 := H33.2.1
              have j36 := H33.2.2
              refine un7_i ?_
              by_cases c37 : r31 = 100000000
              · refine br1 c37 ?_
                have d38 := eq_z (x := (Int32.toInt r31)) (y := 100000000) rfl rfl c37
                exact hq _ _ _ _ _ _ _ _ _ _ ⟨⟨by omega, by omega⟩, j36⟩
              · refine br0 c37 ?_
                have d39 := ne_z (x := (Int32.toInt r31)) (y := 100000000) rfl rfl c37
                by_cases c40 : r31 ≤ d
                · refine br1 c40 ?_
                  have d41 := le_z (x := (Int32.toInt r31)) (y := (Int32.toInt d)) rfl rfl c40
                  have k44 : Int32.toInt 0 = 0 := rfl
                  refine sl_X12_time_77   _ (fun x42_0 x42_1 X43 => ?_) 1000000000000 0 (f_parts) (by decide) (by omega)
                  have j45 := X43
                  refine sl_X12_time_120 d (f_row) r31 ⟨by omega, by omega⟩ h_f_row ⟨by omega, by omega⟩ _ (fun x46_0 x46_1 X47 => ?_) 1000000000000 0 ((vp_updL x42_1 0 1000000000000)) (by decide) (by omega)
                  have j48 := X47
                  refine ⟨vpi (x := (Int32.toInt r31)) rfl (by omega) (by omega), ?_⟩
                  exact hq _ _ _ _ _ _ _ _ _ _ ⟨⟨by omega, by omega⟩, j36⟩
                · refine br0 c40 ?_
                  have d49 := nle_z (x := (Int32.toInt r31)) (y := (Int32.toInt d)) rfl rfl c40
                  exact hq _ _ _ _ _ _ _ _ _ _ ⟨⟨by omega, by omega⟩, j36⟩


set_option maxRecDepth 100000 in
theorem s_X12_of (a : Int32) (b : Int32) (f_row : Nat → Int32) (h_f_row : RLW f_row) {Q : Int32 → Int32 → Prop} (hq : ∀ (r : Int32) (u : Int32), True → Q r u) : wp_X12_of a b f_row Q := by
  unfold wp_X12_of
  refine o_X12_isShaft _ _ _ ?_
  refine o_X12_in _ _ _ _ ?_
  by_cases c1 : (lg_cmp a.toInt64 0) < 0
  · refine br1 c1 ?_
    have t2 : (Int64.toInt a.toInt64) = (Int32.toInt a) := i2l_z rfl
    have d3 := c_lt (x := (Int64.toInt a.toInt64)) (y := 0) rfl rfl c1
    refine br1 (by decide) ?_
    exact hq _ _ trivial
  · refine br0 c1 ?_
    have t4 : (Int64.toInt a.toInt64) = (Int32.toInt a) := i2l_z rfl
    have d5 := c_nlt (x := (Int64.toInt a.toInt64)) (y := 0) rfl rfl c1
    by_cases c6 : 0 < (lg_cmp a.toInt64 ((f_row (0 : Int32).toNatClampNeg).toInt64 - 1))
    · refine br1 c6 ?_
      have g7 : 0 ≤ (Int32.toInt (f_row (0 : Int32).toNatClampNeg)) ∧ (Int32.toInt (f_row (0 : Int32).toNatClampNeg)) ≤ 6 := RLW.at_0 h_f_row (rfl : ((0 : Nat) : Int) = 0) (by omega) (by omega)
      have t8 : (Int64.toInt (f_row (0 : Int32).toNatClampNeg).toInt64) = (Int32.toInt (f_row (0 : Int32).toNatClampNeg)) := i2l_z rfl
      have t9 : (Int64.toInt ((f_row (0 : Int32).toNatClampNeg).toInt64 - 1)) = (Int64.toInt (f_row (0 : Int32).toNatClampNeg).toInt64) - 1 := lsub_z rfl rfl (by omega) (by omega)
      have d10 := c_gt (x := (Int64.toInt a.toInt64)) (y := (Int64.toInt ((f_row (0 : Int32).toNatClampNeg).toInt64 - 1))) rfl rfl c6
      refine br1 (by decide) ?_
      exact hq _ _ trivial
    · refine br0 c6 ?_
      have g11 : 0 ≤ (Int32.toInt (f_row (0 : Int32).toNatClampNeg)) ∧ (Int32.toInt (f_row (0 : Int32).toNatClampNeg)) ≤ 6 := RLW.at_0 h_f_row (rfl : ((0 : Nat) : Int) = 0) (by omega) (by omega)
      have t12 : (Int64.toInt (f_row (0 : Int32).toNatClampNeg).toInt64) = (Int32.toInt (f_row (0 : Int32).toNatClampNeg)) := i2l_z rfl
      have t13 : (Int64.toInt ((f_row (0 : Int32).toNatClampNeg).toInt64 - 1)) = (Int64.toInt (f_row (0 : Int32).toNatClampNeg).toInt64) - 1 := lsub_z rfl rfl (by omega) (by omega)
      have d14 := c_ngt (x := (Int64.toInt a.toInt64)) (y := (Int64.toInt ((f_row (0 : Int32).toNatClampNeg).toInt64 - 1))) rfl rfl c6
      refine br0 (by decide) ?_
      by_cases c15 : b = 0
      · refine br1 c15 ?_
        have d16 := eq_z (x := (Int32.toInt b)) (y := 0) rfl rfl c15
        have t17 : (Int32.toInt (10 + a)) = 10 + (Int32.toInt a) := add_z rfl rfl (by omega) (by omega)
        refine ⟨vpi (x := (Int32.toInt (10 + a))) rfl (by omega) (by omega), ?_⟩
        have g18 : 0 ≤ (Int32.toInt (f_row (10 + a).toNatClampNeg)) ∧ (Int32.toInt (f_row (10 + a).toNatClampNeg)) ≤ 39 := RLW.at_10 h_f_row (tnz (x := (Int32.toInt (10 + a))) rfl (by omega)) (by omega) (by omega)
        exact hq _ _ trivial
      · refine br0 c15 ?_
        have d19 := ne_z (x := (Int32.toInt b)) (y := 0) rfl rfl c15
        by_cases c20 : b = 1
        · refine br1 c20 ?_
          have d21 := eq_z (x := (Int32.toInt b)) (y := 1) rfl rfl c20
          have t22 : (Int32.toInt (16 + a)) = 16 + (Int32.toInt a) := add_z rfl rfl (by omega) (by omega)
          refine ⟨vpi (x := (Int32.toInt (16 + a))) rfl (by omega) (by omega), ?_⟩
          have g23 : 0 ≤ (Int32.toInt (f_row (16 + a).toNatClampNeg)) ∧ (Int32.toInt (f_row (16 + a).toNatClampNeg)) ≤ 9999 := RLW.at_16 h_f_row (tnz (x := (Int32.toInt (16 + a))) rfl (by omega)) (by omega) (by omega)
          exact hq _ _ trivial
        · refine br0 c20 ?_
          have d24 := ne_z (x := (Int32.toInt b)) (y := 1) rfl rfl c20
          by_cases c25 : b = 2
          · refine br1 c25 ?_
            have d26 := eq_z (x := (Int32.toInt b)) (y := 2) rfl rfl c25
            refine o_X12_isSpoilt _ _ _ ?_
            have t27 : (Int32.toInt (10 + a)) = 10 + (Int32.toInt a) := add_z rfl rfl (by omega) (by omega)
            refine ⟨vpi (x := (Int32.toInt (10 + a))) rfl (by omega) (by omega), ?_⟩
            have g28 : 0 ≤ (Int32.toInt (f_row (10 + a).toNatClampNeg)) ∧ (Int32.toInt (f_row (10 + a).toNatClampNeg)) ≤ 39 := RLW.at_10 h_f_row (tnz (x := (Int32.toInt (10 + a))) rfl (by omega)) (by omega) (by omega)
            have t29 : (Int32.toInt (113 + (f_row (10 + a).toNatClampNeg))) = 113 + (Int32.toInt (f_row (10 + a).toNatClampNeg)) := add_z rfl rfl (by omega) (by omega)
            refine ⟨vpi (x := (Int32.toInt (113 + (f_row (10 + a).toNatClampNeg)))) rfl (by omega) (by omega), ?_⟩
            by_cases c30 : (f_row (113 + (f_row (10 + a).toNatClampNeg)).toNatClampNeg) = 2
            · refine br1 c30 ?_
              have g31 : 0 ≤ (Int32.toInt (f_row (113 + (f_row (10 + a).toNatClampNeg)).toNatClampNeg)) ∧ (Int32.toInt (f_row (113 + (f_row (10 + a).toNatClampNeg)).toNatClampNeg)) ≤ 3 := RLW.at_113 h_f_row (tnz (x := (Int32.toInt (113 + (f_row (10 + a).toNatClampNeg)))) rfl (by omega)) (by omega) (by omega)
              have d32 := eq_z (x := (Int32.toInt (f_row (113 + (f_row (10 + a).toNatClampNeg)).toNatClampNeg))) (y := 2) rfl rfl c30
              refine br0 (by decide) ?_
              exact hq _ _ trivial
            · refine br0 c30 ?_
              have g33 : 0 ≤ (Int32.toInt (f_row (113 + (f_row (10 + a).toNatClampNeg)).toNatClampNeg)) ∧ (Int32.toInt (f_row (113 + (f_row (10 + a).toNatClampNeg)).toNatClampNeg)) ≤ 3 := RLW.at_113 h_f_row (tnz (x := (Int32.toInt (113 + (f_row (10 + a).toNatClampNeg)))) rfl (by omega)) (by omega) (by omega)
              have d34 := ne_z (x := (Int32.toInt (f_row (113 + (f_row (10 + a).toNatClampNeg)).toNatClampNeg))) (y := 2) rfl rfl c30
              refine br1 (by decide) ?_
              exact hq _ _ trivial
          · refine br0 c25 ?_
            have d35 := ne_z (x := (Int32.toInt b)) (y := 2) rfl rfl c25
            by_cases c36 : b = 3
            · refine br1 c36 ?_
              have d37 := eq_z (x := (Int32.toInt b)) (y := 3) rfl rfl c36
              refine o_X12_hasFound _ _ _ ?_
              have t38 : (Int32.toInt (10 + a)) = 10 + (Int32.toInt a) := add_z rfl rfl (by omega) (by omega)
              refine ⟨vpi (x := (Int32.toInt (10 + a))) rfl (by omega) (by omega), ?_⟩
              have g39 : 0 ≤ (Int32.toInt (f_row (10 + a).toNatClampNeg)) ∧ (Int32.toInt (f_row (10 + a).toNatClampNeg)) ≤ 39 := RLW.at_10 h_f_row (tnz (x := (Int32.toInt (10 + a))) rfl (by omega)) (by omega) (by omega)
              have t40 : (Int32.toInt (113 + (f_row (10 + a).toNatClampNeg))) = 113 + (Int32.toInt (f_row (10 + a).toNatClampNeg)) := add_z rfl rfl (by omega) (by omega)
              refine ⟨vpi (x := (Int32.toInt (113 + (f_row (10 + a).toNatClampNeg)))) rfl (by omega) (by omega), ?_⟩
              by_cases c41 : (f_row (113 + (f_row (10 + a).toNatClampNeg)).toNatClampNeg) = 3
              · refine br1 c41 ?_
                have g42 : 0 ≤ (Int32.toInt (f_row (113 + (f_row (10 + a).toNatClampNeg)).toNatClampNeg)) ∧ (Int32.toInt (f_row (113 + (f_row (10 + a).toNatClampNeg)).toNatClampNeg)) ≤ 3 := RLW.at_113 h_f_row (tnz (x := (Int32.toInt (113 + (f_row (10 + a).toNatClampNeg)))) rfl (by omega)) (by omega) (by omega)
                have d43 := eq_z (x := (Int32.toInt (f_row (113 + (f_row (10 + a).toNatClampNeg)).toNatClampNeg))) (y := 3) rfl rfl c41
                refine br0 (by decide) ?_
                exact hq _ _ trivial
              · refine br0 c41 ?_
                have g44 : 0 ≤ (Int32.toInt (f_row (113 + (f_row (10 + a).toNatClampNeg)).toNatClampNeg)) ∧ (Int32.toInt (f_row (113 + (f_row (10 + a).toNatClampNeg)).toNatClampNeg)) ≤ 3 := RLW.at_113 h_f_row (tnz (x := (Int32.toInt (113 + (f_row (10 + a).toNatClampNeg)))) rfl (by omega)) (by omega) (by omega)
                have d45 := ne_z (x := (Int32.toInt (f_row (113 + (f_row (10 + a).toNatClampNeg)).toNatClampNeg))) (y := 3) rfl rfl c41
                refine br1 (by decide) ?_
                exact hq _ _ trivial
            · refine br0 c36 ?_
              have d46 := ne_z (x := (Int32.toInt b)) (y := 3) rfl rfl c36
              by_cases c47 : b = 4
              · refine br1 c47 ?_
                have d48 := eq_z (x := (Int32.toInt b)) (y := 4) rfl rfl c47
                refine s_X12_hasOf a (f_row) ⟨by omega, by omega⟩ h_f_row (by omega) (fun r49 H50 => ?_)
                exact hq _ _ trivial
              · refine br0 c47 ?_
                have d51 := ne_z (x := (Int32.toInt b)) (y := 4) rfl rfl c47
                exact hq _ _ trivial


set_option maxRecDepth 100000 in
theorem s_X12_vein (a : Int32) (b : Int32) (f_row : Nat → Int32) (h_f_row : RLW f_row) {Q : Int64 → Int32 → Prop} (hq : ∀ (r : Int64) (u : Int32), True → Q r u) : wp_X12_vein a b f_row Q := by
  unfold wp_X12_vein
  refine o_X12_isCell _ _ ?_
  refine o_X12_in _ _ _ _ ?_
  by_cases c1 : (lg_cmp a.toInt64 0) < 0
  · refine br1 c1 ?_
    have t2 : (Int64.toInt a.toInt64) = (Int32.toInt a) := i2l_z rfl
    have d3 := c_lt (x := (Int64.toInt a.toInt64)) (y := 0) rfl rfl c1
    refine br1 (by decide) ?_
    exact hq _ _ trivial
  · refine br0 c1 ?_
    have t4 : (Int64.toInt a.toInt64) = (Int32.toInt a) := i2l_z rfl
    have d5 := c_nlt (x := (Int64.toInt a.toInt64)) (y := 0) rfl rfl c1
    by_cases c6 : 0 < (lg_cmp a.toInt64 39)
    · refine br1 c6 ?_
      have d7 := c_gt (x := (Int64.toInt a.toInt64)) (y := 39) rfl rfl c6
      refine br1 (by decide) ?_
      exact hq _ _ trivial
    · refine br0 c6 ?_
      have d8 := c_ngt (x := (Int64.toInt a.toInt64)) (y := 39) rfl rfl c6
      refine br0 (by decide) ?_
      have t9 : (Int32.toInt (113 + a)) = 113 + (Int32.toInt a) := add_z rfl rfl (by omega) (by omega)
      refine ⟨vpi (x := (Int32.toInt (113 + a))) rfl (by omega) (by omega), ?_⟩
      by_cases c10 : (f_row (113 + a).toNatClampNeg) = 3
      · refine br1 c10 ?_
        have g11 : 0 ≤ (Int32.toInt (f_row (113 + a).toNatClampNeg)) ∧ (Int32.toInt (f_row (113 + a).toNatClampNeg)) ≤ 3 := RLW.at_113 h_f_row (tnz (x := (Int32.toInt (113 + a))) rfl (by omega)) (by omega) (by omega)
        have d12 := eq_z (x := (Int32.toInt (f_row (113 + a).toNatClampNeg))) (y := 3) rfl rfl c10
        refine o_X12_in _ _ _ _ ?_
        by_cases c13 : (lg_cmp b.toInt64 0) < 0
        · refine br1 c13 ?_
          have t14 : (Int64.toInt b.toInt64) = (Int32.toInt b) := i2l_z rfl
          have d15 := c_lt (x := (Int64.toInt b.toInt64)) (y := 0) rfl rfl c13
          refine br1 (by decide) ?_
          exact hq _ _ trivial
        · refine br0 c13 ?_
          have t16 : (Int64.toInt b.toInt64) = (Int32.toInt b) := i2l_z rfl
          have d17 := c_nlt (x := (Int64.toInt b.toInt64)) (y := 0) rfl rfl c13
          by_cases c18 : 0 < (lg_cmp b.toInt64 2)
          · refine br1 c18 ?_
            have d19 := c_gt (x := (Int64.toInt b.toInt64)) (y := 2) rfl rfl c18
            refine br1 (by decide) ?_
            exact hq _ _ trivial
          · refine br0 c18 ?_
            have d20 := c_ngt (x := (Int64.toInt b.toInt64)) (y := 2) rfl rfl c18
            refine br0 (by decide) ?_
            refine s_X12_veinOf a (f_row) ⟨by omega, by omega⟩ h_f_row (fun r21 H22 => ?_)
            by_cases c23 : b = 0
            · refine br1 c23 ?_
              have d24 := eq_z (x := (Int32.toInt b)) (y := 0) rfl rfl c23
              exact hq _ _ trivial
            · refine br0 c23 ?_
              have d25 := ne_z (x := (Int32.toInt b)) (y := 0) rfl rfl c23
              by_cases c26 : b = 1
              · refine br1 c26 ?_
                have d27 := eq_z (x := (Int32.toInt b)) (y := 1) rfl rfl c26
                refine s_X12_waterOf r21 (f_row) h_f_row (fun r28 H29 => ?_)
                have t30 : (Int64.toInt r28.toInt64) = (Int32.toInt r28) := i2l_z rfl
                exact hq _ _ trivial
              · refine br0 c26 ?_
                have d31 := ne_z (x := (Int32.toInt b)) (y := 1) rfl rfl c26
                refine s_X12_shaftsIn r21 (f_row) h_f_row (fun r32 H33 => ?_)
                have j34 := H33
                have t35 : (Int64.toInt r32.toInt64) = (Int32.toInt r32) := i2l_z rfl
                exact hq _ _ trivial
      · refine br0 c10 ?_
        have g36 : 0 ≤ (Int32.toInt (f_row (113 + a).toNatClampNeg)) ∧ (Int32.toInt (f_row (113 + a).toNatClampNeg)) ≤ 3 := RLW.at_113 h_f_row (tnz (x := (Int32.toInt (113 + a))) rfl (by omega)) (by omega) (by omega)
        have d37 := ne_z (x := (Int32.toInt (f_row (113 + a).toNatClampNeg))) (y := 3) rfl rfl c10
        exact hq _ _ trivial

