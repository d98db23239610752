set_option maxRecDepth 100000 in
theorem s_X12_hearsz (a : Int32) (h0_ordered : Int32) (h0_law : Int32) (h0_broken : Int32) (h0_value : Int64) (h0_sum : Int64) (f_row : Nat → Int32) (f_set : Nat → Int64) (f_nOp : Nat → Int32) (f_nArg : Nat → Int32) (f_rest : Nat → Int64) (f_now : Nat → Int64) {w : Nat → Int} {ls : Nat → List Cls} (h_h0_ordered : 0 ≤ h0_ordered.toInt ∧ h0_ordered.toInt ≤ 0) (h_h0_broken : 0 ≤ h0_broken.toInt ∧ h0_broken.toInt ≤ 1) (h_f_row : RLW f_row) (e_0 : RMw f_row w) (e_1 : RML f_row ls) {Q : Int64 → (Int32 × Int32 × Int32 × Int64 × Int64 × (Nat → Int64) × (Nat → Int64)) → Prop} (hq : ∀ (r : Int64) (u_0 : Int32) (u_1 : Int32) (u_2 : Int32) (u_3 : Int64) (u_4 : Int64) (u_5 : Nat → Int64) (u_6 : Nat → Int64), (0 ≤ u_2.toInt ∧ u_2.toInt ≤ 1) ∧ (r = hearsR (lawW w ls) w a.toInt) → Q r (u_0, u_1, u_2, u_3, u_4, u_5, u_6)) : wp_X12_hears a h0_ordered h0_law h0_broken h0_value h0_sum f_row f_set f_nOp f_nArg f_rest f_now Q := by
  unfold wp_X12_hears
  obtain rfl : h0_ordered = 0 := z_eq (y := 0) rfl rfl (by omega)
  refine o_X12_isEar _ _ _ ?_
  refine o_X12_in _ _ _ _ ?_
  by_cases c1 : (lg_cmp a.toInt64 0) < 0
  · refine br1 c1 ?_
    have t2 : (Int64.toInt a.toInt64) = (Int32.toInt a) := i2l_z rfl
    have d3 := c_lt (x := (Int64.toInt a.toInt64)) (y := 0) rfl rfl c1
    refine br1 (by decide) ?_
    have k4 : Int64.toInt (-1) = (-1) := (by decide +kernel)
    have k5 : Int32.toInt 0 = 0 := rfl
    exact hq _ _ _ _ _ _ _ _ ⟨⟨by omega, by omega⟩, (by unfold hearsR; rw [if_pos (by omega)]; try rfl)⟩
  · refine br0 c1 ?_
    have t6 : (Int64.toInt a.toInt64) = (Int32.toInt a) := i2l_z rfl
    have d7 := c_nlt (x := (Int64.toInt a.toInt64)) (y := 0) rfl rfl c1
    by_cases c8 : 0 < (lg_cmp a.toInt64 ((f_row (1 : Int32).toNatClampNeg).toInt64 - 1))
    · refine br1 c8 ?_
      have g9 : 0 ≤ (Int32.toInt (f_row (1 : Int32).toNatClampNeg)) ∧ (Int32.toInt (f_row (1 : Int32).toNatClampNeg)) ≤ 5 := RLW.at_1 h_f_row (rfl : ((1 : Nat) : Int) = 1) (by omega) (by omega)
      have t10 : (Int32.toInt (f_row (1 : Int32).toNatClampNeg)) = w (1) := RMw.z e_0 (i := 1) rfl (by omega)
      have t11 : (Int64.toInt (f_row (1 : Int32).toNatClampNeg).toInt64) = (Int32.toInt (f_row (1 : Int32).toNatClampNeg)) := i2l_z rfl
      have t12 : (Int64.toInt ((f_row (1 : Int32).toNatClampNeg).toInt64 - 1)) = (Int64.toInt (f_row (1 : Int32).toNatClampNeg).toInt64) - 1 := lsub_z rfl rfl (by omega) (by omega)
      have d13 := c_gt (x := (Int64.toInt a.toInt64)) (y := (Int64.toInt ((f_row (1 : Int32).toNatClampNeg).toInt64 - 1))) rfl rfl c8
      refine br1 (by decide) ?_
      have k14 : Int64.toInt (-1) = (-1) := (by decide +kernel)
      have k15 : Int32.toInt 0 = 0 := rfl
      exact hq _ _ _ _ _ _ _ _ ⟨⟨by omega, by omega⟩, (by unfold hearsR; rw [if_pos (by omega)]; try rfl)⟩
    · refine br0 c8 ?_
      have g16 : 0 ≤ (Int32.toInt (f_row (1 : Int32).toNatClampNeg)) ∧ (Int32.toInt (f_row (1 : Int32).toNatClampNeg)) ≤ 5 := RLW.at_1 h_f_row (rfl : ((1 : Nat) : Int) = 1) (by omega) (by omega)
      have t17 : (Int32.toInt (f_row (1 : Int32).toNatClampNeg)) = w (1) := RMw.z e_0 (i := 1) rfl (by omega)
      have t18 : (Int64.toInt (f_row (1 : Int32).toNatClampNeg).toInt64) = (Int32.toInt (f_row (1 : Int32).toNatClampNeg)) := i2l_z rfl
      have t19 : (Int64.toInt ((f_row (1 : Int32).toNatClampNeg).toInt64 - 1)) = (Int64.toInt (f_row (1 : Int32).toNatClampNeg).toInt64) - 1 := lsub_z rfl rfl (by omega) (by omega)
      have d20 := c_ngt (x := (Int64.toInt a.toInt64)) (y := (Int64.toInt ((f_row (1 : Int32).toNatClampNeg).toInt64 - 1))) rfl rfl c8
      refine br0 (by decide) ?_
      refine x_mheardBy e_1 e_0 h_f_row (l := a.toInt.toNat) (by omega) (by omega) ⟨by omega, by omega⟩ (fun r21 q22 q23 q24 q25 q26 q27 hb28 H29 => ?_)
      have j30 := H29
      refine un6_i ?_
      have k31 : Int32.toInt 0 = 0 := rfl
      exact hq _ _ _ _ _ _ _ _ ⟨⟨by omega, by omega⟩, (by unfold hearsR; rw [if_neg (by omega)]; exact hb28)⟩


set_option maxRecDepth 100000 in
theorem s_X12_hiddenz (h0_ordered : Int32) (h0_law : Int32) (h0_broken : Int32) (h0_value : Int64) (h0_sum : Int64) (f_row : Nat → Int32) (f_set : Nat → Int64) (f_nOp : Nat → Int32) (f_nArg : Nat → Int32) (f_rest : Nat → Int64) (f_now : Nat → Int64) {w : Nat → Int} {ls : Nat → List Cls} (h_h0_ordered : 0 ≤ h0_ordered.toInt ∧ h0_ordered.toInt ≤ 0) (h_h0_broken : 0 ≤ h0_broken.toInt ∧ h0_broken.toInt ≤ 1) (h_f_row : RLW f_row) (e_0 : RMw f_row w) (e_1 : RML f_row ls) {Q : Int64 → (Int32 × Int32 × Int32 × Int64 × Int64 × (Nat → Int64) × (Nat → Int64)) → Prop} (hq : ∀ (r : Int64) (u_0 : Int32) (u_1 : Int32) (u_2 : Int32) (u_3 : Int64) (u_4 : Int64) (u_5 : Nat → Int64) (u_6 : Nat → Int64), (0 ≤ u_2.toInt ∧ u_2.toInt ≤ 1) ∧ (r = hidL (lawW w ls) w) → Q r (u_0, u_1, u_2, u_3, u_4, u_5, u_6)) : wp_X12_hidden h0_ordered h0_law h0_broken h0_value h0_sum f_row f_set f_nOp f_nArg f_rest f_now Q := by
  obtain rfl : h0_ordered = 0 := z_eq (y := 0) rfl rfl (by omega)
  exact x_mhidden e_1 e_0 h_f_row h_h0_broken (fun r l b v s t p h hb => hq r 0 l b v s t p ⟨hb, h⟩)


set_option maxRecDepth 100000 in
theorem s_X12_nextz (a : Int32) (h0_ordered : Int32) (h0_law : Int32) (h0_broken : Int32) (h0_value : Int64) (h0_sum : Int64) (f_alike : Nat → Int32) (f_row : Nat → Int32) (f_set : Nat → Int64) (f_nOp : Nat → Int32) (f_nArg : Nat → Int32) (f_rest : Nat → Int64) (f_now : Nat → Int64) {w : Nat → Int} {ls : Nat → List Cls} (h_h0_ordered : 0 ≤ h0_ordered.toInt ∧ h0_ordered.toInt ≤ 0) (h_h0_broken : 0 ≤ h0_broken.toInt ∧ h0_broken.toInt ≤ 1) (h_f_row : RLW f_row) (e_0 : RMw f_row w) (e_1 : RML f_row ls) {Q : Int32 → (Int32 × Int32 × Int32 × Int64 × Int64 × (Nat → Int32) × (Nat → Int64) × (Nat → Int64)) → Prop} (hq : ∀ (r : Int32) (u_0 : Int32) (u_1 : Int32) (u_2 : Int32) (u_3 : Int64) (u_4 : Int64) (u_5 : Nat → Int32) (u_6 : Nat → Int64) (u_7 : Nat → Int64), (0 ≤ u_2.toInt ∧ u_2.toInt ≤ 1) ∧ (r.toInt = nextR (lawW w ls) w a.toInt) → Q r (u_0, u_1, u_2, u_3, u_4, u_5, u_6, u_7)) : wp_X12_next a h0_ordered h0_law h0_broken h0_value h0_sum f_alike f_row f_set f_nOp f_nArg f_rest f_now Q := by
  obtain rfl : h0_ordered = 0 := z_eq (y := 0) rfl rfl (by omega)
  exact x_mnext e_1 e_0 h_f_row h_h0_broken (fun r l b v s al t p h hb => hq r 0 l b v s al t p ⟨hb, h⟩)

