set_option maxRecDepth 100000 in
theorem s_X12_apart (a : Int32) (b : Int32) (h_a : 0 ≤ a.toInt ∧ a.toInt ≤ 99) (h_b : 0 ≤ b.toInt ∧ b.toInt ≤ 99) {Q : Int32 → Prop} (hq : ∀ (r : Int32), (0 ≤ r.toInt ∧ r.toInt ≤ 99) → Q r) : wp_X12_apart a b Q := by
  unfold wp_X12_apart
  by_cases c1 : a ≤ b
  · refine br1 c1 ?_
    have d2 := le_z (x := (Int32.toInt a)) (y := (Int32.toInt b)) rfl rfl c1
    have t3 : (Int32.toInt (b - a)) = (Int32.toInt b) - (Int32.toInt a) := sub_z rfl rfl (by omega) (by omega)
    exact hq _ ⟨by omega, by omega⟩
  · refine br0 c1 ?_
    have d4 := nle_z (x := (Int32.toInt a)) (y := (Int32.toInt b)) rfl rfl c1
    have t5 : (Int32.toInt (a - b)) = (Int32.toInt a) - (Int32.toInt b) := sub_z rfl rfl (by omega) (by omega)
    exact hq _ ⟨by omega, by omega⟩


set_option maxRecDepth 100000 in
theorem s_X12_put (a : Int32) (b : Int32) (d : Int32) (h0_nUndo : Int32) (f_refusals : Nat → Int32) (f_row : Nat → Int32) (h_h0_nUndo : 0 ≤ h0_nUndo.toInt ∧ h0_nUndo.toInt ≤ 16) (h_f_row : RLW f_row) {Q : Int32 → (Int32 × Int32 × Int32 × (Nat → Int32) × (Nat → Int32)) → Prop} (hq : ∀ (r : Int32) (u_0 : Int32) (u_1 : Int32) (u_2 : Int32) (u_3 : Nat → Int32) (u_4 : Nat → Int32), (0 ≤ u_2.toInt ∧ u_2.toInt ≤ 16) ∧ (RLW u_4) → Q r (u_0, u_1, u_2, u_3, u_4)) : wp_X12_put a b d h0_nUndo f_refusals f_row Q := by
  unfold wp_X12_put
  refine o_X12_isCell _ _ ?_
  refine o_X12_in _ _ _ _ ?_
  by_cases c1 : (lg_cmp a.toInt64 0) < 0
  · refine br1 c1 ?_
    have t2 : (Int64.toInt a.toInt64) = (Int32.toInt a) := i2l_z rfl
    have d3 := c_lt (x := (Int64.toInt a.toInt64)) (y := 0) rfl rfl c1
    refine br1 (by decide) ?_
    refine o_X12_tell _ _ _ ?_
    refine jn_s ?_
    refine br0 (by decide) ?_
    refine br0 (by decide) ?_
    refine ⟨by unfold vp_in; decide, ?_⟩
    refine ⟨by unfold vp_in; decide, ?_⟩
    refine un2_i ?_
    exact hq _ _ _ _ _ _ ⟨⟨by omega, by omega⟩, h_f_row⟩
  · refine br0 c1 ?_
    have t4 : (Int64.toInt a.toInt64) = (Int32.toInt a) := i2l_z rfl
    have d5 := c_nlt (x := (Int64.toInt a.toInt64)) (y := 0) rfl rfl c1
    by_cases c6 : 0 < (lg_cmp a.toInt64 39)
    · refine br1 c6 ?_
      have d7 := c_gt (x := (Int64.toInt a.toInt64)) (y := 39) rfl rfl c6
      refine br1 (by decide) ?_
      refine o_X12_tell _ _ _ ?_
      refine jn_s ?_
      refine br0 (by decide) ?_
      refine br0 (by decide) ?_
      refine ⟨by unfold vp_in; decide, ?_⟩
      refine ⟨by unfold vp_in; decide, ?_⟩
      refine un2_i ?_
      exact hq _ _ _ _ _ _ ⟨⟨by omega, by omega⟩, h_f_row⟩
    · refine br0 c6 ?_
      have d8 := c_ngt (x := (Int64.toInt a.toInt64)) (y := 39) rfl rfl c6
      refine br0 (by decide) ?_
      refine o_X12_canBe _ _ _ ?_
      by_cases c9 : b = 0
      · refine br1 c9 ?_
        have d10 := eq_z (x := (Int32.toInt b)) (y := 0) rfl rfl c9
        refine o_X12_in _ _ _ _ ?_
        by_cases c11 : (lg_cmp d.toInt64 0) < 0
        · refine br1 c11 ?_
          have t12 : (Int64.toInt d.toInt64) = (Int32.toInt d) := i2l_z rfl
          have d13 := c_lt (x := (Int64.toInt d.toInt64)) (y := 0) rfl rfl c11
          refine br1 (by decide) ?_
          refine o_X12_tell _ _ _ ?_
          refine jn_s ?_
          refine br0 (by decide) ?_
          refine br0 (by decide) ?_
          refine ⟨by unfold vp_in; decide, ?_⟩
          refine ⟨by unfold vp_in; decide, ?_⟩
          refine un2_i ?_
          exact hq _ _ _ _ _ _ ⟨⟨by omega, by omega⟩, h_f_row⟩
        · refine br0 c11 ?_
          have t14 : (Int64.toInt d.toInt64) = (Int32.toInt d) := i2l_z rfl
          have d15 := c_nlt (x := (Int64.toInt d.toInt64)) (y := 0) rfl rfl c11
          by_cases c16 : 0 < (lg_cmp d.toInt64 3)
          · refine br1 c16 ?_
            have d17 := c_gt (x := (Int64.toInt d.toInt64)) (y := 3) rfl rfl c16
            refine br1 (by decide) ?_
            refine o_X12_tell _ _ _ ?_
            refine jn_s ?_
            refine br0 (by decide) ?_
            refine br0 (by decide) ?_
            refine ⟨by unfold vp_in; decide, ?_⟩
            refine ⟨by unfold vp_in; decide, ?_⟩
            refine un2_i ?_
            exact hq _ _ _ _ _ _ ⟨⟨by omega, by omega⟩, h_f_row⟩
          · refine br0 c16 ?_
            have d18 := c_ngt (x := (Int64.toInt d.toInt64)) (y := 3) rfl rfl c16
            refine br0 (by decide) ?_
            refine jn_s ?_
            refine br1 (z_eq (x := (Int32.toInt b)) (y := 0) rfl rfl (by omega)) ?_
            have t19 : (Int32.toInt (33 + a)) = 33 + (Int32.toInt a) := add_z rfl rfl (by omega) (by omega)
            refine ⟨vpi (x := (Int32.toInt (33 + a))) rfl (by omega) (by omega), ?_⟩
            by_cases c20 : (f_row (33 + a).toNatClampNeg) = 1
            · refine br1 c20 ?_
              have g21 : 0 ≤ (Int32.toInt (f_row (33 + a).toNatClampNeg)) ∧ (Int32.toInt (f_row (33 + a).toNatClampNeg)) ≤ 1 := RLW.at_33 h_f_row (tnz (x := (Int32.toInt (33 + a))) rfl (by omega)) (by omega) (by omega)
              have d22 := eq_z (x := (Int32.toInt (f_row (33 + a).toNatClampNeg))) (y := 1) rfl rfl c20
              refine o_X12_tell _ _ _ ?_
              refine jn_s ?_
              refine br0 (by decide) ?_
              refine br0 (by decide) ?_
              refine ⟨by unfold vp_in; decide, ?_⟩
              refine ⟨by unfold vp_in; decide, ?_⟩
              refine un2_i ?_
              exact hq _ _ _ _ _ _ ⟨⟨by omega, by omega⟩, h_f_row⟩
            · refine br0 c20 ?_
              have g23 : 0 ≤ (Int32.toInt (f_row (33 + a).toNatClampNeg)) ∧ (Int32.toInt (f_row (33 + a).toNatClampNeg)) ≤ 1 := RLW.at_33 h_f_row (tnz (x := (Int32.toInt (33 + a))) rfl (by omega)) (by omega) (by omega)
              have d24 := ne_z (x := (Int32.toInt (f_row (33 + a).toNatClampNeg))) (y := 1) rfl rfl c20
              refine o_X12_placeOf _ _ ?_
              refine br1 (z_eq (x := (Int32.toInt b)) (y := 0) rfl rfl (by omega)) ?_
              refine o_X12_change _ _ _ _ ?_
              have t25 : (Int32.toInt (113 + a)) = 113 + (Int32.toInt a) := add_z rfl rfl (by omega) (by omega)
              refine ⟨vpi (x := (Int32.toInt (113 + a))) rfl (by omega) (by omega), ?_⟩
              refine ⟨vpi (x := (Int32.toInt (113 + a))) rfl (by omega) (by omega), ?_⟩
              refine un2_i ?_
              have g26 : 0 ≤ (Int32.toInt (f_row (113 + a).toNatClampNeg)) ∧ (Int32.toInt (f_row (113 + a).toNatClampNeg)) ≤ 3 := RLW.at_113 h_f_row (tnz (x := (Int32.toInt (113 + a))) rfl (by omega)) (by omega) (by omega)
              have R27 : RLW (upd f_row (113 + a).toNatClampNeg d) := RLW.up_113 h_f_row (tnz (x := (Int32.toInt (113 + a))) rfl (by omega)) (by omega) (by omega) (w := (Int32.toInt d)) rfl (by omega) (by omega)
              exact hq _ _ _ _ _ _ ⟨(by decide), R27⟩
      · refine br0 c9 ?_
        have d28 := ne_z (x := (Int32.toInt b)) (y := 0) rfl rfl c9
        by_cases c29 : b = 1
        · refine br1 c29 ?_
          have d30 := eq_z (x := (Int32.toInt b)) (y := 1) rfl rfl c29
          refine o_X12_in _ _ _ _ ?_
          by_cases c31 : (lg_cmp d.toInt64 1) < 0
          · refine br1 c31 ?_
            have t32 : (Int64.toInt d.toInt64) = (Int32.toInt d) := i2l_z rfl
            have d33 := c_lt (x := (Int64.toInt d.toInt64)) (y := 1) rfl rfl c31
            refine br1 (by decide) ?_
            refine o_X12_tell _ _ _ ?_
            refine jn_s ?_
            refine br0 (by decide) ?_
            refine br0 (by decide) ?_
            refine ⟨by unfold vp_in; decide, ?_⟩
            refine ⟨by unfold vp_in; decide, ?_⟩
            refine un2_i ?_
            exact hq _ _ _ _ _ _ ⟨⟨by omega, by omega⟩, h_f_row⟩
          · refine br0 c31 ?_
            have t34 : (Int64.toInt d.toInt64) = (Int32.toInt d) := i2l_z rfl
            have d35 := c_nlt (x := (Int64.toInt d.toInt64)) (y := 1) rfl rfl c31
            by_cases c36 : 0 < (lg_cmp d.toInt64 9)
            · refine br1 c36 ?_
              have d37 := c_gt (x := (Int64.toInt d.toInt64)) (y := 9) rfl rfl c36
              refine br1 (by decide) ?_
              refine o_X12_tell _ _ _ ?_
              refine jn_s ?_
              refine br0 (by decide) ?_
              refine br0 (by decide) ?_
              refine ⟨by unfold vp_in; decide, ?_⟩
              refine ⟨by unfold vp_in; decide, ?_⟩
              refine un2_i ?_
              exact hq _ _ _ _ _ _ ⟨⟨by omega, by omega⟩, h_f_row⟩
            · refine br0 c36 ?_
              have d38 := c_ngt (x := (Int64.toInt d.toInt64)) (y := 9) rfl rfl c36
              refine br0 (by decide) ?_
              refine jn_s ?_
              refine br0 (z_ne (x := (Int32.toInt b)) (y := 0) rfl rfl (by omega)) ?_
              refine o_X12_placeOf _ _ ?_
              refine br0 (z_ne (x := (Int32.toInt b)) (y := 0) rfl rfl (by omega)) ?_
              refine br1 (z_eq (x := (Int32.toInt b)) (y := 1) rfl rfl (by omega)) ?_
              refine o_X12_change _ _ _ _ ?_
              have t39 : (Int32.toInt (153 + a)) = 153 + (Int32.toInt a) := add_z rfl rfl (by omega) (by omega)
              refine ⟨vpi (x := (Int32.toInt (153 + a))) rfl (by omega) (by omega), ?_⟩
              refine ⟨vpi (x := (Int32.toInt (153 + a))) rfl (by omega) (by omega), ?_⟩
              refine un2_i ?_
              have g40 : 1 ≤ (Int32.toInt (f_row (153 + a).toNatClampNeg)) ∧ (Int32.toInt (f_row (153 + a).toNatClampNeg)) ≤ 9 := RLW.at_153 h_f_row (tnz (x := (Int32.toInt (153 + a))) rfl (by omega)) (by omega) (by omega)
              have R41 : RLW (upd f_row (153 + a).toNatClampNeg d) := RLW.up_153 h_f_row (tnz (x := (Int32.toInt (153 + a))) rfl (by omega)) (by omega) (by omega) (w := (Int32.toInt d)) rfl (by omega) (by omega)
              exact hq _ _ _ _ _ _ ⟨(by decide), R41⟩
        · refine br0 c29 ?_
          have d42 := ne_z (x := (Int32.toInt b)) (y := 1) rfl rfl c29
          by_cases c43 : b = 2
          · refine br1 c43 ?_
            have d44 := eq_z (x := (Int32.toInt b)) (y := 2) rfl rfl c43
            refine o_X12_in _ _ _ _ ?_
            by_cases c45 : (lg_cmp d.toInt64 0) < 0
            · refine br1 c45 ?_
              have t46 : (Int64.toInt d.toInt64) = (Int32.toInt d) := i2l_z rfl
              have d47 := c_lt (x := (Int64.toInt d.toInt64)) (y := 0) rfl rfl c45
              refine br1 (by decide) ?_
              refine br1 (by decide) ?_
              refine o_X12_tell _ _ _ ?_
              refine jn_s ?_
              refine br0 (by decide) ?_
              refine br0 (by decide) ?_
              refine ⟨by unfold vp_in; decide, ?_⟩
              refine ⟨by unfold vp_in; decide, ?_⟩
              refine un2_i ?_
              exact hq _ _ _ _ _ _ ⟨⟨by omega, by omega⟩, h_f_row⟩
            · refine br0 c45 ?_
              have t48 : (Int64.toInt d.toInt64) = (Int32.toInt d) := i2l_z rfl
              have d49 := c_nlt (x := (Int64.toInt d.toInt64)) (y := 0) rfl rfl c45
              by_cases c50 : 0 < (lg_cmp d.toInt64 99)
              · refine br1 c50 ?_
                have d51 := c_gt (x := (Int64.toInt d.toInt64)) (y := 99) rfl rfl c50
                refine br1 (by decide) ?_
                refine br1 (by decide) ?_
                refine o_X12_tell _ _ _ ?_
                refine jn_s ?_
                refine br0 (by decide) ?_
                refine br0 (by decide) ?_
                refine ⟨by unfold vp_in; decide, ?_⟩
                refine ⟨by unfold vp_in; decide, ?_⟩
                refine un2_i ?_
                exact hq _ _ _ _ _ _ ⟨⟨by omega, by omega⟩, h_f_row⟩
              · refine br0 c50 ?_
                have d52 := c_ngt (x := (Int64.toInt d.toInt64)) (y := 99) rfl rfl c50
                refine br0 (by decide) ?_
                refine br0 (by decide) ?_
                refine jn_s ?_
                refine br0 (z_ne (x := (Int32.toInt b)) (y := 0) rfl rfl (by omega)) ?_
                refine o_X12_placeOf _ _ ?_
                refine br0 (z_ne (x := (Int32.toInt b)) (y := 0) rfl rfl (by omega)) ?_
                refine br0 (z_ne (x := (Int32.toInt b)) (y := 1) rfl rfl (by omega)) ?_
                refine o_X12_change _ _ _ _ ?_
                have t53 : (Int32.toInt (73 + a)) = 73 + (Int32.toInt a) := add_z rfl rfl (by omega) (by omega)
                refine ⟨vpi (x := (Int32.toInt (73 + a))) rfl (by omega) (by omega), ?_⟩
                refine ⟨vpi (x := (Int32.toInt (73 + a))) rfl (by omega) (by omega), ?_⟩
                refine un2_i ?_
                have g54 : 0 ≤ (Int32.toInt (f_row (73 + a).toNatClampNeg)) ∧ (Int32.toInt (f_row (73 + a).toNatClampNeg)) ≤ 99 := RLW.at_73 h_f_row (tnz (x := (Int32.toInt (73 + a))) rfl (by omega)) (by omega) (by omega)
                have R55 : RLW (upd f_row (73 + a).toNatClampNeg d) := RLW.up_73 h_f_row (tnz (x := (Int32.toInt (73 + a))) rfl (by omega)) (by omega) (by omega) (w := (Int32.toInt d)) rfl (by omega) (by omega)
                exact hq _ _ _ _ _ _ ⟨(by decide), R55⟩
          · refine br0 c43 ?_
            have d56 := ne_z (x := (Int32.toInt b)) (y := 2) rfl rfl c43
            refine br1 (by decide) ?_
            refine o_X12_tell _ _ _ ?_
            refine jn_s ?_
            refine br0 (by decide) ?_
            refine br0 (by decide) ?_
            refine ⟨by unfold vp_in; decide, ?_⟩
            refine ⟨by unfold vp_in; decide, ?_⟩
            refine un2_i ?_
            exact hq _ _ _ _ _ _ ⟨⟨by omega, by omega⟩, h_f_row⟩


set_option maxRecDepth 100000 in
theorem s_X12_sink (a : Int32) (h0_nUndo : Int32) (f_row : Nat → Int32) (f_refusals : Nat → Int32) (h_h0_nUndo : 0 ≤ h0_nUndo.toInt ∧ h0_nUndo.toInt ≤ 16) (h_f_row : RLW f_row) {Q : Int32 → (Int32 × Int32 × Int32 × (Nat → Int32) × (Nat → Int32)) → Prop} (hq : ∀ (r : Int32) (u_0 : Int32) (u_1 : Int32) (u_2 : Int32) (u_3 : Nat → Int32) (u_4 : Nat → Int32), (0 ≤ u_2.toInt ∧ u_2.toInt ≤ 16) ∧ (RLW u_3) → Q r (u_0, u_1, u_2, u_3, u_4)) : wp_X12_sink a h0_nUndo f_row f_refusals Q := by
  unfold wp_X12_sink
  refine o_X12_isColumn _ _ ?_
  refine o_X12_in _ _ _ _ ?_
  by_cases c1 : (lg_cmp a.toInt64 0) < 0
  · refine br1 c1 ?_
    have t2 : (Int64.toInt a.toInt64) = (Int32.toInt a) := i2l_z rfl
    have d3 := c_lt (x := (Int64.toInt a.toInt64)) (y := 0) rfl rfl c1
    refine br1 (by decide) ?_
    refine o_X12_tell _ _ _ ?_
    refine jn_s ?_
    refine br0 (by decide) ?_
    refine br0 (by decide) ?_
    refine ⟨by unfold vp_in; decide, ?_⟩
    refine ⟨by unfold vp_in; decide, ?_⟩
    refine un2_i ?_
    exact hq _ _ _ _ _ _ ⟨⟨by omega, by omega⟩, h_f_row⟩
  · refine br0 c1 ?_
    have t4 : (Int64.toInt a.toInt64) = (Int32.toInt a) := i2l_z rfl
    have d5 := c_nlt (x := (Int64.toInt a.toInt64)) (y := 0) rfl rfl c1
    by_cases c6 : 0 < (lg_cmp a.toInt64 7)
    · refine br1 c6 ?_
      have d7 := c_gt (x := (Int64.toInt a.toInt64)) (y := 7) rfl rfl c6
      refine br1 (by decide) ?_
      refine o_X12_tell _ _ _ ?_
      refine jn_s ?_
      refine br0 (by decide) ?_
      refine br0 (by decide) ?_
      refine ⟨by unfold vp_in; decide, ?_⟩
      refine ⟨by unfold vp_in; decide, ?_⟩
      refine un2_i ?_
      exact hq _ _ _ _ _ _ ⟨⟨by omega, by omega⟩, h_f_row⟩
    · refine br0 c6 ?_
      have d8 := c_ngt (x := (Int64.toInt a.toInt64)) (y := 7) rfl rfl c6
      refine br0 (by decide) ?_
      have t9 : (Int32.toInt (33 + a)) = 33 + (Int32.toInt a) := add_z rfl rfl (by omega) (by omega)
      refine ⟨vpi (x := (Int32.toInt (33 + a))) rfl (by omega) (by omega), ?_⟩
      by_cases c10 : (f_row (33 + a).toNatClampNeg) = 1
      · refine br1 c10 ?_
        have g11 : 0 ≤ (Int32.toInt (f_row (33 + a).toNatClampNeg)) ∧ (Int32.toInt (f_row (33 + a).toNatClampNeg)) ≤ 1 := RLW.at_33 h_f_row (tnz (x := (Int32.toInt (33 + a))) rfl (by omega)) (by omega) (by omega)
        have d12 := eq_z (x := (Int32.toInt (f_row (33 + a).toNatClampNeg))) (y := 1) rfl rfl c10
        refine o_X12_tell _ _ _ ?_
        refine jn_s ?_
        refine br0 (by decide) ?_
        refine br0 (by decide) ?_
        refine ⟨by unfold vp_in; decide, ?_⟩
        refine ⟨by unfold vp_in; decide, ?_⟩
        refine un2_i ?_
        exact hq _ _ _ _ _ _ ⟨⟨by omega, by omega⟩, h_f_row⟩
      · refine br0 c10 ?_
        have g13 : 0 ≤ (Int32.toInt (f_row (33 + a).toNatClampNeg)) ∧ (Int32.toInt (f_row (33 + a).toNatClampNeg)) ≤ 1 := RLW.at_33 h_f_row (tnz (x := (Int32.toInt (33 + a))) rfl (by omega)) (by omega) (by omega)
        have d14 := ne_z (x := (Int32.toInt (f_row (33 + a).toNatClampNeg))) (y := 1) rfl rfl c10
        have t15 : (Int32.toInt (113 + a)) = 113 + (Int32.toInt a) := add_z rfl rfl (by omega) (by omega)
        refine ⟨vpi (x := (Int32.toInt (113 + a))) rfl (by omega) (by omega), ?_⟩
        by_cases c16 : (f_row (113 + a).toNatClampNeg) = 1
        · refine br1 c16 ?_
          have g17 : 0 ≤ (Int32.toInt (f_row (113 + a).toNatClampNeg)) ∧ (Int32.toInt (f_row (113 + a).toNatClampNeg)) ≤ 3 := RLW.at_113 h_f_row (tnz (x := (Int32.toInt (113 + a))) rfl (by omega)) (by omega) (by omega)
          have d18 := eq_z (x := (Int32.toInt (f_row (113 + a).toNatClampNeg))) (y := 1) rfl rfl c16
          refine o_X12_tell _ _ _ ?_
          refine jn_s ?_
          refine br0 (by decide) ?_
          refine br0 (by decide) ?_
          refine ⟨by unfold vp_in; decide, ?_⟩
          refine ⟨by unfold vp_in; decide, ?_⟩
          refine un2_i ?_
          exact hq _ _ _ _ _ _ ⟨⟨by omega, by omega⟩, h_f_row⟩
        · refine br0 c16 ?_
          have g19 : 0 ≤ (Int32.toInt (f_row (113 + a).toNatClampNeg)) ∧ (Int32.toInt (f_row (113 + a).toNatClampNeg)) ≤ 3 := RLW.at_113 h_f_row (tnz (x := (Int32.toInt (113 + a))) rfl (by omega)) (by omega) (by omega)
          have d20 := ne_z (x := (Int32.toInt (f_row (113 + a).toNatClampNeg))) (y := 1) rfl rfl c16
          by_cases c21 : (f_row (0 : Int32).toNatClampNeg) = 6
          · refine br1 c21 ?_
            have g22 : 0 ≤ (Int32.toInt (f_row (0 : Int32).toNatClampNeg)) ∧ (Int32.toInt (f_row (0 : Int32).toNatClampNeg)) ≤ 6 := RLW.at_0 h_f_row (rfl : ((0 : Nat) : Int) = 0) (by omega) (by omega)
            have d23 := eq_z (x := (Int32.toInt (f_row (0 : Int32).toNatClampNeg))) (y := 6) rfl rfl c21
            refine o_X12_tell _ _ _ ?_
            refine jn_s ?_
            refine br0 (by decide) ?_
            refine br0 (by decide) ?_
            refine ⟨by unfold vp_in; decide, ?_⟩
            refine ⟨by unfold vp_in; decide, ?_⟩
            refine un2_i ?_
            exact hq _ _ _ _ _ _ ⟨⟨by omega, by omega⟩, h_f_row⟩
          · refine br0 c21 ?_
            have g24 : 0 ≤ (Int32.toInt (f_row (0 : Int32).toNatClampNeg)) ∧ (Int32.toInt (f_row (0 : Int32).toNatClampNeg)) ≤ 6 := RLW.at_0 h_f_row (rfl : ((0 : Nat) : Int) = 0) (by omega) (by omega)
            have d25 := ne_z (x := (Int32.toInt (f_row (0 : Int32).toNatClampNeg))) (y := 6) rfl rfl c21
            have t26 : (Int32.toInt (10 + (f_row (0 : Int32).toNatClampNeg))) = 10 + (Int32.toInt (f_row (0 : Int32).toNatClampNeg)) := add_z rfl rfl (by omega) (by omega)
            refine ⟨vpi (x := (Int32.toInt (10 + (f_row (0 : Int32).toNatClampNeg)))) rfl (by omega) (by omega), ?_⟩
            have t27 : (Int32.toInt (16 + (f_row (0 : Int32).toNatClampNeg))) = 16 + (Int32.toInt (f_row (0 : Int32).toNatClampNeg)) := add_z rfl rfl (by omega) (by omega)
            refine ⟨vpi (x := (Int32.toInt (16 + (f_row (0 : Int32).toNatClampNeg)))) rfl (by omega) (by omega), ?_⟩
            refine ⟨vpi (x := (Int32.toInt (33 + a))) rfl (by omega) (by omega), ?_⟩
            refine o_X12_settled _ _ _ _ ?_
            refine br1 (z_le (x := 0) (y := (Int32.toInt (f_row (0 : Int32).toNatClampNeg))) rfl rfl (by omega)) ?_
            refine o_X12_tell _ _ _ ?_
            refine jn_s ?_
            refine br1 (z_le (x := 0) (y := (Int32.toInt (f_row (0 : Int32).toNatClampNeg))) rfl rfl (by omega)) ?_
            refine br1 (z_le (x := 0) (y := (Int32.toInt (f_row (0 : Int32).toNatClampNeg))) rfl rfl (by omega)) ?_
            refine un2_i ?_
            refine un3_i ?_
            have R28 : RLW (upd f_row (10 + (f_row (0 : Int32).toNatClampNeg)).toNatClampNeg a) := RLW.up_10 h_f_row (tnz (x := (Int32.toInt (10 + (f_row (0 : Int32).toNatClampNeg)))) rfl (by omega)) (by omega) (by omega) (w := (Int32.toInt a)) rfl (by omega) (by omega)
            have R29 : RLW (upd (upd f_row (10 + (f_row (0 : Int32).toNatClampNeg)).toNatClampNeg a) (16 + (f_row (0 : Int32).toNatClampNeg)).toNatClampNeg 0) := RLW.up_16 R28 (tnz (x := (Int32.toInt (16 + (f_row (0 : Int32).toNatClampNeg)))) rfl (by omega)) (by omega) (by omega) (w := 0) rfl (by omega) (by omega)
            have R30 : RLW (upd (upd (upd f_row (10 + (f_row (0 : Int32).toNatClampNeg)).toNatClampNeg a) (16 + (f_row (0 : Int32).toNatClampNeg)).toNatClampNeg 0) (33 + a).toNatClampNeg 1) := RLW.up_33 R29 (tnz (x := (Int32.toInt (33 + a))) rfl (by omega)) (by omega) (by omega) (w := 1) rfl (by omega) (by omega)
            have t31 : (Int32.toInt ((upd f_row (10 + (f_row (0 : Int32).toNatClampNeg)).toNatClampNeg a) (0 : Int32).toNatClampNeg)) = (Int32.toInt (f_row (0 : Int32).toNatClampNeg)) := congrArg Int32.toInt (pk_un (ne_n (rfl : ((0 : Nat) : Int) = 0) (tnz (x := (Int32.toInt (10 + (f_row (0 : Int32).toNatClampNeg)))) rfl (by omega)) (by omega)))
            have t32 : (Int32.toInt ((upd (upd f_row (10 + (f_row (0 : Int32).toNatClampNeg)).toNatClampNeg a) (16 + (f_row (0 : Int32).toNatClampNeg)).toNatClampNeg 0) (0 : Int32).toNatClampNeg)) = (Int32.toInt ((upd f_row (10 + (f_row (0 : Int32).toNatClampNeg)).toNatClampNeg a) (0 : Int32).toNatClampNeg)) := congrArg Int32.toInt (pk_un (ne_n (rfl : ((0 : Nat) : Int) = 0) (tnz (x := (Int32.toInt (16 + (f_row (0 : Int32).toNatClampNeg)))) rfl (by omega)) (by omega)))
            have t33 : (Int32.toInt ((upd (upd (upd f_row (10 + (f_row (0 : Int32).toNatClampNeg)).toNatClampNeg a) (16 + (f_row (0 : Int32).toNatClampNeg)).toNatClampNeg 0) (33 + a).toNatClampNeg 1) (0 : Int32).toNatClampNeg)) = (Int32.toInt ((upd (upd f_row (10 + (f_row (0 : Int32).toNatClampNeg)).toNatClampNeg a) (16 + (f_row (0 : Int32).toNatClampNeg)).toNatClampNeg 0) (0 : Int32).toNatClampNeg)) := congrArg Int32.toInt (pk_un (ne_n (rfl : ((0 : Nat) : Int) = 0) (tnz (x := (Int32.toInt (33 + a))) rfl (by omega)) (by omega)))
            have t34 : (Int32.toInt (((upd (upd (upd f_row (10 + (f_row (0 : Int32).toNatClampNeg)).toNatClampNeg a) (16 + (f_row (0 : Int32).toNatClampNeg)).toNatClampNeg 0) (33 + a).toNatClampNeg 1) (0 : Int32).toNatClampNeg) + 1)) = (Int32.toInt ((upd (upd (upd f_row (10 + (f_row (0 : Int32).toNatClampNeg)).toNatClampNeg a) (16 + (f_row (0 : Int32).toNatClampNeg)).toNatClampNeg 0) (33 + a).toNatClampNeg 1) (0 : Int32).toNatClampNeg)) + 1 := add_z rfl rfl (by omega) (by omega)
            have R35 : RLW (upd (upd (upd (upd f_row (10 + (f_row (0 : Int32).toNatClampNeg)).toNatClampNeg a) (16 + (f_row (0 : Int32).toNatClampNeg)).toNatClampNeg 0) (33 + a).toNatClampNeg 1) 0 (((upd (upd (upd f_row (10 + (f_row (0 : Int32).toNatClampNeg)).toNatClampNeg a) (16 + (f_row (0 : Int32).toNatClampNeg)).toNatClampNeg 0) (33 + a).toNatClampNeg 1) (0 : Int32).toNatClampNeg) + 1)) := RLW.up_0 R30 (rfl : ((0 : Nat) : Int) = 0) (by omega) (by omega) (w := (Int32.toInt (((upd (upd (upd f_row (10 + (f_row (0 : Int32).toNatClampNeg)).toNatClampNeg a) (16 + (f_row (0 : Int32).toNatClampNeg)).toNatClampNeg 0) (33 + a).toNatClampNeg 1) (0 : Int32).toNatClampNeg) + 1))) rfl (by omega) (by omega)
            exact hq _ _ _ _ _ _ ⟨(by decide), R35⟩


set_option maxRecDepth 100000 in
theorem s_X12_listener (a : Int32) (b : Int32) (h0_nUndo : Int32) (f_refusals : Nat → Int32) (f_row : Nat → Int32) (h_h0_nUndo : 0 ≤ h0_nUndo.toInt ∧ h0_nUndo.toInt ≤ 16) (h_f_row : RLW f_row) {Q : Int32 → (Int32 × Int32 × Int32 × (Nat → Int32) × (Nat → Int32)) → Prop} (hq : ∀ (r : Int32) (u_0 : Int32) (u_1 : Int32) (u_2 : Int32) (u_3 : Nat → Int32) (u_4 : Nat → Int32), (0 ≤ u_2.toInt ∧ u_2.toInt ≤ 16) ∧ (RLW u_4) → Q r (u_0, u_1, u_2, u_3, u_4)) : wp_X12_listener a b h0_nUndo f_refusals f_row Q := by
  unfold wp_X12_listener
  refine o_X12_isColumn _ _ ?_
  refine o_X12_in _ _ _ _ ?_
  by_cases c1 : (lg_cmp a.toInt64 0) < 0
  · refine br1 c1 ?_
    have t2 : (Int64.toInt a.toInt64) = (Int32.toInt a) := i2l_z rfl
    have d3 := c_lt (x := (Int64.toInt a.toInt64)) (y := 0) rfl rfl c1
    refine br1 (by decide) ?_
    refine o_X12_tell _ _ _ ?_
    refine jn_s ?_
    refine br0 (by decide) ?_
    refine br0 (by decide) ?_
    refine ⟨by unfold vp_in; decide, ?_⟩
    refine ⟨by unfold vp_in; decide, ?_⟩
    refine un2_i ?_
    exact hq _ _ _ _ _ _ ⟨⟨by omega, by omega⟩, h_f_row⟩
  · refine br0 c1 ?_
    have t4 : (Int64.toInt a.toInt64) = (Int32.toInt a) := i2l_z rfl
    have d5 := c_nlt (x := (Int64.toInt a.toInt64)) (y := 0) rfl rfl c1
    by_cases c6 : 0 < (lg_cmp a.toInt64 7)
    · refine br1 c6 ?_
      have d7 := c_gt (x := (Int64.toInt a.toInt64)) (y := 7) rfl rfl c6
      refine br1 (by decide) ?_
      refine o_X12_tell _ _ _ ?_
      refine jn_s ?_
      refine br0 (by decide) ?_
      refine br0 (by decide) ?_
      refine ⟨by unfold vp_in; decide, ?_⟩
      refine ⟨by unfold vp_in; decide, ?_⟩
      refine un2_i ?_
      exact hq _ _ _ _ _ _ ⟨⟨by omega, by omega⟩, h_f_row⟩
    · refine br0 c6 ?_
      have d8 := c_ngt (x := (Int64.toInt a.toInt64)) (y := 7) rfl rfl c6
      refine br0 (by decide) ?_
      refine o_X12_in _ _ _ _ ?_
      by_cases c9 : (lg_cmp b.toInt64 0) < 0
      · refine br1 c9 ?_
        have t10 : (Int64.toInt b.toInt64) = (Int32.toInt b) := i2l_z rfl
        have d11 := c_lt (x := (Int64.toInt b.toInt64)) (y := 0) rfl rfl c9
        refine br1 (by decide) ?_
        refine o_X12_tell _ _ _ ?_
        refine jn_s ?_
        refine br0 (by decide) ?_
        refine br0 (by decide) ?_
        refine ⟨by unfold vp_in; decide, ?_⟩
        refine ⟨by unfold vp_in; decide, ?_⟩
        refine un2_i ?_
        exact hq _ _ _ _ _ _ ⟨⟨by omega, by omega⟩, h_f_row⟩
      · refine br0 c9 ?_
        have t12 : (Int64.toInt b.toInt64) = (Int32.toInt b) := i2l_z rfl
        have d13 := c_nlt (x := (Int64.toInt b.toInt64)) (y := 0) rfl rfl c9
        by_cases c14 : 0 < (lg_cmp b.toInt64 20)
        · refine br1 c14 ?_
          have d15 := c_gt (x := (Int64.toInt b.toInt64)) (y := 20) rfl rfl c14
          refine br1 (by decide) ?_
          refine o_X12_tell _ _ _ ?_
          refine jn_s ?_
          refine br0 (by decide) ?_
          refine br0 (by decide) ?_
          refine ⟨by unfold vp_in; decide, ?_⟩
          refine ⟨by unfold vp_in; decide, ?_⟩
          refine un2_i ?_
          exact hq _ _ _ _ _ _ ⟨⟨by omega, by omega⟩, h_f_row⟩
        · refine br0 c14 ?_
          have d16 := c_ngt (x := (Int64.toInt b.toInt64)) (y := 20) rfl rfl c14
          refine br0 (by decide) ?_
          by_cases c17 : (f_row (1 : Int32).toNatClampNeg) = 5
          · refine br1 c17 ?_
            have g18 : 0 ≤ (Int32.toInt (f_row (1 : Int32).toNatClampNeg)) ∧ (Int32.toInt (f_row (1 : Int32).toNatClampNeg)) ≤ 5 := RLW.at_1 h_f_row (rfl : ((1 : Nat) : Int) = 1) (by omega) (by omega)
            have d19 := eq_z (x := (Int32.toInt (f_row (1 : Int32).toNatClampNeg))) (y := 5) rfl rfl c17
            refine o_X12_tell _ _ _ ?_
            refine jn_s ?_
            refine br0 (by decide) ?_
            refine br0 (by decide) ?_
            refine ⟨by unfold vp_in; decide, ?_⟩
            refine ⟨by unfold vp_in; decide, ?_⟩
            refine un2_i ?_
            exact hq _ _ _ _ _ _ ⟨⟨by omega, by omega⟩, h_f_row⟩
          · refine br0 c17 ?_
            have g20 : 0 ≤ (Int32.toInt (f_row (1 : Int32).toNatClampNeg)) ∧ (Int32.toInt (f_row (1 : Int32).toNatClampNeg)) ≤ 5 := RLW.at_1 h_f_row (rfl : ((1 : Nat) : Int) = 1) (by omega) (by omega)
            have d21 := ne_z (x := (Int32.toInt (f_row (1 : Int32).toNatClampNeg))) (y := 5) rfl rfl c17
            have t22 : (Int32.toInt (28 + (f_row (1 : Int32).toNatClampNeg))) = 28 + (Int32.toInt (f_row (1 : Int32).toNatClampNeg)) := add_z rfl rfl (by omega) (by omega)
            refine ⟨vpi (x := (Int32.toInt (28 + (f_row (1 : Int32).toNatClampNeg)))) rfl (by omega) (by omega), ?_⟩
            have t23 : (Int32.toInt (193 + (f_row (1 : Int32).toNatClampNeg))) = 193 + (Int32.toInt (f_row (1 : Int32).toNatClampNeg)) := add_z rfl rfl (by omega) (by omega)
            refine ⟨vpi (x := (Int32.toInt (193 + (f_row (1 : Int32).toNatClampNeg)))) rfl (by omega) (by omega), ?_⟩
            refine o_X12_settled _ _ _ _ ?_
            refine br1 (z_le (x := 0) (y := (Int32.toInt (f_row (1 : Int32).toNatClampNeg))) rfl rfl (by omega)) ?_
            refine o_X12_tell _ _ _ ?_
            refine jn_s ?_
            refine br1 (z_le (x := 0) (y := (Int32.toInt (f_row (1 : Int32).toNatClampNeg))) rfl rfl (by omega)) ?_
            refine br1 (z_le (x := 0) (y := (Int32.toInt (f_row (1 : Int32).toNatClampNeg))) rfl rfl (by omega)) ?_
            refine un2_i ?_
            refine un3_i ?_
            have R24 : RLW (upd f_row (28 + (f_row (1 : Int32).toNatClampNeg)).toNatClampNeg a) := RLW.up_28 h_f_row (tnz (x := (Int32.toInt (28 + (f_row (1 : Int32).toNatClampNeg)))) rfl (by omega)) (by omega) (by omega) (w := (Int32.toInt a)) rfl (by omega) (by omega)
            have R25 : RLW (upd (upd f_row (28 + (f_row (1 : Int32).toNatClampNeg)).toNatClampNeg a) (193 + (f_row (1 : Int32).toNatClampNeg)).toNatClampNeg b) := RLW.up_193 R24 (tnz (x := (Int32.toInt (193 + (f_row (1 : Int32).toNatClampNeg)))) rfl (by omega)) (by omega) (by omega) (w := (Int32.toInt b)) rfl (by omega) (by omega)
            have t26 : (Int32.toInt ((upd f_row (28 + (f_row (1 : Int32).toNatClampNeg)).toNatClampNeg a) (1 : Int32).toNatClampNeg)) = (Int32.toInt (f_row (1 : Int32).toNatClampNeg)) := congrArg Int32.toInt (pk_un (ne_n (rfl : ((1 : Nat) : Int) = 1) (tnz (x := (Int32.toInt (28 + (f_row (1 : Int32).toNatClampNeg)))) rfl (by omega)) (by omega)))
            have t27 : (Int32.toInt ((upd (upd f_row (28 + (f_row (1 : Int32).toNatClampNeg)).toNatClampNeg a) (193 + (f_row (1 : Int32).toNatClampNeg)).toNatClampNeg b) (1 : Int32).toNatClampNeg)) = (Int32.toInt ((upd f_row (28 + (f_row (1 : Int32).toNatClampNeg)).toNatClampNeg a) (1 : Int32).toNatClampNeg)) := congrArg Int32.toInt (pk_un (ne_n (rfl : ((1 : Nat) : Int) = 1) (tnz (x := (Int32.toInt (193 + (f_row (1 : Int32).toNatClampNeg)))) rfl (by omega)) (by omega)))
            have t28 : (Int32.toInt (((upd (upd f_row (28 + (f_row (1 : Int32).toNatClampNeg)).toNatClampNeg a) (193 + (f_row (1 : Int32).toNatClampNeg)).toNatClampNeg b) (1 : Int32).toNatClampNeg) + 1)) = (Int32.toInt ((upd (upd f_row (28 + (f_row (1 : Int32).toNatClampNeg)).toNatClampNeg a) (193 + (f_row (1 : Int32).toNatClampNeg)).toNatClampNeg b) (1 : Int32).toNatClampNeg)) + 1 := add_z rfl rfl (by omega) (by omega)
            have R29 : RLW (upd (upd (upd f_row (28 + (f_row (1 : Int32).toNatClampNeg)).toNatClampNeg a) (193 + (f_row (1 : Int32).toNatClampNeg)).toNatClampNeg b) 1 (((upd (upd f_row (28 + (f_row (1 : Int32).toNatClampNeg)).toNatClampNeg a) (193 + (f_row (1 : Int32).toNatClampNeg)).toNatClampNeg b) (1 : Int32).toNatClampNeg) + 1)) := RLW.up_1 R25 (rfl : ((1 : Nat) : Int) = 1) (by omega) (by omega) (w := (Int32.toInt (((upd (upd f_row (28 + (f_row (1 : Int32).toNatClampNeg)).toNatClampNeg a) (193 + (f_row (1 : Int32).toNatClampNeg)).toNatClampNeg b) (1 : Int32).toNatClampNeg) + 1))) rfl (by omega) (by omega)
            exact hq _ _ _ _ _ _ ⟨(by decide), R29⟩


set_option maxRecDepth 100000 in
theorem s_X12_noise (a : Int32) (b : Int32) (h0_nUndo : Int32) (f_refusals : Nat → Int32) (f_row : Nat → Int32) (h_h0_nUndo : 0 ≤ h0_nUndo.toInt ∧ h0_nUndo.toInt ≤ 16) (h_f_row : RLW f_row) {Q : Int32 → (Int32 × Int32 × Int32 × (Nat → Int32) × (Nat → Int32)) → Prop} (hq : ∀ (r : Int32) (u_0 : Int32) (u_1 : Int32) (u_2 : Int32) (u_3 : Nat → Int32) (u_4 : Nat → Int32), (0 ≤ u_2.toInt ∧ u_2.toInt ≤ 16) ∧ (RLW u_4) → Q r (u_0, u_1, u_2, u_3, u_4)) : wp_X12_noise a b h0_nUndo f_refusals f_row Q := by
  unfold wp_X12_noise
  refine o_X12_isColumn _ _ ?_
  refine o_X12_in _ _ _ _ ?_
  by_cases c1 : (lg_cmp a.toInt64 0) < 0
  · refine br1 c1 ?_
    have t2 : (Int64.toInt a.toInt64) = (Int32.toInt a) := i2l_z rfl
    have d3 := c_lt (x := (Int64.toInt a.toInt64)) (y := 0) rfl rfl c1
    refine br1 (by decide) ?_
    refine o_X12_tell _ _ _ ?_
    refine jn_s ?_
    refine br0 (by decide) ?_
    refine br0 (by decide) ?_
    refine ⟨by unfold vp_in; decide, ?_⟩
    refine ⟨by unfold vp_in; decide, ?_⟩
    refine un2_i ?_
    exact hq _ _ _ _ _ _ ⟨⟨by omega, by omega⟩, h_f_row⟩
  · refine br0 c1 ?_
    have t4 : (Int64.toInt a.toInt64) = (Int32.toInt a) := i2l_z rfl
    have d5 := c_nlt (x := (Int64.toInt a.toInt64)) (y := 0) rfl rfl c1
    by_cases c6 : 0 < (lg_cmp a.toInt64 7)
    · refine br1 c6 ?_
      have d7 := c_gt (x := (Int64.toInt a.toInt64)) (y := 7) rfl rfl c6
      refine br1 (by decide) ?_
      refine o_X12_tell _ _ _ ?_
      refine jn_s ?_
      refine br0 (by decide) ?_
      refine br0 (by decide) ?_
      refine ⟨by unfold vp_in; decide, ?_⟩
      refine ⟨by unfold vp_in; decide, ?_⟩
      refine un2_i ?_
      exact hq _ _ _ _ _ _ ⟨⟨by omega, by omega⟩, h_f_row⟩
    · refine br0 c6 ?_
      have d8 := c_ngt (x := (Int64.toInt a.toInt64)) (y := 7) rfl rfl c6
      refine br0 (by decide) ?_
      refine o_X12_in _ _ _ _ ?_
      by_cases c9 : (lg_cmp b.toInt64 0) < 0
      · refine br1 c9 ?_
        have t10 : (Int64.toInt b.toInt64) = (Int32.toInt b) := i2l_z rfl
        have d11 := c_lt (x := (Int64.toInt b.toInt64)) (y := 0) rfl rfl c9
        refine br1 (by decide) ?_
        refine o_X12_tell _ _ _ ?_
        refine jn_s ?_
        refine br0 (by decide) ?_
        refine br0 (by decide) ?_
        refine ⟨by unfold vp_in; decide, ?_⟩
        refine ⟨by unfold vp_in; decide, ?_⟩
        refine un2_i ?_
        exact hq _ _ _ _ _ _ ⟨⟨by omega, by omega⟩, h_f_row⟩
      · refine br0 c9 ?_
        have t12 : (Int64.toInt b.toInt64) = (Int32.toInt b) := i2l_z rfl
        have d13 := c_nlt (x := (Int64.toInt b.toInt64)) (y := 0) rfl rfl c9
        by_cases c14 : 0 < (lg_cmp b.toInt64 20)
        · refine br1 c14 ?_
          have d15 := c_gt (x := (Int64.toInt b.toInt64)) (y := 20) rfl rfl c14
          refine br1 (by decide) ?_
          refine o_X12_tell _ _ _ ?_
          refine jn_s ?_
          refine br0 (by decide) ?_
          refine br0 (by decide) ?_
          refine ⟨by unfold vp_in; decide, ?_⟩
          refine ⟨by unfold vp_in; decide, ?_⟩
          refine un2_i ?_
          exact hq _ _ _ _ _ _ ⟨⟨by omega, by omega⟩, h_f_row⟩
        · refine br0 c14 ?_
          have d16 := c_ngt (x := (Int64.toInt b.toInt64)) (y := 20) rfl rfl c14
          refine br0 (by decide) ?_
          by_cases c17 : (f_row (2 : Int32).toNatClampNeg) = 6
          · refine br1 c17 ?_
            have g18 : 0 ≤ (Int32.toInt (f_row (2 : Int32).toNatClampNeg)) ∧ (Int32.toInt (f_row (2 : Int32).toNatClampNeg)) ≤ 6 := RLW.at_2 h_f_row (rfl : ((2 : Nat) : Int) = 2) (by omega) (by omega)
            have d19 := eq_z (x := (Int32.toInt (f_row (2 : Int32).toNatClampNeg))) (y := 6) rfl rfl c17
            refine o_X12_tell _ _ _ ?_
            refine jn_s ?_
            refine br0 (by decide) ?_
            refine br0 (by decide) ?_
            refine ⟨by unfold vp_in; decide, ?_⟩
            refine ⟨by unfold vp_in; decide, ?_⟩
            refine un2_i ?_
            exact hq _ _ _ _ _ _ ⟨⟨by omega, by omega⟩, h_f_row⟩
          · refine br0 c17 ?_
            have g20 : 0 ≤ (Int32.toInt (f_row (2 : Int32).toNatClampNeg)) ∧ (Int32.toInt (f_row (2 : Int32).toNatClampNeg)) ≤ 6 := RLW.at_2 h_f_row (rfl : ((2 : Nat) : Int) = 2) (by omega) (by omega)
            have d21 := ne_z (x := (Int32.toInt (f_row (2 : Int32).toNatClampNeg))) (y := 6) rfl rfl c17
            have t22 : (Int32.toInt (198 + (f_row (2 : Int32).toNatClampNeg))) = 198 + (Int32.toInt (f_row (2 : Int32).toNatClampNeg)) := add_z rfl rfl (by omega) (by omega)
            refine ⟨vpi (x := (Int32.toInt (198 + (f_row (2 : Int32).toNatClampNeg)))) rfl (by omega) (by omega), ?_⟩
            have t23 : (Int32.toInt (204 + (f_row (2 : Int32).toNatClampNeg))) = 204 + (Int32.toInt (f_row (2 : Int32).toNatClampNeg)) := add_z rfl rfl (by omega) (by omega)
            refine ⟨vpi (x := (Int32.toInt (204 + (f_row (2 : Int32).toNatClampNeg)))) rfl (by omega) (by omega), ?_⟩
            have t24 : (Int32.toInt (22 + (f_row (2 : Int32).toNatClampNeg))) = 22 + (Int32.toInt (f_row (2 : Int32).toNatClampNeg)) := add_z rfl rfl (by omega) (by omega)
            refine ⟨vpi (x := (Int32.toInt (22 + (f_row (2 : Int32).toNatClampNeg)))) rfl (by omega) (by omega), ?_⟩
            refine o_X12_settled _ _ _ _ ?_
            refine br1 (z_le (x := 0) (y := (Int32.toInt (f_row (2 : Int32).toNatClampNeg))) rfl rfl (by omega)) ?_
            refine o_X12_tell _ _ _ ?_
            refine jn_s ?_
            refine br1 (z_le (x := 0) (y := (Int32.toInt (f_row (2 : Int32).toNatClampNeg))) rfl rfl (by omega)) ?_
            refine br1 (z_le (x := 0) (y := (Int32.toInt (f_row (2 : Int32).toNatClampNeg))) rfl rfl (by omega)) ?_
            refine un2_i ?_
            refine un3_i ?_
            have R25 : RLW (upd f_row (198 + (f_row (2 : Int32).toNatClampNeg)).toNatClampNeg a) := RLW.up_198 h_f_row (tnz (x := (Int32.toInt (198 + (f_row (2 : Int32).toNatClampNeg)))) rfl (by omega)) (by omega) (by omega) (w := (Int32.toInt a)) rfl (by omega) (by omega)
            have R26 : RLW (upd (upd f_row (198 + (f_row (2 : Int32).toNatClampNeg)).toNatClampNeg a) (204 + (f_row (2 : Int32).toNatClampNeg)).toNatClampNeg b) := RLW.up_204 R25 (tnz (x := (Int32.toInt (204 + (f_row (2 : Int32).toNatClampNeg)))) rfl (by omega)) (by omega) (by omega) (w := (Int32.toInt b)) rfl (by omega) (by omega)
            have R27 : RLW (upd (upd (upd f_row (198 + (f_row (2 : Int32).toNatClampNeg)).toNatClampNeg a) (204 + (f_row (2 : Int32).toNatClampNeg)).toNatClampNeg b) (22 + (f_row (2 : Int32).toNatClampNeg)).toNatClampNeg 0) := RLW.up_22 R26 (tnz (x := (Int32.toInt (22 + (f_row (2 : Int32).toNatClampNeg)))) rfl (by omega)) (by omega) (by omega) (w := 0) rfl (by omega) (by omega)
            have t28 : (Int32.toInt ((upd f_row (198 + (f_row (2 : Int32).toNatClampNeg)).toNatClampNeg a) (2 : Int32).toNatClampNeg)) = (Int32.toInt (f_row (2 : Int32).toNatClampNeg)) := congrArg Int32.toInt (pk_un (ne_n (rfl : ((2 : Nat) : Int) = 2) (tnz (x := (Int32.toInt (198 + (f_row (2 : Int32).toNatClampNeg)))) rfl (by omega)) (by omega)))
            have t29 : (Int32.toInt ((upd (upd f_row (198 + (f_row (2 : Int32).toNatClampNeg)).toNatClampNeg a) (204 + (f_row (2 : Int32).toNatClampNeg)).toNatClampNeg b) (2 : Int32).toNatClampNeg)) = (Int32.toInt ((upd f_row (198 + (f_row (2 : Int32).toNatClampNeg)).toNatClampNeg a) (2 : Int32).toNatClampNeg)) := congrArg Int32.toInt (pk_un (ne_n (rfl : ((2 : Nat) : Int) = 2) (tnz (x := (Int32.toInt (204 + (f_row (2 : Int32).toNatClampNeg)))) rfl (by omega)) (by omega)))
            have t30 : (Int32.toInt ((upd (upd (upd f_row (198 + (f_row (2 : Int32).toNatClampNeg)).toNatClampNeg a) (204 + (f_row (2 : Int32).toNatClampNeg)).toNatClampNeg b) (22 + (f_row (2 : Int32).toNatClampNeg)).toNatClampNeg 0) (2 : Int32).toNatClampNeg)) = (Int32.toInt ((upd (upd f_row (198 + (f_row (2 : Int32).toNatClampNeg)).toNatClampNeg a) (204 + (f_row (2 : Int32).toNatClampNeg)).toNatClampNeg b) (2 : Int32).toNatClampNeg)) := congrArg Int32.toInt (pk_un (ne_n (rfl : ((2 : Nat) : Int) = 2) (tnz (x := (Int32.toInt (22 + (f_row (2 : Int32).toNatClampNeg)))) rfl (by omega)) (by omega)))
            have t31 : (Int32.toInt (((upd (upd (upd f_row (198 + (f_row (2 : Int32).toNatClampNeg)).toNatClampNeg a) (204 + (f_row (2 : Int32).toNatClampNeg)).toNatClampNeg b) (22 + (f_row (2 : Int32).toNatClampNeg)).toNatClampNeg 0) (2 : Int32).toNatClampNeg) + 1)) = (Int32.toInt ((upd (upd (upd f_row (198 + (f_row (2 : Int32).toNatClampNeg)).toNatClampNeg a) (204 + (f_row (2 : Int32).toNatClampNeg)).toNatClampNeg b) (22 + (f_row (2 : Int32).toNatClampNeg)).toNatClampNeg 0) (2 : Int32).toNatClampNeg)) + 1 := add_z rfl rfl (by omega) (by omega)
            have R32 : RLW (upd (upd (upd (upd f_row (198 + (f_row (2 : Int32).toNatClampNeg)).toNatClampNeg a) (204 + (f_row (2 : Int32).toNatClampNeg)).toNatClampNeg b) (22 + (f_row (2 : Int32).toNatClampNeg)).toNatClampNeg 0) 2 (((upd (upd (upd f_row (198 + (f_row (2 : Int32).toNatClampNeg)).toNatClampNeg a) (204 + (f_row (2 : Int32).toNatClampNeg)).toNatClampNeg b) (22 + (f_row (2 : Int32).toNatClampNeg)).toNatClampNeg 0) (2 : Int32).toNatClampNeg) + 1)) := RLW.up_2 R27 (rfl : ((2 : Nat) : Int) = 2) (by omega) (by omega) (w := (Int32.toInt (((upd (upd (upd f_row (198 + (f_row (2 : Int32).toNatClampNeg)).toNatClampNeg a) (204 + (f_row (2 : Int32).toNatClampNeg)).toNatClampNeg b) (22 + (f_row (2 : Int32).toNatClampNeg)).toNatClampNeg 0) (2 : Int32).toNatClampNeg) + 1))) rfl (by omega) (by omega)
            exact hq _ _ _ _ _ _ ⟨(by decide), R32⟩


set_option maxRecDepth 100000 in
theorem s_X12_who (a : Int32) (b : Int32) (f_row : Nat → Int32) (h_f_row : RLW f_row) {Q : Int32 → Int32 → Prop} (hq : ∀ (r : Int32) (u : Int32), True → Q r u) : wp_X12_who a b f_row Q := by
  unfold wp_X12_who
  refine o_X12_in _ _ _ _ ?_
  by_cases c1 : (lg_cmp b.toInt64 0) < 0
  · refine br1 c1 ?_
    have t2 : (Int64.toInt b.toInt64) = (Int32.toInt b) := i2l_z rfl
    have d3 := c_lt (x := (Int64.toInt b.toInt64)) (y := 0) rfl rfl c1
    refine br1 (by decide) ?_
    exact hq _ _ trivial
  · refine br0 c1 ?_
    have t4 : (Int64.toInt b.toInt64) = (Int32.toInt b) := i2l_z rfl
    have d5 := c_nlt (x := (Int64.toInt b.toInt64)) (y := 0) rfl rfl c1
    by_cases c6 : 0 < (lg_cmp b.toInt64 4)
    · refine br1 c6 ?_
      have d7 := c_gt (x := (Int64.toInt b.toInt64)) (y := 4) rfl rfl c6
      refine br1 (by decide) ?_
      exact hq _ _ trivial
    · refine br0 c6 ?_
      have d8 := c_ngt (x := (Int64.toInt b.toInt64)) (y := 4) rfl rfl c6
      refine br0 (by decide) ?_
      refine jn_s ?_
      by_cases c9 : 2 ≤ b
      · refine br1 c9 ?_
        have d10 := le_z (x := 2) (y := (Int32.toInt b)) rfl rfl c9
        refine o_X12_isNoise _ _ _ ?_
        refine o_X12_in _ _ _ _ ?_
        by_cases c11 : (lg_cmp a.toInt64 0) < 0
        · refine br1 c11 ?_
          have t12 : (Int64.toInt a.toInt64) = (Int32.toInt a) := i2l_z rfl
          have d13 := c_lt (x := (Int64.toInt a.toInt64)) (y := 0) rfl rfl c11
          refine br1 (by decide) ?_
          exact hq _ _ trivial
        · refine br0 c11 ?_
          have t14 : (Int64.toInt a.toInt64) = (Int32.toInt a) := i2l_z rfl
          have d15 := c_nlt (x := (Int64.toInt a.toInt64)) (y := 0) rfl rfl c11
          by_cases c16 : 0 < (lg_cmp a.toInt64 ((f_row (2 : Int32).toNatClampNeg).toInt64 - 1))
          · refine br1 c16 ?_
            have g17 : 0 ≤ (Int32.toInt (f_row (2 : Int32).toNatClampNeg)) ∧ (Int32.toInt (f_row (2 : Int32).toNatClampNeg)) ≤ 6 := RLW.at_2 h_f_row (rfl : ((2 : Nat) : Int) = 2) (by omega) (by omega)
            have t18 : (Int64.toInt (f_row (2 : Int32).toNatClampNeg).toInt64) = (Int32.toInt (f_row (2 : Int32).toNatClampNeg)) := i2l_z rfl
            have t19 : (Int64.toInt ((f_row (2 : Int32).toNatClampNeg).toInt64 - 1)) = (Int64.toInt (f_row (2 : Int32).toNatClampNeg).toInt64) - 1 := lsub_z rfl rfl (by omega) (by omega)
            have d20 := c_gt (x := (Int64.toInt a.toInt64)) (y := (Int64.toInt ((f_row (2 : Int32).toNatClampNeg).toInt64 - 1))) rfl rfl c16
            refine br1 (by decide) ?_
            exact hq _ _ trivial
          · refine br0 c16 ?_
            have g21 : 0 ≤ (Int32.toInt (f_row (2 : Int32).toNatClampNeg)) ∧ (Int32.toInt (f_row (2 : Int32).toNatClampNeg)) ≤ 6 := RLW.at_2 h_f_row (rfl : ((2 : Nat) : Int) = 2) (by omega) (by omega)
            have t22 : (Int64.toInt (f_row (2 : Int32).toNatClampNeg).toInt64) = (Int32.toInt (f_row (2 : Int32).toNatClampNeg)) := i2l_z rfl
            have t23 : (Int64.toInt ((f_row (2 : Int32).toNatClampNeg).toInt64 - 1)) = (Int64.toInt (f_row (2 : Int32).toNatClampNeg).toInt64) - 1 := lsub_z rfl rfl (by omega) (by omega)
            have d24 := c_ngt (x := (Int64.toInt a.toInt64)) (y := (Int64.toInt ((f_row (2 : Int32).toNatClampNeg).toInt64 - 1))) rfl rfl c16
            refine br0 (by decide) ?_
            refine br0 (z_ne (x := (Int32.toInt b)) (y := 0) rfl rfl (by omega)) ?_
            refine br0 (z_ne (x := (Int32.toInt b)) (y := 1) rfl rfl (by omega)) ?_
            by_cases c25 : b = 2
            · refine br1 c25 ?_
              have d26 := eq_z (x := (Int32.toInt b)) (y := 2) rfl rfl c25
              have t27 : (Int32.toInt (198 + a)) = 198 + (Int32.toInt a) := add_z rfl rfl (by omega) (by omega)
              refine ⟨vpi (x := (Int32.toInt (198 + a))) rfl (by omega) (by omega), ?_⟩
              have g28 : 0 ≤ (Int32.toInt (f_row (198 + a).toNatClampNeg)) ∧ (Int32.toInt (f_row (198 + a).toNatClampNeg)) ≤ 7 := RLW.at_198 h_f_row (tnz (x := (Int32.toInt (198 + a))) rfl (by omega)) (by omega) (by omega)
              exact hq _ _ trivial
            · refine br0 c25 ?_
              have d29 := ne_z (x := (Int32.toInt b)) (y := 2) rfl rfl c25
              by_cases c30 : b = 3
              · refine br1 c30 ?_
                have d31 := eq_z (x := (Int32.toInt b)) (y := 3) rfl rfl c30
                have t32 : (Int32.toInt (204 + a)) = 204 + (Int32.toInt a) := add_z rfl rfl (by omega) (by omega)
                refine ⟨vpi (x := (Int32.toInt (204 + a))) rfl (by omega) (by omega), ?_⟩
                have g33 : 0 ≤ (Int32.toInt (f_row (204 + a).toNatClampNeg)) ∧ (Int32.toInt (f_row (204 + a).toNatClampNeg)) ≤ 20 := RLW.at_204 h_f_row (tnz (x := (Int32.toInt (204 + a))) rfl (by omega)) (by omega) (by omega)
                exact hq _ _ trivial
              · refine br0 c30 ?_
                have d34 := ne_z (x := (Int32.toInt b)) (y := 3) rfl rfl c30
                have t35 : (Int32.toInt (22 + a)) = 22 + (Int32.toInt a) := add_z rfl rfl (by omega) (by omega)
                refine ⟨vpi (x := (Int32.toInt (22 + a))) rfl (by omega) (by omega), ?_⟩
                have g36 : 0 ≤ (Int32.toInt (f_row (22 + a).toNatClampNeg)) ∧ (Int32.toInt (f_row (22 + a).toNatClampNeg)) ≤ 1 := RLW.at_22 h_f_row (tnz (x := (Int32.toInt (22 + a))) rfl (by omega)) (by omega) (by omega)
                exact hq _ _ trivial
      · refine br0 c9 ?_
        have d37 := nle_z (x := 2) (y := (Int32.toInt b)) rfl rfl c9
        refine o_X12_isEar _ _ _ ?_
        refine o_X12_in _ _ _ _ ?_
        by_cases c38 : (lg_cmp a.toInt64 0) < 0
        · refine br1 c38 ?_
          have t39 : (Int64.toInt a.toInt64) = (Int32.toInt a) := i2l_z rfl
          have d40 := c_lt (x := (Int64.toInt a.toInt64)) (y := 0) rfl rfl c38
          refine br1 (by decide) ?_
          exact hq _ _ trivial
        · refine br0 c38 ?_
          have t41 : (Int64.toInt a.toInt64) = (Int32.toInt a) := i2l_z rfl
          have d42 := c_nlt (x := (Int64.toInt a.toInt64)) (y := 0) rfl rfl c38
          by_cases c43 : 0 < (lg_cmp a.toInt64 ((f_row (1 : Int32).toNatClampNeg).toInt64 - 1))
          · refine br1 c43 ?_
            have g44 : 0 ≤ (Int32.toInt (f_row (1 : Int32).toNatClampNeg)) ∧ (Int32.toInt (f_row (1 : Int32).toNatClampNeg)) ≤ 5 := RLW.at_1 h_f_row (rfl : ((1 : Nat) : Int) = 1) (by omega) (by omega)
            have t45 : (Int64.toInt (f_row (1 : Int32).toNatClampNeg).toInt64) = (Int32.toInt (f_row (1 : Int32).toNatClampNeg)) := i2l_z rfl
            have t46 : (Int64.toInt ((f_row (1 : Int32).toNatClampNeg).toInt64 - 1)) = (Int64.toInt (f_row (1 : Int32).toNatClampNeg).toInt64) - 1 := lsub_z rfl rfl (by omega) (by omega)
            have d47 := c_gt (x := (Int64.toInt a.toInt64)) (y := (Int64.toInt ((f_row (1 : Int32).toNatClampNeg).toInt64 - 1))) rfl rfl c43
            refine br1 (by decide) ?_
            exact hq _ _ trivial
          · refine br0 c43 ?_
            have g48 : 0 ≤ (Int32.toInt (f_row (1 : Int32).toNatClampNeg)) ∧ (Int32.toInt (f_row (1 : Int32).toNatClampNeg)) ≤ 5 := RLW.at_1 h_f_row (rfl : ((1 : Nat) : Int) = 1) (by omega) (by omega)
            have t49 : (Int64.toInt (f_row (1 : Int32).toNatClampNeg).toInt64) = (Int32.toInt (f_row (1 : Int32).toNatClampNeg)) := i2l_z rfl
            have t50 : (Int64.toInt ((f_row (1 : Int32).toNatClampNeg).toInt64 - 1)) = (Int64.toInt (f_row (1 : Int32).toNatClampNeg).toInt64) - 1 := lsub_z rfl rfl (by omega) (by omega)
            have d51 := c_ngt (x := (Int64.toInt a.toInt64)) (y := (Int64.toInt ((f_row (1 : Int32).toNatClampNeg).toInt64 - 1))) rfl rfl c43
            refine br0 (by decide) ?_
            by_cases c52 : b = 0
            · refine br1 c52 ?_
              have d53 := eq_z (x := (Int32.toInt b)) (y := 0) rfl rfl c52
              have t54 : (Int32.toInt (28 + a)) = 28 + (Int32.toInt a) := add_z rfl rfl (by omega) (by omega)
              refine ⟨vpi (x := (Int32.toInt (28 + a))) rfl (by omega) (by omega), ?_⟩
              have g55 : 0 ≤ (Int32.toInt (f_row (28 + a).toNatClampNeg)) ∧ (Int32.toInt (f_row (28 + a).toNatClampNeg)) ≤ 7 := RLW.at_28 h_f_row (tnz (x := (Int32.toInt (28 + a))) rfl (by omega)) (by omega) (by omega)
              exact hq _ _ trivial
            · refine br0 c52 ?_
              have d56 := ne_z (x := (Int32.toInt b)) (y := 0) rfl rfl c52
              refine br1 (z_eq (x := (Int32.toInt b)) (y := 1) rfl rfl (by omega)) ?_
              have t57 : (Int32.toInt (193 + a)) = 193 + (Int32.toInt a) := add_z rfl rfl (by omega) (by omega)
              refine ⟨vpi (x := (Int32.toInt (193 + a))) rfl (by omega) (by omega), ?_⟩
              have g58 : 0 ≤ (Int32.toInt (f_row (193 + a).toNatClampNeg)) ∧ (Int32.toInt (f_row (193 + a).toNatClampNeg)) ≤ 20 := RLW.at_193 h_f_row (tnz (x := (Int32.toInt (193 + a))) rfl (by omega)) (by omega) (by omega)
              exact hq _ _ trivial


set_option maxRecDepth 100000 in
theorem s_X12_terms (a : Int32) (b : Int32) (h0_nUndo : Int32) (f_row : Nat → Int32) (f_refusals : Nat → Int32) (h_h0_nUndo : 0 ≤ h0_nUndo.toInt ∧ h0_nUndo.toInt ≤ 16) (h_f_row : RLW f_row) {Q : Int32 → (Int32 × Int32 × Int32 × (Nat → Int32) × (Nat → Int32)) → Prop} (hq : ∀ (r : Int32) (u_0 : Int32) (u_1 : Int32) (u_2 : Int32) (u_3 : Nat → Int32) (u_4 : Nat → Int32), (0 ≤ u_2.toInt ∧ u_2.toInt ≤ 16) ∧ (RLW u_3) → Q r (u_0, u_1, u_2, u_3, u_4)) : wp_X12_terms a b h0_nUndo f_row f_refusals Q := by
  unfold wp_X12_terms
  refine jn_s ?_
  by_cases c1 : a = 0
  · refine br1 c1 ?_
    have d2 := eq_z (x := (Int32.toInt a)) (y := 0) rfl rfl c1
    refine o_X12_in _ _ _ _ ?_
    by_cases c3 : (lg_cmp b.toInt64 0) < 0
    · refine br1 c3 ?_
      have t4 : (Int64.toInt b.toInt64) = (Int32.toInt b) := i2l_z rfl
      have d5 := c_lt (x := (Int64.toInt b.toInt64)) (y := 0) rfl rfl c3
      refine br1 (by decide) ?_
      refine o_X12_tell _ _ _ ?_
      refine jn_s ?_
      refine br0 (by decide) ?_
      refine br0 (by decide) ?_
      refine ⟨by unfold vp_in; decide, ?_⟩
      refine ⟨by unfold vp_in; decide, ?_⟩
      refine un2_i ?_
      exact hq _ _ _ _ _ _ ⟨⟨by omega, by omega⟩, h_f_row⟩
    · refine br0 c3 ?_
      have t6 : (Int64.toInt b.toInt64) = (Int32.toInt b) := i2l_z rfl
      have d7 := c_nlt (x := (Int64.toInt b.toInt64)) (y := 0) rfl rfl c3
      by_cases c8 : 0 < (lg_cmp b.toInt64 9999)
      · refine br1 c8 ?_
        have d9 := c_gt (x := (Int64.toInt b.toInt64)) (y := 9999) rfl rfl c8
        refine br1 (by decide) ?_
        refine o_X12_tell _ _ _ ?_
        refine jn_s ?_
        refine br0 (by decide) ?_
        refine br0 (by decide) ?_
        refine ⟨by unfold vp_in; decide, ?_⟩
        refine ⟨by unfold vp_in; decide, ?_⟩
        refine un2_i ?_
        exact hq _ _ _ _ _ _ ⟨⟨by omega, by omega⟩, h_f_row⟩
      · refine br0 c8 ?_
        have d10 := c_ngt (x := (Int64.toInt b.toInt64)) (y := 9999) rfl rfl c8
        refine br0 (by decide) ?_
        refine o_X12_change _ _ _ _ ?_
        have t11 : (Int32.toInt (7 + a)) = 7 + (Int32.toInt a) := add_z rfl rfl (by omega) (by omega)
        refine ⟨vpi (x := (Int32.toInt (7 + a))) rfl (by omega) (by omega), ?_⟩
        refine ⟨vpi (x := (Int32.toInt (7 + a))) rfl (by omega) (by omega), ?_⟩
        refine un2_i ?_
        have g12 : 0 ≤ (Int32.toInt (f_row (7 + a).toNatClampNeg)) ∧ (Int32.toInt (f_row (7 + a).toNatClampNeg)) ≤ 9999 := RLW.at_7 h_f_row (tnz (x := (Int32.toInt (7 + a))) rfl (by omega)) (by omega) (by omega)
        have R13 : RLW (upd f_row (7 + a).toNatClampNeg b) := RLW.up_7 h_f_row (tnz (x := (Int32.toInt (7 + a))) rfl (by omega)) (by omega) (by omega) (w := (Int32.toInt b)) rfl (by omega) (by omega)
        exact hq _ _ _ _ _ _ ⟨(by decide), R13⟩
  · refine br0 c1 ?_
    have d14 := ne_z (x := (Int32.toInt a)) (y := 0) rfl rfl c1
    by_cases c15 : a = 1
    · refine br1 c15 ?_
      have d16 := eq_z (x := (Int32.toInt a)) (y := 1) rfl rfl c15
      refine o_X12_in _ _ _ _ ?_
      by_cases c17 : (lg_cmp b.toInt64 0) < 0
      · refine br1 c17 ?_
        have t18 : (Int64.toInt b.toInt64) = (Int32.toInt b) := i2l_z rfl
        have d19 := c_lt (x := (Int64.toInt b.toInt64)) (y := 0) rfl rfl c17
        refine br1 (by decide) ?_
        refine o_X12_tell _ _ _ ?_
        refine jn_s ?_
        refine br0 (by decide) ?_
        refine br0 (by decide) ?_
        refine ⟨by unfold vp_in; decide, ?_⟩
        refine ⟨by unfold vp_in; decide, ?_⟩
        refine un2_i ?_
        exact hq _ _ _ _ _ _ ⟨⟨by omega, by omega⟩, h_f_row⟩
      · refine br0 c17 ?_
        have t20 : (Int64.toInt b.toInt64) = (Int32.toInt b) := i2l_z rfl
        have d21 := c_nlt (x := (Int64.toInt b.toInt64)) (y := 0) rfl rfl c17
        by_cases c22 : 0 < (lg_cmp b.toInt64 10)
        · refine br1 c22 ?_
          have d23 := c_gt (x := (Int64.toInt b.toInt64)) (y := 10) rfl rfl c22
          refine br1 (by decide) ?_
          refine o_X12_tell _ _ _ ?_
          refine jn_s ?_
          refine br0 (by decide) ?_
          refine br0 (by decide) ?_
          refine ⟨by unfold vp_in; decide, ?_⟩
          refine ⟨by unfold vp_in; decide, ?_⟩
          refine un2_i ?_
          exact hq _ _ _ _ _ _ ⟨⟨by omega, by omega⟩, h_f_row⟩
        · refine br0 c22 ?_
          have d24 := c_ngt (x := (Int64.toInt b.toInt64)) (y := 10) rfl rfl c22
          refine br0 (by decide) ?_
          refine o_X12_change _ _ _ _ ?_
          have t25 : (Int32.toInt (7 + a)) = 7 + (Int32.toInt a) := add_z rfl rfl (by omega) (by omega)
          refine ⟨vpi (x := (Int32.toInt (7 + a))) rfl (by omega) (by omega), ?_⟩
          refine ⟨vpi (x := (Int32.toInt (7 + a))) rfl (by omega) (by omega), ?_⟩
          refine un2_i ?_
          have g26 : 0 ≤ (Int32.toInt (f_row (7 + a).toNatClampNeg)) ∧ (Int32.toInt (f_row (7 + a).toNatClampNeg)) ≤ 10 := RLW.at_8 h_f_row (tnz (x := (Int32.toInt (7 + a))) rfl (by omega)) (by omega) (by omega)
          have R27 : RLW (upd f_row (7 + a).toNatClampNeg b) := RLW.up_8 h_f_row (tnz (x := (Int32.toInt (7 + a))) rfl (by omega)) (by omega) (by omega) (w := (Int32.toInt b)) rfl (by omega) (by omega)
          exact hq _ _ _ _ _ _ ⟨(by decide), R27⟩
    · refine br0 c15 ?_
      have d28 := ne_z (x := (Int32.toInt a)) (y := 1) rfl rfl c15
      by_cases c29 : a = 2
      · refine br1 c29 ?_
        have d30 := eq_z (x := (Int32.toInt a)) (y := 2) rfl rfl c29
        refine o_X12_in _ _ _ _ ?_
        by_cases c31 : (lg_cmp b.toInt64 0) < 0
        · refine br1 c31 ?_
          have t32 : (Int64.toInt b.toInt64) = (Int32.toInt b) := i2l_z rfl
          have d33 := c_lt (x := (Int64.toInt b.toInt64)) (y := 0) rfl rfl c31
          refine br1 (by decide) ?_
          refine br1 (by decide) ?_
          refine o_X12_tell _ _ _ ?_
          refine jn_s ?_
          refine br0 (by decide) ?_
          refine br0 (by decide) ?_
          refine ⟨by unfold vp_in; decide, ?_⟩
          refine ⟨by unfold vp_in; decide, ?_⟩
          refine un2_i ?_
          exact hq _ _ _ _ _ _ ⟨⟨by omega, by omega⟩, h_f_row⟩
        · refine br0 c31 ?_
          have t34 : (Int64.toInt b.toInt64) = (Int32.toInt b) := i2l_z rfl
          have d35 := c_nlt (x := (Int64.toInt b.toInt64)) (y := 0) rfl rfl c31
          by_cases c36 : 0 < (lg_cmp b.toInt64 9)
          · refine br1 c36 ?_
            have d37 := c_gt (x := (Int64.toInt b.toInt64)) (y := 9) rfl rfl c36
            refine br1 (by decide) ?_
            refine br1 (by decide) ?_
            refine o_X12_tell _ _ _ ?_
            refine jn_s ?_
            refine br0 (by decide) ?_
            refine br0 (by decide) ?_
            refine ⟨by unfold vp_in; decide, ?_⟩
            refine ⟨by unfold vp_in; decide, ?_⟩
            refine un2_i ?_
            exact hq _ _ _ _ _ _ ⟨⟨by omega, by omega⟩, h_f_row⟩
          · refine br0 c36 ?_
            have d38 := c_ngt (x := (Int64.toInt b.toInt64)) (y := 9) rfl rfl c36
            refine br0 (by decide) ?_
            refine br0 (by decide) ?_
            refine o_X12_change _ _ _ _ ?_
            have t39 : (Int32.toInt (7 + a)) = 7 + (Int32.toInt a) := add_z rfl rfl (by omega) (by omega)
            refine ⟨vpi (x := (Int32.toInt (7 + a))) rfl (by omega) (by omega), ?_⟩
            refine ⟨vpi (x := (Int32.toInt (7 + a))) rfl (by omega) (by omega), ?_⟩
            refine un2_i ?_
            have g40 : 0 ≤ (Int32.toInt (f_row (7 + a).toNatClampNeg)) ∧ (Int32.toInt (f_row (7 + a).toNatClampNeg)) ≤ 9 := RLW.at_9 h_f_row (tnz (x := (Int32.toInt (7 + a))) rfl (by omega)) (by omega) (by omega)
            have R41 : RLW (upd f_row (7 + a).toNatClampNeg b) := RLW.up_9 h_f_row (tnz (x := (Int32.toInt (7 + a))) rfl (by omega)) (by omega) (by omega) (w := (Int32.toInt b)) rfl (by omega) (by omega)
            exact hq _ _ _ _ _ _ ⟨(by decide), R41⟩
      · refine br0 c29 ?_
        have d42 := ne_z (x := (Int32.toInt a)) (y := 2) rfl rfl c29
        refine br1 (by decide) ?_
        refine o_X12_tell _ _ _ ?_
        refine jn_s ?_
        refine br0 (by decide) ?_
        refine br0 (by decide) ?_
        refine ⟨by unfold vp_in; decide, ?_⟩
        refine ⟨by unfold vp_in; decide, ?_⟩
        refine un2_i ?_
        exact hq _ _ _ _ _ _ ⟨⟨by omega, by omega⟩, h_f_row⟩


set_option maxRecDepth 100000 in
theorem s_X12_mud (h0_mud : Int32) {Q : Int32 → Int32 → Prop} (hq : ∀ (r : Int32) (u : Int32), True → Q r u) : wp_X12_mud h0_mud Q := by
  unfold wp_X12_mud
  exact hq _ _ trivial


set_option maxRecDepth 100000 in
theorem s_X12_end (a : Int32) (h0_taped : Int32) (h_h0_taped : 0 ≤ h0_taped.toInt ∧ h0_taped.toInt ≤ 400) {Q : Int32 → (Int32 × Int32) → Prop} (hq : ∀ (r : Int32) (u_0 : Int32) (u_1 : Int32), (0 ≤ u_1.toInt ∧ u_1.toInt ≤ 400) → Q r (u_0, u_1)) : wp_X12_end a h0_taped Q := by
  unfold wp_X12_end
  by_cases c1 : a < 0
  · refine br1 c1 ?_
    have d2 := lt_z (x := (Int32.toInt a)) (y := 0) rfl rfl c1
    exact hq _ _ _ ⟨by omega, by omega⟩
  · refine br0 c1 ?_
    have d3 := nlt_z (x := (Int32.toInt a)) (y := 0) rfl rfl c1
    by_cases c4 : a ≤ h0_taped
    · refine br1 c4 ?_
      have d5 := le_z (x := (Int32.toInt a)) (y := (Int32.toInt h0_taped)) rfl rfl c4
      exact hq _ _ _ ⟨by omega, by omega⟩
    · refine br0 c4 ?_
      have d6 := nle_z (x := (Int32.toInt a)) (y := (Int32.toInt h0_taped)) rfl rfl c4
      exact hq _ _ _ ⟨by omega, by omega⟩


set_option maxRecDepth 100000 in
theorem sl_X12_four_3 (a : Int32) (g0 : Int) (Qb : Int32 → Int32 → (Nat → Int32) → Prop) (KX : ∀ (x_3_0 : Int32) (x_3_1 : Int32) (x_3_2 : Nat → Int32), ((-8) ≤ x_3_0.toInt ∧ x_3_0.toInt ≤ (-1)) ∧ (0 ≤ x_3_1.toInt ∧ x_3_1.toInt ≤ 400) ∧ (TP x_3_2) ∧ (8 * x_3_1.toInt + x_3_0.toInt = 8 * g0 + 24) ∧ (g0 ≤ 396) ∧ (0 ≤ g0) → Qb x_3_0 x_3_1 x_3_2) : ∀ (n : Nat) (x_3_0 : Int32) (x_3_1 : Int32) (x_3_2 : Nat → Int32), ((-8) ≤ x_3_0.toInt ∧ x_3_0.toInt ≤ 24) ∧ (0 ≤ x_3_1.toInt ∧ x_3_1.toInt ≤ 400) ∧ (TP x_3_2) ∧ (8 * x_3_1.toInt + x_3_0.toInt = 8 * g0 + 24) ∧ (g0 ≤ 396) ∧ (0 ≤ g0) → x_3_0.toInt - (-9) < (n : Int) → wl_X12_four_3 a Qb n x_3_0 x_3_1 x_3_2 := by
  intro n
  induction n with
  | zero =>
    intro x_3_0 x_3_1 x_3_2 hI hm
    exfalso; have hm : x_3_0.toInt - (-9) < 0 := hm; omega
  | succ n ih =>
    intro x_3_0 x_3_1 x_3_2 hI hm
    have hm : x_3_0.toInt - (-9) < (n : Int) + 1 := by simpa using hm
    have h_x_3_0 := hI.1
    have h_x_3_1 := hI.2.1
    have h_x_3_2 := hI.2.2.1
    have h_rel0 := hI.2.2.2.1
    have h_rel1 := hI.2.2.2.2.1
    have h_rel2 := hI.2.2.2.2.2
    unfold wl_X12_four_3
    by_cases c1 : x_3_0 < 0
    · refine br1 c1 ?_
      have d2 := lt_z (x := (Int32.toInt x_3_0)) (y := 0) rfl rfl c1
      exact KX _ _ _ ⟨⟨by omega, by omega⟩, ⟨by omega, by omega⟩, h_x_3_2, (by omega), (by omega), (by omega)⟩
    · refine br0 c1 ?_
      have d3 := nlt_z (x := (Int32.toInt x_3_0)) (y := 0) rfl rfl c1
      refine ⟨vpi (x := (Int32.toInt x_3_1)) rfl (by omega) (by omega), ?_⟩
      have t4 : (Int32.toInt (x_3_0 + (-8))) = (Int32.toInt x_3_0) + (-8) := add_z rfl (by decide) (by omega) (by omega)
      have t5 : (Int32.toInt (x_3_1 + 1)) = (Int32.toInt x_3_1) + 1 := add_z rfl rfl (by omega) (by omega)
      have t6 : 0 ≤ (Int32.toInt ((a >>> (x_3_0 &&& 31)) &&& 255)) ∧ (Int32.toInt ((a >>> (x_3_0 &&& 31)) &&& 255)) ≤ 255 := and_z (by decide)
      have R7 : TP (upd x_3_2 x_3_1.toNatClampNeg ((a >>> (x_3_0 &&& 31)) &&& 255)) := TP.up_0 h_x_3_2 (tnz (x := (Int32.toInt x_3_1)) rfl (by omega)) (by omega) (by omega) (w := (Int32.toInt ((a >>> (x_3_0 &&& 31)) &&& 255))) rfl (by omega) (by omega)
      exact ih _ _ _ ⟨⟨by omega, by omega⟩, ⟨by omega, by omega⟩, R7, (by omega), (by omega), (by omega)⟩ (by omega)
set_option maxRecDepth 100000 in
theorem s_X12_four (a : Int32) (h0_taped : Int32) (f_tape : Nat → Int32) (h_h0_taped : 0 ≤ h0_taped.toInt ∧ h0_taped.toInt ≤ 396) (h_f_tape : TP f_tape) {Q : (Int32 × (Nat → Int32)) → Prop} (hq : ∀ (u_0 : Int32) (u_1 : Nat → Int32), (0 ≤ u_0.toInt ∧ u_0.toInt ≤ 400) ∧ (TP u_1) ∧ (u_0.toInt = h0_taped.toInt + 4) → Q (u_0, u_1)) : wp_X12_four a h0_taped f_tape Q := by
  unfold wp_X12_four
  have k3 : Int32.toInt 24 = 24 := rfl
  refine sl_X12_four_3 a (Int32.toInt h0_taped)  _ (fun x1_0 x1_1 x1_2 X2 => ?_) 1000000000000 24 h0_taped (f_tape) ⟨(by decide), ⟨by omega, by omega⟩, h_f_tape, (by omega), (by omega), (by omega)⟩ (by omega)
  have j4 := X2.1
  have j5 := X2.2.1
  have j6 := X2.2.2.1
  have j7 := X2.2.2.2.1
  have j8 := X2.2.2.2.2.1
  have j9 := X2.2.2.2.2.2
  exact hq _ _ ⟨⟨by omega, by omega⟩, j6, (by omega)⟩


set_option maxRecDepth 100000 in
theorem s_X12_feed (a : Int32) (b : Int32) (d : Int32) (g : Int32) (k : Int32) (h0_taped : Int32) (f_tape : Nat → Int32) (h_h0_taped : 0 ≤ h0_taped.toInt ∧ h0_taped.toInt ≤ 400) (h_f_tape : TP f_tape) {Q : Int32 → (Int32 × Int32 × (Nat → Int32)) → Prop} (hq : ∀ (r : Int32) (u_0 : Int32) (u_1 : Int32) (u_2 : Nat → Int32), (0 ≤ u_1.toInt ∧ u_1.toInt ≤ 400) ∧ (TP u_2) → Q r (u_0, u_1, u_2)) : wp_X12_feed a b d g k h0_taped f_tape Q := by
  unfold wp_X12_feed
  by_cases c1 : (h0_taped + 20) ≤ 400
  · refine br1 c1 ?_
    have t2 : (Int32.toInt (h0_taped + 20)) = (Int32.toInt h0_taped) + 20 := add_z rfl rfl (by omega) (by omega)
    have d3 := le_z (x := (Int32.toInt (h0_taped + 20))) (y := 400) rfl rfl c1
    refine s_X12_four a h0_taped (f_tape) ⟨by omega, by omega⟩ h_f_tape (fun u4_0 u4_1 H5 => ?_)
    have j6 := H5.1
    have j7 := H5.2.1
    have j8 := H5.2.2
    refine un2_i ?_
    refine s_X12_four b u4_0 (u4_1) ⟨by omega, by omega⟩ j7 (fun u9_0 u9_1 H10 => ?_)
    have j11 := H10.1
    have j12 := H10.2.1
    have j13 := H10.2.2
    refine un2_i ?_
    refine s_X12_four d u9_0 (u9_1) ⟨by omega, by omega⟩ j12 (fun u14_0 u14_1 H15 => ?_)
    have j16 := H15.1
    have j17 := H15.2.1
    have j18 := H15.2.2
    refine un2_i ?_
    refine s_X12_four g u14_0 (u14_1) ⟨by omega, by omega⟩ j17 (fun u19_0 u19_1 H20 => ?_)
    have j21 := H20.1
    have j22 := H20.2.1
    have j23 := H20.2.2
    refine un2_i ?_
    refine s_X12_four k u19_0 (u19_1) ⟨by omega, by omega⟩ j22 (fun u24_0 u24_1 H25 => ?_)
    have j26 := H25.1
    have j27 := H25.2.1
    have j28 := H25.2.2
    refine un2_i ?_
    exact hq _ _ _ _ ⟨⟨by omega, by omega⟩, j27⟩
  · refine br0 c1 ?_
    have t29 : (Int32.toInt (h0_taped + 20)) = (Int32.toInt h0_taped) + 20 := add_z rfl rfl (by omega) (by omega)
    have d30 := nle_z (x := (Int32.toInt (h0_taped + 20))) (y := 400) rfl rfl c1
    exact hq _ _ _ _ ⟨⟨by omega, by omega⟩, h_f_tape⟩


set_option maxRecDepth 100000 in
theorem sl_X12_dinBut_5 (a : Int32) (b : Int32) (f_row : Nat → Int32) (h_a : 0 ≤ a.toInt ∧ a.toInt ≤ 7) (h_f_row : RLW f_row) (Qb : Int32 → Int32 → Prop) (KX : ∀ (x_5_0 : Int32) (x_5_1 : Int32), (0 ≤ x_5_0.toInt ∧ x_5_0.toInt ≤ 6) ∧ (0 ≤ x_5_1.toInt ∧ x_5_1.toInt ≤ 120) ∧ (x_5_1.toInt ≤ 20 * x_5_0.toInt) → Qb x_5_0 x_5_1) : ∀ (n : Nat) (x_5_0 : Int32) (x_5_1 : Int32), (0 ≤ x_5_0.toInt ∧ x_5_0.toInt ≤ 6) ∧ (0 ≤ x_5_1.toInt ∧ x_5_1.toInt ≤ 120) ∧ (x_5_1.toInt ≤ 20 * x_5_0.toInt) → 7 - x_5_0.toInt < (n : Int) → wl_X12_dinBut_5 a b f_row Qb n x_5_0 x_5_1 := by
  intro n
  induction n with
  | zero =>
    intro x_5_0 x_5_1 hI hm
    exfalso; have hm : 7 - x_5_0.toInt < 0 := hm; omega
  | succ n ih =>
    intro x_5_0 x_5_1 hI hm
    have hm : 7 - x_5_0.toInt < (n : Int) + 1 := by simpa using hm
    have h_x_5_0 := hI.1
    have h_x_5_1 := hI.2.1
    have h_rel0 := hI.2.2
    unfold wl_X12_dinBut_5
    by_cases c1 : (f_row (2 : Int32).toNatClampNeg) ≤ x_5_0
    · refine br1 c1 ?_
      have g2 : 0 ≤ (Int32.toInt (f_row (2 : Int32).toNatClampNeg)) ∧ (Int32.toInt (f_row (2 : Int32).toNatClampNeg)) ≤ 6 := RLW.at_2 h_f_row (rfl : ((2 : Nat) : Int) = 2) (by omega) (by omega)
      have d3 := le_z (x := (Int32.toInt (f_row (2 : Int32).toNatClampNeg))) (y := (Int32.toInt x_5_0)) rfl rfl c1
      exact KX _ _ ⟨⟨by omega, by omega⟩, ⟨by omega, by omega⟩, (by omega)⟩
    · refine br0 c1 ?_
      have g4 : 0 ≤ (Int32.toInt (f_row (2 : Int32).toNatClampNeg)) ∧ (Int32.toInt (f_row (2 : Int32).toNatClampNeg)) ≤ 6 := RLW.at_2 h_f_row (rfl : ((2 : Nat) : Int) = 2) (by omega) (by omega)
      have d5 := nle_z (x := (Int32.toInt (f_row (2 : Int32).toNatClampNeg))) (y := (Int32.toInt x_5_0)) rfl rfl c1
      have t6 : (Int32.toInt (204 + x_5_0)) = 204 + (Int32.toInt x_5_0) := add_z rfl rfl (by omega) (by omega)
      refine ⟨vpi (x := (Int32.toInt (204 + x_5_0))) rfl (by omega) (by omega), ?_⟩
      have t7 : (Int32.toInt (198 + x_5_0)) = 198 + (Int32.toInt x_5_0) := add_z rfl rfl (by omega) (by omega)
      refine ⟨vpi (x := (Int32.toInt (198 + x_5_0))) rfl (by omega) (by omega), ?_⟩
      have g8 : 0 ≤ (Int32.toInt (f_row (198 + x_5_0).toNatClampNeg)) ∧ (Int32.toInt (f_row (198 + x_5_0).toNatClampNeg)) ≤ 7 := RLW.at_198 h_f_row (tnz (x := (Int32.toInt (198 + x_5_0))) rfl (by omega)) (by omega) (by omega)
      refine s_X12_apart (f_row (198 + x_5_0).toNatClampNeg) a ⟨by omega, by omega⟩ ⟨by omega, by omega⟩ (fun r9 H10 => ?_)
      have j11 := H10
      have t12 : (Int32.toInt (22 + x_5_0)) = 22 + (Int32.toInt x_5_0) := add_z rfl rfl (by omega) (by omega)
      refine ⟨vpi (x := (Int32.toInt (22 + x_5_0))) rfl (by omega) (by omega), ?_⟩
      by_cases c13 : (f_row (22 + x_5_0).toNatClampNeg) = 1
      · refine br1 c13 ?_
        have g14 : 0 ≤ (Int32.toInt (f_row (22 + x_5_0).toNatClampNeg)) ∧ (Int32.toInt (f_row (22 + x_5_0).toNatClampNeg)) ≤ 1 := RLW.at_22 h_f_row (tnz (x := (Int32.toInt (22 + x_5_0))) rfl (by omega)) (by omega) (by omega)
        have d15 := eq_z (x := (Int32.toInt (f_row (22 + x_5_0).toNatClampNeg))) (y := 1) rfl rfl c13
        have t16 : (Int32.toInt (x_5_0 + 1)) = (Int32.toInt x_5_0) + 1 := add_z rfl rfl (by omega) (by omega)
        have t17 : (Int32.toInt (x_5_1 + 0)) = (Int32.toInt x_5_1) + 0 := add_z rfl rfl (by omega) (by omega)
        exact ih _ _ ⟨⟨by omega, by omega⟩, ⟨by omega, by omega⟩, (by omega)⟩ (by omega)
      · refine br0 c13 ?_
        have g18 : 0 ≤ (Int32.toInt (f_row (22 + x_5_0).toNatClampNeg)) ∧ (Int32.toInt (f_row (22 + x_5_0).toNatClampNeg)) ≤ 1 := RLW.at_22 h_f_row (tnz (x := (Int32.toInt (22 + x_5_0))) rfl (by omega)) (by omega) (by omega)
        have d19 := ne_z (x := (Int32.toInt (f_row (22 + x_5_0).toNatClampNeg))) (y := 1) rfl rfl c13
        refine o_X12_is _ _ _ ?_
        by_cases c20 : (lg_cmp ((b.toInt64 >>> (x_5_0.toInt64 &&& 63)) &&& 1) 1) = 0
        · refine br1 c20 ?_
          have t21 : (Int64.toInt b.toInt64) = (Int32.toInt b) := i2l_z rfl
          have d22 := c_eq (x := (Int64.toInt ((b.toInt64 >>> (x_5_0.toInt64 &&& 63)) &&& 1))) (y := 1) rfl rfl c20
          refine br0 (by decide) ?_
          have t23 : (Int32.toInt (x_5_0 + 1)) = (Int32.toInt x_5_0) + 1 := add_z rfl rfl (by omega) (by omega)
          have t24 : (Int32.toInt (x_5_1 + 0)) = (Int32.toInt x_5_1) + 0 := add_z rfl rfl (by omega) (by omega)
          exact ih _ _ ⟨⟨by omega, by omega⟩, ⟨by omega, by omega⟩, (by omega)⟩ (by omega)
        · refine br0 c20 ?_
          have t25 : (Int64.toInt b.toInt64) = (Int32.toInt b) := i2l_z rfl
          have d26 := c_ne (x := (Int64.toInt ((b.toInt64 >>> (x_5_0.toInt64 &&& 63)) &&& 1))) (y := 1) rfl rfl c20
          refine br1 (by decide) ?_
          by_cases c27 : 0 ≤ ((f_row (204 + x_5_0).toNatClampNeg) - r9)
          · refine br1 c27 ?_
            have g28 : 0 ≤ (Int32.toInt (f_row (204 + x_5_0).toNatClampNeg)) ∧ (Int32.toInt (f_row (204 + x_5_0).toNatClampNeg)) ≤ 20 := RLW.at_204 h_f_row (tnz (x := (Int32.toInt (204 + x_5_0))) rfl (by omega)) (by omega) (by omega)
            have t29 : (Int32.toInt ((f_row (204 + x_5_0).toNatClampNeg) - r9)) = (Int32.toInt (f_row (204 + x_5_0).toNatClampNeg)) - (Int32.toInt r9) := sub_z rfl rfl (by omega) (by omega)
            have d30 := le_z (x := 0) (y := (Int32.toInt ((f_row (204 + x_5_0).toNatClampNeg) - r9))) rfl rfl c27
            have t31 : (Int32.toInt (x_5_0 + 1)) = (Int32.toInt x_5_0) + 1 := add_z rfl rfl (by omega) (by omega)
            have t32 : (Int32.toInt (x_5_1 + ((f_row (204 + x_5_0).toNatClampNeg) - r9))) = (Int32.toInt x_5_1) + (Int32.toInt ((f_row (204 + x_5_0).toNatClampNeg) - r9)) := add_z rfl rfl (by omega) (by omega)
            exact ih _ _ ⟨⟨by omega, by omega⟩, ⟨by omega, by omega⟩, (by omega)⟩ (by omega)
          · refine br0 c27 ?_
            have g33 : 0 ≤ (Int32.toInt (f_row (204 + x_5_0).toNatClampNeg)) ∧ (Int32.toInt (f_row (204 + x_5_0).toNatClampNeg)) ≤ 20 := RLW.at_204 h_f_row (tnz (x := (Int32.toInt (204 + x_5_0))) rfl (by omega)) (by omega) (by omega)
            have t34 : (Int32.toInt ((f_row (204 + x_5_0).toNatClampNeg) - r9)) = (Int32.toInt (f_row (204 + x_5_0).toNatClampNeg)) - (Int32.toInt r9) := sub_z rfl rfl (by omega) (by omega)
            have d35 := nle_z (x := 0) (y := (Int32.toInt ((f_row (204 + x_5_0).toNatClampNeg) - r9))) rfl rfl c27
            have t36 : (Int32.toInt (x_5_0 + 1)) = (Int32.toInt x_5_0) + 1 := add_z rfl rfl (by omega) (by omega)
            have t37 : (Int32.toInt (x_5_1 + 0)) = (Int32.toInt x_5_1) + 0 := add_z rfl rfl (by omega) (by omega)
            exact ih _ _ ⟨⟨by omega, by omega⟩, ⟨by omega, by omega⟩, (by omega)⟩ (by omega)
set_option maxRecDepth 100000 in
theorem s_X12_dinBut (a : Int32) (b : Int32) (f_row : Nat → Int32) (h_a : 0 ≤ a.toInt ∧ a.toInt ≤ 7) (h_f_row : RLW f_row) {Q : Int32 → Prop} (hq : ∀ (r : Int32), (0 ≤ r.toInt ∧ r.toInt ≤ 120) → Q r) : wp_X12_dinBut a b f_row Q := by
  unfold wp_X12_dinBut
  have k3 : Int32.toInt 0 = 0 := rfl
  refine sl_X12_dinBut_5 a b (f_row) ⟨by omega, by omega⟩ h_f_row _ (fun x1_0 x1_1 X2 => ?_) 1000000000000 0 0 ⟨(by decide), (by decide), (by omega)⟩ (by omega)
  have j4 := X2.1
  have j5 := X2.2.1
  have j6 := X2.2.2
  exact hq _ ⟨by omega, by omega⟩


set_option maxRecDepth 100000 in
theorem s_X12_din (a : Int32) (f_row : Nat → Int32) (h_f_row : RLW f_row) {Q : Int32 → Int32 → Prop} (hq : ∀ (r : Int32) (u : Int32), True → Q r u) : wp_X12_din a f_row Q := by
  unfold wp_X12_din
  refine o_X12_isColumn _ _ ?_
  refine o_X12_in _ _ _ _ ?_
  by_cases c1 : (lg_cmp a.toInt64 0) < 0
  · refine br1 c1 ?_
    have t2 : (Int64.toInt a.toInt64) = (Int32.toInt a) := i2l_z rfl
    have d3 := c_lt (x := (Int64.toInt a.toInt64)) (y := 0) rfl rfl c1
    refine br1 (by decide) ?_
    exact hq _ _ trivial
  · refine br0 c1 ?_
    have t4 : (Int64.toInt a.toInt64) = (Int32.toInt a) := i2l_z rfl
    have d5 := c_nlt (x := (Int64.toInt a.toInt64)) (y := 0) rfl rfl c1
    by_cases c6 : 0 < (lg_cmp a.toInt64 7)
    · refine br1 c6 ?_
      have d7 := c_gt (x := (Int64.toInt a.toInt64)) (y := 7) rfl rfl c6
      refine br1 (by decide) ?_
      exact hq _ _ trivial
    · refine br0 c6 ?_
      have d8 := c_ngt (x := (Int64.toInt a.toInt64)) (y := 7) rfl rfl c6
      refine br0 (by decide) ?_
      refine s_X12_dinBut a 0 (f_row) ⟨by omega, by omega⟩ h_f_row (fun r9 H10 => ?_)
      have j11 := H10
      exact hq _ _ trivial


set_option maxRecDepth 100000 in
theorem s_X12_heard (a : Int32) (b : Int32) (f_refusals : Nat → Int32) (f_row : Nat → Int32) (h_f_row : RLW f_row) {Q : Int32 → (Int32 × Int32 × (Nat → Int32) × (Nat → Int32)) → Prop} (hq : ∀ (r : Int32) (u_0 : Int32) (u_1 : Int32) (u_2 : Nat → Int32) (u_3 : Nat → Int32), (RLW u_3) → Q r (u_0, u_1, u_2, u_3)) : wp_X12_heard a b f_refusals f_row Q := by
  unfold wp_X12_heard
  refine o_X12_isColumn _ _ ?_
  refine o_X12_in _ _ _ _ ?_
  by_cases c1 : (lg_cmp a.toInt64 0) < 0
  · refine br1 c1 ?_
    have t2 : (Int64.toInt a.toInt64) = (Int32.toInt a) := i2l_z rfl
    have d3 := c_lt (x := (Int64.toInt a.toInt64)) (y := 0) rfl rfl c1
    refine br1 (by decide) ?_
    refine o_X12_tell _ _ _ ?_
    refine jn_s ?_
    refine br0 (by decide) ?_
    refine br0 (by decide) ?_
    refine ⟨by unfold vp_in; decide, ?_⟩
    refine ⟨by unfold vp_in; decide, ?_⟩
    refine un2_i ?_
    exact hq _ _ _ _ _ h_f_row
  · refine br0 c1 ?_
    have t4 : (Int64.toInt a.toInt64) = (Int32.toInt a) := i2l_z rfl
    have d5 := c_nlt (x := (Int64.toInt a.toInt64)) (y := 0) rfl rfl c1
    by_cases c6 : 0 < (lg_cmp a.toInt64 7)
    · refine br1 c6 ?_
      have d7 := c_gt (x := (Int64.toInt a.toInt64)) (y := 7) rfl rfl c6
      refine br1 (by decide) ?_
      refine o_X12_tell _ _ _ ?_
      refine jn_s ?_
      refine br0 (by decide) ?_
      refine br0 (by decide) ?_
      refine ⟨by unfold vp_in; decide, ?_⟩
      refine ⟨by unfold vp_in; decide, ?_⟩
      refine un2_i ?_
      exact hq _ _ _ _ _ h_f_row
    · refine br0 c6 ?_
      have d8 := c_ngt (x := (Int64.toInt a.toInt64)) (y := 7) rfl rfl c6
      refine br0 (by decide) ?_
      refine o_X12_in _ _ _ _ ?_
      by_cases c9 : (lg_cmp b.toInt64 0) < 0
      · refine br1 c9 ?_
        have t10 : (Int64.toInt b.toInt64) = (Int32.toInt b) := i2l_z rfl
        have d11 := c_lt (x := (Int64.toInt b.toInt64)) (y := 0) rfl rfl c9
        refine br1 (by decide) ?_
        refine o_X12_tell _ _ _ ?_
        refine jn_s ?_
        refine br0 (by decide) ?_
        refine br0 (by decide) ?_
        refine ⟨by unfold vp_in; decide, ?_⟩
        refine ⟨by unfold vp_in; decide, ?_⟩
        refine un2_i ?_
        exact hq _ _ _ _ _ h_f_row
      · refine br0 c9 ?_
        have t12 : (Int64.toInt b.toInt64) = (Int32.toInt b) := i2l_z rfl
        have d13 := c_nlt (x := (Int64.toInt b.toInt64)) (y := 0) rfl rfl c9
        by_cases c14 : 0 < (lg_cmp b.toInt64 99)
        · refine br1 c14 ?_
          have d15 := c_gt (x := (Int64.toInt b.toInt64)) (y := 99) rfl rfl c14
          refine br1 (by decide) ?_
          refine o_X12_tell _ _ _ ?_
          refine jn_s ?_
          refine br0 (by decide) ?_
          refine br0 (by decide) ?_
          refine ⟨by unfold vp_in; decide, ?_⟩
          refine ⟨by unfold vp_in; decide, ?_⟩
          refine un2_i ?_
          exact hq _ _ _ _ _ h_f_row
        · refine br0 c14 ?_
          have d16 := c_ngt (x := (Int64.toInt b.toInt64)) (y := 99) rfl rfl c14
          refine br0 (by decide) ?_
          by_cases c17 : (f_row (3 : Int32).toNatClampNeg) = 8
          · refine br1 c17 ?_
            have g18 : 0 ≤ (Int32.toInt (f_row (3 : Int32).toNatClampNeg)) ∧ (Int32.toInt (f_row (3 : Int32).toNatClampNeg)) ≤ 8 := RLW.at_3 h_f_row (rfl : ((3 : Nat) : Int) = 3) (by omega) (by omega)
            have d19 := eq_z (x := (Int32.toInt (f_row (3 : Int32).toNatClampNeg))) (y := 8) rfl rfl c17
            refine o_X12_tell _ _ _ ?_
            refine jn_s ?_
            refine br0 (by decide) ?_
            refine br0 (by decide) ?_
            refine ⟨by unfold vp_in; decide, ?_⟩
            refine ⟨by unfold vp_in; decide, ?_⟩
            refine un2_i ?_
            exact hq _ _ _ _ _ h_f_row
          · refine br0 c17 ?_
            have g20 : 0 ≤ (Int32.toInt (f_row (3 : Int32).toNatClampNeg)) ∧ (Int32.toInt (f_row (3 : Int32).toNatClampNeg)) ≤ 8 := RLW.at_3 h_f_row (rfl : ((3 : Nat) : Int) = 3) (by omega) (by omega)
            have d21 := ne_z (x := (Int32.toInt (f_row (3 : Int32).toNatClampNeg))) (y := 8) rfl rfl c17
            have t22 : (Int32.toInt (2 * (f_row (3 : Int32).toNatClampNeg))) = 2 * (Int32.toInt (f_row (3 : Int32).toNatClampNeg)) := mul_z rfl rfl (by omega) (by omega)
            have t23 : (Int32.toInt (210 + (2 * (f_row (3 : Int32).toNatClampNeg)))) = 210 + (Int32.toInt (2 * (f_row (3 : Int32).toNatClampNeg))) := add_z rfl rfl (by omega) (by omega)
            refine ⟨vpi (x := (Int32.toInt (210 + (2 * (f_row (3 : Int32).toNatClampNeg))))) rfl (by omega) (by omega), ?_⟩
            have t24 : (Int32.toInt ((210 + (2 * (f_row (3 : Int32).toNatClampNeg))) + 1)) = (Int32.toInt (210 + (2 * (f_row (3 : Int32).toNatClampNeg)))) + 1 := add_z rfl rfl (by omega) (by omega)
            refine ⟨vpi (x := (Int32.toInt ((210 + (2 * (f_row (3 : Int32).toNatClampNeg))) + 1))) rfl (by omega) (by omega), ?_⟩
            refine o_X12_tell _ _ _ ?_
            refine jn_s ?_
            have t25 : (Int32.toInt ((f_row (3 : Int32).toNatClampNeg) + 1)) = (Int32.toInt (f_row (3 : Int32).toNatClampNeg)) + 1 := add_z rfl rfl (by omega) (by omega)
            refine br1 (z_le (x := 0) (y := (Int32.toInt ((f_row (3 : Int32).toNatClampNeg) + 1))) rfl rfl (by omega)) ?_
            refine br1 (z_le (x := 0) (y := (Int32.toInt ((f_row (3 : Int32).toNatClampNeg) + 1))) rfl rfl (by omega)) ?_
            refine un2_i ?_
            have R26 : RLW (upd f_row (210 + (2 * (f_row (3 : Int32).toNatClampNeg))).toNatClampNeg a) := RLW.up_210 h_f_row (tnz (x := (Int32.toInt (210 + (2 * (f_row (3 : Int32).toNatClampNeg))))) rfl (by omega)) (by omega) (by omega) (w := (Int32.toInt a)) rfl (by omega) (by omega)
            have R27 : RLW (upd (upd f_row (210 + (2 * (f_row (3 : Int32).toNatClampNeg))).toNatClampNeg a) ((210 + (2 * (f_row (3 : Int32).toNatClampNeg))) + 1).toNatClampNeg b) := RLW.up_210 R26 (tnz (x := (Int32.toInt ((210 + (2 * (f_row (3 : Int32).toNatClampNeg))) + 1))) rfl (by omega)) (by omega) (by omega) (w := (Int32.toInt b)) rfl (by omega) (by omega)
            have t28 : (Int32.toInt ((upd f_row (210 + (2 * (f_row (3 : Int32).toNatClampNeg))).toNatClampNeg a) (3 : Int32).toNatClampNeg)) = (Int32.toInt (f_row (3 : Int32).toNatClampNeg)) := congrArg Int32.toInt (pk_un (ne_n (rfl : ((3 : Nat) : Int) = 3) (tnz (x := (Int32.toInt (210 + (2 * (f_row (3 : Int32).toNatClampNeg))))) rfl (by omega)) (by omega)))
            have t29 : (Int32.toInt ((upd (upd f_row (210 + (2 * (f_row (3 : Int32).toNatClampNeg))).toNatClampNeg a) ((210 + (2 * (f_row (3 : Int32).toNatClampNeg))) + 1).toNatClampNeg b) (3 : Int32).toNatClampNeg)) = (Int32.toInt ((upd f_row (210 + (2 * (f_row (3 : Int32).toNatClampNeg))).toNatClampNeg a) (3 : Int32).toNatClampNeg)) := congrArg Int32.toInt (pk_un (ne_n (rfl : ((3 : Nat) : Int) = 3) (tnz (x := (Int32.toInt ((210 + (2 * (f_row (3 : Int32).toNatClampNeg))) + 1))) rfl (by omega)) (by omega)))
            have t30 : (Int32.toInt (((upd (upd f_row (210 + (2 * (f_row (3 : Int32).toNatClampNeg))).toNatClampNeg a) ((210 + (2 * (f_row (3 : Int32).toNatClampNeg))) + 1).toNatClampNeg b) (3 : Int32).toNatClampNeg) + 1)) = (Int32.toInt ((upd (upd f_row (210 + (2 * (f_row (3 : Int32).toNatClampNeg))).toNatClampNeg a) ((210 + (2 * (f_row (3 : Int32).toNatClampNeg))) + 1).toNatClampNeg b) (3 : Int32).toNatClampNeg)) + 1 := add_z rfl rfl (by omega) (by omega)
            have R31 : RLW (upd (upd (upd f_row (210 + (2 * (f_row (3 : Int32).toNatClampNeg))).toNatClampNeg a) ((210 + (2 * (f_row (3 : Int32).toNatClampNeg))) + 1).toNatClampNeg b) 3 (((upd (upd f_row (210 + (2 * (f_row (3 : Int32).toNatClampNeg))).toNatClampNeg a) ((210 + (2 * (f_row (3 : Int32).toNatClampNeg))) + 1).toNatClampNeg b) (3 : Int32).toNatClampNeg) + 1)) := RLW.up_3 R27 (rfl : ((3 : Nat) : Int) = 3) (by omega) (by omega) (w := (Int32.toInt (((upd (upd f_row (210 + (2 * (f_row (3 : Int32).toNatClampNeg))).toNatClampNeg a) ((210 + (2 * (f_row (3 : Int32).toNatClampNeg))) + 1).toNatClampNeg b) (3 : Int32).toNatClampNeg) + 1))) rfl (by omega) (by omega)
            exact hq _ _ _ _ _ R31


set_option maxRecDepth 100000 in
theorem s_X12_forget (f_row : Nat → Int32) (h_f_row : RLW f_row) {Q : Int32 → (Int32 × (Nat → Int32)) → Prop} (hq : ∀ (r : Int32) (u_0 : Int32) (u_1 : Nat → Int32), (RLW u_1) → Q r (u_0, u_1)) : wp_X12_forget f_row Q := by
  unfold wp_X12_forget
  have g1 : 0 ≤ (Int32.toInt (f_row (3 : Int32).toNatClampNeg)) ∧ (Int32.toInt (f_row (3 : Int32).toNatClampNeg)) ≤ 8 := RLW.at_3 h_f_row (rfl : ((3 : Nat) : Int) = 3) (by omega) (by omega)
  have g2 : 0 ≤ (Int32.toInt (f_row (4 : Int32).toNatClampNeg)) ∧ (Int32.toInt (f_row (4 : Int32).toNatClampNeg)) ≤ 10 := RLW.at_4 h_f_row (rfl : ((4 : Nat) : Int) = 4) (by omega) (by omega)
  have t3 : (Int32.toInt ((f_row (3 : Int32).toNatClampNeg) + (f_row (4 : Int32).toNatClampNeg))) = (Int32.toInt (f_row (3 : Int32).toNatClampNeg)) + (Int32.toInt (f_row (4 : Int32).toNatClampNeg)) := add_z rfl rfl (by omega) (by omega)
  have R4 : RLW (upd f_row 3 0) := RLW.up_3 h_f_row (rfl : ((3 : Nat) : Int) = 3) (by omega) (by omega) (w := 0) rfl (by omega) (by omega)
  have R5 : RLW (upd (upd f_row 3 0) 4 0) := RLW.up_4 R4 (rfl : ((4 : Nat) : Int) = 4) (by omega) (by omega) (w := 0) rfl (by omega) (by omega)
  exact hq _ _ _ R5


set_option maxRecDepth 100000 in
theorem s_X12_well (a : Int32) (b : Int32) (f_refusals : Nat → Int32) (f_row : Nat → Int32) (h_f_row : RLW f_row) {Q : Int32 → (Int32 × Int32 × (Nat → Int32) × (Nat → Int32)) → Prop} (hq : ∀ (r : Int32) (u_0 : Int32) (u_1 : Int32) (u_2 : Nat → Int32) (u_3 : Nat → Int32), (RLW u_3) → Q r (u_0, u_1, u_2, u_3)) : wp_X12_well a b f_refusals f_row Q := by
  unfold wp_X12_well
  refine o_X12_in _ _ _ _ ?_
  by_cases c1 : (lg_cmp a.toInt64 0) < 0
  · refine br1 c1 ?_
    have t2 : (Int64.toInt a.toInt64) = (Int32.toInt a) := i2l_z rfl
    have d3 := c_lt (x := (Int64.toInt a.toInt64)) (y := 0) rfl rfl c1
    refine br1 (by decide) ?_
    refine o_X12_tell _ _ _ ?_
    refine jn_s ?_
    refine br0 (by decide) ?_
    refine br0 (by decide) ?_
    refine ⟨by unfold vp_in; decide, ?_⟩
    refine ⟨by unfold vp_in; decide, ?_⟩
    refine un2_i ?_
    exact hq _ _ _ _ _ h_f_row
  · refine br0 c1 ?_
    have t4 : (Int64.toInt a.toInt64) = (Int32.toInt a) := i2l_z rfl
    have d5 := c_nlt (x := (Int64.toInt a.toInt64)) (y := 0) rfl rfl c1
    by_cases c6 : 0 < (lg_cmp a.toInt64 63)
    · refine br1 c6 ?_
      have d7 := c_gt (x := (Int64.toInt a.toInt64)) (y := 63) rfl rfl c6
      refine br1 (by decide) ?_
      refine o_X12_tell _ _ _ ?_
      refine jn_s ?_
      refine br0 (by decide) ?_
      refine br0 (by decide) ?_
      refine ⟨by unfold vp_in; decide, ?_⟩
      refine ⟨by unfold vp_in; decide, ?_⟩
      refine un2_i ?_
      exact hq _ _ _ _ _ h_f_row
    · refine br0 c6 ?_
      have d8 := c_ngt (x := (Int64.toInt a.toInt64)) (y := 63) rfl rfl c6
      refine br0 (by decide) ?_
      refine o_X12_in _ _ _ _ ?_
      by_cases c9 : (lg_cmp b.toInt64 0) < 0
      · refine br1 c9 ?_
        have t10 : (Int64.toInt b.toInt64) = (Int32.toInt b) := i2l_z rfl
        have d11 := c_lt (x := (Int64.toInt b.toInt64)) (y := 0) rfl rfl c9
        refine br1 (by decide) ?_
        refine o_X12_tell _ _ _ ?_
        refine jn_s ?_
        refine br0 (by decide) ?_
        refine br0 (by decide) ?_
        refine ⟨by unfold vp_in; decide, ?_⟩
        refine ⟨by unfold vp_in; decide, ?_⟩
        refine un2_i ?_
        exact hq _ _ _ _ _ h_f_row
      · refine br0 c9 ?_
        have t12 : (Int64.toInt b.toInt64) = (Int32.toInt b) := i2l_z rfl
        have d13 := c_nlt (x := (Int64.toInt b.toInt64)) (y := 0) rfl rfl c9
        by_cases c14 : 0 < (lg_cmp b.toInt64 1)
        · refine br1 c14 ?_
          have d15 := c_gt (x := (Int64.toInt b.toInt64)) (y := 1) rfl rfl c14
          refine br1 (by decide) ?_
          refine o_X12_tell _ _ _ ?_
          refine jn_s ?_
          refine br0 (by decide) ?_
          refine br0 (by decide) ?_
          refine ⟨by unfold vp_in; decide, ?_⟩
          refine ⟨by unfold vp_in; decide, ?_⟩
          refine un2_i ?_
          exact hq _ _ _ _ _ h_f_row
        · refine br0 c14 ?_
          have d16 := c_ngt (x := (Int64.toInt b.toInt64)) (y := 1) rfl rfl c14
          refine br0 (by decide) ?_
          by_cases c17 : (f_row (4 : Int32).toNatClampNeg) = 10
          · refine br1 c17 ?_
            have g18 : 0 ≤ (Int32.toInt (f_row (4 : Int32).toNatClampNeg)) ∧ (Int32.toInt (f_row (4 : Int32).toNatClampNeg)) ≤ 10 := RLW.at_4 h_f_row (rfl : ((4 : Nat) : Int) = 4) (by omega) (by omega)
            have d19 := eq_z (x := (Int32.toInt (f_row (4 : Int32).toNatClampNeg))) (y := 10) rfl rfl c17
            refine o_X12_tell _ _ _ ?_
            refine jn_s ?_
            refine br0 (by decide) ?_
            refine br0 (by decide) ?_
            refine ⟨by unfold vp_in; decide, ?_⟩
            refine ⟨by unfold vp_in; decide, ?_⟩
            refine un2_i ?_
            exact hq _ _ _ _ _ h_f_row
          · refine br0 c17 ?_
            have g20 : 0 ≤ (Int32.toInt (f_row (4 : Int32).toNatClampNeg)) ∧ (Int32.toInt (f_row (4 : Int32).toNatClampNeg)) ≤ 10 := RLW.at_4 h_f_row (rfl : ((4 : Nat) : Int) = 4) (by omega) (by omega)
            have d21 := ne_z (x := (Int32.toInt (f_row (4 : Int32).toNatClampNeg))) (y := 10) rfl rfl c17
            have t22 : (Int32.toInt (2 * (f_row (4 : Int32).toNatClampNeg))) = 2 * (Int32.toInt (f_row (4 : Int32).toNatClampNeg)) := mul_z rfl rfl (by omega) (by omega)
            have t23 : (Int32.toInt (226 + (2 * (f_row (4 : Int32).toNatClampNeg)))) = 226 + (Int32.toInt (2 * (f_row (4 : Int32).toNatClampNeg))) := add_z rfl rfl (by omega) (by omega)
            refine ⟨vpi (x := (Int32.toInt (226 + (2 * (f_row (4 : Int32).toNatClampNeg))))) rfl (by omega) (by omega), ?_⟩
            have t24 : (Int32.toInt ((226 + (2 * (f_row (4 : Int32).toNatClampNeg))) + 1)) = (Int32.toInt (226 + (2 * (f_row (4 : Int32).toNatClampNeg)))) + 1 := add_z rfl rfl (by omega) (by omega)
            refine ⟨vpi (x := (Int32.toInt ((226 + (2 * (f_row (4 : Int32).toNatClampNeg))) + 1))) rfl (by omega) (by omega), ?_⟩
            refine o_X12_tell _ _ _ ?_
            refine jn_s ?_
            have t25 : (Int32.toInt ((f_row (4 : Int32).toNatClampNeg) + 1)) = (Int32.toInt (f_row (4 : Int32).toNatClampNeg)) + 1 := add_z rfl rfl (by omega) (by omega)
            refine br1 (z_le (x := 0) (y := (Int32.toInt ((f_row (4 : Int32).toNatClampNeg) + 1))) rfl rfl (by omega)) ?_
            refine br1 (z_le (x := 0) (y := (Int32.toInt ((f_row (4 : Int32).toNatClampNeg) + 1))) rfl rfl (by omega)) ?_
            refine un2_i ?_
            have R26 : RLW (upd f_row (226 + (2 * (f_row (4 : Int32).toNatClampNeg))).toNatClampNeg a) := RLW.up_226 h_f_row (tnz (x := (Int32.toInt (226 + (2 * (f_row (4 : Int32).toNatClampNeg))))) rfl (by omega)) (by omega) (by omega) (w := (Int32.toInt a)) rfl (by omega) (by omega)
            have R27 : RLW (upd (upd f_row (226 + (2 * (f_row (4 : Int32).toNatClampNeg))).toNatClampNeg a) ((226 + (2 * (f_row (4 : Int32).toNatClampNeg))) + 1).toNatClampNeg b) := RLW.up_226 R26 (tnz (x := (Int32.toInt ((226 + (2 * (f_row (4 : Int32).toNatClampNeg))) + 1))) rfl (by omega)) (by omega) (by omega) (w := (Int32.toInt b)) rfl (by omega) (by omega)
            have t28 : (Int32.toInt ((upd f_row (226 + (2 * (f_row (4 : Int32).toNatClampNeg))).toNatClampNeg a) (4 : Int32).toNatClampNeg)) = (Int32.toInt (f_row (4 : Int32).toNatClampNeg)) := congrArg Int32.toInt (pk_un (ne_n (rfl : ((4 : Nat) : Int) = 4) (tnz (x := (Int32.toInt (226 + (2 * (f_row (4 : Int32).toNatClampNeg))))) rfl (by omega)) (by omega)))
            have t29 : (Int32.toInt ((upd (upd f_row (226 + (2 * (f_row (4 : Int32).toNatClampNeg))).toNatClampNeg a) ((226 + (2 * (f_row (4 : Int32).toNatClampNeg))) + 1).toNatClampNeg b) (4 : Int32).toNatClampNeg)) = (Int32.toInt ((upd f_row (226 + (2 * (f_row (4 : Int32).toNatClampNeg))).toNatClampNeg a) (4 : Int32).toNatClampNeg)) := congrArg Int32.toInt (pk_un (ne_n (rfl : ((4 : Nat) : Int) = 4) (tnz (x := (Int32.toInt ((226 + (2 * (f_row (4 : Int32).toNatClampNeg))) + 1))) rfl (by omega)) (by omega)))
            have t30 : (Int32.toInt (((upd (upd f_row (226 + (2 * (f_row (4 : Int32).toNatClampNeg))).toNatClampNeg a) ((226 + (2 * (f_row (4 : Int32).toNatClampNeg))) + 1).toNatClampNeg b) (4 : Int32).toNatClampNeg) + 1)) = (Int32.toInt ((upd (upd f_row (226 + (2 * (f_row (4 : Int32).toNatClampNeg))).toNatClampNeg a) ((226 + (2 * (f_row (4 : Int32).toNatClampNeg))) + 1).toNatClampNeg b) (4 : Int32).toNatClampNeg)) + 1 := add_z rfl rfl (by omega) (by omega)
            have R31 : RLW (upd (upd (upd f_row (226 + (2 * (f_row (4 : Int32).toNatClampNeg))).toNatClampNeg a) ((226 + (2 * (f_row (4 : Int32).toNatClampNeg))) + 1).toNatClampNeg b) 4 (((upd (upd f_row (226 + (2 * (f_row (4 : Int32).toNatClampNeg))).toNatClampNeg a) ((226 + (2 * (f_row (4 : Int32).toNatClampNeg))) + 1).toNatClampNeg b) (4 : Int32).toNatClampNeg) + 1)) := RLW.up_4 R27 (rfl : ((4 : Nat) : Int) = 4) (by omega) (by omega) (w := (Int32.toInt (((upd (upd f_row (226 + (2 * (f_row (4 : Int32).toNatClampNeg))).toNatClampNeg a) ((226 + (2 * (f_row (4 : Int32).toNatClampNeg))) + 1).toNatClampNeg b) (4 : Int32).toNatClampNeg) + 1))) rfl (by omega) (by omega)
            exact hq _ _ _ _ _ R31


set_option maxRecDepth 100000 in
theorem sl_X12_dugCells_4 (f_row : Nat → Int32) (h_f_row : RLW f_row) (Qb : Int32 → Int32 → Prop) (KX : ∀ (x_4_0 : Int32) (x_4_1 : Int32), (40 ≤ x_4_0.toInt ∧ x_4_0.toInt ≤ 40) ∧ (0 ≤ x_4_1.toInt ∧ x_4_1.toInt ≤ 40) ∧ (x_4_1.toInt ≤ x_4_0.toInt) → Qb x_4_0 x_4_1) : ∀ (n : Nat) (x_4_0 : Int32) (x_4_1 : Int32), (0 ≤ x_4_0.toInt ∧ x_4_0.toInt ≤ 40) ∧ (0 ≤ x_4_1.toInt ∧ x_4_1.toInt ≤ 40) ∧ (x_4_1.toInt ≤ x_4_0.toInt) → 41 - x_4_0.toInt < (n : Int) → wl_X12_dugCells_4 f_row Qb n x_4_0 x_4_1 := by
  intro n
  induction n with
  | zero =>
    intro x_4_0 x_4_1 hI hm
    exfalso; have hm : 41 - x_4_0.toInt < 0 := hm; omega
  | succ n ih =>
    intro x_4_0 x_4_1 hI hm
    have hm : 41 - x_4_0.toInt < (n : Int) + 1 := by simpa using hm
    have h_x_4_0 := hI.1
    have h_x_4_1 := hI.2.1
    have h_rel0 := hI.2.2
    unfold wl_X12_dugCells_4
    by_cases c1 : 40 ≤ x_4_0
    · refine br1 c1 ?_
      have d2 := le_z (x := 40) (y := (Int32.toInt x_4_0)) rfl rfl c1
      exact KX _ _ ⟨⟨by omega, by omega⟩, ⟨by omega, by omega⟩, (by omega)⟩
    · refine br0 c1 ?_
      have d3 := nle_z (x := 40) (y := (Int32.toInt x_4_0)) rfl rfl c1
      have t4 : (Int32.toInt (33 + x_4_0)) = 33 + (Int32.toInt x_4_0) := add_z rfl rfl (by omega) (by omega)
      refine ⟨vpi (x := (Int32.toInt (33 + x_4_0))) rfl (by omega) (by omega), ?_⟩
      have t5 : (Int32.toInt (x_4_0 + 1)) = (Int32.toInt x_4_0) + 1 := add_z rfl rfl (by omega) (by omega)
      have g6 : 0 ≤ (Int32.toInt (f_row (33 + x_4_0).toNatClampNeg)) ∧ (Int32.toInt (f_row (33 + x_4_0).toNatClampNeg)) ≤ 1 := RLW.at_33 h_f_row (tnz (x := (Int32.toInt (33 + x_4_0))) rfl (by omega)) (by omega) (by omega)
      have t7 : (Int32.toInt (x_4_1 + (f_row (33 + x_4_0).toNatClampNeg))) = (Int32.toInt x_4_1) + (Int32.toInt (f_row (33 + x_4_0).toNatClampNeg)) := add_z rfl rfl (by omega) (by omega)
      exact ih _ _ ⟨⟨by omega, by omega⟩, ⟨by omega, by omega⟩, (by omega)⟩ (by omega)
set_option maxRecDepth 100000 in
theorem s_X12_dugCells (f_row : Nat → Int32) (h_f_row : RLW f_row) {Q : Int32 → Prop} (hq : ∀ (r : Int32), (0 ≤ r.toInt ∧ r.toInt ≤ 40) → Q r) : wp_X12_dugCells f_row Q := by
  unfold wp_X12_dugCells
  have k3 : Int32.toInt 0 = 0 := rfl
  refine sl_X12_dugCells_4 (f_row) h_f_row _ (fun x1_0 x1_1 X2 => ?_) 1000000000000 0 0 ⟨(by decide), (by decide), (by omega)⟩ (by omega)
  have j4 := X2.1
  have j5 := X2.2.1
  have j6 := X2.2.2
  exact hq _ ⟨by omega, by omega⟩


set_option maxRecDepth 100000 in
theorem s_X12_count (a : Int32) (h0_nUndo : Int32) (h0_taped : Int32) (f_row : Nat → Int32) (f_refusals : Nat → Int32) (h_h0_nUndo : 0 ≤ h0_nUndo.toInt ∧ h0_nUndo.toInt ≤ 16) (h_h0_taped : 0 ≤ h0_taped.toInt ∧ h0_taped.toInt ≤ 400) (h_f_row : RLW f_row) {Q : Int32 → Int32 → Prop} (hq : ∀ (r : Int32) (u : Int32), True → Q r u) : wp_X12_count a h0_nUndo h0_taped f_row f_refusals Q := by
  unfold wp_X12_count
  by_cases c1 : a = 0
  · refine br1 c1 ?_
    have d2 := eq_z (x := (Int32.toInt a)) (y := 0) rfl rfl c1
    have g3 : 0 ≤ (Int32.toInt (f_row (0 : Int32).toNatClampNeg)) ∧ (Int32.toInt (f_row (0 : Int32).toNatClampNeg)) ≤ 6 := RLW.at_0 h_f_row (rfl : ((0 : Nat) : Int) = 0) (by omega) (by omega)
    exact hq _ _ trivial
  · refine br0 c1 ?_
    have d4 := ne_z (x := (Int32.toInt a)) (y := 0) rfl rfl c1
    by_cases c5 : a = 1
    · refine br1 c5 ?_
      have d6 := eq_z (x := (Int32.toInt a)) (y := 1) rfl rfl c5
      have g7 : 0 ≤ (Int32.toInt (f_row (1 : Int32).toNatClampNeg)) ∧ (Int32.toInt (f_row (1 : Int32).toNatClampNeg)) ≤ 5 := RLW.at_1 h_f_row (rfl : ((1 : Nat) : Int) = 1) (by omega) (by omega)
      exact hq _ _ trivial
    · refine br0 c5 ?_
      have d8 := ne_z (x := (Int32.toInt a)) (y := 1) rfl rfl c5
      by_cases c9 : a = 2
      · refine br1 c9 ?_
        have d10 := eq_z (x := (Int32.toInt a)) (y := 2) rfl rfl c9
        have g11 : 0 ≤ (Int32.toInt (f_row (2 : Int32).toNatClampNeg)) ∧ (Int32.toInt (f_row (2 : Int32).toNatClampNeg)) ≤ 6 := RLW.at_2 h_f_row (rfl : ((2 : Nat) : Int) = 2) (by omega) (by omega)
        exact hq _ _ trivial
      · refine br0 c9 ?_
        have d12 := ne_z (x := (Int32.toInt a)) (y := 2) rfl rfl c9
        by_cases c13 : a = 3
        · refine br1 c13 ?_
          have d14 := eq_z (x := (Int32.toInt a)) (y := 3) rfl rfl c13
          refine s_X12_dugCells (f_row) h_f_row (fun r15 H16 => ?_)
          have j17 := H16
          exact hq _ _ trivial
        · refine br0 c13 ?_
          have d18 := ne_z (x := (Int32.toInt a)) (y := 3) rfl rfl c13
          by_cases c19 : a = 4
          · refine br1 c19 ?_
            have d20 := eq_z (x := (Int32.toInt a)) (y := 4) rfl rfl c19
            have g21 : 0 ≤ (Int32.toInt (f_row (3 : Int32).toNatClampNeg)) ∧ (Int32.toInt (f_row (3 : Int32).toNatClampNeg)) ≤ 8 := RLW.at_3 h_f_row (rfl : ((3 : Nat) : Int) = 3) (by omega) (by omega)
            exact hq _ _ trivial
          · refine br0 c19 ?_
            have d22 := ne_z (x := (Int32.toInt a)) (y := 4) rfl rfl c19
            by_cases c23 : a = 5
            · refine br1 c23 ?_
              have d24 := eq_z (x := (Int32.toInt a)) (y := 5) rfl rfl c23
              have g25 : 0 ≤ (Int32.toInt (f_row (4 : Int32).toNatClampNeg)) ∧ (Int32.toInt (f_row (4 : Int32).toNatClampNeg)) ≤ 10 := RLW.at_4 h_f_row (rfl : ((4 : Nat) : Int) = 4) (by omega) (by omega)
              exact hq _ _ trivial
            · refine br0 c23 ?_
              have d26 := ne_z (x := (Int32.toInt a)) (y := 5) rfl rfl c23
              by_cases c27 : a = 6
              · refine br1 c27 ?_
                have d28 := eq_z (x := (Int32.toInt a)) (y := 6) rfl rfl c27
                have g29 : 0 ≤ (Int32.toInt (f_row (5 : Int32).toNatClampNeg)) ∧ (Int32.toInt (f_row (5 : Int32).toNatClampNeg)) ≤ 6 := RLW.at_5 h_f_row (rfl : ((5 : Nat) : Int) = 5) (by omega) (by omega)
                exact hq _ _ trivial
              · refine br0 c27 ?_
                have d30 := ne_z (x := (Int32.toInt a)) (y := 6) rfl rfl c27
                by_cases c31 : a = 7
                · refine br1 c31 ?_
                  have d32 := eq_z (x := (Int32.toInt a)) (y := 7) rfl rfl c31
                  exact hq _ _ trivial
                · refine br0 c31 ?_
                  have d33 := ne_z (x := (Int32.toInt a)) (y := 7) rfl rfl c31
                  by_cases c34 : a = 8
                  · refine br1 c34 ?_
                    have d35 := eq_z (x := (Int32.toInt a)) (y := 8) rfl rfl c34
                    exact hq _ _ trivial
                  · refine br0 c34 ?_
                    have d36 := ne_z (x := (Int32.toInt a)) (y := 8) rfl rfl c34
                    by_cases c37 : a = 9
                    · refine br1 c37 ?_
                      have d38 := eq_z (x := (Int32.toInt a)) (y := 9) rfl rfl c37
                      exact hq _ _ trivial
                    · refine br0 c37 ?_
                      have d39 := ne_z (x := (Int32.toInt a)) (y := 9) rfl rfl c37
                      by_cases c40 : a = 10
                      · refine br1 c40 ?_
                        have d41 := eq_z (x := (Int32.toInt a)) (y := 10) rfl rfl c40
                        exact hq _ _ trivial
                      · refine br0 c40 ?_
                        have d42 := ne_z (x := (Int32.toInt a)) (y := 10) rfl rfl c40
                        by_cases c43 : a = 11
                        · refine br1 c43 ?_
                          have d44 := eq_z (x := (Int32.toInt a)) (y := 11) rfl rfl c43
                          exact hq _ _ trivial
                        · refine br0 c43 ?_
                          have d45 := ne_z (x := (Int32.toInt a)) (y := 11) rfl rfl c43
                          by_cases c46 : a = 12
                          · refine br1 c46 ?_
                            have d47 := eq_z (x := (Int32.toInt a)) (y := 12) rfl rfl c46
                            exact hq _ _ trivial
                          · refine br0 c46 ?_
                            have d48 := ne_z (x := (Int32.toInt a)) (y := 12) rfl rfl c46
                            by_cases c49 : a = 13
                            · refine br1 c49 ?_
                              have d50 := eq_z (x := (Int32.toInt a)) (y := 13) rfl rfl c49
                              exact hq _ _ trivial
                            · refine br0 c49 ?_
                              have d51 := ne_z (x := (Int32.toInt a)) (y := 13) rfl rfl c49
                              by_cases c52 : a = 14
                              · refine br1 c52 ?_
                                have d53 := eq_z (x := (Int32.toInt a)) (y := 14) rfl rfl c52
                                have g54 : (-1) ≤ (Int32.toInt (f_row (6 : Int32).toNatClampNeg)) ∧ (Int32.toInt (f_row (6 : Int32).toNatClampNeg)) ≤ 5 := RLW.at_6 h_f_row (rfl : ((6 : Nat) : Int) = 6) (by omega) (by omega)
                                exact hq _ _ trivial
                              · refine br0 c52 ?_
                                have d55 := ne_z (x := (Int32.toInt a)) (y := 14) rfl rfl c52
                                refine o_X12_in _ _ _ _ ?_
                                by_cases c56 : (lg_cmp a.toInt64 15) < 0
                                · refine br1 c56 ?_
                                  have t57 : (Int64.toInt a.toInt64) = (Int32.toInt a) := i2l_z rfl
                                  have d58 := c_lt (x := (Int64.toInt a.toInt64)) (y := 15) rfl rfl c56
                                  refine br1 (by decide) ?_
                                  exact hq _ _ trivial
                                · refine br0 c56 ?_
                                  have t59 : (Int64.toInt a.toInt64) = (Int32.toInt a) := i2l_z rfl
                                  have d60 := c_nlt (x := (Int64.toInt a.toInt64)) (y := 15) rfl rfl c56
                                  by_cases c61 : 0 < (lg_cmp a.toInt64 17)
                                  · refine br1 c61 ?_
                                    have d62 := c_gt (x := (Int64.toInt a.toInt64)) (y := 17) rfl rfl c61
                                    refine br1 (by decide) ?_
                                    exact hq _ _ trivial
                                  · refine br0 c61 ?_
                                    have d63 := c_ngt (x := (Int64.toInt a.toInt64)) (y := 17) rfl rfl c61
                                    refine br0 (by decide) ?_
                                    have t64 : (Int32.toInt (7 + a)) = 7 + (Int32.toInt a) := add_z rfl rfl (by omega) (by omega)
                                    have t65 : (Int32.toInt ((7 + a) - 15)) = (Int32.toInt (7 + a)) - 15 := sub_z rfl rfl (by omega) (by omega)
                                    refine ⟨vpi (x := (Int32.toInt ((7 + a) - 15))) rfl (by omega) (by omega), ?_⟩
                                    exact hq _ _ trivial


set_option maxRecDepth 100000 in
theorem s_X12_status (h0_status : Int32) {Q : Int32 → Int32 → Prop} (hq : ∀ (r : Int32) (u : Int32), True → Q r u) : wp_X12_status h0_status Q := by
  unfold wp_X12_status
  exact hq _ _ trivial


set_option maxRecDepth 100000 in
theorem s_X12_stopped (h0_stopped : Int32) {Q : Int32 → Int32 → Prop} (hq : ∀ (r : Int32) (u : Int32), True → Q r u) : wp_X12_stopped h0_stopped Q := by
  unfold wp_X12_stopped
  exact hq _ _ trivial


set_option maxRecDepth 100000 in
theorem s_X12_fault (h0_fault : Int32) {Q : Int32 → Int32 → Prop} (hq : ∀ (r : Int32) (u : Int32), True → Q r u) : wp_X12_fault h0_fault Q := by
  unfold wp_X12_fault
  exact hq _ _ trivial


set_option maxRecDepth 100000 in
theorem sl_X12_ones_4 (a : Int64) (Qb : Int32 → Int32 → Prop) (KX : ∀ (x_4_0 : Int32) (x_4_1 : Int32), (40 ≤ x_4_0.toInt ∧ x_4_0.toInt ≤ 40) ∧ (0 ≤ x_4_1.toInt ∧ x_4_1.toInt ≤ 40) ∧ (x_4_1.toInt ≤ x_4_0.toInt) → Qb x_4_0 x_4_1) : ∀ (n : Nat) (x_4_0 : Int32) (x_4_1 : Int32), (0 ≤ x_4_0.toInt ∧ x_4_0.toInt ≤ 40) ∧ (0 ≤ x_4_1.toInt ∧ x_4_1.toInt ≤ 40) ∧ (x_4_1.toInt ≤ x_4_0.toInt) → 41 - x_4_0.toInt < (n : Int) → wl_X12_ones_4 a Qb n x_4_0 x_4_1 := by
  intro n
  induction n with
  | zero =>
    intro x_4_0 x_4_1 hI hm
    exfalso; have hm : 41 - x_4_0.toInt < 0 := hm; omega
  | succ n ih =>
    intro x_4_0 x_4_1 hI hm
    have hm : 41 - x_4_0.toInt < (n : Int) + 1 := by simpa using hm
    have h_x_4_0 := hI.1
    have h_x_4_1 := hI.2.1
    have h_rel0 := hI.2.2
    unfold wl_X12_ones_4
    by_cases c1 : 40 ≤ x_4_0
    · refine br1 c1 ?_
      have d2 := le_z (x := 40) (y := (Int32.toInt x_4_0)) rfl rfl c1
      exact KX _ _ ⟨⟨by omega, by omega⟩, ⟨by omega, by omega⟩, (by omega)⟩
    · refine br0 c1 ?_
      have d3 := nle_z (x := 40) (y := (Int32.toInt x_4_0)) rfl rfl c1
      refine o_X12_is _ _ _ ?_
      by_cases c4 : (lg_cmp ((a >>> (x_4_0.toInt64 &&& 63)) &&& 1) 1) = 0
      · refine br1 c4 ?_
        have d5 := c_eq (x := (Int64.toInt ((a >>> (x_4_0.toInt64 &&& 63)) &&& 1))) (y := 1) rfl rfl c4
        refine br0 (by decide) ?_
        have t6 : (Int32.toInt (x_4_0 + 1)) = (Int32.toInt x_4_0) + 1 := add_z rfl rfl (by omega) (by omega)
        have t7 : (Int32.toInt (x_4_1 + 1)) = (Int32.toInt x_4_1) + 1 := add_z rfl rfl (by omega) (by omega)
        exact ih _ _ ⟨⟨by omega, by omega⟩, ⟨by omega, by omega⟩, (by omega)⟩ (by omega)
      · refine br0 c4 ?_
        have d8 := c_ne (x := (Int64.toInt ((a >>> (x_4_0.toInt64 &&& 63)) &&& 1))) (y := 1) rfl rfl c4
        refine br1 (by decide) ?_
        have t9 : (Int32.toInt (x_4_0 + 1)) = (Int32.toInt x_4_0) + 1 := add_z rfl rfl (by omega) (by omega)
        have t10 : (Int32.toInt (x_4_1 + 0)) = (Int32.toInt x_4_1) + 0 := add_z rfl rfl (by omega) (by omega)
        exact ih _ _ ⟨⟨by omega, by omega⟩, ⟨by omega, by omega⟩, (by omega)⟩ (by omega)
set_option maxRecDepth 100000 in
theorem s_X12_ones (a : Int64) {Q : Int32 → Prop} (hq : ∀ (r : Int32), (0 ≤ r.toInt ∧ r.toInt ≤ 40) → Q r) : wp_X12_ones a Q := by
  unfold wp_X12_ones
  have k3 : Int32.toInt 0 = 0 := rfl
  refine sl_X12_ones_4 a  _ (fun x1_0 x1_1 X2 => ?_) 1000000000000 0 0 ⟨(by decide), (by decide), (by omega)⟩ (by omega)
  have j4 := X2.1
  have j5 := X2.2.1
  have j6 := X2.2.2
  exact hq _ ⟨by omega, by omega⟩


set_option maxRecDepth 100000 in
theorem sl_X12_keepAll_2 (a : Int32) (f_row : Nat → Int32) (h_a : 0 ≤ a.toInt ∧ a.toInt ≤ 17) (h_f_row : RLW f_row) (Qb : Int32 → (Nat → Int32) → Prop) (KX : ∀ (x_2_0 : Int32) (x_2_1 : Nat → Int32), (106 ≤ x_2_0.toInt ∧ x_2_0.toInt ≤ 106) ∧ (UN x_2_1) → Qb x_2_0 x_2_1) : ∀ (n : Nat) (x_2_0 : Int32) (x_2_1 : Nat → Int32), (0 ≤ x_2_0.toInt ∧ x_2_0.toInt ≤ 106) ∧ (UN x_2_1) → 107 - x_2_0.toInt < (n : Int) → wl_X12_keepAll_2 a f_row Qb n x_2_0 x_2_1 := by
  intro n
  induction n with
  | zero =>
    intro x_2_0 x_2_1 hI hm
    exfalso; have hm : 107 - x_2_0.toInt < 0 := hm; omega
  | succ n ih =>
    intro x_2_0 x_2_1 hI hm
    have hm : 107 - x_2_0.toInt < (n : Int) + 1 := by simpa using hm
    have h_x_2_0 := hI.1
    have h_x_2_1 := hI.2
    unfold wl_X12_keepAll_2
    by_cases c1 : 106 ≤ x_2_0
    · refine br1 c1 ?_
      have d2 := le_z (x := 106) (y := (Int32.toInt x_2_0)) rfl rfl c1
      exact KX _ _ ⟨⟨by omega, by omega⟩, h_x_2_1⟩
    · refine br0 c1 ?_
      have d3 := nle_z (x := 106) (y := (Int32.toInt x_2_0)) rfl rfl c1
      have t4 : (Int32.toInt (7 + x_2_0)) = 7 + (Int32.toInt x_2_0) := add_z rfl rfl (by omega) (by omega)
      refine ⟨vpi (x := (Int32.toInt (7 + x_2_0))) rfl (by omega) (by omega), ?_⟩
      have t5 : (Int32.toInt (106 * a)) = 106 * (Int32.toInt a) := mul_z rfl rfl (by omega) (by omega)
      have t6 : (Int32.toInt ((106 * a) + x_2_0)) = (Int32.toInt (106 * a)) + (Int32.toInt x_2_0) := add_z rfl rfl (by omega) (by omega)
      refine ⟨vpi (x := (Int32.toInt ((106 * a) + x_2_0))) rfl (by omega) (by omega), ?_⟩
      have t7 : (Int32.toInt (x_2_0 + 1)) = (Int32.toInt x_2_0) + 1 := add_z rfl rfl (by omega) (by omega)
      have R8 : UN (upd x_2_1 ((106 * a) + x_2_0).toNatClampNeg (f_row (7 + x_2_0).toNatClampNeg)) := UN.cpR h_x_2_1 h_f_row (tnz (x := (Int32.toInt ((106 * a) + x_2_0))) rfl (by omega)) (tnz (x := (Int32.toInt (7 + x_2_0))) rfl (by omega)) (by omega) (by omega) (by omega) (by omega) (by omega)
      exact ih _ _ ⟨⟨by omega, by omega⟩, R8⟩ (by omega)
set_option maxRecDepth 100000 in
theorem s_X12_keepAll (a : Int32) (f_row : Nat → Int32) (f_undos : Nat → Int32) (h_a : 0 ≤ a.toInt ∧ a.toInt ≤ 17) (h_f_row : RLW f_row) (h_f_undos : UN f_undos) {Q : (Nat → Int32) → Prop} (hq : ∀ (u : Nat → Int32), (UN u) → Q u) : wp_X12_keepAll a f_row f_undos Q := by
  unfold wp_X12_keepAll
  have k3 : Int32.toInt 0 = 0 := rfl
  refine sl_X12_keepAll_2 a (f_row) ⟨by omega, by omega⟩ h_f_row _ (fun x1_0 x1_1 X2 => ?_) 1000000000000 0 (f_undos) ⟨(by decide), h_f_undos⟩ (by omega)
  have j4 := X2.1
  have j5 := X2.2
  exact hq _ j5


set_option maxRecDepth 100000 in
theorem sl_X12_putBack_2 (a : Int32) (f_undos : Nat → Int32) (h_a : 0 ≤ a.toInt ∧ a.toInt ≤ 17) (h_f_undos : UN f_undos) (Qb : Int32 → (Nat → Int32) → Prop) (KX : ∀ (x_2_0 : Int32) (x_2_1 : Nat → Int32), (106 ≤ x_2_0.toInt ∧ x_2_0.toInt ≤ 106) ∧ (RLW x_2_1) → Qb x_2_0 x_2_1) : ∀ (n : Nat) (x_2_0 : Int32) (x_2_1 : Nat → Int32), (0 ≤ x_2_0.toInt ∧ x_2_0.toInt ≤ 106) ∧ (RLW x_2_1) → 107 - x_2_0.toInt < (n : Int) → wl_X12_putBack_2 a f_undos Qb n x_2_0 x_2_1 := by
  intro n
  induction n with
  | zero =>
    intro x_2_0 x_2_1 hI hm
    exfalso; have hm : 107 - x_2_0.toInt < 0 := hm; omega
  | succ n ih =>
    intro x_2_0 x_2_1 hI hm
    have hm : 107 - x_2_0.toInt < (n : Int) + 1 := by simpa using hm
    have h_x_2_0 := hI.1
    have h_x_2_1 := hI.2
    unfold wl_X12_putBack_2
    by_cases c1 : 106 ≤ x_2_0
    · refine br1 c1 ?_
      have d2 := le_z (x := 106) (y := (Int32.toInt x_2_0)) rfl rfl c1
      exact KX _ _ ⟨⟨by omega, by omega⟩, h_x_2_1⟩
    · refine br0 c1 ?_
      have d3 := nle_z (x := 106) (y := (Int32.toInt x_2_0)) rfl rfl c1
      have t4 : (Int32.toInt (106 * a)) = 106 * (Int32.toInt a) := mul_z rfl rfl (by omega) (by omega)
      have t5 : (Int32.toInt ((106 * a) + x_2_0)) = (Int32.toInt (106 * a)) + (Int32.toInt x_2_0) := add_z rfl rfl (by omega) (by omega)
      refine ⟨vpi (x := (Int32.toInt ((106 * a) + x_2_0))) rfl (by omega) (by omega), ?_⟩
      have t6 : (Int32.toInt (7 + x_2_0)) = 7 + (Int32.toInt x_2_0) := add_z rfl rfl (by omega) (by omega)
      refine ⟨vpi (x := (Int32.toInt (7 + x_2_0))) rfl (by omega) (by omega), ?_⟩
      have t7 : (Int32.toInt (x_2_0 + 1)) = (Int32.toInt x_2_0) + 1 := add_z rfl rfl (by omega) (by omega)
      have R8 : RLW (upd x_2_1 (7 + x_2_0).toNatClampNeg (f_undos ((106 * a) + x_2_0).toNatClampNeg)) := RLW.cpU h_x_2_1 h_f_undos (tnz (x := (Int32.toInt (7 + x_2_0))) rfl (by omega)) (tnz (x := (Int32.toInt ((106 * a) + x_2_0))) rfl (by omega)) (by omega) (by omega) (by omega) (by omega)
      exact ih _ _ ⟨⟨by omega, by omega⟩, R8⟩ (by omega)
set_option maxRecDepth 100000 in
theorem s_X12_putBack (a : Int32) (f_undos : Nat → Int32) (f_row : Nat → Int32) (h_a : 0 ≤ a.toInt ∧ a.toInt ≤ 17) (h_f_undos : UN f_undos) (h_f_row : RLW f_row) {Q : (Nat → Int32) → Prop} (hq : ∀ (u : Nat → Int32), (RLW u) → Q u) : wp_X12_putBack a f_undos f_row Q := by
  unfold wp_X12_putBack
  have k3 : Int32.toInt 0 = 0 := rfl
  refine sl_X12_putBack_2 a (f_undos) ⟨by omega, by omega⟩ h_f_undos _ (fun x1_0 x1_1 X2 => ?_) 1000000000000 0 (f_row) ⟨(by decide), h_f_row⟩ (by omega)
  have j4 := X2.1
  have j5 := X2.2
  exact hq _ j5


set_option maxRecDepth 100000 in
theorem sl_X12_remember_11 (Qb : Int32 → (Nat → Int32) → Prop) (KX : ∀ (x_11_0 : Int32) (x_11_1 : Nat → Int32), (1590 ≤ x_11_0.toInt ∧ x_11_0.toInt ≤ 1590) ∧ (UN x_11_1) → Qb x_11_0 x_11_1) : ∀ (n : Nat) (x_11_0 : Int32) (x_11_1 : Nat → Int32), (0 ≤ x_11_0.toInt ∧ x_11_0.toInt ≤ 1590) ∧ (UN x_11_1) → 1591 - x_11_0.toInt < (n : Int) → wl_X12_remember_11 Qb n x_11_0 x_11_1 := by
  intro n
  induction n with
  | zero =>
    intro x_11_0 x_11_1 hI hm
    exfalso; have hm : 1591 - x_11_0.toInt < 0 := hm; omega
  | succ n ih =>
    intro x_11_0 x_11_1 hI hm
    have hm : 1591 - x_11_0.toInt < (n : Int) + 1 := by simpa using hm
    have h_x_11_0 := hI.1
    have h_x_11_1 := hI.2
    unfold wl_X12_remember_11
    by_cases c3 : 1590 ≤ x_11_0
    · refine br1 c3 ?_
      have d4 := le_z (x := 1590) (y := (Int32.toInt x_11_0)) rfl rfl c3
      exact KX _ _ ⟨⟨by omega, by omega⟩, h_x_11_1⟩
    · refine br0 c3 ?_
      have d5 := nle_z (x := 1590) (y := (Int32.toInt x_11_0)) rfl rfl c3
      have t6 : (Int32.toInt (x_11_0 + 106)) = (Int32.toInt x_11_0) + 106 := add_z rfl rfl (by omega) (by omega)
      refine ⟨vpi (x := (Int32.toInt (x_11_0 + 106))) rfl (by omega) (by omega), ?_⟩
      refine ⟨vpi (x := (Int32.toInt x_11_0)) rfl (by omega) (by omega), ?_⟩
      have t7 : (Int32.toInt (x_11_0 + 1)) = (Int32.toInt x_11_0) + 1 := add_z rfl rfl (by omega) (by omega)
      have R8 : UN (upd x_11_1 x_11_0.toNatClampNeg (x_11_1 (x_11_0 + 106).toNatClampNeg)) := UN.cpS h_x_11_1 h_x_11_1 (tnz (x := (Int32.toInt x_11_0)) rfl (by omega)) (tnz (x := (Int32.toInt (x_11_0 + 106))) rfl (by omega)) (by omega) (by omega) (by omega)
      exact ih _ _ ⟨⟨by omega, by omega⟩, R8⟩ (by omega)
set_option maxRecDepth 100000 in
theorem sl_X12_remember_41 (Qb : Int32 → (Nat → Int32) → Prop) (KX : ∀ (x_41_0 : Int32) (x_41_1 : Nat → Int32), (15 ≤ x_41_0.toInt ∧ x_41_0.toInt ≤ 15) ∧ (SO x_41_1) → Qb x_41_0 x_41_1) : ∀ (n : Nat) (x_41_0 : Int32) (x_41_1 : Nat → Int32), (0 ≤ x_41_0.toInt ∧ x_41_0.toInt ≤ 15) ∧ (SO x_41_1) → 16 - x_41_0.toInt < (n : Int) → wl_X12_remember_41 Qb n x_41_0 x_41_1 := by
  intro n
  induction n with
  | zero =>
    intro x_41_0 x_41_1 hI hm
    exfalso; have hm : 16 - x_41_0.toInt < 0 := hm; omega
  | succ n ih =>
    intro x_41_0 x_41_1 hI hm
    have hm : 16 - x_41_0.toInt < (n : Int) + 1 := by simpa using hm
    have h_x_41_0 := hI.1
    have h_x_41_1 := hI.2
    unfold wl_X12_remember_41
    by_cases c8 : 15 ≤ x_41_0
    · refine br1 c8 ?_
      have d9 := le_z (x := 15) (y := (Int32.toInt x_41_0)) rfl rfl c8
      exact KX _ _ ⟨⟨by omega, by omega⟩, h_x_41_1⟩
    · refine br0 c8 ?_
      have d10 := nle_z (x := 15) (y := (Int32.toInt x_41_0)) rfl rfl c8
      have t11 : (Int32.toInt (x_41_0 + 1)) = (Int32.toInt x_41_0) + 1 := add_z rfl rfl (by omega) (by omega)
      refine ⟨vpi (x := (Int32.toInt (x_41_0 + 1))) rfl (by omega) (by omega), ?_⟩
      refine ⟨vpi (x := (Int32.toInt x_41_0)) rfl (by omega) (by omega), ?_⟩
      have g12 : 0 ≤ (Int32.toInt (x_41_1 (x_41_0 + 1).toNatClampNeg)) ∧ (Int32.toInt (x_41_1 (x_41_0 + 1).toNatClampNeg)) ≤ 3 := SO.at_0 h_x_41_1 (tnz (x := (Int32.toInt (x_41_0 + 1))) rfl (by omega)) (by omega) (by omega)
      have R13 : SO (upd x_41_1 x_41_0.toNatClampNeg (x_41_1 (x_41_0 + 1).toNatClampNeg)) := SO.up_0 h_x_41_1 (tnz (x := (Int32.toInt x_41_0)) rfl (by omega)) (by omega) (by omega) (w := (Int32.toInt (x_41_1 (x_41_0 + 1).toNatClampNeg))) rfl (by omega) (by omega)
      exact ih _ _ ⟨⟨by omega, by omega⟩, R13⟩ (by omega)
set_option maxRecDepth 100000 in
theorem s_X12_remember (a : Int32) (h0_nUndo : Int32) (f_undos : Nat → Int32) (f_sorts : Nat → Int32) (f_row : Nat → Int32) (h_a : 0 ≤ a.toInt ∧ a.toInt ≤ 3) (h_h0_nUndo : 0 ≤ h0_nUndo.toInt ∧ h0_nUndo.toInt ≤ 16) (h_f_undos : UN f_undos) (h_f_sorts : SO f_sorts) (h_f_row : RLW f_row) {Q : (Int32 × (Nat → Int32) × (Nat → Int32)) → Prop} (hq : ∀ (u_0 : Int32) (u_1 : Nat → Int32) (u_2 : Nat → Int32), (0 ≤ u_0.toInt ∧ u_0.toInt ≤ 16) ∧ (UN u_1) ∧ (SO u_2) → Q (u_0, u_1, u_2)) : wp_X12_remember a h0_nUndo f_undos f_sorts f_row Q := by
  unfold wp_X12_remember
  refine jn_s ?_
  by_cases c1 : h0_nUndo = 16
  · refine br1 c1 ?_
    have d2 := eq_z (x := (Int32.toInt h0_nUndo)) (y := 16) rfl rfl c1
    have k5 : Int32.toInt 0 = 0 := rfl
    refine sl_X12_remember_11   _ (fun x3_0 x3_1 X4 => ?_) 1000000000000 0 (f_undos) ⟨(by decide), h_f_undos⟩ (by omega)
    have j6 := X4.1
    have j7 := X4.2
    refine sl_X12_remember_41   _ (fun x8_0 x8_1 X9 => ?_) 1000000000000 0 (f_sorts) ⟨(by decide), h_f_sorts⟩ (by omega)
    have j10 := X9.1
    have j11 := X9.2
    refine un3_i ?_
    have t12 : (Int32.toInt (h0_nUndo - 1)) = (Int32.toInt h0_nUndo) - 1 := sub_z rfl rfl (by omega) (by omega)
    refine s_X12_keepAll (h0_nUndo - 1) (f_row) (x3_1) ⟨by omega, by omega⟩ h_f_row j7 (fun u13 H14 => ?_)
    have j15 := H14
    refine ⟨vpi (x := (Int32.toInt (h0_nUndo - 1))) rfl (by omega) (by omega), ?_⟩
    have t16 : (Int32.toInt ((h0_nUndo - 1) + 1)) = (Int32.toInt (h0_nUndo - 1)) + 1 := add_z rfl rfl (by omega) (by omega)
    have R17 : SO (upd x8_1 (h0_nUndo - 1).toNatClampNeg a) := SO.up_0 j11 (tnz (x := (Int32.toInt (h0_nUndo - 1))) rfl (by omega)) (by omega) (by omega) (w := (Int32.toInt a)) rfl (by omega) (by omega)
    exact hq _ _ _ ⟨⟨by omega, by omega⟩, j15, R17⟩
  · refine br0 c1 ?_
    have d18 := ne_z (x := (Int32.toInt h0_nUndo)) (y := 16) rfl rfl c1
    refine un3_i ?_
    refine s_X12_keepAll h0_nUndo (f_row) (f_undos) ⟨by omega, by omega⟩ h_f_row h_f_undos (fun u19 H20 => ?_)
    have j21 := H20
    refine ⟨vpi (x := (Int32.toInt h0_nUndo)) rfl (by omega) (by omega), ?_⟩
    have t22 : (Int32.toInt (h0_nUndo + 1)) = (Int32.toInt h0_nUndo) + 1 := add_z rfl rfl (by omega) (by omega)
    have R23 : SO (upd f_sorts h0_nUndo.toNatClampNeg a) := SO.up_0 h_f_sorts (tnz (x := (Int32.toInt h0_nUndo)) rfl (by omega)) (by omega) (by omega) (w := (Int32.toInt a)) rfl (by omega) (by omega)
    exact hq _ _ _ ⟨⟨by omega, by omega⟩, j21, R23⟩


set_option maxRecDepth 100000 in
theorem s_X12_undo (h0_nUndo : Int32) (f_undos : Nat → Int32) (f_row : Nat → Int32) (f_sorts : Nat → Int32) (f_refusals : Nat → Int32) (h_h0_nUndo : 0 ≤ h0_nUndo.toInt ∧ h0_nUndo.toInt ≤ 16) (h_f_undos : UN f_undos) (h_f_row : RLW f_row) (h_f_sorts : SO f_sorts) {Q : Int32 → (Int32 × Int32 × Int32 × (Nat → Int32) × (Nat → Int32)) → Prop} (hq : ∀ (r : Int32) (u_0 : Int32) (u_1 : Int32) (u_2 : Int32) (u_3 : Nat → Int32) (u_4 : Nat → Int32), (0 ≤ u_2.toInt ∧ u_2.toInt ≤ 16) ∧ (RLW u_3) → Q r (u_0, u_1, u_2, u_3, u_4)) : wp_X12_undo h0_nUndo f_undos f_row f_sorts f_refusals Q := by
  unfold wp_X12_undo
  by_cases c1 : h0_nUndo = 0
  · refine br1 c1 ?_
    have d2 := eq_z (x := (Int32.toInt h0_nUndo)) (y := 0) rfl rfl c1
    refine o_X12_tell _ _ _ ?_
    refine jn_s ?_
    refine br0 (by decide) ?_
    refine br0 (by decide) ?_
    refine ⟨by unfold vp_in; decide, ?_⟩
    refine ⟨by unfold vp_in; decide, ?_⟩
    refine un2_i ?_
    exact hq _ _ _ _ _ _ ⟨⟨by omega, by omega⟩, h_f_row⟩
  · refine br0 c1 ?_
    have d3 := ne_z (x := (Int32.toInt h0_nUndo)) (y := 0) rfl rfl c1
    have t4 : (Int32.toInt (h0_nUndo - 1)) = (Int32.toInt h0_nUndo) - 1 := sub_z rfl rfl (by omega) (by omega)
    refine s_X12_putBack (h0_nUndo - 1) (f_undos) (f_row) ⟨by omega, by omega⟩ h_f_undos h_f_row (fun u5 H6 => ?_)
    have j7 := H6
    refine ⟨vpi (x := (Int32.toInt (h0_nUndo - 1))) rfl (by omega) (by omega), ?_⟩
    refine o_X12_tell _ _ _ ?_
    refine jn_s ?_
    have g8 : 0 ≤ (Int32.toInt (f_sorts (h0_nUndo - 1).toNatClampNeg)) ∧ (Int32.toInt (f_sorts (h0_nUndo - 1).toNatClampNeg)) ≤ 3 := SO.at_0 h_f_sorts (tnz (x := (Int32.toInt (h0_nUndo - 1))) rfl (by omega)) (by omega) (by omega)
    refine br1 (z_le (x := 0) (y := (Int32.toInt (f_sorts (h0_nUndo - 1).toNatClampNeg))) rfl rfl (by omega)) ?_
    refine br1 (z_le (x := 0) (y := (Int32.toInt (f_sorts (h0_nUndo - 1).toNatClampNeg))) rfl rfl (by omega)) ?_
    refine un2_i ?_
    exact hq _ _ _ _ _ _ ⟨⟨by omega, by omega⟩, j7⟩


set_option maxRecDepth 100000 in
theorem sl_X12_row_35 (h0_taped : Int32) (f_tape : Nat → Int32) (h_h0_taped : 1 ≤ h0_taped.toInt ∧ h0_taped.toInt ≤ 400) (h_f_tape : TP f_tape) (Qb : Int32 → Int32 → Int32 → (Nat → Int32) → Prop) (KX : ∀ (x_35_0 : Int32) (x_35_1 : Int32) (x_35_2 : Int32) (x_35_3 : Nat → Int32), (1 ≤ x_35_0.toInt ∧ x_35_0.toInt ≤ 402) ∧ (0 ≤ x_35_1.toInt ∧ x_35_1.toInt ≤ 134) ∧ (RLW x_35_3) ∧ (3 * x_35_1.toInt ≤ x_35_0.toInt) → Qb x_35_0 x_35_1 x_35_2 x_35_3) : ∀ (n : Nat) (x_35_0 : Int32) (x_35_1 : Int32) (x_35_2 : Int32) (x_35_3 : Nat → Int32), (0 ≤ x_35_0.toInt ∧ x_35_0.toInt ≤ 402) ∧ (0 ≤ x_35_1.toInt ∧ x_35_1.toInt ≤ 134) ∧ (RLW x_35_3) ∧ (3 * x_35_1.toInt ≤ x_35_0.toInt) → 403 - x_35_0.toInt < (n : Int) → wl_X12_row_35 h0_taped f_tape Qb n x_35_0 x_35_1 x_35_2 x_35_3 := by
  intro n
  induction n with
  | zero =>
    intro x_35_0 x_35_1 x_35_2 x_35_3 hI hm
    exfalso; have hm : 403 - x_35_0.toInt < 0 := hm; omega
  | succ n ih =>
    intro x_35_0 x_35_1 x_35_2 x_35_3 hI hm
    have hm : 403 - x_35_0.toInt < (n : Int) + 1 := by simpa using hm
    have h_x_35_0 := hI.1
    have h_x_35_1 := hI.2.1
    have h_x_35_3 := hI.2.2.1
    have h_rel0 := hI.2.2.2
    unfold wl_X12_row_35
    by_cases c4 : h0_taped ≤ x_35_0
    · refine br1 c4 ?_
      have d5 := le_z (x := (Int32.toInt h0_taped)) (y := (Int32.toInt x_35_0)) rfl rfl c4
      exact KX _ _ _ _ ⟨⟨by omega, by omega⟩, ⟨by omega, by omega⟩, h_x_35_3, (by omega)⟩
    · refine br0 c4 ?_
      have d6 := nle_z (x := (Int32.toInt h0_taped)) (y := (Int32.toInt x_35_0)) rfl rfl c4
      by_cases c7 : h0_taped ≤ (x_35_0 + 2)
      · refine br1 c7 ?_
        have t8 : (Int32.toInt (x_35_0 + 2)) = (Int32.toInt x_35_0) + 2 := add_z rfl rfl (by omega) (by omega)
        have d9 := le_z (x := (Int32.toInt h0_taped)) (y := (Int32.toInt (x_35_0 + 2))) rfl rfl c7
        have t10 : (Int32.toInt (x_35_0 + 3)) = (Int32.toInt x_35_0) + 3 := add_z rfl rfl (by omega) (by omega)
        exact ih _ _ _ _ ⟨⟨by omega, by omega⟩, ⟨by omega, by omega⟩, h_x_35_3, (by omega)⟩ (by omega)
      · refine br0 c7 ?_
        have t11 : (Int32.toInt (x_35_0 + 2)) = (Int32.toInt x_35_0) + 2 := add_z rfl rfl (by omega) (by omega)
        have d12 := nle_z (x := (Int32.toInt h0_taped)) (y := (Int32.toInt (x_35_0 + 2))) rfl rfl c7
        refine o_X12_isCell _ _ ?_
        refine o_X12_in _ _ _ _ ?_
        have t13 : (Int32.toInt (x_35_0 / 3)) = (Int32.toInt x_35_0) / 3 := div_z rfl rfl (by omega) (by omega)
        have t14 : (Int64.toInt (x_35_0 / 3).toInt64) = (Int32.toInt (x_35_0 / 3)) := i2l_z rfl
        refine br0 (k_nlt (x := (Int64.toInt (x_35_0 / 3).toInt64)) (y := 0) rfl rfl (by omega)) ?_
        by_cases c15 : 0 < (lg_cmp (x_35_0 / 3).toInt64 39)
        · refine br1 c15 ?_
          have d16 := c_gt (x := (Int64.toInt (x_35_0 / 3).toInt64)) (y := 39) rfl rfl c15
          refine br1 (by decide) ?_
          have t17 : (Int32.toInt (x_35_0 + 3)) = (Int32.toInt x_35_0) + 3 := add_z rfl rfl (by omega) (by omega)
          exact ih _ _ _ _ ⟨⟨by omega, by omega⟩, ⟨by omega, by omega⟩, h_x_35_3, (by omega)⟩ (by omega)
        · refine br0 c15 ?_
          have d18 := c_ngt (x := (Int64.toInt (x_35_0 / 3).toInt64)) (y := 39) rfl rfl c15
          refine br0 (by decide) ?_
          have t19 : (Int32.toInt (33 + (x_35_0 / 3))) = 33 + (Int32.toInt (x_35_0 / 3)) := add_z rfl rfl (by omega) (by omega)
          refine ⟨vpi (x := (Int32.toInt (33 + (x_35_0 / 3)))) rfl (by omega) (by omega), ?_⟩
          by_cases c20 : (x_35_3 (33 + (x_35_0 / 3)).toNatClampNeg) = 0
          · refine br1 c20 ?_
            have g21 : 0 ≤ (Int32.toInt (x_35_3 (33 + (x_35_0 / 3)).toNatClampNeg)) ∧ (Int32.toInt (x_35_3 (33 + (x_35_0 / 3)).toNatClampNeg)) ≤ 1 := RLW.at_33 h_x_35_3 (tnz (x := (Int32.toInt (33 + (x_35_0 / 3)))) rfl (by omega)) (by omega) (by omega)
            have d22 := eq_z (x := (Int32.toInt (x_35_3 (33 + (x_35_0 / 3)).toNatClampNeg))) (y := 0) rfl rfl c20
            refine ⟨vpi (x := (Int32.toInt x_35_0)) rfl (by omega) (by omega), ?_⟩
            refine o_X12_canBe _ _ _ ?_
            refine br1 (by decide) ?_
            refine o_X12_in _ _ _ _ ?_
            have g23 : 0 ≤ (Int32.toInt (f_tape x_35_0.toNatClampNeg)) ∧ (Int32.toInt (f_tape x_35_0.toNatClampNeg)) ≤ 255 := TP.at_0 h_f_tape (tnz (x := (Int32.toInt x_35_0)) rfl (by omega)) (by omega) (by omega)
            have t24 : (Int64.toInt (f_tape x_35_0.toNatClampNeg).toInt64) = (Int32.toInt (f_tape x_35_0.toNatClampNeg)) := i2l_z rfl
            refine br0 (k_nlt (x := (Int64.toInt (f_tape x_35_0.toNatClampNeg).toInt64)) (y := 0) rfl rfl (by omega)) ?_
            by_cases c25 : 0 < (lg_cmp (f_tape x_35_0.toNatClampNeg).toInt64 3)
            · refine br1 c25 ?_
              have d26 := c_gt (x := (Int64.toInt (f_tape x_35_0.toNatClampNeg).toInt64)) (y := 3) rfl rfl c25
              refine br1 (by decide) ?_
              have t27 : (Int32.toInt (x_35_0 + 3)) = (Int32.toInt x_35_0) + 3 := add_z rfl rfl (by omega) (by omega)
              exact ih _ _ _ _ ⟨⟨by omega, by omega⟩, ⟨by omega, by omega⟩, h_x_35_3, (by omega)⟩ (by omega)
            · refine br0 c25 ?_
              have d28 := c_ngt (x := (Int64.toInt (f_tape x_35_0.toNatClampNeg).toInt64)) (y := 3) rfl rfl c25
              refine br0 (by decide) ?_
              have t29 : (Int32.toInt (x_35_0 + 1)) = (Int32.toInt x_35_0) + 1 := add_z rfl rfl (by omega) (by omega)
              refine ⟨vpi (x := (Int32.toInt (x_35_0 + 1))) rfl (by omega) (by omega), ?_⟩
              refine o_X12_canBe _ _ _ ?_
              refine br0 (by decide) ?_
              refine br1 (by decide) ?_
              refine o_X12_in _ _ _ _ ?_
              by_cases c30 : (lg_cmp (f_tape (x_35_0 + 1).toNatClampNeg).toInt64 1) < 0
              · refine br1 c30 ?_
                have g31 : 0 ≤ (Int32.toInt (f_tape (x_35_0 + 1).toNatClampNeg)) ∧ (Int32.toInt (f_tape (x_35_0 + 1).toNatClampNeg)) ≤ 255 := TP.at_0 h_f_tape (tnz (x := (Int32.toInt (x_35_0 + 1))) rfl (by omega)) (by omega) (by omega)
                have t32 : (Int64.toInt (f_tape (x_35_0 + 1).toNatClampNeg).toInt64) = (Int32.toInt (f_tape (x_35_0 + 1).toNatClampNeg)) := i2l_z rfl
                have d33 := c_lt (x := (Int64.toInt (f_tape (x_35_0 + 1).toNatClampNeg).toInt64)) (y := 1) rfl rfl c30
                refine br1 (by decide) ?_
                have t34 : (Int32.toInt (x_35_0 + 3)) = (Int32.toInt x_35_0) + 3 := add_z rfl rfl (by omega) (by omega)
                exact ih _ _ _ _ ⟨⟨by omega, by omega⟩, ⟨by omega, by omega⟩, h_x_35_3, (by omega)⟩ (by omega)
              · refine br0 c30 ?_
                have g35 : 0 ≤ (Int32.toInt (f_tape (x_35_0 + 1).toNatClampNeg)) ∧ (Int32.toInt (f_tape (x_35_0 + 1).toNatClampNeg)) ≤ 255 := TP.at_0 h_f_tape (tnz (x := (Int32.toInt (x_35_0 + 1))) rfl (by omega)) (by omega) (by omega)
                have t36 : (Int64.toInt (f_tape (x_35_0 + 1).toNatClampNeg).toInt64) = (Int32.toInt (f_tape (x_35_0 + 1).toNatClampNeg)) := i2l_z rfl
                have d37 := c_nlt (x := (Int64.toInt (f_tape (x_35_0 + 1).toNatClampNeg).toInt64)) (y := 1) rfl rfl c30
                by_cases c38 : 0 < (lg_cmp (f_tape (x_35_0 + 1).toNatClampNeg).toInt64 9)
                · refine br1 c38 ?_
                  have d39 := c_gt (x := (Int64.toInt (f_tape (x_35_0 + 1).toNatClampNeg).toInt64)) (y := 9) rfl rfl c38
                  refine br1 (by decide) ?_
                  have t40 : (Int32.toInt (x_35_0 + 3)) = (Int32.toInt x_35_0) + 3 := add_z rfl rfl (by omega) (by omega)
                  exact ih _ _ _ _ ⟨⟨by omega, by omega⟩, ⟨by omega, by omega⟩, h_x_35_3, (by omega)⟩ (by omega)
                · refine br0 c38 ?_
                  have d41 := c_ngt (x := (Int64.toInt (f_tape (x_35_0 + 1).toNatClampNeg).toInt64)) (y := 9) rfl rfl c38
                  refine br0 (by decide) ?_
                  refine ⟨vpi (x := (Int32.toInt (x_35_0 + 2))) rfl (by omega) (by omega), ?_⟩
                  refine o_X12_canBe _ _ _ ?_
                  refine br0 (by decide) ?_
                  refine br0 (by decide) ?_
                  refine br1 (by decide) ?_
                  refine o_X12_in _ _ _ _ ?_
                  have g42 : 0 ≤ (Int32.toInt (f_tape (x_35_0 + 2).toNatClampNeg)) ∧ (Int32.toInt (f_tape (x_35_0 + 2).toNatClampNeg)) ≤ 255 := TP.at_0 h_f_tape (tnz (x := (Int32.toInt (x_35_0 + 2))) rfl (by omega)) (by omega) (by omega)
                  have t43 : (Int64.toInt (f_tape (x_35_0 + 2).toNatClampNeg).toInt64) = (Int32.toInt (f_tape (x_35_0 + 2).toNatClampNeg)) := i2l_z rfl
                  refine br0 (k_nlt (x := (Int64.toInt (f_tape (x_35_0 + 2).toNatClampNeg).toInt64)) (y := 0) rfl rfl (by omega)) ?_
                  by_cases c44 : 0 < (lg_cmp (f_tape (x_35_0 + 2).toNatClampNeg).toInt64 99)
                  · refine br1 c44 ?_
                    have d45 := c_gt (x := (Int64.toInt (f_tape (x_35_0 + 2).toNatClampNeg).toInt64)) (y := 99) rfl rfl c44
                    refine br1 (by decide) ?_
                    refine br1 (by decide) ?_
                    have t46 : (Int32.toInt (x_35_0 + 3)) = (Int32.toInt x_35_0) + 3 := add_z rfl rfl (by omega) (by omega)
                    exact ih _ _ _ _ ⟨⟨by omega, by omega⟩, ⟨by omega, by omega⟩, h_x_35_3, (by omega)⟩ (by omega)
                  · refine br0 c44 ?_
                    have d47 := c_ngt (x := (Int64.toInt (f_tape (x_35_0 + 2).toNatClampNeg).toInt64)) (y := 99) rfl rfl c44
                    refine br0 (by decide) ?_
                    refine br0 (by decide) ?_
                    refine ⟨vpi (x := (Int32.toInt x_35_0)) rfl (by omega) (by omega), ?_⟩
                    have t48 : (Int32.toInt (113 + (x_35_0 / 3))) = 113 + (Int32.toInt (x_35_0 / 3)) := add_z rfl rfl (by omega) (by omega)
                    refine ⟨vpi (x := (Int32.toInt (113 + (x_35_0 / 3)))) rfl (by omega) (by omega), ?_⟩
                    refine ⟨vpi (x := (Int32.toInt (x_35_0 + 1))) rfl (by omega) (by omega), ?_⟩
                    have t49 : (Int32.toInt (153 + (x_35_0 / 3))) = 153 + (Int32.toInt (x_35_0 / 3)) := add_z rfl rfl (by omega) (by omega)
                    refine ⟨vpi (x := (Int32.toInt (153 + (x_35_0 / 3)))) rfl (by omega) (by omega), ?_⟩
                    refine ⟨vpi (x := (Int32.toInt (x_35_0 + 2))) rfl (by omega) (by omega), ?_⟩
                    have t50 : (Int32.toInt (73 + (x_35_0 / 3))) = 73 + (Int32.toInt (x_35_0 / 3)) := add_z rfl rfl (by omega) (by omega)
                    refine ⟨vpi (x := (Int32.toInt (73 + (x_35_0 / 3)))) rfl (by omega) (by omega), ?_⟩
                    have t51 : (Int32.toInt (x_35_0 + 3)) = (Int32.toInt x_35_0) + 3 := add_z rfl rfl (by omega) (by omega)
                    have t52 : (Int32.toInt (x_35_1 + 1)) = (Int32.toInt x_35_1) + 1 := add_z rfl rfl (by omega) (by omega)
                    have R53 : RLW (upd x_35_3 (113 + (x_35_0 / 3)).toNatClampNeg (f_tape x_35_0.toNatClampNeg)) := RLW.up_113 h_x_35_3 (tnz (x := (Int32.toInt (113 + (x_35_0 / 3)))) rfl (by omega)) (by omega) (by omega) (w := (Int32.toInt (f_tape x_35_0.toNatClampNeg))) rfl (by omega) (by omega)
                    have R54 : RLW (upd (upd x_35_3 (113 + (x_35_0 / 3)).toNatClampNeg (f_tape x_35_0.toNatClampNeg)) (153 + (x_35_0 / 3)).toNatClampNeg (f_tape (x_35_0 + 1).toNatClampNeg)) := RLW.up_153 R53 (tnz (x := (Int32.toInt (153 + (x_35_0 / 3)))) rfl (by omega)) (by omega) (by omega) (w := (Int32.toInt (f_tape (x_35_0 + 1).toNatClampNeg))) rfl (by omega) (by omega)
                    have R55 : RLW (upd (upd (upd x_35_3 (113 + (x_35_0 / 3)).toNatClampNeg (f_tape x_35_0.toNatClampNeg)) (153 + (x_35_0 / 3)).toNatClampNeg (f_tape (x_35_0 + 1).toNatClampNeg)) (73 + (x_35_0 / 3)).toNatClampNeg (f_tape (x_35_0 + 2).toNatClampNeg)) := RLW.up_73 R54 (tnz (x := (Int32.toInt (73 + (x_35_0 / 3)))) rfl (by omega)) (by omega) (by omega) (w := (Int32.toInt (f_tape (x_35_0 + 2).toNatClampNeg))) rfl (by omega) (by omega)
                    exact ih _ _ _ _ ⟨⟨by omega, by omega⟩, ⟨by omega, by omega⟩, R55, (by omega)⟩ (by omega)
          · refine br0 c20 ?_
            have g56 : 0 ≤ (Int32.toInt (x_35_3 (33 + (x_35_0 / 3)).toNatClampNeg)) ∧ (Int32.toInt (x_35_3 (33 + (x_35_0 / 3)).toNatClampNeg)) ≤ 1 := RLW.at_33 h_x_35_3 (tnz (x := (Int32.toInt (33 + (x_35_0 / 3)))) rfl (by omega)) (by omega) (by omega)
            have d57 := ne_z (x := (Int32.toInt (x_35_3 (33 + (x_35_0 / 3)).toNatClampNeg))) (y := 0) rfl rfl c20
            have t58 : (Int32.toInt (x_35_0 + 3)) = (Int32.toInt x_35_0) + 3 := add_z rfl rfl (by omega) (by omega)
            exact ih _ _ _ _ ⟨⟨by omega, by omega⟩, ⟨by omega, by omega⟩, h_x_35_3, (by omega)⟩ (by omega)
set_option maxRecDepth 100000 in
theorem s_X12_row (h0_nUndo : Int32) (h0_mud : Int32) (h0_taped : Int32) (f_row : Nat → Int32) (f_tape : Nat → Int32) (f_refusals : Nat → Int32) (h_h0_nUndo : 0 ≤ h0_nUndo.toInt ∧ h0_nUndo.toInt ≤ 16) (h_h0_taped : 0 ≤ h0_taped.toInt ∧ h0_taped.toInt ≤ 400) (h_f_row : RLW f_row) (h_f_tape : TP f_tape) {Q : Int32 → (Int32 × Int32 × Int32 × Int32 × Int32 × (Nat → Int32) × (Nat → Int32)) → Prop} (hq : ∀ (r : Int32) (u_0 : Int32) (u_1 : Int32) (u_2 : Int32) (u_3 : Int32) (u_4 : Int32) (u_5 : Nat → Int32) (u_6 : Nat → Int32), (0 ≤ u_2.toInt ∧ u_2.toInt ≤ 16) ∧ (0 ≤ u_4.toInt ∧ u_4.toInt ≤ 400) ∧ (RLW u_5) → Q r (u_0, u_1, u_2, u_3, u_4, u_5, u_6)) : wp_X12_row h0_nUndo h0_mud h0_taped f_row f_tape f_refusals Q := by
  unfold wp_X12_row
  by_cases c1 : h0_taped = 0
  · refine br1 c1 ?_
    have d2 := eq_z (x := (Int32.toInt h0_taped)) (y := 0) rfl rfl c1
    refine o_X12_tell _ _ _ ?_
    refine jn_s ?_
    refine br0 (by decide) ?_
    refine br0 (by decide) ?_
    refine ⟨by unfold vp_in; decide, ?_⟩
    refine ⟨by unfold vp_in; decide, ?_⟩
    refine un2_i ?_
    exact hq _ _ _ _ _ _ _ _ ⟨⟨by omega, by omega⟩, (by decide), h_f_row⟩
  · refine br0 c1 ?_
    have d3 := ne_z (x := (Int32.toInt h0_taped)) (y := 0) rfl rfl c1
    have k6 : Int32.toInt 0 = 0 := rfl
    refine sl_X12_row_35 h0_taped (f_tape) ⟨by omega, by omega⟩ h_f_tape _ (fun x4_0 x4_1 x4_2 x4_3 X5 => ?_) 1000000000000 0 0 0 (f_row) ⟨(by decide), (by decide), h_f_row, (by omega)⟩ (by omega)
    have j7 := X5.1
    have j8 := X5.2.1
    have j9 := X5.2.2.1
    have j10 := X5.2.2.2
    refine o_X12_settled _ _ _ _ ?_
    refine br1 (z_le (x := 0) (y := (Int32.toInt x4_1)) rfl rfl (by omega)) ?_
    refine o_X12_tell _ _ _ ?_
    refine jn_s ?_
    refine br1 (z_le (x := 0) (y := (Int32.toInt x4_1)) rfl rfl (by omega)) ?_
    refine br1 (z_le (x := 0) (y := (Int32.toInt x4_1)) rfl rfl (by omega)) ?_
    refine un2_i ?_
    refine un3_i ?_
    exact hq _ _ _ _ _ _ _ _ ⟨(by decide), (by decide), j9⟩


set_option maxRecDepth 100000 in
theorem s_X12_drawn (a : Int32) (b : Int32) (h0_drawnDay : Int32) (h0_nDrawn : Int32) (f_drawn : Nat → Int32) (h_h0_nDrawn : (-1) ≤ h0_nDrawn.toInt ∧ h0_nDrawn.toInt ≤ 6) {Q : Int32 → Int32 → Prop} (hq : ∀ (r : Int32) (u : Int32), True → Q r u) : wp_X12_drawn a b h0_drawnDay h0_nDrawn f_drawn Q := by
  unfold wp_X12_drawn
  by_cases c1 : h0_nDrawn = (-1)
  · refine br1 c1 ?_
    have d2 := eq_z (x := (Int32.toInt h0_nDrawn)) (y := (-1)) rfl (by decide) c1
    exact hq _ _ trivial
  · refine br0 c1 ?_
    have d3 := ne_z (x := (Int32.toInt h0_nDrawn)) (y := (-1)) rfl (by decide) c1
    refine o_X12_in _ _ _ _ ?_
    by_cases c4 : (lg_cmp b.toInt64 0) < 0
    · refine br1 c4 ?_
      have t5 : (Int64.toInt b.toInt64) = (Int32.toInt b) := i2l_z rfl
      have d6 := c_lt (x := (Int64.toInt b.toInt64)) (y := 0) rfl rfl c4
      refine br1 (by decide) ?_
      exact hq _ _ trivial
    · refine br0 c4 ?_
      have t7 : (Int64.toInt b.toInt64) = (Int32.toInt b) := i2l_z rfl
      have d8 := c_nlt (x := (Int64.toInt b.toInt64)) (y := 0) rfl rfl c4
      by_cases c9 : 0 < (lg_cmp b.toInt64 2)
      · refine br1 c9 ?_
        have d10 := c_gt (x := (Int64.toInt b.toInt64)) (y := 2) rfl rfl c9
        refine br1 (by decide) ?_
        exact hq _ _ trivial
      · refine br0 c9 ?_
        have d11 := c_ngt (x := (Int64.toInt b.toInt64)) (y := 2) rfl rfl c9
        refine br0 (by decide) ?_
        refine jn_s ?_
        by_cases c12 : 2 ≤ b
        · refine br1 c12 ?_
          have d13 := le_z (x := 2) (y := (Int32.toInt b)) rfl rfl c12
          refine br1 (z_eq (x := (Int32.toInt b)) (y := 2) rfl rfl (by omega)) ?_
          exact hq _ _ trivial
        · refine br0 c12 ?_
          have d14 := nle_z (x := 2) (y := (Int32.toInt b)) rfl rfl c12
          refine o_X12_in _ _ _ _ ?_
          by_cases c15 : (lg_cmp a.toInt64 0) < 0
          · refine br1 c15 ?_
            have t16 : (Int64.toInt a.toInt64) = (Int32.toInt a) := i2l_z rfl
            have d17 := c_lt (x := (Int64.toInt a.toInt64)) (y := 0) rfl rfl c15
            refine br1 (by decide) ?_
            exact hq _ _ trivial
          · refine br0 c15 ?_
            have t18 : (Int64.toInt a.toInt64) = (Int32.toInt a) := i2l_z rfl
            have d19 := c_nlt (x := (Int64.toInt a.toInt64)) (y := 0) rfl rfl c15
            by_cases c20 : 0 < (lg_cmp a.toInt64 (h0_nDrawn.toInt64 - 1))
            · refine br1 c20 ?_
              have t21 : (Int64.toInt h0_nDrawn.toInt64) = (Int32.toInt h0_nDrawn) := i2l_z rfl
              have t22 : (Int64.toInt (h0_nDrawn.toInt64 - 1)) = (Int64.toInt h0_nDrawn.toInt64) - 1 := lsub_z rfl rfl (by omega) (by omega)
              have d23 := c_gt (x := (Int64.toInt a.toInt64)) (y := (Int64.toInt (h0_nDrawn.toInt64 - 1))) rfl rfl c20
              refine br1 (by decide) ?_
              exact hq _ _ trivial
            · refine br0 c20 ?_
              have t24 : (Int64.toInt h0_nDrawn.toInt64) = (Int32.toInt h0_nDrawn) := i2l_z rfl
              have t25 : (Int64.toInt (h0_nDrawn.toInt64 - 1)) = (Int64.toInt h0_nDrawn.toInt64) - 1 := lsub_z rfl rfl (by omega) (by omega)
              have d26 := c_ngt (x := (Int64.toInt a.toInt64)) (y := (Int64.toInt (h0_nDrawn.toInt64 - 1))) rfl rfl c20
              refine br0 (by decide) ?_
              refine br0 (z_ne (x := (Int32.toInt b)) (y := 2) rfl rfl (by omega)) ?_
              have t27 : (Int32.toInt (2 * a)) = 2 * (Int32.toInt a) := mul_z rfl rfl (by omega) (by omega)
              have t28 : (Int32.toInt ((2 * a) + b)) = (Int32.toInt (2 * a)) + (Int32.toInt b) := add_z rfl rfl (by omega) (by omega)
              refine ⟨vpi (x := (Int32.toInt ((2 * a) + b))) rfl (by omega) (by omega), ?_⟩
              exact hq _ _ trivial


set_option maxRecDepth 100000 in
theorem s_X12_hushNow (a : Int32) (h0_nUndo : Int32) (f_row : Nat → Int32) (f_undos : Nat → Int32) (f_sorts : Nat → Int32) (h_h0_nUndo : 0 ≤ h0_nUndo.toInt ∧ h0_nUndo.toInt ≤ 16) (h_f_row : RLW f_row) (h_f_undos : UN f_undos) (h_f_sorts : SO f_sorts) {Q : Int32 → (Int32 × (Nat → Int32) × (Nat → Int32) × (Nat → Int32)) → Prop} (hq : ∀ (r : Int32) (u_0 : Int32) (u_1 : Nat → Int32) (u_2 : Nat → Int32) (u_3 : Nat → Int32), ((-3) ≤ r.toInt ∧ r.toInt ≤ 120) ∧ (0 ≤ u_0.toInt ∧ u_0.toInt ≤ 16) ∧ (RLW u_1) ∧ (UN u_2) ∧ (SO u_3) → Q r (u_0, u_1, u_2, u_3)) : wp_X12_hushNow a h0_nUndo f_row f_undos f_sorts Q := by
  unfold wp_X12_hushNow
  refine o_X12_isNoise _ _ _ ?_
  refine o_X12_in _ _ _ _ ?_
  by_cases c1 : (lg_cmp a.toInt64 0) < 0
  · refine br1 c1 ?_
    have t2 : (Int64.toInt a.toInt64) = (Int32.toInt a) := i2l_z rfl
    have d3 := c_lt (x := (Int64.toInt a.toInt64)) (y := 0) rfl rfl c1
    refine br1 (by decide) ?_
    exact hq _ _ _ _ _ ⟨(by decide), ⟨by omega, by omega⟩, h_f_row, h_f_undos, h_f_sorts⟩
  · refine br0 c1 ?_
    have t4 : (Int64.toInt a.toInt64) = (Int32.toInt a) := i2l_z rfl
    have d5 := c_nlt (x := (Int64.toInt a.toInt64)) (y := 0) rfl rfl c1
    by_cases c6 : 0 < (lg_cmp a.toInt64 ((f_row (2 : Int32).toNatClampNeg).toInt64 - 1))
    · refine br1 c6 ?_
      have g7 : 0 ≤ (Int32.toInt (f_row (2 : Int32).toNatClampNeg)) ∧ (Int32.toInt (f_row (2 : Int32).toNatClampNeg)) ≤ 6 := RLW.at_2 h_f_row (rfl : ((2 : Nat) : Int) = 2) (by omega) (by omega)
      have t8 : (Int64.toInt (f_row (2 : Int32).toNatClampNeg).toInt64) = (Int32.toInt (f_row (2 : Int32).toNatClampNeg)) := i2l_z rfl
      have t9 : (Int64.toInt ((f_row (2 : Int32).toNatClampNeg).toInt64 - 1)) = (Int64.toInt (f_row (2 : Int32).toNatClampNeg).toInt64) - 1 := lsub_z rfl rfl (by omega) (by omega)
      have d10 := c_gt (x := (Int64.toInt a.toInt64)) (y := (Int64.toInt ((f_row (2 : Int32).toNatClampNeg).toInt64 - 1))) rfl rfl c6
      refine br1 (by decide) ?_
      exact hq _ _ _ _ _ ⟨(by decide), ⟨by omega, by omega⟩, h_f_row, h_f_undos, h_f_sorts⟩
    · refine br0 c6 ?_
      have g11 : 0 ≤ (Int32.toInt (f_row (2 : Int32).toNatClampNeg)) ∧ (Int32.toInt (f_row (2 : Int32).toNatClampNeg)) ≤ 6 := RLW.at_2 h_f_row (rfl : ((2 : Nat) : Int) = 2) (by omega) (by omega)
      have t12 : (Int64.toInt (f_row (2 : Int32).toNatClampNeg).toInt64) = (Int32.toInt (f_row (2 : Int32).toNatClampNeg)) := i2l_z rfl
      have t13 : (Int64.toInt ((f_row (2 : Int32).toNatClampNeg).toInt64 - 1)) = (Int64.toInt (f_row (2 : Int32).toNatClampNeg).toInt64) - 1 := lsub_z rfl rfl (by omega) (by omega)
      have d14 := c_ngt (x := (Int64.toInt a.toInt64)) (y := (Int64.toInt ((f_row (2 : Int32).toNatClampNeg).toInt64 - 1))) rfl rfl c6
      refine br0 (by decide) ?_
      have t15 : (Int32.toInt (22 + a)) = 22 + (Int32.toInt a) := add_z rfl rfl (by omega) (by omega)
      refine ⟨vpi (x := (Int32.toInt (22 + a))) rfl (by omega) (by omega), ?_⟩
      by_cases c16 : (f_row (22 + a).toNatClampNeg) = 1
      · refine br1 c16 ?_
        have g17 : 0 ≤ (Int32.toInt (f_row (22 + a).toNatClampNeg)) ∧ (Int32.toInt (f_row (22 + a).toNatClampNeg)) ≤ 1 := RLW.at_22 h_f_row (tnz (x := (Int32.toInt (22 + a))) rfl (by omega)) (by omega) (by omega)
        have d18 := eq_z (x := (Int32.toInt (f_row (22 + a).toNatClampNeg))) (y := 1) rfl rfl c16
        exact hq _ _ _ _ _ ⟨(by decide), ⟨by omega, by omega⟩, h_f_row, h_f_undos, h_f_sorts⟩
      · refine br0 c16 ?_
        have g19 : 0 ≤ (Int32.toInt (f_row (22 + a).toNatClampNeg)) ∧ (Int32.toInt (f_row (22 + a).toNatClampNeg)) ≤ 1 := RLW.at_22 h_f_row (tnz (x := (Int32.toInt (22 + a))) rfl (by omega)) (by omega) (by omega)
        have d20 := ne_z (x := (Int32.toInt (f_row (22 + a).toNatClampNeg))) (y := 1) rfl rfl c16
        refine s_X12_remember 2 h0_nUndo (f_undos) (f_sorts) (f_row) (by decide) ⟨by omega, by omega⟩ h_f_undos h_f_sorts h_f_row (fun u21_0 u21_1 u21_2 H22 => ?_)
        have j23 := H22.1
        have j24 := H22.2.1
        have j25 := H22.2.2
        refine un3_i ?_
        refine ⟨vpi (x := (Int32.toInt (22 + a))) rfl (by omega) (by omega), ?_⟩
        have t26 : (Int32.toInt (198 + a)) = 198 + (Int32.toInt a) := add_z rfl rfl (by omega) (by omega)
        refine ⟨vpi (x := (Int32.toInt (198 + a))) rfl (by omega) (by omega), ?_⟩
        have g27 : 0 ≤ (Int32.toInt (f_row (198 + a).toNatClampNeg)) ∧ (Int32.toInt (f_row (198 + a).toNatClampNeg)) ≤ 7 := RLW.at_198 h_f_row (tnz (x := (Int32.toInt (198 + a))) rfl (by omega)) (by omega) (by omega)
        have t28 : (Int32.toInt ((upd f_row (22 + a).toNatClampNeg 1) (198 + a).toNatClampNeg)) = (Int32.toInt (f_row (198 + a).toNatClampNeg)) := congrArg Int32.toInt (pk_un (ne_n (tnz (x := (Int32.toInt (198 + a))) rfl (by omega)) (tnz (x := (Int32.toInt (22 + a))) rfl (by omega)) (by omega)))
        have R29 : RLW (upd f_row (22 + a).toNatClampNeg 1) := RLW.up_22 h_f_row (tnz (x := (Int32.toInt (22 + a))) rfl (by omega)) (by omega) (by omega) (w := 1) rfl (by omega) (by omega)
        refine s_X12_dinBut ((upd f_row (22 + a).toNatClampNeg 1) (198 + a).toNatClampNeg) 0 ((upd f_row (22 + a).toNatClampNeg 1)) ⟨by omega, by omega⟩ R29 (fun r30 H31 => ?_)
        have j32 := H31
        exact hq _ _ _ _ _ ⟨⟨by omega, by omega⟩, ⟨by omega, by omega⟩, R29, j24, j25⟩


set_option maxRecDepth 100000 in
theorem s_X12_hush (a : Int32) (h0_nUndo : Int32) (f_row : Nat → Int32) (f_undos : Nat → Int32) (f_sorts : Nat → Int32) (f_refusals : Nat → Int32) (h_h0_nUndo : 0 ≤ h0_nUndo.toInt ∧ h0_nUndo.toInt ≤ 16) (h_f_row : RLW f_row) (h_f_undos : UN f_undos) (h_f_sorts : SO f_sorts) {Q : Int32 → (Int32 × Int32 × Int32 × (Nat → Int32) × (Nat → Int32) × (Nat → Int32) × (Nat → Int32)) → Prop} (hq : ∀ (r : Int32) (u_0 : Int32) (u_1 : Int32) (u_2 : Int32) (u_3 : Nat → Int32) (u_4 : Nat → Int32) (u_5 : Nat → Int32) (u_6 : Nat → Int32), (0 ≤ u_2.toInt ∧ u_2.toInt ≤ 16) ∧ (RLW u_3) ∧ (UN u_4) ∧ (SO u_5) → Q r (u_0, u_1, u_2, u_3, u_4, u_5, u_6)) : wp_X12_hush a h0_nUndo f_row f_undos f_sorts f_refusals Q := by
  unfold wp_X12_hush
  refine s_X12_hushNow a h0_nUndo (f_row) (f_undos) (f_sorts) ⟨by omega, by omega⟩ h_f_row h_f_undos h_f_sorts (fun r1 u2_0 u2_1 u2_2 u2_3 H3 => ?_)
  have j4 := H3.1
  have j5 := H3.2.1
  have j6 := H3.2.2.1
  have j7 := H3.2.2.2.1
  have j8 := H3.2.2.2.2
  refine un4_i ?_
  refine o_X12_tell _ _ _ ?_
  refine jn_s ?_
  by_cases c9 : 0 ≤ r1
  · refine br1 c9 ?_
    have d10 := le_z (x := 0) (y := (Int32.toInt r1)) rfl rfl c9
    refine br1 (z_le (x := 0) (y := (Int32.toInt r1)) rfl rfl (by omega)) ?_
    refine un2_i ?_
    exact hq _ _ _ _ _ _ _ _ ⟨⟨by omega, by omega⟩, j6, j7, j8⟩
  · refine br0 c9 ?_
    have d11 := nle_z (x := 0) (y := (Int32.toInt r1)) rfl rfl c9
    refine br0 (z_nle (x := 0) (y := (Int32.toInt r1)) rfl rfl (by omega)) ?_
    have t12 : (Int32.toInt (-r1)) = - (Int32.toInt r1) := neg_z rfl (by omega) (by omega)
    refine ⟨vpi (x := (Int32.toInt (-r1))) rfl (by omega) (by omega), ?_⟩
    refine ⟨vpi (x := (Int32.toInt (-r1))) rfl (by omega) (by omega), ?_⟩
    refine un2_i ?_
    exact hq _ _ _ _ _ _ _ _ ⟨⟨by omega, by omega⟩, j6, j7, j8⟩


set_option maxRecDepth 100000 in
theorem s_X12_lieNow (a : Int32) (b : Int32) (h0_nUndo : Int32) (f_row : Nat → Int32) (f_undos : Nat → Int32) (f_sorts : Nat → Int32) (h_h0_nUndo : 0 ≤ h0_nUndo.toInt ∧ h0_nUndo.toInt ≤ 16) (h_f_row : RLW f_row) (h_f_undos : UN f_undos) (h_f_sorts : SO f_sorts) {Q : Int32 → (Int32 × (Nat → Int32) × (Nat → Int32) × (Nat → Int32)) → Prop} (hq : ∀ (r : Int32) (u_0 : Int32) (u_1 : Nat → Int32) (u_2 : Nat → Int32) (u_3 : Nat → Int32), ((-2) ≤ r.toInt ∧ r.toInt ≤ 7) ∧ (0 ≤ u_0.toInt ∧ u_0.toInt ≤ 16) ∧ (RLW u_1) ∧ (UN u_2) ∧ (SO u_3) → Q r (u_0, u_1, u_2, u_3)) : wp_X12_lieNow a b h0_nUndo f_row f_undos f_sorts Q := by
  unfold wp_X12_lieNow
  refine o_X12_isColumn _ _ ?_
  refine o_X12_in _ _ _ _ ?_
  by_cases c1 : (lg_cmp b.toInt64 0) < 0
  · refine br1 c1 ?_
    have t2 : (Int64.toInt b.toInt64) = (Int32.toInt b) := i2l_z rfl
    have d3 := c_lt (x := (Int64.toInt b.toInt64)) (y := 0) rfl rfl c1
    refine br1 (by decide) ?_
    exact hq _ _ _ _ _ ⟨(by decide), ⟨by omega, by omega⟩, h_f_row, h_f_undos, h_f_sorts⟩
  · refine br0 c1 ?_
    have t4 : (Int64.toInt b.toInt64) = (Int32.toInt b) := i2l_z rfl
    have d5 := c_nlt (x := (Int64.toInt b.toInt64)) (y := 0) rfl rfl c1
    by_cases c6 : 0 < (lg_cmp b.toInt64 7)
    · refine br1 c6 ?_
      have d7 := c_gt (x := (Int64.toInt b.toInt64)) (y := 7) rfl rfl c6
      refine br1 (by decide) ?_
      exact hq _ _ _ _ _ ⟨(by decide), ⟨by omega, by omega⟩, h_f_row, h_f_undos, h_f_sorts⟩
    · refine br0 c6 ?_
      have d8 := c_ngt (x := (Int64.toInt b.toInt64)) (y := 7) rfl rfl c6
      refine br0 (by decide) ?_
      refine o_X12_isEar _ _ _ ?_
      refine o_X12_in _ _ _ _ ?_
      by_cases c9 : (lg_cmp a.toInt64 0) < 0
      · refine br1 c9 ?_
        have t10 : (Int64.toInt a.toInt64) = (Int32.toInt a) := i2l_z rfl
        have d11 := c_lt (x := (Int64.toInt a.toInt64)) (y := 0) rfl rfl c9
        refine br1 (by decide) ?_
        exact hq _ _ _ _ _ ⟨(by decide), ⟨by omega, by omega⟩, h_f_row, h_f_undos, h_f_sorts⟩
      · refine br0 c9 ?_
        have t12 : (Int64.toInt a.toInt64) = (Int32.toInt a) := i2l_z rfl
        have d13 := c_nlt (x := (Int64.toInt a.toInt64)) (y := 0) rfl rfl c9
        by_cases c14 : 0 < (lg_cmp a.toInt64 ((f_row (1 : Int32).toNatClampNeg).toInt64 - 1))
        · refine br1 c14 ?_
          have g15 : 0 ≤ (Int32.toInt (f_row (1 : Int32).toNatClampNeg)) ∧ (Int32.toInt (f_row (1 : Int32).toNatClampNeg)) ≤ 5 := RLW.at_1 h_f_row (rfl : ((1 : Nat) : Int) = 1) (by omega) (by omega)
          have t16 : (Int64.toInt (f_row (1 : Int32).toNatClampNeg).toInt64) = (Int32.toInt (f_row (1 : Int32).toNatClampNeg)) := i2l_z rfl
          have t17 : (Int64.toInt ((f_row (1 : Int32).toNatClampNeg).toInt64 - 1)) = (Int64.toInt (f_row (1 : Int32).toNatClampNeg).toInt64) - 1 := lsub_z rfl rfl (by omega) (by omega)
          have d18 := c_gt (x := (Int64.toInt a.toInt64)) (y := (Int64.toInt ((f_row (1 : Int32).toNatClampNeg).toInt64 - 1))) rfl rfl c14
          refine br1 (by decide) ?_
          exact hq _ _ _ _ _ ⟨(by decide), ⟨by omega, by omega⟩, h_f_row, h_f_undos, h_f_sorts⟩
        · refine br0 c14 ?_
          have g19 : 0 ≤ (Int32.toInt (f_row (1 : Int32).toNatClampNeg)) ∧ (Int32.toInt (f_row (1 : Int32).toNatClampNeg)) ≤ 5 := RLW.at_1 h_f_row (rfl : ((1 : Nat) : Int) = 1) (by omega) (by omega)
          have t20 : (Int64.toInt (f_row (1 : Int32).toNatClampNeg).toInt64) = (Int32.toInt (f_row (1 : Int32).toNatClampNeg)) := i2l_z rfl
          have t21 : (Int64.toInt ((f_row (1 : Int32).toNatClampNeg).toInt64 - 1)) = (Int64.toInt (f_row (1 : Int32).toNatClampNeg).toInt64) - 1 := lsub_z rfl rfl (by omega) (by omega)
          have d22 := c_ngt (x := (Int64.toInt a.toInt64)) (y := (Int64.toInt ((f_row (1 : Int32).toNatClampNeg).toInt64 - 1))) rfl rfl c14
          refine br0 (by decide) ?_
          refine s_X12_remember 3 h0_nUndo (f_undos) (f_sorts) (f_row) (by decide) ⟨by omega, by omega⟩ h_f_undos h_f_sorts h_f_row (fun u23_0 u23_1 u23_2 H24 => ?_)
          have j25 := H24.1
          have j26 := H24.2.1
          have j27 := H24.2.2
          refine un3_i ?_
          have t28 : (Int32.toInt (28 + a)) = 28 + (Int32.toInt a) := add_z rfl rfl (by omega) (by omega)
          refine ⟨vpi (x := (Int32.toInt (28 + a))) rfl (by omega) (by omega), ?_⟩
          refine ⟨vpi (x := (Int32.toInt (28 + a))) rfl (by omega) (by omega), ?_⟩
          have g29 : 0 ≤ (Int32.toInt (f_row (28 + a).toNatClampNeg)) ∧ (Int32.toInt (f_row (28 + a).toNatClampNeg)) ≤ 7 := RLW.at_28 h_f_row (tnz (x := (Int32.toInt (28 + a))) rfl (by omega)) (by omega) (by omega)
          have R30 : RLW (upd f_row (28 + a).toNatClampNeg b) := RLW.up_28 h_f_row (tnz (x := (Int32.toInt (28 + a))) rfl (by omega)) (by omega) (by omega) (w := (Int32.toInt b)) rfl (by omega) (by omega)
          exact hq _ _ _ _ _ ⟨⟨by omega, by omega⟩, ⟨by omega, by omega⟩, R30, j26, j27⟩


set_option maxRecDepth 100000 in
theorem s_X12_lie (a : Int32) (b : Int32) (h0_nUndo : Int32) (f_row : Nat → Int32) (f_undos : Nat → Int32) (f_sorts : Nat → Int32) (f_refusals : Nat → Int32) (h_h0_nUndo : 0 ≤ h0_nUndo.toInt ∧ h0_nUndo.toInt ≤ 16) (h_f_row : RLW f_row) (h_f_undos : UN f_undos) (h_f_sorts : SO f_sorts) {Q : Int32 → (Int32 × Int32 × Int32 × (Nat → Int32) × (Nat → Int32) × (Nat → Int32) × (Nat → Int32)) → Prop} (hq : ∀ (r : Int32) (u_0 : Int32) (u_1 : Int32) (u_2 : Int32) (u_3 : Nat → Int32) (u_4 : Nat → Int32) (u_5 : Nat → Int32) (u_6 : Nat → Int32), (0 ≤ u_2.toInt ∧ u_2.toInt ≤ 16) ∧ (RLW u_3) ∧ (UN u_4) ∧ (SO u_5) → Q r (u_0, u_1, u_2, u_3, u_4, u_5, u_6)) : wp_X12_lie a b h0_nUndo f_row f_undos f_sorts f_refusals Q := by
  unfold wp_X12_lie
  refine s_X12_lieNow a b h0_nUndo (f_row) (f_undos) (f_sorts) ⟨by omega, by omega⟩ h_f_row h_f_undos h_f_sorts (fun r1 u2_0 u2_1 u2_2 u2_3 H3 => ?_)
  have j4 := H3.1
  have j5 := H3.2.1
  have j6 := H3.2.2.1
  have j7 := H3.2.2.2.1
  have j8 := H3.2.2.2.2
  refine un4_i ?_
  refine o_X12_tell _ _ _ ?_
  refine jn_s ?_
  by_cases c9 : 0 ≤ r1
  · refine br1 c9 ?_
    have d10 := le_z (x := 0) (y := (Int32.toInt r1)) rfl rfl c9
    refine br1 (z_le (x := 0) (y := (Int32.toInt r1)) rfl rfl (by omega)) ?_
    refine un2_i ?_
    exact hq _ _ _ _ _ _ _ _ ⟨⟨by omega, by omega⟩, j6, j7, j8⟩
  · refine br0 c9 ?_
    have d11 := nle_z (x := 0) (y := (Int32.toInt r1)) rfl rfl c9
    refine br0 (z_nle (x := 0) (y := (Int32.toInt r1)) rfl rfl (by omega)) ?_
    have t12 : (Int32.toInt (-r1)) = - (Int32.toInt r1) := neg_z rfl (by omega) (by omega)
    refine ⟨vpi (x := (Int32.toInt (-r1))) rfl (by omega) (by omega), ?_⟩
    refine ⟨vpi (x := (Int32.toInt (-r1))) rfl (by omega) (by omega), ?_⟩
    refine un2_i ?_
    exact hq _ _ _ _ _ _ _ _ ⟨⟨by omega, by omega⟩, j6, j7, j8⟩


set_option maxRecDepth 100000 in
theorem sl_X12_tongue_53 (f_row : Nat → Int32) (x_26_0 : Int32) (h_f_row : RLW f_row) (h_x_26_0 : 0 ≤ x_26_0.toInt ∧ x_26_0.toInt ≤ 63) (Qb : Int32 → Int32 → Prop) (KX : ∀ (x_53_0 : Int32) (x_53_1 : Int32), (0 ≤ x_53_0.toInt ∧ x_53_0.toInt ≤ 0) ∧ (0 ≤ x_53_1.toInt ∧ x_53_1.toInt ≤ 0) → Qb x_53_0 x_53_1) : ∀ (n : Nat) (x_53_0 : Int32) (x_53_1 : Int32), (0 ≤ x_53_0.toInt ∧ x_53_0.toInt ≤ 0) ∧ (0 ≤ x_53_1.toInt ∧ x_53_1.toInt ≤ 0) → 1 - x_53_0.toInt < (n : Int) → wl_X12_tongue_53 f_row x_26_0 Qb n x_53_0 x_53_1 := by
  intro n
  induction n with
  | zero =>
    intro x_53_0 x_53_1 hI hm
    exfalso; have hm : 1 - x_53_0.toInt < 0 := hm; omega
  | succ n ih =>
    intro x_53_0 x_53_1 hI hm
    have hm : 1 - x_53_0.toInt < (n : Int) + 1 := by simpa using hm
    have h_x_53_0 := hI.1
    have h_x_53_1 := hI.2
    unfold wl_X12_tongue_53
    by_cases c18 : (f_row (4 : Int32).toNatClampNeg) ≤ x_53_0
    · refine br1 c18 ?_
      have g19 : 0 ≤ (Int32.toInt (f_row (4 : Int32).toNatClampNeg)) ∧ (Int32.toInt (f_row (4 : Int32).toNatClampNeg)) ≤ 10 := RLW.at_4 h_f_row (rfl : ((4 : Nat) : Int) = 4) (by omega) (by omega)
      have d20 := le_z (x := (Int32.toInt (f_row (4 : Int32).toNatClampNeg))) (y := (Int32.toInt x_53_0)) rfl rfl c18
      exact KX _ _ ⟨⟨by omega, by omega⟩, ⟨by omega, by omega⟩⟩
    · refine br0 c18 ?_
      have g21 : 0 ≤ (Int32.toInt (f_row (4 : Int32).toNatClampNeg)) ∧ (Int32.toInt (f_row (4 : Int32).toNatClampNeg)) ≤ 10 := RLW.at_4 h_f_row (rfl : ((4 : Nat) : Int) = 4) (by omega) (by omega)
      have d22 := nle_z (x := (Int32.toInt (f_row (4 : Int32).toNatClampNeg))) (y := (Int32.toInt x_53_0)) rfl rfl c18
      refine br1 (z_eq (x := (Int32.toInt x_53_1)) (y := 0) rfl rfl (by omega)) ?_
      exact KX _ _ ⟨⟨by omega, by omega⟩, ⟨by omega, by omega⟩⟩
set_option maxRecDepth 100000 in
theorem sl_X12_tongue_53_1 (f_row : Nat → Int32) (x_26_0 : Int32) (h_f_row : RLW f_row) (h_x_26_0 : 0 ≤ x_26_0.toInt ∧ x_26_0.toInt ≤ 63) (Qb : Int32 → Int32 → Prop) (KX : ∀ (x_53_0 : Int32) (x_53_1 : Int32), (0 ≤ x_53_0.toInt ∧ x_53_0.toInt ≤ 10) ∧ (0 ≤ x_53_1.toInt ∧ x_53_1.toInt ≤ 1) → Qb x_53_0 x_53_1) : ∀ (n : Nat) (x_53_0 : Int32) (x_53_1 : Int32), (0 ≤ x_53_0.toInt ∧ x_53_0.toInt ≤ 10) ∧ (0 ≤ x_53_1.toInt ∧ x_53_1.toInt ≤ 1) → 11 - x_53_0.toInt < (n : Int) → wl_X12_tongue_53 f_row x_26_0 Qb n x_53_0 x_53_1 := by
  intro n
  induction n with
  | zero =>
    intro x_53_0 x_53_1 hI hm
    exfalso; have hm : 11 - x_53_0.toInt < 0 := hm; omega
  | succ n ih =>
    intro x_53_0 x_53_1 hI hm
    have hm : 11 - x_53_0.toInt < (n : Int) + 1 := by simpa using hm
    have h_x_53_0 := hI.1
    have h_x_53_1 := hI.2
    unfold wl_X12_tongue_53
    by_cases c26 : (f_row (4 : Int32).toNatClampNeg) ≤ x_53_0
    · refine br1 c26 ?_
      have g27 : 0 ≤ (Int32.toInt (f_row (4 : Int32).toNatClampNeg)) ∧ (Int32.toInt (f_row (4 : Int32).toNatClampNeg)) ≤ 10 := RLW.at_4 h_f_row (rfl : ((4 : Nat) : Int) = 4) (by omega) (by omega)
      have d28 := le_z (x := (Int32.toInt (f_row (4 : Int32).toNatClampNeg))) (y := (Int32.toInt x_53_0)) rfl rfl c26
      exact KX _ _ ⟨⟨by omega, by omega⟩, ⟨by omega, by omega⟩⟩
    · refine br0 c26 ?_
      have g29 : 0 ≤ (Int32.toInt (f_row (4 : Int32).toNatClampNeg)) ∧ (Int32.toInt (f_row (4 : Int32).toNatClampNeg)) ≤ 10 := RLW.at_4 h_f_row (rfl : ((4 : Nat) : Int) = 4) (by omega) (by omega)
      have d30 := nle_z (x := (Int32.toInt (f_row (4 : Int32).toNatClampNeg))) (y := (Int32.toInt x_53_0)) rfl rfl c26
      by_cases c31 : x_53_1 = 0
      · refine br1 c31 ?_
        have d32 := eq_z (x := (Int32.toInt x_53_1)) (y := 0) rfl rfl c31
        exact KX _ _ ⟨⟨by omega, by omega⟩, ⟨by omega, by omega⟩⟩
      · refine br0 c31 ?_
        have d33 := ne_z (x := (Int32.toInt x_53_1)) (y := 0) rfl rfl c31
        have t34 : (Int32.toInt (2 * x_53_0)) = 2 * (Int32.toInt x_53_0) := mul_z rfl rfl (by omega) (by omega)
        have t35 : (Int32.toInt (226 + (2 * x_53_0))) = 226 + (Int32.toInt (2 * x_53_0)) := add_z rfl rfl (by omega) (by omega)
        refine ⟨vpi (x := (Int32.toInt (226 + (2 * x_53_0)))) rfl (by omega) (by omega), ?_⟩
        refine jn_s ?_
        by_cases c36 : (x_26_0 &&& ((f_row (226 + (2 * x_53_0)).toNatClampNeg) ^^^ (-1))) = 0
        · refine br1 c36 ?_
          have g37 : 0 ≤ (Int32.toInt (f_row (226 + (2 * x_53_0)).toNatClampNeg)) ∧ (Int32.toInt (f_row (226 + (2 * x_53_0)).toNatClampNeg)) ≤ 63 := RLW.at_226 h_f_row (tnz (x := (Int32.toInt (226 + (2 * x_53_0)))) rfl (by omega)) (by omega) (by omega)
          have d38 := eq_z (x := (Int32.toInt (x_26_0 &&& ((f_row (226 + (2 * x_53_0)).toNatClampNeg) ^^^ (-1))))) (y := 0) rfl rfl c36
          have t39 : (Int32.toInt ((226 + (2 * x_53_0)) + 1)) = (Int32.toInt (226 + (2 * x_53_0))) + 1 := add_z rfl rfl (by omega) (by omega)
          refine ⟨vpi (x := (Int32.toInt ((226 + (2 * x_53_0)) + 1))) rfl (by omega) (by omega), ?_⟩
          by_cases c40 : (f_row ((226 + (2 * x_53_0)) + 1).toNatClampNeg) = 1
          · refine br1 c40 ?_
            have g41 : 0 ≤ (Int32.toInt (f_row ((226 + (2 * x_53_0)) + 1).toNatClampNeg)) ∧ (Int32.toInt (f_row ((226 + (2 * x_53_0)) + 1).toNatClampNeg)) ≤ 63 := RLW.at_226 h_f_row (tnz (x := (Int32.toInt ((226 + (2 * x_53_0)) + 1))) rfl (by omega)) (by omega) (by omega)
            have d42 := eq_z (x := (Int32.toInt (f_row ((226 + (2 * x_53_0)) + 1).toNatClampNeg))) (y := 1) rfl rfl c40
            refine br1 (by decide) ?_
            have t43 : (Int32.toInt (x_53_0 + 1)) = (Int32.toInt x_53_0) + 1 := add_z rfl rfl (by omega) (by omega)
            exact ih _ _ ⟨⟨by omega, by omega⟩, (by decide)⟩ (by omega)
          · refine br0 c40 ?_
            have g44 : 0 ≤ (Int32.toInt (f_row ((226 + (2 * x_53_0)) + 1).toNatClampNeg)) ∧ (Int32.toInt (f_row ((226 + (2 * x_53_0)) + 1).toNatClampNeg)) ≤ 63 := RLW.at_226 h_f_row (tnz (x := (Int32.toInt ((226 + (2 * x_53_0)) + 1))) rfl (by omega)) (by omega) (by omega)
            have d45 := ne_z (x := (Int32.toInt (f_row ((226 + (2 * x_53_0)) + 1).toNatClampNeg))) (y := 1) rfl rfl c40
            refine br0 (by decide) ?_
            have t46 : (Int32.toInt (x_53_0 + 1)) = (Int32.toInt x_53_0) + 1 := add_z rfl rfl (by omega) (by omega)
            exact ih _ _ ⟨⟨by omega, by omega⟩, (by decide)⟩ (by omega)
        · refine br0 c36 ?_
          have g47 : 0 ≤ (Int32.toInt (f_row (226 + (2 * x_53_0)).toNatClampNeg)) ∧ (Int32.toInt (f_row (226 + (2 * x_53_0)).toNatClampNeg)) ≤ 63 := RLW.at_226 h_f_row (tnz (x := (Int32.toInt (226 + (2 * x_53_0)))) rfl (by omega)) (by omega) (by omega)
          have d48 := ne_z (x := (Int32.toInt (x_26_0 &&& ((f_row (226 + (2 * x_53_0)).toNatClampNeg) ^^^ (-1))))) (y := 0) rfl rfl c36
          have t49 : (Int32.toInt ((226 + (2 * x_53_0)) + 1)) = (Int32.toInt (226 + (2 * x_53_0))) + 1 := add_z rfl rfl (by omega) (by omega)
          refine ⟨vpi (x := (Int32.toInt ((226 + (2 * x_53_0)) + 1))) rfl (by omega) (by omega), ?_⟩
          by_cases c50 : (f_row ((226 + (2 * x_53_0)) + 1).toNatClampNeg) = 1
          · refine br1 c50 ?_
            have g51 : 0 ≤ (Int32.toInt (f_row ((226 + (2 * x_53_0)) + 1).toNatClampNeg)) ∧ (Int32.toInt (f_row ((226 + (2 * x_53_0)) + 1).toNatClampNeg)) ≤ 63 := RLW.at_226 h_f_row (tnz (x := (Int32.toInt ((226 + (2 * x_53_0)) + 1))) rfl (by omega)) (by omega) (by omega)
            have d52 := eq_z (x := (Int32.toInt (f_row ((226 + (2 * x_53_0)) + 1).toNatClampNeg))) (y := 1) rfl rfl c50
            refine br0 (by decide) ?_
            have t53 : (Int32.toInt (x_53_0 + 1)) = (Int32.toInt x_53_0) + 1 := add_z rfl rfl (by omega) (by omega)
            exact ih _ _ ⟨⟨by omega, by omega⟩, (by decide)⟩ (by omega)
          · refine br0 c50 ?_
            have g54 : 0 ≤ (Int32.toInt (f_row ((226 + (2 * x_53_0)) + 1).toNatClampNeg)) ∧ (Int32.toInt (f_row ((226 + (2 * x_53_0)) + 1).toNatClampNeg)) ≤ 63 := RLW.at_226 h_f_row (tnz (x := (Int32.toInt ((226 + (2 * x_53_0)) + 1))) rfl (by omega)) (by omega) (by omega)
            have d55 := ne_z (x := (Int32.toInt (f_row ((226 + (2 * x_53_0)) + 1).toNatClampNeg))) (y := 1) rfl rfl c50
            refine br1 (by decide) ?_
            have t56 : (Int32.toInt (x_53_0 + 1)) = (Int32.toInt x_53_0) + 1 := add_z rfl rfl (by omega) (by omega)
            exact ih _ _ ⟨⟨by omega, by omega⟩, (by decide)⟩ (by omega)
set_option maxRecDepth 100000 in
theorem sl_X12_tongue_26 (f_row : Nat → Int32) (h_f_row : RLW f_row) (Qb : Int32 → Int32 → Int32 → Prop) (KX : ∀ (x_26_0 : Int32) (x_26_1 : Int32) (x_26_2 : Int32), (64 ≤ x_26_0.toInt ∧ x_26_0.toInt ≤ 64) ∧ ((-1) ≤ x_26_1.toInt ∧ x_26_1.toInt ≤ 2147483647) ∧ (0 ≤ x_26_2.toInt ∧ x_26_2.toInt ≤ 100000000) → Qb x_26_0 x_26_1 x_26_2) : ∀ (n : Nat) (x_26_0 : Int32) (x_26_1 : Int32) (x_26_2 : Int32), (0 ≤ x_26_0.toInt ∧ x_26_0.toInt ≤ 64) ∧ ((-1) ≤ x_26_1.toInt ∧ x_26_1.toInt ≤ 2147483647) ∧ (0 ≤ x_26_2.toInt ∧ x_26_2.toInt ≤ 100000000) → 65 - x_26_0.toInt < (n : Int) → wl_X12_tongue_26 f_row Qb n x_26_0 x_26_1 x_26_2 := by
  intro n
  induction n with
  | zero =>
    intro x_26_0 x_26_1 x_26_2 hI hm
    exfalso; have hm : 65 - x_26_0.toInt < 0 := hm; omega
  | succ n ih =>
    intro x_26_0 x_26_1 x_26_2 hI hm
    have hm : 65 - x_26_0.toInt < (n : Int) + 1 := by simpa using hm
    have h_x_26_0 := hI.1
    have h_x_26_1 := hI.2.1
    have h_x_26_2 := hI.2.2
    unfold wl_X12_tongue_26
    by_cases c9 : 64 ≤ x_26_0
    · refine br1 c9 ?_
      have d10 := le_z (x := 64) (y := (Int32.toInt x_26_0)) rfl rfl c9
      have t11 := i32_hi x_26_1
      exact KX _ _ _ ⟨⟨by omega, by omega⟩, ⟨by omega, by omega⟩, ⟨by omega, by omega⟩⟩
    · refine br0 c9 ?_
      have d12 := nle_z (x := 64) (y := (Int32.toInt x_26_0)) rfl rfl c9
      refine s_X12_ones x_26_0.toInt64  (fun r13 H14 => ?_)
      have j15 := H14
      refine jn_s ?_
      by_cases c16 : x_26_2 ≤ r13
      · refine br1 c16 ?_
        have d17 := le_z (x := (Int32.toInt x_26_2)) (y := (Int32.toInt r13)) rfl rfl c16
        have k20 : Int32.toInt 0 = 0 := rfl
        refine sl_X12_tongue_53 (f_row) x_26_0 h_f_row ⟨by omega, by omega⟩ _ (fun x18_0 x18_1 X19 => ?_) 1000000000000 0 0 ⟨(by decide), (by decide)⟩ (by omega)
        have j21 := X19.1
        have j22 := X19.2
        refine jn_s ?_
        refine br1 (z_eq (x := (Int32.toInt x18_1)) (y := 0) rfl rfl (by omega)) ?_
        refine br1 (z_eq (x := (Int32.toInt x18_1)) (y := 0) rfl rfl (by omega)) ?_
        have t23 : (Int32.toInt (x_26_0 + 1)) = (Int32.toInt x_26_0) + 1 := add_z rfl rfl (by omega) (by omega)
        have t24 := i32_hi x_26_1
        exact ih _ _ _ ⟨⟨by omega, by omega⟩, ⟨by omega, by omega⟩, ⟨by omega, by omega⟩⟩ (by omega)
      · refine br0 c16 ?_
        have d25 := nle_z (x := (Int32.toInt x_26_2)) (y := (Int32.toInt r13)) rfl rfl c16
        have k28 : Int32.toInt 0 = 0 := rfl
        have k29 : Int32.toInt 1 = 1 := rfl
        refine sl_X12_tongue_53_1 (f_row) x_26_0 h_f_row ⟨by omega, by omega⟩ _ (fun x26_0 x26_1 X27 => ?_) 1000000000000 0 1 ⟨(by decide), (by decide)⟩ (by omega)
        have j30 := X27.1
        have j31 := X27.2
        refine jn_s ?_
        by_cases c32 : x26_1 = 0
        · refine br1 c32 ?_
          have d33 := eq_z (x := (Int32.toInt x26_1)) (y := 0) rfl rfl c32
          refine br1 (z_eq (x := (Int32.toInt x26_1)) (y := 0) rfl rfl (by omega)) ?_
          have t34 : (Int32.toInt (x_26_0 + 1)) = (Int32.toInt x_26_0) + 1 := add_z rfl rfl (by omega) (by omega)
          have t35 := i32_hi x_26_1
          exact ih _ _ _ ⟨⟨by omega, by omega⟩, ⟨by omega, by omega⟩, ⟨by omega, by omega⟩⟩ (by omega)
        · refine br0 c32 ?_
          have d36 := ne_z (x := (Int32.toInt x26_1)) (y := 0) rfl rfl c32
          refine br0 (z_ne (x := (Int32.toInt x26_1)) (y := 0) rfl rfl (by omega)) ?_
          refine s_X12_ones x_26_0.toInt64  (fun r37 H38 => ?_)
          have j39 := H38
          have t40 : (Int32.toInt (x_26_0 + 1)) = (Int32.toInt x_26_0) + 1 := add_z rfl rfl (by omega) (by omega)
          have t41 := i32_hi x_26_0
          exact ih _ _ _ ⟨⟨by omega, by omega⟩, ⟨by omega, by omega⟩, ⟨by omega, by omega⟩⟩ (by omega)
set_option maxRecDepth 100000 in
theorem s_X12_tongue (a : Int32) (f_row : Nat → Int32) (h_f_row : RLW f_row) {Q : Int32 → Int32 → Prop} (hq : ∀ (r : Int32) (u : Int32), True → Q r u) : wp_X12_tongue a f_row Q := by
  unfold wp_X12_tongue
  refine o_X12_in _ _ _ _ ?_
  by_cases c1 : (lg_cmp a.toInt64 0) < 0
  · refine br1 c1 ?_
    have t2 : (Int64.toInt a.toInt64) = (Int32.toInt a) := i2l_z rfl
    have d3 := c_lt (x := (Int64.toInt a.toInt64)) (y := 0) rfl rfl c1
    refine br1 (by decide) ?_
    exact hq _ _ trivial
  · refine br0 c1 ?_
    have t4 : (Int64.toInt a.toInt64) = (Int32.toInt a) := i2l_z rfl
    have d5 := c_nlt (x := (Int64.toInt a.toInt64)) (y := 0) rfl rfl c1
    by_cases c6 : 0 < (lg_cmp a.toInt64 1)
    · refine br1 c6 ?_
      have d7 := c_gt (x := (Int64.toInt a.toInt64)) (y := 1) rfl rfl c6
      refine br1 (by decide) ?_
      exact hq _ _ trivial
    · refine br0 c6 ?_
      have d8 := c_ngt (x := (Int64.toInt a.toInt64)) (y := 1) rfl rfl c6
      refine br0 (by decide) ?_
      have k11 : Int32.toInt 0 = 0 := rfl
      have k12 : Int32.toInt (-1) = (-1) := (by decide)
      have k13 : Int32.toInt 100000000 = 100000000 := rfl
      refine sl_X12_tongue_26 (f_row) h_f_row _ (fun x9_0 x9_1 x9_2 X10 => ?_) 1000000000000 0 (-1) 100000000 ⟨(by decide), (by decide), (by decide)⟩ (by omega)
      have j14 := X10.1
      have j15 := X10.2.1
      have j16 := X10.2.2
      by_cases c17 : x9_1 = (-1)
      · refine br1 c17 ?_
        have d18 := eq_z (x := (Int32.toInt x9_1)) (y := (-1)) rfl (by decide) c17
        exact hq _ _ trivial
      · refine br0 c17 ?_
        have d19 := ne_z (x := (Int32.toInt x9_1)) (y := (-1)) rfl (by decide) c17
        by_cases c20 : a = 1
        · refine br1 c20 ?_
          have d21 := eq_z (x := (Int32.toInt a)) (y := 1) rfl rfl c20
          exact hq _ _ trivial
        · refine br0 c20 ?_
          have d22 := ne_z (x := (Int32.toInt a)) (y := 1) rfl rfl c20
          exact hq _ _ trivial


set_option maxRecDepth 100000 in
theorem s_X12_cellBy (a : Int32) (b : Int32) (h_a : 0 ≤ a.toInt ∧ a.toInt ≤ 39) (h_b : 0 ≤ b.toInt ∧ b.toInt ≤ 2) {Q : Int32 → Prop} (hq : ∀ (r : Int32), ((-1) ≤ r.toInt ∧ r.toInt ≤ 39) → Q r) : wp_X12_cellBy a b Q := by
  unfold wp_X12_cellBy
  by_cases c1 : b = 1
  · refine br1 c1 ?_
    have d2 := eq_z (x := (Int32.toInt b)) (y := 1) rfl rfl c1
    by_cases c3 : 40 ≤ (a + 8)
    · refine br1 c3 ?_
      have t4 : (Int32.toInt (a + 8)) = (Int32.toInt a) + 8 := add_z rfl rfl (by omega) (by omega)
      have d5 := le_z (x := 40) (y := (Int32.toInt (a + 8))) rfl rfl c3
      exact hq _ (by decide)
    · refine br0 c3 ?_
      have t6 : (Int32.toInt (a + 8)) = (Int32.toInt a) + 8 := add_z rfl rfl (by omega) (by omega)
      have d7 := nle_z (x := 40) (y := (Int32.toInt (a + 8))) rfl rfl c3
      exact hq _ ⟨by omega, by omega⟩
  · refine br0 c1 ?_
    have d8 := ne_z (x := (Int32.toInt b)) (y := 1) rfl rfl c1
    refine o_X12_isColumn _ _ ?_
    refine o_X12_in _ _ _ _ ?_
    by_cases c9 : (lg_cmp (((a - a / 8 * 8) + b) - 1).toInt64 0) < 0
    · refine br1 c9 ?_
      have t10 : (Int32.toInt (a - a / 8 * 8)) = (Int32.toInt a) % 8 := rem_z rfl rfl (by omega) (by omega)
      have t11 : (Int32.toInt ((a - a / 8 * 8) + b)) = (Int32.toInt (a - a / 8 * 8)) + (Int32.toInt b) := add_z rfl rfl (by omega) (by omega)
      have t12 : (Int32.toInt (((a - a / 8 * 8) + b) - 1)) = (Int32.toInt ((a - a / 8 * 8) + b)) - 1 := sub_z rfl rfl (by omega) (by omega)
      have t13 : (Int64.toInt (((a - a / 8 * 8) + b) - 1).toInt64) = (Int32.toInt (((a - a / 8 * 8) + b) - 1)) := i2l_z rfl
      have d14 := c_lt (x := (Int64.toInt (((a - a / 8 * 8) + b) - 1).toInt64)) (y := 0) rfl rfl c9
      refine br1 (by decide) ?_
      exact hq _ (by decide)
    · refine br0 c9 ?_
      have t15 : (Int32.toInt (a - a / 8 * 8)) = (Int32.toInt a) % 8 := rem_z rfl rfl (by omega) (by omega)
      have t16 : (Int32.toInt ((a - a / 8 * 8) + b)) = (Int32.toInt (a - a / 8 * 8)) + (Int32.toInt b) := add_z rfl rfl (by omega) (by omega)
      have t17 : (Int32.toInt (((a - a / 8 * 8) + b) - 1)) = (Int32.toInt ((a - a / 8 * 8) + b)) - 1 := sub_z rfl rfl (by omega) (by omega)
      have t18 : (Int64.toInt (((a - a / 8 * 8) + b) - 1).toInt64) = (Int32.toInt (((a - a / 8 * 8) + b) - 1)) := i2l_z rfl
      have d19 := c_nlt (x := (Int64.toInt (((a - a / 8 * 8) + b) - 1).toInt64)) (y := 0) rfl rfl c9
      by_cases c20 : 0 < (lg_cmp (((a - a / 8 * 8) + b) - 1).toInt64 7)
      · refine br1 c20 ?_
        have d21 := c_gt (x := (Int64.toInt (((a - a / 8 * 8) + b) - 1).toInt64)) (y := 7) rfl rfl c20
        refine br1 (by decide) ?_
        exact hq _ (by decide)
      · refine br0 c20 ?_
        have d22 := c_ngt (x := (Int64.toInt (((a - a / 8 * 8) + b) - 1).toInt64)) (y := 7) rfl rfl c20
        refine br0 (by decide) ?_
        have t23 : (Int32.toInt (a + b)) = (Int32.toInt a) + (Int32.toInt b) := add_z rfl rfl (by omega) (by omega)
        have t24 : (Int32.toInt ((a + b) - 1)) = (Int32.toInt (a + b)) - 1 := sub_z rfl rfl (by omega) (by omega)
        exact hq _ ⟨by omega, by omega⟩


set_option maxRecDepth 100000 in
theorem s_X12_areBeside (a : Int32) (b : Int32) (h_a : 0 ≤ a.toInt ∧ a.toInt ≤ 39) (h_b : 0 ≤ b.toInt ∧ b.toInt ≤ 39) {Q : Int32 → Prop} (hq : ∀ (r : Int32), (0 ≤ r.toInt ∧ r.toInt ≤ 1) → Q r) : wp_X12_areBeside a b Q := by
  unfold wp_X12_areBeside
  have t1 : (Int32.toInt (a - a / 8 * 8)) = (Int32.toInt a) % 8 := rem_z rfl rfl (by omega) (by omega)
  have t2 : (Int32.toInt (b - b / 8 * 8)) = (Int32.toInt b) % 8 := rem_z rfl rfl (by omega) (by omega)
  refine s_X12_apart (a - a / 8 * 8) (b - b / 8 * 8) ⟨by omega, by omega⟩ ⟨by omega, by omega⟩ (fun r3 H4 => ?_)
  have j5 := H4
  have t6 : (Int32.toInt (a / 8)) = (Int32.toInt a) / 8 := div_z rfl rfl (by omega) (by omega)
  have t7 : (Int32.toInt (b / 8)) = (Int32.toInt b) / 8 := div_z rfl rfl (by omega) (by omega)
  refine s_X12_apart (a / 8) (b / 8) ⟨by omega, by omega⟩ ⟨by omega, by omega⟩ (fun r8 H9 => ?_)
  have j10 := H9
  by_cases c11 : (r3 + r8) = 1
  · refine br1 c11 ?_
    have t12 : (Int32.toInt (r3 + r8)) = (Int32.toInt r3) + (Int32.toInt r8) := add_z rfl rfl (by omega) (by omega)
    have d13 := eq_z (x := (Int32.toInt (r3 + r8))) (y := 1) rfl rfl c11
    exact hq _ (by decide)
  · refine br0 c11 ?_
    have t14 : (Int32.toInt (r3 + r8)) = (Int32.toInt r3) + (Int32.toInt r8) := add_z rfl rfl (by omega) (by omega)
    have d15 := ne_z (x := (Int32.toInt (r3 + r8))) (y := 1) rfl rfl c11
    exact hq _ (by decide)


set_option maxRecDepth 100000 in
theorem sl_X12_waterOf_5 (a : Int64) (f_row : Nat → Int32) (h_f_row : RLW f_row) (Qb : Int32 → Int32 → Prop) (KX : ∀ (x_5_0 : Int32) (x_5_1 : Int32), (40 ≤ x_5_0.toInt ∧ x_5_0.toInt ≤ 40) → Qb x_5_0 x_5_1) : ∀ (n : Nat) (x_5_0 : Int32) (x_5_1 : Int32), (0 ≤ x_5_0.toInt ∧ x_5_0.toInt ≤ 40) → 41 - x_5_0.toInt < (n : Int) → wl_X12_waterOf_5 a f_row Qb n x_5_0 x_5_1 := by
  intro n
  induction n with
  | zero =>
    intro x_5_0 x_5_1 hI hm
    exfalso; have hm : 41 - x_5_0.toInt < 0 := hm; omega
  | succ n ih =>
    intro x_5_0 x_5_1 hI hm
    have hm : 41 - x_5_0.toInt < (n : Int) + 1 := by simpa using hm
    have h_x_5_0 := hI
    unfold wl_X12_waterOf_5
    by_cases c1 : 40 ≤ x_5_0
    · refine br1 c1 ?_
      have d2 := le_z (x := 40) (y := (Int32.toInt x_5_0)) rfl rfl c1
      exact KX _ _ ⟨by omega, by omega⟩
    · refine br0 c1 ?_
      have d3 := nle_z (x := 40) (y := (Int32.toInt x_5_0)) rfl rfl c1
      refine o_X12_is _ _ _ ?_
      by_cases c4 : (lg_cmp ((a >>> (x_5_0.toInt64 &&& 63)) &&& 1) 1) = 0
      · refine br1 c4 ?_
        have d5 := c_eq (x := (Int64.toInt ((a >>> (x_5_0.toInt64 &&& 63)) &&& 1))) (y := 1) rfl rfl c4
        refine br0 (by decide) ?_
        have t6 : (Int32.toInt (73 + x_5_0)) = 73 + (Int32.toInt x_5_0) := add_z rfl rfl (by omega) (by omega)
        refine ⟨vpi (x := (Int32.toInt (73 + x_5_0))) rfl (by omega) (by omega), ?_⟩
        have t7 : (Int32.toInt (x_5_0 + 1)) = (Int32.toInt x_5_0) + 1 := add_z rfl rfl (by omega) (by omega)
        have g8 : 0 ≤ (Int32.toInt (f_row (73 + x_5_0).toNatClampNeg)) ∧ (Int32.toInt (f_row (73 + x_5_0).toNatClampNeg)) ≤ 99 := RLW.at_73 h_f_row (tnz (x := (Int32.toInt (73 + x_5_0))) rfl (by omega)) (by omega) (by omega)
        exact ih _ _ ⟨by omega, by omega⟩ (by omega)
      · refine br0 c4 ?_
        have d9 := c_ne (x := (Int64.toInt ((a >>> (x_5_0.toInt64 &&& 63)) &&& 1))) (y := 1) rfl rfl c4
        refine br1 (by decide) ?_
        have t10 : (Int32.toInt (x_5_0 + 1)) = (Int32.toInt x_5_0) + 1 := add_z rfl rfl (by omega) (by omega)
        exact ih _ _ ⟨by omega, by omega⟩ (by omega)
set_option maxRecDepth 100000 in
theorem s_X12_waterOf (a : Int64) (f_row : Nat → Int32) (h_f_row : RLW f_row) {Q : Int32 → Prop} (hq : ∀ (r : Int32), True → Q r) : wp_X12_waterOf a f_row Q := by
  unfold wp_X12_waterOf
  have k3 : Int32.toInt 0 = 0 := rfl
  refine sl_X12_waterOf_5 a (f_row) h_f_row _ (fun x1_0 x1_1 X2 => ?_) 1000000000000 0 0 (by decide) (by omega)
  have j4 := X2
  exact hq _ trivial


set_option maxRecDepth 100000 in
theorem sl_X12_shaftsIn_5 (a : Int64) (f_row : Nat → Int32) (h_f_row : RLW f_row) (Qb : Int32 → Int32 → Prop) (KX : ∀ (x_5_0 : Int32) (x_5_1 : Int32), (0 ≤ x_5_0.toInt ∧ x_5_0.toInt ≤ 6) ∧ (0 ≤ x_5_1.toInt ∧ x_5_1.toInt ≤ 6) ∧ (x_5_1.toInt ≤ x_5_0.toInt) → Qb x_5_0 x_5_1) : ∀ (n : Nat) (x_5_0 : Int32) (x_5_1 : Int32), (0 ≤ x_5_0.toInt ∧ x_5_0.toInt ≤ 6) ∧ (0 ≤ x_5_1.toInt ∧ x_5_1.toInt ≤ 6) ∧ (x_5_1.toInt ≤ x_5_0.toInt) → 7 - x_5_0.toInt < (n : Int) → wl_X12_shaftsIn_5 a f_row Qb n x_5_0 x_5_1 := by
  intro n
  induction n with
  | zero =>
    intro x_5_0 x_5_1 hI hm
    exfalso; have hm : 7 - x_5_0.toInt < 0 := hm; omega
  | succ n ih =>
    intro x_5_0 x_5_1 hI hm
    have hm : 7 - x_5_0.toInt < (n : Int) + 1 := by simpa using hm
    have h_x_5_0 := hI.1
    have h_x_5_1 := hI.2.1
    have h_rel0 := hI.2.2
    unfold wl_X12_shaftsIn_5
    by_cases c1 : (f_row (0 : Int32).toNatClampNeg) ≤ x_5_0
    · refine br1 c1 ?_
      have g2 : 0 ≤ (Int32.toInt (f_row (0 : Int32).toNatClampNeg)) ∧ (Int32.toInt (f_row (0 : Int32).toNatClampNeg)) ≤ 6 := RLW.at_0 h_f_row (rfl : ((0 : Nat) : Int) = 0) (by omega) (by omega)
      have d3 := le_z (x := (Int32.toInt (f_row (0 : Int32).toNatClampNeg))) (y := (Int32.toInt x_5_0)) rfl rfl c1
      exact KX _ _ ⟨⟨by omega, by omega⟩, ⟨by omega, by omega⟩, (by omega)⟩
    · refine br0 c1 ?_
      have g4 : 0 ≤ (Int32.toInt (f_row (0 : Int32).toNatClampNeg)) ∧ (Int32.toInt (f_row (0 : Int32).toNatClampNeg)) ≤ 6 := RLW.at_0 h_f_row (rfl : ((0 : Nat) : Int) = 0) (by omega) (by omega)
      have d5 := nle_z (x := (Int32.toInt (f_row (0 : Int32).toNatClampNeg))) (y := (Int32.toInt x_5_0)) rfl rfl c1
      have t6 : (Int32.toInt (10 + x_5_0)) = 10 + (Int32.toInt x_5_0) := add_z rfl rfl (by omega) (by omega)
      refine ⟨vpi (x := (Int32.toInt (10 + x_5_0))) rfl (by omega) (by omega), ?_⟩
      refine o_X12_is _ _ _ ?_
      by_cases c7 : (lg_cmp ((a >>> ((f_row (10 + x_5_0).toNatClampNeg).toInt64 &&& 63)) &&& 1) 1) = 0
      · refine br1 c7 ?_
        have g8 : 0 ≤ (Int32.toInt (f_row (10 + x_5_0).toNatClampNeg)) ∧ (Int32.toInt (f_row (10 + x_5_0).toNatClampNeg)) ≤ 39 := RLW.at_10 h_f_row (tnz (x := (Int32.toInt (10 + x_5_0))) rfl (by omega)) (by omega) (by omega)
        have d9 := c_eq (x := (Int64.toInt ((a >>> ((f_row (10 + x_5_0).toNatClampNeg).toInt64 &&& 63)) &&& 1))) (y := 1) rfl rfl c7
        refine br0 (by decide) ?_
        have t10 : (Int32.toInt (x_5_0 + 1)) = (Int32.toInt x_5_0) + 1 := add_z rfl rfl (by omega) (by omega)
        have t11 : (Int32.toInt (x_5_1 + 1)) = (Int32.toInt x_5_1) + 1 := add_z rfl rfl (by omega) (by omega)
        exact ih _ _ ⟨⟨by omega, by omega⟩, ⟨by omega, by omega⟩, (by omega)⟩ (by omega)
      · refine br0 c7 ?_
        have g12 : 0 ≤ (Int32.toInt (f_row (10 + x_5_0).toNatClampNeg)) ∧ (Int32.toInt (f_row (10 + x_5_0).toNatClampNeg)) ≤ 39 := RLW.at_10 h_f_row (tnz (x := (Int32.toInt (10 + x_5_0))) rfl (by omega)) (by omega) (by omega)
        have d13 := c_ne (x := (Int64.toInt ((a >>> ((f_row (10 + x_5_0).toNatClampNeg).toInt64 &&& 63)) &&& 1))) (y := 1) rfl rfl c7
        refine br1 (by decide) ?_
        have t14 : (Int32.toInt (x_5_0 + 1)) = (Int32.toInt x_5_0) + 1 := add_z rfl rfl (by omega) (by omega)
        have t15 : (Int32.toInt (x_5_1 + 0)) = (Int32.toInt x_5_1) + 0 := add_z rfl rfl (by omega) (by omega)
        exact ih _ _ ⟨⟨by omega, by omega⟩, ⟨by omega, by omega⟩, (by omega)⟩ (by omega)
set_option maxRecDepth 100000 in
theorem s_X12_shaftsIn (a : Int64) (f_row : Nat → Int32) (h_f_row : RLW f_row) {Q : Int32 → Prop} (hq : ∀ (r : Int32), (0 ≤ r.toInt ∧ r.toInt ≤ 6) → Q r) : wp_X12_shaftsIn a f_row Q := by
  unfold wp_X12_shaftsIn
  have k3 : Int32.toInt 0 = 0 := rfl
  refine sl_X12_shaftsIn_5 a (f_row) h_f_row _ (fun x1_0 x1_1 X2 => ?_) 1000000000000 0 0 ⟨(by decide), (by decide), (by omega)⟩ (by omega)
  have j4 := X2.1
  have j5 := X2.2.1
  have j6 := X2.2.2
  exact hq _ ⟨by omega, by omega⟩

