set_option maxRecDepth 100000 in
theorem s_X12_feedx (a : Int32) (b : Int32) (d : Int32) (g : Int32) (k : Int32) (h0_taped : Int32) (f_tape : Nat → Int32) (h_h0_taped : 0 ≤ h0_taped.toInt ∧ h0_taped.toInt ≤ 400) (h_f_tape : TP f_tape) {Q : Int32 → (Int32 × Int32 × (Nat → Int32)) → Prop} (hq : ∀ (r : Int32) (u_0 : Int32) (u_1 : Int32) (u_2 : Nat → Int32), (0 ≤ u_1.toInt ∧ u_1.toInt ≤ 400) ∧ (TP u_2) ∧ (r = fdR h0_taped ∧ u_1 = fdL h0_taped) → Q r (u_0, u_1, u_2)) : wp_X12_feed a b d g k h0_taped f_tape Q := by
  unfold wp_X12_feed
  by_cases c1 : (h0_taped + 20) ≤ 400
  · refine br1 c1 ?_
    have t2 : (Int32.toInt (h0_taped + 20)) = (Int32.toInt h0_taped) + 20 := add_z rfl rfl (by omega) (by omega)
    have d3 := le_z (x := (Int32.toInt (h0_taped + 20))) (y := 400) rfl rfl c1
    refine s_X12_four a h0_taped (f_tape) ⟨by omega, by omega⟩ h_f_tape (fun u4_0 u4_1 H5 => ?_)
    have j6 := H5.1
    have j7 := H5.2.1
    have j8 := H5.2.2
    refine un2_i ?_
    refine s_X12_four b u4_0 (u4_1) ⟨by omega, by omega⟩ j7 (fun u9_0 u9_1 H10 => ?_)
    have j11 := H10.1
    have j12 := H10.2.1
    have j13 := H10.2.2
    refine un2_i ?_
    refine s_X12_four d u9_0 (u9_1) ⟨by omega, by omega⟩ j12 (fun u14_0 u14_1 H15 => ?_)
    have j16 := H15.1
    have j17 := H15.2.1
    have j18 := H15.2.2
    refine un2_i ?_
    refine s_X12_four g u14_0 (u14_1) ⟨by omega, by omega⟩ j17 (fun u19_0 u19_1 H20 => ?_)
    have j21 := H20.1
    have j22 := H20.2.1
    have j23 := H20.2.2
    refine un2_i ?_
    refine s_X12_four k u19_0 (u19_1) ⟨by omega, by omega⟩ j22 (fun u24_0 u24_1 H25 => ?_)
    have j26 := H25.1
    have j27 := H25.2.1
    have j28 := H25.2.2
    refine un2_i ?_
    have k29 : Int32.toInt 0 = 0 := rfl
    exact hq _ _ _ _ ⟨⟨by omega, by omega⟩, j27, (by first | exact fd_p (by omega) (by omega) (by omega) (by omega) | exact fd_n (by omega))⟩
  · refine br0 c1 ?_
    have t30 : (Int32.toInt (h0_taped + 20)) = (Int32.toInt h0_taped) + 20 := add_z rfl rfl (by omega) (by omega)
    have d31 := nle_z (x := (Int32.toInt (h0_taped + 20))) (y := 400) rfl rfl c1
    have k32 : Int32.toInt (-1) = (-1) := (by decide)
    have k33 : Int32.toInt 0 = 0 := rfl
    exact hq _ _ _ _ ⟨⟨by omega, by omega⟩, h_f_tape, (by first | exact fd_p (by omega) (by omega) (by omega) (by omega) | exact fd_n (by omega))⟩


set_option maxRecDepth 100000 in
theorem s_X12_endx (a : Int32) (h0_taped : Int32) (h_h0_taped : 0 ≤ h0_taped.toInt ∧ h0_taped.toInt ≤ 400) {Q : Int32 → (Int32 × Int32) → Prop} (hq : ∀ (r : Int32) (u_0 : Int32) (u_1 : Int32), (0 ≤ u_1.toInt ∧ u_1.toInt ≤ 400) ∧ (r = enR a h0_taped ∧ u_1 = enL a h0_taped) → Q r (u_0, u_1)) : wp_X12_end a h0_taped Q := by
  unfold wp_X12_end
  by_cases c1 : a < 0
  · refine br1 c1 ?_
    have d2 := lt_z (x := (Int32.toInt a)) (y := 0) rfl rfl c1
    have k3 : Int32.toInt (-1) = (-1) := (by decide)
    have k4 : Int32.toInt 0 = 0 := rfl
    exact hq _ _ _ ⟨⟨by omega, by omega⟩, (by first | exact en_p (by omega) (by omega) | exact en_n (by omega))⟩
  · refine br0 c1 ?_
    have d5 := nlt_z (x := (Int32.toInt a)) (y := 0) rfl rfl c1
    by_cases c6 : a ≤ h0_taped
    · refine br1 c6 ?_
      have d7 := le_z (x := (Int32.toInt a)) (y := (Int32.toInt h0_taped)) rfl rfl c6
      have k8 : Int32.toInt 0 = 0 := rfl
      exact hq _ _ _ ⟨⟨by omega, by omega⟩, (by first | exact en_p (by omega) (by omega) | exact en_n (by omega))⟩
    · refine br0 c6 ?_
      have d9 := nle_z (x := (Int32.toInt a)) (y := (Int32.toInt h0_taped)) rfl rfl c6
      have k10 : Int32.toInt (-1) = (-1) := (by decide)
      have k11 : Int32.toInt 0 = 0 := rfl
      exact hq _ _ _ ⟨⟨by omega, by omega⟩, (by first | exact en_p (by omega) (by omega) | exact en_n (by omega))⟩


set_option maxRecDepth 100000 in
theorem sl_X12_row_35x (h0_taped : Int32) (f_tape : Nat → Int32) (h_h0_taped : 1 ≤ h0_taped.toInt ∧ h0_taped.toInt ≤ 400) (h_f_tape : TP f_tape) (Qb : Int32 → Int32 → Int32 → (Nat → Int32) → Prop) (KX : ∀ (x_35_0 : Int32) (x_35_1 : Int32) (x_35_2 : Int32) (x_35_3 : Nat → Int32), (1 ≤ x_35_0.toInt ∧ x_35_0.toInt ≤ 402) ∧ (0 ≤ x_35_1.toInt ∧ x_35_1.toInt ≤ 134) ∧ (RLW x_35_3) ∧ (3 * x_35_1.toInt ≤ x_35_0.toInt) → Qb x_35_0 x_35_1 x_35_2 x_35_3) : ∀ (n : Nat) (x_35_0 : Int32) (x_35_1 : Int32) (x_35_2 : Int32) (x_35_3 : Nat → Int32), (0 ≤ x_35_0.toInt ∧ x_35_0.toInt ≤ 402) ∧ (0 ≤ x_35_1.toInt ∧ x_35_1.toInt ≤ 134) ∧ (RLW x_35_3) ∧ (3 * x_35_1.toInt ≤ x_35_0.toInt) → 403 - x_35_0.toInt < (n : Int) → wl_X12_row_35 h0_taped f_tape Qb n x_35_0 x_35_1 x_35_2 x_35_3 := by
  intro n
  induction n with
  | zero =>
    intro x_35_0 x_35_1 x_35_2 x_35_3 hI hm
    exfalso; have hm : 403 - x_35_0.toInt < 0 := hm; omega
  | succ n ih =>
    intro x_35_0 x_35_1 x_35_2 x_35_3 hI hm
    have hm : 403 - x_35_0.toInt < (n : Int) + 1 := by simpa using hm
    have h_x_35_0 := hI.1
    have h_x_35_1 := hI.2.1
    have h_x_35_3 := hI.2.2.1
    have h_rel0 := hI.2.2.2
    unfold wl_X12_row_35
    by_cases c6 : h0_taped ≤ x_35_0
    · refine br1 c6 ?_
      have d7 := le_z (x := (Int32.toInt h0_taped)) (y := (Int32.toInt x_35_0)) rfl rfl c6
      exact KX _ _ _ _ ⟨⟨by omega, by omega⟩, ⟨by omega, by omega⟩, h_x_35_3, (by omega)⟩
    · refine br0 c6 ?_
      have d8 := nle_z (x := (Int32.toInt h0_taped)) (y := (Int32.toInt x_35_0)) rfl rfl c6
      by_cases c9 : h0_taped ≤ (x_35_0 + 2)
      · refine br1 c9 ?_
        have t10 : (Int32.toInt (x_35_0 + 2)) = (Int32.toInt x_35_0) + 2 := add_z rfl rfl (by omega) (by omega)
        have d11 := le_z (x := (Int32.toInt h0_taped)) (y := (Int32.toInt (x_35_0 + 2))) rfl rfl c9
        have t12 : (Int32.toInt (x_35_0 + 3)) = (Int32.toInt x_35_0) + 3 := add_z rfl rfl (by omega) (by omega)
        exact ih _ _ _ _ ⟨⟨by omega, by omega⟩, ⟨by omega, by omega⟩, h_x_35_3, (by omega)⟩ (by omega)
      · refine br0 c9 ?_
        have t13 : (Int32.toInt (x_35_0 + 2)) = (Int32.toInt x_35_0) + 2 := add_z rfl rfl (by omega) (by omega)
        have d14 := nle_z (x := (Int32.toInt h0_taped)) (y := (Int32.toInt (x_35_0 + 2))) rfl rfl c9
        refine o_X12_isCell _ _ ?_
        refine o_X12_in _ _ _ _ ?_
        have t15 : (Int32.toInt (x_35_0 / 3)) = (Int32.toInt x_35_0) / 3 := div_z rfl rfl (by omega) (by omega)
        have t16 : (Int64.toInt (x_35_0 / 3).toInt64) = (Int32.toInt (x_35_0 / 3)) := i2l_z rfl
        refine br0 (k_nlt (x := (Int64.toInt (x_35_0 / 3).toInt64)) (y := 0) rfl rfl (by omega)) ?_
        by_cases c17 : 0 < (lg_cmp (x_35_0 / 3).toInt64 39)
        · refine br1 c17 ?_
          have d18 := c_gt (x := (Int64.toInt (x_35_0 / 3).toInt64)) (y := 39) rfl rfl c17
          refine br1 (by decide) ?_
          have t19 : (Int32.toInt (x_35_0 + 3)) = (Int32.toInt x_35_0) + 3 := add_z rfl rfl (by omega) (by omega)
          exact ih _ _ _ _ ⟨⟨by omega, by omega⟩, ⟨by omega, by omega⟩, h_x_35_3, (by omega)⟩ (by omega)
        · refine br0 c17 ?_
          have d20 := c_ngt (x := (Int64.toInt (x_35_0 / 3).toInt64)) (y := 39) rfl rfl c17
          refine br0 (by decide) ?_
          have t21 : (Int32.toInt (33 + (x_35_0 / 3))) = 33 + (Int32.toInt (x_35_0 / 3)) := add_z rfl rfl (by omega) (by omega)
          refine ⟨vpi (x := (Int32.toInt (33 + (x_35_0 / 3)))) rfl (by omega) (by omega), ?_⟩
          by_cases c22 : (x_35_3 (33 + (x_35_0 / 3)).toNatClampNeg) = 0
          · refine br1 c22 ?_
            have g23 : 0 ≤ (Int32.toInt (x_35_3 (33 + (x_35_0 / 3)).toNatClampNeg)) ∧ (Int32.toInt (x_35_3 (33 + (x_35_0 / 3)).toNatClampNeg)) ≤ 1 := RLW.at_33 h_x_35_3 (tnz (x := (Int32.toInt (33 + (x_35_0 / 3)))) rfl (by omega)) (by omega) (by omega)
            have d24 := eq_z (x := (Int32.toInt (x_35_3 (33 + (x_35_0 / 3)).toNatClampNeg))) (y := 0) rfl rfl c22
            refine ⟨vpi (x := (Int32.toInt x_35_0)) rfl (by omega) (by omega), ?_⟩
            refine o_X12_canBe _ _ _ ?_
            refine br1 (by decide) ?_
            refine o_X12_in _ _ _ _ ?_
            have g25 : 0 ≤ (Int32.toInt (f_tape x_35_0.toNatClampNeg)) ∧ (Int32.toInt (f_tape x_35_0.toNatClampNeg)) ≤ 255 := TP.at_0 h_f_tape (tnz (x := (Int32.toInt x_35_0)) rfl (by omega)) (by omega) (by omega)
            have t26 : (Int64.toInt (f_tape x_35_0.toNatClampNeg).toInt64) = (Int32.toInt (f_tape x_35_0.toNatClampNeg)) := i2l_z rfl
            refine br0 (k_nlt (x := (Int64.toInt (f_tape x_35_0.toNatClampNeg).toInt64)) (y := 0) rfl rfl (by omega)) ?_
            by_cases c27 : 0 < (lg_cmp (f_tape x_35_0.toNatClampNeg).toInt64 3)
            · refine br1 c27 ?_
              have d28 := c_gt (x := (Int64.toInt (f_tape x_35_0.toNatClampNeg).toInt64)) (y := 3) rfl rfl c27
              refine br1 (by decide) ?_
              have t29 : (Int32.toInt (x_35_0 + 3)) = (Int32.toInt x_35_0) + 3 := add_z rfl rfl (by omega) (by omega)
              exact ih _ _ _ _ ⟨⟨by omega, by omega⟩, ⟨by omega, by omega⟩, h_x_35_3, (by omega)⟩ (by omega)
            · refine br0 c27 ?_
              have d30 := c_ngt (x := (Int64.toInt (f_tape x_35_0.toNatClampNeg).toInt64)) (y := 3) rfl rfl c27
              refine br0 (by decide) ?_
              have t31 : (Int32.toInt (x_35_0 + 1)) = (Int32.toInt x_35_0) + 1 := add_z rfl rfl (by omega) (by omega)
              refine ⟨vpi (x := (Int32.toInt (x_35_0 + 1))) rfl (by omega) (by omega), ?_⟩
              refine o_X12_canBe _ _ _ ?_
              refine br0 (by decide) ?_
              refine br1 (by decide) ?_
              refine o_X12_in _ _ _ _ ?_
              by_cases c32 : (lg_cmp (f_tape (x_35_0 + 1).toNatClampNeg).toInt64 1) < 0
              · refine br1 c32 ?_
                have g33 : 0 ≤ (Int32.toInt (f_tape (x_35_0 + 1).toNatClampNeg)) ∧ (Int32.toInt (f_tape (x_35_0 + 1).toNatClampNeg)) ≤ 255 := TP.at_0 h_f_tape (tnz (x := (Int32.toInt (x_35_0 + 1))) rfl (by omega)) (by omega) (by omega)
                have t34 : (Int64.toInt (f_tape (x_35_0 + 1).toNatClampNeg).toInt64) = (Int32.toInt (f_tape (x_35_0 + 1).toNatClampNeg)) := i2l_z rfl
                have d35 := c_lt (x := (Int64.toInt (f_tape (x_35_0 + 1).toNatClampNeg).toInt64)) (y := 1) rfl rfl c32
                refine br1 (by decide) ?_
                have t36 : (Int32.toInt (x_35_0 + 3)) = (Int32.toInt x_35_0) + 3 := add_z rfl rfl (by omega) (by omega)
                exact ih _ _ _ _ ⟨⟨by omega, by omega⟩, ⟨by omega, by omega⟩, h_x_35_3, (by omega)⟩ (by omega)
              · refine br0 c32 ?_
                have g37 : 0 ≤ (Int32.toInt (f_tape (x_35_0 + 1).toNatClampNeg)) ∧ (Int32.toInt (f_tape (x_35_0 + 1).toNatClampNeg)) ≤ 255 := TP.at_0 h_f_tape (tnz (x := (Int32.toInt (x_35_0 + 1))) rfl (by omega)) (by omega) (by omega)
                have t38 : (Int64.toInt (f_tape (x_35_0 + 1).toNatClampNeg).toInt64) = (Int32.toInt (f_tape (x_35_0 + 1).toNatClampNeg)) := i2l_z rfl
                have d39 := c_nlt (x := (Int64.toInt (f_tape (x_35_0 + 1).toNatClampNeg).toInt64)) (y := 1) rfl rfl c32
                by_cases c40 : 0 < (lg_cmp (f_tape (x_35_0 + 1).toNatClampNeg).toInt64 9)
                · refine br1 c40 ?_
                  have d41 := c_gt (x := (Int64.toInt (f_tape (x_35_0 + 1).toNatClampNeg).toInt64)) (y := 9) rfl rfl c40
                  refine br1 (by decide) ?_
                  have t42 : (Int32.toInt (x_35_0 + 3)) = (Int32.toInt x_35_0) + 3 := add_z rfl rfl (by omega) (by omega)
                  exact ih _ _ _ _ ⟨⟨by omega, by omega⟩, ⟨by omega, by omega⟩, h_x_35_3, (by omega)⟩ (by omega)
                · refine br0 c40 ?_
                  have d43 := c_ngt (x := (Int64.toInt (f_tape (x_35_0 + 1).toNatClampNeg).toInt64)) (y := 9) rfl rfl c40
                  refine br0 (by decide) ?_
                  refine ⟨vpi (x := (Int32.toInt (x_35_0 + 2))) rfl (by omega) (by omega), ?_⟩
                  refine o_X12_canBe _ _ _ ?_
                  refine br0 (by decide) ?_
                  refine br0 (by decide) ?_
                  refine br1 (by decide) ?_
                  refine o_X12_in _ _ _ _ ?_
                  have g44 : 0 ≤ (Int32.toInt (f_tape (x_35_0 + 2).toNatClampNeg)) ∧ (Int32.toInt (f_tape (x_35_0 + 2).toNatClampNeg)) ≤ 255 := TP.at_0 h_f_tape (tnz (x := (Int32.toInt (x_35_0 + 2))) rfl (by omega)) (by omega) (by omega)
                  have t45 : (Int64.toInt (f_tape (x_35_0 + 2).toNatClampNeg).toInt64) = (Int32.toInt (f_tape (x_35_0 + 2).toNatClampNeg)) := i2l_z rfl
                  refine br0 (k_nlt (x := (Int64.toInt (f_tape (x_35_0 + 2).toNatClampNeg).toInt64)) (y := 0) rfl rfl (by omega)) ?_
                  by_cases c46 : 0 < (lg_cmp (f_tape (x_35_0 + 2).toNatClampNeg).toInt64 99)
                  · refine br1 c46 ?_
                    have d47 := c_gt (x := (Int64.toInt (f_tape (x_35_0 + 2).toNatClampNeg).toInt64)) (y := 99) rfl rfl c46
                    refine br1 (by decide) ?_
                    refine br1 (by decide) ?_
                    have t48 : (Int32.toInt (x_35_0 + 3)) = (Int32.toInt x_35_0) + 3 := add_z rfl rfl (by omega) (by omega)
                    exact ih _ _ _ _ ⟨⟨by omega, by omega⟩, ⟨by omega, by omega⟩, h_x_35_3, (by omega)⟩ (by omega)
                  · refine br0 c46 ?_
                    have d49 := c_ngt (x := (Int64.toInt (f_tape (x_35_0 + 2).toNatClampNeg).toInt64)) (y := 99) rfl rfl c46
                    refine br0 (by decide) ?_
                    refine br0 (by decide) ?_
                    refine ⟨vpi (x := (Int32.toInt x_35_0)) rfl (by omega) (by omega), ?_⟩
                    have t50 : (Int32.toInt (113 + (x_35_0 / 3))) = 113 + (Int32.toInt (x_35_0 / 3)) := add_z rfl rfl (by omega) (by omega)
                    refine ⟨vpi (x := (Int32.toInt (113 + (x_35_0 / 3)))) rfl (by omega) (by omega), ?_⟩
                    refine ⟨vpi (x := (Int32.toInt (x_35_0 + 1))) rfl (by omega) (by omega), ?_⟩
                    have t51 : (Int32.toInt (153 + (x_35_0 / 3))) = 153 + (Int32.toInt (x_35_0 / 3)) := add_z rfl rfl (by omega) (by omega)
                    refine ⟨vpi (x := (Int32.toInt (153 + (x_35_0 / 3)))) rfl (by omega) (by omega), ?_⟩
                    refine ⟨vpi (x := (Int32.toInt (x_35_0 + 2))) rfl (by omega) (by omega), ?_⟩
                    have t52 : (Int32.toInt (73 + (x_35_0 / 3))) = 73 + (Int32.toInt (x_35_0 / 3)) := add_z rfl rfl (by omega) (by omega)
                    refine ⟨vpi (x := (Int32.toInt (73 + (x_35_0 / 3)))) rfl (by omega) (by omega), ?_⟩
                    have t53 : (Int32.toInt (x_35_0 + 3)) = (Int32.toInt x_35_0) + 3 := add_z rfl rfl (by omega) (by omega)
                    have t54 : (Int32.toInt (x_35_1 + 1)) = (Int32.toInt x_35_1) + 1 := add_z rfl rfl (by omega) (by omega)
                    have R55 : RLW (upd x_35_3 (113 + (x_35_0 / 3)).toNatClampNeg (f_tape x_35_0.toNatClampNeg)) := RLW.up_113 h_x_35_3 (tnz (x := (Int32.toInt (113 + (x_35_0 / 3)))) rfl (by omega)) (by omega) (by omega) (w := (Int32.toInt (f_tape x_35_0.toNatClampNeg))) rfl (by omega) (by omega)
                    have R56 : RLW (upd (upd x_35_3 (113 + (x_35_0 / 3)).toNatClampNeg (f_tape x_35_0.toNatClampNeg)) (153 + (x_35_0 / 3)).toNatClampNeg (f_tape (x_35_0 + 1).toNatClampNeg)) := RLW.up_153 R55 (tnz (x := (Int32.toInt (153 + (x_35_0 / 3)))) rfl (by omega)) (by omega) (by omega) (w := (Int32.toInt (f_tape (x_35_0 + 1).toNatClampNeg))) rfl (by omega) (by omega)
                    have R57 : RLW (upd (upd (upd x_35_3 (113 + (x_35_0 / 3)).toNatClampNeg (f_tape x_35_0.toNatClampNeg)) (153 + (x_35_0 / 3)).toNatClampNeg (f_tape (x_35_0 + 1).toNatClampNeg)) (73 + (x_35_0 / 3)).toNatClampNeg (f_tape (x_35_0 + 2).toNatClampNeg)) := RLW.up_73 R56 (tnz (x := (Int32.toInt (73 + (x_35_0 / 3)))) rfl (by omega)) (by omega) (by omega) (w := (Int32.toInt (f_tape (x_35_0 + 2).toNatClampNeg))) rfl (by omega) (by omega)
                    exact ih _ _ _ _ ⟨⟨by omega, by omega⟩, ⟨by omega, by omega⟩, R57, (by omega)⟩ (by omega)
          · refine br0 c22 ?_
            have g58 : 0 ≤ (Int32.toInt (x_35_3 (33 + (x_35_0 / 3)).toNatClampNeg)) ∧ (Int32.toInt (x_35_3 (33 + (x_35_0 / 3)).toNatClampNeg)) ≤ 1 := RLW.at_33 h_x_35_3 (tnz (x := (Int32.toInt (33 + (x_35_0 / 3)))) rfl (by omega)) (by omega) (by omega)
            have d59 := ne_z (x := (Int32.toInt (x_35_3 (33 + (x_35_0 / 3)).toNatClampNeg))) (y := 0) rfl rfl c22
            have t60 : (Int32.toInt (x_35_0 + 3)) = (Int32.toInt x_35_0) + 3 := add_z rfl rfl (by omega) (by omega)
            exact ih _ _ _ _ ⟨⟨by omega, by omega⟩, ⟨by omega, by omega⟩, h_x_35_3, (by omega)⟩ (by omega)
set_option maxRecDepth 100000 in
theorem s_X12_rowx (h0_nUndo : Int32) (h0_mud : Int32) (h0_taped : Int32) (f_row : Nat → Int32) (f_tape : Nat → Int32) (f_refusals : Nat → Int32) (h_h0_nUndo : 0 ≤ h0_nUndo.toInt ∧ h0_nUndo.toInt ≤ 16) (h_h0_taped : 0 ≤ h0_taped.toInt ∧ h0_taped.toInt ≤ 400) (h_f_row : RLW f_row) (h_f_tape : TP f_tape) {Q : Int32 → (Int32 × Int32 × Int32 × Int32 × Int32 × (Nat → Int32) × (Nat → Int32)) → Prop} (hq : ∀ (r : Int32) (u_0 : Int32) (u_1 : Int32) (u_2 : Int32) (u_3 : Int32) (u_4 : Int32) (u_5 : Nat → Int32) (u_6 : Nat → Int32), (0 ≤ u_2.toInt ∧ u_2.toInt ≤ 16) ∧ (0 ≤ u_4.toInt ∧ u_4.toInt ≤ 400) ∧ (RLW u_5) ∧ (u_4.toInt = 0) → Q r (u_0, u_1, u_2, u_3, u_4, u_5, u_6)) : wp_X12_row h0_nUndo h0_mud h0_taped f_row f_tape f_refusals Q := by
  unfold wp_X12_row
  by_cases c1 : h0_taped = 0
  · refine br1 c1 ?_
    have d2 := eq_z (x := (Int32.toInt h0_taped)) (y := 0) rfl rfl c1
    refine o_X12_tell _ _ _ ?_
    refine jn_s ?_
    refine br0 (by decide) ?_
    refine br0 (by decide) ?_
    refine ⟨by unfold vp_in; decide, ?_⟩
    refine ⟨by unfold vp_in; decide, ?_⟩
    refine un2_i ?_
    have k3 : Int32.toInt (-6) = (-6) := (by decide)
    have k4 : Int32.toInt 0 = 0 := rfl
    exact hq _ _ _ _ _ _ _ _ ⟨⟨by omega, by omega⟩, (by decide), h_f_row, (by omega)⟩
  · refine br0 c1 ?_
    have d5 := ne_z (x := (Int32.toInt h0_taped)) (y := 0) rfl rfl c1
    have k8 : Int32.toInt 0 = 0 := rfl
    refine sl_X12_row_35x h0_taped (f_tape) ⟨by omega, by omega⟩ h_f_tape _ (fun x6_0 x6_1 x6_2 x6_3 X7 => ?_) 1000000000000 0 0 0 (f_row) ⟨(by decide), (by decide), h_f_row, (by omega)⟩ (by omega)
    have j9 := X7.1
    have j10 := X7.2.1
    have j11 := X7.2.2.1
    have j12 := X7.2.2.2
    refine o_X12_settled _ _ _ _ ?_
    refine br1 (z_le (x := 0) (y := (Int32.toInt x6_1)) rfl rfl (by omega)) ?_
    refine o_X12_tell _ _ _ ?_
    refine jn_s ?_
    refine br1 (z_le (x := 0) (y := (Int32.toInt x6_1)) rfl rfl (by omega)) ?_
    refine br1 (z_le (x := 0) (y := (Int32.toInt x6_1)) rfl rfl (by omega)) ?_
    refine un2_i ?_
    refine un3_i ?_
    exact hq _ _ _ _ _ _ _ _ ⟨(by decide), (by decide), j11, (by omega)⟩

