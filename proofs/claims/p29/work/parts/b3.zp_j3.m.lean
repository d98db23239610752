set_option maxRecDepth 100000 in
theorem s_X12_putz (a : Int32) (b : Int32) (d : Int32) (h0_nUndo : Int32) (f_refusals : Nat → Int32) (f_row : Nat → Int32) {w : Nat → Int} {U : UL} {rf : Nat → Int32} {ls : Nat → List Cls} {gm_undos : Nat → Int32} {gm_sorts : Nat → Int32} (h_h0_nUndo : 0 ≤ h0_nUndo.toInt ∧ h0_nUndo.toInt ≤ 16) (h_f_row : RLW f_row) (e_0 : RMw f_row w) (e_1 : RMu gm_undos gm_sorts h0_nUndo U) (e_2 : RML f_row ls) (e_3 : RF f_refusals rf) {Q : Int32 → (Int32 × Int32 × Int32 × (Nat → Int32) × (Nat → Int32)) → Prop} (hq : ∀ (r : Int32) (u_0 : Int32) (u_1 : Int32) (u_2 : Int32) (u_3 : Nat → Int32) (u_4 : Nat → Int32), (0 ≤ u_2.toInt ∧ u_2.toInt ≤ 16) ∧ (RLW u_4) ∧ (r.toInt = putR w a.toInt b.toInt d.toInt) ∧ (RMw u_4 (putW w a.toInt b.toInt d.toInt)) ∧ (RMu gm_undos gm_sorts u_2 (clr (putR w a.toInt b.toInt d.toInt) U)) ∧ (RML u_4 ls) ∧ (u_1.toInt = tlS (putR w a.toInt b.toInt d.toInt)) ∧ (RF u_3 (tlR rf (putR w a.toInt b.toInt d.toInt))) → Q r (u_0, u_1, u_2, u_3, u_4)) : wp_X12_put a b d h0_nUndo f_refusals f_row Q := by
  unfold wp_X12_put
  refine o_X12_isCell _ _ ?_
  refine o_X12_in _ _ _ _ ?_
  by_cases c1 : (lg_cmp a.toInt64 0) < 0
  · refine br1 c1 ?_
    have t2 : (Int64.toInt a.toInt64) = (Int32.toInt a) := i2l_z rfl
    have d3 := c_lt (x := (Int64.toInt a.toInt64)) (y := 0) rfl rfl c1
    refine br1 (by decide) ?_
    have k4 : Int32.toInt (-1) = (-1) := (by decide)
    refine s_X12_tellz (-1) (f_refusals) (by decide) e_3 (fun r5 u6_0 u6_1 H7 => ?_)
    have j8 := H7.1
    have j9 := H7.2.1
    have j10 := H7.2.2
    refine un2_i ?_
    have k11 : Int32.toInt 0 = 0 := rfl
    have hR12 : putR w a.toInt b.toInt d.toInt = (Int32.toInt r5) := by unfold putR; (repeat' split) <;> omega
    exact hq _ _ _ _ _ _ ⟨⟨by omega, by omega⟩, h_f_row, hR12.symm, (by unfold putW; rw [if_pos (by omega)]; exact e_0), (by unfold clr; rw [if_pos (by omega)]; exact e_1), e_2, (by rw [hR12]; exact j9), (by rw [hR12]; exact j10)⟩
  · refine br0 c1 ?_
    have t13 : (Int64.toInt a.toInt64) = (Int32.toInt a) := i2l_z rfl
    have d14 := c_nlt (x := (Int64.toInt a.toInt64)) (y := 0) rfl rfl c1
    by_cases c15 : 0 < (lg_cmp a.toInt64 39)
    · refine br1 c15 ?_
      have d16 := c_gt (x := (Int64.toInt a.toInt64)) (y := 39) rfl rfl c15
      refine br1 (by decide) ?_
      have k17 : Int32.toInt (-1) = (-1) := (by decide)
      refine s_X12_tellz (-1) (f_refusals) (by decide) e_3 (fun r18 u19_0 u19_1 H20 => ?_)
      have j21 := H20.1
      have j22 := H20.2.1
      have j23 := H20.2.2
      refine un2_i ?_
      have k24 : Int32.toInt 0 = 0 := rfl
      have hR25 : putR w a.toInt b.toInt d.toInt = (Int32.toInt r18) := by unfold putR; (repeat' split) <;> omega
      exact hq _ _ _ _ _ _ ⟨⟨by omega, by omega⟩, h_f_row, hR25.symm, (by unfold putW; rw [if_pos (by omega)]; exact e_0), (by unfold clr; rw [if_pos (by omega)]; exact e_1), e_2, (by rw [hR25]; exact j22), (by rw [hR25]; exact j23)⟩
    · refine br0 c15 ?_
      have d26 := c_ngt (x := (Int64.toInt a.toInt64)) (y := 39) rfl rfl c15
      refine br0 (by decide) ?_
      refine o_X12_canBe _ _ _ ?_
      by_cases c27 : b = 0
      · refine br1 c27 ?_
        have d28 := eq_z (x := (Int32.toInt b)) (y := 0) rfl rfl c27
        refine o_X12_in _ _ _ _ ?_
        by_cases c29 : (lg_cmp d.toInt64 0) < 0
        · refine br1 c29 ?_
          have t30 : (Int64.toInt d.toInt64) = (Int32.toInt d) := i2l_z rfl
          have d31 := c_lt (x := (Int64.toInt d.toInt64)) (y := 0) rfl rfl c29
          refine br1 (by decide) ?_
          have k32 : Int32.toInt (-1) = (-1) := (by decide)
          refine s_X12_tellz (-1) (f_refusals) (by decide) e_3 (fun r33 u34_0 u34_1 H35 => ?_)
          have j36 := H35.1
          have j37 := H35.2.1
          have j38 := H35.2.2
          refine un2_i ?_
          have k39 : Int32.toInt 0 = 0 := rfl
          have hR40 : putR w a.toInt b.toInt d.toInt = (Int32.toInt r33) := by unfold putR; (repeat' split) <;> omega
          exact hq _ _ _ _ _ _ ⟨⟨by omega, by omega⟩, h_f_row, hR40.symm, (by unfold putW; rw [if_pos (by omega)]; exact e_0), (by unfold clr; rw [if_pos (by omega)]; exact e_1), e_2, (by rw [hR40]; exact j37), (by rw [hR40]; exact j38)⟩
        · refine br0 c29 ?_
          have t41 : (Int64.toInt d.toInt64) = (Int32.toInt d) := i2l_z rfl
          have d42 := c_nlt (x := (Int64.toInt d.toInt64)) (y := 0) rfl rfl c29
          by_cases c43 : 0 < (lg_cmp d.toInt64 3)
          · refine br1 c43 ?_
            have d44 := c_gt (x := (Int64.toInt d.toInt64)) (y := 3) rfl rfl c43
            refine br1 (by decide) ?_
            have k45 : Int32.toInt (-1) = (-1) := (by decide)
            refine s_X12_tellz (-1) (f_refusals) (by decide) e_3 (fun r46 u47_0 u47_1 H48 => ?_)
            have j49 := H48.1
            have j50 := H48.2.1
            have j51 := H48.2.2
            refine un2_i ?_
            have k52 : Int32.toInt 0 = 0 := rfl
            have hR53 : putR w a.toInt b.toInt d.toInt = (Int32.toInt r46) := by unfold putR; (repeat' split) <;> omega
            exact hq _ _ _ _ _ _ ⟨⟨by omega, by omega⟩, h_f_row, hR53.symm, (by unfold putW; rw [if_pos (by omega)]; exact e_0), (by unfold clr; rw [if_pos (by omega)]; exact e_1), e_2, (by rw [hR53]; exact j50), (by rw [hR53]; exact j51)⟩
          · refine br0 c43 ?_
            have d54 := c_ngt (x := (Int64.toInt d.toInt64)) (y := 3) rfl rfl c43
            refine br0 (by decide) ?_
            refine jn_s ?_
            refine br1 (z_eq (x := (Int32.toInt b)) (y := 0) rfl rfl (by omega)) ?_
            have t55 : (Int32.toInt (33 + a)) = 33 + (Int32.toInt a) := add_z rfl rfl (by omega) (by omega)
            refine ⟨vpi (x := (Int32.toInt (33 + a))) rfl (by omega) (by omega), ?_⟩
            by_cases c56 : (f_row (33 + a).toNatClampNeg) = 1
            · refine br1 c56 ?_
              have g57 : 0 ≤ (Int32.toInt (f_row (33 + a).toNatClampNeg)) ∧ (Int32.toInt (f_row (33 + a).toNatClampNeg)) ≤ 1 := RLW.at_33 h_f_row (tnz (x := (Int32.toInt (33 + a))) rfl (by omega)) (by omega) (by omega)
              have t58 : (Int32.toInt (f_row (33 + a).toNatClampNeg)) = w (33 + ((Int32.toInt a)).toNat) := RMw.z e_0 (i := 33 + ((Int32.toInt a)).toNat) (show Int.toNat _ = _ by omega) (by omega)
              have d59 := eq_z (x := (Int32.toInt (f_row (33 + a).toNatClampNeg))) (y := 1) rfl rfl c56
              have k60 : Int32.toInt (-3) = (-3) := (by decide)
              refine s_X12_tellz (-3) (f_refusals) (by decide) e_3 (fun r61 u62_0 u62_1 H63 => ?_)
              have j64 := H63.1
              have j65 := H63.2.1
              have j66 := H63.2.2
              refine un2_i ?_
              have k67 : Int32.toInt 0 = 0 := rfl
              have hR68 : putR w a.toInt b.toInt d.toInt = (Int32.toInt r61) := by unfold putR; (repeat' split) <;> omega
              exact hq _ _ _ _ _ _ ⟨⟨by omega, by omega⟩, h_f_row, hR68.symm, (by unfold putW; rw [if_pos (by omega)]; exact e_0), (by unfold clr; rw [if_pos (by omega)]; exact e_1), e_2, (by rw [hR68]; exact j65), (by rw [hR68]; exact j66)⟩
            · refine br0 c56 ?_
              have g69 : 0 ≤ (Int32.toInt (f_row (33 + a).toNatClampNeg)) ∧ (Int32.toInt (f_row (33 + a).toNatClampNeg)) ≤ 1 := RLW.at_33 h_f_row (tnz (x := (Int32.toInt (33 + a))) rfl (by omega)) (by omega) (by omega)
              have t70 : (Int32.toInt (f_row (33 + a).toNatClampNeg)) = w (33 + ((Int32.toInt a)).toNat) := RMw.z e_0 (i := 33 + ((Int32.toInt a)).toNat) (show Int.toNat _ = _ by omega) (by omega)
              have d71 := ne_z (x := (Int32.toInt (f_row (33 + a).toNatClampNeg))) (y := 1) rfl rfl c56
              refine o_X12_placeOf _ _ ?_
              refine br1 (z_eq (x := (Int32.toInt b)) (y := 0) rfl rfl (by omega)) ?_
              refine o_X12_change _ _ _ _ ?_
              have t72 : (Int32.toInt (113 + a)) = 113 + (Int32.toInt a) := add_z rfl rfl (by omega) (by omega)
              refine ⟨vpi (x := (Int32.toInt (113 + a))) rfl (by omega) (by omega), ?_⟩
              refine ⟨vpi (x := (Int32.toInt (113 + a))) rfl (by omega) (by omega), ?_⟩
              refine un2_i ?_
              have g73 : 0 ≤ (Int32.toInt (f_row (113 + a).toNatClampNeg)) ∧ (Int32.toInt (f_row (113 + a).toNatClampNeg)) ≤ 3 := RLW.at_113 h_f_row (tnz (x := (Int32.toInt (113 + a))) rfl (by omega)) (by omega) (by omega)
              have t74 : (Int32.toInt (f_row (113 + a).toNatClampNeg)) = w (113 + ((Int32.toInt a)).toNat) := RMw.z e_0 (i := 113 + ((Int32.toInt a)).toNat) (show Int.toNat _ = _ by omega) (by omega)
              have k75 : Int32.toInt 0 = 0 := rfl
              have R76 : RLW (upd f_row (113 + a).toNatClampNeg d) := RLW.up_113 h_f_row (tnz (x := (Int32.toInt (113 + a))) rfl (by omega)) (by omega) (by omega) (w := (Int32.toInt d)) rfl (by omega) (by omega)
              have hR77 : putR w a.toInt b.toInt d.toInt = (Int32.toInt (f_row (113 + a).toNatClampNeg)) := by unfold putR; (repeat' split) <;> omega
              exact hq _ _ _ _ _ _ ⟨(by decide), R76, hR77.symm, (by unfold putW; rw [if_neg (by omega)]; unfold putO; first | (rw [if_pos (by omega)]; exact (RMw.up e_0 (by first | rfl | (show Int.toNat _ = _; omega)) (by first | rfl | omega))) | (rw [if_neg (by omega), if_pos (by omega)]; exact (RMw.up e_0 (by first | rfl | (show Int.toNat _ = _; omega)) (by first | rfl | omega))) | (rw [if_neg (by omega), if_neg (by omega)]; exact (RMw.up e_0 (by first | rfl | (show Int.toNat _ = _; omega)) (by first | rfl | omega)))), (by unfold clr; rw [if_neg (by omega)]; exact RMu.nil rfl), (RML.up e_2 (tnz (x := (Int32.toInt (113 + a))) rfl (by omega)) (by omega) (by omega)), (by rw [hR77]; unfold tlS; rw [if_neg (by omega)]; rfl), (by rw [hR77]; unfold tlR; rw [if_neg (by omega)]; exact e_3)⟩
      · refine br0 c27 ?_
        have d78 := ne_z (x := (Int32.toInt b)) (y := 0) rfl rfl c27
        by_cases c79 : b = 1
        · refine br1 c79 ?_
          have d80 := eq_z (x := (Int32.toInt b)) (y := 1) rfl rfl c79
          refine o_X12_in _ _ _ _ ?_
          by_cases c81 : (lg_cmp d.toInt64 1) < 0
          · refine br1 c81 ?_
            have t82 : (Int64.toInt d.toInt64) = (Int32.toInt d) := i2l_z rfl
            have d83 := c_lt (x := (Int64.toInt d.toInt64)) (y := 1) rfl rfl c81
            refine br1 (by decide) ?_
            have k84 : Int32.toInt (-1) = (-1) := (by decide)
            refine s_X12_tellz (-1) (f_refusals) (by decide) e_3 (fun r85 u86_0 u86_1 H87 => ?_)
            have j88 := H87.1
            have j89 := H87.2.1
            have j90 := H87.2.2
            refine un2_i ?_
            have k91 : Int32.toInt 0 = 0 := rfl
            have hR92 : putR w a.toInt b.toInt d.toInt = (Int32.toInt r85) := by unfold putR; (repeat' split) <;> omega
            exact hq _ _ _ _ _ _ ⟨⟨by omega, by omega⟩, h_f_row, hR92.symm, (by unfold putW; rw [if_pos (by omega)]; exact e_0), (by unfold clr; rw [if_pos (by omega)]; exact e_1), e_2, (by rw [hR92]; exact j89), (by rw [hR92]; exact j90)⟩
          · refine br0 c81 ?_
            have t93 : (Int64.toInt d.toInt64) = (Int32.toInt d) := i2l_z rfl
            have d94 := c_nlt (x := (Int64.toInt d.toInt64)) (y := 1) rfl rfl c81
            by_cases c95 : 0 < (lg_cmp d.toInt64 9)
            · refine br1 c95 ?_
              have d96 := c_gt (x := (Int64.toInt d.toInt64)) (y := 9) rfl rfl c95
              refine br1 (by decide) ?_
              have k97 : Int32.toInt (-1) = (-1) := (by decide)
              refine s_X12_tellz (-1) (f_refusals) (by decide) e_3 (fun r98 u99_0 u99_1 H100 => ?_)
              have j101 := H100.1
              have j102 := H100.2.1
              have j103 := H100.2.2
              refine un2_i ?_
              have k104 : Int32.toInt 0 = 0 := rfl
              have hR105 : putR w a.toInt b.toInt d.toInt = (Int32.toInt r98) := by unfold putR; (repeat' split) <;> omega
              exact hq _ _ _ _ _ _ ⟨⟨by omega, by omega⟩, h_f_row, hR105.symm, (by unfold putW; rw [if_pos (by omega)]; exact e_0), (by unfold clr; rw [if_pos (by omega)]; exact e_1), e_2, (by rw [hR105]; exact j102), (by rw [hR105]; exact j103)⟩
            · refine br0 c95 ?_
              have d106 := c_ngt (x := (Int64.toInt d.toInt64)) (y := 9) rfl rfl c95
              refine br0 (by decide) ?_
              refine jn_s ?_
              refine br0 (z_ne (x := (Int32.toInt b)) (y := 0) rfl rfl (by omega)) ?_
              refine o_X12_placeOf _ _ ?_
              refine br0 (z_ne (x := (Int32.toInt b)) (y := 0) rfl rfl (by omega)) ?_
              refine br1 (z_eq (x := (Int32.toInt b)) (y := 1) rfl rfl (by omega)) ?_
              refine o_X12_change _ _ _ _ ?_
              have t107 : (Int32.toInt (153 + a)) = 153 + (Int32.toInt a) := add_z rfl rfl (by omega) (by omega)
              refine ⟨vpi (x := (Int32.toInt (153 + a))) rfl (by omega) (by omega), ?_⟩
              refine ⟨vpi (x := (Int32.toInt (153 + a))) rfl (by omega) (by omega), ?_⟩
              refine un2_i ?_
              have g108 : 1 ≤ (Int32.toInt (f_row (153 + a).toNatClampNeg)) ∧ (Int32.toInt (f_row (153 + a).toNatClampNeg)) ≤ 9 := RLW.at_153 h_f_row (tnz (x := (Int32.toInt (153 + a))) rfl (by omega)) (by omega) (by omega)
              have t109 : (Int32.toInt (f_row (153 + a).toNatClampNeg)) = w (153 + ((Int32.toInt a)).toNat) := RMw.z e_0 (i := 153 + ((Int32.toInt a)).toNat) (show Int.toNat _ = _ by omega) (by omega)
              have k110 : Int32.toInt 0 = 0 := rfl
              have R111 : RLW (upd f_row (153 + a).toNatClampNeg d) := RLW.up_153 h_f_row (tnz (x := (Int32.toInt (153 + a))) rfl (by omega)) (by omega) (by omega) (w := (Int32.toInt d)) rfl (by omega) (by omega)
              have hR112 : putR w a.toInt b.toInt d.toInt = (Int32.toInt (f_row (153 + a).toNatClampNeg)) := by unfold putR; (repeat' split) <;> omega
              exact hq _ _ _ _ _ _ ⟨(by decide), R111, hR112.symm, (by unfold putW; rw [if_neg (by omega)]; unfold putO; first | (rw [if_pos (by omega)]; exact (RMw.up e_0 (by first | rfl | (show Int.toNat _ = _; omega)) (by first | rfl | omega))) | (rw [if_neg (by omega), if_pos (by omega)]; exact (RMw.up e_0 (by first | rfl | (show Int.toNat _ = _; omega)) (by first | rfl | omega))) | (rw [if_neg (by omega), if_neg (by omega)]; exact (RMw.up e_0 (by first | rfl | (show Int.toNat _ = _; omega)) (by first | rfl | omega)))), (by unfold clr; rw [if_neg (by omega)]; exact RMu.nil rfl), (RML.up e_2 (tnz (x := (Int32.toInt (153 + a))) rfl (by omega)) (by omega) (by omega)), (by rw [hR112]; unfold tlS; rw [if_neg (by omega)]; rfl), (by rw [hR112]; unfold tlR; rw [if_neg (by omega)]; exact e_3)⟩
        · refine br0 c79 ?_
          have d113 := ne_z (x := (Int32.toInt b)) (y := 1) rfl rfl c79
          by_cases c114 : b = 2
          · refine br1 c114 ?_
            have d115 := eq_z (x := (Int32.toInt b)) (y := 2) rfl rfl c114
            refine o_X12_in _ _ _ _ ?_
            by_cases c116 : (lg_cmp d.toInt64 0) < 0
            · refine br1 c116 ?_
              have t117 : (Int64.toInt d.toInt64) = (Int32.toInt d) := i2l_z rfl
              have d118 := c_lt (x := (Int64.toInt d.toInt64)) (y := 0) rfl rfl c116
              refine br1 (by decide) ?_
              refine br1 (by decide) ?_
              have k119 : Int32.toInt (-1) = (-1) := (by decide)
              refine s_X12_tellz (-1) (f_refusals) (by decide) e_3 (fun r120 u121_0 u121_1 H122 => ?_)
              have j123 := H122.1
              have j124 := H122.2.1
              have j125 := H122.2.2
              refine un2_i ?_
              have k126 : Int32.toInt 0 = 0 := rfl
              have hR127 : putR w a.toInt b.toInt d.toInt = (Int32.toInt r120) := by unfold putR; (repeat' split) <;> omega
              exact hq _ _ _ _ _ _ ⟨⟨by omega, by omega⟩, h_f_row, hR127.symm, (by unfold putW; rw [if_pos (by omega)]; exact e_0), (by unfold clr; rw [if_pos (by omega)]; exact e_1), e_2, (by rw [hR127]; exact j124), (by rw [hR127]; exact j125)⟩
            · refine br0 c116 ?_
              have t128 : (Int64.toInt d.toInt64) = (Int32.toInt d) := i2l_z rfl
              have d129 := c_nlt (x := (Int64.toInt d.toInt64)) (y := 0) rfl rfl c116
              by_cases c130 : 0 < (lg_cmp d.toInt64 99)
              · refine br1 c130 ?_
                have d131 := c_gt (x := (Int64.toInt d.toInt64)) (y := 99) rfl rfl c130
                refine br1 (by decide) ?_
                refine br1 (by decide) ?_
                have k132 : Int32.toInt (-1) = (-1) := (by decide)
                refine s_X12_tellz (-1) (f_refusals) (by decide) e_3 (fun r133 u134_0 u134_1 H135 => ?_)
                have j136 := H135.1
                have j137 := H135.2.1
                have j138 := H135.2.2
                refine un2_i ?_
                have k139 : Int32.toInt 0 = 0 := rfl
                have hR140 : putR w a.toInt b.toInt d.toInt = (Int32.toInt r133) := by unfold putR; (repeat' split) <;> omega
                exact hq _ _ _ _ _ _ ⟨⟨by omega, by omega⟩, h_f_row, hR140.symm, (by unfold putW; rw [if_pos (by omega)]; exact e_0), (by unfold clr; rw [if_pos (by omega)]; exact e_1), e_2, (by rw [hR140]; exact j137), (by rw [hR140]; exact j138)⟩
              · refine br0 c130 ?_
                have d141 := c_ngt (x := (Int64.toInt d.toInt64)) (y := 99) rfl rfl c130
                refine br0 (by decide) ?_
                refine br0 (by decide) ?_
                refine jn_s ?_
                refine br0 (z_ne (x := (Int32.toInt b)) (y := 0) rfl rfl (by omega)) ?_
                refine o_X12_placeOf _ _ ?_
                refine br0 (z_ne (x := (Int32.toInt b)) (y := 0) rfl rfl (by omega)) ?_
                refine br0 (z_ne (x := (Int32.toInt b)) (y := 1) rfl rfl (by omega)) ?_
                refine o_X12_change _ _ _ _ ?_
                have t142 : (Int32.toInt (73 + a)) = 73 + (Int32.toInt a) := add_z rfl rfl (by omega) (by omega)
                refine ⟨vpi (x := (Int32.toInt (73 + a))) rfl (by omega) (by omega), ?_⟩
                refine ⟨vpi (x := (Int32.toInt (73 + a))) rfl (by omega) (by omega), ?_⟩
                refine un2_i ?_
                have g143 : 0 ≤ (Int32.toInt (f_row (73 + a).toNatClampNeg)) ∧ (Int32.toInt (f_row (73 + a).toNatClampNeg)) ≤ 99 := RLW.at_73 h_f_row (tnz (x := (Int32.toInt (73 + a))) rfl (by omega)) (by omega) (by omega)
                have t144 : (Int32.toInt (f_row (73 + a).toNatClampNeg)) = w (73 + ((Int32.toInt a)).toNat) := RMw.z e_0 (i := 73 + ((Int32.toInt a)).toNat) (show Int.toNat _ = _ by omega) (by omega)
                have k145 : Int32.toInt 0 = 0 := rfl
                have R146 : RLW (upd f_row (73 + a).toNatClampNeg d) := RLW.up_73 h_f_row (tnz (x := (Int32.toInt (73 + a))) rfl (by omega)) (by omega) (by omega) (w := (Int32.toInt d)) rfl (by omega) (by omega)
                have hR147 : putR w a.toInt b.toInt d.toInt = (Int32.toInt (f_row (73 + a).toNatClampNeg)) := by unfold putR; (repeat' split) <;> omega
                exact hq _ _ _ _ _ _ ⟨(by decide), R146, hR147.symm, (by unfold putW; rw [if_neg (by omega)]; unfold putO; first | (rw [if_pos (by omega)]; exact (RMw.up e_0 (by first | rfl | (show Int.toNat _ = _; omega)) (by first | rfl | omega))) | (rw [if_neg (by omega), if_pos (by omega)]; exact (RMw.up e_0 (by first | rfl | (show Int.toNat _ = _; omega)) (by first | rfl | omega))) | (rw [if_neg (by omega), if_neg (by omega)]; exact (RMw.up e_0 (by first | rfl | (show Int.toNat _ = _; omega)) (by first | rfl | omega)))), (by unfold clr; rw [if_neg (by omega)]; exact RMu.nil rfl), (RML.up e_2 (tnz (x := (Int32.toInt (73 + a))) rfl (by omega)) (by omega) (by omega)), (by rw [hR147]; unfold tlS; rw [if_neg (by omega)]; rfl), (by rw [hR147]; unfold tlR; rw [if_neg (by omega)]; exact e_3)⟩
          · refine br0 c114 ?_
            have d148 := ne_z (x := (Int32.toInt b)) (y := 2) rfl rfl c114
            refine br1 (by decide) ?_
            have k149 : Int32.toInt (-1) = (-1) := (by decide)
            refine s_X12_tellz (-1) (f_refusals) (by decide) e_3 (fun r150 u151_0 u151_1 H152 => ?_)
            have j153 := H152.1
            have j154 := H152.2.1
            have j155 := H152.2.2
            refine un2_i ?_
            have k156 : Int32.toInt 0 = 0 := rfl
            have hR157 : putR w a.toInt b.toInt d.toInt = (Int32.toInt r150) := by unfold putR; (repeat' split) <;> omega
            exact hq _ _ _ _ _ _ ⟨⟨by omega, by omega⟩, h_f_row, hR157.symm, (by unfold putW; rw [if_pos (by omega)]; exact e_0), (by unfold clr; rw [if_pos (by omega)]; exact e_1), e_2, (by rw [hR157]; exact j154), (by rw [hR157]; exact j155)⟩


set_option maxRecDepth 100000 in
theorem s_X12_sinkz (a : Int32) (h0_nUndo : Int32) (f_row : Nat → Int32) (f_refusals : Nat → Int32) {w : Nat → Int} {U : UL} {rf : Nat → Int32} {ls : Nat → List Cls} {gm_undos : Nat → Int32} {gm_sorts : Nat → Int32} (h_h0_nUndo : 0 ≤ h0_nUndo.toInt ∧ h0_nUndo.toInt ≤ 16) (h_f_row : RLW f_row) (e_0 : RMw f_row w) (e_1 : RMu gm_undos gm_sorts h0_nUndo U) (e_2 : RML f_row ls) (e_3 : RF f_refusals rf) {Q : Int32 → (Int32 × Int32 × Int32 × (Nat → Int32) × (Nat → Int32)) → Prop} (hq : ∀ (r : Int32) (u_0 : Int32) (u_1 : Int32) (u_2 : Int32) (u_3 : Nat → Int32) (u_4 : Nat → Int32), (0 ≤ u_2.toInt ∧ u_2.toInt ≤ 16) ∧ (RLW u_3) ∧ (r.toInt = sinkR w a.toInt) ∧ (RMw u_3 (sinkW w a.toInt)) ∧ (RMu gm_undos gm_sorts u_2 (clr (sinkR w a.toInt) U)) ∧ (RML u_3 ls) ∧ (u_1.toInt = tlS (sinkR w a.toInt)) ∧ (RF u_4 (tlR rf (sinkR w a.toInt))) → Q r (u_0, u_1, u_2, u_3, u_4)) : wp_X12_sink a h0_nUndo f_row f_refusals Q := by
  unfold wp_X12_sink
  refine o_X12_isColumn _ _ ?_
  refine o_X12_in _ _ _ _ ?_
  by_cases c1 : (lg_cmp a.toInt64 0) < 0
  · refine br1 c1 ?_
    have t2 : (Int64.toInt a.toInt64) = (Int32.toInt a) := i2l_z rfl
    have d3 := c_lt (x := (Int64.toInt a.toInt64)) (y := 0) rfl rfl c1
    refine br1 (by decide) ?_
    have k4 : Int32.toInt (-1) = (-1) := (by decide)
    refine s_X12_tellz (-1) (f_refusals) (by decide) e_3 (fun r5 u6_0 u6_1 H7 => ?_)
    have j8 := H7.1
    have j9 := H7.2.1
    have j10 := H7.2.2
    refine un2_i ?_
    have k11 : Int32.toInt 0 = 0 := rfl
    have hR12 : sinkR w a.toInt = (Int32.toInt r5) := by unfold sinkR; (repeat' split) <;> omega
    exact hq _ _ _ _ _ _ ⟨⟨by omega, by omega⟩, h_f_row, hR12.symm, (by unfold sinkW; rw [if_pos (by omega)]; exact e_0), (by unfold clr; rw [if_pos (by omega)]; exact e_1), e_2, (by rw [hR12]; exact j9), (by rw [hR12]; exact j10)⟩
  · refine br0 c1 ?_
    have t13 : (Int64.toInt a.toInt64) = (Int32.toInt a) := i2l_z rfl
    have d14 := c_nlt (x := (Int64.toInt a.toInt64)) (y := 0) rfl rfl c1
    by_cases c15 : 0 < (lg_cmp a.toInt64 7)
    · refine br1 c15 ?_
      have d16 := c_gt (x := (Int64.toInt a.toInt64)) (y := 7) rfl rfl c15
      refine br1 (by decide) ?_
      have k17 : Int32.toInt (-1) = (-1) := (by decide)
      refine s_X12_tellz (-1) (f_refusals) (by decide) e_3 (fun r18 u19_0 u19_1 H20 => ?_)
      have j21 := H20.1
      have j22 := H20.2.1
      have j23 := H20.2.2
      refine un2_i ?_
      have k24 : Int32.toInt 0 = 0 := rfl
      have hR25 : sinkR w a.toInt = (Int32.toInt r18) := by unfold sinkR; (repeat' split) <;> omega
      exact hq _ _ _ _ _ _ ⟨⟨by omega, by omega⟩, h_f_row, hR25.symm, (by unfold sinkW; rw [if_pos (by omega)]; exact e_0), (by unfold clr; rw [if_pos (by omega)]; exact e_1), e_2, (by rw [hR25]; exact j22), (by rw [hR25]; exact j23)⟩
    · refine br0 c15 ?_
      have d26 := c_ngt (x := (Int64.toInt a.toInt64)) (y := 7) rfl rfl c15
      refine br0 (by decide) ?_
      have t27 : (Int32.toInt (33 + a)) = 33 + (Int32.toInt a) := add_z rfl rfl (by omega) (by omega)
      refine ⟨vpi (x := (Int32.toInt (33 + a))) rfl (by omega) (by omega), ?_⟩
      by_cases c28 : (f_row (33 + a).toNatClampNeg) = 1
      · refine br1 c28 ?_
        have g29 : 0 ≤ (Int32.toInt (f_row (33 + a).toNatClampNeg)) ∧ (Int32.toInt (f_row (33 + a).toNatClampNeg)) ≤ 1 := RLW.at_33 h_f_row (tnz (x := (Int32.toInt (33 + a))) rfl (by omega)) (by omega) (by omega)
        have t30 : (Int32.toInt (f_row (33 + a).toNatClampNeg)) = w (33 + ((Int32.toInt a)).toNat) := RMw.z e_0 (i := 33 + ((Int32.toInt a)).toNat) (show Int.toNat _ = _ by omega) (by omega)
        have d31 := eq_z (x := (Int32.toInt (f_row (33 + a).toNatClampNeg))) (y := 1) rfl rfl c28
        have k32 : Int32.toInt (-3) = (-3) := (by decide)
        refine s_X12_tellz (-3) (f_refusals) (by decide) e_3 (fun r33 u34_0 u34_1 H35 => ?_)
        have j36 := H35.1
        have j37 := H35.2.1
        have j38 := H35.2.2
        refine un2_i ?_
        have k39 : Int32.toInt 0 = 0 := rfl
        have hR40 : sinkR w a.toInt = (Int32.toInt r33) := by unfold sinkR; (repeat' split) <;> omega
        exact hq _ _ _ _ _ _ ⟨⟨by omega, by omega⟩, h_f_row, hR40.symm, (by unfold sinkW; rw [if_pos (by omega)]; exact e_0), (by unfold clr; rw [if_pos (by omega)]; exact e_1), e_2, (by rw [hR40]; exact j37), (by rw [hR40]; exact j38)⟩
      · refine br0 c28 ?_
        have g41 : 0 ≤ (Int32.toInt (f_row (33 + a).toNatClampNeg)) ∧ (Int32.toInt (f_row (33 + a).toNatClampNeg)) ≤ 1 := RLW.at_33 h_f_row (tnz (x := (Int32.toInt (33 + a))) rfl (by omega)) (by omega) (by omega)
        have t42 : (Int32.toInt (f_row (33 + a).toNatClampNeg)) = w (33 + ((Int32.toInt a)).toNat) := RMw.z e_0 (i := 33 + ((Int32.toInt a)).toNat) (show Int.toNat _ = _ by omega) (by omega)
        have d43 := ne_z (x := (Int32.toInt (f_row (33 + a).toNatClampNeg))) (y := 1) rfl rfl c28
        have t44 : (Int32.toInt (113 + a)) = 113 + (Int32.toInt a) := add_z rfl rfl (by omega) (by omega)
        refine ⟨vpi (x := (Int32.toInt (113 + a))) rfl (by omega) (by omega), ?_⟩
        by_cases c45 : (f_row (113 + a).toNatClampNeg) = 1
        · refine br1 c45 ?_
          have g46 : 0 ≤ (Int32.toInt (f_row (113 + a).toNatClampNeg)) ∧ (Int32.toInt (f_row (113 + a).toNatClampNeg)) ≤ 3 := RLW.at_113 h_f_row (tnz (x := (Int32.toInt (113 + a))) rfl (by omega)) (by omega) (by omega)
          have t47 : (Int32.toInt (f_row (113 + a).toNatClampNeg)) = w (113 + ((Int32.toInt a)).toNat) := RMw.z e_0 (i := 113 + ((Int32.toInt a)).toNat) (show Int.toNat _ = _ by omega) (by omega)
          have d48 := eq_z (x := (Int32.toInt (f_row (113 + a).toNatClampNeg))) (y := 1) rfl rfl c45
          have k49 : Int32.toInt (-3) = (-3) := (by decide)
          refine s_X12_tellz (-3) (f_refusals) (by decide) e_3 (fun r50 u51_0 u51_1 H52 => ?_)
          have j53 := H52.1
          have j54 := H52.2.1
          have j55 := H52.2.2
          refine un2_i ?_
          have k56 : Int32.toInt 0 = 0 := rfl
          have hR57 : sinkR w a.toInt = (Int32.toInt r50) := by unfold sinkR; (repeat' split) <;> omega
          exact hq _ _ _ _ _ _ ⟨⟨by omega, by omega⟩, h_f_row, hR57.symm, (by unfold sinkW; rw [if_pos (by omega)]; exact e_0), (by unfold clr; rw [if_pos (by omega)]; exact e_1), e_2, (by rw [hR57]; exact j54), (by rw [hR57]; exact j55)⟩
        · refine br0 c45 ?_
          have g58 : 0 ≤ (Int32.toInt (f_row (113 + a).toNatClampNeg)) ∧ (Int32.toInt (f_row (113 + a).toNatClampNeg)) ≤ 3 := RLW.at_113 h_f_row (tnz (x := (Int32.toInt (113 + a))) rfl (by omega)) (by omega) (by omega)
          have t59 : (Int32.toInt (f_row (113 + a).toNatClampNeg)) = w (113 + ((Int32.toInt a)).toNat) := RMw.z e_0 (i := 113 + ((Int32.toInt a)).toNat) (show Int.toNat _ = _ by omega) (by omega)
          have d60 := ne_z (x := (Int32.toInt (f_row (113 + a).toNatClampNeg))) (y := 1) rfl rfl c45
          by_cases c61 : (f_row (0 : Int32).toNatClampNeg) = 6
          · refine br1 c61 ?_
            have g62 : 0 ≤ (Int32.toInt (f_row (0 : Int32).toNatClampNeg)) ∧ (Int32.toInt (f_row (0 : Int32).toNatClampNeg)) ≤ 6 := RLW.at_0 h_f_row (rfl : ((0 : Nat) : Int) = 0) (by omega) (by omega)
            have t63 : (Int32.toInt (f_row (0 : Int32).toNatClampNeg)) = w (0) := RMw.z e_0 (i := 0) rfl (by omega)
            have d64 := eq_z (x := (Int32.toInt (f_row (0 : Int32).toNatClampNeg))) (y := 6) rfl rfl c61
            have k65 : Int32.toInt (-5) = (-5) := (by decide)
            refine s_X12_tellz (-5) (f_refusals) (by decide) e_3 (fun r66 u67_0 u67_1 H68 => ?_)
            have j69 := H68.1
            have j70 := H68.2.1
            have j71 := H68.2.2
            refine un2_i ?_
            have k72 : Int32.toInt 0 = 0 := rfl
            have hR73 : sinkR w a.toInt = (Int32.toInt r66) := by unfold sinkR; (repeat' split) <;> omega
            exact hq _ _ _ _ _ _ ⟨⟨by omega, by omega⟩, h_f_row, hR73.symm, (by unfold sinkW; rw [if_pos (by omega)]; exact e_0), (by unfold clr; rw [if_pos (by omega)]; exact e_1), e_2, (by rw [hR73]; exact j70), (by rw [hR73]; exact j71)⟩
          · refine br0 c61 ?_
            have g74 : 0 ≤ (Int32.toInt (f_row (0 : Int32).toNatClampNeg)) ∧ (Int32.toInt (f_row (0 : Int32).toNatClampNeg)) ≤ 6 := RLW.at_0 h_f_row (rfl : ((0 : Nat) : Int) = 0) (by omega) (by omega)
            have t75 : (Int32.toInt (f_row (0 : Int32).toNatClampNeg)) = w (0) := RMw.z e_0 (i := 0) rfl (by omega)
            have d76 := ne_z (x := (Int32.toInt (f_row (0 : Int32).toNatClampNeg))) (y := 6) rfl rfl c61
            have t77 : (Int32.toInt (10 + (f_row (0 : Int32).toNatClampNeg))) = 10 + (Int32.toInt (f_row (0 : Int32).toNatClampNeg)) := add_z rfl rfl (by omega) (by omega)
            refine ⟨vpi (x := (Int32.toInt (10 + (f_row (0 : Int32).toNatClampNeg)))) rfl (by omega) (by omega), ?_⟩
            have t78 : (Int32.toInt (16 + (f_row (0 : Int32).toNatClampNeg))) = 16 + (Int32.toInt (f_row (0 : Int32).toNatClampNeg)) := add_z rfl rfl (by omega) (by omega)
            refine ⟨vpi (x := (Int32.toInt (16 + (f_row (0 : Int32).toNatClampNeg)))) rfl (by omega) (by omega), ?_⟩
            refine ⟨vpi (x := (Int32.toInt (33 + a))) rfl (by omega) (by omega), ?_⟩
            refine o_X12_settled _ _ _ _ ?_
            refine br1 (z_le (x := 0) (y := (Int32.toInt (f_row (0 : Int32).toNatClampNeg))) rfl rfl (by omega)) ?_
            have t79 := i32_hi (f_row (0 : Int32).toNatClampNeg)
            refine s_X12_tellz (f_row (0 : Int32).toNatClampNeg) (f_refusals) ⟨by omega, by omega⟩ e_3 (fun r80 u81_0 u81_1 H82 => ?_)
            have j83 := H82.1
            have j84 := H82.2.1
            have j85 := H82.2.2
            refine un2_i ?_
            refine un3_i ?_
            have k86 : Int32.toInt 0 = 0 := rfl
            have R87 : RLW (upd f_row (10 + (f_row (0 : Int32).toNatClampNeg)).toNatClampNeg a) := RLW.up_10 h_f_row (tnz (x := (Int32.toInt (10 + (f_row (0 : Int32).toNatClampNeg)))) rfl (by omega)) (by omega) (by omega) (w := (Int32.toInt a)) rfl (by omega) (by omega)
            have R88 : RLW (upd (upd f_row (10 + (f_row (0 : Int32).toNatClampNeg)).toNatClampNeg a) (16 + (f_row (0 : Int32).toNatClampNeg)).toNatClampNeg 0) := RLW.up_16 R87 (tnz (x := (Int32.toInt (16 + (f_row (0 : Int32).toNatClampNeg)))) rfl (by omega)) (by omega) (by omega) (w := 0) rfl (by omega) (by omega)
            have R89 : RLW (upd (upd (upd f_row (10 + (f_row (0 : Int32).toNatClampNeg)).toNatClampNeg a) (16 + (f_row (0 : Int32).toNatClampNeg)).toNatClampNeg 0) (33 + a).toNatClampNeg 1) := RLW.up_33 R88 (tnz (x := (Int32.toInt (33 + a))) rfl (by omega)) (by omega) (by omega) (w := 1) rfl (by omega) (by omega)
            have t90 : (Int32.toInt ((upd f_row (10 + (f_row (0 : Int32).toNatClampNeg)).toNatClampNeg a) (0 : Int32).toNatClampNeg)) = (Int32.toInt (f_row (0 : Int32).toNatClampNeg)) := congrArg Int32.toInt (pk_un (ne_n (rfl : ((0 : Nat) : Int) = 0) (tnz (x := (Int32.toInt (10 + (f_row (0 : Int32).toNatClampNeg)))) rfl (by omega)) (by omega)))
            have t91 : (Int32.toInt ((upd (upd f_row (10 + (f_row (0 : Int32).toNatClampNeg)).toNatClampNeg a) (16 + (f_row (0 : Int32).toNatClampNeg)).toNatClampNeg 0) (0 : Int32).toNatClampNeg)) = (Int32.toInt ((upd f_row (10 + (f_row (0 : Int32).toNatClampNeg)).toNatClampNeg a) (0 : Int32).toNatClampNeg)) := congrArg Int32.toInt (pk_un (ne_n (rfl : ((0 : Nat) : Int) = 0) (tnz (x := (Int32.toInt (16 + (f_row (0 : Int32).toNatClampNeg)))) rfl (by omega)) (by omega)))
            have t92 : (Int32.toInt ((upd (upd (upd f_row (10 + (f_row (0 : Int32).toNatClampNeg)).toNatClampNeg a) (16 + (f_row (0 : Int32).toNatClampNeg)).toNatClampNeg 0) (33 + a).toNatClampNeg 1) (0 : Int32).toNatClampNeg)) = (Int32.toInt ((upd (upd f_row (10 + (f_row (0 : Int32).toNatClampNeg)).toNatClampNeg a) (16 + (f_row (0 : Int32).toNatClampNeg)).toNatClampNeg 0) (0 : Int32).toNatClampNeg)) := congrArg Int32.toInt (pk_un (ne_n (rfl : ((0 : Nat) : Int) = 0) (tnz (x := (Int32.toInt (33 + a))) rfl (by omega)) (by omega)))
            have t93 : (Int32.toInt (((upd (upd (upd f_row (10 + (f_row (0 : Int32).toNatClampNeg)).toNatClampNeg a) (16 + (f_row (0 : Int32).toNatClampNeg)).toNatClampNeg 0) (33 + a).toNatClampNeg 1) (0 : Int32).toNatClampNeg) + 1)) = (Int32.toInt ((upd (upd (upd f_row (10 + (f_row (0 : Int32).toNatClampNeg)).toNatClampNeg a) (16 + (f_row (0 : Int32).toNatClampNeg)).toNatClampNeg 0) (33 + a).toNatClampNeg 1) (0 : Int32).toNatClampNeg)) + 1 := add_z rfl rfl (by omega) (by omega)
            have R94 : RLW (upd (upd (upd (upd f_row (10 + (f_row (0 : Int32).toNatClampNeg)).toNatClampNeg a) (16 + (f_row (0 : Int32).toNatClampNeg)).toNatClampNeg 0) (33 + a).toNatClampNeg 1) 0 (((upd (upd (upd f_row (10 + (f_row (0 : Int32).toNatClampNeg)).toNatClampNeg a) (16 + (f_row (0 : Int32).toNatClampNeg)).toNatClampNeg 0) (33 + a).toNatClampNeg 1) (0 : Int32).toNatClampNeg) + 1)) := RLW.up_0 R89 (rfl : ((0 : Nat) : Int) = 0) (by omega) (by omega) (w := (Int32.toInt (((upd (upd (upd f_row (10 + (f_row (0 : Int32).toNatClampNeg)).toNatClampNeg a) (16 + (f_row (0 : Int32).toNatClampNeg)).toNatClampNeg 0) (33 + a).toNatClampNeg 1) (0 : Int32).toNatClampNeg) + 1))) rfl (by omega) (by omega)
            have hR95 : sinkR w a.toInt = (Int32.toInt r80) := by unfold sinkR; (repeat' split) <;> omega
            exact hq _ _ _ _ _ _ ⟨(by decide), R94, hR95.symm, (by unfold sinkW; rw [if_neg (by omega)]; unfold sinkO; exact (RMw.up (RMw.up (RMw.up (RMw.up e_0 (by first | rfl | (show Int.toNat _ = _; omega)) (by first | rfl | omega)) (by first | rfl | (show Int.toNat _ = _; omega)) (by first | rfl | omega)) (by first | rfl | (show Int.toNat _ = _; omega)) (by first | rfl | omega)) (by first | rfl | (show Int.toNat _ = _; omega)) (by first | rfl | omega))), (by unfold clr; rw [if_neg (by omega)]; exact RMu.nil rfl), (RML.up (RML.up (RML.up (RML.up e_2 (tnz (x := (Int32.toInt (10 + (f_row (0 : Int32).toNatClampNeg)))) rfl (by omega)) (by omega) (by omega)) (tnz (x := (Int32.toInt (16 + (f_row (0 : Int32).toNatClampNeg)))) rfl (by omega)) (by omega) (by omega)) (tnz (x := (Int32.toInt (33 + a))) rfl (by omega)) (by omega) (by omega)) (rfl : ((0 : Nat) : Int) = 0) (by omega) (by omega)), (by rw [hR95]; exact j84), (by rw [hR95]; exact j85)⟩


set_option maxRecDepth 100000 in
theorem s_X12_listenerz (a : Int32) (b : Int32) (h0_nUndo : Int32) (f_refusals : Nat → Int32) (f_row : Nat → Int32) {w : Nat → Int} {U : UL} {rf : Nat → Int32} {ls : Nat → List Cls} {gm_undos : Nat → Int32} {gm_sorts : Nat → Int32} (h_h0_nUndo : 0 ≤ h0_nUndo.toInt ∧ h0_nUndo.toInt ≤ 16) (h_f_row : RLW f_row) (e_0 : RMw f_row w) (e_1 : RMu gm_undos gm_sorts h0_nUndo U) (e_2 : RML f_row ls) (e_3 : RF f_refusals rf) {Q : Int32 → (Int32 × Int32 × Int32 × (Nat → Int32) × (Nat → Int32)) → Prop} (hq : ∀ (r : Int32) (u_0 : Int32) (u_1 : Int32) (u_2 : Int32) (u_3 : Nat → Int32) (u_4 : Nat → Int32), (0 ≤ u_2.toInt ∧ u_2.toInt ≤ 16) ∧ (RLW u_4) ∧ (r.toInt = listenerR w a.toInt b.toInt) ∧ (RMw u_4 (listenerW w a.toInt b.toInt)) ∧ (RMu gm_undos gm_sorts u_2 (clr (listenerR w a.toInt b.toInt) U)) ∧ (RML u_4 ls) ∧ (u_1.toInt = tlS (listenerR w a.toInt b.toInt)) ∧ (RF u_3 (tlR rf (listenerR w a.toInt b.toInt))) → Q r (u_0, u_1, u_2, u_3, u_4)) : wp_X12_listener a b h0_nUndo f_refusals f_row Q := by
  unfold wp_X12_listener
  refine o_X12_isColumn _ _ ?_
  refine o_X12_in _ _ _ _ ?_
  by_cases c1 : (lg_cmp a.toInt64 0) < 0
  · refine br1 c1 ?_
    have t2 : (Int64.toInt a.toInt64) = (Int32.toInt a) := i2l_z rfl
    have d3 := c_lt (x := (Int64.toInt a.toInt64)) (y := 0) rfl rfl c1
    refine br1 (by decide) ?_
    have k4 : Int32.toInt (-1) = (-1) := (by decide)
    refine s_X12_tellz (-1) (f_refusals) (by decide) e_3 (fun r5 u6_0 u6_1 H7 => ?_)
    have j8 := H7.1
    have j9 := H7.2.1
    have j10 := H7.2.2
    refine un2_i ?_
    have k11 : Int32.toInt 0 = 0 := rfl
    have hR12 : listenerR w a.toInt b.toInt = (Int32.toInt r5) := by unfold listenerR; (repeat' split) <;> omega
    exact hq _ _ _ _ _ _ ⟨⟨by omega, by omega⟩, h_f_row, hR12.symm, (by unfold listenerW; rw [if_pos (by omega)]; exact e_0), (by unfold clr; rw [if_pos (by omega)]; exact e_1), e_2, (by rw [hR12]; exact j9), (by rw [hR12]; exact j10)⟩
  · refine br0 c1 ?_
    have t13 : (Int64.toInt a.toInt64) = (Int32.toInt a) := i2l_z rfl
    have d14 := c_nlt (x := (Int64.toInt a.toInt64)) (y := 0) rfl rfl c1
    by_cases c15 : 0 < (lg_cmp a.toInt64 7)
    · refine br1 c15 ?_
      have d16 := c_gt (x := (Int64.toInt a.toInt64)) (y := 7) rfl rfl c15
      refine br1 (by decide) ?_
      have k17 : Int32.toInt (-1) = (-1) := (by decide)
      refine s_X12_tellz (-1) (f_refusals) (by decide) e_3 (fun r18 u19_0 u19_1 H20 => ?_)
      have j21 := H20.1
      have j22 := H20.2.1
      have j23 := H20.2.2
      refine un2_i ?_
      have k24 : Int32.toInt 0 = 0 := rfl
      have hR25 : listenerR w a.toInt b.toInt = (Int32.toInt r18) := by unfold listenerR; (repeat' split) <;> omega
      exact hq _ _ _ _ _ _ ⟨⟨by omega, by omega⟩, h_f_row, hR25.symm, (by unfold listenerW; rw [if_pos (by omega)]; exact e_0), (by unfold clr; rw [if_pos (by omega)]; exact e_1), e_2, (by rw [hR25]; exact j22), (by rw [hR25]; exact j23)⟩
    · refine br0 c15 ?_
      have d26 := c_ngt (x := (Int64.toInt a.toInt64)) (y := 7) rfl rfl c15
      refine br0 (by decide) ?_
      refine o_X12_in _ _ _ _ ?_
      by_cases c27 : (lg_cmp b.toInt64 0) < 0
      · refine br1 c27 ?_
        have t28 : (Int64.toInt b.toInt64) = (Int32.toInt b) := i2l_z rfl
        have d29 := c_lt (x := (Int64.toInt b.toInt64)) (y := 0) rfl rfl c27
        refine br1 (by decide) ?_
        have k30 : Int32.toInt (-1) = (-1) := (by decide)
        refine s_X12_tellz (-1) (f_refusals) (by decide) e_3 (fun r31 u32_0 u32_1 H33 => ?_)
        have j34 := H33.1
        have j35 := H33.2.1
        have j36 := H33.2.2
        refine un2_i ?_
        have k37 : Int32.toInt 0 = 0 := rfl
        have hR38 : listenerR w a.toInt b.toInt = (Int32.toInt r31) := by unfold listenerR; (repeat' split) <;> omega
        exact hq _ _ _ _ _ _ ⟨⟨by omega, by omega⟩, h_f_row, hR38.symm, (by unfold listenerW; rw [if_pos (by omega)]; exact e_0), (by unfold clr; rw [if_pos (by omega)]; exact e_1), e_2, (by rw [hR38]; exact j35), (by rw [hR38]; exact j36)⟩
      · refine br0 c27 ?_
        have t39 : (Int64.toInt b.toInt64) = (Int32.toInt b) := i2l_z rfl
        have d40 := c_nlt (x := (Int64.toInt b.toInt64)) (y := 0) rfl rfl c27
        by_cases c41 : 0 < (lg_cmp b.toInt64 20)
        · refine br1 c41 ?_
          have d42 := c_gt (x := (Int64.toInt b.toInt64)) (y := 20) rfl rfl c41
          refine br1 (by decide) ?_
          have k43 : Int32.toInt (-1) = (-1) := (by decide)
          refine s_X12_tellz (-1) (f_refusals) (by decide) e_3 (fun r44 u45_0 u45_1 H46 => ?_)
          have j47 := H46.1
          have j48 := H46.2.1
          have j49 := H46.2.2
          refine un2_i ?_
          have k50 : Int32.toInt 0 = 0 := rfl
          have hR51 : listenerR w a.toInt b.toInt = (Int32.toInt r44) := by unfold listenerR; (repeat' split) <;> omega
          exact hq _ _ _ _ _ _ ⟨⟨by omega, by omega⟩, h_f_row, hR51.symm, (by unfold listenerW; rw [if_pos (by omega)]; exact e_0), (by unfold clr; rw [if_pos (by omega)]; exact e_1), e_2, (by rw [hR51]; exact j48), (by rw [hR51]; exact j49)⟩
        · refine br0 c41 ?_
          have d52 := c_ngt (x := (Int64.toInt b.toInt64)) (y := 20) rfl rfl c41
          refine br0 (by decide) ?_
          by_cases c53 : (f_row (1 : Int32).toNatClampNeg) = 5
          · refine br1 c53 ?_
            have g54 : 0 ≤ (Int32.toInt (f_row (1 : Int32).toNatClampNeg)) ∧ (Int32.toInt (f_row (1 : Int32).toNatClampNeg)) ≤ 5 := RLW.at_1 h_f_row (rfl : ((1 : Nat) : Int) = 1) (by omega) (by omega)
            have t55 : (Int32.toInt (f_row (1 : Int32).toNatClampNeg)) = w (1) := RMw.z e_0 (i := 1) rfl (by omega)
            have d56 := eq_z (x := (Int32.toInt (f_row (1 : Int32).toNatClampNeg))) (y := 5) rfl rfl c53
            have k57 : Int32.toInt (-5) = (-5) := (by decide)
            refine s_X12_tellz (-5) (f_refusals) (by decide) e_3 (fun r58 u59_0 u59_1 H60 => ?_)
            have j61 := H60.1
            have j62 := H60.2.1
            have j63 := H60.2.2
            refine un2_i ?_
            have k64 : Int32.toInt 0 = 0 := rfl
            have hR65 : listenerR w a.toInt b.toInt = (Int32.toInt r58) := by unfold listenerR; (repeat' split) <;> omega
            exact hq _ _ _ _ _ _ ⟨⟨by omega, by omega⟩, h_f_row, hR65.symm, (by unfold listenerW; rw [if_pos (by omega)]; exact e_0), (by unfold clr; rw [if_pos (by omega)]; exact e_1), e_2, (by rw [hR65]; exact j62), (by rw [hR65]; exact j63)⟩
          · refine br0 c53 ?_
            have g66 : 0 ≤ (Int32.toInt (f_row (1 : Int32).toNatClampNeg)) ∧ (Int32.toInt (f_row (1 : Int32).toNatClampNeg)) ≤ 5 := RLW.at_1 h_f_row (rfl : ((1 : Nat) : Int) = 1) (by omega) (by omega)
            have t67 : (Int32.toInt (f_row (1 : Int32).toNatClampNeg)) = w (1) := RMw.z e_0 (i := 1) rfl (by omega)
            have d68 := ne_z (x := (Int32.toInt (f_row (1 : Int32).toNatClampNeg))) (y := 5) rfl rfl c53
            have t69 : (Int32.toInt (28 + (f_row (1 : Int32).toNatClampNeg))) = 28 + (Int32.toInt (f_row (1 : Int32).toNatClampNeg)) := add_z rfl rfl (by omega) (by omega)
            refine ⟨vpi (x := (Int32.toInt (28 + (f_row (1 : Int32).toNatClampNeg)))) rfl (by omega) (by omega), ?_⟩
            have t70 : (Int32.toInt (193 + (f_row (1 : Int32).toNatClampNeg))) = 193 + (Int32.toInt (f_row (1 : Int32).toNatClampNeg)) := add_z rfl rfl (by omega) (by omega)
            refine ⟨vpi (x := (Int32.toInt (193 + (f_row (1 : Int32).toNatClampNeg)))) rfl (by omega) (by omega), ?_⟩
            refine o_X12_settled _ _ _ _ ?_
            refine br1 (z_le (x := 0) (y := (Int32.toInt (f_row (1 : Int32).toNatClampNeg))) rfl rfl (by omega)) ?_
            have t71 := i32_hi (f_row (1 : Int32).toNatClampNeg)
            refine s_X12_tellz (f_row (1 : Int32).toNatClampNeg) (f_refusals) ⟨by omega, by omega⟩ e_3 (fun r72 u73_0 u73_1 H74 => ?_)
            have j75 := H74.1
            have j76 := H74.2.1
            have j77 := H74.2.2
            refine un2_i ?_
            refine un3_i ?_
            have k78 : Int32.toInt 0 = 0 := rfl
            have R79 : RLW (upd f_row (28 + (f_row (1 : Int32).toNatClampNeg)).toNatClampNeg a) := RLW.up_28 h_f_row (tnz (x := (Int32.toInt (28 + (f_row (1 : Int32).toNatClampNeg)))) rfl (by omega)) (by omega) (by omega) (w := (Int32.toInt a)) rfl (by omega) (by omega)
            have R80 : RLW (upd (upd f_row (28 + (f_row (1 : Int32).toNatClampNeg)).toNatClampNeg a) (193 + (f_row (1 : Int32).toNatClampNeg)).toNatClampNeg b) := RLW.up_193 R79 (tnz (x := (Int32.toInt (193 + (f_row (1 : Int32).toNatClampNeg)))) rfl (by omega)) (by omega) (by omega) (w := (Int32.toInt b)) rfl (by omega) (by omega)
            have t81 : (Int32.toInt ((upd f_row (28 + (f_row (1 : Int32).toNatClampNeg)).toNatClampNeg a) (1 : Int32).toNatClampNeg)) = (Int32.toInt (f_row (1 : Int32).toNatClampNeg)) := congrArg Int32.toInt (pk_un (ne_n (rfl : ((1 : Nat) : Int) = 1) (tnz (x := (Int32.toInt (28 + (f_row (1 : Int32).toNatClampNeg)))) rfl (by omega)) (by omega)))
            have t82 : (Int32.toInt ((upd (upd f_row (28 + (f_row (1 : Int32).toNatClampNeg)).toNatClampNeg a) (193 + (f_row (1 : Int32).toNatClampNeg)).toNatClampNeg b) (1 : Int32).toNatClampNeg)) = (Int32.toInt ((upd f_row (28 + (f_row (1 : Int32).toNatClampNeg)).toNatClampNeg a) (1 : Int32).toNatClampNeg)) := congrArg Int32.toInt (pk_un (ne_n (rfl : ((1 : Nat) : Int) = 1) (tnz (x := (Int32.toInt (193 + (f_row (1 : Int32).toNatClampNeg)))) rfl (by omega)) (by omega)))
            have t83 : (Int32.toInt (((upd (upd f_row (28 + (f_row (1 : Int32).toNatClampNeg)).toNatClampNeg a) (193 + (f_row (1 : Int32).toNatClampNeg)).toNatClampNeg b) (1 : Int32).toNatClampNeg) + 1)) = (Int32.toInt ((upd (upd f_row (28 + (f_row (1 : Int32).toNatClampNeg)).toNatClampNeg a) (193 + (f_row (1 : Int32).toNatClampNeg)).toNatClampNeg b) (1 : Int32).toNatClampNeg)) + 1 := add_z rfl rfl (by omega) (by omega)
            have R84 : RLW (upd (upd (upd f_row (28 + (f_row (1 : Int32).toNatClampNeg)).toNatClampNeg a) (193 + (f_row (1 : Int32).toNatClampNeg)).toNatClampNeg b) 1 (((upd (upd f_row (28 + (f_row (1 : Int32).toNatClampNeg)).toNatClampNeg a) (193 + (f_row (1 : Int32).toNatClampNeg)).toNatClampNeg b) (1 : Int32).toNatClampNeg) + 1)) := RLW.up_1 R80 (rfl : ((1 : Nat) : Int) = 1) (by omega) (by omega) (w := (Int32.toInt (((upd (upd f_row (28 + (f_row (1 : Int32).toNatClampNeg)).toNatClampNeg a) (193 + (f_row (1 : Int32).toNatClampNeg)).toNatClampNeg b) (1 : Int32).toNatClampNeg) + 1))) rfl (by omega) (by omega)
            have hR85 : listenerR w a.toInt b.toInt = (Int32.toInt r72) := by unfold listenerR; (repeat' split) <;> omega
            exact hq _ _ _ _ _ _ ⟨(by decide), R84, hR85.symm, (by unfold listenerW; rw [if_neg (by omega)]; unfold listenerO; exact (RMw.up (RMw.up (RMw.up e_0 (by first | rfl | (show Int.toNat _ = _; omega)) (by first | rfl | omega)) (by first | rfl | (show Int.toNat _ = _; omega)) (by first | rfl | omega)) (by first | rfl | (show Int.toNat _ = _; omega)) (by first | rfl | omega))), (by unfold clr; rw [if_neg (by omega)]; exact RMu.nil rfl), (RML.up (RML.up (RML.up e_2 (tnz (x := (Int32.toInt (28 + (f_row (1 : Int32).toNatClampNeg)))) rfl (by omega)) (by omega) (by omega)) (tnz (x := (Int32.toInt (193 + (f_row (1 : Int32).toNatClampNeg)))) rfl (by omega)) (by omega) (by omega)) (rfl : ((1 : Nat) : Int) = 1) (by omega) (by omega)), (by rw [hR85]; exact j76), (by rw [hR85]; exact j77)⟩


set_option maxRecDepth 100000 in
theorem s_X12_noisez (a : Int32) (b : Int32) (h0_nUndo : Int32) (f_refusals : Nat → Int32) (f_row : Nat → Int32) {w : Nat → Int} {U : UL} {rf : Nat → Int32} {ls : Nat → List Cls} {gm_undos : Nat → Int32} {gm_sorts : Nat → Int32} (h_h0_nUndo : 0 ≤ h0_nUndo.toInt ∧ h0_nUndo.toInt ≤ 16) (h_f_row : RLW f_row) (e_0 : RMw f_row w) (e_1 : RMu gm_undos gm_sorts h0_nUndo U) (e_2 : RML f_row ls) (e_3 : RF f_refusals rf) {Q : Int32 → (Int32 × Int32 × Int32 × (Nat → Int32) × (Nat → Int32)) → Prop} (hq : ∀ (r : Int32) (u_0 : Int32) (u_1 : Int32) (u_2 : Int32) (u_3 : Nat → Int32) (u_4 : Nat → Int32), (0 ≤ u_2.toInt ∧ u_2.toInt ≤ 16) ∧ (RLW u_4) ∧ (r.toInt = noiseR w a.toInt b.toInt) ∧ (RMw u_4 (noiseW w a.toInt b.toInt)) ∧ (RMu gm_undos gm_sorts u_2 (clr (noiseR w a.toInt b.toInt) U)) ∧ (RML u_4 ls) ∧ (u_1.toInt = tlS (noiseR w a.toInt b.toInt)) ∧ (RF u_3 (tlR rf (noiseR w a.toInt b.toInt))) → Q r (u_0, u_1, u_2, u_3, u_4)) : wp_X12_noise a b h0_nUndo f_refusals f_row Q := by
  unfold wp_X12_noise
  refine o_X12_isColumn _ _ ?_
  refine o_X12_in _ _ _ _ ?_
  by_cases c1 : (lg_cmp a.toInt64 0) < 0
  · refine br1 c1 ?_
    have t2 : (Int64.toInt a.toInt64) = (Int32.toInt a) := i2l_z rfl
    have d3 := c_lt (x := (Int64.toInt a.toInt64)) (y := 0) rfl rfl c1
    refine br1 (by decide) ?_
    have k4 : Int32.toInt (-1) = (-1) := (by decide)
    refine s_X12_tellz (-1) (f_refusals) (by decide) e_3 (fun r5 u6_0 u6_1 H7 => ?_)
    have j8 := H7.1
    have j9 := H7.2.1
    have j10 := H7.2.2
    refine un2_i ?_
    have k11 : Int32.toInt 0 = 0 := rfl
    have hR12 : noiseR w a.toInt b.toInt = (Int32.toInt r5) := by unfold noiseR; (repeat' split) <;> omega
    exact hq _ _ _ _ _ _ ⟨⟨by omega, by omega⟩, h_f_row, hR12.symm, (by unfold noiseW; rw [if_pos (by omega)]; exact e_0), (by unfold clr; rw [if_pos (by omega)]; exact e_1), e_2, (by rw [hR12]; exact j9), (by rw [hR12]; exact j10)⟩
  · refine br0 c1 ?_
    have t13 : (Int64.toInt a.toInt64) = (Int32.toInt a) := i2l_z rfl
    have d14 := c_nlt (x := (Int64.toInt a.toInt64)) (y := 0) rfl rfl c1
    by_cases c15 : 0 < (lg_cmp a.toInt64 7)
    · refine br1 c15 ?_
      have d16 := c_gt (x := (Int64.toInt a.toInt64)) (y := 7) rfl rfl c15
      refine br1 (by decide) ?_
      have k17 : Int32.toInt (-1) = (-1) := (by decide)
      refine s_X12_tellz (-1) (f_refusals) (by decide) e_3 (fun r18 u19_0 u19_1 H20 => ?_)
      have j21 := H20.1
      have j22 := H20.2.1
      have j23 := H20.2.2
      refine un2_i ?_
      have k24 : Int32.toInt 0 = 0 := rfl
      have hR25 : noiseR w a.toInt b.toInt = (Int32.toInt r18) := by unfold noiseR; (repeat' split) <;> omega
      exact hq _ _ _ _ _ _ ⟨⟨by omega, by omega⟩, h_f_row, hR25.symm, (by unfold noiseW; rw [if_pos (by omega)]; exact e_0), (by unfold clr; rw [if_pos (by omega)]; exact e_1), e_2, (by rw [hR25]; exact j22), (by rw [hR25]; exact j23)⟩
    · refine br0 c15 ?_
      have d26 := c_ngt (x := (Int64.toInt a.toInt64)) (y := 7) rfl rfl c15
      refine br0 (by decide) ?_
      refine o_X12_in _ _ _ _ ?_
      by_cases c27 : (lg_cmp b.toInt64 0) < 0
      · refine br1 c27 ?_
        have t28 : (Int64.toInt b.toInt64) = (Int32.toInt b) := i2l_z rfl
        have d29 := c_lt (x := (Int64.toInt b.toInt64)) (y := 0) rfl rfl c27
        refine br1 (by decide) ?_
        have k30 : Int32.toInt (-1) = (-1) := (by decide)
        refine s_X12_tellz (-1) (f_refusals) (by decide) e_3 (fun r31 u32_0 u32_1 H33 => ?_)
        have j34 := H33.1
        have j35 := H33.2.1
        have j36 := H33.2.2
        refine un2_i ?_
        have k37 : Int32.toInt 0 = 0 := rfl
        have hR38 : noiseR w a.toInt b.toInt = (Int32.toInt r31) := by unfold noiseR; (repeat' split) <;> omega
        exact hq _ _ _ _ _ _ ⟨⟨by omega, by omega⟩, h_f_row, hR38.symm, (by unfold noiseW; rw [if_pos (by omega)]; exact e_0), (by unfold clr; rw [if_pos (by omega)]; exact e_1), e_2, (by rw [hR38]; exact j35), (by rw [hR38]; exact j36)⟩
      · refine br0 c27 ?_
        have t39 : (Int64.toInt b.toInt64) = (Int32.toInt b) := i2l_z rfl
        have d40 := c_nlt (x := (Int64.toInt b.toInt64)) (y := 0) rfl rfl c27
        by_cases c41 : 0 < (lg_cmp b.toInt64 20)
        · refine br1 c41 ?_
          have d42 := c_gt (x := (Int64.toInt b.toInt64)) (y := 20) rfl rfl c41
          refine br1 (by decide) ?_
          have k43 : Int32.toInt (-1) = (-1) := (by decide)
          refine s_X12_tellz (-1) (f_refusals) (by decide) e_3 (fun r44 u45_0 u45_1 H46 => ?_)
          have j47 := H46.1
          have j48 := H46.2.1
          have j49 := H46.2.2
          refine un2_i ?_
          have k50 : Int32.toInt 0 = 0 := rfl
          have hR51 : noiseR w a.toInt b.toInt = (Int32.toInt r44) := by unfold noiseR; (repeat' split) <;> omega
          exact hq _ _ _ _ _ _ ⟨⟨by omega, by omega⟩, h_f_row, hR51.symm, (by unfold noiseW; rw [if_pos (by omega)]; exact e_0), (by unfold clr; rw [if_pos (by omega)]; exact e_1), e_2, (by rw [hR51]; exact j48), (by rw [hR51]; exact j49)⟩
        · refine br0 c41 ?_
          have d52 := c_ngt (x := (Int64.toInt b.toInt64)) (y := 20) rfl rfl c41
          refine br0 (by decide) ?_
          by_cases c53 : (f_row (2 : Int32).toNatClampNeg) = 6
          · refine br1 c53 ?_
            have g54 : 0 ≤ (Int32.toInt (f_row (2 : Int32).toNatClampNeg)) ∧ (Int32.toInt (f_row (2 : Int32).toNatClampNeg)) ≤ 6 := RLW.at_2 h_f_row (rfl : ((2 : Nat) : Int) = 2) (by omega) (by omega)
            have t55 : (Int32.toInt (f_row (2 : Int32).toNatClampNeg)) = w (2) := RMw.z e_0 (i := 2) rfl (by omega)
            have d56 := eq_z (x := (Int32.toInt (f_row (2 : Int32).toNatClampNeg))) (y := 6) rfl rfl c53
            have k57 : Int32.toInt (-5) = (-5) := (by decide)
            refine s_X12_tellz (-5) (f_refusals) (by decide) e_3 (fun r58 u59_0 u59_1 H60 => ?_)
            have j61 := H60.1
            have j62 := H60.2.1
            have j63 := H60.2.2
            refine un2_i ?_
            have k64 : Int32.toInt 0 = 0 := rfl
            have hR65 : noiseR w a.toInt b.toInt = (Int32.toInt r58) := by unfold noiseR; (repeat' split) <;> omega
            exact hq _ _ _ _ _ _ ⟨⟨by omega, by omega⟩, h_f_row, hR65.symm, (by unfold noiseW; rw [if_pos (by omega)]; exact e_0), (by unfold clr; rw [if_pos (by omega)]; exact e_1), e_2, (by rw [hR65]; exact j62), (by rw [hR65]; exact j63)⟩
          · refine br0 c53 ?_
            have g66 : 0 ≤ (Int32.toInt (f_row (2 : Int32).toNatClampNeg)) ∧ (Int32.toInt (f_row (2 : Int32).toNatClampNeg)) ≤ 6 := RLW.at_2 h_f_row (rfl : ((2 : Nat) : Int) = 2) (by omega) (by omega)
            have t67 : (Int32.toInt (f_row (2 : Int32).toNatClampNeg)) = w (2) := RMw.z e_0 (i := 2) rfl (by omega)
            have d68 := ne_z (x := (Int32.toInt (f_row (2 : Int32).toNatClampNeg))) (y := 6) rfl rfl c53
            have t69 : (Int32.toInt (198 + (f_row (2 : Int32).toNatClampNeg))) = 198 + (Int32.toInt (f_row (2 : Int32).toNatClampNeg)) := add_z rfl rfl (by omega) (by omega)
            refine ⟨vpi (x := (Int32.toInt (198 + (f_row (2 : Int32).toNatClampNeg)))) rfl (by omega) (by omega), ?_⟩
            have t70 : (Int32.toInt (204 + (f_row (2 : Int32).toNatClampNeg))) = 204 + (Int32.toInt (f_row (2 : Int32).toNatClampNeg)) := add_z rfl rfl (by omega) (by omega)
            refine ⟨vpi (x := (Int32.toInt (204 + (f_row (2 : Int32).toNatClampNeg)))) rfl (by omega) (by omega), ?_⟩
            have t71 : (Int32.toInt (22 + (f_row (2 : Int32).toNatClampNeg))) = 22 + (Int32.toInt (f_row (2 : Int32).toNatClampNeg)) := add_z rfl rfl (by omega) (by omega)
            refine ⟨vpi (x := (Int32.toInt (22 + (f_row (2 : Int32).toNatClampNeg)))) rfl (by omega) (by omega), ?_⟩
            refine o_X12_settled _ _ _ _ ?_
            refine br1 (z_le (x := 0) (y := (Int32.toInt (f_row (2 : Int32).toNatClampNeg))) rfl rfl (by omega)) ?_
            have t72 := i32_hi (f_row (2 : Int32).toNatClampNeg)
            refine s_X12_tellz (f_row (2 : Int32).toNatClampNeg) (f_refusals) ⟨by omega, by omega⟩ e_3 (fun r73 u74_0 u74_1 H75 => ?_)
            have j76 := H75.1
            have j77 := H75.2.1
            have j78 := H75.2.2
            refine un2_i ?_
            refine un3_i ?_
            have k79 : Int32.toInt 0 = 0 := rfl
            have R80 : RLW (upd f_row (198 + (f_row (2 : Int32).toNatClampNeg)).toNatClampNeg a) := RLW.up_198 h_f_row (tnz (x := (Int32.toInt (198 + (f_row (2 : Int32).toNatClampNeg)))) rfl (by omega)) (by omega) (by omega) (w := (Int32.toInt a)) rfl (by omega) (by omega)
            have R81 : RLW (upd (upd f_row (198 + (f_row (2 : Int32).toNatClampNeg)).toNatClampNeg a) (204 + (f_row (2 : Int32).toNatClampNeg)).toNatClampNeg b) := RLW.up_204 R80 (tnz (x := (Int32.toInt (204 + (f_row (2 : Int32).toNatClampNeg)))) rfl (by omega)) (by omega) (by omega) (w := (Int32.toInt b)) rfl (by omega) (by omega)
            have R82 : RLW (upd (upd (upd f_row (198 + (f_row (2 : Int32).toNatClampNeg)).toNatClampNeg a) (204 + (f_row (2 : Int32).toNatClampNeg)).toNatClampNeg b) (22 + (f_row (2 : Int32).toNatClampNeg)).toNatClampNeg 0) := RLW.up_22 R81 (tnz (x := (Int32.toInt (22 + (f_row (2 : Int32).toNatClampNeg)))) rfl (by omega)) (by omega) (by omega) (w := 0) rfl (by omega) (by omega)
            have t83 : (Int32.toInt ((upd f_row (198 + (f_row (2 : Int32).toNatClampNeg)).toNatClampNeg a) (2 : Int32).toNatClampNeg)) = (Int32.toInt (f_row (2 : Int32).toNatClampNeg)) := congrArg Int32.toInt (pk_un (ne_n (rfl : ((2 : Nat) : Int) = 2) (tnz (x := (Int32.toInt (198 + (f_row (2 : Int32).toNatClampNeg)))) rfl (by omega)) (by omega)))
            have t84 : (Int32.toInt ((upd (upd f_row (198 + (f_row (2 : Int32).toNatClampNeg)).toNatClampNeg a) (204 + (f_row (2 : Int32).toNatClampNeg)).toNatClampNeg b) (2 : Int32).toNatClampNeg)) = (Int32.toInt ((upd f_row (198 + (f_row (2 : Int32).toNatClampNeg)).toNatClampNeg a) (2 : Int32).toNatClampNeg)) := congrArg Int32.toInt (pk_un (ne_n (rfl : ((2 : Nat) : Int) = 2) (tnz (x := (Int32.toInt (204 + (f_row (2 : Int32).toNatClampNeg)))) rfl (by omega)) (by omega)))
            have t85 : (Int32.toInt ((upd (upd (upd f_row (198 + (f_row (2 : Int32).toNatClampNeg)).toNatClampNeg a) (204 + (f_row (2 : Int32).toNatClampNeg)).toNatClampNeg b) (22 + (f_row (2 : Int32).toNatClampNeg)).toNatClampNeg 0) (2 : Int32).toNatClampNeg)) = (Int32.toInt ((upd (upd f_row (198 + (f_row (2 : Int32).toNatClampNeg)).toNatClampNeg a) (204 + (f_row (2 : Int32).toNatClampNeg)).toNatClampNeg b) (2 : Int32).toNatClampNeg)) := congrArg Int32.toInt (pk_un (ne_n (rfl : ((2 : Nat) : Int) = 2) (tnz (x := (Int32.toInt (22 + (f_row (2 : Int32).toNatClampNeg)))) rfl (by omega)) (by omega)))
            have t86 : (Int32.toInt (((upd (upd (upd f_row (198 + (f_row (2 : Int32).toNatClampNeg)).toNatClampNeg a) (204 + (f_row (2 : Int32).toNatClampNeg)).toNatClampNeg b) (22 + (f_row (2 : Int32).toNatClampNeg)).toNatClampNeg 0) (2 : Int32).toNatClampNeg) + 1)) = (Int32.toInt ((upd (upd (upd f_row (198 + (f_row (2 : Int32).toNatClampNeg)).toNatClampNeg a) (204 + (f_row (2 : Int32).toNatClampNeg)).toNatClampNeg b) (22 + (f_row (2 : Int32).toNatClampNeg)).toNatClampNeg 0) (2 : Int32).toNatClampNeg)) + 1 := add_z rfl rfl (by omega) (by omega)
            have R87 : RLW (upd (upd (upd (upd f_row (198 + (f_row (2 : Int32).toNatClampNeg)).toNatClampNeg a) (204 + (f_row (2 : Int32).toNatClampNeg)).toNatClampNeg b) (22 + (f_row (2 : Int32).toNatClampNeg)).toNatClampNeg 0) 2 (((upd (upd (upd f_row (198 + (f_row (2 : Int32).toNatClampNeg)).toNatClampNeg a) (204 + (f_row (2 : Int32).toNatClampNeg)).toNatClampNeg b) (22 + (f_row (2 : Int32).toNatClampNeg)).toNatClampNeg 0) (2 : Int32).toNatClampNeg) + 1)) := RLW.up_2 R82 (rfl : ((2 : Nat) : Int) = 2) (by omega) (by omega) (w := (Int32.toInt (((upd (upd (upd f_row (198 + (f_row (2 : Int32).toNatClampNeg)).toNatClampNeg a) (204 + (f_row (2 : Int32).toNatClampNeg)).toNatClampNeg b) (22 + (f_row (2 : Int32).toNatClampNeg)).toNatClampNeg 0) (2 : Int32).toNatClampNeg) + 1))) rfl (by omega) (by omega)
            have hR88 : noiseR w a.toInt b.toInt = (Int32.toInt r73) := by unfold noiseR; (repeat' split) <;> omega
            exact hq _ _ _ _ _ _ ⟨(by decide), R87, hR88.symm, (by unfold noiseW; rw [if_neg (by omega)]; unfold noiseO; exact (RMw.up (RMw.up (RMw.up (RMw.up e_0 (by first | rfl | (show Int.toNat _ = _; omega)) (by first | rfl | omega)) (by first | rfl | (show Int.toNat _ = _; omega)) (by first | rfl | omega)) (by first | rfl | (show Int.toNat _ = _; omega)) (by first | rfl | omega)) (by first | rfl | (show Int.toNat _ = _; omega)) (by first | rfl | omega))), (by unfold clr; rw [if_neg (by omega)]; exact RMu.nil rfl), (RML.up (RML.up (RML.up (RML.up e_2 (tnz (x := (Int32.toInt (198 + (f_row (2 : Int32).toNatClampNeg)))) rfl (by omega)) (by omega) (by omega)) (tnz (x := (Int32.toInt (204 + (f_row (2 : Int32).toNatClampNeg)))) rfl (by omega)) (by omega) (by omega)) (tnz (x := (Int32.toInt (22 + (f_row (2 : Int32).toNatClampNeg)))) rfl (by omega)) (by omega) (by omega)) (rfl : ((2 : Nat) : Int) = 2) (by omega) (by omega)), (by rw [hR88]; exact j77), (by rw [hR88]; exact j78)⟩


set_option maxRecDepth 100000 in
theorem s_X12_termsz (a : Int32) (b : Int32) (h0_nUndo : Int32) (f_row : Nat → Int32) (f_refusals : Nat → Int32) {w : Nat → Int} {U : UL} {rf : Nat → Int32} {ls : Nat → List Cls} {gm_undos : Nat → Int32} {gm_sorts : Nat → Int32} (h_h0_nUndo : 0 ≤ h0_nUndo.toInt ∧ h0_nUndo.toInt ≤ 16) (h_f_row : RLW f_row) (e_0 : RMw f_row w) (e_1 : RMu gm_undos gm_sorts h0_nUndo U) (e_2 : RML f_row ls) (e_3 : RF f_refusals rf) {Q : Int32 → (Int32 × Int32 × Int32 × (Nat → Int32) × (Nat → Int32)) → Prop} (hq : ∀ (r : Int32) (u_0 : Int32) (u_1 : Int32) (u_2 : Int32) (u_3 : Nat → Int32) (u_4 : Nat → Int32), (0 ≤ u_2.toInt ∧ u_2.toInt ≤ 16) ∧ (RLW u_3) ∧ (r.toInt = termsR w a.toInt b.toInt) ∧ (RMw u_3 (termsW w a.toInt b.toInt)) ∧ (RMu gm_undos gm_sorts u_2 (clr (termsR w a.toInt b.toInt) U)) ∧ (RML u_3 ls) ∧ (u_1.toInt = tlS (termsR w a.toInt b.toInt)) ∧ (RF u_4 (tlR rf (termsR w a.toInt b.toInt))) → Q r (u_0, u_1, u_2, u_3, u_4)) : wp_X12_terms a b h0_nUndo f_row f_refusals Q := by
  unfold wp_X12_terms
  refine jn_s ?_
  by_cases c1 : a = 0
  · refine br1 c1 ?_
    have d2 := eq_z (x := (Int32.toInt a)) (y := 0) rfl rfl c1
    refine o_X12_in _ _ _ _ ?_
    by_cases c3 : (lg_cmp b.toInt64 0) < 0
    · refine br1 c3 ?_
      have t4 : (Int64.toInt b.toInt64) = (Int32.toInt b) := i2l_z rfl
      have d5 := c_lt (x := (Int64.toInt b.toInt64)) (y := 0) rfl rfl c3
      refine br1 (by decide) ?_
      have k6 : Int32.toInt (-1) = (-1) := (by decide)
      refine s_X12_tellz (-1) (f_refusals) (by decide) e_3 (fun r7 u8_0 u8_1 H9 => ?_)
      have j10 := H9.1
      have j11 := H9.2.1
      have j12 := H9.2.2
      refine un2_i ?_
      have k13 : Int32.toInt 0 = 0 := rfl
      have hR14 : termsR w a.toInt b.toInt = (Int32.toInt r7) := by unfold termsR; (repeat' split) <;> omega
      exact hq _ _ _ _ _ _ ⟨⟨by omega, by omega⟩, h_f_row, hR14.symm, (by unfold termsW; rw [if_pos (by omega)]; exact e_0), (by unfold clr; rw [if_pos (by omega)]; exact e_1), e_2, (by rw [hR14]; exact j11), (by rw [hR14]; exact j12)⟩
    · refine br0 c3 ?_
      have t15 : (Int64.toInt b.toInt64) = (Int32.toInt b) := i2l_z rfl
      have d16 := c_nlt (x := (Int64.toInt b.toInt64)) (y := 0) rfl rfl c3
      by_cases c17 : 0 < (lg_cmp b.toInt64 9999)
      · refine br1 c17 ?_
        have d18 := c_gt (x := (Int64.toInt b.toInt64)) (y := 9999) rfl rfl c17
        refine br1 (by decide) ?_
        have k19 : Int32.toInt (-1) = (-1) := (by decide)
        refine s_X12_tellz (-1) (f_refusals) (by decide) e_3 (fun r20 u21_0 u21_1 H22 => ?_)
        have j23 := H22.1
        have j24 := H22.2.1
        have j25 := H22.2.2
        refine un2_i ?_
        have k26 : Int32.toInt 0 = 0 := rfl
        have hR27 : termsR w a.toInt b.toInt = (Int32.toInt r20) := by unfold termsR; (repeat' split) <;> omega
        exact hq _ _ _ _ _ _ ⟨⟨by omega, by omega⟩, h_f_row, hR27.symm, (by unfold termsW; rw [if_pos (by omega)]; exact e_0), (by unfold clr; rw [if_pos (by omega)]; exact e_1), e_2, (by rw [hR27]; exact j24), (by rw [hR27]; exact j25)⟩
      · refine br0 c17 ?_
        have d28 := c_ngt (x := (Int64.toInt b.toInt64)) (y := 9999) rfl rfl c17
        refine br0 (by decide) ?_
        refine o_X12_change _ _ _ _ ?_
        have t29 : (Int32.toInt (7 + a)) = 7 + (Int32.toInt a) := add_z rfl rfl (by omega) (by omega)
        refine ⟨vpi (x := (Int32.toInt (7 + a))) rfl (by omega) (by omega), ?_⟩
        refine ⟨vpi (x := (Int32.toInt (7 + a))) rfl (by omega) (by omega), ?_⟩
        refine un2_i ?_
        have g30 : 0 ≤ (Int32.toInt (f_row (7 + a).toNatClampNeg)) ∧ (Int32.toInt (f_row (7 + a).toNatClampNeg)) ≤ 9999 := RLW.at_7 h_f_row (tnz (x := (Int32.toInt (7 + a))) rfl (by omega)) (by omega) (by omega)
        have t31 : (Int32.toInt (f_row (7 + a).toNatClampNeg)) = w (7 + ((Int32.toInt a)).toNat) := RMw.z e_0 (i := 7 + ((Int32.toInt a)).toNat) (show Int.toNat _ = _ by omega) (by omega)
        have k32 : Int32.toInt 0 = 0 := rfl
        have R33 : RLW (upd f_row (7 + a).toNatClampNeg b) := RLW.up_7 h_f_row (tnz (x := (Int32.toInt (7 + a))) rfl (by omega)) (by omega) (by omega) (w := (Int32.toInt b)) rfl (by omega) (by omega)
        have hR34 : termsR w a.toInt b.toInt = (Int32.toInt (f_row (7 + a).toNatClampNeg)) := by unfold termsR; (repeat' split) <;> omega
        exact hq _ _ _ _ _ _ ⟨(by decide), R33, hR34.symm, (by unfold termsW; rw [if_neg (by omega)]; unfold termsO; exact (RMw.up e_0 (by first | rfl | (show Int.toNat _ = _; omega)) (by first | rfl | omega))), (by unfold clr; rw [if_neg (by omega)]; exact RMu.nil rfl), (RML.up e_2 (tnz (x := (Int32.toInt (7 + a))) rfl (by omega)) (by omega) (by omega)), (by rw [hR34]; unfold tlS; rw [if_neg (by omega)]; rfl), (by rw [hR34]; unfold tlR; rw [if_neg (by omega)]; exact e_3)⟩
  · refine br0 c1 ?_
    have d35 := ne_z (x := (Int32.toInt a)) (y := 0) rfl rfl c1
    by_cases c36 : a = 1
    · refine br1 c36 ?_
      have d37 := eq_z (x := (Int32.toInt a)) (y := 1) rfl rfl c36
      refine o_X12_in _ _ _ _ ?_
      by_cases c38 : (lg_cmp b.toInt64 0) < 0
      · refine br1 c38 ?_
        have t39 : (Int64.toInt b.toInt64) = (Int32.toInt b) := i2l_z rfl
        have d40 := c_lt (x := (Int64.toInt b.toInt64)) (y := 0) rfl rfl c38
        refine br1 (by decide) ?_
        have k41 : Int32.toInt (-1) = (-1) := (by decide)
        refine s_X12_tellz (-1) (f_refusals) (by decide) e_3 (fun r42 u43_0 u43_1 H44 => ?_)
        have j45 := H44.1
        have j46 := H44.2.1
        have j47 := H44.2.2
        refine un2_i ?_
        have k48 : Int32.toInt 0 = 0 := rfl
        have hR49 : termsR w a.toInt b.toInt = (Int32.toInt r42) := by unfold termsR; (repeat' split) <;> omega
        exact hq _ _ _ _ _ _ ⟨⟨by omega, by omega⟩, h_f_row, hR49.symm, (by unfold termsW; rw [if_pos (by omega)]; exact e_0), (by unfold clr; rw [if_pos (by omega)]; exact e_1), e_2, (by rw [hR49]; exact j46), (by rw [hR49]; exact j47)⟩
      · refine br0 c38 ?_
        have t50 : (Int64.toInt b.toInt64) = (Int32.toInt b) := i2l_z rfl
        have d51 := c_nlt (x := (Int64.toInt b.toInt64)) (y := 0) rfl rfl c38
        by_cases c52 : 0 < (lg_cmp b.toInt64 10)
        · refine br1 c52 ?_
          have d53 := c_gt (x := (Int64.toInt b.toInt64)) (y := 10) rfl rfl c52
          refine br1 (by decide) ?_
          have k54 : Int32.toInt (-1) = (-1) := (by decide)
          refine s_X12_tellz (-1) (f_refusals) (by decide) e_3 (fun r55 u56_0 u56_1 H57 => ?_)
          have j58 := H57.1
          have j59 := H57.2.1
          have j60 := H57.2.2
          refine un2_i ?_
          have k61 : Int32.toInt 0 = 0 := rfl
          have hR62 : termsR w a.toInt b.toInt = (Int32.toInt r55) := by unfold termsR; (repeat' split) <;> omega
          exact hq _ _ _ _ _ _ ⟨⟨by omega, by omega⟩, h_f_row, hR62.symm, (by unfold termsW; rw [if_pos (by omega)]; exact e_0), (by unfold clr; rw [if_pos (by omega)]; exact e_1), e_2, (by rw [hR62]; exact j59), (by rw [hR62]; exact j60)⟩
        · refine br0 c52 ?_
          have d63 := c_ngt (x := (Int64.toInt b.toInt64)) (y := 10) rfl rfl c52
          refine br0 (by decide) ?_
          refine o_X12_change _ _ _ _ ?_
          have t64 : (Int32.toInt (7 + a)) = 7 + (Int32.toInt a) := add_z rfl rfl (by omega) (by omega)
          refine ⟨vpi (x := (Int32.toInt (7 + a))) rfl (by omega) (by omega), ?_⟩
          refine ⟨vpi (x := (Int32.toInt (7 + a))) rfl (by omega) (by omega), ?_⟩
          refine un2_i ?_
          have g65 : 0 ≤ (Int32.toInt (f_row (7 + a).toNatClampNeg)) ∧ (Int32.toInt (f_row (7 + a).toNatClampNeg)) ≤ 10 := RLW.at_8 h_f_row (tnz (x := (Int32.toInt (7 + a))) rfl (by omega)) (by omega) (by omega)
          have t66 : (Int32.toInt (f_row (7 + a).toNatClampNeg)) = w (7 + ((Int32.toInt a)).toNat) := RMw.z e_0 (i := 7 + ((Int32.toInt a)).toNat) (show Int.toNat _ = _ by omega) (by omega)
          have k67 : Int32.toInt 0 = 0 := rfl
          have R68 : RLW (upd f_row (7 + a).toNatClampNeg b) := RLW.up_8 h_f_row (tnz (x := (Int32.toInt (7 + a))) rfl (by omega)) (by omega) (by omega) (w := (Int32.toInt b)) rfl (by omega) (by omega)
          have hR69 : termsR w a.toInt b.toInt = (Int32.toInt (f_row (7 + a).toNatClampNeg)) := by unfold termsR; (repeat' split) <;> omega
          exact hq _ _ _ _ _ _ ⟨(by decide), R68, hR69.symm, (by unfold termsW; rw [if_neg (by omega)]; unfold termsO; exact (RMw.up e_0 (by first | rfl | (show Int.toNat _ = _; omega)) (by first | rfl | omega))), (by unfold clr; rw [if_neg (by omega)]; exact RMu.nil rfl), (RML.up e_2 (tnz (x := (Int32.toInt (7 + a))) rfl (by omega)) (by omega) (by omega)), (by rw [hR69]; unfold tlS; rw [if_neg (by omega)]; rfl), (by rw [hR69]; unfold tlR; rw [if_neg (by omega)]; exact e_3)⟩
    · refine br0 c36 ?_
      have d70 := ne_z (x := (Int32.toInt a)) (y := 1) rfl rfl c36
      by_cases c71 : a = 2
      · refine br1 c71 ?_
        have d72 := eq_z (x := (Int32.toInt a)) (y := 2) rfl rfl c71
        refine o_X12_in _ _ _ _ ?_
        by_cases c73 : (lg_cmp b.toInt64 0) < 0
        · refine br1 c73 ?_
          have t74 : (Int64.toInt b.toInt64) = (Int32.toInt b) := i2l_z rfl
          have d75 := c_lt (x := (Int64.toInt b.toInt64)) (y := 0) rfl rfl c73
          refine br1 (by decide) ?_
          refine br1 (by decide) ?_
          have k76 : Int32.toInt (-1) = (-1) := (by decide)
          refine s_X12_tellz (-1) (f_refusals) (by decide) e_3 (fun r77 u78_0 u78_1 H79 => ?_)
          have j80 := H79.1
          have j81 := H79.2.1
          have j82 := H79.2.2
          refine un2_i ?_
          have k83 : Int32.toInt 0 = 0 := rfl
          have hR84 : termsR w a.toInt b.toInt = (Int32.toInt r77) := by unfold termsR; (repeat' split) <;> omega
          exact hq _ _ _ _ _ _ ⟨⟨by omega, by omega⟩, h_f_row, hR84.symm, (by unfold termsW; rw [if_pos (by omega)]; exact e_0), (by unfold clr; rw [if_pos (by omega)]; exact e_1), e_2, (by rw [hR84]; exact j81), (by rw [hR84]; exact j82)⟩
        · refine br0 c73 ?_
          have t85 : (Int64.toInt b.toInt64) = (Int32.toInt b) := i2l_z rfl
          have d86 := c_nlt (x := (Int64.toInt b.toInt64)) (y := 0) rfl rfl c73
          by_cases c87 : 0 < (lg_cmp b.toInt64 9)
          · refine br1 c87 ?_
            have d88 := c_gt (x := (Int64.toInt b.toInt64)) (y := 9) rfl rfl c87
            refine br1 (by decide) ?_
            refine br1 (by decide) ?_
            have k89 : Int32.toInt (-1) = (-1) := (by decide)
            refine s_X12_tellz (-1) (f_refusals) (by decide) e_3 (fun r90 u91_0 u91_1 H92 => ?_)
            have j93 := H92.1
            have j94 := H92.2.1
            have j95 := H92.2.2
            refine un2_i ?_
            have k96 : Int32.toInt 0 = 0 := rfl
            have hR97 : termsR w a.toInt b.toInt = (Int32.toInt r90) := by unfold termsR; (repeat' split) <;> omega
            exact hq _ _ _ _ _ _ ⟨⟨by omega, by omega⟩, h_f_row, hR97.symm, (by unfold termsW; rw [if_pos (by omega)]; exact e_0), (by unfold clr; rw [if_pos (by omega)]; exact e_1), e_2, (by rw [hR97]; exact j94), (by rw [hR97]; exact j95)⟩
          · refine br0 c87 ?_
            have d98 := c_ngt (x := (Int64.toInt b.toInt64)) (y := 9) rfl rfl c87
            refine br0 (by decide) ?_
            refine br0 (by decide) ?_
            refine o_X12_change _ _ _ _ ?_
            have t99 : (Int32.toInt (7 + a)) = 7 + (Int32.toInt a) := add_z rfl rfl (by omega) (by omega)
            refine ⟨vpi (x := (Int32.toInt (7 + a))) rfl (by omega) (by omega), ?_⟩
            refine ⟨vpi (x := (Int32.toInt (7 + a))) rfl (by omega) (by omega), ?_⟩
            refine un2_i ?_
            have g100 : 0 ≤ (Int32.toInt (f_row (7 + a).toNatClampNeg)) ∧ (Int32.toInt (f_row (7 + a).toNatClampNeg)) ≤ 9 := RLW.at_9 h_f_row (tnz (x := (Int32.toInt (7 + a))) rfl (by omega)) (by omega) (by omega)
            have t101 : (Int32.toInt (f_row (7 + a).toNatClampNeg)) = w (7 + ((Int32.toInt a)).toNat) := RMw.z e_0 (i := 7 + ((Int32.toInt a)).toNat) (show Int.toNat _ = _ by omega) (by omega)
            have k102 : Int32.toInt 0 = 0 := rfl
            have R103 : RLW (upd f_row (7 + a).toNatClampNeg b) := RLW.up_9 h_f_row (tnz (x := (Int32.toInt (7 + a))) rfl (by omega)) (by omega) (by omega) (w := (Int32.toInt b)) rfl (by omega) (by omega)
            have hR104 : termsR w a.toInt b.toInt = (Int32.toInt (f_row (7 + a).toNatClampNeg)) := by unfold termsR; (repeat' split) <;> omega
            exact hq _ _ _ _ _ _ ⟨(by decide), R103, hR104.symm, (by unfold termsW; rw [if_neg (by omega)]; unfold termsO; exact (RMw.up e_0 (by first | rfl | (show Int.toNat _ = _; omega)) (by first | rfl | omega))), (by unfold clr; rw [if_neg (by omega)]; exact RMu.nil rfl), (RML.up e_2 (tnz (x := (Int32.toInt (7 + a))) rfl (by omega)) (by omega) (by omega)), (by rw [hR104]; unfold tlS; rw [if_neg (by omega)]; rfl), (by rw [hR104]; unfold tlR; rw [if_neg (by omega)]; exact e_3)⟩
      · refine br0 c71 ?_
        have d105 := ne_z (x := (Int32.toInt a)) (y := 2) rfl rfl c71
        refine br1 (by decide) ?_
        have k106 : Int32.toInt (-1) = (-1) := (by decide)
        refine s_X12_tellz (-1) (f_refusals) (by decide) e_3 (fun r107 u108_0 u108_1 H109 => ?_)
        have j110 := H109.1
        have j111 := H109.2.1
        have j112 := H109.2.2
        refine un2_i ?_
        have k113 : Int32.toInt 0 = 0 := rfl
        have hR114 : termsR w a.toInt b.toInt = (Int32.toInt r107) := by unfold termsR; (repeat' split) <;> omega
        exact hq _ _ _ _ _ _ ⟨⟨by omega, by omega⟩, h_f_row, hR114.symm, (by unfold termsW; rw [if_pos (by omega)]; exact e_0), (by unfold clr; rw [if_pos (by omega)]; exact e_1), e_2, (by rw [hR114]; exact j111), (by rw [hR114]; exact j112)⟩


set_option maxRecDepth 100000 in
theorem s_X12_heardz (a : Int32) (b : Int32) (f_refusals : Nat → Int32) (f_row : Nat → Int32) {w : Nat → Int} {U : UL} {rf : Nat → Int32} {ls : Nat → List Cls} {gm_undos : Nat → Int32} {gm_sorts : Nat → Int32} {gm_nUndo : Int32} (h_f_row : RLW f_row) (e_0 : RMw f_row w) (e_1 : RMu gm_undos gm_sorts gm_nUndo U) (e_2 : RML f_row ls) (e_3 : RF f_refusals rf) {Q : Int32 → (Int32 × Int32 × (Nat → Int32) × (Nat → Int32)) → Prop} (hq : ∀ (r : Int32) (u_0 : Int32) (u_1 : Int32) (u_2 : Nat → Int32) (u_3 : Nat → Int32), (RLW u_3) ∧ (r.toInt = heardR w a.toInt b.toInt) ∧ (RMw u_3 (heardW w a.toInt b.toInt)) ∧ (RMu gm_undos gm_sorts gm_nUndo (U)) ∧ (RML u_3 ls) ∧ (u_1.toInt = tlS (heardR w a.toInt b.toInt)) ∧ (RF u_2 (tlR rf (heardR w a.toInt b.toInt))) → Q r (u_0, u_1, u_2, u_3)) : wp_X12_heard a b f_refusals f_row Q := by
  unfold wp_X12_heard
  refine o_X12_isColumn _ _ ?_
  refine o_X12_in _ _ _ _ ?_
  by_cases c1 : (lg_cmp a.toInt64 0) < 0
  · refine br1 c1 ?_
    have t2 : (Int64.toInt a.toInt64) = (Int32.toInt a) := i2l_z rfl
    have d3 := c_lt (x := (Int64.toInt a.toInt64)) (y := 0) rfl rfl c1
    refine br1 (by decide) ?_
    have k4 : Int32.toInt (-1) = (-1) := (by decide)
    refine s_X12_tellz (-1) (f_refusals) (by decide) e_3 (fun r5 u6_0 u6_1 H7 => ?_)
    have j8 := H7.1
    have j9 := H7.2.1
    have j10 := H7.2.2
    refine un2_i ?_
    have k11 : Int32.toInt 0 = 0 := rfl
    have hR12 : heardR w a.toInt b.toInt = (Int32.toInt r5) := by unfold heardR; (repeat' split) <;> omega
    exact hq _ _ _ _ _ ⟨h_f_row, hR12.symm, (by unfold heardW; rw [if_pos (by omega)]; exact e_0), e_1, e_2, (by rw [hR12]; exact j9), (by rw [hR12]; exact j10)⟩
  · refine br0 c1 ?_
    have t13 : (Int64.toInt a.toInt64) = (Int32.toInt a) := i2l_z rfl
    have d14 := c_nlt (x := (Int64.toInt a.toInt64)) (y := 0) rfl rfl c1
    by_cases c15 : 0 < (lg_cmp a.toInt64 7)
    · refine br1 c15 ?_
      have d16 := c_gt (x := (Int64.toInt a.toInt64)) (y := 7) rfl rfl c15
      refine br1 (by decide) ?_
      have k17 : Int32.toInt (-1) = (-1) := (by decide)
      refine s_X12_tellz (-1) (f_refusals) (by decide) e_3 (fun r18 u19_0 u19_1 H20 => ?_)
      have j21 := H20.1
      have j22 := H20.2.1
      have j23 := H20.2.2
      refine un2_i ?_
      have k24 : Int32.toInt 0 = 0 := rfl
      have hR25 : heardR w a.toInt b.toInt = (Int32.toInt r18) := by unfold heardR; (repeat' split) <;> omega
      exact hq _ _ _ _ _ ⟨h_f_row, hR25.symm, (by unfold heardW; rw [if_pos (by omega)]; exact e_0), e_1, e_2, (by rw [hR25]; exact j22), (by rw [hR25]; exact j23)⟩
    · refine br0 c15 ?_
      have d26 := c_ngt (x := (Int64.toInt a.toInt64)) (y := 7) rfl rfl c15
      refine br0 (by decide) ?_
      refine o_X12_in _ _ _ _ ?_
      by_cases c27 : (lg_cmp b.toInt64 0) < 0
      · refine br1 c27 ?_
        have t28 : (Int64.toInt b.toInt64) = (Int32.toInt b) := i2l_z rfl
        have d29 := c_lt (x := (Int64.toInt b.toInt64)) (y := 0) rfl rfl c27
        refine br1 (by decide) ?_
        have k30 : Int32.toInt (-1) = (-1) := (by decide)
        refine s_X12_tellz (-1) (f_refusals) (by decide) e_3 (fun r31 u32_0 u32_1 H33 => ?_)
        have j34 := H33.1
        have j35 := H33.2.1
        have j36 := H33.2.2
        refine un2_i ?_
        have k37 : Int32.toInt 0 = 0 := rfl
        have hR38 : heardR w a.toInt b.toInt = (Int32.toInt r31) := by unfold heardR; (repeat' split) <;> omega
        exact hq _ _ _ _ _ ⟨h_f_row, hR38.symm, (by unfold heardW; rw [if_pos (by omega)]; exact e_0), e_1, e_2, (by rw [hR38]; exact j35), (by rw [hR38]; exact j36)⟩
      · refine br0 c27 ?_
        have t39 : (Int64.toInt b.toInt64) = (Int32.toInt b) := i2l_z rfl
        have d40 := c_nlt (x := (Int64.toInt b.toInt64)) (y := 0) rfl rfl c27
        by_cases c41 : 0 < (lg_cmp b.toInt64 99)
        · refine br1 c41 ?_
          have d42 := c_gt (x := (Int64.toInt b.toInt64)) (y := 99) rfl rfl c41
          refine br1 (by decide) ?_
          have k43 : Int32.toInt (-1) = (-1) := (by decide)
          refine s_X12_tellz (-1) (f_refusals) (by decide) e_3 (fun r44 u45_0 u45_1 H46 => ?_)
          have j47 := H46.1
          have j48 := H46.2.1
          have j49 := H46.2.2
          refine un2_i ?_
          have k50 : Int32.toInt 0 = 0 := rfl
          have hR51 : heardR w a.toInt b.toInt = (Int32.toInt r44) := by unfold heardR; (repeat' split) <;> omega
          exact hq _ _ _ _ _ ⟨h_f_row, hR51.symm, (by unfold heardW; rw [if_pos (by omega)]; exact e_0), e_1, e_2, (by rw [hR51]; exact j48), (by rw [hR51]; exact j49)⟩
        · refine br0 c41 ?_
          have d52 := c_ngt (x := (Int64.toInt b.toInt64)) (y := 99) rfl rfl c41
          refine br0 (by decide) ?_
          by_cases c53 : (f_row (3 : Int32).toNatClampNeg) = 8
          · refine br1 c53 ?_
            have g54 : 0 ≤ (Int32.toInt (f_row (3 : Int32).toNatClampNeg)) ∧ (Int32.toInt (f_row (3 : Int32).toNatClampNeg)) ≤ 8 := RLW.at_3 h_f_row (rfl : ((3 : Nat) : Int) = 3) (by omega) (by omega)
            have t55 : (Int32.toInt (f_row (3 : Int32).toNatClampNeg)) = w (3) := RMw.z e_0 (i := 3) rfl (by omega)
            have d56 := eq_z (x := (Int32.toInt (f_row (3 : Int32).toNatClampNeg))) (y := 8) rfl rfl c53
            have k57 : Int32.toInt (-5) = (-5) := (by decide)
            refine s_X12_tellz (-5) (f_refusals) (by decide) e_3 (fun r58 u59_0 u59_1 H60 => ?_)
            have j61 := H60.1
            have j62 := H60.2.1
            have j63 := H60.2.2
            refine un2_i ?_
            have k64 : Int32.toInt 0 = 0 := rfl
            have hR65 : heardR w a.toInt b.toInt = (Int32.toInt r58) := by unfold heardR; (repeat' split) <;> omega
            exact hq _ _ _ _ _ ⟨h_f_row, hR65.symm, (by unfold heardW; rw [if_pos (by omega)]; exact e_0), e_1, e_2, (by rw [hR65]; exact j62), (by rw [hR65]; exact j63)⟩
          · refine br0 c53 ?_
            have g66 : 0 ≤ (Int32.toInt (f_row (3 : Int32).toNatClampNeg)) ∧ (Int32.toInt (f_row (3 : Int32).toNatClampNeg)) ≤ 8 := RLW.at_3 h_f_row (rfl : ((3 : Nat) : Int) = 3) (by omega) (by omega)
            have t67 : (Int32.toInt (f_row (3 : Int32).toNatClampNeg)) = w (3) := RMw.z e_0 (i := 3) rfl (by omega)
            have d68 := ne_z (x := (Int32.toInt (f_row (3 : Int32).toNatClampNeg))) (y := 8) rfl rfl c53
            have t69 : (Int32.toInt (2 * (f_row (3 : Int32).toNatClampNeg))) = 2 * (Int32.toInt (f_row (3 : Int32).toNatClampNeg)) := mul_z rfl rfl (by omega) (by omega)
            have t70 : (Int32.toInt (210 + (2 * (f_row (3 : Int32).toNatClampNeg)))) = 210 + (Int32.toInt (2 * (f_row (3 : Int32).toNatClampNeg))) := add_z rfl rfl (by omega) (by omega)
            refine ⟨vpi (x := (Int32.toInt (210 + (2 * (f_row (3 : Int32).toNatClampNeg))))) rfl (by omega) (by omega), ?_⟩
            have t71 : (Int32.toInt ((210 + (2 * (f_row (3 : Int32).toNatClampNeg))) + 1)) = (Int32.toInt (210 + (2 * (f_row (3 : Int32).toNatClampNeg)))) + 1 := add_z rfl rfl (by omega) (by omega)
            refine ⟨vpi (x := (Int32.toInt ((210 + (2 * (f_row (3 : Int32).toNatClampNeg))) + 1))) rfl (by omega) (by omega), ?_⟩
            have t72 : (Int32.toInt ((f_row (3 : Int32).toNatClampNeg) + 1)) = (Int32.toInt (f_row (3 : Int32).toNatClampNeg)) + 1 := add_z rfl rfl (by omega) (by omega)
            have t73 := i32_hi ((f_row (3 : Int32).toNatClampNeg) + 1)
            refine s_X12_tellz ((f_row (3 : Int32).toNatClampNeg) + 1) (f_refusals) ⟨by omega, by omega⟩ e_3 (fun r74 u75_0 u75_1 H76 => ?_)
            have j77 := H76.1
            have j78 := H76.2.1
            have j79 := H76.2.2
            refine un2_i ?_
            have k80 : Int32.toInt 0 = 0 := rfl
            have R81 : RLW (upd f_row (210 + (2 * (f_row (3 : Int32).toNatClampNeg))).toNatClampNeg a) := RLW.up_210 h_f_row (tnz (x := (Int32.toInt (210 + (2 * (f_row (3 : Int32).toNatClampNeg))))) rfl (by omega)) (by omega) (by omega) (w := (Int32.toInt a)) rfl (by omega) (by omega)
            have R82 : RLW (upd (upd f_row (210 + (2 * (f_row (3 : Int32).toNatClampNeg))).toNatClampNeg a) ((210 + (2 * (f_row (3 : Int32).toNatClampNeg))) + 1).toNatClampNeg b) := RLW.up_210 R81 (tnz (x := (Int32.toInt ((210 + (2 * (f_row (3 : Int32).toNatClampNeg))) + 1))) rfl (by omega)) (by omega) (by omega) (w := (Int32.toInt b)) rfl (by omega) (by omega)
            have t83 : (Int32.toInt ((upd f_row (210 + (2 * (f_row (3 : Int32).toNatClampNeg))).toNatClampNeg a) (3 : Int32).toNatClampNeg)) = (Int32.toInt (f_row (3 : Int32).toNatClampNeg)) := congrArg Int32.toInt (pk_un (ne_n (rfl : ((3 : Nat) : Int) = 3) (tnz (x := (Int32.toInt (210 + (2 * (f_row (3 : Int32).toNatClampNeg))))) rfl (by omega)) (by omega)))
            have t84 : (Int32.toInt ((upd (upd f_row (210 + (2 * (f_row (3 : Int32).toNatClampNeg))).toNatClampNeg a) ((210 + (2 * (f_row (3 : Int32).toNatClampNeg))) + 1).toNatClampNeg b) (3 : Int32).toNatClampNeg)) = (Int32.toInt ((upd f_row (210 + (2 * (f_row (3 : Int32).toNatClampNeg))).toNatClampNeg a) (3 : Int32).toNatClampNeg)) := congrArg Int32.toInt (pk_un (ne_n (rfl : ((3 : Nat) : Int) = 3) (tnz (x := (Int32.toInt ((210 + (2 * (f_row (3 : Int32).toNatClampNeg))) + 1))) rfl (by omega)) (by omega)))
            have t85 : (Int32.toInt (((upd (upd f_row (210 + (2 * (f_row (3 : Int32).toNatClampNeg))).toNatClampNeg a) ((210 + (2 * (f_row (3 : Int32).toNatClampNeg))) + 1).toNatClampNeg b) (3 : Int32).toNatClampNeg) + 1)) = (Int32.toInt ((upd (upd f_row (210 + (2 * (f_row (3 : Int32).toNatClampNeg))).toNatClampNeg a) ((210 + (2 * (f_row (3 : Int32).toNatClampNeg))) + 1).toNatClampNeg b) (3 : Int32).toNatClampNeg)) + 1 := add_z rfl rfl (by omega) (by omega)
            have R86 : RLW (upd (upd (upd f_row (210 + (2 * (f_row (3 : Int32).toNatClampNeg))).toNatClampNeg a) ((210 + (2 * (f_row (3 : Int32).toNatClampNeg))) + 1).toNatClampNeg b) 3 (((upd (upd f_row (210 + (2 * (f_row (3 : Int32).toNatClampNeg))).toNatClampNeg a) ((210 + (2 * (f_row (3 : Int32).toNatClampNeg))) + 1).toNatClampNeg b) (3 : Int32).toNatClampNeg) + 1)) := RLW.up_3 R82 (rfl : ((3 : Nat) : Int) = 3) (by omega) (by omega) (w := (Int32.toInt (((upd (upd f_row (210 + (2 * (f_row (3 : Int32).toNatClampNeg))).toNatClampNeg a) ((210 + (2 * (f_row (3 : Int32).toNatClampNeg))) + 1).toNatClampNeg b) (3 : Int32).toNatClampNeg) + 1))) rfl (by omega) (by omega)
            have hR87 : heardR w a.toInt b.toInt = (Int32.toInt r74) := by unfold heardR; (repeat' split) <;> omega
            exact hq _ _ _ _ _ ⟨R86, hR87.symm, (by unfold heardW; rw [if_neg (by omega)]; unfold heardO; exact (RMw.up (RMw.up (RMw.up e_0 (by first | rfl | (show Int.toNat _ = _; omega)) (by first | rfl | omega)) (by first | rfl | (show Int.toNat _ = _; omega)) (by first | rfl | omega)) (by first | rfl | (show Int.toNat _ = _; omega)) (by first | rfl | omega))), e_1, (RML.up (RML.up (RML.up e_2 (tnz (x := (Int32.toInt (210 + (2 * (f_row (3 : Int32).toNatClampNeg))))) rfl (by omega)) (by omega) (by omega)) (tnz (x := (Int32.toInt ((210 + (2 * (f_row (3 : Int32).toNatClampNeg))) + 1))) rfl (by omega)) (by omega) (by omega)) (rfl : ((3 : Nat) : Int) = 3) (by omega) (by omega)), (by rw [hR87]; exact j78), (by rw [hR87]; exact j79)⟩


set_option maxRecDepth 100000 in
theorem s_X12_wellz (a : Int32) (b : Int32) (f_refusals : Nat → Int32) (f_row : Nat → Int32) {w : Nat → Int} {U : UL} {rf : Nat → Int32} {ls : Nat → List Cls} {gm_undos : Nat → Int32} {gm_sorts : Nat → Int32} {gm_nUndo : Int32} (h_f_row : RLW f_row) (e_0 : RMw f_row w) (e_1 : RMu gm_undos gm_sorts gm_nUndo U) (e_2 : RML f_row ls) (e_3 : RF f_refusals rf) {Q : Int32 → (Int32 × Int32 × (Nat → Int32) × (Nat → Int32)) → Prop} (hq : ∀ (r : Int32) (u_0 : Int32) (u_1 : Int32) (u_2 : Nat → Int32) (u_3 : Nat → Int32), (RLW u_3) ∧ (r.toInt = wellR w a.toInt b.toInt) ∧ (RMw u_3 (wellW w a.toInt b.toInt)) ∧ (RMu gm_undos gm_sorts gm_nUndo (U)) ∧ (RML u_3 ls) ∧ (u_1.toInt = tlS (wellR w a.toInt b.toInt)) ∧ (RF u_2 (tlR rf (wellR w a.toInt b.toInt))) → Q r (u_0, u_1, u_2, u_3)) : wp_X12_well a b f_refusals f_row Q := by
  unfold wp_X12_well
  refine o_X12_in _ _ _ _ ?_
  by_cases c1 : (lg_cmp a.toInt64 0) < 0
  · refine br1 c1 ?_
    have t2 : (Int64.toInt a.toInt64) = (Int32.toInt a) := i2l_z rfl
    have d3 := c_lt (x := (Int64.toInt a.toInt64)) (y := 0) rfl rfl c1
    refine br1 (by decide) ?_
    have k4 : Int32.toInt (-1) = (-1) := (by decide)
    refine s_X12_tellz (-1) (f_refusals) (by decide) e_3 (fun r5 u6_0 u6_1 H7 => ?_)
    have j8 := H7.1
    have j9 := H7.2.1
    have j10 := H7.2.2
    refine un2_i ?_
    have k11 : Int32.toInt 0 = 0 := rfl
    have hR12 : wellR w a.toInt b.toInt = (Int32.toInt r5) := by unfold wellR; (repeat' split) <;> omega
    exact hq _ _ _ _ _ ⟨h_f_row, hR12.symm, (by unfold wellW; rw [if_pos (by omega)]; exact e_0), e_1, e_2, (by rw [hR12]; exact j9), (by rw [hR12]; exact j10)⟩
  · refine br0 c1 ?_
    have t13 : (Int64.toInt a.toInt64) = (Int32.toInt a) := i2l_z rfl
    have d14 := c_nlt (x := (Int64.toInt a.toInt64)) (y := 0) rfl rfl c1
    by_cases c15 : 0 < (lg_cmp a.toInt64 63)
    · refine br1 c15 ?_
      have d16 := c_gt (x := (Int64.toInt a.toInt64)) (y := 63) rfl rfl c15
      refine br1 (by decide) ?_
      have k17 : Int32.toInt (-1) = (-1) := (by decide)
      refine s_X12_tellz (-1) (f_refusals) (by decide) e_3 (fun r18 u19_0 u19_1 H20 => ?_)
      have j21 := H20.1
      have j22 := H20.2.1
      have j23 := H20.2.2
      refine un2_i ?_
      have k24 : Int32.toInt 0 = 0 := rfl
      have hR25 : wellR w a.toInt b.toInt = (Int32.toInt r18) := by unfold wellR; (repeat' split) <;> omega
      exact hq _ _ _ _ _ ⟨h_f_row, hR25.symm, (by unfold wellW; rw [if_pos (by omega)]; exact e_0), e_1, e_2, (by rw [hR25]; exact j22), (by rw [hR25]; exact j23)⟩
    · refine br0 c15 ?_
      have d26 := c_ngt (x := (Int64.toInt a.toInt64)) (y := 63) rfl rfl c15
      refine br0 (by decide) ?_
      refine o_X12_in _ _ _ _ ?_
      by_cases c27 : (lg_cmp b.toInt64 0) < 0
      · refine br1 c27 ?_
        have t28 : (Int64.toInt b.toInt64) = (Int32.toInt b) := i2l_z rfl
        have d29 := c_lt (x := (Int64.toInt b.toInt64)) (y := 0) rfl rfl c27
        refine br1 (by decide) ?_
        have k30 : Int32.toInt (-1) = (-1) := (by decide)
        refine s_X12_tellz (-1) (f_refusals) (by decide) e_3 (fun r31 u32_0 u32_1 H33 => ?_)
        have j34 := H33.1
        have j35 := H33.2.1
        have j36 := H33.2.2
        refine un2_i ?_
        have k37 : Int32.toInt 0 = 0 := rfl
        have hR38 : wellR w a.toInt b.toInt = (Int32.toInt r31) := by unfold wellR; (repeat' split) <;> omega
        exact hq _ _ _ _ _ ⟨h_f_row, hR38.symm, (by unfold wellW; rw [if_pos (by omega)]; exact e_0), e_1, e_2, (by rw [hR38]; exact j35), (by rw [hR38]; exact j36)⟩
      · refine br0 c27 ?_
        have t39 : (Int64.toInt b.toInt64) = (Int32.toInt b) := i2l_z rfl
        have d40 := c_nlt (x := (Int64.toInt b.toInt64)) (y := 0) rfl rfl c27
        by_cases c41 : 0 < (lg_cmp b.toInt64 1)
        · refine br1 c41 ?_
          have d42 := c_gt (x := (Int64.toInt b.toInt64)) (y := 1) rfl rfl c41
          refine br1 (by decide) ?_
          have k43 : Int32.toInt (-1) = (-1) := (by decide)
          refine s_X12_tellz (-1) (f_refusals) (by decide) e_3 (fun r44 u45_0 u45_1 H46 => ?_)
          have j47 := H46.1
          have j48 := H46.2.1
          have j49 := H46.2.2
          refine un2_i ?_
          have k50 : Int32.toInt 0 = 0 := rfl
          have hR51 : wellR w a.toInt b.toInt = (Int32.toInt r44) := by unfold wellR; (repeat' split) <;> omega
          exact hq _ _ _ _ _ ⟨h_f_row, hR51.symm, (by unfold wellW; rw [if_pos (by omega)]; exact e_0), e_1, e_2, (by rw [hR51]; exact j48), (by rw [hR51]; exact j49)⟩
        · refine br0 c41 ?_
          have d52 := c_ngt (x := (Int64.toInt b.toInt64)) (y := 1) rfl rfl c41
          refine br0 (by decide) ?_
          by_cases c53 : (f_row (4 : Int32).toNatClampNeg) = 10
          · refine br1 c53 ?_
            have g54 : 0 ≤ (Int32.toInt (f_row (4 : Int32).toNatClampNeg)) ∧ (Int32.toInt (f_row (4 : Int32).toNatClampNeg)) ≤ 10 := RLW.at_4 h_f_row (rfl : ((4 : Nat) : Int) = 4) (by omega) (by omega)
            have t55 : (Int32.toInt (f_row (4 : Int32).toNatClampNeg)) = w (4) := RMw.z e_0 (i := 4) rfl (by omega)
            have d56 := eq_z (x := (Int32.toInt (f_row (4 : Int32).toNatClampNeg))) (y := 10) rfl rfl c53
            have k57 : Int32.toInt (-5) = (-5) := (by decide)
            refine s_X12_tellz (-5) (f_refusals) (by decide) e_3 (fun r58 u59_0 u59_1 H60 => ?_)
            have j61 := H60.1
            have j62 := H60.2.1
            have j63 := H60.2.2
            refine un2_i ?_
            have k64 : Int32.toInt 0 = 0 := rfl
            have hR65 : wellR w a.toInt b.toInt = (Int32.toInt r58) := by unfold wellR; (repeat' split) <;> omega
            exact hq _ _ _ _ _ ⟨h_f_row, hR65.symm, (by unfold wellW; rw [if_pos (by omega)]; exact e_0), e_1, e_2, (by rw [hR65]; exact j62), (by rw [hR65]; exact j63)⟩
          · refine br0 c53 ?_
            have g66 : 0 ≤ (Int32.toInt (f_row (4 : Int32).toNatClampNeg)) ∧ (Int32.toInt (f_row (4 : Int32).toNatClampNeg)) ≤ 10 := RLW.at_4 h_f_row (rfl : ((4 : Nat) : Int) = 4) (by omega) (by omega)
            have t67 : (Int32.toInt (f_row (4 : Int32).toNatClampNeg)) = w (4) := RMw.z e_0 (i := 4) rfl (by omega)
            have d68 := ne_z (x := (Int32.toInt (f_row (4 : Int32).toNatClampNeg))) (y := 10) rfl rfl c53
            have t69 : (Int32.toInt (2 * (f_row (4 : Int32).toNatClampNeg))) = 2 * (Int32.toInt (f_row (4 : Int32).toNatClampNeg)) := mul_z rfl rfl (by omega) (by omega)
            have t70 : (Int32.toInt (226 + (2 * (f_row (4 : Int32).toNatClampNeg)))) = 226 + (Int32.toInt (2 * (f_row (4 : Int32).toNatClampNeg))) := add_z rfl rfl (by omega) (by omega)
            refine ⟨vpi (x := (Int32.toInt (226 + (2 * (f_row (4 : Int32).toNatClampNeg))))) rfl (by omega) (by omega), ?_⟩
            have t71 : (Int32.toInt ((226 + (2 * (f_row (4 : Int32).toNatClampNeg))) + 1)) = (Int32.toInt (226 + (2 * (f_row (4 : Int32).toNatClampNeg)))) + 1 := add_z rfl rfl (by omega) (by omega)
            refine ⟨vpi (x := (Int32.toInt ((226 + (2 * (f_row (4 : Int32).toNatClampNeg))) + 1))) rfl (by omega) (by omega), ?_⟩
            have t72 : (Int32.toInt ((f_row (4 : Int32).toNatClampNeg) + 1)) = (Int32.toInt (f_row (4 : Int32).toNatClampNeg)) + 1 := add_z rfl rfl (by omega) (by omega)
            have t73 := i32_hi ((f_row (4 : Int32).toNatClampNeg) + 1)
            refine s_X12_tellz ((f_row (4 : Int32).toNatClampNeg) + 1) (f_refusals) ⟨by omega, by omega⟩ e_3 (fun r74 u75_0 u75_1 H76 => ?_)
            have j77 := H76.1
            have j78 := H76.2.1
            have j79 := H76.2.2
            refine un2_i ?_
            have k80 : Int32.toInt 0 = 0 := rfl
            have R81 : RLW (upd f_row (226 + (2 * (f_row (4 : Int32).toNatClampNeg))).toNatClampNeg a) := RLW.up_226 h_f_row (tnz (x := (Int32.toInt (226 + (2 * (f_row (4 : Int32).toNatClampNeg))))) rfl (by omega)) (by omega) (by omega) (w := (Int32.toInt a)) rfl (by omega) (by omega)
            have R82 : RLW (upd (upd f_row (226 + (2 * (f_row (4 : Int32).toNatClampNeg))).toNatClampNeg a) ((226 + (2 * (f_row (4 : Int32).toNatClampNeg))) + 1).toNatClampNeg b) := RLW.up_226 R81 (tnz (x := (Int32.toInt ((226 + (2 * (f_row (4 : Int32).toNatClampNeg))) + 1))) rfl (by omega)) (by omega) (by omega) (w := (Int32.toInt b)) rfl (by omega) (by omega)
            have t83 : (Int32.toInt ((upd f_row (226 + (2 * (f_row (4 : Int32).toNatClampNeg))).toNatClampNeg a) (4 : Int32).toNatClampNeg)) = (Int32.toInt (f_row (4 : Int32).toNatClampNeg)) := congrArg Int32.toInt (pk_un (ne_n (rfl : ((4 : Nat) : Int) = 4) (tnz (x := (Int32.toInt (226 + (2 * (f_row (4 : Int32).toNatClampNeg))))) rfl (by omega)) (by omega)))
            have t84 : (Int32.toInt ((upd (upd f_row (226 + (2 * (f_row (4 : Int32).toNatClampNeg))).toNatClampNeg a) ((226 + (2 * (f_row (4 : Int32).toNatClampNeg))) + 1).toNatClampNeg b) (4 : Int32).toNatClampNeg)) = (Int32.toInt ((upd f_row (226 + (2 * (f_row (4 : Int32).toNatClampNeg))).toNatClampNeg a) (4 : Int32).toNatClampNeg)) := congrArg Int32.toInt (pk_un (ne_n (rfl : ((4 : Nat) : Int) = 4) (tnz (x := (Int32.toInt ((226 + (2 * (f_row (4 : Int32).toNatClampNeg))) + 1))) rfl (by omega)) (by omega)))
            have t85 : (Int32.toInt (((upd (upd f_row (226 + (2 * (f_row (4 : Int32).toNatClampNeg))).toNatClampNeg a) ((226 + (2 * (f_row (4 : Int32).toNatClampNeg))) + 1).toNatClampNeg b) (4 : Int32).toNatClampNeg) + 1)) = (Int32.toInt ((upd (upd f_row (226 + (2 * (f_row (4 : Int32).toNatClampNeg))).toNatClampNeg a) ((226 + (2 * (f_row (4 : Int32).toNatClampNeg))) + 1).toNatClampNeg b) (4 : Int32).toNatClampNeg)) + 1 := add_z rfl rfl (by omega) (by omega)
            have R86 : RLW (upd (upd (upd f_row (226 + (2 * (f_row (4 : Int32).toNatClampNeg))).toNatClampNeg a) ((226 + (2 * (f_row (4 : Int32).toNatClampNeg))) + 1).toNatClampNeg b) 4 (((upd (upd f_row (226 + (2 * (f_row (4 : Int32).toNatClampNeg))).toNatClampNeg a) ((226 + (2 * (f_row (4 : Int32).toNatClampNeg))) + 1).toNatClampNeg b) (4 : Int32).toNatClampNeg) + 1)) := RLW.up_4 R82 (rfl : ((4 : Nat) : Int) = 4) (by omega) (by omega) (w := (Int32.toInt (((upd (upd f_row (226 + (2 * (f_row (4 : Int32).toNatClampNeg))).toNatClampNeg a) ((226 + (2 * (f_row (4 : Int32).toNatClampNeg))) + 1).toNatClampNeg b) (4 : Int32).toNatClampNeg) + 1))) rfl (by omega) (by omega)
            have hR87 : wellR w a.toInt b.toInt = (Int32.toInt r74) := by unfold wellR; (repeat' split) <;> omega
            exact hq _ _ _ _ _ ⟨R86, hR87.symm, (by unfold wellW; rw [if_neg (by omega)]; unfold wellO; exact (RMw.up (RMw.up (RMw.up e_0 (by first | rfl | (show Int.toNat _ = _; omega)) (by first | rfl | omega)) (by first | rfl | (show Int.toNat _ = _; omega)) (by first | rfl | omega)) (by first | rfl | (show Int.toNat _ = _; omega)) (by first | rfl | omega))), e_1, (RML.up (RML.up (RML.up e_2 (tnz (x := (Int32.toInt (226 + (2 * (f_row (4 : Int32).toNatClampNeg))))) rfl (by omega)) (by omega) (by omega)) (tnz (x := (Int32.toInt ((226 + (2 * (f_row (4 : Int32).toNatClampNeg))) + 1))) rfl (by omega)) (by omega) (by omega)) (rfl : ((4 : Nat) : Int) = 4) (by omega) (by omega)), (by rw [hR87]; exact j78), (by rw [hR87]; exact j79)⟩


set_option maxRecDepth 100000 in
theorem s_X12_forgetz (f_row : Nat → Int32) {w : Nat → Int} {U : UL} {rf : Nat → Int32} {ls : Nat → List Cls} {gm_undos : Nat → Int32} {gm_sorts : Nat → Int32} {gm_nUndo : Int32} (h_f_row : RLW f_row) (e_0 : RMw f_row w) (e_1 : RMu gm_undos gm_sorts gm_nUndo U) (e_2 : RML f_row ls) {Q : Int32 → (Int32 × (Nat → Int32)) → Prop} (hq : ∀ (r : Int32) (u_0 : Int32) (u_1 : Nat → Int32), (RLW u_1) ∧ (r.toInt = forgetR w) ∧ (RMw u_1 (forgetW w)) ∧ (RMu gm_undos gm_sorts gm_nUndo (U)) ∧ (RML u_1 ls) → Q r (u_0, u_1)) : wp_X12_forget f_row Q := by
  unfold wp_X12_forget
  have g1 : 0 ≤ (Int32.toInt (f_row (3 : Int32).toNatClampNeg)) ∧ (Int32.toInt (f_row (3 : Int32).toNatClampNeg)) ≤ 8 := RLW.at_3 h_f_row (rfl : ((3 : Nat) : Int) = 3) (by omega) (by omega)
  have t2 : (Int32.toInt (f_row (3 : Int32).toNatClampNeg)) = w (3) := RMw.z e_0 (i := 3) rfl (by omega)
  have g3 : 0 ≤ (Int32.toInt (f_row (4 : Int32).toNatClampNeg)) ∧ (Int32.toInt (f_row (4 : Int32).toNatClampNeg)) ≤ 10 := RLW.at_4 h_f_row (rfl : ((4 : Nat) : Int) = 4) (by omega) (by omega)
  have t4 : (Int32.toInt (f_row (4 : Int32).toNatClampNeg)) = w (4) := RMw.z e_0 (i := 4) rfl (by omega)
  have t5 : (Int32.toInt ((f_row (3 : Int32).toNatClampNeg) + (f_row (4 : Int32).toNatClampNeg))) = (Int32.toInt (f_row (3 : Int32).toNatClampNeg)) + (Int32.toInt (f_row (4 : Int32).toNatClampNeg)) := add_z rfl rfl (by omega) (by omega)
  have k6 : Int32.toInt 0 = 0 := rfl
  have R7 : RLW (upd f_row 3 0) := RLW.up_3 h_f_row (rfl : ((3 : Nat) : Int) = 3) (by omega) (by omega) (w := 0) rfl (by omega) (by omega)
  have R8 : RLW (upd (upd f_row 3 0) 4 0) := RLW.up_4 R7 (rfl : ((4 : Nat) : Int) = 4) (by omega) (by omega) (w := 0) rfl (by omega) (by omega)
  have hR9 : forgetR w = (Int32.toInt ((f_row (3 : Int32).toNatClampNeg) + (f_row (4 : Int32).toNatClampNeg))) := by unfold forgetR; (repeat' split) <;> omega
  exact hq _ _ _ ⟨R8, hR9.symm, (by unfold forgetW; exact (RMw.up (RMw.up e_0 (by first | rfl | (show Int.toNat _ = _; omega)) (by first | rfl | omega)) (by first | rfl | (show Int.toNat _ = _; omega)) (by first | rfl | omega))), e_1, (RML.up (RML.up e_2 (rfl : ((3 : Nat) : Int) = 3) (by omega) (by omega)) (rfl : ((4 : Nat) : Int) = 4) (by omega) (by omega))⟩


set_option maxRecDepth 100000 in
theorem s_X12_forcez (a : Int32) (f_row : Nat → Int32) (f_refusals : Nat → Int32) {w : Nat → Int} {U : UL} {rf : Nat → Int32} {ls : Nat → List Cls} {gm_undos : Nat → Int32} {gm_sorts : Nat → Int32} {gm_nUndo : Int32} (h_f_row : RLW f_row) (e_0 : RMw f_row w) (e_1 : RMu gm_undos gm_sorts gm_nUndo U) (e_2 : RML f_row ls) (e_3 : RF f_refusals rf) {Q : Int32 → (Int32 × Int32 × (Nat → Int32) × (Nat → Int32)) → Prop} (hq : ∀ (r : Int32) (u_0 : Int32) (u_1 : Int32) (u_2 : Nat → Int32) (u_3 : Nat → Int32), (RLW u_2) ∧ (r.toInt = forceR w a.toInt) ∧ (RMw u_2 (forceW w a.toInt)) ∧ (RMu gm_undos gm_sorts gm_nUndo (U)) ∧ (RML u_2 ls) ∧ (u_1.toInt = tlS (forceB w a.toInt)) ∧ (RF u_3 (tlR rf (forceB w a.toInt))) → Q r (u_0, u_1, u_2, u_3)) : wp_X12_force a f_row f_refusals Q := by
  unfold wp_X12_force
  have w50 : 0 ≤ w 5 := by have q1 := RLW.at_5 h_f_row (n := 5) (z := 5) rfl (by omega) (by omega); have q2 := e_0 5 (by omega); omega
  refine o_X12_isLaw _ _ _ ?_
  by_cases c1 : a = (-1)
  · refine br1 c1 ?_
    have d2 := eq_z (x := (Int32.toInt a)) (y := (-1)) rfl (by decide) c1
    refine br0 (by decide) ?_
    refine o_X12_change _ _ _ _ ?_
    refine ⟨by unfold vp_in; decide, ?_⟩
    refine ⟨by unfold vp_in; decide, ?_⟩
    refine un2_i ?_
    have g3 : (-1) ≤ (Int32.toInt (f_row (6 : Int32).toNatClampNeg)) ∧ (Int32.toInt (f_row (6 : Int32).toNatClampNeg)) ≤ 5 := RLW.at_6 h_f_row (rfl : ((6 : Nat) : Int) = 6) (by omega) (by omega)
    have t4 : (Int32.toInt (f_row (6 : Int32).toNatClampNeg)) = w (6) := RMw.z e_0 (i := 6) rfl (by omega)
    have k5 : Int32.toInt 0 = 0 := rfl
    have R6 : RLW (upd f_row 6 a) := RLW.up_6 h_f_row (rfl : ((6 : Nat) : Int) = 6) (by omega) (by omega) (w := (Int32.toInt a)) rfl (by omega) (by omega)
    have hR7 : forceR w a.toInt = (Int32.toInt (f_row (6 : Int32).toNatClampNeg)) := by unfold forceR; (repeat' split) <;> omega
    have hB8 : forceB w a.toInt = 0 := by unfold forceB; (repeat' split) <;> omega
    exact hq _ _ _ _ _ ⟨R6, hR7.symm, (by unfold forceW; rw [if_neg (by omega)]; exact (RMw.up e_0 (by first | rfl | (show Int.toNat _ = _; omega)) (by first | rfl | omega))), e_1, (RML.fo e_2 e_0 (by omega)), (by rw [hB8]; rfl), (by rw [hB8]; exact e_3)⟩
  · refine br0 c1 ?_
    have d9 := ne_z (x := (Int32.toInt a)) (y := (-1)) rfl (by decide) c1
    refine o_X12_in _ _ _ _ ?_
    by_cases c10 : (lg_cmp a.toInt64 0) < 0
    · refine br1 c10 ?_
      have t11 : (Int64.toInt a.toInt64) = (Int32.toInt a) := i2l_z rfl
      have d12 := c_lt (x := (Int64.toInt a.toInt64)) (y := 0) rfl rfl c10
      refine br1 (by decide) ?_
      refine br1 (by decide) ?_
      have k13 : Int32.toInt (-2) = (-2) := (by decide)
      refine s_X12_tellz (-2) (f_refusals) (by decide) e_3 (fun r14 u15_0 u15_1 H16 => ?_)
      have j17 := H16.1
      have j18 := H16.2.1
      have j19 := H16.2.2
      refine un2_i ?_
      have k20 : Int32.toInt 0 = 0 := rfl
      have hR21 : forceR w a.toInt = (Int32.toInt r14) := by unfold forceR; (repeat' split) <;> omega
      have hB22 : forceB w a.toInt = -2 := by unfold forceB; (repeat' split) <;> omega
      exact hq _ _ _ _ _ ⟨h_f_row, hR21.symm, (by unfold forceW; rw [if_pos (by omega)]; exact e_0), e_1, e_2, (by rw [hB22]; have q := j18; rw [show (Int32.toInt r14) = -2 by omega] at q; exact q), (by rw [hB22]; have q := j19; rw [show (Int32.toInt r14) = -2 by omega] at q; exact q)⟩
    · refine br0 c10 ?_
      have t23 : (Int64.toInt a.toInt64) = (Int32.toInt a) := i2l_z rfl
      have d24 := c_nlt (x := (Int64.toInt a.toInt64)) (y := 0) rfl rfl c10
      by_cases c25 : 0 < (lg_cmp a.toInt64 ((f_row (5 : Int32).toNatClampNeg).toInt64 - 1))
      · refine br1 c25 ?_
        have g26 : 0 ≤ (Int32.toInt (f_row (5 : Int32).toNatClampNeg)) ∧ (Int32.toInt (f_row (5 : Int32).toNatClampNeg)) ≤ 6 := RLW.at_5 h_f_row (rfl : ((5 : Nat) : Int) = 5) (by omega) (by omega)
        have t27 : (Int32.toInt (f_row (5 : Int32).toNatClampNeg)) = w (5) := RMw.z e_0 (i := 5) rfl (by omega)
        have t28 : (Int64.toInt (f_row (5 : Int32).toNatClampNeg).toInt64) = (Int32.toInt (f_row (5 : Int32).toNatClampNeg)) := i2l_z rfl
        have t29 : (Int64.toInt ((f_row (5 : Int32).toNatClampNeg).toInt64 - 1)) = (Int64.toInt (f_row (5 : Int32).toNatClampNeg).toInt64) - 1 := lsub_z rfl rfl (by omega) (by omega)
        have d30 := c_gt (x := (Int64.toInt a.toInt64)) (y := (Int64.toInt ((f_row (5 : Int32).toNatClampNeg).toInt64 - 1))) rfl rfl c25
        refine br1 (by decide) ?_
        refine br1 (by decide) ?_
        have k31 : Int32.toInt (-2) = (-2) := (by decide)
        refine s_X12_tellz (-2) (f_refusals) (by decide) e_3 (fun r32 u33_0 u33_1 H34 => ?_)
        have j35 := H34.1
        have j36 := H34.2.1
        have j37 := H34.2.2
        refine un2_i ?_
        have k38 : Int32.toInt 0 = 0 := rfl
        have hR39 : forceR w a.toInt = (Int32.toInt r32) := by unfold forceR; (repeat' split) <;> omega
        have hB40 : forceB w a.toInt = -2 := by unfold forceB; (repeat' split) <;> omega
        exact hq _ _ _ _ _ ⟨h_f_row, hR39.symm, (by unfold forceW; rw [if_pos (by omega)]; exact e_0), e_1, e_2, (by rw [hB40]; have q := j36; rw [show (Int32.toInt r32) = -2 by omega] at q; exact q), (by rw [hB40]; have q := j37; rw [show (Int32.toInt r32) = -2 by omega] at q; exact q)⟩
      · refine br0 c25 ?_
        have g41 : 0 ≤ (Int32.toInt (f_row (5 : Int32).toNatClampNeg)) ∧ (Int32.toInt (f_row (5 : Int32).toNatClampNeg)) ≤ 6 := RLW.at_5 h_f_row (rfl : ((5 : Nat) : Int) = 5) (by omega) (by omega)
        have t42 : (Int32.toInt (f_row (5 : Int32).toNatClampNeg)) = w (5) := RMw.z e_0 (i := 5) rfl (by omega)
        have t43 : (Int64.toInt (f_row (5 : Int32).toNatClampNeg).toInt64) = (Int32.toInt (f_row (5 : Int32).toNatClampNeg)) := i2l_z rfl
        have t44 : (Int64.toInt ((f_row (5 : Int32).toNatClampNeg).toInt64 - 1)) = (Int64.toInt (f_row (5 : Int32).toNatClampNeg).toInt64) - 1 := lsub_z rfl rfl (by omega) (by omega)
        have d45 := c_ngt (x := (Int64.toInt a.toInt64)) (y := (Int64.toInt ((f_row (5 : Int32).toNatClampNeg).toInt64 - 1))) rfl rfl c25
        refine br0 (by decide) ?_
        refine br0 (by decide) ?_
        refine o_X12_change _ _ _ _ ?_
        refine ⟨by unfold vp_in; decide, ?_⟩
        refine ⟨by unfold vp_in; decide, ?_⟩
        refine un2_i ?_
        have g46 : (-1) ≤ (Int32.toInt (f_row (6 : Int32).toNatClampNeg)) ∧ (Int32.toInt (f_row (6 : Int32).toNatClampNeg)) ≤ 5 := RLW.at_6 h_f_row (rfl : ((6 : Nat) : Int) = 6) (by omega) (by omega)
        have t47 : (Int32.toInt (f_row (6 : Int32).toNatClampNeg)) = w (6) := RMw.z e_0 (i := 6) rfl (by omega)
        have k48 : Int32.toInt 0 = 0 := rfl
        have R49 : RLW (upd f_row 6 a) := RLW.up_6 h_f_row (rfl : ((6 : Nat) : Int) = 6) (by omega) (by omega) (w := (Int32.toInt a)) rfl (by omega) (by omega)
        have hR50 : forceR w a.toInt = (Int32.toInt (f_row (6 : Int32).toNatClampNeg)) := by unfold forceR; (repeat' split) <;> omega
        have hB51 : forceB w a.toInt = 0 := by unfold forceB; (repeat' split) <;> omega
        exact hq _ _ _ _ _ ⟨R49, hR50.symm, (by unfold forceW; rw [if_neg (by omega)]; exact (RMw.up e_0 (by first | rfl | (show Int.toNat _ = _; omega)) (by first | rfl | omega))), e_1, (RML.fo e_2 e_0 (by omega)), (by rw [hB51]; rfl), (by rw [hB51]; exact e_3)⟩

