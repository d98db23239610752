set_option maxRecDepth 100000 in
theorem s_X12_dinz (a : Int32) (f_row : Nat → Int32) {w : Nat → Int} (h_f_row : RLW f_row) (e_0 : RMw f_row w) {Q : Int32 → Int32 → Prop} (hq : ∀ (r : Int32) (u : Int32), (r.toInt = dinR w a.toInt) → Q r u) : wp_X12_din a f_row Q := by
  unfold wp_X12_din
  refine o_X12_isColumn _ _ ?_
  refine o_X12_in _ _ _ _ ?_
  by_cases c1 : (lg_cmp a.toInt64 0) < 0
  · refine br1 c1 ?_
    have t2 : (Int64.toInt a.toInt64) = (Int32.toInt a) := i2l_z rfl
    have d3 := c_lt (x := (Int64.toInt a.toInt64)) (y := 0) rfl rfl c1
    refine br1 (by decide) ?_
    have k4 : Int32.toInt (-1) = (-1) := (by decide)
    have k5 : Int32.toInt 0 = 0 := rfl
    exact hq _ _ (by unfold dinR; rw [if_pos (by omega)]; decide)
  · refine br0 c1 ?_
    have t6 : (Int64.toInt a.toInt64) = (Int32.toInt a) := i2l_z rfl
    have d7 := c_nlt (x := (Int64.toInt a.toInt64)) (y := 0) rfl rfl c1
    by_cases c8 : 0 < (lg_cmp a.toInt64 7)
    · refine br1 c8 ?_
      have d9 := c_gt (x := (Int64.toInt a.toInt64)) (y := 7) rfl rfl c8
      refine br1 (by decide) ?_
      have k10 : Int32.toInt (-1) = (-1) := (by decide)
      have k11 : Int32.toInt 0 = 0 := rfl
      exact hq _ _ (by unfold dinR; rw [if_pos (by omega)]; decide)
    · refine br0 c8 ?_
      have d12 := c_ngt (x := (Int64.toInt a.toInt64)) (y := 7) rfl rfl c8
      refine br0 (by decide) ?_
      refine s_X12_dinButz a 0 (f_row) (w := w) ⟨by omega, by omega⟩ h_f_row e_0 (fun r13 H14 => ?_)
      have j15 := H14.1
      have j16 := H14.2
      have k17 : Int32.toInt 0 = 0 := rfl
      exact hq _ _ (by unfold dinR; rw [if_neg (by omega)]; exact j16.trans (nsS_0 (fun i _ => bh_0 i)))


set_option maxRecDepth 100000 in
theorem s_X12_atz (a : Int32) (b : Int32) (h0_ordered : Int32) (h0_law : Int32) (h0_broken : Int32) (h0_value : Int64) (h0_sum : Int64) (f_row : Nat → Int32) (f_set : Nat → Int64) (f_nOp : Nat → Int32) (f_nArg : Nat → Int32) (f_rest : Nat → Int64) (f_now : Nat → Int64) {w : Nat → Int} {ls : Nat → List Cls} (h_h0_ordered : 0 ≤ h0_ordered.toInt ∧ h0_ordered.toInt ≤ 0) (h_h0_broken : 0 ≤ h0_broken.toInt ∧ h0_broken.toInt ≤ 1) (h_f_row : RLW f_row) (e_0 : RMw f_row w) (e_1 : RML f_row ls) {Q : Int32 → (Int32 × Int32 × Int32 × Int64 × Int64 × (Nat → Int64) × (Nat → Int64)) → Prop} (hq : ∀ (r : Int32) (u_0 : Int32) (u_1 : Int32) (u_2 : Int32) (u_3 : Int64) (u_4 : Int64) (u_5 : Nat → Int64) (u_6 : Nat → Int64), (0 ≤ u_2.toInt ∧ u_2.toInt ≤ 1) ∧ (r.toInt = atR (lawW w ls) w a.toInt b.toInt) → Q r (u_0, u_1, u_2, u_3, u_4, u_5, u_6)) : wp_X12_at a b h0_ordered h0_law h0_broken h0_value h0_sum f_row f_set f_nOp f_nArg f_rest f_now Q := by
  unfold wp_X12_at
  obtain rfl : h0_ordered = 0 := z_eq (y := 0) rfl rfl (by omega)
  refine o_X12_isCell _ _ ?_
  refine o_X12_in _ _ _ _ ?_
  by_cases c1 : (lg_cmp a.toInt64 0) < 0
  · refine br1 c1 ?_
    have t2 : (Int64.toInt a.toInt64) = (Int32.toInt a) := i2l_z rfl
    have d3 := c_lt (x := (Int64.toInt a.toInt64)) (y := 0) rfl rfl c1
    refine br1 (by decide) ?_
    have k4 : Int32.toInt (-1) = (-1) := (by decide)
    have k5 : Int32.toInt 0 = 0 := rfl
    exact hq _ _ _ _ _ _ _ _ ⟨⟨by omega, by omega⟩, (by unfold atR; (repeat' split) <;> omega)⟩
  · refine br0 c1 ?_
    have t6 : (Int64.toInt a.toInt64) = (Int32.toInt a) := i2l_z rfl
    have d7 := c_nlt (x := (Int64.toInt a.toInt64)) (y := 0) rfl rfl c1
    by_cases c8 : 0 < (lg_cmp a.toInt64 39)
    · refine br1 c8 ?_
      have d9 := c_gt (x := (Int64.toInt a.toInt64)) (y := 39) rfl rfl c8
      refine br1 (by decide) ?_
      have k10 : Int32.toInt (-1) = (-1) := (by decide)
      have k11 : Int32.toInt 0 = 0 := rfl
      exact hq _ _ _ _ _ _ _ _ ⟨⟨by omega, by omega⟩, (by unfold atR; (repeat' split) <;> omega)⟩
    · refine br0 c8 ?_
      have d12 := c_ngt (x := (Int64.toInt a.toInt64)) (y := 39) rfl rfl c8
      refine br0 (by decide) ?_
      by_cases c13 : b = 0
      · refine br1 c13 ?_
        have d14 := eq_z (x := (Int32.toInt b)) (y := 0) rfl rfl c13
        refine o_X12_placeOf _ _ ?_
        refine br1 (z_eq (x := (Int32.toInt b)) (y := 0) rfl rfl (by omega)) ?_
        have t15 : (Int32.toInt (113 + a)) = 113 + (Int32.toInt a) := add_z rfl rfl (by omega) (by omega)
        refine ⟨vpi (x := (Int32.toInt (113 + a))) rfl (by omega) (by omega), ?_⟩
        have g16 : 0 ≤ (Int32.toInt (f_row (113 + a).toNatClampNeg)) ∧ (Int32.toInt (f_row (113 + a).toNatClampNeg)) ≤ 3 := RLW.at_113 h_f_row (tnz (x := (Int32.toInt (113 + a))) rfl (by omega)) (by omega) (by omega)
        have t17 : (Int32.toInt (f_row (113 + a).toNatClampNeg)) = w (113 + ((Int32.toInt a)).toNat) := RMw.z e_0 (i := 113 + ((Int32.toInt a)).toNat) (show Int.toNat _ = _ by omega) (by omega)
        have k18 : Int32.toInt 0 = 0 := rfl
        exact hq _ _ _ _ _ _ _ _ ⟨⟨by omega, by omega⟩, (by unfold atR; (repeat' split) <;> omega)⟩
      · refine br0 c13 ?_
        have d19 := ne_z (x := (Int32.toInt b)) (y := 0) rfl rfl c13
        by_cases c20 : b = 1
        · refine br1 c20 ?_
          have d21 := eq_z (x := (Int32.toInt b)) (y := 1) rfl rfl c20
          refine o_X12_placeOf _ _ ?_
          refine br0 (z_ne (x := (Int32.toInt b)) (y := 0) rfl rfl (by omega)) ?_
          refine br1 (z_eq (x := (Int32.toInt b)) (y := 1) rfl rfl (by omega)) ?_
          have t22 : (Int32.toInt (153 + a)) = 153 + (Int32.toInt a) := add_z rfl rfl (by omega) (by omega)
          refine ⟨vpi (x := (Int32.toInt (153 + a))) rfl (by omega) (by omega), ?_⟩
          have g23 : 1 ≤ (Int32.toInt (f_row (153 + a).toNatClampNeg)) ∧ (Int32.toInt (f_row (153 + a).toNatClampNeg)) ≤ 9 := RLW.at_153 h_f_row (tnz (x := (Int32.toInt (153 + a))) rfl (by omega)) (by omega) (by omega)
          have t24 : (Int32.toInt (f_row (153 + a).toNatClampNeg)) = w (153 + ((Int32.toInt a)).toNat) := RMw.z e_0 (i := 153 + ((Int32.toInt a)).toNat) (show Int.toNat _ = _ by omega) (by omega)
          have k25 : Int32.toInt 0 = 0 := rfl
          exact hq _ _ _ _ _ _ _ _ ⟨⟨by omega, by omega⟩, (by unfold atR; (repeat' split) <;> omega)⟩
        · refine br0 c20 ?_
          have d26 := ne_z (x := (Int32.toInt b)) (y := 1) rfl rfl c20
          by_cases c27 : b = 2
          · refine br1 c27 ?_
            have d28 := eq_z (x := (Int32.toInt b)) (y := 2) rfl rfl c27
            refine o_X12_placeOf _ _ ?_
            refine br0 (z_ne (x := (Int32.toInt b)) (y := 0) rfl rfl (by omega)) ?_
            refine br0 (z_ne (x := (Int32.toInt b)) (y := 1) rfl rfl (by omega)) ?_
            have t29 : (Int32.toInt (73 + a)) = 73 + (Int32.toInt a) := add_z rfl rfl (by omega) (by omega)
            refine ⟨vpi (x := (Int32.toInt (73 + a))) rfl (by omega) (by omega), ?_⟩
            have g30 : 0 ≤ (Int32.toInt (f_row (73 + a).toNatClampNeg)) ∧ (Int32.toInt (f_row (73 + a).toNatClampNeg)) ≤ 99 := RLW.at_73 h_f_row (tnz (x := (Int32.toInt (73 + a))) rfl (by omega)) (by omega) (by omega)
            have t31 : (Int32.toInt (f_row (73 + a).toNatClampNeg)) = w (73 + ((Int32.toInt a)).toNat) := RMw.z e_0 (i := 73 + ((Int32.toInt a)).toNat) (show Int.toNat _ = _ by omega) (by omega)
            have k32 : Int32.toInt 0 = 0 := rfl
            exact hq _ _ _ _ _ _ _ _ ⟨⟨by omega, by omega⟩, (by unfold atR; (repeat' split) <;> omega)⟩
          · refine br0 c27 ?_
            have d33 := ne_z (x := (Int32.toInt b)) (y := 2) rfl rfl c27
            by_cases c34 : b = 3
            · refine br1 c34 ?_
              have d35 := eq_z (x := (Int32.toInt b)) (y := 3) rfl rfl c34
              have t36 : (Int32.toInt (33 + a)) = 33 + (Int32.toInt a) := add_z rfl rfl (by omega) (by omega)
              refine ⟨vpi (x := (Int32.toInt (33 + a))) rfl (by omega) (by omega), ?_⟩
              have g37 : 0 ≤ (Int32.toInt (f_row (33 + a).toNatClampNeg)) ∧ (Int32.toInt (f_row (33 + a).toNatClampNeg)) ≤ 1 := RLW.at_33 h_f_row (tnz (x := (Int32.toInt (33 + a))) rfl (by omega)) (by omega) (by omega)
              have t38 : (Int32.toInt (f_row (33 + a).toNatClampNeg)) = w (33 + ((Int32.toInt a)).toNat) := RMw.z e_0 (i := 33 + ((Int32.toInt a)).toNat) (show Int.toNat _ = _ by omega) (by omega)
              have k39 : Int32.toInt 0 = 0 := rfl
              exact hq _ _ _ _ _ _ _ _ ⟨⟨by omega, by omega⟩, (by unfold atR; (repeat' split) <;> omega)⟩
            · refine br0 c34 ?_
              have d40 := ne_z (x := (Int32.toInt b)) (y := 3) rfl rfl c34
              by_cases c41 : b = 4
              · refine br1 c41 ?_
                have d42 := eq_z (x := (Int32.toInt b)) (y := 4) rfl rfl c41
                have t43 : (Int32.toInt (113 + a)) = 113 + (Int32.toInt a) := add_z rfl rfl (by omega) (by omega)
                refine ⟨vpi (x := (Int32.toInt (113 + a))) rfl (by omega) (by omega), ?_⟩
                have g45 : 0 ≤ (Int32.toInt (f_row (113 + a).toNatClampNeg)) ∧ (Int32.toInt (f_row (113 + a).toNatClampNeg)) ≤ 3 := RLW.at_113 h_f_row (tnz (x := (Int32.toInt (113 + a))) rfl (by omega)) (by omega) (by omega)
                have t46 : (Int32.toInt (f_row (113 + a).toNatClampNeg)) = w (113 + ((Int32.toInt a)).toNat) := RMw.z e_0 (i := 113 + ((Int32.toInt a)).toNat) (show Int.toNat _ = _ by omega) (by omega)
                refine z_msays e_1 e_0 h_f_row ⟨by omega, by omega⟩ ⟨by omega, by omega⟩ (fun r44 q47 q48 q49 q50 q51 q52 H53 => ?_)
                have j54 := H53.1
                have j55 := H53.2.1
                have j56 := H53.2.2
                rw [show (Int32.toInt (f_row (113 + a).toNatClampNeg)) = w (113 + ((Int32.toInt a)).toNat) by omega] at j55
                refine un6_i ?_
                have k57 : Int32.toInt 0 = 0 := rfl
                exact hq _ _ _ _ _ _ _ _ ⟨⟨by omega, by omega⟩, (by unfold atR; (repeat' split) <;> omega)⟩
              · refine br0 c41 ?_
                have d58 := ne_z (x := (Int32.toInt b)) (y := 4) rfl rfl c41
                by_cases c59 : b = 5
                · refine br1 c59 ?_
                  have d60 := eq_z (x := (Int32.toInt b)) (y := 5) rfl rfl c59
                  have t61 : (Int32.toInt (113 + a)) = 113 + (Int32.toInt a) := add_z rfl rfl (by omega) (by omega)
                  refine ⟨vpi (x := (Int32.toInt (113 + a))) rfl (by omega) (by omega), ?_⟩
                  have g63 : 0 ≤ (Int32.toInt (f_row (113 + a).toNatClampNeg)) ∧ (Int32.toInt (f_row (113 + a).toNatClampNeg)) ≤ 3 := RLW.at_113 h_f_row (tnz (x := (Int32.toInt (113 + a))) rfl (by omega)) (by omega) (by omega)
                  have t64 : (Int32.toInt (f_row (113 + a).toNatClampNeg)) = w (113 + ((Int32.toInt a)).toNat) := RMw.z e_0 (i := 113 + ((Int32.toInt a)).toNat) (show Int.toNat _ = _ by omega) (by omega)
                  refine z_mloses e_1 e_0 h_f_row ⟨by omega, by omega⟩ ⟨by omega, by omega⟩ (fun r62 q65 q66 q67 q68 q69 q70 H71 => ?_)
                  have j72 := H71.1
                  have j73 := H71.2.1
                  have j74 := H71.2.2
                  rw [show (Int32.toInt (f_row (113 + a).toNatClampNeg)) = w (113 + ((Int32.toInt a)).toNat) by omega] at j73
                  refine un6_i ?_
                  have k75 : Int32.toInt 0 = 0 := rfl
                  exact hq _ _ _ _ _ _ _ _ ⟨⟨by omega, by omega⟩, (by unfold atR; (repeat' split) <;> omega)⟩
                · refine br0 c59 ?_
                  have d76 := ne_z (x := (Int32.toInt b)) (y := 5) rfl rfl c59
                  have k77 : Int32.toInt (-1) = (-1) := (by decide)
                  have k78 : Int32.toInt 0 = 0 := rfl
                  exact hq _ _ _ _ _ _ _ _ ⟨⟨by omega, by omega⟩, (by unfold atR; (repeat' split) <;> omega)⟩


set_option maxRecDepth 100000 in
theorem s_X12_asksz (a : Int32) (b : Int32) (d : Int32) (h0_ordered : Int32) (h0_law : Int32) (h0_broken : Int32) (h0_value : Int64) (h0_sum : Int64) (f_row : Nat → Int32) (f_set : Nat → Int64) (f_nOp : Nat → Int32) (f_nArg : Nat → Int32) (f_rest : Nat → Int64) (f_now : Nat → Int64) {w : Nat → Int} {ls : Nat → List Cls} (h_h0_ordered : 0 ≤ h0_ordered.toInt ∧ h0_ordered.toInt ≤ 0) (h_h0_broken : 0 ≤ h0_broken.toInt ∧ h0_broken.toInt ≤ 1) (h_f_row : RLW f_row) (e_0 : RMw f_row w) (e_1 : RML f_row ls) {Q : Int32 → (Int32 × Int32 × Int32 × Int64 × Int64 × (Nat → Int64) × (Nat → Int64)) → Prop} (hq : ∀ (r : Int32) (u_0 : Int32) (u_1 : Int32) (u_2 : Int32) (u_3 : Int64) (u_4 : Int64) (u_5 : Nat → Int64) (u_6 : Nat → Int64), (0 ≤ u_2.toInt ∧ u_2.toInt ≤ 1) ∧ (r.toInt = asksR (lawW w ls) w a.toInt b.toInt d.toInt) → Q r (u_0, u_1, u_2, u_3, u_4, u_5, u_6)) : wp_X12_asks a b d h0_ordered h0_law h0_broken h0_value h0_sum f_row f_set f_nOp f_nArg f_rest f_now Q := by
  unfold wp_X12_asks
  obtain rfl : h0_ordered = 0 := z_eq (y := 0) rfl rfl (by omega)
  refine o_X12_isShaft _ _ _ ?_
  refine o_X12_in _ _ _ _ ?_
  by_cases c1 : (lg_cmp a.toInt64 0) < 0
  · refine br1 c1 ?_
    have t2 : (Int64.toInt a.toInt64) = (Int32.toInt a) := i2l_z rfl
    have d3 := c_lt (x := (Int64.toInt a.toInt64)) (y := 0) rfl rfl c1
    refine br1 (by decide) ?_
    have k4 : Int32.toInt (-1) = (-1) := (by decide)
    have k5 : Int32.toInt 0 = 0 := rfl
    exact hq _ _ _ _ _ _ _ _ ⟨⟨by omega, by omega⟩, (by unfold asksR; (repeat' split) <;> omega)⟩
  · refine br0 c1 ?_
    have t6 : (Int64.toInt a.toInt64) = (Int32.toInt a) := i2l_z rfl
    have d7 := c_nlt (x := (Int64.toInt a.toInt64)) (y := 0) rfl rfl c1
    by_cases c8 : 0 < (lg_cmp a.toInt64 ((f_row (0 : Int32).toNatClampNeg).toInt64 - 1))
    · refine br1 c8 ?_
      have g9 : 0 ≤ (Int32.toInt (f_row (0 : Int32).toNatClampNeg)) ∧ (Int32.toInt (f_row (0 : Int32).toNatClampNeg)) ≤ 6 := RLW.at_0 h_f_row (rfl : ((0 : Nat) : Int) = 0) (by omega) (by omega)
      have t10 : (Int32.toInt (f_row (0 : Int32).toNatClampNeg)) = w (0) := RMw.z e_0 (i := 0) rfl (by omega)
      have t11 : (Int64.toInt (f_row (0 : Int32).toNatClampNeg).toInt64) = (Int32.toInt (f_row (0 : Int32).toNatClampNeg)) := i2l_z rfl
      have t12 : (Int64.toInt ((f_row (0 : Int32).toNatClampNeg).toInt64 - 1)) = (Int64.toInt (f_row (0 : Int32).toNatClampNeg).toInt64) - 1 := lsub_z rfl rfl (by omega) (by omega)
      have d13 := c_gt (x := (Int64.toInt a.toInt64)) (y := (Int64.toInt ((f_row (0 : Int32).toNatClampNeg).toInt64 - 1))) rfl rfl c8
      refine br1 (by decide) ?_
      have k14 : Int32.toInt (-1) = (-1) := (by decide)
      have k15 : Int32.toInt 0 = 0 := rfl
      exact hq _ _ _ _ _ _ _ _ ⟨⟨by omega, by omega⟩, (by unfold asksR; (repeat' split) <;> omega)⟩
    · refine br0 c8 ?_
      have g16 : 0 ≤ (Int32.toInt (f_row (0 : Int32).toNatClampNeg)) ∧ (Int32.toInt (f_row (0 : Int32).toNatClampNeg)) ≤ 6 := RLW.at_0 h_f_row (rfl : ((0 : Nat) : Int) = 0) (by omega) (by omega)
      have t17 : (Int32.toInt (f_row (0 : Int32).toNatClampNeg)) = w (0) := RMw.z e_0 (i := 0) rfl (by omega)
      have t18 : (Int64.toInt (f_row (0 : Int32).toNatClampNeg).toInt64) = (Int32.toInt (f_row (0 : Int32).toNatClampNeg)) := i2l_z rfl
      have t19 : (Int64.toInt ((f_row (0 : Int32).toNatClampNeg).toInt64 - 1)) = (Int64.toInt (f_row (0 : Int32).toNatClampNeg).toInt64) - 1 := lsub_z rfl rfl (by omega) (by omega)
      have d20 := c_ngt (x := (Int64.toInt a.toInt64)) (y := (Int64.toInt ((f_row (0 : Int32).toNatClampNeg).toInt64 - 1))) rfl rfl c8
      refine br0 (by decide) ?_
      refine o_X12_isCell _ _ ?_
      refine o_X12_in _ _ _ _ ?_
      by_cases c21 : (lg_cmp b.toInt64 0) < 0
      · refine br1 c21 ?_
        have t22 : (Int64.toInt b.toInt64) = (Int32.toInt b) := i2l_z rfl
        have d23 := c_lt (x := (Int64.toInt b.toInt64)) (y := 0) rfl rfl c21
        refine br1 (by decide) ?_
        have k24 : Int32.toInt (-1) = (-1) := (by decide)
        have k25 : Int32.toInt 0 = 0 := rfl
        exact hq _ _ _ _ _ _ _ _ ⟨⟨by omega, by omega⟩, (by unfold asksR; (repeat' split) <;> omega)⟩
      · refine br0 c21 ?_
        have t26 : (Int64.toInt b.toInt64) = (Int32.toInt b) := i2l_z rfl
        have d27 := c_nlt (x := (Int64.toInt b.toInt64)) (y := 0) rfl rfl c21
        by_cases c28 : 0 < (lg_cmp b.toInt64 39)
        · refine br1 c28 ?_
          have d29 := c_gt (x := (Int64.toInt b.toInt64)) (y := 39) rfl rfl c28
          refine br1 (by decide) ?_
          have k30 : Int32.toInt (-1) = (-1) := (by decide)
          have k31 : Int32.toInt 0 = 0 := rfl
          exact hq _ _ _ _ _ _ _ _ ⟨⟨by omega, by omega⟩, (by unfold asksR; (repeat' split) <;> omega)⟩
        · refine br0 c28 ?_
          have d32 := c_ngt (x := (Int64.toInt b.toInt64)) (y := 39) rfl rfl c28
          refine br0 (by decide) ?_
          refine o_X12_in _ _ _ _ ?_
          by_cases c33 : (lg_cmp d.toInt64 0) < 0
          · refine br1 c33 ?_
            have t34 : (Int64.toInt d.toInt64) = (Int32.toInt d) := i2l_z rfl
            have d35 := c_lt (x := (Int64.toInt d.toInt64)) (y := 0) rfl rfl c33
            refine br1 (by decide) ?_
            have k36 : Int32.toInt (-1) = (-1) := (by decide)
            have k37 : Int32.toInt 0 = 0 := rfl
            exact hq _ _ _ _ _ _ _ _ ⟨⟨by omega, by omega⟩, (by unfold asksR; (repeat' split) <;> omega)⟩
          · refine br0 c33 ?_
            have t38 : (Int64.toInt d.toInt64) = (Int32.toInt d) := i2l_z rfl
            have d39 := c_nlt (x := (Int64.toInt d.toInt64)) (y := 0) rfl rfl c33
            by_cases c40 : 0 < (lg_cmp d.toInt64 2)
            · refine br1 c40 ?_
              have d41 := c_gt (x := (Int64.toInt d.toInt64)) (y := 2) rfl rfl c40
              refine br1 (by decide) ?_
              have k42 : Int32.toInt (-1) = (-1) := (by decide)
              have k43 : Int32.toInt 0 = 0 := rfl
              exact hq _ _ _ _ _ _ _ _ ⟨⟨by omega, by omega⟩, (by unfold asksR; (repeat' split) <;> omega)⟩
            · refine br0 c40 ?_
              have d44 := c_ngt (x := (Int64.toInt d.toInt64)) (y := 2) rfl rfl c40
              refine br0 (by decide) ?_
              by_cases c45 : d = 0
              · refine br1 c45 ?_
                have d46 := eq_z (x := (Int32.toInt d)) (y := 0) rfl rfl c45
                refine z_mdigs e_1 e_0 h_f_row ⟨by omega, by omega⟩ ⟨by omega, by omega⟩ (fun r47 q48 q49 q50 q51 q52 q53 H54 => ?_)
                have j55 := H54.1
                have j56 := H54.2.1
                have j57 := H54.2.2
                refine un6_i ?_
                have k58 : Int32.toInt 0 = 0 := rfl
                exact hq _ _ _ _ _ _ _ _ ⟨⟨by omega, by omega⟩, (by unfold asksR; (repeat' split) <;> omega)⟩
              · refine br0 c45 ?_
                have d59 := ne_z (x := (Int32.toInt d)) (y := 0) rfl rfl c45
                by_cases c60 : d = 1
                · refine br1 c60 ?_
                  have d61 := eq_z (x := (Int32.toInt d)) (y := 1) rfl rfl c60
                  refine z_mpass e_1 e_0 h_f_row ⟨by omega, by omega⟩ ⟨by omega, by omega⟩ (fun r62 q63 q64 q65 q66 q67 q68 H69 => ?_)
                  have j70 := H69.1
                  have j71 := H69.2.1
                  have j72 := H69.2.2
                  refine un6_i ?_
                  by_cases c73 : r62 = 0
                  · refine br1 c73 ?_
                    have d74 := eq_z (x := (Int32.toInt r62)) (y := 0) rfl rfl c73
                    have k75 : Int32.toInt 0 = 0 := rfl
                    exact hq _ _ _ _ _ _ _ _ ⟨⟨by omega, by omega⟩, (by unfold asksR; (repeat' split) <;> omega)⟩
                  · refine br0 c73 ?_
                    have d76 := ne_z (x := (Int32.toInt r62)) (y := 0) rfl rfl c73
                    have k77 : Int32.toInt 1 = 1 := rfl
                    have k78 : Int32.toInt 0 = 0 := rfl
                    exact hq _ _ _ _ _ _ _ _ ⟨⟨by omega, by omega⟩, (by unfold asksR; (repeat' split) <;> omega)⟩
                · refine br0 c60 ?_
                  have d79 := ne_z (x := (Int32.toInt d)) (y := 1) rfl rfl c60
                  refine z_mgives e_1 e_0 h_f_row ⟨by omega, by omega⟩ ⟨by omega, by omega⟩ (fun r80 q81 q82 q83 q84 q85 q86 H87 => ?_)
                  have j88 := H87.1
                  have j89 := H87.2.1
                  have j90 := H87.2.2.1
                  have j91 := H87.2.2.2
                  refine un6_i ?_
                  have k92 : Int32.toInt 0 = 0 := rfl
                  exact hq _ _ _ _ _ _ _ _ ⟨⟨by omega, by omega⟩, (by unfold asksR; (repeat' split) <;> omega)⟩


set_option maxRecDepth 100000 in
theorem s_X12_loudz (a : Int32) (b : Int32) (h0_ordered : Int32) (h0_law : Int32) (h0_broken : Int32) (h0_value : Int64) (h0_sum : Int64) (f_row : Nat → Int32) (f_set : Nat → Int64) (f_nOp : Nat → Int32) (f_nArg : Nat → Int32) (f_rest : Nat → Int64) (f_now : Nat → Int64) {w : Nat → Int} {ls : Nat → List Cls} (h_h0_ordered : 0 ≤ h0_ordered.toInt ∧ h0_ordered.toInt ≤ 0) (h_h0_broken : 0 ≤ h0_broken.toInt ∧ h0_broken.toInt ≤ 1) (h_f_row : RLW f_row) (e_0 : RMw f_row w) (e_1 : RML f_row ls) {Q : Int32 → (Int32 × Int32 × Int32 × Int64 × Int64 × (Nat → Int64) × (Nat → Int64)) → Prop} (hq : ∀ (r : Int32) (u_0 : Int32) (u_1 : Int32) (u_2 : Int32) (u_3 : Int64) (u_4 : Int64) (u_5 : Nat → Int64) (u_6 : Nat → Int64), (0 ≤ u_2.toInt ∧ u_2.toInt ≤ 1) ∧ (r.toInt = loudR (lawW w ls) w a.toInt b.toInt) → Q r (u_0, u_1, u_2, u_3, u_4, u_5, u_6)) : wp_X12_loud a b h0_ordered h0_law h0_broken h0_value h0_sum f_row f_set f_nOp f_nArg f_rest f_now Q := by
  unfold wp_X12_loud
  obtain rfl : h0_ordered = 0 := z_eq (y := 0) rfl rfl (by omega)
  refine o_X12_isCell _ _ ?_
  refine o_X12_in _ _ _ _ ?_
  by_cases c1 : (lg_cmp a.toInt64 0) < 0
  · refine br1 c1 ?_
    have t2 : (Int64.toInt a.toInt64) = (Int32.toInt a) := i2l_z rfl
    have d3 := c_lt (x := (Int64.toInt a.toInt64)) (y := 0) rfl rfl c1
    refine br1 (by decide) ?_
    have k4 : Int32.toInt (-100000) = (-100000) := (by decide)
    have k5 : Int32.toInt 0 = 0 := rfl
    exact hq _ _ _ _ _ _ _ _ ⟨⟨by omega, by omega⟩, (by unfold loudR; rw [if_pos (by omega)]; decide)⟩
  · refine br0 c1 ?_
    have t6 : (Int64.toInt a.toInt64) = (Int32.toInt a) := i2l_z rfl
    have d7 := c_nlt (x := (Int64.toInt a.toInt64)) (y := 0) rfl rfl c1
    by_cases c8 : 0 < (lg_cmp a.toInt64 39)
    · refine br1 c8 ?_
      have d9 := c_gt (x := (Int64.toInt a.toInt64)) (y := 39) rfl rfl c8
      refine br1 (by decide) ?_
      have k10 : Int32.toInt (-100000) = (-100000) := (by decide)
      have k11 : Int32.toInt 0 = 0 := rfl
      exact hq _ _ _ _ _ _ _ _ ⟨⟨by omega, by omega⟩, (by unfold loudR; rw [if_pos (by omega)]; decide)⟩
    · refine br0 c8 ?_
      have d12 := c_ngt (x := (Int64.toInt a.toInt64)) (y := 39) rfl rfl c8
      refine br0 (by decide) ?_
      refine o_X12_isColumn _ _ ?_
      refine o_X12_in _ _ _ _ ?_
      by_cases c13 : (lg_cmp b.toInt64 0) < 0
      · refine br1 c13 ?_
        have t14 : (Int64.toInt b.toInt64) = (Int32.toInt b) := i2l_z rfl
        have d15 := c_lt (x := (Int64.toInt b.toInt64)) (y := 0) rfl rfl c13
        refine br1 (by decide) ?_
        have k16 : Int32.toInt (-100000) = (-100000) := (by decide)
        have k17 : Int32.toInt 0 = 0 := rfl
        exact hq _ _ _ _ _ _ _ _ ⟨⟨by omega, by omega⟩, (by unfold loudR; rw [if_pos (by omega)]; decide)⟩
      · refine br0 c13 ?_
        have t18 : (Int64.toInt b.toInt64) = (Int32.toInt b) := i2l_z rfl
        have d19 := c_nlt (x := (Int64.toInt b.toInt64)) (y := 0) rfl rfl c13
        by_cases c20 : 0 < (lg_cmp b.toInt64 7)
        · refine br1 c20 ?_
          have d21 := c_gt (x := (Int64.toInt b.toInt64)) (y := 7) rfl rfl c20
          refine br1 (by decide) ?_
          have k22 : Int32.toInt (-100000) = (-100000) := (by decide)
          have k23 : Int32.toInt 0 = 0 := rfl
          exact hq _ _ _ _ _ _ _ _ ⟨⟨by omega, by omega⟩, (by unfold loudR; rw [if_pos (by omega)]; decide)⟩
        · refine br0 c20 ?_
          have d24 := c_ngt (x := (Int64.toInt b.toInt64)) (y := 7) rfl rfl c20
          refine br0 (by decide) ?_
          have t25 : (Int32.toInt (113 + a)) = 113 + (Int32.toInt a) := add_z rfl rfl (by omega) (by omega)
          refine ⟨vpi (x := (Int32.toInt (113 + a))) rfl (by omega) (by omega), ?_⟩
          have g27 : 0 ≤ (Int32.toInt (f_row (113 + a).toNatClampNeg)) ∧ (Int32.toInt (f_row (113 + a).toNatClampNeg)) ≤ 3 := RLW.at_113 h_f_row (tnz (x := (Int32.toInt (113 + a))) rfl (by omega)) (by omega) (by omega)
          have t28 : (Int32.toInt (f_row (113 + a).toNatClampNeg)) = w (113 + ((Int32.toInt a)).toNat) := RMw.z e_0 (i := 113 + ((Int32.toInt a)).toNat) (show Int.toNat _ = _ by omega) (by omega)
          refine z_mloudAs e_1 e_0 h_f_row ⟨by omega, by omega⟩ ⟨by omega, by omega⟩ ⟨by omega, by omega⟩ (fun r26 q29 q30 q31 q32 q33 q34 H35 => ?_)
          have j36 := H35.1
          have j37 := H35.2.1
          have j38 := H35.2.2
          rw [show (Int32.toInt (f_row (113 + a).toNatClampNeg)) = w (113 + ((Int32.toInt a)).toNat) by omega] at j37
          refine un6_i ?_
          have k39 : Int32.toInt 0 = 0 := rfl
          exact hq _ _ _ _ _ _ _ _ ⟨⟨by omega, by omega⟩, (by unfold loudR; rw [if_neg (by omega)]; exact j37)⟩

