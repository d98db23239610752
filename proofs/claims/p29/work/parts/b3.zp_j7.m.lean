theorem o_X12_canDig (a : Int32) (b : Int32) (h0_ordered : Int32) (h0_law : Int32) (h0_broken : Int32) (h0_value : Int64) (h0_sum : Int64) (f_row : Nat → Int32) (f_set : Nat → Int64) (f_nOp : Nat → Int32) (f_nArg : Nat → Int32) (f_rest : Nat → Int64) (f_now : Nat → Int64) (Q : Int32 → (Int32 × Int32 × Int64 × Int64 × (Nat → Int64) × (Nat → Int64)) → Prop) (h : (vp_in (10 + a) 5650 ∧ (wp_X12_cellBy (f_row (10 + a).toNatClampNeg) b (fun (r_10 : Int32) => (wp_X12_mayDig a (f_row) (fun (r_16 : Int32) => (if r_16 = 0 then (Q 0 (h0_law, h0_broken, h0_value, h0_sum, f_set, f_rest)) else (if r_10 = (-1) then (Q 0 (h0_law, h0_broken, h0_value, h0_sum, f_set, f_rest)) else (vp_in (33 + r_10) 5650 ∧ (if (f_row (33 + r_10).toNatClampNeg) = 0 then (wp_X12_isPassed a r_10 h0_ordered h0_law h0_broken h0_value h0_sum (f_row) (f_set) (f_nOp) (f_nArg) (f_rest) (f_now) (fun (r_42 : Int32) => (un6 (fun (u_42_0 : Int32) (u_42_1 : Int32) (u_42_2 : Int64) (u_42_3 : Int64) (u_42_4 : Nat → Int64) (u_42_5 : Nat → Int64) => (if r_42 = 0 then (Q 0 (u_42_0, u_42_1, u_42_2, u_42_3, u_42_4, u_42_5)) else (wp_X12_digsOf a r_10 h0_ordered u_42_0 u_42_1 u_42_2 u_42_3 (f_row) (u_42_4) (f_nOp) (f_nArg) (u_42_5) (f_now) (fun (r_58 : Int32) => (un6 (fun (u_58_0 : Int32) (u_58_1 : Int32) (u_58_2 : Int64) (u_58_3 : Int64) (u_58_4 : Nat → Int64) (u_58_5 : Nat → Int64) => (if 9999 < ((f_row (7 : Int32).toNatClampNeg) + r_58) then (Q 0 (u_58_0, u_58_1, u_58_2, u_58_3, u_58_4, u_58_5)) else (Q 1 (u_58_0, u_58_1, u_58_2, u_58_3, u_58_4, u_58_5)))))))))))) else (Q 0 (h0_law, h0_broken, h0_value, h0_sum, f_set, f_rest)))))))))))) : wp_X12_canDig a b h0_ordered h0_law h0_broken h0_value h0_sum f_row f_set f_nOp f_nArg f_rest f_now Q := h
theorem o_X12_digIt (a : Int32) (b : Int32) (h0_ordered : Int32) (h0_law : Int32) (h0_broken : Int32) (h0_value : Int64) (h0_sum : Int64) (f_row : Nat → Int32) (f_set : Nat → Int64) (f_nOp : Nat → Int32) (f_nArg : Nat → Int32) (f_rest : Nat → Int64) (f_now : Nat → Int64) (Q : Int32 → (Int32 × Int32 × Int64 × Int64 × (Nat → Int32) × (Nat → Int64) × (Nat → Int64)) → Prop) (h : (vp_in (10 + a) 5650 ∧ (wp_X12_cellBy (f_row (10 + a).toNatClampNeg) b (fun (r_10 : Int32) => (wp_X12_digsOf a r_10 h0_ordered h0_law h0_broken h0_value h0_sum (f_row) (f_set) (f_nOp) (f_nArg) (f_rest) (f_now) (fun (r_25 : Int32) => (un6 (fun (u_25_0 : Int32) (u_25_1 : Int32) (u_25_2 : Int64) (u_25_3 : Int64) (u_25_4 : Nat → Int64) (u_25_5 : Nat → Int64) => (vp_in (33 + r_10) 5650 ∧ (vp_in (10 + a) 5650 ∧ (Q r_10 (u_25_0, u_25_1, u_25_2, u_25_3, (upd (upd (upd f_row 7 ((f_row (7 : Int32).toNatClampNeg) + r_25)) (33 + r_10).toNatClampNeg 1) (10 + a).toNatClampNeg r_10), u_25_4, u_25_5)))))))))))) : wp_X12_digIt a b h0_ordered h0_law h0_broken h0_value h0_sum f_row f_set f_nOp f_nArg f_rest f_now Q := h
theorem o_X12_haulIt (a : Int32) (h0_ordered : Int32) (h0_law : Int32) (h0_broken : Int32) (h0_value : Int64) (h0_sum : Int64) (f_row : Nat → Int32) (f_set : Nat → Int64) (f_nOp : Nat → Int32) (f_nArg : Nat → Int32) (f_rest : Nat → Int64) (f_now : Nat → Int64) (Q : Int32 → (Int32 × Int32 × Int64 × Int64 × (Nat → Int32) × (Nat → Int64) × (Nat → Int64)) → Prop) (h : (vp_in (10 + a) 5650 ∧ (wp_X12_givesOf a (f_row (10 + a).toNatClampNeg) h0_ordered h0_law h0_broken h0_value h0_sum (f_row) (f_set) (f_nOp) (f_nArg) (f_rest) (f_now) (fun (r_11 : Int32) => (un6 (fun (u_11_0 : Int32) (u_11_1 : Int32) (u_11_2 : Int64) (u_11_3 : Int64) (u_11_4 : Nat → Int64) (u_11_5 : Nat → Int64) => (vp_in (10 + a) 5650 ∧ (vp_in (73 + (f_row (10 + a).toNatClampNeg)) 5650 ∧ (vp_in (73 + (f_row (10 + a).toNatClampNeg)) 5650 ∧ (vp_in (16 + a) 5650 ∧ (wp_X12_within (((upd f_row (73 + (f_row (10 + a).toNatClampNeg)).toNatClampNeg ((f_row (73 + (f_row (10 + a).toNatClampNeg)).toNatClampNeg) - r_11)) (16 + a).toNatClampNeg) + r_11).toInt64 0 9999 (fun (r_60 : Int32) => (vp_in (16 + a) 5650 ∧ (Q r_11 (u_11_0, u_11_1, u_11_2, u_11_3, (upd (upd (upd f_row (73 + (f_row (10 + a).toNatClampNeg)).toNatClampNeg ((f_row (73 + (f_row (10 + a).toNatClampNeg)).toNatClampNeg) - r_11)) (16 + a).toNatClampNeg r_60) 7 (((upd (upd f_row (73 + (f_row (10 + a).toNatClampNeg)).toNatClampNeg ((f_row (73 + (f_row (10 + a).toNatClampNeg)).toNatClampNeg) - r_11)) (16 + a).toNatClampNeg r_60) (7 : Int32).toNatClampNeg) + 1)), u_11_4, u_11_5))))))))))))))) : wp_X12_haulIt a h0_ordered h0_law h0_broken h0_value h0_sum f_row f_set f_nOp f_nArg f_rest f_now Q := h
set_option maxRecDepth 100000 in
theorem s_X12_digNowz (a : Int32) (b : Int32) (h0_nUndo : Int32) (h0_ordered : Int32) (h0_law : Int32) (h0_broken : Int32) (h0_value : Int64) (h0_sum : Int64) (f_row : Nat → Int32) (f_set : Nat → Int64) (f_nOp : Nat → Int32) (f_nArg : Nat → Int32) (f_rest : Nat → Int64) (f_now : Nat → Int64) (f_undos : Nat → Int32) (f_sorts : Nat → Int32) {w : Nat → Int} {U : UL} {ls : Nat → List Cls} (h_h0_nUndo : 0 ≤ h0_nUndo.toInt ∧ h0_nUndo.toInt ≤ 16) (h_h0_ordered : 0 ≤ h0_ordered.toInt ∧ h0_ordered.toInt ≤ 0) (h_h0_broken : 0 ≤ h0_broken.toInt ∧ h0_broken.toInt ≤ 1) (h_f_row : RLW f_row) (h_f_undos : UN f_undos) (h_f_sorts : SO f_sorts) (e_0 : RMw f_row w) (e_1 : RMu f_undos f_sorts h0_nUndo U) (e_2 : RML f_row ls) {Q : Int32 → (Int32 × Int32 × Int32 × Int64 × Int64 × (Nat → Int32) × (Nat → Int64) × (Nat → Int64) × (Nat → Int32) × (Nat → Int32)) → Prop} (hq : ∀ (r : Int32) (u_0 : Int32) (u_1 : Int32) (u_2 : Int32) (u_3 : Int64) (u_4 : Int64) (u_5 : Nat → Int32) (u_6 : Nat → Int64) (u_7 : Nat → Int64) (u_8 : Nat → Int32) (u_9 : Nat → Int32), ((-3) ≤ r.toInt ∧ r.toInt ≤ 2147483647) ∧ (0 ≤ u_0.toInt ∧ u_0.toInt ≤ 16) ∧ (0 ≤ u_2.toInt ∧ u_2.toInt ≤ 1) ∧ (RLW u_5) ∧ (UN u_8) ∧ (SO u_9) ∧ (r.toInt = digR (lawW w ls) w a.toInt b.toInt) ∧ (RMw u_5 (digW (lawW w ls) w a.toInt b.toInt)) ∧ (RMu u_8 u_9 u_0 (rmU (digR (lawW w ls) w a.toInt b.toInt) 0 w U)) ∧ (RML u_5 ls) ∧ (∀ j, 1696 ≤ j → u_8 j = f_undos j) → Q r (u_0, u_1, u_2, u_3, u_4, u_5, u_6, u_7, u_8, u_9)) : wp_X12_digNow a b h0_nUndo h0_ordered h0_law h0_broken h0_value h0_sum f_row f_set f_nOp f_nArg f_rest f_now f_undos f_sorts Q := by
  unfold wp_X12_digNow
  obtain rfl : h0_ordered = 0 := z_eq (y := 0) rfl rfl (by omega)
  refine o_X12_in _ _ _ _ ?_
  by_cases c1 : (lg_cmp b.toInt64 0) < 0
  · refine br1 c1 ?_
    have t2 : (Int64.toInt b.toInt64) = (Int32.toInt b) := i2l_z rfl
    have d3 := c_lt (x := (Int64.toInt b.toInt64)) (y := 0) rfl rfl c1
    refine br1 (by decide) ?_
    have k4 : Int32.toInt (-1) = (-1) := (by decide)
    have hR5 : digR (lawW w ls) w a.toInt b.toInt = (-1) := by unfold digR; (repeat' split) <;> omega
    exact hq _ _ _ _ _ _ _ _ _ _ _ ⟨(by decide), ⟨by omega, by omega⟩, ⟨by omega, by omega⟩, h_f_row, h_f_undos, h_f_sorts, hR5.symm, (by unfold digW; rw [if_pos (show digR (lawW w ls) w a.toInt b.toInt < 0 by omega)]; exact e_0), (by unfold rmU; rw [if_pos (show digR (lawW w ls) w a.toInt b.toInt < 0 by omega)]; exact e_1), e_2, (fun j _ => rfl)⟩
  · refine br0 c1 ?_
    have t6 : (Int64.toInt b.toInt64) = (Int32.toInt b) := i2l_z rfl
    have d7 := c_nlt (x := (Int64.toInt b.toInt64)) (y := 0) rfl rfl c1
    by_cases c8 : 0 < (lg_cmp b.toInt64 2)
    · refine br1 c8 ?_
      have d9 := c_gt (x := (Int64.toInt b.toInt64)) (y := 2) rfl rfl c8
      refine br1 (by decide) ?_
      have k10 : Int32.toInt (-1) = (-1) := (by decide)
      have hR11 : digR (lawW w ls) w a.toInt b.toInt = (-1) := by unfold digR; (repeat' split) <;> omega
      exact hq _ _ _ _ _ _ _ _ _ _ _ ⟨(by decide), ⟨by omega, by omega⟩, ⟨by omega, by omega⟩, h_f_row, h_f_undos, h_f_sorts, hR11.symm, (by unfold digW; rw [if_pos (show digR (lawW w ls) w a.toInt b.toInt < 0 by omega)]; exact e_0), (by unfold rmU; rw [if_pos (show digR (lawW w ls) w a.toInt b.toInt < 0 by omega)]; exact e_1), e_2, (fun j _ => rfl)⟩
    · refine br0 c8 ?_
      have d12 := c_ngt (x := (Int64.toInt b.toInt64)) (y := 2) rfl rfl c8
      refine br0 (by decide) ?_
      refine o_X12_isShaft _ _ _ ?_
      refine o_X12_in _ _ _ _ ?_
      by_cases c13 : (lg_cmp a.toInt64 0) < 0
      · refine br1 c13 ?_
        have t14 : (Int64.toInt a.toInt64) = (Int32.toInt a) := i2l_z rfl
        have d15 := c_lt (x := (Int64.toInt a.toInt64)) (y := 0) rfl rfl c13
        refine br1 (by decide) ?_
        have k16 : Int32.toInt (-2) = (-2) := (by decide)
        have hR17 : digR (lawW w ls) w a.toInt b.toInt = (-2) := by unfold digR; (repeat' split) <;> omega
        exact hq _ _ _ _ _ _ _ _ _ _ _ ⟨(by decide), ⟨by omega, by omega⟩, ⟨by omega, by omega⟩, h_f_row, h_f_undos, h_f_sorts, hR17.symm, (by unfold digW; rw [if_pos (show digR (lawW w ls) w a.toInt b.toInt < 0 by omega)]; exact e_0), (by unfold rmU; rw [if_pos (show digR (lawW w ls) w a.toInt b.toInt < 0 by omega)]; exact e_1), e_2, (fun j _ => rfl)⟩
      · refine br0 c13 ?_
        have t18 : (Int64.toInt a.toInt64) = (Int32.toInt a) := i2l_z rfl
        have d19 := c_nlt (x := (Int64.toInt a.toInt64)) (y := 0) rfl rfl c13
        by_cases c20 : 0 < (lg_cmp a.toInt64 ((f_row (0 : Int32).toNatClampNeg).toInt64 - 1))
        · refine br1 c20 ?_
          have g21 : 0 ≤ (Int32.toInt (f_row (0 : Int32).toNatClampNeg)) ∧ (Int32.toInt (f_row (0 : Int32).toNatClampNeg)) ≤ 6 := RLW.at_0 h_f_row (rfl : ((0 : Nat) : Int) = 0) (by omega) (by omega)
          have t22 : (Int32.toInt (f_row (0 : Int32).toNatClampNeg)) = w (0) := RMw.z e_0 (i := 0) rfl (by omega)
          have t23 : (Int64.toInt (f_row (0 : Int32).toNatClampNeg).toInt64) = (Int32.toInt (f_row (0 : Int32).toNatClampNeg)) := i2l_z rfl
          have t24 : (Int64.toInt ((f_row (0 : Int32).toNatClampNeg).toInt64 - 1)) = (Int64.toInt (f_row (0 : Int32).toNatClampNeg).toInt64) - 1 := lsub_z rfl rfl (by omega) (by omega)
          have d25 := c_gt (x := (Int64.toInt a.toInt64)) (y := (Int64.toInt ((f_row (0 : Int32).toNatClampNeg).toInt64 - 1))) rfl rfl c20
          refine br1 (by decide) ?_
          have k26 : Int32.toInt (-2) = (-2) := (by decide)
          have hR27 : digR (lawW w ls) w a.toInt b.toInt = (-2) := by unfold digR; (repeat' split) <;> omega
          exact hq _ _ _ _ _ _ _ _ _ _ _ ⟨(by decide), ⟨by omega, by omega⟩, ⟨by omega, by omega⟩, h_f_row, h_f_undos, h_f_sorts, hR27.symm, (by unfold digW; rw [if_pos (show digR (lawW w ls) w a.toInt b.toInt < 0 by omega)]; exact e_0), (by unfold rmU; rw [if_pos (show digR (lawW w ls) w a.toInt b.toInt < 0 by omega)]; exact e_1), e_2, (fun j _ => rfl)⟩
        · refine br0 c20 ?_
          have g28 : 0 ≤ (Int32.toInt (f_row (0 : Int32).toNatClampNeg)) ∧ (Int32.toInt (f_row (0 : Int32).toNatClampNeg)) ≤ 6 := RLW.at_0 h_f_row (rfl : ((0 : Nat) : Int) = 0) (by omega) (by omega)
          have t29 : (Int32.toInt (f_row (0 : Int32).toNatClampNeg)) = w (0) := RMw.z e_0 (i := 0) rfl (by omega)
          have t30 : (Int64.toInt (f_row (0 : Int32).toNatClampNeg).toInt64) = (Int32.toInt (f_row (0 : Int32).toNatClampNeg)) := i2l_z rfl
          have t31 : (Int64.toInt ((f_row (0 : Int32).toNatClampNeg).toInt64 - 1)) = (Int64.toInt (f_row (0 : Int32).toNatClampNeg).toInt64) - 1 := lsub_z rfl rfl (by omega) (by omega)
          have d32 := c_ngt (x := (Int64.toInt a.toInt64)) (y := (Int64.toInt ((f_row (0 : Int32).toNatClampNeg).toInt64 - 1))) rfl rfl c20
          refine br0 (by decide) ?_
          refine o_X12_canDig _ _ _ _ _ _ _ _ _ _ _ _ _ _ ?_
          have t33 : (Int32.toInt (10 + a)) = 10 + (Int32.toInt a) := add_z rfl rfl (by omega) (by omega)
          refine ⟨vpi (x := (Int32.toInt (10 + a))) rfl (by omega) (by omega), ?_⟩
          have g35 : 0 ≤ (Int32.toInt (f_row (10 + a).toNatClampNeg)) ∧ (Int32.toInt (f_row (10 + a).toNatClampNeg)) ≤ 39 := RLW.at_10 h_f_row (tnz (x := (Int32.toInt (10 + a))) rfl (by omega)) (by omega) (by omega)
          have t36 : (Int32.toInt (f_row (10 + a).toNatClampNeg)) = w (10 + ((Int32.toInt a)).toNat) := RMw.z e_0 (i := 10 + ((Int32.toInt a)).toNat) (show Int.toNat _ = _ by omega) (by omega)
          refine z_cellBy (z := w (10 + ((Int32.toInt a)).toNat)) (by omega) ⟨by omega, by omega⟩ ⟨by omega, by omega⟩ (fun r34 H37 => ?_)
          have j39 := H37.1
          have j38 := H37.2
          refine o_X12_mayDig _ _ _ ?_
          refine o_X12_isSpoilt _ _ _ ?_
          refine ⟨vpi (x := (Int32.toInt (10 + a))) rfl (by omega) (by omega), ?_⟩
          have t40 : (Int32.toInt (113 + (f_row (10 + a).toNatClampNeg))) = 113 + (Int32.toInt (f_row (10 + a).toNatClampNeg)) := add_z rfl rfl (by omega) (by omega)
          refine ⟨vpi (x := (Int32.toInt (113 + (f_row (10 + a).toNatClampNeg)))) rfl (by omega) (by omega), ?_⟩
          by_cases c41 : (f_row (113 + (f_row (10 + a).toNatClampNeg)).toNatClampNeg) = 2
          · refine br1 c41 ?_
            have g42 : 0 ≤ (Int32.toInt (f_row (113 + (f_row (10 + a).toNatClampNeg)).toNatClampNeg)) ∧ (Int32.toInt (f_row (113 + (f_row (10 + a).toNatClampNeg)).toNatClampNeg)) ≤ 3 := RLW.at_113 h_f_row (tnz (x := (Int32.toInt (113 + (f_row (10 + a).toNatClampNeg)))) rfl (by omega)) (by omega) (by omega)
            have t43 : (Int32.toInt (f_row (113 + (f_row (10 + a).toNatClampNeg)).toNatClampNeg)) = w (113 + (w (10 + ((Int32.toInt a)).toNat)).toNat) := RMw.z e_0 (i := 113 + (w (10 + ((Int32.toInt a)).toNat)).toNat) (show Int.toNat _ = _ by omega) (by omega)
            have d44 := eq_z (x := (Int32.toInt (f_row (113 + (f_row (10 + a).toNatClampNeg)).toNatClampNeg))) (y := 2) rfl rfl c41
            refine br0 (by decide) ?_
            refine br1 (by decide) ?_
            refine un6_i ?_
            refine br1 (by decide) ?_
            have k45 : Int32.toInt (-3) = (-3) := (by decide)
            have hR46 : digR (lawW w ls) w a.toInt b.toInt = (-3) := by unfold digR; rw [← j38]; (repeat' split) <;> omega
            exact hq _ _ _ _ _ _ _ _ _ _ _ ⟨(by decide), ⟨by omega, by omega⟩, ⟨by omega, by omega⟩, h_f_row, h_f_undos, h_f_sorts, hR46.symm, (by unfold digW; rw [if_pos (show digR (lawW w ls) w a.toInt b.toInt < 0 by omega)]; exact e_0), (by unfold rmU; rw [if_pos (show digR (lawW w ls) w a.toInt b.toInt < 0 by omega)]; exact e_1), e_2, (fun j _ => rfl)⟩
          · refine br0 c41 ?_
            have g47 : 0 ≤ (Int32.toInt (f_row (113 + (f_row (10 + a).toNatClampNeg)).toNatClampNeg)) ∧ (Int32.toInt (f_row (113 + (f_row (10 + a).toNatClampNeg)).toNatClampNeg)) ≤ 3 := RLW.at_113 h_f_row (tnz (x := (Int32.toInt (113 + (f_row (10 + a).toNatClampNeg)))) rfl (by omega)) (by omega) (by omega)
            have t48 : (Int32.toInt (f_row (113 + (f_row (10 + a).toNatClampNeg)).toNatClampNeg)) = w (113 + (w (10 + ((Int32.toInt a)).toNat)).toNat) := RMw.z e_0 (i := 113 + (w (10 + ((Int32.toInt a)).toNat)).toNat) (show Int.toNat _ = _ by omega) (by omega)
            have d49 := ne_z (x := (Int32.toInt (f_row (113 + (f_row (10 + a).toNatClampNeg)).toNatClampNeg))) (y := 2) rfl rfl c41
            refine br1 (by decide) ?_
            refine o_X12_hasFound _ _ _ ?_
            refine ⟨vpi (x := (Int32.toInt (10 + a))) rfl (by omega) (by omega), ?_⟩
            refine ⟨vpi (x := (Int32.toInt (113 + (f_row (10 + a).toNatClampNeg)))) rfl (by omega) (by omega), ?_⟩
            by_cases c50 : (f_row (113 + (f_row (10 + a).toNatClampNeg)).toNatClampNeg) = 3
            · refine br1 c50 ?_
              have d51 := eq_z (x := (Int32.toInt (f_row (113 + (f_row (10 + a).toNatClampNeg)).toNatClampNeg))) (y := 3) rfl rfl c50
              refine br0 (by decide) ?_
              refine br1 (by decide) ?_
              refine un6_i ?_
              refine br1 (by decide) ?_
              have k52 : Int32.toInt (-3) = (-3) := (by decide)
              have hR53 : digR (lawW w ls) w a.toInt b.toInt = (-3) := by unfold digR; rw [← j38]; (repeat' split) <;> omega
              exact hq _ _ _ _ _ _ _ _ _ _ _ ⟨(by decide), ⟨by omega, by omega⟩, ⟨by omega, by omega⟩, h_f_row, h_f_undos, h_f_sorts, hR53.symm, (by unfold digW; rw [if_pos (show digR (lawW w ls) w a.toInt b.toInt < 0 by omega)]; exact e_0), (by unfold rmU; rw [if_pos (show digR (lawW w ls) w a.toInt b.toInt < 0 by omega)]; exact e_1), e_2, (fun j _ => rfl)⟩
            · refine br0 c50 ?_
              have d54 := ne_z (x := (Int32.toInt (f_row (113 + (f_row (10 + a).toNatClampNeg)).toNatClampNeg))) (y := 3) rfl rfl c50
              refine br1 (by decide) ?_
              refine br0 (by decide) ?_
              by_cases c55 : r34 = (-1)
              · refine br1 c55 ?_
                have d56 := eq_z (x := (Int32.toInt r34)) (y := (-1)) rfl (by decide) c55
                refine un6_i ?_
                refine br1 (by decide) ?_
                have k57 : Int32.toInt (-3) = (-3) := (by decide)
                have hR58 : digR (lawW w ls) w a.toInt b.toInt = (-3) := by unfold digR; rw [← j38]; (repeat' split) <;> omega
                exact hq _ _ _ _ _ _ _ _ _ _ _ ⟨(by decide), ⟨by omega, by omega⟩, ⟨by omega, by omega⟩, h_f_row, h_f_undos, h_f_sorts, hR58.symm, (by unfold digW; rw [if_pos (show digR (lawW w ls) w a.toInt b.toInt < 0 by omega)]; exact e_0), (by unfold rmU; rw [if_pos (show digR (lawW w ls) w a.toInt b.toInt < 0 by omega)]; exact e_1), e_2, (fun j _ => rfl)⟩
              · refine br0 c55 ?_
                have d59 := ne_z (x := (Int32.toInt r34)) (y := (-1)) rfl (by decide) c55
                have t60 : (Int32.toInt (33 + r34)) = 33 + (Int32.toInt r34) := add_z rfl rfl (by omega) (by omega)
                refine ⟨vpi (x := (Int32.toInt (33 + r34))) rfl (by omega) (by omega), ?_⟩
                by_cases c61 : (f_row (33 + r34).toNatClampNeg) = 0
                · refine br1 c61 ?_
                  have g62 : 0 ≤ (Int32.toInt (f_row (33 + r34).toNatClampNeg)) ∧ (Int32.toInt (f_row (33 + r34).toNatClampNeg)) ≤ 1 := RLW.at_33 h_f_row (tnz (x := (Int32.toInt (33 + r34))) rfl (by omega)) (by omega) (by omega)
                  have t63 : (Int32.toInt (f_row (33 + r34).toNatClampNeg)) = w (33 + ((Int32.toInt r34)).toNat) := RMw.z e_0 (i := 33 + ((Int32.toInt r34)).toNat) (show Int.toNat _ = _ by omega) (by omega)
                  have d64 := eq_z (x := (Int32.toInt (f_row (33 + r34).toNatClampNeg))) (y := 0) rfl rfl c61
                  refine z_mpass e_2 e_0 h_f_row ⟨by omega, by omega⟩ ⟨by omega, by omega⟩ (fun r65 q66 q67 q68 q69 q70 q71 H72 => ?_)
                  have j73 := H72.1
                  have j74 := H72.2.1
                  have j75 := H72.2.2
                  refine un6_i ?_
                  by_cases c76 : r65 = 0
                  · refine br1 c76 ?_
                    have d77 := eq_z (x := (Int32.toInt r65)) (y := 0) rfl rfl c76
                    refine un6_i ?_
                    refine br1 (by decide) ?_
                    have k78 : Int32.toInt (-3) = (-3) := (by decide)
                    have hR79 : digR (lawW w ls) w a.toInt b.toInt = (-3) := by unfold digR; rw [← j38]; (repeat' split) <;> omega
                    exact hq _ _ _ _ _ _ _ _ _ _ _ ⟨(by decide), ⟨by omega, by omega⟩, ⟨by omega, by omega⟩, h_f_row, h_f_undos, h_f_sorts, hR79.symm, (by unfold digW; rw [if_pos (show digR (lawW w ls) w a.toInt b.toInt < 0 by omega)]; exact e_0), (by unfold rmU; rw [if_pos (show digR (lawW w ls) w a.toInt b.toInt < 0 by omega)]; exact e_1), e_2, (fun j _ => rfl)⟩
                  · refine br0 c76 ?_
                    have d80 := ne_z (x := (Int32.toInt r65)) (y := 0) rfl rfl c76
                    refine z_mdigs e_2 e_0 h_f_row ⟨by omega, by omega⟩ ⟨by omega, by omega⟩ (fun r81 q82 q83 q84 q85 q86 q87 H88 => ?_)
                    have j89 := H88.1
                    have j90 := H88.2.1
                    have j91 := H88.2.2
                    refine un6_i ?_
                    by_cases c92 : 9999 < ((f_row (7 : Int32).toNatClampNeg) + r81)
                    · refine br1 c92 ?_
                      have g93 : 0 ≤ (Int32.toInt (f_row (7 : Int32).toNatClampNeg)) ∧ (Int32.toInt (f_row (7 : Int32).toNatClampNeg)) ≤ 9999 := RLW.at_7 h_f_row (rfl : ((7 : Nat) : Int) = 7) (by omega) (by omega)
                      have t94 : (Int32.toInt (f_row (7 : Int32).toNatClampNeg)) = w (7) := RMw.z e_0 (i := 7) rfl (by omega)
                      have t95 : (Int32.toInt ((f_row (7 : Int32).toNatClampNeg) + r81)) = (Int32.toInt (f_row (7 : Int32).toNatClampNeg)) + (Int32.toInt r81) := add_z rfl rfl (by omega) (by omega)
                      have d96 := lt_z (x := 9999) (y := (Int32.toInt ((f_row (7 : Int32).toNatClampNeg) + r81))) rfl rfl c92
                      refine un6_i ?_
                      refine br1 (by decide) ?_
                      have k97 : Int32.toInt (-3) = (-3) := (by decide)
                      have hR98 : digR (lawW w ls) w a.toInt b.toInt = (-3) := by unfold digR; rw [← j38]; (repeat' split) <;> omega
                      exact hq _ _ _ _ _ _ _ _ _ _ _ ⟨(by decide), ⟨by omega, by omega⟩, ⟨by omega, by omega⟩, h_f_row, h_f_undos, h_f_sorts, hR98.symm, (by unfold digW; rw [if_pos (show digR (lawW w ls) w a.toInt b.toInt < 0 by omega)]; exact e_0), (by unfold rmU; rw [if_pos (show digR (lawW w ls) w a.toInt b.toInt < 0 by omega)]; exact e_1), e_2, (fun j _ => rfl)⟩
                    · refine br0 c92 ?_
                      have g99 : 0 ≤ (Int32.toInt (f_row (7 : Int32).toNatClampNeg)) ∧ (Int32.toInt (f_row (7 : Int32).toNatClampNeg)) ≤ 9999 := RLW.at_7 h_f_row (rfl : ((7 : Nat) : Int) = 7) (by omega) (by omega)
                      have t100 : (Int32.toInt (f_row (7 : Int32).toNatClampNeg)) = w (7) := RMw.z e_0 (i := 7) rfl (by omega)
                      have t101 : (Int32.toInt ((f_row (7 : Int32).toNatClampNeg) + r81)) = (Int32.toInt (f_row (7 : Int32).toNatClampNeg)) + (Int32.toInt r81) := add_z rfl rfl (by omega) (by omega)
                      have d102 := nlt_z (x := 9999) (y := (Int32.toInt ((f_row (7 : Int32).toNatClampNeg) + r81))) rfl rfl c92
                      refine un6_i ?_
                      refine br0 (by decide) ?_
                      have k106 : Int32.toInt 0 = 0 := rfl
                      refine s_X12_rememberz 0 h0_nUndo (f_undos) (f_sorts) (f_row) ⟨by decide, by decide⟩ h_h0_nUndo h_f_undos h_f_sorts h_f_row e_0 e_1 (fun u103 u104 u105 H107 => ?_)
                      have j108 := H107.1
                      have j109 := H107.2.1
                      have j110 := H107.2.2.1
                      have j111 := H107.2.2.2.1
                      have j112 := H107.2.2.2.2
                      refine un3_i ?_
                      refine o_X12_digIt _ _ _ _ _ _ _ _ _ _ _ _ _ _ ?_
                      refine ⟨vpi (x := (Int32.toInt (10 + a))) rfl (by omega) (by omega), ?_⟩
                      refine z_cellBy (z := w (10 + ((Int32.toInt a)).toNat)) (by omega) ⟨by omega, by omega⟩ ⟨by omega, by omega⟩ (fun r113 H114 => ?_)
                      have j116 := H114.1
                      have j115 := H114.2
                      have j117 : (Int32.toInt r113) = (Int32.toInt r34) := by rw [j115, j38]
                      refine z_mdigs e_2 e_0 h_f_row ⟨by omega, by omega⟩ ⟨by omega, by omega⟩ (fun r118 q119 q120 q121 q122 q123 q124 H125 => ?_)
                      have j126 := H125.1
                      have j127 := H125.2.1
                      have j128 := H125.2.2
                      rw [show (Int32.toInt r113) = (Int32.toInt r34) by omega] at j127
                      refine un6_i ?_
                      have t129 : (Int32.toInt (33 + r113)) = 33 + (Int32.toInt r113) := add_z rfl rfl (by omega) (by omega)
                      refine ⟨vpi (x := (Int32.toInt (33 + r113))) rfl (by omega) (by omega), ?_⟩
                      refine ⟨vpi (x := (Int32.toInt (10 + a))) rfl (by omega) (by omega), ?_⟩
                      refine un7_i ?_
                      have t130 := i32_hi r113
                      have t131 : (Int32.toInt ((f_row (7 : Int32).toNatClampNeg) + r118)) = (Int32.toInt (f_row (7 : Int32).toNatClampNeg)) + (Int32.toInt r118) := add_z rfl rfl (by omega) (by omega)
                      have R132 : RLW (upd f_row 7 ((f_row (7 : Int32).toNatClampNeg) + r118)) := RLW.up_7 h_f_row (rfl : ((7 : Nat) : Int) = 7) (by omega) (by omega) (w := (Int32.toInt ((f_row (7 : Int32).toNatClampNeg) + r118))) rfl (by omega) (by omega)
                      have R133 : RLW (upd (upd f_row 7 ((f_row (7 : Int32).toNatClampNeg) + r118)) (33 + r113).toNatClampNeg 1) := RLW.up_33 R132 (tnz (x := (Int32.toInt (33 + r113))) rfl (by omega)) (by omega) (by omega) (w := 1) rfl (by omega) (by omega)
                      have R134 : RLW (upd (upd (upd f_row 7 ((f_row (7 : Int32).toNatClampNeg) + r118)) (33 + r113).toNatClampNeg 1) (10 + a).toNatClampNeg r113) := RLW.up_10 R133 (tnz (x := (Int32.toInt (10 + a))) rfl (by omega)) (by omega) (by omega) (w := (Int32.toInt r113)) rfl (by omega) (by omega)
                      have hR135 : digR (lawW w ls) w a.toInt b.toInt = (Int32.toInt r113) := by unfold digR; rw [← j38]; (repeat' split) <;> omega
                      have k136 : Int32.toInt 1 = 1 := rfl
                      exact hq _ _ _ _ _ _ _ _ _ _ _ ⟨⟨by omega, by omega⟩, ⟨by omega, by omega⟩, ⟨by omega, by omega⟩, R134, j109, j110, hR135.symm, (by unfold digW; rw [if_neg (show ¬ digR (lawW w ls) w a.toInt b.toInt < 0 by omega)]; unfold digO; rw [← j38]; rw [← j127]; unfold digC; exact (RMw.up (RMw.up (RMw.up e_0 (by first | rfl | (show Int.toNat _ = _; omega)) (by first | rfl | omega | (split <;> omega))) (by first | rfl | (show Int.toNat _ = _; omega)) (by first | rfl | omega | (split <;> omega))) (by first | rfl | (show Int.toNat _ = _; omega)) (by first | rfl | omega | (split <;> omega)))), (by unfold rmU; rw [if_neg (show ¬ digR (lawW w ls) w a.toInt b.toInt < 0 by omega)]; exact j111), (RML.up (RML.up (RML.up e_2 (rfl : ((7 : Nat) : Int) = 7) (by omega) (by omega)) (tnz (x := (Int32.toInt (33 + r113))) rfl (by omega)) (by omega) (by omega)) (tnz (x := (Int32.toInt (10 + a))) rfl (by omega)) (by omega) (by omega)), j112⟩
                · refine br0 c61 ?_
                  have g137 : 0 ≤ (Int32.toInt (f_row (33 + r34).toNatClampNeg)) ∧ (Int32.toInt (f_row (33 + r34).toNatClampNeg)) ≤ 1 := RLW.at_33 h_f_row (tnz (x := (Int32.toInt (33 + r34))) rfl (by omega)) (by omega) (by omega)
                  have t138 : (Int32.toInt (f_row (33 + r34).toNatClampNeg)) = w (33 + ((Int32.toInt r34)).toNat) := RMw.z e_0 (i := 33 + ((Int32.toInt r34)).toNat) (show Int.toNat _ = _ by omega) (by omega)
                  have d139 := ne_z (x := (Int32.toInt (f_row (33 + r34).toNatClampNeg))) (y := 0) rfl rfl c61
                  refine un6_i ?_
                  refine br1 (by decide) ?_
                  have k140 : Int32.toInt (-3) = (-3) := (by decide)
                  have hR141 : digR (lawW w ls) w a.toInt b.toInt = (-3) := by unfold digR; rw [← j38]; (repeat' split) <;> omega
                  exact hq _ _ _ _ _ _ _ _ _ _ _ ⟨(by decide), ⟨by omega, by omega⟩, ⟨by omega, by omega⟩, h_f_row, h_f_undos, h_f_sorts, hR141.symm, (by unfold digW; rw [if_pos (show digR (lawW w ls) w a.toInt b.toInt < 0 by omega)]; exact e_0), (by unfold rmU; rw [if_pos (show digR (lawW w ls) w a.toInt b.toInt < 0 by omega)]; exact e_1), e_2, (fun j _ => rfl)⟩


set_option maxRecDepth 100000 in
theorem s_X12_haulNowz (a : Int32) (h0_nUndo : Int32) (h0_ordered : Int32) (h0_law : Int32) (h0_broken : Int32) (h0_value : Int64) (h0_sum : Int64) (f_row : Nat → Int32) (f_undos : Nat → Int32) (f_sorts : Nat → Int32) (f_set : Nat → Int64) (f_nOp : Nat → Int32) (f_nArg : Nat → Int32) (f_rest : Nat → Int64) (f_now : Nat → Int64) {w : Nat → Int} {U : UL} {ls : Nat → List Cls} (h_h0_nUndo : 0 ≤ h0_nUndo.toInt ∧ h0_nUndo.toInt ≤ 16) (h_h0_ordered : 0 ≤ h0_ordered.toInt ∧ h0_ordered.toInt ≤ 0) (h_h0_broken : 0 ≤ h0_broken.toInt ∧ h0_broken.toInt ≤ 1) (h_f_row : RLW f_row) (h_f_undos : UN f_undos) (h_f_sorts : SO f_sorts) (e_0 : RMw f_row w) (e_1 : RMu f_undos f_sorts h0_nUndo U) (e_2 : RML f_row ls) {Q : Int32 → (Int32 × Int32 × Int32 × Int64 × Int64 × (Nat → Int32) × (Nat → Int32) × (Nat → Int32) × (Nat → Int64) × (Nat → Int64)) → Prop} (hq : ∀ (r : Int32) (u_0 : Int32) (u_1 : Int32) (u_2 : Int32) (u_3 : Int64) (u_4 : Int64) (u_5 : Nat → Int32) (u_6 : Nat → Int32) (u_7 : Nat → Int32) (u_8 : Nat → Int64) (u_9 : Nat → Int64), ((-3) ≤ r.toInt ∧ r.toInt ≤ 2147483647) ∧ (0 ≤ u_0.toInt ∧ u_0.toInt ≤ 16) ∧ (0 ≤ u_2.toInt ∧ u_2.toInt ≤ 1) ∧ (RLW u_5) ∧ (UN u_6) ∧ (SO u_7) ∧ (r.toInt = haulR (lawW w ls) w a.toInt) ∧ (RMw u_5 (haulW (lawW w ls) w a.toInt)) ∧ (RMu u_6 u_7 u_0 (rmU (haulR (lawW w ls) w a.toInt) 1 w U)) ∧ (RML u_5 ls) ∧ (∀ j, 1696 ≤ j → u_6 j = f_undos j) → Q r (u_0, u_1, u_2, u_3, u_4, u_5, u_6, u_7, u_8, u_9)) : wp_X12_haulNow a h0_nUndo h0_ordered h0_law h0_broken h0_value h0_sum f_row f_undos f_sorts f_set f_nOp f_nArg f_rest f_now Q := by
  unfold wp_X12_haulNow
  obtain rfl : h0_ordered = 0 := z_eq (y := 0) rfl rfl (by omega)
  refine o_X12_isShaft _ _ _ ?_
  refine o_X12_in _ _ _ _ ?_
  by_cases c1 : (lg_cmp a.toInt64 0) < 0
  · refine br1 c1 ?_
    have t2 : (Int64.toInt a.toInt64) = (Int32.toInt a) := i2l_z rfl
    have d3 := c_lt (x := (Int64.toInt a.toInt64)) (y := 0) rfl rfl c1
    refine br1 (by decide) ?_
    have k4 : Int32.toInt (-2) = (-2) := (by decide)
    have hR5 : haulR (lawW w ls) w a.toInt = (-2) := by unfold haulR; (repeat' split) <;> omega
    exact hq _ _ _ _ _ _ _ _ _ _ _ ⟨(by decide), ⟨by omega, by omega⟩, ⟨by omega, by omega⟩, h_f_row, h_f_undos, h_f_sorts, hR5.symm, (by unfold haulW; rw [if_pos (show haulR (lawW w ls) w a.toInt < 0 by omega)]; exact e_0), (by unfold rmU; rw [if_pos (show haulR (lawW w ls) w a.toInt < 0 by omega)]; exact e_1), e_2, (fun j _ => rfl)⟩
  · refine br0 c1 ?_
    have t6 : (Int64.toInt a.toInt64) = (Int32.toInt a) := i2l_z rfl
    have d7 := c_nlt (x := (Int64.toInt a.toInt64)) (y := 0) rfl rfl c1
    by_cases c8 : 0 < (lg_cmp a.toInt64 ((f_row (0 : Int32).toNatClampNeg).toInt64 - 1))
    · refine br1 c8 ?_
      have g9 : 0 ≤ (Int32.toInt (f_row (0 : Int32).toNatClampNeg)) ∧ (Int32.toInt (f_row (0 : Int32).toNatClampNeg)) ≤ 6 := RLW.at_0 h_f_row (rfl : ((0 : Nat) : Int) = 0) (by omega) (by omega)
      have t10 : (Int32.toInt (f_row (0 : Int32).toNatClampNeg)) = w (0) := RMw.z e_0 (i := 0) rfl (by omega)
      have t11 : (Int64.toInt (f_row (0 : Int32).toNatClampNeg).toInt64) = (Int32.toInt (f_row (0 : Int32).toNatClampNeg)) := i2l_z rfl
      have t12 : (Int64.toInt ((f_row (0 : Int32).toNatClampNeg).toInt64 - 1)) = (Int64.toInt (f_row (0 : Int32).toNatClampNeg).toInt64) - 1 := lsub_z rfl rfl (by omega) (by omega)
      have d13 := c_gt (x := (Int64.toInt a.toInt64)) (y := (Int64.toInt ((f_row (0 : Int32).toNatClampNeg).toInt64 - 1))) rfl rfl c8
      refine br1 (by decide) ?_
      have k14 : Int32.toInt (-2) = (-2) := (by decide)
      have hR15 : haulR (lawW w ls) w a.toInt = (-2) := by unfold haulR; (repeat' split) <;> omega
      exact hq _ _ _ _ _ _ _ _ _ _ _ ⟨(by decide), ⟨by omega, by omega⟩, ⟨by omega, by omega⟩, h_f_row, h_f_undos, h_f_sorts, hR15.symm, (by unfold haulW; rw [if_pos (show haulR (lawW w ls) w a.toInt < 0 by omega)]; exact e_0), (by unfold rmU; rw [if_pos (show haulR (lawW w ls) w a.toInt < 0 by omega)]; exact e_1), e_2, (fun j _ => rfl)⟩
    · refine br0 c8 ?_
      have g16 : 0 ≤ (Int32.toInt (f_row (0 : Int32).toNatClampNeg)) ∧ (Int32.toInt (f_row (0 : Int32).toNatClampNeg)) ≤ 6 := RLW.at_0 h_f_row (rfl : ((0 : Nat) : Int) = 0) (by omega) (by omega)
      have t17 : (Int32.toInt (f_row (0 : Int32).toNatClampNeg)) = w (0) := RMw.z e_0 (i := 0) rfl (by omega)
      have t18 : (Int64.toInt (f_row (0 : Int32).toNatClampNeg).toInt64) = (Int32.toInt (f_row (0 : Int32).toNatClampNeg)) := i2l_z rfl
      have t19 : (Int64.toInt ((f_row (0 : Int32).toNatClampNeg).toInt64 - 1)) = (Int64.toInt (f_row (0 : Int32).toNatClampNeg).toInt64) - 1 := lsub_z rfl rfl (by omega) (by omega)
      have d20 := c_ngt (x := (Int64.toInt a.toInt64)) (y := (Int64.toInt ((f_row (0 : Int32).toNatClampNeg).toInt64 - 1))) rfl rfl c8
      refine br0 (by decide) ?_
      refine o_X12_canHaul _ _ _ ?_
      refine o_X12_hasFound _ _ _ ?_
      have t21 : (Int32.toInt (10 + a)) = 10 + (Int32.toInt a) := add_z rfl rfl (by omega) (by omega)
      refine ⟨vpi (x := (Int32.toInt (10 + a))) rfl (by omega) (by omega), ?_⟩
      have g22 : 0 ≤ (Int32.toInt (f_row (10 + a).toNatClampNeg)) ∧ (Int32.toInt (f_row (10 + a).toNatClampNeg)) ≤ 39 := RLW.at_10 h_f_row (tnz (x := (Int32.toInt (10 + a))) rfl (by omega)) (by omega) (by omega)
      have t23 : (Int32.toInt (f_row (10 + a).toNatClampNeg)) = w (10 + ((Int32.toInt a)).toNat) := RMw.z e_0 (i := 10 + ((Int32.toInt a)).toNat) (show Int.toNat _ = _ by omega) (by omega)
      have t24 : (Int32.toInt (113 + (f_row (10 + a).toNatClampNeg))) = 113 + (Int32.toInt (f_row (10 + a).toNatClampNeg)) := add_z rfl rfl (by omega) (by omega)
      refine ⟨vpi (x := (Int32.toInt (113 + (f_row (10 + a).toNatClampNeg)))) rfl (by omega) (by omega), ?_⟩
      by_cases c25 : (f_row (113 + (f_row (10 + a).toNatClampNeg)).toNatClampNeg) = 3
      · refine br1 c25 ?_
        have g26 : 0 ≤ (Int32.toInt (f_row (113 + (f_row (10 + a).toNatClampNeg)).toNatClampNeg)) ∧ (Int32.toInt (f_row (113 + (f_row (10 + a).toNatClampNeg)).toNatClampNeg)) ≤ 3 := RLW.at_113 h_f_row (tnz (x := (Int32.toInt (113 + (f_row (10 + a).toNatClampNeg)))) rfl (by omega)) (by omega) (by omega)
        have t27 : (Int32.toInt (f_row (113 + (f_row (10 + a).toNatClampNeg)).toNatClampNeg)) = w (113 + (w (10 + ((Int32.toInt a)).toNat)).toNat) := RMw.z e_0 (i := 113 + (w (10 + ((Int32.toInt a)).toNat)).toNat) (show Int.toNat _ = _ by omega) (by omega)
        have d28 := eq_z (x := (Int32.toInt (f_row (113 + (f_row (10 + a).toNatClampNeg)).toNatClampNeg))) (y := 3) rfl rfl c25
        refine br0 (by decide) ?_
        by_cases c29 : 9999 ≤ (f_row (7 : Int32).toNatClampNeg)
        · refine br1 c29 ?_
          have g30 : 0 ≤ (Int32.toInt (f_row (7 : Int32).toNatClampNeg)) ∧ (Int32.toInt (f_row (7 : Int32).toNatClampNeg)) ≤ 9999 := RLW.at_7 h_f_row (rfl : ((7 : Nat) : Int) = 7) (by omega) (by omega)
          have t31 : (Int32.toInt (f_row (7 : Int32).toNatClampNeg)) = w (7) := RMw.z e_0 (i := 7) rfl (by omega)
          have d32 := le_z (x := 9999) (y := (Int32.toInt (f_row (7 : Int32).toNatClampNeg))) rfl rfl c29
          refine br1 (by decide) ?_
          have k33 : Int32.toInt (-3) = (-3) := (by decide)
          have hR34 : haulR (lawW w ls) w a.toInt = (-3) := by unfold haulR; (repeat' split) <;> omega
          exact hq _ _ _ _ _ _ _ _ _ _ _ ⟨(by decide), ⟨by omega, by omega⟩, ⟨by omega, by omega⟩, h_f_row, h_f_undos, h_f_sorts, hR34.symm, (by unfold haulW; rw [if_pos (show haulR (lawW w ls) w a.toInt < 0 by omega)]; exact e_0), (by unfold rmU; rw [if_pos (show haulR (lawW w ls) w a.toInt < 0 by omega)]; exact e_1), e_2, (fun j _ => rfl)⟩
        · refine br0 c29 ?_
          have g35 : 0 ≤ (Int32.toInt (f_row (7 : Int32).toNatClampNeg)) ∧ (Int32.toInt (f_row (7 : Int32).toNatClampNeg)) ≤ 9999 := RLW.at_7 h_f_row (rfl : ((7 : Nat) : Int) = 7) (by omega) (by omega)
          have t36 : (Int32.toInt (f_row (7 : Int32).toNatClampNeg)) = w (7) := RMw.z e_0 (i := 7) rfl (by omega)
          have d37 := nle_z (x := 9999) (y := (Int32.toInt (f_row (7 : Int32).toNatClampNeg))) rfl rfl c29
          refine br0 (by decide) ?_
          have k41 : Int32.toInt 1 = 1 := rfl
          refine s_X12_rememberz 1 h0_nUndo (f_undos) (f_sorts) (f_row) ⟨by decide, by decide⟩ h_h0_nUndo h_f_undos h_f_sorts h_f_row e_0 e_1 (fun u38 u39 u40 H42 => ?_)
          have j43 := H42.1
          have j44 := H42.2.1
          have j45 := H42.2.2.1
          have j46 := H42.2.2.2.1
          have j47 := H42.2.2.2.2
          refine un3_i ?_
          refine o_X12_haulIt _ _ _ _ _ _ _ _ _ _ _ _ _ ?_
          refine ⟨vpi (x := (Int32.toInt (10 + a))) rfl (by omega) (by omega), ?_⟩
          refine z_mgives e_2 e_0 h_f_row ⟨by omega, by omega⟩ ⟨by omega, by omega⟩ (fun r48 q49 q50 q51 q52 q53 q54 H55 => ?_)
          have j56 := H55.1
          have j57 := H55.2.1
          have j58 := H55.2.2.1
          have j59 := H55.2.2.2
          rw [show (Int32.toInt (f_row (10 + a).toNatClampNeg)) = w (10 + ((Int32.toInt a)).toNat) by omega] at j57
          rw [show (Int32.toInt (f_row (10 + a).toNatClampNeg)) = w (10 + ((Int32.toInt a)).toNat) by omega] at j58
          refine un6_i ?_
          refine ⟨vpi (x := (Int32.toInt (10 + a))) rfl (by omega) (by omega), ?_⟩
          have t60 : (Int32.toInt (73 + (f_row (10 + a).toNatClampNeg))) = 73 + (Int32.toInt (f_row (10 + a).toNatClampNeg)) := add_z rfl rfl (by omega) (by omega)
          refine ⟨vpi (x := (Int32.toInt (73 + (f_row (10 + a).toNatClampNeg)))) rfl (by omega) (by omega), ?_⟩
          refine ⟨vpi (x := (Int32.toInt (73 + (f_row (10 + a).toNatClampNeg)))) rfl (by omega) (by omega), ?_⟩
          have t61 : (Int32.toInt (16 + a)) = 16 + (Int32.toInt a) := add_z rfl rfl (by omega) (by omega)
          refine ⟨vpi (x := (Int32.toInt (16 + a))) rfl (by omega) (by omega), ?_⟩
          refine o_X12_within _ _ _ _ ?_
          have g62 : 0 ≤ (Int32.toInt (f_row (16 + a).toNatClampNeg)) ∧ (Int32.toInt (f_row (16 + a).toNatClampNeg)) ≤ 9999 := RLW.at_16 h_f_row (tnz (x := (Int32.toInt (16 + a))) rfl (by omega)) (by omega) (by omega)
          have t63 : (Int32.toInt (f_row (16 + a).toNatClampNeg)) = w (16 + ((Int32.toInt a)).toNat) := RMw.z e_0 (i := 16 + ((Int32.toInt a)).toNat) (show Int.toNat _ = _ by omega) (by omega)
          have t64 : (Int32.toInt ((upd f_row (73 + (f_row (10 + a).toNatClampNeg)).toNatClampNeg ((f_row (73 + (f_row (10 + a).toNatClampNeg)).toNatClampNeg) - r48)) (16 + a).toNatClampNeg)) = (Int32.toInt (f_row (16 + a).toNatClampNeg)) := congrArg Int32.toInt (pk_un (ne_n (tnz (x := (Int32.toInt (16 + a))) rfl (by omega)) (tnz (x := (Int32.toInt (73 + (f_row (10 + a).toNatClampNeg)))) rfl (by omega)) (by omega)))
          have t65 : (Int32.toInt (((upd f_row (73 + (f_row (10 + a).toNatClampNeg)).toNatClampNeg ((f_row (73 + (f_row (10 + a).toNatClampNeg)).toNatClampNeg) - r48)) (16 + a).toNatClampNeg) + r48)) = (Int32.toInt ((upd f_row (73 + (f_row (10 + a).toNatClampNeg)).toNatClampNeg ((f_row (73 + (f_row (10 + a).toNatClampNeg)).toNatClampNeg) - r48)) (16 + a).toNatClampNeg)) + (Int32.toInt r48) := add_z rfl rfl (by omega) (by omega)
          have t66 : (Int64.toInt (((upd f_row (73 + (f_row (10 + a).toNatClampNeg)).toNatClampNeg ((f_row (73 + (f_row (10 + a).toNatClampNeg)).toNatClampNeg) - r48)) (16 + a).toNatClampNeg) + r48).toInt64) = (Int32.toInt (((upd f_row (73 + (f_row (10 + a).toNatClampNeg)).toNatClampNeg ((f_row (73 + (f_row (10 + a).toNatClampNeg)).toNatClampNeg) - r48)) (16 + a).toNatClampNeg) + r48)) := i2l_z rfl
          refine br1 (k_ge (x := (Int64.toInt (((upd f_row (73 + (f_row (10 + a).toNatClampNeg)).toNatClampNeg ((f_row (73 + (f_row (10 + a).toNatClampNeg)).toNatClampNeg) - r48)) (16 + a).toNatClampNeg) + r48).toInt64)) (y := 0) rfl rfl (by omega)) ?_
          by_cases c67 : (lg_cmp (((upd f_row (73 + (f_row (10 + a).toNatClampNeg)).toNatClampNeg ((f_row (73 + (f_row (10 + a).toNatClampNeg)).toNatClampNeg) - r48)) (16 + a).toNatClampNeg) + r48).toInt64 ((9999 : Int32).toInt64 : Int64)) ≤ 0
          · refine br1 c67 ?_
            have d68 := c_le (x := (Int64.toInt (((upd f_row (73 + (f_row (10 + a).toNatClampNeg)).toNatClampNeg ((f_row (73 + (f_row (10 + a).toNatClampNeg)).toNatClampNeg) - r48)) (16 + a).toNatClampNeg) + r48).toInt64)) (y := 9999) rfl rfl c67
            refine ⟨vpi (x := (Int32.toInt (16 + a))) rfl (by omega) (by omega), ?_⟩
            refine un7_i ?_
            have t69 := i32_hi r48
            have g70 : 0 ≤ (Int32.toInt (f_row (73 + (f_row (10 + a).toNatClampNeg)).toNatClampNeg)) ∧ (Int32.toInt (f_row (73 + (f_row (10 + a).toNatClampNeg)).toNatClampNeg)) ≤ 99 := RLW.at_73 h_f_row (tnz (x := (Int32.toInt (73 + (f_row (10 + a).toNatClampNeg)))) rfl (by omega)) (by omega) (by omega)
            have t71 : (Int32.toInt (f_row (73 + (f_row (10 + a).toNatClampNeg)).toNatClampNeg)) = w (73 + (w (10 + ((Int32.toInt a)).toNat)).toNat) := RMw.z e_0 (i := 73 + (w (10 + ((Int32.toInt a)).toNat)).toNat) (show Int.toNat _ = _ by omega) (by omega)
            have t72 : (Int32.toInt ((f_row (73 + (f_row (10 + a).toNatClampNeg)).toNatClampNeg) - r48)) = (Int32.toInt (f_row (73 + (f_row (10 + a).toNatClampNeg)).toNatClampNeg)) - (Int32.toInt r48) := sub_z rfl rfl (by omega) (by omega)
            have R73 : RLW (upd f_row (73 + (f_row (10 + a).toNatClampNeg)).toNatClampNeg ((f_row (73 + (f_row (10 + a).toNatClampNeg)).toNatClampNeg) - r48)) := RLW.up_73 h_f_row (tnz (x := (Int32.toInt (73 + (f_row (10 + a).toNatClampNeg)))) rfl (by omega)) (by omega) (by omega) (w := (Int32.toInt ((f_row (73 + (f_row (10 + a).toNatClampNeg)).toNatClampNeg) - r48))) rfl (by omega) (by omega)
            have t74 : (Int32.toInt (((upd f_row (73 + (f_row (10 + a).toNatClampNeg)).toNatClampNeg ((f_row (73 + (f_row (10 + a).toNatClampNeg)).toNatClampNeg) - r48)) (16 + a).toNatClampNeg) + r48).toInt64.toInt32) = (Int64.toInt (((upd f_row (73 + (f_row (10 + a).toNatClampNeg)).toNatClampNeg ((f_row (73 + (f_row (10 + a).toNatClampNeg)).toNatClampNeg) - r48)) (16 + a).toNatClampNeg) + r48).toInt64) := l2i_z rfl (by omega) (by omega)
            have R75 : RLW (upd (upd f_row (73 + (f_row (10 + a).toNatClampNeg)).toNatClampNeg ((f_row (73 + (f_row (10 + a).toNatClampNeg)).toNatClampNeg) - r48)) (16 + a).toNatClampNeg (((upd f_row (73 + (f_row (10 + a).toNatClampNeg)).toNatClampNeg ((f_row (73 + (f_row (10 + a).toNatClampNeg)).toNatClampNeg) - r48)) (16 + a).toNatClampNeg) + r48).toInt64.toInt32) := RLW.up_16 R73 (tnz (x := (Int32.toInt (16 + a))) rfl (by omega)) (by omega) (by omega) (w := (Int32.toInt (((upd f_row (73 + (f_row (10 + a).toNatClampNeg)).toNatClampNeg ((f_row (73 + (f_row (10 + a).toNatClampNeg)).toNatClampNeg) - r48)) (16 + a).toNatClampNeg) + r48).toInt64.toInt32)) rfl (by omega) (by omega)
            have t76 : (Int32.toInt ((upd f_row (73 + (f_row (10 + a).toNatClampNeg)).toNatClampNeg ((f_row (73 + (f_row (10 + a).toNatClampNeg)).toNatClampNeg) - r48)) (7 : Int32).toNatClampNeg)) = (Int32.toInt (f_row (7 : Int32).toNatClampNeg)) := congrArg Int32.toInt (pk_un (ne_n (rfl : ((7 : Nat) : Int) = 7) (tnz (x := (Int32.toInt (73 + (f_row (10 + a).toNatClampNeg)))) rfl (by omega)) (by omega)))
            have t77 : (Int32.toInt ((upd (upd f_row (73 + (f_row (10 + a).toNatClampNeg)).toNatClampNeg ((f_row (73 + (f_row (10 + a).toNatClampNeg)).toNatClampNeg) - r48)) (16 + a).toNatClampNeg (((upd f_row (73 + (f_row (10 + a).toNatClampNeg)).toNatClampNeg ((f_row (73 + (f_row (10 + a).toNatClampNeg)).toNatClampNeg) - r48)) (16 + a).toNatClampNeg) + r48).toInt64.toInt32) (7 : Int32).toNatClampNeg)) = (Int32.toInt ((upd f_row (73 + (f_row (10 + a).toNatClampNeg)).toNatClampNeg ((f_row (73 + (f_row (10 + a).toNatClampNeg)).toNatClampNeg) - r48)) (7 : Int32).toNatClampNeg)) := congrArg Int32.toInt (pk_un (ne_n (rfl : ((7 : Nat) : Int) = 7) (tnz (x := (Int32.toInt (16 + a))) rfl (by omega)) (by omega)))
            have t78 : (Int32.toInt (((upd (upd f_row (73 + (f_row (10 + a).toNatClampNeg)).toNatClampNeg ((f_row (73 + (f_row (10 + a).toNatClampNeg)).toNatClampNeg) - r48)) (16 + a).toNatClampNeg (((upd f_row (73 + (f_row (10 + a).toNatClampNeg)).toNatClampNeg ((f_row (73 + (f_row (10 + a).toNatClampNeg)).toNatClampNeg) - r48)) (16 + a).toNatClampNeg) + r48).toInt64.toInt32) (7 : Int32).toNatClampNeg) + 1)) = (Int32.toInt ((upd (upd f_row (73 + (f_row (10 + a).toNatClampNeg)).toNatClampNeg ((f_row (73 + (f_row (10 + a).toNatClampNeg)).toNatClampNeg) - r48)) (16 + a).toNatClampNeg (((upd f_row (73 + (f_row (10 + a).toNatClampNeg)).toNatClampNeg ((f_row (73 + (f_row (10 + a).toNatClampNeg)).toNatClampNeg) - r48)) (16 + a).toNatClampNeg) + r48).toInt64.toInt32) (7 : Int32).toNatClampNeg)) + 1 := add_z rfl rfl (by omega) (by omega)
            have R79 : RLW (upd (upd (upd f_row (73 + (f_row (10 + a).toNatClampNeg)).toNatClampNeg ((f_row (73 + (f_row (10 + a).toNatClampNeg)).toNatClampNeg) - r48)) (16 + a).toNatClampNeg (((upd f_row (73 + (f_row (10 + a).toNatClampNeg)).toNatClampNeg ((f_row (73 + (f_row (10 + a).toNatClampNeg)).toNatClampNeg) - r48)) (16 + a).toNatClampNeg) + r48).toInt64.toInt32) 7 (((upd (upd f_row (73 + (f_row (10 + a).toNatClampNeg)).toNatClampNeg ((f_row (73 + (f_row (10 + a).toNatClampNeg)).toNatClampNeg) - r48)) (16 + a).toNatClampNeg (((upd f_row (73 + (f_row (10 + a).toNatClampNeg)).toNatClampNeg ((f_row (73 + (f_row (10 + a).toNatClampNeg)).toNatClampNeg) - r48)) (16 + a).toNatClampNeg) + r48).toInt64.toInt32) (7 : Int32).toNatClampNeg) + 1)) := RLW.up_7 R75 (rfl : ((7 : Nat) : Int) = 7) (by omega) (by omega) (w := (Int32.toInt (((upd (upd f_row (73 + (f_row (10 + a).toNatClampNeg)).toNatClampNeg ((f_row (73 + (f_row (10 + a).toNatClampNeg)).toNatClampNeg) - r48)) (16 + a).toNatClampNeg (((upd f_row (73 + (f_row (10 + a).toNatClampNeg)).toNatClampNeg ((f_row (73 + (f_row (10 + a).toNatClampNeg)).toNatClampNeg) - r48)) (16 + a).toNatClampNeg) + r48).toInt64.toInt32) (7 : Int32).toNatClampNeg) + 1))) rfl (by omega) (by omega)
            have hR80 : haulR (lawW w ls) w a.toInt = (Int32.toInt r48) := by unfold haulR; (repeat' split) <;> omega
            exact hq _ _ _ _ _ _ _ _ _ _ _ ⟨⟨by omega, by omega⟩, ⟨by omega, by omega⟩, ⟨by omega, by omega⟩, R79, j44, j45, hR80.symm, (by unfold haulW; rw [if_neg (show ¬ haulR (lawW w ls) w a.toInt < 0 by omega)]; unfold haulO; rw [← j57]; unfold haulC; exact (RMw.up (RMw.up (RMw.up e_0 (by first | rfl | (show Int.toNat _ = _; omega)) (by first | rfl | omega | (split <;> omega))) (by first | rfl | (show Int.toNat _ = _; omega)) (by first | rfl | omega | (split <;> omega))) (by first | rfl | (show Int.toNat _ = _; omega)) (by first | rfl | omega | (split <;> omega)))), (by unfold rmU; rw [if_neg (show ¬ haulR (lawW w ls) w a.toInt < 0 by omega)]; exact j46), (RML.up (RML.up (RML.up e_2 (tnz (x := (Int32.toInt (73 + (f_row (10 + a).toNatClampNeg)))) rfl (by omega)) (by omega) (by omega)) (tnz (x := (Int32.toInt (16 + a))) rfl (by omega)) (by omega) (by omega)) (rfl : ((7 : Nat) : Int) = 7) (by omega) (by omega)), j47⟩
          · refine br0 c67 ?_
            have d81 := c_nle (x := (Int64.toInt (((upd f_row (73 + (f_row (10 + a).toNatClampNeg)).toNatClampNeg ((f_row (73 + (f_row (10 + a).toNatClampNeg)).toNatClampNeg) - r48)) (16 + a).toNatClampNeg) + r48).toInt64)) (y := 9999) rfl rfl c67
            refine ⟨vpi (x := (Int32.toInt (16 + a))) rfl (by omega) (by omega), ?_⟩
            refine un7_i ?_
            have t82 := i32_hi r48
            have g83 : 0 ≤ (Int32.toInt (f_row (73 + (f_row (10 + a).toNatClampNeg)).toNatClampNeg)) ∧ (Int32.toInt (f_row (73 + (f_row (10 + a).toNatClampNeg)).toNatClampNeg)) ≤ 99 := RLW.at_73 h_f_row (tnz (x := (Int32.toInt (73 + (f_row (10 + a).toNatClampNeg)))) rfl (by omega)) (by omega) (by omega)
            have t84 : (Int32.toInt (f_row (73 + (f_row (10 + a).toNatClampNeg)).toNatClampNeg)) = w (73 + (w (10 + ((Int32.toInt a)).toNat)).toNat) := RMw.z e_0 (i := 73 + (w (10 + ((Int32.toInt a)).toNat)).toNat) (show Int.toNat _ = _ by omega) (by omega)
            have t85 : (Int32.toInt ((f_row (73 + (f_row (10 + a).toNatClampNeg)).toNatClampNeg) - r48)) = (Int32.toInt (f_row (73 + (f_row (10 + a).toNatClampNeg)).toNatClampNeg)) - (Int32.toInt r48) := sub_z rfl rfl (by omega) (by omega)
            have R86 : RLW (upd f_row (73 + (f_row (10 + a).toNatClampNeg)).toNatClampNeg ((f_row (73 + (f_row (10 + a).toNatClampNeg)).toNatClampNeg) - r48)) := RLW.up_73 h_f_row (tnz (x := (Int32.toInt (73 + (f_row (10 + a).toNatClampNeg)))) rfl (by omega)) (by omega) (by omega) (w := (Int32.toInt ((f_row (73 + (f_row (10 + a).toNatClampNeg)).toNatClampNeg) - r48))) rfl (by omega) (by omega)
            have R87 : RLW (upd (upd f_row (73 + (f_row (10 + a).toNatClampNeg)).toNatClampNeg ((f_row (73 + (f_row (10 + a).toNatClampNeg)).toNatClampNeg) - r48)) (16 + a).toNatClampNeg 9999) := RLW.up_16 R86 (tnz (x := (Int32.toInt (16 + a))) rfl (by omega)) (by omega) (by omega) (w := 9999) rfl (by omega) (by omega)
            have t88 : (Int32.toInt ((upd f_row (73 + (f_row (10 + a).toNatClampNeg)).toNatClampNeg ((f_row (73 + (f_row (10 + a).toNatClampNeg)).toNatClampNeg) - r48)) (7 : Int32).toNatClampNeg)) = (Int32.toInt (f_row (7 : Int32).toNatClampNeg)) := congrArg Int32.toInt (pk_un (ne_n (rfl : ((7 : Nat) : Int) = 7) (tnz (x := (Int32.toInt (73 + (f_row (10 + a).toNatClampNeg)))) rfl (by omega)) (by omega)))
            have t89 : (Int32.toInt ((upd (upd f_row (73 + (f_row (10 + a).toNatClampNeg)).toNatClampNeg ((f_row (73 + (f_row (10 + a).toNatClampNeg)).toNatClampNeg) - r48)) (16 + a).toNatClampNeg 9999) (7 : Int32).toNatClampNeg)) = (Int32.toInt ((upd f_row (73 + (f_row (10 + a).toNatClampNeg)).toNatClampNeg ((f_row (73 + (f_row (10 + a).toNatClampNeg)).toNatClampNeg) - r48)) (7 : Int32).toNatClampNeg)) := congrArg Int32.toInt (pk_un (ne_n (rfl : ((7 : Nat) : Int) = 7) (tnz (x := (Int32.toInt (16 + a))) rfl (by omega)) (by omega)))
            have t90 : (Int32.toInt (((upd (upd f_row (73 + (f_row (10 + a).toNatClampNeg)).toNatClampNeg ((f_row (73 + (f_row (10 + a).toNatClampNeg)).toNatClampNeg) - r48)) (16 + a).toNatClampNeg 9999) (7 : Int32).toNatClampNeg) + 1)) = (Int32.toInt ((upd (upd f_row (73 + (f_row (10 + a).toNatClampNeg)).toNatClampNeg ((f_row (73 + (f_row (10 + a).toNatClampNeg)).toNatClampNeg) - r48)) (16 + a).toNatClampNeg 9999) (7 : Int32).toNatClampNeg)) + 1 := add_z rfl rfl (by omega) (by omega)
            have R91 : RLW (upd (upd (upd f_row (73 + (f_row (10 + a).toNatClampNeg)).toNatClampNeg ((f_row (73 + (f_row (10 + a).toNatClampNeg)).toNatClampNeg) - r48)) (16 + a).toNatClampNeg 9999) 7 (((upd (upd f_row (73 + (f_row (10 + a).toNatClampNeg)).toNatClampNeg ((f_row (73 + (f_row (10 + a).toNatClampNeg)).toNatClampNeg) - r48)) (16 + a).toNatClampNeg 9999) (7 : Int32).toNatClampNeg) + 1)) := RLW.up_7 R87 (rfl : ((7 : Nat) : Int) = 7) (by omega) (by omega) (w := (Int32.toInt (((upd (upd f_row (73 + (f_row (10 + a).toNatClampNeg)).toNatClampNeg ((f_row (73 + (f_row (10 + a).toNatClampNeg)).toNatClampNeg) - r48)) (16 + a).toNatClampNeg 9999) (7 : Int32).toNatClampNeg) + 1))) rfl (by omega) (by omega)
            have hR92 : haulR (lawW w ls) w a.toInt = (Int32.toInt r48) := by unfold haulR; (repeat' split) <;> omega
            have k93 : Int32.toInt 9999 = 9999 := rfl
            exact hq _ _ _ _ _ _ _ _ _ _ _ ⟨⟨by omega, by omega⟩, ⟨by omega, by omega⟩, ⟨by omega, by omega⟩, R91, j44, j45, hR92.symm, (by unfold haulW; rw [if_neg (show ¬ haulR (lawW w ls) w a.toInt < 0 by omega)]; unfold haulO; rw [← j57]; unfold haulC; exact (RMw.up (RMw.up (RMw.up e_0 (by first | rfl | (show Int.toNat _ = _; omega)) (by first | rfl | omega | (split <;> omega))) (by first | rfl | (show Int.toNat _ = _; omega)) (by first | rfl | omega | (split <;> omega))) (by first | rfl | (show Int.toNat _ = _; omega)) (by first | rfl | omega | (split <;> omega)))), (by unfold rmU; rw [if_neg (show ¬ haulR (lawW w ls) w a.toInt < 0 by omega)]; exact j46), (RML.up (RML.up (RML.up e_2 (tnz (x := (Int32.toInt (73 + (f_row (10 + a).toNatClampNeg)))) rfl (by omega)) (by omega) (by omega)) (tnz (x := (Int32.toInt (16 + a))) rfl (by omega)) (by omega) (by omega)) (rfl : ((7 : Nat) : Int) = 7) (by omega) (by omega)), j47⟩
      · refine br0 c25 ?_
        have g94 : 0 ≤ (Int32.toInt (f_row (113 + (f_row (10 + a).toNatClampNeg)).toNatClampNeg)) ∧ (Int32.toInt (f_row (113 + (f_row (10 + a).toNatClampNeg)).toNatClampNeg)) ≤ 3 := RLW.at_113 h_f_row (tnz (x := (Int32.toInt (113 + (f_row (10 + a).toNatClampNeg)))) rfl (by omega)) (by omega) (by omega)
        have t95 : (Int32.toInt (f_row (113 + (f_row (10 + a).toNatClampNeg)).toNatClampNeg)) = w (113 + (w (10 + ((Int32.toInt a)).toNat)).toNat) := RMw.z e_0 (i := 113 + (w (10 + ((Int32.toInt a)).toNat)).toNat) (show Int.toNat _ = _ by omega) (by omega)
        have d96 := ne_z (x := (Int32.toInt (f_row (113 + (f_row (10 + a).toNatClampNeg)).toNatClampNeg))) (y := 3) rfl rfl c25
        refine br1 (by decide) ?_
        refine br1 (by decide) ?_
        have k97 : Int32.toInt (-3) = (-3) := (by decide)
        have hR98 : haulR (lawW w ls) w a.toInt = (-3) := by unfold haulR; (repeat' split) <;> omega
        exact hq _ _ _ _ _ _ _ _ _ _ _ ⟨(by decide), ⟨by omega, by omega⟩, ⟨by omega, by omega⟩, h_f_row, h_f_undos, h_f_sorts, hR98.symm, (by unfold haulW; rw [if_pos (show haulR (lawW w ls) w a.toInt < 0 by omega)]; exact e_0), (by unfold rmU; rw [if_pos (show haulR (lawW w ls) w a.toInt < 0 by omega)]; exact e_1), e_2, (fun j _ => rfl)⟩


set_option maxRecDepth 100000 in
theorem s_X12_hushNowz (a : Int32) (h0_nUndo : Int32) (f_row : Nat → Int32) (f_undos : Nat → Int32) (f_sorts : Nat → Int32) {w : Nat → Int} {U : UL} {ls : Nat → List Cls} (h_h0_nUndo : 0 ≤ h0_nUndo.toInt ∧ h0_nUndo.toInt ≤ 16) (h_f_row : RLW f_row) (h_f_undos : UN f_undos) (h_f_sorts : SO f_sorts) (e_0 : RMw f_row w) (e_1 : RMu f_undos f_sorts h0_nUndo U) (e_2 : RML f_row ls) {Q : Int32 → (Int32 × (Nat → Int32) × (Nat → Int32) × (Nat → Int32)) → Prop} (hq : ∀ (r : Int32) (u_0 : Int32) (u_1 : Nat → Int32) (u_2 : Nat → Int32) (u_3 : Nat → Int32), ((-3) ≤ r.toInt ∧ r.toInt ≤ 2147483647) ∧ (0 ≤ u_0.toInt ∧ u_0.toInt ≤ 16) ∧ (RLW u_1) ∧ (UN u_2) ∧ (SO u_3) ∧ (r.toInt = hushR w a.toInt) ∧ (RMw u_1 (hushW w a.toInt)) ∧ (RMu u_2 u_3 u_0 (rmU (hushR w a.toInt) 2 w U)) ∧ (RML u_1 ls) ∧ (∀ j, 1696 ≤ j → u_2 j = f_undos j) → Q r (u_0, u_1, u_2, u_3)) : wp_X12_hushNow a h0_nUndo f_row f_undos f_sorts Q := by
  unfold wp_X12_hushNow
  refine o_X12_isNoise _ _ _ ?_
  refine o_X12_in _ _ _ _ ?_
  by_cases c1 : (lg_cmp a.toInt64 0) < 0
  · refine br1 c1 ?_
    have t2 : (Int64.toInt a.toInt64) = (Int32.toInt a) := i2l_z rfl
    have d3 := c_lt (x := (Int64.toInt a.toInt64)) (y := 0) rfl rfl c1
    refine br1 (by decide) ?_
    have k4 : Int32.toInt (-2) = (-2) := (by decide)
    have hR5 : hushR w a.toInt = (-2) := by unfold hushR; (repeat' split) <;> omega
    exact hq _ _ _ _ _ ⟨(by decide), ⟨by omega, by omega⟩, h_f_row, h_f_undos, h_f_sorts, hR5.symm, (by unfold hushW; rw [if_pos (show hushR w a.toInt < 0 by omega)]; exact e_0), (by unfold rmU; rw [if_pos (show hushR w a.toInt < 0 by omega)]; exact e_1), e_2, (fun j _ => rfl)⟩
  · refine br0 c1 ?_
    have t6 : (Int64.toInt a.toInt64) = (Int32.toInt a) := i2l_z rfl
    have d7 := c_nlt (x := (Int64.toInt a.toInt64)) (y := 0) rfl rfl c1
    by_cases c8 : 0 < (lg_cmp a.toInt64 ((f_row (2 : Int32).toNatClampNeg).toInt64 - 1))
    · refine br1 c8 ?_
      have g9 : 0 ≤ (Int32.toInt (f_row (2 : Int32).toNatClampNeg)) ∧ (Int32.toInt (f_row (2 : Int32).toNatClampNeg)) ≤ 6 := RLW.at_2 h_f_row (rfl : ((2 : Nat) : Int) = 2) (by omega) (by omega)
      have t10 : (Int32.toInt (f_row (2 : Int32).toNatClampNeg)) = w (2) := RMw.z e_0 (i := 2) rfl (by omega)
      have t11 : (Int64.toInt (f_row (2 : Int32).toNatClampNeg).toInt64) = (Int32.toInt (f_row (2 : Int32).toNatClampNeg)) := i2l_z rfl
      have t12 : (Int64.toInt ((f_row (2 : Int32).toNatClampNeg).toInt64 - 1)) = (Int64.toInt (f_row (2 : Int32).toNatClampNeg).toInt64) - 1 := lsub_z rfl rfl (by omega) (by omega)
      have d13 := c_gt (x := (Int64.toInt a.toInt64)) (y := (Int64.toInt ((f_row (2 : Int32).toNatClampNeg).toInt64 - 1))) rfl rfl c8
      refine br1 (by decide) ?_
      have k14 : Int32.toInt (-2) = (-2) := (by decide)
      have hR15 : hushR w a.toInt = (-2) := by unfold hushR; (repeat' split) <;> omega
      exact hq _ _ _ _ _ ⟨(by decide), ⟨by omega, by omega⟩, h_f_row, h_f_undos, h_f_sorts, hR15.symm, (by unfold hushW; rw [if_pos (show hushR w a.toInt < 0 by omega)]; exact e_0), (by unfold rmU; rw [if_pos (show hushR w a.toInt < 0 by omega)]; exact e_1), e_2, (fun j _ => rfl)⟩
    · refine br0 c8 ?_
      have g16 : 0 ≤ (Int32.toInt (f_row (2 : Int32).toNatClampNeg)) ∧ (Int32.toInt (f_row (2 : Int32).toNatClampNeg)) ≤ 6 := RLW.at_2 h_f_row (rfl : ((2 : Nat) : Int) = 2) (by omega) (by omega)
      have t17 : (Int32.toInt (f_row (2 : Int32).toNatClampNeg)) = w (2) := RMw.z e_0 (i := 2) rfl (by omega)
      have t18 : (Int64.toInt (f_row (2 : Int32).toNatClampNeg).toInt64) = (Int32.toInt (f_row (2 : Int32).toNatClampNeg)) := i2l_z rfl
      have t19 : (Int64.toInt ((f_row (2 : Int32).toNatClampNeg).toInt64 - 1)) = (Int64.toInt (f_row (2 : Int32).toNatClampNeg).toInt64) - 1 := lsub_z rfl rfl (by omega) (by omega)
      have d20 := c_ngt (x := (Int64.toInt a.toInt64)) (y := (Int64.toInt ((f_row (2 : Int32).toNatClampNeg).toInt64 - 1))) rfl rfl c8
      refine br0 (by decide) ?_
      have t21 : (Int32.toInt (22 + a)) = 22 + (Int32.toInt a) := add_z rfl rfl (by omega) (by omega)
      refine ⟨vpi (x := (Int32.toInt (22 + a))) rfl (by omega) (by omega), ?_⟩
      by_cases c22 : (f_row (22 + a).toNatClampNeg) = 1
      · refine br1 c22 ?_
        have g23 : 0 ≤ (Int32.toInt (f_row (22 + a).toNatClampNeg)) ∧ (Int32.toInt (f_row (22 + a).toNatClampNeg)) ≤ 1 := RLW.at_22 h_f_row (tnz (x := (Int32.toInt (22 + a))) rfl (by omega)) (by omega) (by omega)
        have t24 : (Int32.toInt (f_row (22 + a).toNatClampNeg)) = w (22 + ((Int32.toInt a)).toNat) := RMw.z e_0 (i := 22 + ((Int32.toInt a)).toNat) (show Int.toNat _ = _ by omega) (by omega)
        have d25 := eq_z (x := (Int32.toInt (f_row (22 + a).toNatClampNeg))) (y := 1) rfl rfl c22
        have k26 : Int32.toInt (-3) = (-3) := (by decide)
        have hR27 : hushR w a.toInt = (-3) := by unfold hushR; (repeat' split) <;> omega
        exact hq _ _ _ _ _ ⟨(by decide), ⟨by omega, by omega⟩, h_f_row, h_f_undos, h_f_sorts, hR27.symm, (by unfold hushW; rw [if_pos (show hushR w a.toInt < 0 by omega)]; exact e_0), (by unfold rmU; rw [if_pos (show hushR w a.toInt < 0 by omega)]; exact e_1), e_2, (fun j _ => rfl)⟩
      · refine br0 c22 ?_
        have g28 : 0 ≤ (Int32.toInt (f_row (22 + a).toNatClampNeg)) ∧ (Int32.toInt (f_row (22 + a).toNatClampNeg)) ≤ 1 := RLW.at_22 h_f_row (tnz (x := (Int32.toInt (22 + a))) rfl (by omega)) (by omega) (by omega)
        have t29 : (Int32.toInt (f_row (22 + a).toNatClampNeg)) = w (22 + ((Int32.toInt a)).toNat) := RMw.z e_0 (i := 22 + ((Int32.toInt a)).toNat) (show Int.toNat _ = _ by omega) (by omega)
        have d30 := ne_z (x := (Int32.toInt (f_row (22 + a).toNatClampNeg))) (y := 1) rfl rfl c22
        have k34 : Int32.toInt 2 = 2 := rfl
        refine s_X12_rememberz 2 h0_nUndo (f_undos) (f_sorts) (f_row) ⟨by decide, by decide⟩ h_h0_nUndo h_f_undos h_f_sorts h_f_row e_0 e_1 (fun u31 u32 u33 H35 => ?_)
        have j36 := H35.1
        have j37 := H35.2.1
        have j38 := H35.2.2.1
        have j39 := H35.2.2.2.1
        have j40 := H35.2.2.2.2
        refine un3_i ?_
        refine ⟨vpi (x := (Int32.toInt (22 + a))) rfl (by omega) (by omega), ?_⟩
        have t41 : (Int32.toInt (198 + a)) = 198 + (Int32.toInt a) := add_z rfl rfl (by omega) (by omega)
        refine ⟨vpi (x := (Int32.toInt (198 + a))) rfl (by omega) (by omega), ?_⟩
        have g43 : 0 ≤ (Int32.toInt (f_row (198 + a).toNatClampNeg)) ∧ (Int32.toInt (f_row (198 + a).toNatClampNeg)) ≤ 7 := RLW.at_198 h_f_row (tnz (x := (Int32.toInt (198 + a))) rfl (by omega)) (by omega) (by omega)
        have t44 : (Int32.toInt (f_row (198 + a).toNatClampNeg)) = w (198 + ((Int32.toInt a)).toNat) := RMw.z e_0 (i := 198 + ((Int32.toInt a)).toNat) (show Int.toNat _ = _ by omega) (by omega)
        have t45 : (Int32.toInt ((upd f_row (22 + a).toNatClampNeg 1) (198 + a).toNatClampNeg)) = (Int32.toInt (f_row (198 + a).toNatClampNeg)) := congrArg Int32.toInt (pk_un (ne_n (tnz (x := (Int32.toInt (198 + a))) rfl (by omega)) (tnz (x := (Int32.toInt (22 + a))) rfl (by omega)) (by omega)))
        have R46 : RLW (upd f_row (22 + a).toNatClampNeg 1) := RLW.up_22 h_f_row (tnz (x := (Int32.toInt (22 + a))) rfl (by omega)) (by omega) (by omega) (w := 1) rfl (by omega) (by omega)
        refine s_X12_dinButz ((upd f_row (22 + a).toNatClampNeg 1) (198 + a).toNatClampNeg) 0 ((upd f_row (22 + a).toNatClampNeg 1)) (w := (hushO w a.toInt)) ⟨by omega, by omega⟩ R46 (RMw.up e_0 (by first | rfl | (show Int.toNat _ = _; omega)) rfl : RMw (upd f_row (22 + a).toNatClampNeg 1) (hushO w a.toInt)) (fun r42 H47 => ?_)
        have j48 := H47.1
        have j49 : r42.toInt = nsS (uI w (22 + a.toInt.toNat) 1) (w (198 + a.toInt.toNat)) (fun _ => false) (w 2).toNat := by have q := H47.2; rw [show (Int32.toInt ((upd f_row (22 + a).toNatClampNeg 1) (198 + a).toNatClampNeg)) = w (198 + a.toInt.toNat) by omega, show hushO w a.toInt 2 = w 2 from uI_n (by omega)] at q; rw [q]; exact nsS_0 (fun i _ => bh_0 i)
        have t50 := i32_hi r42
        have hR51 : hushR w a.toInt = (Int32.toInt r42) := by unfold hushR; (repeat' split) <;> omega
        have k52 : Int32.toInt 1 = 1 := rfl
        exact hq _ _ _ _ _ ⟨⟨by omega, by omega⟩, ⟨by omega, by omega⟩, R46, j37, j38, hR51.symm, (by unfold hushW; rw [if_neg (show ¬ hushR w a.toInt < 0 by omega)]; unfold hushO; exact (RMw.up e_0 (by first | rfl | (show Int.toNat _ = _; omega)) (by first | rfl | omega | (split <;> omega)))), (by unfold rmU; rw [if_neg (show ¬ hushR w a.toInt < 0 by omega)]; exact j39), (RML.up e_2 (tnz (x := (Int32.toInt (22 + a))) rfl (by omega)) (by omega) (by omega)), j40⟩


set_option maxRecDepth 100000 in
theorem s_X12_lieNowz (a : Int32) (b : Int32) (h0_nUndo : Int32) (f_row : Nat → Int32) (f_undos : Nat → Int32) (f_sorts : Nat → Int32) {w : Nat → Int} {U : UL} {ls : Nat → List Cls} (h_h0_nUndo : 0 ≤ h0_nUndo.toInt ∧ h0_nUndo.toInt ≤ 16) (h_f_row : RLW f_row) (h_f_undos : UN f_undos) (h_f_sorts : SO f_sorts) (e_0 : RMw f_row w) (e_1 : RMu f_undos f_sorts h0_nUndo U) (e_2 : RML f_row ls) {Q : Int32 → (Int32 × (Nat → Int32) × (Nat → Int32) × (Nat → Int32)) → Prop} (hq : ∀ (r : Int32) (u_0 : Int32) (u_1 : Nat → Int32) (u_2 : Nat → Int32) (u_3 : Nat → Int32), ((-3) ≤ r.toInt ∧ r.toInt ≤ 2147483647) ∧ (0 ≤ u_0.toInt ∧ u_0.toInt ≤ 16) ∧ (RLW u_1) ∧ (UN u_2) ∧ (SO u_3) ∧ (r.toInt = lieR w a.toInt b.toInt) ∧ (RMw u_1 (lieW w a.toInt b.toInt)) ∧ (RMu u_2 u_3 u_0 (rmU (lieR w a.toInt b.toInt) 3 w U)) ∧ (RML u_1 ls) ∧ (∀ j, 1696 ≤ j → u_2 j = f_undos j) → Q r (u_0, u_1, u_2, u_3)) : wp_X12_lieNow a b h0_nUndo f_row f_undos f_sorts Q := by
  unfold wp_X12_lieNow
  refine o_X12_isColumn _ _ ?_
  refine o_X12_in _ _ _ _ ?_
  by_cases c1 : (lg_cmp b.toInt64 0) < 0
  · refine br1 c1 ?_
    have t2 : (Int64.toInt b.toInt64) = (Int32.toInt b) := i2l_z rfl
    have d3 := c_lt (x := (Int64.toInt b.toInt64)) (y := 0) rfl rfl c1
    refine br1 (by decide) ?_
    have k4 : Int32.toInt (-1) = (-1) := (by decide)
    have hR5 : lieR w a.toInt b.toInt = (-1) := by unfold lieR; (repeat' split) <;> omega
    exact hq _ _ _ _ _ ⟨(by decide), ⟨by omega, by omega⟩, h_f_row, h_f_undos, h_f_sorts, hR5.symm, (by unfold lieW; rw [if_pos (show lieR w a.toInt b.toInt < 0 by omega)]; exact e_0), (by unfold rmU; rw [if_pos (show lieR w a.toInt b.toInt < 0 by omega)]; exact e_1), e_2, (fun j _ => rfl)⟩
  · refine br0 c1 ?_
    have t6 : (Int64.toInt b.toInt64) = (Int32.toInt b) := i2l_z rfl
    have d7 := c_nlt (x := (Int64.toInt b.toInt64)) (y := 0) rfl rfl c1
    by_cases c8 : 0 < (lg_cmp b.toInt64 7)
    · refine br1 c8 ?_
      have d9 := c_gt (x := (Int64.toInt b.toInt64)) (y := 7) rfl rfl c8
      refine br1 (by decide) ?_
      have k10 : Int32.toInt (-1) = (-1) := (by decide)
      have hR11 : lieR w a.toInt b.toInt = (-1) := by unfold lieR; (repeat' split) <;> omega
      exact hq _ _ _ _ _ ⟨(by decide), ⟨by omega, by omega⟩, h_f_row, h_f_undos, h_f_sorts, hR11.symm, (by unfold lieW; rw [if_pos (show lieR w a.toInt b.toInt < 0 by omega)]; exact e_0), (by unfold rmU; rw [if_pos (show lieR w a.toInt b.toInt < 0 by omega)]; exact e_1), e_2, (fun j _ => rfl)⟩
    · refine br0 c8 ?_
      have d12 := c_ngt (x := (Int64.toInt b.toInt64)) (y := 7) rfl rfl c8
      refine br0 (by decide) ?_
      refine o_X12_isEar _ _ _ ?_
      refine o_X12_in _ _ _ _ ?_
      by_cases c13 : (lg_cmp a.toInt64 0) < 0
      · refine br1 c13 ?_
        have t14 : (Int64.toInt a.toInt64) = (Int32.toInt a) := i2l_z rfl
        have d15 := c_lt (x := (Int64.toInt a.toInt64)) (y := 0) rfl rfl c13
        refine br1 (by decide) ?_
        have k16 : Int32.toInt (-2) = (-2) := (by decide)
        have hR17 : lieR w a.toInt b.toInt = (-2) := by unfold lieR; (repeat' split) <;> omega
        exact hq _ _ _ _ _ ⟨(by decide), ⟨by omega, by omega⟩, h_f_row, h_f_undos, h_f_sorts, hR17.symm, (by unfold lieW; rw [if_pos (show lieR w a.toInt b.toInt < 0 by omega)]; exact e_0), (by unfold rmU; rw [if_pos (show lieR w a.toInt b.toInt < 0 by omega)]; exact e_1), e_2, (fun j _ => rfl)⟩
      · refine br0 c13 ?_
        have t18 : (Int64.toInt a.toInt64) = (Int32.toInt a) := i2l_z rfl
        have d19 := c_nlt (x := (Int64.toInt a.toInt64)) (y := 0) rfl rfl c13
        by_cases c20 : 0 < (lg_cmp a.toInt64 ((f_row (1 : Int32).toNatClampNeg).toInt64 - 1))
        · refine br1 c20 ?_
          have g21 : 0 ≤ (Int32.toInt (f_row (1 : Int32).toNatClampNeg)) ∧ (Int32.toInt (f_row (1 : Int32).toNatClampNeg)) ≤ 5 := RLW.at_1 h_f_row (rfl : ((1 : Nat) : Int) = 1) (by omega) (by omega)
          have t22 : (Int32.toInt (f_row (1 : Int32).toNatClampNeg)) = w (1) := RMw.z e_0 (i := 1) rfl (by omega)
          have t23 : (Int64.toInt (f_row (1 : Int32).toNatClampNeg).toInt64) = (Int32.toInt (f_row (1 : Int32).toNatClampNeg)) := i2l_z rfl
          have t24 : (Int64.toInt ((f_row (1 : Int32).toNatClampNeg).toInt64 - 1)) = (Int64.toInt (f_row (1 : Int32).toNatClampNeg).toInt64) - 1 := lsub_z rfl rfl (by omega) (by omega)
          have d25 := c_gt (x := (Int64.toInt a.toInt64)) (y := (Int64.toInt ((f_row (1 : Int32).toNatClampNeg).toInt64 - 1))) rfl rfl c20
          refine br1 (by decide) ?_
          have k26 : Int32.toInt (-2) = (-2) := (by decide)
          have hR27 : lieR w a.toInt b.toInt = (-2) := by unfold lieR; (repeat' split) <;> omega
          exact hq _ _ _ _ _ ⟨(by decide), ⟨by omega, by omega⟩, h_f_row, h_f_undos, h_f_sorts, hR27.symm, (by unfold lieW; rw [if_pos (show lieR w a.toInt b.toInt < 0 by omega)]; exact e_0), (by unfold rmU; rw [if_pos (show lieR w a.toInt b.toInt < 0 by omega)]; exact e_1), e_2, (fun j _ => rfl)⟩
        · refine br0 c20 ?_
          have g28 : 0 ≤ (Int32.toInt (f_row (1 : Int32).toNatClampNeg)) ∧ (Int32.toInt (f_row (1 : Int32).toNatClampNeg)) ≤ 5 := RLW.at_1 h_f_row (rfl : ((1 : Nat) : Int) = 1) (by omega) (by omega)
          have t29 : (Int32.toInt (f_row (1 : Int32).toNatClampNeg)) = w (1) := RMw.z e_0 (i := 1) rfl (by omega)
          have t30 : (Int64.toInt (f_row (1 : Int32).toNatClampNeg).toInt64) = (Int32.toInt (f_row (1 : Int32).toNatClampNeg)) := i2l_z rfl
          have t31 : (Int64.toInt ((f_row (1 : Int32).toNatClampNeg).toInt64 - 1)) = (Int64.toInt (f_row (1 : Int32).toNatClampNeg).toInt64) - 1 := lsub_z rfl rfl (by omega) (by omega)
          have d32 := c_ngt (x := (Int64.toInt a.toInt64)) (y := (Int64.toInt ((f_row (1 : Int32).toNatClampNeg).toInt64 - 1))) rfl rfl c20
          refine br0 (by decide) ?_
          have k36 : Int32.toInt 3 = 3 := rfl
          refine s_X12_rememberz 3 h0_nUndo (f_undos) (f_sorts) (f_row) ⟨by decide, by decide⟩ h_h0_nUndo h_f_undos h_f_sorts h_f_row e_0 e_1 (fun u33 u34 u35 H37 => ?_)
          have j38 := H37.1
          have j39 := H37.2.1
          have j40 := H37.2.2.1
          have j41 := H37.2.2.2.1
          have j42 := H37.2.2.2.2
          refine un3_i ?_
          have t43 : (Int32.toInt (28 + a)) = 28 + (Int32.toInt a) := add_z rfl rfl (by omega) (by omega)
          refine ⟨vpi (x := (Int32.toInt (28 + a))) rfl (by omega) (by omega), ?_⟩
          refine ⟨vpi (x := (Int32.toInt (28 + a))) rfl (by omega) (by omega), ?_⟩
          have g44 : 0 ≤ (Int32.toInt (f_row (28 + a).toNatClampNeg)) ∧ (Int32.toInt (f_row (28 + a).toNatClampNeg)) ≤ 7 := RLW.at_28 h_f_row (tnz (x := (Int32.toInt (28 + a))) rfl (by omega)) (by omega) (by omega)
          have t45 : (Int32.toInt (f_row (28 + a).toNatClampNeg)) = w (28 + ((Int32.toInt a)).toNat) := RMw.z e_0 (i := 28 + ((Int32.toInt a)).toNat) (show Int.toNat _ = _ by omega) (by omega)
          have t46 := i32_hi (f_row (28 + a).toNatClampNeg)
          have R47 : RLW (upd f_row (28 + a).toNatClampNeg b) := RLW.up_28 h_f_row (tnz (x := (Int32.toInt (28 + a))) rfl (by omega)) (by omega) (by omega) (w := (Int32.toInt b)) rfl (by omega) (by omega)
          have hR48 : lieR w a.toInt b.toInt = (Int32.toInt (f_row (28 + a).toNatClampNeg)) := by unfold lieR; (repeat' split) <;> omega
          exact hq _ _ _ _ _ ⟨⟨by omega, by omega⟩, ⟨by omega, by omega⟩, R47, j39, j40, hR48.symm, (by unfold lieW; rw [if_neg (show ¬ lieR w a.toInt b.toInt < 0 by omega)]; unfold lieO; exact (RMw.up e_0 (by first | rfl | (show Int.toNat _ = _; omega)) (by first | rfl | omega | (split <;> omega)))), (by unfold rmU; rw [if_neg (show ¬ lieR w a.toInt b.toInt < 0 by omega)]; exact j41), (RML.up e_2 (tnz (x := (Int32.toInt (28 + a))) rfl (by omega)) (by omega) (by omega)), j42⟩

