set_option maxRecDepth 100000 in
theorem s_X12_canHaulz (a : Int32) (f_row : Nat → Int32) {w : Nat → Int} (h_a : 0 ≤ a.toInt ∧ a.toInt ≤ 5) (h_f_row : RLW f_row) (e_0 : RMw f_row w) (e_1 : a.toInt < w 0) {Q : Int32 → Prop} (hq : ∀ (r : Int32), (r.toInt = (if w (113 + (w (10 + (a.toInt).toNat)).toNat) = 3 ∧ w 7 < 9999 then 1 else 0)) → Q r) : wp_X12_canHaul a f_row Q := by
  unfold wp_X12_canHaul
  refine o_X12_hasFound _ _ _ ?_
  have t1 : (Int32.toInt (10 + a)) = 10 + (Int32.toInt a) := add_z rfl rfl (by omega) (by omega)
  refine ⟨vpi (x := (Int32.toInt (10 + a))) rfl (by omega) (by omega), ?_⟩
  have g2 : 0 ≤ (Int32.toInt (f_row (10 + a).toNatClampNeg)) ∧ (Int32.toInt (f_row (10 + a).toNatClampNeg)) ≤ 39 := RLW.at_10 h_f_row (tnz (x := (Int32.toInt (10 + a))) rfl (by omega)) (by omega) (by omega)
  have t3 : (Int32.toInt (f_row (10 + a).toNatClampNeg)) = w (10 + ((Int32.toInt a)).toNat) := RMw.z e_0 (i := 10 + ((Int32.toInt a)).toNat) (show Int.toNat _ = _ by omega) (by omega)
  have t4 : (Int32.toInt (113 + (f_row (10 + a).toNatClampNeg))) = 113 + (Int32.toInt (f_row (10 + a).toNatClampNeg)) := add_z rfl rfl (by omega) (by omega)
  refine ⟨vpi (x := (Int32.toInt (113 + (f_row (10 + a).toNatClampNeg)))) rfl (by omega) (by omega), ?_⟩
  by_cases c5 : (f_row (113 + (f_row (10 + a).toNatClampNeg)).toNatClampNeg) = 3
  · refine br1 c5 ?_
    have g6 : 0 ≤ (Int32.toInt (f_row (113 + (f_row (10 + a).toNatClampNeg)).toNatClampNeg)) ∧ (Int32.toInt (f_row (113 + (f_row (10 + a).toNatClampNeg)).toNatClampNeg)) ≤ 3 := RLW.at_113 h_f_row (tnz (x := (Int32.toInt (113 + (f_row (10 + a).toNatClampNeg)))) rfl (by omega)) (by omega) (by omega)
    have t7 : (Int32.toInt (f_row (113 + (f_row (10 + a).toNatClampNeg)).toNatClampNeg)) = w (113 + (w (10 + ((Int32.toInt a)).toNat)).toNat) := RMw.z e_0 (i := 113 + (w (10 + ((Int32.toInt a)).toNat)).toNat) (show Int.toNat _ = _ by omega) (by omega)
    have d8 := eq_z (x := (Int32.toInt (f_row (113 + (f_row (10 + a).toNatClampNeg)).toNatClampNeg))) (y := 3) rfl rfl c5
    refine br0 (by decide) ?_
    by_cases c9 : 9999 ≤ (f_row (7 : Int32).toNatClampNeg)
    · refine br1 c9 ?_
      have g10 : 0 ≤ (Int32.toInt (f_row (7 : Int32).toNatClampNeg)) ∧ (Int32.toInt (f_row (7 : Int32).toNatClampNeg)) ≤ 9999 := RLW.at_7 h_f_row (rfl : ((7 : Nat) : Int) = 7) (by omega) (by omega)
      have t11 : (Int32.toInt (f_row (7 : Int32).toNatClampNeg)) = w (7) := RMw.z e_0 (i := 7) rfl (by omega)
      have d12 := le_z (x := 9999) (y := (Int32.toInt (f_row (7 : Int32).toNatClampNeg))) rfl rfl c9
      have k13 : Int32.toInt 0 = 0 := rfl
      exact hq _ (by (repeat' split) <;> omega)
    · refine br0 c9 ?_
      have g14 : 0 ≤ (Int32.toInt (f_row (7 : Int32).toNatClampNeg)) ∧ (Int32.toInt (f_row (7 : Int32).toNatClampNeg)) ≤ 9999 := RLW.at_7 h_f_row (rfl : ((7 : Nat) : Int) = 7) (by omega) (by omega)
      have t15 : (Int32.toInt (f_row (7 : Int32).toNatClampNeg)) = w (7) := RMw.z e_0 (i := 7) rfl (by omega)
      have d16 := nle_z (x := 9999) (y := (Int32.toInt (f_row (7 : Int32).toNatClampNeg))) rfl rfl c9
      have k17 : Int32.toInt 1 = 1 := rfl
      exact hq _ (by (repeat' split) <;> omega)
  · refine br0 c5 ?_
    have g18 : 0 ≤ (Int32.toInt (f_row (113 + (f_row (10 + a).toNatClampNeg)).toNatClampNeg)) ∧ (Int32.toInt (f_row (113 + (f_row (10 + a).toNatClampNeg)).toNatClampNeg)) ≤ 3 := RLW.at_113 h_f_row (tnz (x := (Int32.toInt (113 + (f_row (10 + a).toNatClampNeg)))) rfl (by omega)) (by omega) (by omega)
    have t19 : (Int32.toInt (f_row (113 + (f_row (10 + a).toNatClampNeg)).toNatClampNeg)) = w (113 + (w (10 + ((Int32.toInt a)).toNat)).toNat) := RMw.z e_0 (i := 113 + (w (10 + ((Int32.toInt a)).toNat)).toNat) (show Int.toNat _ = _ by omega) (by omega)
    have d20 := ne_z (x := (Int32.toInt (f_row (113 + (f_row (10 + a).toNatClampNeg)).toNatClampNeg))) (y := 3) rfl rfl c5
    refine br1 (by decide) ?_
    have k21 : Int32.toInt 0 = 0 := rfl
    exact hq _ (by (repeat' split) <;> omega)


set_option maxRecDepth 100000 in
theorem s_X12_haulItz (a : Int32) (h0_ordered : Int32) (h0_law : Int32) (h0_broken : Int32) (h0_value : Int64) (h0_sum : Int64) (f_row : Nat → Int32) (f_set : Nat → Int64) (f_nOp : Nat → Int32) (f_nArg : Nat → Int32) (f_rest : Nat → Int64) (f_now : Nat → Int64) {w : Nat → Int} {ls : Nat → List Cls} (h_a : 0 ≤ a.toInt ∧ a.toInt ≤ 5) (h_h0_ordered : 0 ≤ h0_ordered.toInt ∧ h0_ordered.toInt ≤ 0) (h_h0_broken : 0 ≤ h0_broken.toInt ∧ h0_broken.toInt ≤ 1) (h_f_row : RLW f_row) (e_0 : RMw f_row w) (e_1 : RML f_row ls) (e_2 : a.toInt < w 0) (e_3 : w 7 < 9999) {Q : Int32 → (Int32 × Int32 × Int64 × Int64 × (Nat → Int32) × (Nat → Int64) × (Nat → Int64)) → Prop} (hq : ∀ (r : Int32) (u_0 : Int32) (u_1 : Int32) (u_2 : Int64) (u_3 : Int64) (u_4 : Nat → Int32) (u_5 : Nat → Int64) (u_6 : Nat → Int64), (0 ≤ u_1.toInt ∧ u_1.toInt ≤ 1) ∧ (RLW u_4) ∧ (r.toInt = givesW (lawW w ls) w a.toInt (w (10 + (a.toInt).toNat))) ∧ (RMw u_4 (haulO (lawW w ls) w a.toInt)) ∧ (RML u_4 ls) → Q r (u_0, u_1, u_2, u_3, u_4, u_5, u_6)) : wp_X12_haulIt a h0_ordered h0_law h0_broken h0_value h0_sum f_row f_set f_nOp f_nArg f_rest f_now Q := by
  unfold wp_X12_haulIt
  obtain rfl : h0_ordered = 0 := z_eq (y := 0) rfl rfl (by omega)
  have t1 : (Int32.toInt (10 + a)) = 10 + (Int32.toInt a) := add_z rfl rfl (by omega) (by omega)
  refine ⟨vpi (x := (Int32.toInt (10 + a))) rfl (by omega) (by omega), ?_⟩
  have g3 : 0 ≤ (Int32.toInt (f_row (10 + a).toNatClampNeg)) ∧ (Int32.toInt (f_row (10 + a).toNatClampNeg)) ≤ 39 := RLW.at_10 h_f_row (tnz (x := (Int32.toInt (10 + a))) rfl (by omega)) (by omega) (by omega)
  have t4 : (Int32.toInt (f_row (10 + a).toNatClampNeg)) = w (10 + ((Int32.toInt a)).toNat) := RMw.z e_0 (i := 10 + ((Int32.toInt a)).toNat) (show Int.toNat _ = _ by omega) (by omega)
  refine z_mgives e_1 e_0 h_f_row ⟨by omega, by omega⟩ ⟨by omega, by omega⟩ (fun r2 q5 q6 q7 q8 q9 q10 H11 => ?_)
  have j12 := H11.1
  have j13 := H11.2.1
  have j14 := H11.2.2.1
  have j15 := H11.2.2.2
  rw [show (Int32.toInt (f_row (10 + a).toNatClampNeg)) = w (10 + ((Int32.toInt a)).toNat) by omega] at j13
  rw [show (Int32.toInt (f_row (10 + a).toNatClampNeg)) = w (10 + ((Int32.toInt a)).toNat) by omega] at j14
  refine un6_i ?_
  refine ⟨vpi (x := (Int32.toInt (10 + a))) rfl (by omega) (by omega), ?_⟩
  have t16 : (Int32.toInt (73 + (f_row (10 + a).toNatClampNeg))) = 73 + (Int32.toInt (f_row (10 + a).toNatClampNeg)) := add_z rfl rfl (by omega) (by omega)
  refine ⟨vpi (x := (Int32.toInt (73 + (f_row (10 + a).toNatClampNeg)))) rfl (by omega) (by omega), ?_⟩
  refine ⟨vpi (x := (Int32.toInt (73 + (f_row (10 + a).toNatClampNeg)))) rfl (by omega) (by omega), ?_⟩
  have t17 : (Int32.toInt (16 + a)) = 16 + (Int32.toInt a) := add_z rfl rfl (by omega) (by omega)
  refine ⟨vpi (x := (Int32.toInt (16 + a))) rfl (by omega) (by omega), ?_⟩
  refine o_X12_within _ _ _ _ ?_
  have g18 : 0 ≤ (Int32.toInt (f_row (16 + a).toNatClampNeg)) ∧ (Int32.toInt (f_row (16 + a).toNatClampNeg)) ≤ 9999 := RLW.at_16 h_f_row (tnz (x := (Int32.toInt (16 + a))) rfl (by omega)) (by omega) (by omega)
  have t19 : (Int32.toInt (f_row (16 + a).toNatClampNeg)) = w (16 + ((Int32.toInt a)).toNat) := RMw.z e_0 (i := 16 + ((Int32.toInt a)).toNat) (show Int.toNat _ = _ by omega) (by omega)
  have t20 : (Int32.toInt ((upd f_row (73 + (f_row (10 + a).toNatClampNeg)).toNatClampNeg ((f_row (73 + (f_row (10 + a).toNatClampNeg)).toNatClampNeg) - r2)) (16 + a).toNatClampNeg)) = (Int32.toInt (f_row (16 + a).toNatClampNeg)) := congrArg Int32.toInt (pk_un (ne_n (tnz (x := (Int32.toInt (16 + a))) rfl (by omega)) (tnz (x := (Int32.toInt (73 + (f_row (10 + a).toNatClampNeg)))) rfl (by omega)) (by omega)))
  have t21 : (Int32.toInt (((upd f_row (73 + (f_row (10 + a).toNatClampNeg)).toNatClampNeg ((f_row (73 + (f_row (10 + a).toNatClampNeg)).toNatClampNeg) - r2)) (16 + a).toNatClampNeg) + r2)) = (Int32.toInt ((upd f_row (73 + (f_row (10 + a).toNatClampNeg)).toNatClampNeg ((f_row (73 + (f_row (10 + a).toNatClampNeg)).toNatClampNeg) - r2)) (16 + a).toNatClampNeg)) + (Int32.toInt r2) := add_z rfl rfl (by omega) (by omega)
  have t22 : (Int64.toInt (((upd f_row (73 + (f_row (10 + a).toNatClampNeg)).toNatClampNeg ((f_row (73 + (f_row (10 + a).toNatClampNeg)).toNatClampNeg) - r2)) (16 + a).toNatClampNeg) + r2).toInt64) = (Int32.toInt (((upd f_row (73 + (f_row (10 + a).toNatClampNeg)).toNatClampNeg ((f_row (73 + (f_row (10 + a).toNatClampNeg)).toNatClampNeg) - r2)) (16 + a).toNatClampNeg) + r2)) := i2l_z rfl
  refine br1 (k_ge (x := (Int64.toInt (((upd f_row (73 + (f_row (10 + a).toNatClampNeg)).toNatClampNeg ((f_row (73 + (f_row (10 + a).toNatClampNeg)).toNatClampNeg) - r2)) (16 + a).toNatClampNeg) + r2).toInt64)) (y := 0) rfl rfl (by omega)) ?_
  by_cases c23 : (lg_cmp (((upd f_row (73 + (f_row (10 + a).toNatClampNeg)).toNatClampNeg ((f_row (73 + (f_row (10 + a).toNatClampNeg)).toNatClampNeg) - r2)) (16 + a).toNatClampNeg) + r2).toInt64 ((9999 : Int32).toInt64 : Int64)) ≤ 0
  · refine br1 c23 ?_
    have d24 := c_le (x := (Int64.toInt (((upd f_row (73 + (f_row (10 + a).toNatClampNeg)).toNatClampNeg ((f_row (73 + (f_row (10 + a).toNatClampNeg)).toNatClampNeg) - r2)) (16 + a).toNatClampNeg) + r2).toInt64)) (y := 9999) rfl rfl c23
    refine ⟨vpi (x := (Int32.toInt (16 + a))) rfl (by omega) (by omega), ?_⟩
    have g25 : 0 ≤ (Int32.toInt (f_row (73 + (f_row (10 + a).toNatClampNeg)).toNatClampNeg)) ∧ (Int32.toInt (f_row (73 + (f_row (10 + a).toNatClampNeg)).toNatClampNeg)) ≤ 99 := RLW.at_73 h_f_row (tnz (x := (Int32.toInt (73 + (f_row (10 + a).toNatClampNeg)))) rfl (by omega)) (by omega) (by omega)
    have t26 : (Int32.toInt (f_row (73 + (f_row (10 + a).toNatClampNeg)).toNatClampNeg)) = w (73 + (w (10 + ((Int32.toInt a)).toNat)).toNat) := RMw.z e_0 (i := 73 + (w (10 + ((Int32.toInt a)).toNat)).toNat) (show Int.toNat _ = _ by omega) (by omega)
    have t27 : (Int32.toInt ((f_row (73 + (f_row (10 + a).toNatClampNeg)).toNatClampNeg) - r2)) = (Int32.toInt (f_row (73 + (f_row (10 + a).toNatClampNeg)).toNatClampNeg)) - (Int32.toInt r2) := sub_z rfl rfl (by omega) (by omega)
    have R28 : RLW (upd f_row (73 + (f_row (10 + a).toNatClampNeg)).toNatClampNeg ((f_row (73 + (f_row (10 + a).toNatClampNeg)).toNatClampNeg) - r2)) := RLW.up_73 h_f_row (tnz (x := (Int32.toInt (73 + (f_row (10 + a).toNatClampNeg)))) rfl (by omega)) (by omega) (by omega) (w := (Int32.toInt ((f_row (73 + (f_row (10 + a).toNatClampNeg)).toNatClampNeg) - r2))) rfl (by omega) (by omega)
    have t29 : (Int32.toInt (((upd f_row (73 + (f_row (10 + a).toNatClampNeg)).toNatClampNeg ((f_row (73 + (f_row (10 + a).toNatClampNeg)).toNatClampNeg) - r2)) (16 + a).toNatClampNeg) + r2).toInt64.toInt32) = (Int64.toInt (((upd f_row (73 + (f_row (10 + a).toNatClampNeg)).toNatClampNeg ((f_row (73 + (f_row (10 + a).toNatClampNeg)).toNatClampNeg) - r2)) (16 + a).toNatClampNeg) + r2).toInt64) := l2i_z rfl (by omega) (by omega)
    have R30 : RLW (upd (upd f_row (73 + (f_row (10 + a).toNatClampNeg)).toNatClampNeg ((f_row (73 + (f_row (10 + a).toNatClampNeg)).toNatClampNeg) - r2)) (16 + a).toNatClampNeg (((upd f_row (73 + (f_row (10 + a).toNatClampNeg)).toNatClampNeg ((f_row (73 + (f_row (10 + a).toNatClampNeg)).toNatClampNeg) - r2)) (16 + a).toNatClampNeg) + r2).toInt64.toInt32) := RLW.up_16 R28 (tnz (x := (Int32.toInt (16 + a))) rfl (by omega)) (by omega) (by omega) (w := (Int32.toInt (((upd f_row (73 + (f_row (10 + a).toNatClampNeg)).toNatClampNeg ((f_row (73 + (f_row (10 + a).toNatClampNeg)).toNatClampNeg) - r2)) (16 + a).toNatClampNeg) + r2).toInt64.toInt32)) rfl (by omega) (by omega)
    have g31 : 0 ≤ (Int32.toInt (f_row (7 : Int32).toNatClampNeg)) ∧ (Int32.toInt (f_row (7 : Int32).toNatClampNeg)) ≤ 9999 := RLW.at_7 h_f_row (rfl : ((7 : Nat) : Int) = 7) (by omega) (by omega)
    have t32 : (Int32.toInt (f_row (7 : Int32).toNatClampNeg)) = w (7) := RMw.z e_0 (i := 7) rfl (by omega)
    have t33 : (Int32.toInt ((upd f_row (73 + (f_row (10 + a).toNatClampNeg)).toNatClampNeg ((f_row (73 + (f_row (10 + a).toNatClampNeg)).toNatClampNeg) - r2)) (7 : Int32).toNatClampNeg)) = (Int32.toInt (f_row (7 : Int32).toNatClampNeg)) := congrArg Int32.toInt (pk_un (ne_n (rfl : ((7 : Nat) : Int) = 7) (tnz (x := (Int32.toInt (73 + (f_row (10 + a).toNatClampNeg)))) rfl (by omega)) (by omega)))
    have t34 : (Int32.toInt ((upd (upd f_row (73 + (f_row (10 + a).toNatClampNeg)).toNatClampNeg ((f_row (73 + (f_row (10 + a).toNatClampNeg)).toNatClampNeg) - r2)) (16 + a).toNatClampNeg (((upd f_row (73 + (f_row (10 + a).toNatClampNeg)).toNatClampNeg ((f_row (73 + (f_row (10 + a).toNatClampNeg)).toNatClampNeg) - r2)) (16 + a).toNatClampNeg) + r2).toInt64.toInt32) (7 : Int32).toNatClampNeg)) = (Int32.toInt ((upd f_row (73 + (f_row (10 + a).toNatClampNeg)).toNatClampNeg ((f_row (73 + (f_row (10 + a).toNatClampNeg)).toNatClampNeg) - r2)) (7 : Int32).toNatClampNeg)) := congrArg Int32.toInt (pk_un (ne_n (rfl : ((7 : Nat) : Int) = 7) (tnz (x := (Int32.toInt (16 + a))) rfl (by omega)) (by omega)))
    have t35 : (Int32.toInt (((upd (upd f_row (73 + (f_row (10 + a).toNatClampNeg)).toNatClampNeg ((f_row (73 + (f_row (10 + a).toNatClampNeg)).toNatClampNeg) - r2)) (16 + a).toNatClampNeg (((upd f_row (73 + (f_row (10 + a).toNatClampNeg)).toNatClampNeg ((f_row (73 + (f_row (10 + a).toNatClampNeg)).toNatClampNeg) - r2)) (16 + a).toNatClampNeg) + r2).toInt64.toInt32) (7 : Int32).toNatClampNeg) + 1)) = (Int32.toInt ((upd (upd f_row (73 + (f_row (10 + a).toNatClampNeg)).toNatClampNeg ((f_row (73 + (f_row (10 + a).toNatClampNeg)).toNatClampNeg) - r2)) (16 + a).toNatClampNeg (((upd f_row (73 + (f_row (10 + a).toNatClampNeg)).toNatClampNeg ((f_row (73 + (f_row (10 + a).toNatClampNeg)).toNatClampNeg) - r2)) (16 + a).toNatClampNeg) + r2).toInt64.toInt32) (7 : Int32).toNatClampNeg)) + 1 := add_z rfl rfl (by omega) (by omega)
    have R36 : RLW (upd (upd (upd f_row (73 + (f_row (10 + a).toNatClampNeg)).toNatClampNeg ((f_row (73 + (f_row (10 + a).toNatClampNeg)).toNatClampNeg) - r2)) (16 + a).toNatClampNeg (((upd f_row (73 + (f_row (10 + a).toNatClampNeg)).toNatClampNeg ((f_row (73 + (f_row (10 + a).toNatClampNeg)).toNatClampNeg) - r2)) (16 + a).toNatClampNeg) + r2).toInt64.toInt32) 7 (((upd (upd f_row (73 + (f_row (10 + a).toNatClampNeg)).toNatClampNeg ((f_row (73 + (f_row (10 + a).toNatClampNeg)).toNatClampNeg) - r2)) (16 + a).toNatClampNeg (((upd f_row (73 + (f_row (10 + a).toNatClampNeg)).toNatClampNeg ((f_row (73 + (f_row (10 + a).toNatClampNeg)).toNatClampNeg) - r2)) (16 + a).toNatClampNeg) + r2).toInt64.toInt32) (7 : Int32).toNatClampNeg) + 1)) := RLW.up_7 R30 (rfl : ((7 : Nat) : Int) = 7) (by omega) (by omega) (w := (Int32.toInt (((upd (upd f_row (73 + (f_row (10 + a).toNatClampNeg)).toNatClampNeg ((f_row (73 + (f_row (10 + a).toNatClampNeg)).toNatClampNeg) - r2)) (16 + a).toNatClampNeg (((upd f_row (73 + (f_row (10 + a).toNatClampNeg)).toNatClampNeg ((f_row (73 + (f_row (10 + a).toNatClampNeg)).toNatClampNeg) - r2)) (16 + a).toNatClampNeg) + r2).toInt64.toInt32) (7 : Int32).toNatClampNeg) + 1))) rfl (by omega) (by omega)
    exact hq _ _ _ _ _ _ _ _ ⟨⟨by omega, by omega⟩, R36, (by omega), (by unfold haulO; rw [← j13]; unfold haulC; exact (RMw.up (RMw.up (RMw.up e_0 (by first | rfl | (show Int.toNat _ = _; omega)) (by first | rfl | omega | (split <;> omega))) (by first | rfl | (show Int.toNat _ = _; omega)) (by first | rfl | omega | (split <;> omega))) (by first | rfl | (show Int.toNat _ = _; omega)) (by first | rfl | omega | (split <;> omega)))), (RML.up (RML.up (RML.up e_1 (tnz (x := (Int32.toInt (73 + (f_row (10 + a).toNatClampNeg)))) rfl (by omega)) (by omega) (by omega)) (tnz (x := (Int32.toInt (16 + a))) rfl (by omega)) (by omega) (by omega)) (rfl : ((7 : Nat) : Int) = 7) (by omega) (by omega))⟩
  · refine br0 c23 ?_
    have d37 := c_nle (x := (Int64.toInt (((upd f_row (73 + (f_row (10 + a).toNatClampNeg)).toNatClampNeg ((f_row (73 + (f_row (10 + a).toNatClampNeg)).toNatClampNeg) - r2)) (16 + a).toNatClampNeg) + r2).toInt64)) (y := 9999) rfl rfl c23
    refine ⟨vpi (x := (Int32.toInt (16 + a))) rfl (by omega) (by omega), ?_⟩
    have g38 : 0 ≤ (Int32.toInt (f_row (73 + (f_row (10 + a).toNatClampNeg)).toNatClampNeg)) ∧ (Int32.toInt (f_row (73 + (f_row (10 + a).toNatClampNeg)).toNatClampNeg)) ≤ 99 := RLW.at_73 h_f_row (tnz (x := (Int32.toInt (73 + (f_row (10 + a).toNatClampNeg)))) rfl (by omega)) (by omega) (by omega)
    have t39 : (Int32.toInt (f_row (73 + (f_row (10 + a).toNatClampNeg)).toNatClampNeg)) = w (73 + (w (10 + ((Int32.toInt a)).toNat)).toNat) := RMw.z e_0 (i := 73 + (w (10 + ((Int32.toInt a)).toNat)).toNat) (show Int.toNat _ = _ by omega) (by omega)
    have t40 : (Int32.toInt ((f_row (73 + (f_row (10 + a).toNatClampNeg)).toNatClampNeg) - r2)) = (Int32.toInt (f_row (73 + (f_row (10 + a).toNatClampNeg)).toNatClampNeg)) - (Int32.toInt r2) := sub_z rfl rfl (by omega) (by omega)
    have R41 : RLW (upd f_row (73 + (f_row (10 + a).toNatClampNeg)).toNatClampNeg ((f_row (73 + (f_row (10 + a).toNatClampNeg)).toNatClampNeg) - r2)) := RLW.up_73 h_f_row (tnz (x := (Int32.toInt (73 + (f_row (10 + a).toNatClampNeg)))) rfl (by omega)) (by omega) (by omega) (w := (Int32.toInt ((f_row (73 + (f_row (10 + a).toNatClampNeg)).toNatClampNeg) - r2))) rfl (by omega) (by omega)
    have R42 : RLW (upd (upd f_row (73 + (f_row (10 + a).toNatClampNeg)).toNatClampNeg ((f_row (73 + (f_row (10 + a).toNatClampNeg)).toNatClampNeg) - r2)) (16 + a).toNatClampNeg 9999) := RLW.up_16 R41 (tnz (x := (Int32.toInt (16 + a))) rfl (by omega)) (by omega) (by omega) (w := 9999) rfl (by omega) (by omega)
    have g43 : 0 ≤ (Int32.toInt (f_row (7 : Int32).toNatClampNeg)) ∧ (Int32.toInt (f_row (7 : Int32).toNatClampNeg)) ≤ 9999 := RLW.at_7 h_f_row (rfl : ((7 : Nat) : Int) = 7) (by omega) (by omega)
    have t44 : (Int32.toInt (f_row (7 : Int32).toNatClampNeg)) = w (7) := RMw.z e_0 (i := 7) rfl (by omega)
    have t45 : (Int32.toInt ((upd f_row (73 + (f_row (10 + a).toNatClampNeg)).toNatClampNeg ((f_row (73 + (f_row (10 + a).toNatClampNeg)).toNatClampNeg) - r2)) (7 : Int32).toNatClampNeg)) = (Int32.toInt (f_row (7 : Int32).toNatClampNeg)) := congrArg Int32.toInt (pk_un (ne_n (rfl : ((7 : Nat) : Int) = 7) (tnz (x := (Int32.toInt (73 + (f_row (10 + a).toNatClampNeg)))) rfl (by omega)) (by omega)))
    have t46 : (Int32.toInt ((upd (upd f_row (73 + (f_row (10 + a).toNatClampNeg)).toNatClampNeg ((f_row (73 + (f_row (10 + a).toNatClampNeg)).toNatClampNeg) - r2)) (16 + a).toNatClampNeg 9999) (7 : Int32).toNatClampNeg)) = (Int32.toInt ((upd f_row (73 + (f_row (10 + a).toNatClampNeg)).toNatClampNeg ((f_row (73 + (f_row (10 + a).toNatClampNeg)).toNatClampNeg) - r2)) (7 : Int32).toNatClampNeg)) := congrArg Int32.toInt (pk_un (ne_n (rfl : ((7 : Nat) : Int) = 7) (tnz (x := (Int32.toInt (16 + a))) rfl (by omega)) (by omega)))
    have t47 : (Int32.toInt (((upd (upd f_row (73 + (f_row (10 + a).toNatClampNeg)).toNatClampNeg ((f_row (73 + (f_row (10 + a).toNatClampNeg)).toNatClampNeg) - r2)) (16 + a).toNatClampNeg 9999) (7 : Int32).toNatClampNeg) + 1)) = (Int32.toInt ((upd (upd f_row (73 + (f_row (10 + a).toNatClampNeg)).toNatClampNeg ((f_row (73 + (f_row (10 + a).toNatClampNeg)).toNatClampNeg) - r2)) (16 + a).toNatClampNeg 9999) (7 : Int32).toNatClampNeg)) + 1 := add_z rfl rfl (by omega) (by omega)
    have R48 : RLW (upd (upd (upd f_row (73 + (f_row (10 + a).toNatClampNeg)).toNatClampNeg ((f_row (73 + (f_row (10 + a).toNatClampNeg)).toNatClampNeg) - r2)) (16 + a).toNatClampNeg 9999) 7 (((upd (upd f_row (73 + (f_row (10 + a).toNatClampNeg)).toNatClampNeg ((f_row (73 + (f_row (10 + a).toNatClampNeg)).toNatClampNeg) - r2)) (16 + a).toNatClampNeg 9999) (7 : Int32).toNatClampNeg) + 1)) := RLW.up_7 R42 (rfl : ((7 : Nat) : Int) = 7) (by omega) (by omega) (w := (Int32.toInt (((upd (upd f_row (73 + (f_row (10 + a).toNatClampNeg)).toNatClampNeg ((f_row (73 + (f_row (10 + a).toNatClampNeg)).toNatClampNeg) - r2)) (16 + a).toNatClampNeg 9999) (7 : Int32).toNatClampNeg) + 1))) rfl (by omega) (by omega)
    have k49 : Int32.toInt 9999 = 9999 := rfl
    exact hq _ _ _ _ _ _ _ _ ⟨⟨by omega, by omega⟩, R48, (by omega), (by unfold haulO; rw [← j13]; unfold haulC; exact (RMw.up (RMw.up (RMw.up e_0 (by first | rfl | (show Int.toNat _ = _; omega)) (by first | rfl | omega | (split <;> omega))) (by first | rfl | (show Int.toNat _ = _; omega)) (by first | rfl | omega | (split <;> omega))) (by first | rfl | (show Int.toNat _ = _; omega)) (by first | rfl | omega | (split <;> omega)))), (RML.up (RML.up (RML.up e_1 (tnz (x := (Int32.toInt (73 + (f_row (10 + a).toNatClampNeg)))) rfl (by omega)) (by omega) (by omega)) (tnz (x := (Int32.toInt (16 + a))) rfl (by omega)) (by omega) (by omega)) (rfl : ((7 : Nat) : Int) = 7) (by omega) (by omega))⟩


set_option maxRecDepth 100000 in
theorem s_X12_canDigz (a : Int32) (b : Int32) (h0_ordered : Int32) (h0_law : Int32) (h0_broken : Int32) (h0_value : Int64) (h0_sum : Int64) (f_row : Nat → Int32) (f_set : Nat → Int64) (f_nOp : Nat → Int32) (f_nArg : Nat → Int32) (f_rest : Nat → Int64) (f_now : Nat → Int64) {w : Nat → Int} {ls : Nat → List Cls} (h_a : 0 ≤ a.toInt ∧ a.toInt ≤ 5) (h_b : 0 ≤ b.toInt ∧ b.toInt ≤ 2) (h_h0_ordered : 0 ≤ h0_ordered.toInt ∧ h0_ordered.toInt ≤ 0) (h_h0_broken : 0 ≤ h0_broken.toInt ∧ h0_broken.toInt ≤ 1) (h_f_row : RLW f_row) (e_0 : RMw f_row w) (e_1 : RML f_row ls) (e_2 : a.toInt < w 0) {Q : Int32 → (Int32 × Int32 × Int64 × Int64 × (Nat → Int64) × (Nat → Int64)) → Prop} (hq : ∀ (r : Int32) (u_0 : Int32) (u_1 : Int32) (u_2 : Int64) (u_3 : Int64) (u_4 : Nat → Int64) (u_5 : Nat → Int64), (0 ≤ u_1.toInt ∧ u_1.toInt ≤ 1) ∧ (r.toInt = (if 2 ≤ w (113 + (w (10 + (a.toInt).toNat)).toNat) ∨ cbI (w (10 + (a.toInt).toNat)) b.toInt < 0 ∨ w (33 + (cbI (w (10 + (a.toInt).toNat)) b.toInt).toNat) = 1 ∨ pasI (lawW w ls) w a.toInt (cbI (w (10 + (a.toInt).toNat)) b.toInt) = 0 ∨ 9999 < w 7 + digsW (lawW w ls) w a.toInt (cbI (w (10 + (a.toInt).toNat)) b.toInt) then 0 else 1)) → Q r (u_0, u_1, u_2, u_3, u_4, u_5)) : wp_X12_canDig a b h0_ordered h0_law h0_broken h0_value h0_sum f_row f_set f_nOp f_nArg f_rest f_now Q := by
  unfold wp_X12_canDig
  obtain rfl : h0_ordered = 0 := z_eq (y := 0) rfl rfl (by omega)
  have t1 : (Int32.toInt (10 + a)) = 10 + (Int32.toInt a) := add_z rfl rfl (by omega) (by omega)
  refine ⟨vpi (x := (Int32.toInt (10 + a))) rfl (by omega) (by omega), ?_⟩
  have g3 : 0 ≤ (Int32.toInt (f_row (10 + a).toNatClampNeg)) ∧ (Int32.toInt (f_row (10 + a).toNatClampNeg)) ≤ 39 := RLW.at_10 h_f_row (tnz (x := (Int32.toInt (10 + a))) rfl (by omega)) (by omega) (by omega)
  have t4 : (Int32.toInt (f_row (10 + a).toNatClampNeg)) = w (10 + ((Int32.toInt a)).toNat) := RMw.z e_0 (i := 10 + ((Int32.toInt a)).toNat) (show Int.toNat _ = _ by omega) (by omega)
  refine z_cellBy (z := w (10 + ((Int32.toInt a)).toNat)) (by omega) ⟨by omega, by omega⟩ ⟨by omega, by omega⟩ (fun r2 H5 => ?_)
  have j7 := H5.1
  have j6 := H5.2
  refine o_X12_mayDig _ _ _ ?_
  refine o_X12_isSpoilt _ _ _ ?_
  refine ⟨vpi (x := (Int32.toInt (10 + a))) rfl (by omega) (by omega), ?_⟩
  have t8 : (Int32.toInt (113 + (f_row (10 + a).toNatClampNeg))) = 113 + (Int32.toInt (f_row (10 + a).toNatClampNeg)) := add_z rfl rfl (by omega) (by omega)
  refine ⟨vpi (x := (Int32.toInt (113 + (f_row (10 + a).toNatClampNeg)))) rfl (by omega) (by omega), ?_⟩
  by_cases c9 : (f_row (113 + (f_row (10 + a).toNatClampNeg)).toNatClampNeg) = 2
  · refine br1 c9 ?_
    have g10 : 0 ≤ (Int32.toInt (f_row (113 + (f_row (10 + a).toNatClampNeg)).toNatClampNeg)) ∧ (Int32.toInt (f_row (113 + (f_row (10 + a).toNatClampNeg)).toNatClampNeg)) ≤ 3 := RLW.at_113 h_f_row (tnz (x := (Int32.toInt (113 + (f_row (10 + a).toNatClampNeg)))) rfl (by omega)) (by omega) (by omega)
    have t11 : (Int32.toInt (f_row (113 + (f_row (10 + a).toNatClampNeg)).toNatClampNeg)) = w (113 + (w (10 + ((Int32.toInt a)).toNat)).toNat) := RMw.z e_0 (i := 113 + (w (10 + ((Int32.toInt a)).toNat)).toNat) (show Int.toNat _ = _ by omega) (by omega)
    have d12 := eq_z (x := (Int32.toInt (f_row (113 + (f_row (10 + a).toNatClampNeg)).toNatClampNeg))) (y := 2) rfl rfl c9
    refine br0 (by decide) ?_
    refine br1 (by decide) ?_
    have k13 : Int32.toInt 0 = 0 := rfl
    exact hq _ _ _ _ _ _ _ ⟨⟨by omega, by omega⟩, (by rw [← j6]; (repeat' split) <;> omega)⟩
  · refine br0 c9 ?_
    have g14 : 0 ≤ (Int32.toInt (f_row (113 + (f_row (10 + a).toNatClampNeg)).toNatClampNeg)) ∧ (Int32.toInt (f_row (113 + (f_row (10 + a).toNatClampNeg)).toNatClampNeg)) ≤ 3 := RLW.at_113 h_f_row (tnz (x := (Int32.toInt (113 + (f_row (10 + a).toNatClampNeg)))) rfl (by omega)) (by omega) (by omega)
    have t15 : (Int32.toInt (f_row (113 + (f_row (10 + a).toNatClampNeg)).toNatClampNeg)) = w (113 + (w (10 + ((Int32.toInt a)).toNat)).toNat) := RMw.z e_0 (i := 113 + (w (10 + ((Int32.toInt a)).toNat)).toNat) (show Int.toNat _ = _ by omega) (by omega)
    have d16 := ne_z (x := (Int32.toInt (f_row (113 + (f_row (10 + a).toNatClampNeg)).toNatClampNeg))) (y := 2) rfl rfl c9
    refine br1 (by decide) ?_
    refine o_X12_hasFound _ _ _ ?_
    refine ⟨vpi (x := (Int32.toInt (10 + a))) rfl (by omega) (by omega), ?_⟩
    refine ⟨vpi (x := (Int32.toInt (113 + (f_row (10 + a).toNatClampNeg)))) rfl (by omega) (by omega), ?_⟩
    by_cases c17 : (f_row (113 + (f_row (10 + a).toNatClampNeg)).toNatClampNeg) = 3
    · refine br1 c17 ?_
      have d18 := eq_z (x := (Int32.toInt (f_row (113 + (f_row (10 + a).toNatClampNeg)).toNatClampNeg))) (y := 3) rfl rfl c17
      refine br0 (by decide) ?_
      refine br1 (by decide) ?_
      have k19 : Int32.toInt 0 = 0 := rfl
      exact hq _ _ _ _ _ _ _ ⟨⟨by omega, by omega⟩, (by rw [← j6]; (repeat' split) <;> omega)⟩
    · refine br0 c17 ?_
      have d20 := ne_z (x := (Int32.toInt (f_row (113 + (f_row (10 + a).toNatClampNeg)).toNatClampNeg))) (y := 3) rfl rfl c17
      refine br1 (by decide) ?_
      refine br0 (by decide) ?_
      by_cases c21 : r2 = (-1)
      · refine br1 c21 ?_
        have d22 := eq_z (x := (Int32.toInt r2)) (y := (-1)) rfl (by decide) c21
        have k23 : Int32.toInt 0 = 0 := rfl
        exact hq _ _ _ _ _ _ _ ⟨⟨by omega, by omega⟩, (by rw [← j6]; (repeat' split) <;> omega)⟩
      · refine br0 c21 ?_
        have d24 := ne_z (x := (Int32.toInt r2)) (y := (-1)) rfl (by decide) c21
        have t25 : (Int32.toInt (33 + r2)) = 33 + (Int32.toInt r2) := add_z rfl rfl (by omega) (by omega)
        refine ⟨vpi (x := (Int32.toInt (33 + r2))) rfl (by omega) (by omega), ?_⟩
        by_cases c26 : (f_row (33 + r2).toNatClampNeg) = 0
        · refine br1 c26 ?_
          have g27 : 0 ≤ (Int32.toInt (f_row (33 + r2).toNatClampNeg)) ∧ (Int32.toInt (f_row (33 + r2).toNatClampNeg)) ≤ 1 := RLW.at_33 h_f_row (tnz (x := (Int32.toInt (33 + r2))) rfl (by omega)) (by omega) (by omega)
          have t28 : (Int32.toInt (f_row (33 + r2).toNatClampNeg)) = w (33 + ((Int32.toInt r2)).toNat) := RMw.z e_0 (i := 33 + ((Int32.toInt r2)).toNat) (show Int.toNat _ = _ by omega) (by omega)
          have d29 := eq_z (x := (Int32.toInt (f_row (33 + r2).toNatClampNeg))) (y := 0) rfl rfl c26
          refine z_mpass e_1 e_0 h_f_row ⟨by omega, by omega⟩ ⟨by omega, by omega⟩ (fun r30 q31 q32 q33 q34 q35 q36 H37 => ?_)
          have j38 := H37.1
          have j39 := H37.2.1
          have j40 := H37.2.2
          refine un6_i ?_
          by_cases c41 : r30 = 0
          · refine br1 c41 ?_
            have d42 := eq_z (x := (Int32.toInt r30)) (y := 0) rfl rfl c41
            have k43 : Int32.toInt 0 = 0 := rfl
            exact hq _ _ _ _ _ _ _ ⟨⟨by omega, by omega⟩, (by rw [← j6]; (repeat' split) <;> omega)⟩
          · refine br0 c41 ?_
            have d44 := ne_z (x := (Int32.toInt r30)) (y := 0) rfl rfl c41
            refine z_mdigs e_1 e_0 h_f_row ⟨by omega, by omega⟩ ⟨by omega, by omega⟩ (fun r45 q46 q47 q48 q49 q50 q51 H52 => ?_)
            have j53 := H52.1
            have j54 := H52.2.1
            have j55 := H52.2.2
            refine un6_i ?_
            by_cases c56 : 9999 < ((f_row (7 : Int32).toNatClampNeg) + r45)
            · refine br1 c56 ?_
              have g57 : 0 ≤ (Int32.toInt (f_row (7 : Int32).toNatClampNeg)) ∧ (Int32.toInt (f_row (7 : Int32).toNatClampNeg)) ≤ 9999 := RLW.at_7 h_f_row (rfl : ((7 : Nat) : Int) = 7) (by omega) (by omega)
              have t58 : (Int32.toInt (f_row (7 : Int32).toNatClampNeg)) = w (7) := RMw.z e_0 (i := 7) rfl (by omega)
              have t59 : (Int32.toInt ((f_row (7 : Int32).toNatClampNeg) + r45)) = (Int32.toInt (f_row (7 : Int32).toNatClampNeg)) + (Int32.toInt r45) := add_z rfl rfl (by omega) (by omega)
              have d60 := lt_z (x := 9999) (y := (Int32.toInt ((f_row (7 : Int32).toNatClampNeg) + r45))) rfl rfl c56
              have k61 : Int32.toInt 0 = 0 := rfl
              exact hq _ _ _ _ _ _ _ ⟨⟨by omega, by omega⟩, (by rw [← j6]; (repeat' split) <;> omega)⟩
            · refine br0 c56 ?_
              have g62 : 0 ≤ (Int32.toInt (f_row (7 : Int32).toNatClampNeg)) ∧ (Int32.toInt (f_row (7 : Int32).toNatClampNeg)) ≤ 9999 := RLW.at_7 h_f_row (rfl : ((7 : Nat) : Int) = 7) (by omega) (by omega)
              have t63 : (Int32.toInt (f_row (7 : Int32).toNatClampNeg)) = w (7) := RMw.z e_0 (i := 7) rfl (by omega)
              have t64 : (Int32.toInt ((f_row (7 : Int32).toNatClampNeg) + r45)) = (Int32.toInt (f_row (7 : Int32).toNatClampNeg)) + (Int32.toInt r45) := add_z rfl rfl (by omega) (by omega)
              have d65 := nlt_z (x := 9999) (y := (Int32.toInt ((f_row (7 : Int32).toNatClampNeg) + r45))) rfl rfl c56
              have k66 : Int32.toInt 1 = 1 := rfl
              exact hq _ _ _ _ _ _ _ ⟨⟨by omega, by omega⟩, (by rw [← j6]; (repeat' split) <;> omega)⟩
        · refine br0 c26 ?_
          have g67 : 0 ≤ (Int32.toInt (f_row (33 + r2).toNatClampNeg)) ∧ (Int32.toInt (f_row (33 + r2).toNatClampNeg)) ≤ 1 := RLW.at_33 h_f_row (tnz (x := (Int32.toInt (33 + r2))) rfl (by omega)) (by omega) (by omega)
          have t68 : (Int32.toInt (f_row (33 + r2).toNatClampNeg)) = w (33 + ((Int32.toInt r2)).toNat) := RMw.z e_0 (i := 33 + ((Int32.toInt r2)).toNat) (show Int.toNat _ = _ by omega) (by omega)
          have d69 := ne_z (x := (Int32.toInt (f_row (33 + r2).toNatClampNeg))) (y := 0) rfl rfl c26
          have k70 : Int32.toInt 0 = 0 := rfl
          exact hq _ _ _ _ _ _ _ ⟨⟨by omega, by omega⟩, (by rw [← j6]; (repeat' split) <;> omega)⟩


set_option maxRecDepth 100000 in
theorem s_X12_digItz (a : Int32) (b : Int32) (h0_ordered : Int32) (h0_law : Int32) (h0_broken : Int32) (h0_value : Int64) (h0_sum : Int64) (f_row : Nat → Int32) (f_set : Nat → Int64) (f_nOp : Nat → Int32) (f_nArg : Nat → Int32) (f_rest : Nat → Int64) (f_now : Nat → Int64) {w : Nat → Int} {ls : Nat → List Cls} (h_a : 0 ≤ a.toInt ∧ a.toInt ≤ 5) (h_b : 0 ≤ b.toInt ∧ b.toInt ≤ 2) (h_h0_ordered : 0 ≤ h0_ordered.toInt ∧ h0_ordered.toInt ≤ 0) (h_h0_broken : 0 ≤ h0_broken.toInt ∧ h0_broken.toInt ≤ 1) (h_f_row : RLW f_row) (e_0 : RMw f_row w) (e_1 : RML f_row ls) (e_2 : a.toInt < w 0) (e_3 : 0 ≤ cbI (w (10 + (a.toInt).toNat)) b.toInt) (e_4 : w 7 + digsW (lawW w ls) w a.toInt (cbI (w (10 + (a.toInt).toNat)) b.toInt) ≤ 9999) {Q : Int32 → (Int32 × Int32 × Int64 × Int64 × (Nat → Int32) × (Nat → Int64) × (Nat → Int64)) → Prop} (hq : ∀ (r : Int32) (u_0 : Int32) (u_1 : Int32) (u_2 : Int64) (u_3 : Int64) (u_4 : Nat → Int32) (u_5 : Nat → Int64) (u_6 : Nat → Int64), (0 ≤ u_1.toInt ∧ u_1.toInt ≤ 1) ∧ (RLW u_4) ∧ (r.toInt = cbI (w (10 + (a.toInt).toNat)) b.toInt) ∧ (RMw u_4 (digO (lawW w ls) w a.toInt b.toInt)) ∧ (RML u_4 ls) → Q r (u_0, u_1, u_2, u_3, u_4, u_5, u_6)) : wp_X12_digIt a b h0_ordered h0_law h0_broken h0_value h0_sum f_row f_set f_nOp f_nArg f_rest f_now Q := by
  unfold wp_X12_digIt
  obtain rfl : h0_ordered = 0 := z_eq (y := 0) rfl rfl (by omega)
  have t1 : (Int32.toInt (10 + a)) = 10 + (Int32.toInt a) := add_z rfl rfl (by omega) (by omega)
  refine ⟨vpi (x := (Int32.toInt (10 + a))) rfl (by omega) (by omega), ?_⟩
  have g3 : 0 ≤ (Int32.toInt (f_row (10 + a).toNatClampNeg)) ∧ (Int32.toInt (f_row (10 + a).toNatClampNeg)) ≤ 39 := RLW.at_10 h_f_row (tnz (x := (Int32.toInt (10 + a))) rfl (by omega)) (by omega) (by omega)
  have t4 : (Int32.toInt (f_row (10 + a).toNatClampNeg)) = w (10 + ((Int32.toInt a)).toNat) := RMw.z e_0 (i := 10 + ((Int32.toInt a)).toNat) (show Int.toNat _ = _ by omega) (by omega)
  refine z_cellBy (z := w (10 + ((Int32.toInt a)).toNat)) (by omega) ⟨by omega, by omega⟩ ⟨by omega, by omega⟩ (fun r2 H5 => ?_)
  have j7 := H5.1
  have j6 := H5.2
  have t8 : 0 ≤ (Int32.toInt r2) := by omega
  refine z_mdigs e_1 e_0 h_f_row ⟨by omega, by omega⟩ ⟨by omega, by omega⟩ (fun r9 q10 q11 q12 q13 q14 q15 H16 => ?_)
  have j17 := H16.1
  have j18 := H16.2.1
  have j19 := H16.2.2
  have j20 := j18
  rw [j6] at j20
  refine un6_i ?_
  have t21 : (Int32.toInt (33 + r2)) = 33 + (Int32.toInt r2) := add_z rfl rfl (by omega) (by omega)
  refine ⟨vpi (x := (Int32.toInt (33 + r2))) rfl (by omega) (by omega), ?_⟩
  refine ⟨vpi (x := (Int32.toInt (10 + a))) rfl (by omega) (by omega), ?_⟩
  have g22 : 0 ≤ (Int32.toInt (f_row (7 : Int32).toNatClampNeg)) ∧ (Int32.toInt (f_row (7 : Int32).toNatClampNeg)) ≤ 9999 := RLW.at_7 h_f_row (rfl : ((7 : Nat) : Int) = 7) (by omega) (by omega)
  have t23 : (Int32.toInt (f_row (7 : Int32).toNatClampNeg)) = w (7) := RMw.z e_0 (i := 7) rfl (by omega)
  have t24 : (Int32.toInt ((f_row (7 : Int32).toNatClampNeg) + r9)) = (Int32.toInt (f_row (7 : Int32).toNatClampNeg)) + (Int32.toInt r9) := add_z rfl rfl (by omega) (by omega)
  have R25 : RLW (upd f_row 7 ((f_row (7 : Int32).toNatClampNeg) + r9)) := RLW.up_7 h_f_row (rfl : ((7 : Nat) : Int) = 7) (by omega) (by omega) (w := (Int32.toInt ((f_row (7 : Int32).toNatClampNeg) + r9))) rfl (by omega) (by omega)
  have R26 : RLW (upd (upd f_row 7 ((f_row (7 : Int32).toNatClampNeg) + r9)) (33 + r2).toNatClampNeg 1) := RLW.up_33 R25 (tnz (x := (Int32.toInt (33 + r2))) rfl (by omega)) (by omega) (by omega) (w := 1) rfl (by omega) (by omega)
  have R27 : RLW (upd (upd (upd f_row 7 ((f_row (7 : Int32).toNatClampNeg) + r9)) (33 + r2).toNatClampNeg 1) (10 + a).toNatClampNeg r2) := RLW.up_10 R26 (tnz (x := (Int32.toInt (10 + a))) rfl (by omega)) (by omega) (by omega) (w := (Int32.toInt r2)) rfl (by omega) (by omega)
  have k28 : Int32.toInt 1 = 1 := rfl
  exact hq _ _ _ _ _ _ _ _ ⟨⟨by omega, by omega⟩, R27, (by exact j6), (by unfold digO; rw [← j6]; rw [← j18]; unfold digC; exact (RMw.up (RMw.up (RMw.up e_0 (by first | rfl | (show Int.toNat _ = _; omega)) (by first | rfl | omega | (split <;> omega))) (by first | rfl | (show Int.toNat _ = _; omega)) (by first | rfl | omega | (split <;> omega))) (by first | rfl | (show Int.toNat _ = _; omega)) (by first | rfl | omega | (split <;> omega)))), (RML.up (RML.up (RML.up e_1 (rfl : ((7 : Nat) : Int) = 7) (by omega) (by omega)) (tnz (x := (Int32.toInt (33 + r2))) rfl (by omega)) (by omega) (by omega)) (tnz (x := (Int32.toInt (10 + a))) rfl (by omega)) (by omega) (by omega))⟩

