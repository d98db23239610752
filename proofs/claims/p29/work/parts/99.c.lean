set_option maxRecDepth 100000 in
theorem s_X12_saysOf (a : Int32) (b : Int32) (h0_ordered : Int32) (h0_law : Int32) (h0_broken : Int32) (h0_value : Int64) (h0_sum : Int64) (f_row : Nat → Int32) (f_set : Nat → Int64) (f_nOp : Nat → Int32) (f_nArg : Nat → Int32) (f_rest : Nat → Int64) (f_now : Nat → Int64) (h_a : 0 ≤ a.toInt ∧ a.toInt ≤ 39) (h_h0_ordered : 0 ≤ h0_ordered.toInt ∧ h0_ordered.toInt ≤ 0) (h_h0_broken : 0 ≤ h0_broken.toInt ∧ h0_broken.toInt ≤ 1) (h_f_row : RLW f_row) {Q : Int32 → (Int32 × Int32 × Int64 × Int64 × (Nat → Int64) × (Nat → Int64)) → Prop} (hq : ∀ (r : Int32) (u_0 : Int32) (u_1 : Int32) (u_2 : Int64) (u_3 : Int64) (u_4 : Nat → Int64) (u_5 : Nat → Int64), (0 ≤ r.toInt ∧ r.toInt ≤ 99) ∧ (0 ≤ u_1.toInt ∧ u_1.toInt ≤ 1) → Q r (u_0, u_1, u_2, u_3, u_4, u_5)) : wp_X12_saysOf a b h0_ordered h0_law h0_broken h0_value h0_sum f_row f_set f_nOp f_nArg f_rest f_now Q := by
  unfold wp_X12_saysOf
  refine s_X12_tells 0 a b (-1) 20 h0_ordered h0_law h0_broken h0_value h0_sum (f_row) (f_set) (f_nOp) (f_nArg) (f_rest) (f_now) ⟨by omega, by omega⟩ ⟨by omega, by omega⟩ ⟨by omega, by omega⟩ h_f_row (fun r1 u2_0 u2_1 u2_2 u2_3 u2_4 u2_5 H3 => ?_)
  have j4 := H3
  refine un6_i ?_
  refine o_X12_within _ _ _ _ ?_
  by_cases c5 : 0 ≤ (lg_cmp r1 ((0 : Int32).toInt64 : Int64))
  · refine br1 c5 ?_
    have d6 := c_ge (x := (Int64.toInt r1)) (y := 0) rfl rfl c5
    by_cases c7 : (lg_cmp r1 ((99 : Int32).toInt64 : Int64)) ≤ 0
    · refine br1 c7 ?_
      have d8 := c_le (x := (Int64.toInt r1)) (y := 99) rfl rfl c7
      have t9 : (Int32.toInt r1.toInt32) = (Int64.toInt r1) := l2i_z rfl (by omega) (by omega)
      exact hq _ _ _ _ _ _ _ ⟨⟨by omega, by omega⟩, ⟨by omega, by omega⟩⟩
    · refine br0 c7 ?_
      have d10 := c_nle (x := (Int64.toInt r1)) (y := 99) rfl rfl c7
      exact hq _ _ _ _ _ _ _ ⟨(by decide), ⟨by omega, by omega⟩⟩
  · refine br0 c5 ?_
    have d11 := c_nge (x := (Int64.toInt r1)) (y := 0) rfl rfl c5
    exact hq _ _ _ _ _ _ _ ⟨(by decide), ⟨by omega, by omega⟩⟩


set_option maxRecDepth 100000 in
theorem s_X12_losesOf (a : Int32) (b : Int32) (h0_ordered : Int32) (h0_law : Int32) (h0_broken : Int32) (h0_value : Int64) (h0_sum : Int64) (f_row : Nat → Int32) (f_set : Nat → Int64) (f_nOp : Nat → Int32) (f_nArg : Nat → Int32) (f_rest : Nat → Int64) (f_now : Nat → Int64) (h_a : 0 ≤ a.toInt ∧ a.toInt ≤ 39) (h_h0_ordered : 0 ≤ h0_ordered.toInt ∧ h0_ordered.toInt ≤ 0) (h_h0_broken : 0 ≤ h0_broken.toInt ∧ h0_broken.toInt ≤ 1) (h_f_row : RLW f_row) {Q : Int32 → (Int32 × Int32 × Int64 × Int64 × (Nat → Int64) × (Nat → Int64)) → Prop} (hq : ∀ (r : Int32) (u_0 : Int32) (u_1 : Int32) (u_2 : Int64) (u_3 : Int64) (u_4 : Nat → Int64) (u_5 : Nat → Int64), (0 ≤ r.toInt ∧ r.toInt ≤ 9) ∧ (0 ≤ u_1.toInt ∧ u_1.toInt ≤ 1) → Q r (u_0, u_1, u_2, u_3, u_4, u_5)) : wp_X12_losesOf a b h0_ordered h0_law h0_broken h0_value h0_sum f_row f_set f_nOp f_nArg f_rest f_now Q := by
  unfold wp_X12_losesOf
  refine s_X12_tells 1 a b (-1) 2 h0_ordered h0_law h0_broken h0_value h0_sum (f_row) (f_set) (f_nOp) (f_nArg) (f_rest) (f_now) ⟨by omega, by omega⟩ ⟨by omega, by omega⟩ ⟨by omega, by omega⟩ h_f_row (fun r1 u2_0 u2_1 u2_2 u2_3 u2_4 u2_5 H3 => ?_)
  have j4 := H3
  refine un6_i ?_
  refine o_X12_within _ _ _ _ ?_
  by_cases c5 : 0 ≤ (lg_cmp r1 ((0 : Int32).toInt64 : Int64))
  · refine br1 c5 ?_
    have d6 := c_ge (x := (Int64.toInt r1)) (y := 0) rfl rfl c5
    by_cases c7 : (lg_cmp r1 ((9 : Int32).toInt64 : Int64)) ≤ 0
    · refine br1 c7 ?_
      have d8 := c_le (x := (Int64.toInt r1)) (y := 9) rfl rfl c7
      have t9 : (Int32.toInt r1.toInt32) = (Int64.toInt r1) := l2i_z rfl (by omega) (by omega)
      exact hq _ _ _ _ _ _ _ ⟨⟨by omega, by omega⟩, ⟨by omega, by omega⟩⟩
    · refine br0 c7 ?_
      have d10 := c_nle (x := (Int64.toInt r1)) (y := 9) rfl rfl c7
      exact hq _ _ _ _ _ _ _ ⟨(by decide), ⟨by omega, by omega⟩⟩
  · refine br0 c5 ?_
    have d11 := c_nge (x := (Int64.toInt r1)) (y := 0) rfl rfl c5
    exact hq _ _ _ _ _ _ _ ⟨(by decide), ⟨by omega, by omega⟩⟩


set_option maxRecDepth 100000 in
theorem s_X12_digsOf (a : Int32) (b : Int32) (h0_ordered : Int32) (h0_law : Int32) (h0_broken : Int32) (h0_value : Int64) (h0_sum : Int64) (f_row : Nat → Int32) (f_set : Nat → Int64) (f_nOp : Nat → Int32) (f_nArg : Nat → Int32) (f_rest : Nat → Int64) (f_now : Nat → Int64) (h_b : 0 ≤ b.toInt ∧ b.toInt ≤ 39) (h_h0_ordered : 0 ≤ h0_ordered.toInt ∧ h0_ordered.toInt ≤ 0) (h_h0_broken : 0 ≤ h0_broken.toInt ∧ h0_broken.toInt ≤ 1) (h_f_row : RLW f_row) {Q : Int32 → (Int32 × Int32 × Int64 × Int64 × (Nat → Int64) × (Nat → Int64)) → Prop} (hq : ∀ (r : Int32) (u_0 : Int32) (u_1 : Int32) (u_2 : Int64) (u_3 : Int64) (u_4 : Nat → Int64) (u_5 : Nat → Int64), (1 ≤ r.toInt ∧ r.toInt ≤ 99) ∧ (0 ≤ u_1.toInt ∧ u_1.toInt ≤ 1) → Q r (u_0, u_1, u_2, u_3, u_4, u_5)) : wp_X12_digsOf a b h0_ordered h0_law h0_broken h0_value h0_sum f_row f_set f_nOp f_nArg f_rest f_now Q := by
  unfold wp_X12_digsOf
  have t1 : (Int32.toInt (113 + b)) = 113 + (Int32.toInt b) := add_z rfl rfl (by omega) (by omega)
  refine ⟨vpi (x := (Int32.toInt (113 + b))) rfl (by omega) (by omega), ?_⟩
  have t2 : (Int32.toInt (153 + b)) = 153 + (Int32.toInt b) := add_z rfl rfl (by omega) (by omega)
  refine ⟨vpi (x := (Int32.toInt (153 + b))) rfl (by omega) (by omega), ?_⟩
  refine s_X12_tells 2 b (f_row (113 + b).toNatClampNeg) a (f_row (153 + b).toNatClampNeg).toInt64 h0_ordered h0_law h0_broken h0_value h0_sum (f_row) (f_set) (f_nOp) (f_nArg) (f_rest) (f_now) ⟨by omega, by omega⟩ ⟨by omega, by omega⟩ ⟨by omega, by omega⟩ h_f_row (fun r3 u4_0 u4_1 u4_2 u4_3 u4_4 u4_5 H5 => ?_)
  have j6 := H5
  refine un6_i ?_
  refine o_X12_within _ _ _ _ ?_
  by_cases c7 : 0 ≤ (lg_cmp r3 ((1 : Int32).toInt64 : Int64))
  · refine br1 c7 ?_
    have d8 := c_ge (x := (Int64.toInt r3)) (y := 1) rfl rfl c7
    by_cases c9 : (lg_cmp r3 ((99 : Int32).toInt64 : Int64)) ≤ 0
    · refine br1 c9 ?_
      have d10 := c_le (x := (Int64.toInt r3)) (y := 99) rfl rfl c9
      have t11 : (Int32.toInt r3.toInt32) = (Int64.toInt r3) := l2i_z rfl (by omega) (by omega)
      exact hq _ _ _ _ _ _ _ ⟨⟨by omega, by omega⟩, ⟨by omega, by omega⟩⟩
    · refine br0 c9 ?_
      have d12 := c_nle (x := (Int64.toInt r3)) (y := 99) rfl rfl c9
      exact hq _ _ _ _ _ _ _ ⟨(by decide), ⟨by omega, by omega⟩⟩
  · refine br0 c7 ?_
    have d13 := c_nge (x := (Int64.toInt r3)) (y := 1) rfl rfl c7
    exact hq _ _ _ _ _ _ _ ⟨(by decide), ⟨by omega, by omega⟩⟩


set_option maxRecDepth 100000 in
theorem s_X12_givesOf (a : Int32) (b : Int32) (h0_ordered : Int32) (h0_law : Int32) (h0_broken : Int32) (h0_value : Int64) (h0_sum : Int64) (f_row : Nat → Int32) (f_set : Nat → Int64) (f_nOp : Nat → Int32) (f_nArg : Nat → Int32) (f_rest : Nat → Int64) (f_now : Nat → Int64) (h_b : 0 ≤ b.toInt ∧ b.toInt ≤ 39) (h_h0_ordered : 0 ≤ h0_ordered.toInt ∧ h0_ordered.toInt ≤ 0) (h_h0_broken : 0 ≤ h0_broken.toInt ∧ h0_broken.toInt ≤ 1) (h_f_row : RLW f_row) {Q : Int32 → (Int32 × Int32 × Int64 × Int64 × (Nat → Int64) × (Nat → Int64)) → Prop} (hq : ∀ (r : Int32) (u_0 : Int32) (u_1 : Int32) (u_2 : Int64) (u_3 : Int64) (u_4 : Nat → Int64) (u_5 : Nat → Int64), (0 ≤ r.toInt ∧ r.toInt ≤ 99) ∧ (0 ≤ u_1.toInt ∧ u_1.toInt ≤ 1) → Q r (u_0, u_1, u_2, u_3, u_4, u_5)) : wp_X12_givesOf a b h0_ordered h0_law h0_broken h0_value h0_sum f_row f_set f_nOp f_nArg f_rest f_now Q := by
  unfold wp_X12_givesOf
  have t1 : (Int32.toInt (113 + b)) = 113 + (Int32.toInt b) := add_z rfl rfl (by omega) (by omega)
  refine ⟨vpi (x := (Int32.toInt (113 + b))) rfl (by omega) (by omega), ?_⟩
  refine s_X12_tells 3 b (f_row (113 + b).toNatClampNeg) a 5 h0_ordered h0_law h0_broken h0_value h0_sum (f_row) (f_set) (f_nOp) (f_nArg) (f_rest) (f_now) ⟨by omega, by omega⟩ ⟨by omega, by omega⟩ ⟨by omega, by omega⟩ h_f_row (fun r2 u3_0 u3_1 u3_2 u3_3 u3_4 u3_5 H4 => ?_)
  have j5 := H4
  refine un6_i ?_
  refine o_X12_within _ _ _ _ ?_
  by_cases c6 : 0 ≤ (lg_cmp r2 ((0 : Int32).toInt64 : Int64))
  · refine br1 c6 ?_
    have d7 := c_ge (x := (Int64.toInt r2)) (y := 0) rfl rfl c6
    by_cases c8 : (lg_cmp r2 ((99 : Int32).toInt64 : Int64)) ≤ 0
    · refine br1 c8 ?_
      have d9 := c_le (x := (Int64.toInt r2)) (y := 99) rfl rfl c8
      have t10 : (Int32.toInt (73 + b)) = 73 + (Int32.toInt b) := add_z rfl rfl (by omega) (by omega)
      refine ⟨vpi (x := (Int32.toInt (73 + b))) rfl (by omega) (by omega), ?_⟩
      by_cases c11 : (f_row (73 + b).toNatClampNeg) ≤ r2.toInt32
      · refine br1 c11 ?_
        have g12 : 0 ≤ (Int32.toInt (f_row (73 + b).toNatClampNeg)) ∧ (Int32.toInt (f_row (73 + b).toNatClampNeg)) ≤ 99 := RLW.at_73 h_f_row (tnz (x := (Int32.toInt (73 + b))) rfl (by omega)) (by omega) (by omega)
        have t13 : (Int32.toInt r2.toInt32) = (Int64.toInt r2) := l2i_z rfl (by omega) (by omega)
        have d14 := le_z (x := (Int32.toInt (f_row (73 + b).toNatClampNeg))) (y := (Int32.toInt r2.toInt32)) rfl rfl c11
        refine ⟨vpi (x := (Int32.toInt (73 + b))) rfl (by omega) (by omega), ?_⟩
        exact hq _ _ _ _ _ _ _ ⟨⟨by omega, by omega⟩, ⟨by omega, by omega⟩⟩
      · refine br0 c11 ?_
        have g15 : 0 ≤ (Int32.toInt (f_row (73 + b).toNatClampNeg)) ∧ (Int32.toInt (f_row (73 + b).toNatClampNeg)) ≤ 99 := RLW.at_73 h_f_row (tnz (x := (Int32.toInt (73 + b))) rfl (by omega)) (by omega) (by omega)
        have t16 : (Int32.toInt r2.toInt32) = (Int64.toInt r2) := l2i_z rfl (by omega) (by omega)
        have d17 := nle_z (x := (Int32.toInt (f_row (73 + b).toNatClampNeg))) (y := (Int32.toInt r2.toInt32)) rfl rfl c11
        exact hq _ _ _ _ _ _ _ ⟨⟨by omega, by omega⟩, ⟨by omega, by omega⟩⟩
    · refine br0 c8 ?_
      have d18 := c_nle (x := (Int64.toInt r2)) (y := 99) rfl rfl c8
      have t19 : (Int32.toInt (73 + b)) = 73 + (Int32.toInt b) := add_z rfl rfl (by omega) (by omega)
      refine ⟨vpi (x := (Int32.toInt (73 + b))) rfl (by omega) (by omega), ?_⟩
      have g20 : 0 ≤ (Int32.toInt (f_row (73 + b).toNatClampNeg)) ∧ (Int32.toInt (f_row (73 + b).toNatClampNeg)) ≤ 99 := RLW.at_73 h_f_row (tnz (x := (Int32.toInt (73 + b))) rfl (by omega)) (by omega) (by omega)
      refine br1 (z_le (x := (Int32.toInt (f_row (73 + b).toNatClampNeg))) (y := 99) rfl rfl (by omega)) ?_
      refine ⟨vpi (x := (Int32.toInt (73 + b))) rfl (by omega) (by omega), ?_⟩
      exact hq _ _ _ _ _ _ _ ⟨⟨by omega, by omega⟩, ⟨by omega, by omega⟩⟩
  · refine br0 c6 ?_
    have d21 := c_nge (x := (Int64.toInt r2)) (y := 0) rfl rfl c6
    have t22 : (Int32.toInt (73 + b)) = 73 + (Int32.toInt b) := add_z rfl rfl (by omega) (by omega)
    refine ⟨vpi (x := (Int32.toInt (73 + b))) rfl (by omega) (by omega), ?_⟩
    by_cases c23 : (f_row (73 + b).toNatClampNeg) ≤ 0
    · refine br1 c23 ?_
      have g24 : 0 ≤ (Int32.toInt (f_row (73 + b).toNatClampNeg)) ∧ (Int32.toInt (f_row (73 + b).toNatClampNeg)) ≤ 99 := RLW.at_73 h_f_row (tnz (x := (Int32.toInt (73 + b))) rfl (by omega)) (by omega) (by omega)
      have d25 := le_z (x := (Int32.toInt (f_row (73 + b).toNatClampNeg))) (y := 0) rfl rfl c23
      refine ⟨vpi (x := (Int32.toInt (73 + b))) rfl (by omega) (by omega), ?_⟩
      exact hq _ _ _ _ _ _ _ ⟨⟨by omega, by omega⟩, ⟨by omega, by omega⟩⟩
    · refine br0 c23 ?_
      have g26 : 0 ≤ (Int32.toInt (f_row (73 + b).toNatClampNeg)) ∧ (Int32.toInt (f_row (73 + b).toNatClampNeg)) ≤ 99 := RLW.at_73 h_f_row (tnz (x := (Int32.toInt (73 + b))) rfl (by omega)) (by omega) (by omega)
      have d27 := nle_z (x := (Int32.toInt (f_row (73 + b).toNatClampNeg))) (y := 0) rfl rfl c23
      exact hq _ _ _ _ _ _ _ ⟨(by decide), ⟨by omega, by omega⟩⟩


set_option maxRecDepth 100000 in
theorem s_X12_isPassed (a : Int32) (b : Int32) (h0_ordered : Int32) (h0_law : Int32) (h0_broken : Int32) (h0_value : Int64) (h0_sum : Int64) (f_row : Nat → Int32) (f_set : Nat → Int64) (f_nOp : Nat → Int32) (f_nArg : Nat → Int32) (f_rest : Nat → Int64) (f_now : Nat → Int64) (h_b : 0 ≤ b.toInt ∧ b.toInt ≤ 39) (h_h0_ordered : 0 ≤ h0_ordered.toInt ∧ h0_ordered.toInt ≤ 0) (h_h0_broken : 0 ≤ h0_broken.toInt ∧ h0_broken.toInt ≤ 1) (h_f_row : RLW f_row) {Q : Int32 → (Int32 × Int32 × Int64 × Int64 × (Nat → Int64) × (Nat → Int64)) → Prop} (hq : ∀ (r : Int32) (u_0 : Int32) (u_1 : Int32) (u_2 : Int64) (u_3 : Int64) (u_4 : Nat → Int64) (u_5 : Nat → Int64), (0 ≤ r.toInt ∧ r.toInt ≤ 1) ∧ (0 ≤ u_1.toInt ∧ u_1.toInt ≤ 1) → Q r (u_0, u_1, u_2, u_3, u_4, u_5)) : wp_X12_isPassed a b h0_ordered h0_law h0_broken h0_value h0_sum f_row f_set f_nOp f_nArg f_rest f_now Q := by
  unfold wp_X12_isPassed
  have t1 : (Int32.toInt (113 + b)) = 113 + (Int32.toInt b) := add_z rfl rfl (by omega) (by omega)
  refine ⟨vpi (x := (Int32.toInt (113 + b))) rfl (by omega) (by omega), ?_⟩
  by_cases c2 : (f_row (113 + b).toNatClampNeg) = 1
  · refine br1 c2 ?_
    have g3 : 0 ≤ (Int32.toInt (f_row (113 + b).toNatClampNeg)) ∧ (Int32.toInt (f_row (113 + b).toNatClampNeg)) ≤ 3 := RLW.at_113 h_f_row (tnz (x := (Int32.toInt (113 + b))) rfl (by omega)) (by omega) (by omega)
    have d4 := eq_z (x := (Int32.toInt (f_row (113 + b).toNatClampNeg))) (y := 1) rfl rfl c2
    refine s_X12_tells 4 b 1 a 0 h0_ordered h0_law h0_broken h0_value h0_sum (f_row) (f_set) (f_nOp) (f_nArg) (f_rest) (f_now) ⟨by omega, by omega⟩ ⟨by omega, by omega⟩ ⟨by omega, by omega⟩ h_f_row (fun r5 u6_0 u6_1 u6_2 u6_3 u6_4 u6_5 H7 => ?_)
    have j8 := H7
    refine un6_i ?_
    by_cases c9 : (lg_cmp r5 1) = 0
    · refine br1 c9 ?_
      have d10 := c_eq (x := (Int64.toInt r5)) (y := 1) rfl rfl c9
      exact hq _ _ _ _ _ _ _ ⟨(by decide), ⟨by omega, by omega⟩⟩
    · refine br0 c9 ?_
      have d11 := c_ne (x := (Int64.toInt r5)) (y := 1) rfl rfl c9
      exact hq _ _ _ _ _ _ _ ⟨(by decide), ⟨by omega, by omega⟩⟩
  · refine br0 c2 ?_
    have g12 : 0 ≤ (Int32.toInt (f_row (113 + b).toNatClampNeg)) ∧ (Int32.toInt (f_row (113 + b).toNatClampNeg)) ≤ 3 := RLW.at_113 h_f_row (tnz (x := (Int32.toInt (113 + b))) rfl (by omega)) (by omega) (by omega)
    have d13 := ne_z (x := (Int32.toInt (f_row (113 + b).toNatClampNeg))) (y := 1) rfl rfl c2
    exact hq _ _ _ _ _ _ _ ⟨(by decide), ⟨by omega, by omega⟩⟩


set_option maxRecDepth 100000 in
theorem s_X12_at (a : Int32) (b : Int32) (h0_ordered : Int32) (h0_law : Int32) (h0_broken : Int32) (h0_value : Int64) (h0_sum : Int64) (f_row : Nat → Int32) (f_set : Nat → Int64) (f_nOp : Nat → Int32) (f_nArg : Nat → Int32) (f_rest : Nat → Int64) (f_now : Nat → Int64) (h_h0_ordered : 0 ≤ h0_ordered.toInt ∧ h0_ordered.toInt ≤ 0) (h_h0_broken : 0 ≤ h0_broken.toInt ∧ h0_broken.toInt ≤ 1) (h_f_row : RLW f_row) {Q : Int32 → (Int32 × Int32 × Int32 × Int64 × Int64 × (Nat → Int64) × (Nat → Int64)) → Prop} (hq : ∀ (r : Int32) (u_0 : Int32) (u_1 : Int32) (u_2 : Int32) (u_3 : Int64) (u_4 : Int64) (u_5 : Nat → Int64) (u_6 : Nat → Int64), (0 ≤ u_2.toInt ∧ u_2.toInt ≤ 1) → Q r (u_0, u_1, u_2, u_3, u_4, u_5, u_6)) : wp_X12_at a b h0_ordered h0_law h0_broken h0_value h0_sum f_row f_set f_nOp f_nArg f_rest f_now Q := by
  unfold wp_X12_at
  refine o_X12_isCell _ _ ?_
  refine o_X12_in _ _ _ _ ?_
  by_cases c1 : (lg_cmp a.toInt64 0) < 0
  · refine br1 c1 ?_
    have t2 : (Int64.toInt a.toInt64) = (Int32.toInt a) := i2l_z rfl
    have d3 := c_lt (x := (Int64.toInt a.toInt64)) (y := 0) rfl rfl c1
    refine br1 (by decide) ?_
    exact hq _ _ _ _ _ _ _ _ ⟨by omega, by omega⟩
  · refine br0 c1 ?_
    have t4 : (Int64.toInt a.toInt64) = (Int32.toInt a) := i2l_z rfl
    have d5 := c_nlt (x := (Int64.toInt a.toInt64)) (y := 0) rfl rfl c1
    by_cases c6 : 0 < (lg_cmp a.toInt64 39)
    · refine br1 c6 ?_
      have d7 := c_gt (x := (Int64.toInt a.toInt64)) (y := 39) rfl rfl c6
      refine br1 (by decide) ?_
      exact hq _ _ _ _ _ _ _ _ ⟨by omega, by omega⟩
    · refine br0 c6 ?_
      have d8 := c_ngt (x := (Int64.toInt a.toInt64)) (y := 39) rfl rfl c6
      refine br0 (by decide) ?_
      by_cases c9 : b = 0
      · refine br1 c9 ?_
        have d10 := eq_z (x := (Int32.toInt b)) (y := 0) rfl rfl c9
        refine o_X12_placeOf _ _ ?_
        refine br1 (z_eq (x := (Int32.toInt b)) (y := 0) rfl rfl (by omega)) ?_
        have t11 : (Int32.toInt (113 + a)) = 113 + (Int32.toInt a) := add_z rfl rfl (by omega) (by omega)
        refine ⟨vpi (x := (Int32.toInt (113 + a))) rfl (by omega) (by omega), ?_⟩
        have g12 : 0 ≤ (Int32.toInt (f_row (113 + a).toNatClampNeg)) ∧ (Int32.toInt (f_row (113 + a).toNatClampNeg)) ≤ 3 := RLW.at_113 h_f_row (tnz (x := (Int32.toInt (113 + a))) rfl (by omega)) (by omega) (by omega)
        exact hq _ _ _ _ _ _ _ _ ⟨by omega, by omega⟩
      · refine br0 c9 ?_
        have d13 := ne_z (x := (Int32.toInt b)) (y := 0) rfl rfl c9
        by_cases c14 : b = 1
        · refine br1 c14 ?_
          have d15 := eq_z (x := (Int32.toInt b)) (y := 1) rfl rfl c14
          refine o_X12_placeOf _ _ ?_
          refine br0 (z_ne (x := (Int32.toInt b)) (y := 0) rfl rfl (by omega)) ?_
          refine br1 (z_eq (x := (Int32.toInt b)) (y := 1) rfl rfl (by omega)) ?_
          have t16 : (Int32.toInt (153 + a)) = 153 + (Int32.toInt a) := add_z rfl rfl (by omega) (by omega)
          refine ⟨vpi (x := (Int32.toInt (153 + a))) rfl (by omega) (by omega), ?_⟩
          have g17 : 1 ≤ (Int32.toInt (f_row (153 + a).toNatClampNeg)) ∧ (Int32.toInt (f_row (153 + a).toNatClampNeg)) ≤ 9 := RLW.at_153 h_f_row (tnz (x := (Int32.toInt (153 + a))) rfl (by omega)) (by omega) (by omega)
          exact hq _ _ _ _ _ _ _ _ ⟨by omega, by omega⟩
        · refine br0 c14 ?_
          have d18 := ne_z (x := (Int32.toInt b)) (y := 1) rfl rfl c14
          by_cases c19 : b = 2
          · refine br1 c19 ?_
            have d20 := eq_z (x := (Int32.toInt b)) (y := 2) rfl rfl c19
            refine o_X12_placeOf _ _ ?_
            refine br0 (z_ne (x := (Int32.toInt b)) (y := 0) rfl rfl (by omega)) ?_
            refine br0 (z_ne (x := (Int32.toInt b)) (y := 1) rfl rfl (by omega)) ?_
            have t21 : (Int32.toInt (73 + a)) = 73 + (Int32.toInt a) := add_z rfl rfl (by omega) (by omega)
            refine ⟨vpi (x := (Int32.toInt (73 + a))) rfl (by omega) (by omega), ?_⟩
            have g22 : 0 ≤ (Int32.toInt (f_row (73 + a).toNatClampNeg)) ∧ (Int32.toInt (f_row (73 + a).toNatClampNeg)) ≤ 99 := RLW.at_73 h_f_row (tnz (x := (Int32.toInt (73 + a))) rfl (by omega)) (by omega) (by omega)
            exact hq _ _ _ _ _ _ _ _ ⟨by omega, by omega⟩
          · refine br0 c19 ?_
            have d23 := ne_z (x := (Int32.toInt b)) (y := 2) rfl rfl c19
            by_cases c24 : b = 3
            · refine br1 c24 ?_
              have d25 := eq_z (x := (Int32.toInt b)) (y := 3) rfl rfl c24
              have t26 : (Int32.toInt (33 + a)) = 33 + (Int32.toInt a) := add_z rfl rfl (by omega) (by omega)
              refine ⟨vpi (x := (Int32.toInt (33 + a))) rfl (by omega) (by omega), ?_⟩
              have g27 : 0 ≤ (Int32.toInt (f_row (33 + a).toNatClampNeg)) ∧ (Int32.toInt (f_row (33 + a).toNatClampNeg)) ≤ 1 := RLW.at_33 h_f_row (tnz (x := (Int32.toInt (33 + a))) rfl (by omega)) (by omega) (by omega)
              exact hq _ _ _ _ _ _ _ _ ⟨by omega, by omega⟩
            · refine br0 c24 ?_
              have d28 := ne_z (x := (Int32.toInt b)) (y := 3) rfl rfl c24
              by_cases c29 : b = 4
              · refine br1 c29 ?_
                have d30 := eq_z (x := (Int32.toInt b)) (y := 4) rfl rfl c29
                have t31 : (Int32.toInt (113 + a)) = 113 + (Int32.toInt a) := add_z rfl rfl (by omega) (by omega)
                refine ⟨vpi (x := (Int32.toInt (113 + a))) rfl (by omega) (by omega), ?_⟩
                refine s_X12_saysOf a (f_row (113 + a).toNatClampNeg) h0_ordered h0_law h0_broken h0_value h0_sum (f_row) (f_set) (f_nOp) (f_nArg) (f_rest) (f_now) ⟨by omega, by omega⟩ ⟨by omega, by omega⟩ ⟨by omega, by omega⟩ h_f_row (fun r32 u33_0 u33_1 u33_2 u33_3 u33_4 u33_5 H34 => ?_)
                have j35 := H34.1
                have j36 := H34.2
                refine un6_i ?_
                exact hq _ _ _ _ _ _ _ _ ⟨by omega, by omega⟩
              · refine br0 c29 ?_
                have d37 := ne_z (x := (Int32.toInt b)) (y := 4) rfl rfl c29
                by_cases c38 : b = 5
                · refine br1 c38 ?_
                  have d39 := eq_z (x := (Int32.toInt b)) (y := 5) rfl rfl c38
                  have t40 : (Int32.toInt (113 + a)) = 113 + (Int32.toInt a) := add_z rfl rfl (by omega) (by omega)
                  refine ⟨vpi (x := (Int32.toInt (113 + a))) rfl (by omega) (by omega), ?_⟩
                  refine s_X12_losesOf a (f_row (113 + a).toNatClampNeg) h0_ordered h0_law h0_broken h0_value h0_sum (f_row) (f_set) (f_nOp) (f_nArg) (f_rest) (f_now) ⟨by omega, by omega⟩ ⟨by omega, by omega⟩ ⟨by omega, by omega⟩ h_f_row (fun r41 u42_0 u42_1 u42_2 u42_3 u42_4 u42_5 H43 => ?_)
                  have j44 := H43.1
                  have j45 := H43.2
                  refine un6_i ?_
                  exact hq _ _ _ _ _ _ _ _ ⟨by omega, by omega⟩
                · refine br0 c38 ?_
                  have d46 := ne_z (x := (Int32.toInt b)) (y := 5) rfl rfl c38
                  exact hq _ _ _ _ _ _ _ _ ⟨by omega, by omega⟩


set_option maxRecDepth 100000 in
theorem s_X12_asks (a : Int32) (b : Int32) (d : Int32) (h0_ordered : Int32) (h0_law : Int32) (h0_broken : Int32) (h0_value : Int64) (h0_sum : Int64) (f_row : Nat → Int32) (f_set : Nat → Int64) (f_nOp : Nat → Int32) (f_nArg : Nat → Int32) (f_rest : Nat → Int64) (f_now : Nat → Int64) (h_h0_ordered : 0 ≤ h0_ordered.toInt ∧ h0_ordered.toInt ≤ 0) (h_h0_broken : 0 ≤ h0_broken.toInt ∧ h0_broken.toInt ≤ 1) (h_f_row : RLW f_row) {Q : Int32 → (Int32 × Int32 × Int32 × Int64 × Int64 × (Nat → Int64) × (Nat → Int64)) → Prop} (hq : ∀ (r : Int32) (u_0 : Int32) (u_1 : Int32) (u_2 : Int32) (u_3 : Int64) (u_4 : Int64) (u_5 : Nat → Int64) (u_6 : Nat → Int64), (0 ≤ u_2.toInt ∧ u_2.toInt ≤ 1) → Q r (u_0, u_1, u_2, u_3, u_4, u_5, u_6)) : wp_X12_asks a b d h0_ordered h0_law h0_broken h0_value h0_sum f_row f_set f_nOp f_nArg f_rest f_now Q := by
  unfold wp_X12_asks
  refine o_X12_isShaft _ _ _ ?_
  refine o_X12_in _ _ _ _ ?_
  by_cases c1 : (lg_cmp a.toInt64 0) < 0
  · refine br1 c1 ?_
    have t2 : (Int64.toInt a.toInt64) = (Int32.toInt a) := i2l_z rfl
    have d3 := c_lt (x := (Int64.toInt a.toInt64)) (y := 0) rfl rfl c1
    refine br1 (by decide) ?_
    exact hq _ _ _ _ _ _ _ _ ⟨by omega, by omega⟩
  · refine br0 c1 ?_
    have t4 : (Int64.toInt a.toInt64) = (Int32.toInt a) := i2l_z rfl
    have d5 := c_nlt (x := (Int64.toInt a.toInt64)) (y := 0) rfl rfl c1
    by_cases c6 : 0 < (lg_cmp a.toInt64 ((f_row (0 : Int32).toNatClampNeg).toInt64 - 1))
    · refine br1 c6 ?_
      have g7 : 0 ≤ (Int32.toInt (f_row (0 : Int32).toNatClampNeg)) ∧ (Int32.toInt (f_row (0 : Int32).toNatClampNeg)) ≤ 6 := RLW.at_0 h_f_row (rfl : ((0 : Nat) : Int) = 0) (by omega) (by omega)
      have t8 : (Int64.toInt (f_row (0 : Int32).toNatClampNeg).toInt64) = (Int32.toInt (f_row (0 : Int32).toNatClampNeg)) := i2l_z rfl
      have t9 : (Int64.toInt ((f_row (0 : Int32).toNatClampNeg).toInt64 - 1)) = (Int64.toInt (f_row (0 : Int32).toNatClampNeg).toInt64) - 1 := lsub_z rfl rfl (by omega) (by omega)
      have d10 := c_gt (x := (Int64.toInt a.toInt64)) (y := (Int64.toInt ((f_row (0 : Int32).toNatClampNeg).toInt64 - 1))) rfl rfl c6
      refine br1 (by decide) ?_
      exact hq _ _ _ _ _ _ _ _ ⟨by omega, by omega⟩
    · refine br0 c6 ?_
      have g11 : 0 ≤ (Int32.toInt (f_row (0 : Int32).toNatClampNeg)) ∧ (Int32.toInt (f_row (0 : Int32).toNatClampNeg)) ≤ 6 := RLW.at_0 h_f_row (rfl : ((0 : Nat) : Int) = 0) (by omega) (by omega)
      have t12 : (Int64.toInt (f_row (0 : Int32).toNatClampNeg).toInt64) = (Int32.toInt (f_row (0 : Int32).toNatClampNeg)) := i2l_z rfl
      have t13 : (Int64.toInt ((f_row (0 : Int32).toNatClampNeg).toInt64 - 1)) = (Int64.toInt (f_row (0 : Int32).toNatClampNeg).toInt64) - 1 := lsub_z rfl rfl (by omega) (by omega)
      have d14 := c_ngt (x := (Int64.toInt a.toInt64)) (y := (Int64.toInt ((f_row (0 : Int32).toNatClampNeg).toInt64 - 1))) rfl rfl c6
      refine br0 (by decide) ?_
      refine o_X12_isCell _ _ ?_
      refine o_X12_in _ _ _ _ ?_
      by_cases c15 : (lg_cmp b.toInt64 0) < 0
      · refine br1 c15 ?_
        have t16 : (Int64.toInt b.toInt64) = (Int32.toInt b) := i2l_z rfl
        have d17 := c_lt (x := (Int64.toInt b.toInt64)) (y := 0) rfl rfl c15
        refine br1 (by decide) ?_
        exact hq _ _ _ _ _ _ _ _ ⟨by omega, by omega⟩
      · refine br0 c15 ?_
        have t18 : (Int64.toInt b.toInt64) = (Int32.toInt b) := i2l_z rfl
        have d19 := c_nlt (x := (Int64.toInt b.toInt64)) (y := 0) rfl rfl c15
        by_cases c20 : 0 < (lg_cmp b.toInt64 39)
        · refine br1 c20 ?_
          have d21 := c_gt (x := (Int64.toInt b.toInt64)) (y := 39) rfl rfl c20
          refine br1 (by decide) ?_
          exact hq _ _ _ _ _ _ _ _ ⟨by omega, by omega⟩
        · refine br0 c20 ?_
          have d22 := c_ngt (x := (Int64.toInt b.toInt64)) (y := 39) rfl rfl c20
          refine br0 (by decide) ?_
          refine o_X12_in _ _ _ _ ?_
          by_cases c23 : (lg_cmp d.toInt64 0) < 0
          · refine br1 c23 ?_
            have t24 : (Int64.toInt d.toInt64) = (Int32.toInt d) := i2l_z rfl
            have d25 := c_lt (x := (Int64.toInt d.toInt64)) (y := 0) rfl rfl c23
            refine br1 (by decide) ?_
            exact hq _ _ _ _ _ _ _ _ ⟨by omega, by omega⟩
          · refine br0 c23 ?_
            have t26 : (Int64.toInt d.toInt64) = (Int32.toInt d) := i2l_z rfl
            have d27 := c_nlt (x := (Int64.toInt d.toInt64)) (y := 0) rfl rfl c23
            by_cases c28 : 0 < (lg_cmp d.toInt64 2)
            · refine br1 c28 ?_
              have d29 := c_gt (x := (Int64.toInt d.toInt64)) (y := 2) rfl rfl c28
              refine br1 (by decide) ?_
              exact hq _ _ _ _ _ _ _ _ ⟨by omega, by omega⟩
            · refine br0 c28 ?_
              have d30 := c_ngt (x := (Int64.toInt d.toInt64)) (y := 2) rfl rfl c28
              refine br0 (by decide) ?_
              by_cases c31 : d = 0
              · refine br1 c31 ?_
                have d32 := eq_z (x := (Int32.toInt d)) (y := 0) rfl rfl c31
                refine s_X12_digsOf a b h0_ordered h0_law h0_broken h0_value h0_sum (f_row) (f_set) (f_nOp) (f_nArg) (f_rest) (f_now) ⟨by omega, by omega⟩ ⟨by omega, by omega⟩ ⟨by omega, by omega⟩ h_f_row (fun r33 u34_0 u34_1 u34_2 u34_3 u34_4 u34_5 H35 => ?_)
                have j36 := H35.1
                have j37 := H35.2
                refine un6_i ?_
                exact hq _ _ _ _ _ _ _ _ ⟨by omega, by omega⟩
              · refine br0 c31 ?_
                have d38 := ne_z (x := (Int32.toInt d)) (y := 0) rfl rfl c31
                by_cases c39 : d = 1
                · refine br1 c39 ?_
                  have d40 := eq_z (x := (Int32.toInt d)) (y := 1) rfl rfl c39
                  refine s_X12_isPassed a b h0_ordered h0_law h0_broken h0_value h0_sum (f_row) (f_set) (f_nOp) (f_nArg) (f_rest) (f_now) ⟨by omega, by omega⟩ ⟨by omega, by omega⟩ ⟨by omega, by omega⟩ h_f_row (fun r41 u42_0 u42_1 u42_2 u42_3 u42_4 u42_5 H43 => ?_)
                  have j44 := H43.1
                  have j45 := H43.2
                  refine un6_i ?_
                  by_cases c46 : r41 = 0
                  · refine br1 c46 ?_
                    have d47 := eq_z (x := (Int32.toInt r41)) (y := 0) rfl rfl c46
                    exact hq _ _ _ _ _ _ _ _ ⟨by omega, by omega⟩
                  · refine br0 c46 ?_
                    have d48 := ne_z (x := (Int32.toInt r41)) (y := 0) rfl rfl c46
                    exact hq _ _ _ _ _ _ _ _ ⟨by omega, by omega⟩
                · refine br0 c39 ?_
                  have d49 := ne_z (x := (Int32.toInt d)) (y := 1) rfl rfl c39
                  refine s_X12_givesOf a b h0_ordered h0_law h0_broken h0_value h0_sum (f_row) (f_set) (f_nOp) (f_nArg) (f_rest) (f_now) ⟨by omega, by omega⟩ ⟨by omega, by omega⟩ ⟨by omega, by omega⟩ h_f_row (fun r50 u51_0 u51_1 u51_2 u51_3 u51_4 u51_5 H52 => ?_)
                  have j53 := H52.1
                  have j54 := H52.2
                  refine un6_i ?_
                  exact hq _ _ _ _ _ _ _ _ ⟨by omega, by omega⟩


set_option maxRecDepth 100000 in
theorem s_X12_loudAs (a : Int32) (b : Int32) (d : Int32) (h0_ordered : Int32) (h0_law : Int32) (h0_broken : Int32) (h0_value : Int64) (h0_sum : Int64) (f_row : Nat → Int32) (f_set : Nat → Int64) (f_nOp : Nat → Int32) (f_nArg : Nat → Int32) (f_rest : Nat → Int64) (f_now : Nat → Int64) (h_a : 0 ≤ a.toInt ∧ a.toInt ≤ 39) (h_d : 0 ≤ d.toInt ∧ d.toInt ≤ 99) (h_h0_ordered : 0 ≤ h0_ordered.toInt ∧ h0_ordered.toInt ≤ 0) (h_h0_broken : 0 ≤ h0_broken.toInt ∧ h0_broken.toInt ≤ 1) (h_f_row : RLW f_row) {Q : Int32 → (Int32 × Int32 × Int64 × Int64 × (Nat → Int64) × (Nat → Int64)) → Prop} (hq : ∀ (r : Int32) (u_0 : Int32) (u_1 : Int32) (u_2 : Int64) (u_3 : Int64) (u_4 : Nat → Int64) (u_5 : Nat → Int64), ((-1000) ≤ r.toInt ∧ r.toInt ≤ 99) ∧ (0 ≤ u_1.toInt ∧ u_1.toInt ≤ 1) → Q r (u_0, u_1, u_2, u_3, u_4, u_5)) : wp_X12_loudAs a b d h0_ordered h0_law h0_broken h0_value h0_sum f_row f_set f_nOp f_nArg f_rest f_now Q := by
  unfold wp_X12_loudAs
  have t1 : (Int32.toInt (a - a / 8 * 8)) = (Int32.toInt a) % 8 := rem_z rfl rfl (by omega) (by omega)
  refine s_X12_apart (a - a / 8 * 8) d ⟨by omega, by omega⟩ ⟨by omega, by omega⟩ (fun r2 H3 => ?_)
  have j4 := H3
  refine s_X12_saysOf a b h0_ordered h0_law h0_broken h0_value h0_sum (f_row) (f_set) (f_nOp) (f_nArg) (f_rest) (f_now) ⟨by omega, by omega⟩ ⟨by omega, by omega⟩ ⟨by omega, by omega⟩ h_f_row (fun r5 u6_0 u6_1 u6_2 u6_3 u6_4 u6_5 H7 => ?_)
  have j8 := H7.1
  have j9 := H7.2
  refine un6_i ?_
  refine s_X12_losesOf a b h0_ordered u6_0 u6_1 u6_2 u6_3 (f_row) (u6_4) (f_nOp) (f_nArg) (u6_5) (f_now) ⟨by omega, by omega⟩ ⟨by omega, by omega⟩ ⟨by omega, by omega⟩ h_f_row (fun r10 u11_0 u11_1 u11_2 u11_3 u11_4 u11_5 H12 => ?_)
  have j13 := H12.1
  have j14 := H12.2
  refine un6_i ?_
  have t15 : (Int32.toInt (a / 8)) = (Int32.toInt a) / 8 := div_z rfl rfl (by omega) (by omega)
  have t16 : (Int32.toInt (r2 + (a / 8))) = (Int32.toInt r2) + (Int32.toInt (a / 8)) := add_z rfl rfl (by omega) (by omega)
  have t17 : (Int32.toInt ((r2 + (a / 8)) + 1)) = (Int32.toInt (r2 + (a / 8))) + 1 := add_z rfl rfl (by omega) (by omega)
  have t18 : 0 ≤ (Int32.toInt (((r2 + (a / 8)) + 1) * r10)) ∧ (Int32.toInt (((r2 + (a / 8)) + 1) * r10)) ≤ 936 := mul_b (x := (Int32.toInt ((r2 + (a / 8)) + 1))) (y := (Int32.toInt r10)) (X := 104) (Y := 9) rfl rfl (by omega) (by omega) (by omega) (by omega) (by decide)
  have t19 : (Int32.toInt (r5 - (((r2 + (a / 8)) + 1) * r10))) = (Int32.toInt r5) - (Int32.toInt (((r2 + (a / 8)) + 1) * r10)) := sub_z rfl rfl (by omega) (by omega)
  exact hq _ _ _ _ _ _ _ ⟨⟨by omega, by omega⟩, ⟨by omega, by omega⟩⟩


set_option maxRecDepth 100000 in
theorem s_X12_loud (a : Int32) (b : Int32) (h0_ordered : Int32) (h0_law : Int32) (h0_broken : Int32) (h0_value : Int64) (h0_sum : Int64) (f_row : Nat → Int32) (f_set : Nat → Int64) (f_nOp : Nat → Int32) (f_nArg : Nat → Int32) (f_rest : Nat → Int64) (f_now : Nat → Int64) (h_h0_ordered : 0 ≤ h0_ordered.toInt ∧ h0_ordered.toInt ≤ 0) (h_h0_broken : 0 ≤ h0_broken.toInt ∧ h0_broken.toInt ≤ 1) (h_f_row : RLW f_row) {Q : Int32 → (Int32 × Int32 × Int32 × Int64 × Int64 × (Nat → Int64) × (Nat → Int64)) → Prop} (hq : ∀ (r : Int32) (u_0 : Int32) (u_1 : Int32) (u_2 : Int32) (u_3 : Int64) (u_4 : Int64) (u_5 : Nat → Int64) (u_6 : Nat → Int64), (0 ≤ u_2.toInt ∧ u_2.toInt ≤ 1) → Q r (u_0, u_1, u_2, u_3, u_4, u_5, u_6)) : wp_X12_loud a b h0_ordered h0_law h0_broken h0_value h0_sum f_row f_set f_nOp f_nArg f_rest f_now Q := by
  unfold wp_X12_loud
  refine o_X12_isCell _ _ ?_
  refine o_X12_in _ _ _ _ ?_
  by_cases c1 : (lg_cmp a.toInt64 0) < 0
  · refine br1 c1 ?_
    have t2 : (Int64.toInt a.toInt64) = (Int32.toInt a) := i2l_z rfl
    have d3 := c_lt (x := (Int64.toInt a.toInt64)) (y := 0) rfl rfl c1
    refine br1 (by decide) ?_
    exact hq _ _ _ _ _ _ _ _ ⟨by omega, by omega⟩
  · refine br0 c1 ?_
    have t4 : (Int64.toInt a.toInt64) = (Int32.toInt a) := i2l_z rfl
    have d5 := c_nlt (x := (Int64.toInt a.toInt64)) (y := 0) rfl rfl c1
    by_cases c6 : 0 < (lg_cmp a.toInt64 39)
    · refine br1 c6 ?_
      have d7 := c_gt (x := (Int64.toInt a.toInt64)) (y := 39) rfl rfl c6
      refine br1 (by decide) ?_
      exact hq _ _ _ _ _ _ _ _ ⟨by omega, by omega⟩
    · refine br0 c6 ?_
      have d8 := c_ngt (x := (Int64.toInt a.toInt64)) (y := 39) rfl rfl c6
      refine br0 (by decide) ?_
      refine o_X12_isColumn _ _ ?_
      refine o_X12_in _ _ _ _ ?_
      by_cases c9 : (lg_cmp b.toInt64 0) < 0
      · refine br1 c9 ?_
        have t10 : (Int64.toInt b.toInt64) = (Int32.toInt b) := i2l_z rfl
        have d11 := c_lt (x := (Int64.toInt b.toInt64)) (y := 0) rfl rfl c9
        refine br1 (by decide) ?_
        exact hq _ _ _ _ _ _ _ _ ⟨by omega, by omega⟩
      · refine br0 c9 ?_
        have t12 : (Int64.toInt b.toInt64) = (Int32.toInt b) := i2l_z rfl
        have d13 := c_nlt (x := (Int64.toInt b.toInt64)) (y := 0) rfl rfl c9
        by_cases c14 : 0 < (lg_cmp b.toInt64 7)
        · refine br1 c14 ?_
          have d15 := c_gt (x := (Int64.toInt b.toInt64)) (y := 7) rfl rfl c14
          refine br1 (by decide) ?_
          exact hq _ _ _ _ _ _ _ _ ⟨by omega, by omega⟩
        · refine br0 c14 ?_
          have d16 := c_ngt (x := (Int64.toInt b.toInt64)) (y := 7) rfl rfl c14
          refine br0 (by decide) ?_
          have t17 : (Int32.toInt (113 + a)) = 113 + (Int32.toInt a) := add_z rfl rfl (by omega) (by omega)
          refine ⟨vpi (x := (Int32.toInt (113 + a))) rfl (by omega) (by omega), ?_⟩
          refine s_X12_loudAs a (f_row (113 + a).toNatClampNeg) b h0_ordered h0_law h0_broken h0_value h0_sum (f_row) (f_set) (f_nOp) (f_nArg) (f_rest) (f_now) ⟨by omega, by omega⟩ ⟨by omega, by omega⟩ ⟨by omega, by omega⟩ ⟨by omega, by omega⟩ h_f_row (fun r18 u19_0 u19_1 u19_2 u19_3 u19_4 u19_5 H20 => ?_)
          have j21 := H20.1
          have j22 := H20.2
          refine un6_i ?_
          exact hq _ _ _ _ _ _ _ _ ⟨by omega, by omega⟩


set_option maxRecDepth 100000 in
theorem s_X12_canHear (a : Int32) (b : Int32) (d : Int32) (h0_ordered : Int32) (h0_law : Int32) (h0_broken : Int32) (h0_value : Int64) (h0_sum : Int64) (f_row : Nat → Int32) (f_set : Nat → Int64) (f_nOp : Nat → Int32) (f_nArg : Nat → Int32) (f_rest : Nat → Int64) (f_now : Nat → Int64) (h_a : 0 ≤ a.toInt ∧ a.toInt ≤ 4) (h_b : 0 ≤ b.toInt ∧ b.toInt ≤ 39) (h_h0_ordered : 0 ≤ h0_ordered.toInt ∧ h0_ordered.toInt ≤ 0) (h_h0_broken : 0 ≤ h0_broken.toInt ∧ h0_broken.toInt ≤ 1) (h_f_row : RLW f_row) {Q : Int32 → (Int32 × Int32 × Int64 × Int64 × (Nat → Int64) × (Nat → Int64)) → Prop} (hq : ∀ (r : Int32) (u_0 : Int32) (u_1 : Int32) (u_2 : Int64) (u_3 : Int64) (u_4 : Nat → Int64) (u_5 : Nat → Int64), (0 ≤ r.toInt ∧ r.toInt ≤ 1) ∧ (0 ≤ u_1.toInt ∧ u_1.toInt ≤ 1) → Q r (u_0, u_1, u_2, u_3, u_4, u_5)) : wp_X12_canHear a b d h0_ordered h0_law h0_broken h0_value h0_sum f_row f_set f_nOp f_nArg f_rest f_now Q := by
  unfold wp_X12_canHear
  have t1 : (Int32.toInt (28 + a)) = 28 + (Int32.toInt a) := add_z rfl rfl (by omega) (by omega)
  refine ⟨vpi (x := (Int32.toInt (28 + a))) rfl (by omega) (by omega), ?_⟩
  have g2 : 0 ≤ (Int32.toInt (f_row (28 + a).toNatClampNeg)) ∧ (Int32.toInt (f_row (28 + a).toNatClampNeg)) ≤ 7 := RLW.at_28 h_f_row (tnz (x := (Int32.toInt (28 + a))) rfl (by omega)) (by omega) (by omega)
  refine s_X12_loudAs b 3 (f_row (28 + a).toNatClampNeg) h0_ordered h0_law h0_broken h0_value h0_sum (f_row) (f_set) (f_nOp) (f_nArg) (f_rest) (f_now) ⟨by omega, by omega⟩ ⟨by omega, by omega⟩ ⟨by omega, by omega⟩ ⟨by omega, by omega⟩ h_f_row (fun r3 u4_0 u4_1 u4_2 u4_3 u4_4 u4_5 H5 => ?_)
  have j6 := H5.1
  have j7 := H5.2
  refine un6_i ?_
  have t8 : (Int32.toInt (193 + a)) = 193 + (Int32.toInt a) := add_z rfl rfl (by omega) (by omega)
  refine ⟨vpi (x := (Int32.toInt (193 + a))) rfl (by omega) (by omega), ?_⟩
  refine s_X12_dinBut (f_row (28 + a).toNatClampNeg) d (f_row) ⟨by omega, by omega⟩ h_f_row (fun r9 H10 => ?_)
  have j11 := H10
  by_cases c12 : (r3 + (f_row (193 + a).toNatClampNeg)) ≤ r9
  · refine br1 c12 ?_
    have g13 : 0 ≤ (Int32.toInt (f_row (193 + a).toNatClampNeg)) ∧ (Int32.toInt (f_row (193 + a).toNatClampNeg)) ≤ 20 := RLW.at_193 h_f_row (tnz (x := (Int32.toInt (193 + a))) rfl (by omega)) (by omega) (by omega)
    have t14 : (Int32.toInt (r3 + (f_row (193 + a).toNatClampNeg))) = (Int32.toInt r3) + (Int32.toInt (f_row (193 + a).toNatClampNeg)) := add_z rfl rfl (by omega) (by omega)
    have d15 := le_z (x := (Int32.toInt (r3 + (f_row (193 + a).toNatClampNeg)))) (y := (Int32.toInt r9)) rfl rfl c12
    exact hq _ _ _ _ _ _ _ ⟨(by decide), ⟨by omega, by omega⟩⟩
  · refine br0 c12 ?_
    have g16 : 0 ≤ (Int32.toInt (f_row (193 + a).toNatClampNeg)) ∧ (Int32.toInt (f_row (193 + a).toNatClampNeg)) ≤ 20 := RLW.at_193 h_f_row (tnz (x := (Int32.toInt (193 + a))) rfl (by omega)) (by omega) (by omega)
    have t17 : (Int32.toInt (r3 + (f_row (193 + a).toNatClampNeg))) = (Int32.toInt r3) + (Int32.toInt (f_row (193 + a).toNatClampNeg)) := add_z rfl rfl (by omega) (by omega)
    have d18 := nle_z (x := (Int32.toInt (r3 + (f_row (193 + a).toNatClampNeg)))) (y := (Int32.toInt r9)) rfl rfl c12
    exact hq _ _ _ _ _ _ _ ⟨(by decide), ⟨by omega, by omega⟩⟩


set_option maxRecDepth 100000 in
theorem sl_X12_heardBy_5 (a : Int32) (h0_ordered : Int32) (f_row : Nat → Int32) (f_nOp : Nat → Int32) (f_nArg : Nat → Int32) (f_now : Nat → Int64) (h_a : 0 ≤ a.toInt ∧ a.toInt ≤ 4) (h_h0_ordered : 0 ≤ h0_ordered.toInt ∧ h0_ordered.toInt ≤ 0) (h_f_row : RLW f_row) (Qb : Int32 → Int64 → Int32 → Int32 → Int64 → Int64 → (Nat → Int64) → (Nat → Int64) → Prop) (KX : ∀ (x_5_0 : Int32) (x_5_1 : Int64) (x_5_2 : Int32) (x_5_3 : Int32) (x_5_4 : Int64) (x_5_5 : Int64) (x_5_6 : Nat → Int64) (x_5_7 : Nat → Int64), (40 ≤ x_5_0.toInt ∧ x_5_0.toInt ≤ 40) ∧ (0 ≤ x_5_3.toInt ∧ x_5_3.toInt ≤ 1) → Qb x_5_0 x_5_1 x_5_2 x_5_3 x_5_4 x_5_5 x_5_6 x_5_7) : ∀ (n : Nat) (x_5_0 : Int32) (x_5_1 : Int64) (x_5_2 : Int32) (x_5_3 : Int32) (x_5_4 : Int64) (x_5_5 : Int64) (x_5_6 : Nat → Int64) (x_5_7 : Nat → Int64), (0 ≤ x_5_0.toInt ∧ x_5_0.toInt ≤ 40) ∧ (0 ≤ x_5_3.toInt ∧ x_5_3.toInt ≤ 1) → 41 - x_5_0.toInt < (n : Int) → wl_X12_heardBy_5 a h0_ordered f_row f_nOp f_nArg f_now Qb n x_5_0 x_5_1 x_5_2 x_5_3 x_5_4 x_5_5 x_5_6 x_5_7 := by
  intro n
  induction n with
  | zero =>
    intro x_5_0 x_5_1 x_5_2 x_5_3 x_5_4 x_5_5 x_5_6 x_5_7 hI hm
    exfalso; have hm : 41 - x_5_0.toInt < 0 := hm; omega
  | succ n ih =>
    intro x_5_0 x_5_1 x_5_2 x_5_3 x_5_4 x_5_5 x_5_6 x_5_7 hI hm
    have hm : 41 - x_5_0.toInt < (n : Int) + 1 := by simpa using hm
    have h_x_5_0 := hI.1
    have h_x_5_3 := hI.2
    unfold wl_X12_heardBy_5
    by_cases c1 : 40 ≤ x_5_0
    · refine br1 c1 ?_
      have d2 := le_z (x := 40) (y := (Int32.toInt x_5_0)) rfl rfl c1
      exact KX _ _ _ _ _ _ _ _ ⟨⟨by omega, by omega⟩, ⟨by omega, by omega⟩⟩
    · refine br0 c1 ?_
      have d3 := nle_z (x := 40) (y := (Int32.toInt x_5_0)) rfl rfl c1
      have t4 : (Int32.toInt (113 + x_5_0)) = 113 + (Int32.toInt x_5_0) := add_z rfl rfl (by omega) (by omega)
      refine ⟨vpi (x := (Int32.toInt (113 + x_5_0))) rfl (by omega) (by omega), ?_⟩
      by_cases c5 : (f_row (113 + x_5_0).toNatClampNeg) = 3
      · refine br1 c5 ?_
        have g6 : 0 ≤ (Int32.toInt (f_row (113 + x_5_0).toNatClampNeg)) ∧ (Int32.toInt (f_row (113 + x_5_0).toNatClampNeg)) ≤ 3 := RLW.at_113 h_f_row (tnz (x := (Int32.toInt (113 + x_5_0))) rfl (by omega)) (by omega) (by omega)
        have d7 := eq_z (x := (Int32.toInt (f_row (113 + x_5_0).toNatClampNeg))) (y := 3) rfl rfl c5
        refine s_X12_canHear a x_5_0 0 h0_ordered x_5_2 x_5_3 x_5_4 x_5_5 (f_row) (x_5_6) (f_nOp) (f_nArg) (x_5_7) (f_now) ⟨by omega, by omega⟩ ⟨by omega, by omega⟩ ⟨by omega, by omega⟩ ⟨by omega, by omega⟩ h_f_row (fun r8 u9_0 u9_1 u9_2 u9_3 u9_4 u9_5 H10 => ?_)
        have j11 := H10.1
        have j12 := H10.2
        refine un6_i ?_
        by_cases c13 : r8 = 0
        · refine br1 c13 ?_
          have d14 := eq_z (x := (Int32.toInt r8)) (y := 0) rfl rfl c13
          have t15 : (Int32.toInt (x_5_0 + 1)) = (Int32.toInt x_5_0) + 1 := add_z rfl rfl (by omega) (by omega)
          exact ih _ _ _ _ _ _ _ _ ⟨⟨by omega, by omega⟩, ⟨by omega, by omega⟩⟩ (by omega)
        · refine br0 c13 ?_
          have d16 := ne_z (x := (Int32.toInt r8)) (y := 0) rfl rfl c13
          have t17 : (Int32.toInt (x_5_0 + 1)) = (Int32.toInt x_5_0) + 1 := add_z rfl rfl (by omega) (by omega)
          exact ih _ _ _ _ _ _ _ _ ⟨⟨by omega, by omega⟩, ⟨by omega, by omega⟩⟩ (by omega)
      · refine br0 c5 ?_
        have g18 : 0 ≤ (Int32.toInt (f_row (113 + x_5_0).toNatClampNeg)) ∧ (Int32.toInt (f_row (113 + x_5_0).toNatClampNeg)) ≤ 3 := RLW.at_113 h_f_row (tnz (x := (Int32.toInt (113 + x_5_0))) rfl (by omega)) (by omega) (by omega)
        have d19 := ne_z (x := (Int32.toInt (f_row (113 + x_5_0).toNatClampNeg))) (y := 3) rfl rfl c5
        have t20 : (Int32.toInt (x_5_0 + 1)) = (Int32.toInt x_5_0) + 1 := add_z rfl rfl (by omega) (by omega)
        exact ih _ _ _ _ _ _ _ _ ⟨⟨by omega, by omega⟩, ⟨by omega, by omega⟩⟩ (by omega)
set_option maxRecDepth 100000 in
theorem s_X12_heardBy (a : Int32) (h0_ordered : Int32) (h0_law : Int32) (h0_broken : Int32) (h0_value : Int64) (h0_sum : Int64) (f_row : Nat → Int32) (f_set : Nat → Int64) (f_nOp : Nat → Int32) (f_nArg : Nat → Int32) (f_rest : Nat → Int64) (f_now : Nat → Int64) (h_a : 0 ≤ a.toInt ∧ a.toInt ≤ 4) (h_h0_ordered : 0 ≤ h0_ordered.toInt ∧ h0_ordered.toInt ≤ 0) (h_h0_broken : 0 ≤ h0_broken.toInt ∧ h0_broken.toInt ≤ 1) (h_f_row : RLW f_row) {Q : Int64 → (Int32 × Int32 × Int64 × Int64 × (Nat → Int64) × (Nat → Int64)) → Prop} (hq : ∀ (r : Int64) (u_0 : Int32) (u_1 : Int32) (u_2 : Int64) (u_3 : Int64) (u_4 : Nat → Int64) (u_5 : Nat → Int64), (0 ≤ u_1.toInt ∧ u_1.toInt ≤ 1) → Q r (u_0, u_1, u_2, u_3, u_4, u_5)) : wp_X12_heardBy a h0_ordered h0_law h0_broken h0_value h0_sum f_row f_set f_nOp f_nArg f_rest f_now Q := by
  unfold wp_X12_heardBy
  have k3 : Int32.toInt 0 = 0 := rfl
  have k4 : Int64.toInt 0 = 0 := rfl
  refine sl_X12_heardBy_5 a h0_ordered (f_row) (f_nOp) (f_nArg) (f_now) ⟨by omega, by omega⟩ ⟨by omega, by omega⟩ h_f_row _ (fun x1_0 x1_1 x1_2 x1_3 x1_4 x1_5 x1_6 x1_7 X2 => ?_) 1000000000000 0 0 h0_law h0_broken h0_value h0_sum (f_set) (f_rest) ⟨(by decide), ⟨by omega, by omega⟩⟩ (by omega)
  have j5 := X2.1
  have j6 := X2.2
  exact hq _ _ _ _ _ _ _ ⟨by omega, by omega⟩


set_option maxRecDepth 100000 in
theorem s_X12_hears (a : Int32) (h0_ordered : Int32) (h0_law : Int32) (h0_broken : Int32) (h0_value : Int64) (h0_sum : Int64) (f_row : Nat → Int32) (f_set : Nat → Int64) (f_nOp : Nat → Int32) (f_nArg : Nat → Int32) (f_rest : Nat → Int64) (f_now : Nat → Int64) (h_h0_ordered : 0 ≤ h0_ordered.toInt ∧ h0_ordered.toInt ≤ 0) (h_h0_broken : 0 ≤ h0_broken.toInt ∧ h0_broken.toInt ≤ 1) (h_f_row : RLW f_row) {Q : Int64 → (Int32 × Int32 × Int32 × Int64 × Int64 × (Nat → Int64) × (Nat → Int64)) → Prop} (hq : ∀ (r : Int64) (u_0 : Int32) (u_1 : Int32) (u_2 : Int32) (u_3 : Int64) (u_4 : Int64) (u_5 : Nat → Int64) (u_6 : Nat → Int64), (0 ≤ u_2.toInt ∧ u_2.toInt ≤ 1) → Q r (u_0, u_1, u_2, u_3, u_4, u_5, u_6)) : wp_X12_hears a h0_ordered h0_law h0_broken h0_value h0_sum f_row f_set f_nOp f_nArg f_rest f_now Q := by
  unfold wp_X12_hears
  refine o_X12_isEar _ _ _ ?_
  refine o_X12_in _ _ _ _ ?_
  by_cases c1 : (lg_cmp a.toInt64 0) < 0
  · refine br1 c1 ?_
    have t2 : (Int64.toInt a.toInt64) = (Int32.toInt a) := i2l_z rfl
    have d3 := c_lt (x := (Int64.toInt a.toInt64)) (y := 0) rfl rfl c1
    refine br1 (by decide) ?_
    exact hq _ _ _ _ _ _ _ _ ⟨by omega, by omega⟩
  · refine br0 c1 ?_
    have t4 : (Int64.toInt a.toInt64) = (Int32.toInt a) := i2l_z rfl
    have d5 := c_nlt (x := (Int64.toInt a.toInt64)) (y := 0) rfl rfl c1
    by_cases c6 : 0 < (lg_cmp a.toInt64 ((f_row (1 : Int32).toNatClampNeg).toInt64 - 1))
    · refine br1 c6 ?_
      have g7 : 0 ≤ (Int32.toInt (f_row (1 : Int32).toNatClampNeg)) ∧ (Int32.toInt (f_row (1 : Int32).toNatClampNeg)) ≤ 5 := RLW.at_1 h_f_row (rfl : ((1 : Nat) : Int) = 1) (by omega) (by omega)
      have t8 : (Int64.toInt (f_row (1 : Int32).toNatClampNeg).toInt64) = (Int32.toInt (f_row (1 : Int32).toNatClampNeg)) := i2l_z rfl
      have t9 : (Int64.toInt ((f_row (1 : Int32).toNatClampNeg).toInt64 - 1)) = (Int64.toInt (f_row (1 : Int32).toNatClampNeg).toInt64) - 1 := lsub_z rfl rfl (by omega) (by omega)
      have d10 := c_gt (x := (Int64.toInt a.toInt64)) (y := (Int64.toInt ((f_row (1 : Int32).toNatClampNeg).toInt64 - 1))) rfl rfl c6
      refine br1 (by decide) ?_
      exact hq _ _ _ _ _ _ _ _ ⟨by omega, by omega⟩
    · refine br0 c6 ?_
      have g11 : 0 ≤ (Int32.toInt (f_row (1 : Int32).toNatClampNeg)) ∧ (Int32.toInt (f_row (1 : Int32).toNatClampNeg)) ≤ 5 := RLW.at_1 h_f_row (rfl : ((1 : Nat) : Int) = 1) (by omega) (by omega)
      have t12 : (Int64.toInt (f_row (1 : Int32).toNatClampNeg).toInt64) = (Int32.toInt (f_row (1 : Int32).toNatClampNeg)) := i2l_z rfl
      have t13 : (Int64.toInt ((f_row (1 : Int32).toNatClampNeg).toInt64 - 1)) = (Int64.toInt (f_row (1 : Int32).toNatClampNeg).toInt64) - 1 := lsub_z rfl rfl (by omega) (by omega)
      have d14 := c_ngt (x := (Int64.toInt a.toInt64)) (y := (Int64.toInt ((f_row (1 : Int32).toNatClampNeg).toInt64 - 1))) rfl rfl c6
      refine br0 (by decide) ?_
      refine s_X12_heardBy a h0_ordered h0_law h0_broken h0_value h0_sum (f_row) (f_set) (f_nOp) (f_nArg) (f_rest) (f_now) ⟨by omega, by omega⟩ ⟨by omega, by omega⟩ ⟨by omega, by omega⟩ h_f_row (fun r15 u16_0 u16_1 u16_2 u16_3 u16_4 u16_5 H17 => ?_)
      have j18 := H17
      refine un6_i ?_
      exact hq _ _ _ _ _ _ _ _ ⟨by omega, by omega⟩


set_option maxRecDepth 100000 in
theorem s_X12_soundOf (a : Int32) (b : Int32) (h0_ordered : Int32) (h0_law : Int32) (h0_broken : Int32) (h0_value : Int64) (h0_sum : Int64) (f_row : Nat → Int32) (f_set : Nat → Int64) (f_nOp : Nat → Int32) (f_nArg : Nat → Int32) (f_rest : Nat → Int64) (f_now : Nat → Int64) (h_a : 0 ≤ a.toInt ∧ a.toInt ≤ 39) (h_b : 0 ≤ b.toInt ∧ b.toInt ≤ 99) (h_h0_ordered : 0 ≤ h0_ordered.toInt ∧ h0_ordered.toInt ≤ 0) (h_h0_broken : 0 ≤ h0_broken.toInt ∧ h0_broken.toInt ≤ 1) (h_f_row : RLW f_row) {Q : Int32 → (Int32 × Int32 × Int64 × Int64 × (Nat → Int64) × (Nat → Int64)) → Prop} (hq : ∀ (r : Int32) (u_0 : Int32) (u_1 : Int32) (u_2 : Int64) (u_3 : Int64) (u_4 : Nat → Int64) (u_5 : Nat → Int64), (0 ≤ r.toInt ∧ r.toInt ≤ 99) ∧ (0 ≤ u_1.toInt ∧ u_1.toInt ≤ 1) → Q r (u_0, u_1, u_2, u_3, u_4, u_5)) : wp_X12_soundOf a b h0_ordered h0_law h0_broken h0_value h0_sum f_row f_set f_nOp f_nArg f_rest f_now Q := by
  unfold wp_X12_soundOf
  refine s_X12_loudAs a 3 b h0_ordered h0_law h0_broken h0_value h0_sum (f_row) (f_set) (f_nOp) (f_nArg) (f_rest) (f_now) ⟨by omega, by omega⟩ ⟨by omega, by omega⟩ ⟨by omega, by omega⟩ ⟨by omega, by omega⟩ h_f_row (fun r1 u2_0 u2_1 u2_2 u2_3 u2_4 u2_5 H3 => ?_)
  have j4 := H3.1
  have j5 := H3.2
  refine un6_i ?_
  refine o_X12_within _ _ _ _ ?_
  by_cases c6 : 0 ≤ (lg_cmp r1.toInt64 ((0 : Int32).toInt64 : Int64))
  · refine br1 c6 ?_
    have t7 : (Int64.toInt r1.toInt64) = (Int32.toInt r1) := i2l_z rfl
    have d8 := c_ge (x := (Int64.toInt r1.toInt64)) (y := 0) rfl rfl c6
    refine br1 (k_le (x := (Int64.toInt r1.toInt64)) (y := 99) rfl rfl (by omega)) ?_
    have t9 : (Int32.toInt r1.toInt64.toInt32) = (Int64.toInt r1.toInt64) := l2i_z rfl (by omega) (by omega)
    exact hq _ _ _ _ _ _ _ ⟨⟨by omega, by omega⟩, ⟨by omega, by omega⟩⟩
  · refine br0 c6 ?_
    have t10 : (Int64.toInt r1.toInt64) = (Int32.toInt r1) := i2l_z rfl
    have d11 := c_nge (x := (Int64.toInt r1.toInt64)) (y := 0) rfl rfl c6
    exact hq _ _ _ _ _ _ _ ⟨(by decide), ⟨by omega, by omega⟩⟩


set_option maxRecDepth 100000 in
theorem sl_X12_isHidden_33 (a : Int32) (h0_ordered : Int32) (f_row : Nat → Int32) (f_nOp : Nat → Int32) (f_nArg : Nat → Int32) (f_now : Nat → Int64) (h_a : 0 ≤ a.toInt ∧ a.toInt ≤ 39) (h_h0_ordered : 0 ≤ h0_ordered.toInt ∧ h0_ordered.toInt ≤ 0) (h_f_row : RLW f_row) (Qb : Int32 → Int32 → Int32 → Int32 → Int64 → Int64 → (Nat → Int64) → (Nat → Int64) → Prop) (KX : ∀ (x_33_0 : Int32) (x_33_1 : Int32) (x_33_2 : Int32) (x_33_3 : Int32) (x_33_4 : Int64) (x_33_5 : Int64) (x_33_6 : Nat → Int64) (x_33_7 : Nat → Int64), (0 ≤ x_33_0.toInt ∧ x_33_0.toInt ≤ 0) ∧ (0 ≤ x_33_1.toInt ∧ x_33_1.toInt ≤ 0) ∧ (0 ≤ x_33_3.toInt ∧ x_33_3.toInt ≤ 1) → Qb x_33_0 x_33_1 x_33_2 x_33_3 x_33_4 x_33_5 x_33_6 x_33_7) : ∀ (n : Nat) (x_33_0 : Int32) (x_33_1 : Int32) (x_33_2 : Int32) (x_33_3 : Int32) (x_33_4 : Int64) (x_33_5 : Int64) (x_33_6 : Nat → Int64) (x_33_7 : Nat → Int64), (0 ≤ x_33_0.toInt ∧ x_33_0.toInt ≤ 0) ∧ (0 ≤ x_33_1.toInt ∧ x_33_1.toInt ≤ 0) ∧ (0 ≤ x_33_3.toInt ∧ x_33_3.toInt ≤ 1) → 1 - x_33_0.toInt < (n : Int) → wl_X12_isHidden_33 a h0_ordered f_row f_nOp f_nArg f_now Qb n x_33_0 x_33_1 x_33_2 x_33_3 x_33_4 x_33_5 x_33_6 x_33_7 := by
  intro n
  induction n with
  | zero =>
    intro x_33_0 x_33_1 x_33_2 x_33_3 x_33_4 x_33_5 x_33_6 x_33_7 hI hm
    exfalso; have hm : 1 - x_33_0.toInt < 0 := hm; omega
  | succ n ih =>
    intro x_33_0 x_33_1 x_33_2 x_33_3 x_33_4 x_33_5 x_33_6 x_33_7 hI hm
    have hm : 1 - x_33_0.toInt < (n : Int) + 1 := by simpa using hm
    have h_x_33_0 := hI.1
    have h_x_33_1 := hI.2.1
    have h_x_33_3 := hI.2.2
    unfold wl_X12_isHidden_33
    by_cases c5 : (f_row (3 : Int32).toNatClampNeg) ≤ x_33_0
    · refine br1 c5 ?_
      have g6 : 0 ≤ (Int32.toInt (f_row (3 : Int32).toNatClampNeg)) ∧ (Int32.toInt (f_row (3 : Int32).toNatClampNeg)) ≤ 8 := RLW.at_3 h_f_row (rfl : ((3 : Nat) : Int) = 3) (by omega) (by omega)
      have d7 := le_z (x := (Int32.toInt (f_row (3 : Int32).toNatClampNeg))) (y := (Int32.toInt x_33_0)) rfl rfl c5
      exact KX _ _ _ _ _ _ _ _ ⟨⟨by omega, by omega⟩, ⟨by omega, by omega⟩, ⟨by omega, by omega⟩⟩
    · refine br0 c5 ?_
      have g8 : 0 ≤ (Int32.toInt (f_row (3 : Int32).toNatClampNeg)) ∧ (Int32.toInt (f_row (3 : Int32).toNatClampNeg)) ≤ 8 := RLW.at_3 h_f_row (rfl : ((3 : Nat) : Int) = 3) (by omega) (by omega)
      have d9 := nle_z (x := (Int32.toInt (f_row (3 : Int32).toNatClampNeg))) (y := (Int32.toInt x_33_0)) rfl rfl c5
      refine br1 (z_eq (x := (Int32.toInt x_33_1)) (y := 0) rfl rfl (by omega)) ?_
      exact KX _ _ _ _ _ _ _ _ ⟨⟨by omega, by omega⟩, ⟨by omega, by omega⟩, ⟨by omega, by omega⟩⟩
set_option maxRecDepth 100000 in
theorem sl_X12_isHidden_33b (a : Int32) (h0_ordered : Int32) (f_row : Nat → Int32) (f_nOp : Nat → Int32) (f_nArg : Nat → Int32) (f_now : Nat → Int64) (h_a : 0 ≤ a.toInt ∧ a.toInt ≤ 39) (h_h0_ordered : 0 ≤ h0_ordered.toInt ∧ h0_ordered.toInt ≤ 0) (h_f_row : RLW f_row) (Qb : Int32 → Int32 → Int32 → Int32 → Int64 → Int64 → (Nat → Int64) → (Nat → Int64) → Prop) (KX : ∀ (x_33_0 : Int32) (x_33_1 : Int32) (x_33_2 : Int32) (x_33_3 : Int32) (x_33_4 : Int64) (x_33_5 : Int64) (x_33_6 : Nat → Int64) (x_33_7 : Nat → Int64), (0 ≤ x_33_0.toInt ∧ x_33_0.toInt ≤ 8) ∧ (0 ≤ x_33_1.toInt ∧ x_33_1.toInt ≤ 1) ∧ (0 ≤ x_33_3.toInt ∧ x_33_3.toInt ≤ 1) → Qb x_33_0 x_33_1 x_33_2 x_33_3 x_33_4 x_33_5 x_33_6 x_33_7) : ∀ (n : Nat) (x_33_0 : Int32) (x_33_1 : Int32) (x_33_2 : Int32) (x_33_3 : Int32) (x_33_4 : Int64) (x_33_5 : Int64) (x_33_6 : Nat → Int64) (x_33_7 : Nat → Int64), (0 ≤ x_33_0.toInt ∧ x_33_0.toInt ≤ 8) ∧ (0 ≤ x_33_1.toInt ∧ x_33_1.toInt ≤ 1) ∧ (0 ≤ x_33_3.toInt ∧ x_33_3.toInt ≤ 1) → 9 - x_33_0.toInt < (n : Int) → wl_X12_isHidden_33b a h0_ordered f_row f_nOp f_nArg f_now Qb n x_33_0 x_33_1 x_33_2 x_33_3 x_33_4 x_33_5 x_33_6 x_33_7 := by
  intro n
  induction n with
  | zero =>
    intro x_33_0 x_33_1 x_33_2 x_33_3 x_33_4 x_33_5 x_33_6 x_33_7 hI hm
    exfalso; have hm : 9 - x_33_0.toInt < 0 := hm; omega
  | succ n ih =>
    intro x_33_0 x_33_1 x_33_2 x_33_3 x_33_4 x_33_5 x_33_6 x_33_7 hI hm
    have hm : 9 - x_33_0.toInt < (n : Int) + 1 := by simpa using hm
    have h_x_33_0 := hI.1
    have h_x_33_1 := hI.2.1
    have h_x_33_3 := hI.2.2
    unfold wl_X12_isHidden_33b
    by_cases c17 : (f_row (3 : Int32).toNatClampNeg) ≤ x_33_0
    · refine br1 c17 ?_
      have g18 : 0 ≤ (Int32.toInt (f_row (3 : Int32).toNatClampNeg)) ∧ (Int32.toInt (f_row (3 : Int32).toNatClampNeg)) ≤ 8 := RLW.at_3 h_f_row (rfl : ((3 : Nat) : Int) = 3) (by omega) (by omega)
      have d19 := le_z (x := (Int32.toInt (f_row (3 : Int32).toNatClampNeg))) (y := (Int32.toInt x_33_0)) rfl rfl c17
      exact KX _ _ _ _ _ _ _ _ ⟨⟨by omega, by omega⟩, ⟨by omega, by omega⟩, ⟨by omega, by omega⟩⟩
    · refine br0 c17 ?_
      have g20 : 0 ≤ (Int32.toInt (f_row (3 : Int32).toNatClampNeg)) ∧ (Int32.toInt (f_row (3 : Int32).toNatClampNeg)) ≤ 8 := RLW.at_3 h_f_row (rfl : ((3 : Nat) : Int) = 3) (by omega) (by omega)
      have d21 := nle_z (x := (Int32.toInt (f_row (3 : Int32).toNatClampNeg))) (y := (Int32.toInt x_33_0)) rfl rfl c17
      by_cases c22 : x_33_1 = 0
      · refine br1 c22 ?_
        have d23 := eq_z (x := (Int32.toInt x_33_1)) (y := 0) rfl rfl c22
        exact KX _ _ _ _ _ _ _ _ ⟨⟨by omega, by omega⟩, ⟨by omega, by omega⟩, ⟨by omega, by omega⟩⟩
      · refine br0 c22 ?_
        have d24 := ne_z (x := (Int32.toInt x_33_1)) (y := 0) rfl rfl c22
        have t25 : (Int32.toInt (2 * x_33_0)) = 2 * (Int32.toInt x_33_0) := mul_z rfl rfl (by omega) (by omega)
        have t26 : (Int32.toInt (210 + (2 * x_33_0))) = 210 + (Int32.toInt (2 * x_33_0)) := add_z rfl rfl (by omega) (by omega)
        refine ⟨vpi (x := (Int32.toInt (210 + (2 * x_33_0)))) rfl (by omega) (by omega), ?_⟩
        have g27 : 0 ≤ (Int32.toInt (f_row (210 + (2 * x_33_0)).toNatClampNeg)) ∧ (Int32.toInt (f_row (210 + (2 * x_33_0)).toNatClampNeg)) ≤ 99 := RLW.at_210 h_f_row (tnz (x := (Int32.toInt (210 + (2 * x_33_0)))) rfl (by omega)) (by omega) (by omega)
        refine s_X12_soundOf a (f_row (210 + (2 * x_33_0)).toNatClampNeg) h0_ordered x_33_2 x_33_3 x_33_4 x_33_5 (f_row) (x_33_6) (f_nOp) (f_nArg) (x_33_7) (f_now) ⟨by omega, by omega⟩ ⟨by omega, by omega⟩ ⟨by omega, by omega⟩ ⟨by omega, by omega⟩ h_f_row (fun r28 u29_0 u29_1 u29_2 u29_3 u29_4 u29_5 H30 => ?_)
        have j31 := H30.1
        have j32 := H30.2
        refine un6_i ?_
        have t33 : (Int32.toInt ((210 + (2 * x_33_0)) + 1)) = (Int32.toInt (210 + (2 * x_33_0))) + 1 := add_z rfl rfl (by omega) (by omega)
        refine ⟨vpi (x := (Int32.toInt ((210 + (2 * x_33_0)) + 1))) rfl (by omega) (by omega), ?_⟩
        by_cases c34 : r28 = (f_row ((210 + (2 * x_33_0)) + 1).toNatClampNeg)
        · refine br1 c34 ?_
          have g35 : 0 ≤ (Int32.toInt (f_row ((210 + (2 * x_33_0)) + 1).toNatClampNeg)) ∧ (Int32.toInt (f_row ((210 + (2 * x_33_0)) + 1).toNatClampNeg)) ≤ 99 := RLW.at_210 h_f_row (tnz (x := (Int32.toInt ((210 + (2 * x_33_0)) + 1))) rfl (by omega)) (by omega) (by omega)
          have d36 := eq_z (x := (Int32.toInt r28)) (y := (Int32.toInt (f_row ((210 + (2 * x_33_0)) + 1).toNatClampNeg))) rfl rfl c34
          have t37 : (Int32.toInt (x_33_0 + 1)) = (Int32.toInt x_33_0) + 1 := add_z rfl rfl (by omega) (by omega)
          exact ih _ _ _ _ _ _ _ _ ⟨⟨by omega, by omega⟩, (by decide), ⟨by omega, by omega⟩⟩ (by omega)
        · refine br0 c34 ?_
          have g38 : 0 ≤ (Int32.toInt (f_row ((210 + (2 * x_33_0)) + 1).toNatClampNeg)) ∧ (Int32.toInt (f_row ((210 + (2 * x_33_0)) + 1).toNatClampNeg)) ≤ 99 := RLW.at_210 h_f_row (tnz (x := (Int32.toInt ((210 + (2 * x_33_0)) + 1))) rfl (by omega)) (by omega) (by omega)
          have d39 := ne_z (x := (Int32.toInt r28)) (y := (Int32.toInt (f_row ((210 + (2 * x_33_0)) + 1).toNatClampNeg))) rfl rfl c34
          have t40 : (Int32.toInt (x_33_0 + 1)) = (Int32.toInt x_33_0) + 1 := add_z rfl rfl (by omega) (by omega)
          exact ih _ _ _ _ _ _ _ _ ⟨⟨by omega, by omega⟩, (by decide), ⟨by omega, by omega⟩⟩ (by omega)
set_option maxRecDepth 100000 in
theorem sl_X12_isHidden_33a (a : Int32) (h0_ordered : Int32) (f_row : Nat → Int32) (f_nOp : Nat → Int32) (f_nArg : Nat → Int32) (f_now : Nat → Int64) (h_a : 0 ≤ a.toInt ∧ a.toInt ≤ 39) (h_h0_ordered : 0 ≤ h0_ordered.toInt ∧ h0_ordered.toInt ≤ 0) (h_f_row : RLW f_row) (Qb : Int32 → Int32 → Int32 → Int32 → Int64 → Int64 → (Nat → Int64) → (Nat → Int64) → Prop) (KX : ∀ (x_33_0 : Int32) (x_33_1 : Int32) (x_33_2 : Int32) (x_33_3 : Int32) (x_33_4 : Int64) (x_33_5 : Int64) (x_33_6 : Nat → Int64) (x_33_7 : Nat → Int64), (0 ≤ x_33_0.toInt ∧ x_33_0.toInt ≤ 0) ∧ (0 ≤ x_33_1.toInt ∧ x_33_1.toInt ≤ 0) ∧ (0 ≤ x_33_3.toInt ∧ x_33_3.toInt ≤ 1) → Qb x_33_0 x_33_1 x_33_2 x_33_3 x_33_4 x_33_5 x_33_6 x_33_7) : ∀ (n : Nat) (x_33_0 : Int32) (x_33_1 : Int32) (x_33_2 : Int32) (x_33_3 : Int32) (x_33_4 : Int64) (x_33_5 : Int64) (x_33_6 : Nat → Int64) (x_33_7 : Nat → Int64), (0 ≤ x_33_0.toInt ∧ x_33_0.toInt ≤ 0) ∧ (0 ≤ x_33_1.toInt ∧ x_33_1.toInt ≤ 0) ∧ (0 ≤ x_33_3.toInt ∧ x_33_3.toInt ≤ 1) → 1 - x_33_0.toInt < (n : Int) → wl_X12_isHidden_33a a h0_ordered f_row f_nOp f_nArg f_now Qb n x_33_0 x_33_1 x_33_2 x_33_3 x_33_4 x_33_5 x_33_6 x_33_7 := by
  intro n
  induction n with
  | zero =>
    intro x_33_0 x_33_1 x_33_2 x_33_3 x_33_4 x_33_5 x_33_6 x_33_7 hI hm
    exfalso; have hm : 1 - x_33_0.toInt < 0 := hm; omega
  | succ n ih =>
    intro x_33_0 x_33_1 x_33_2 x_33_3 x_33_4 x_33_5 x_33_6 x_33_7 hI hm
    have hm : 1 - x_33_0.toInt < (n : Int) + 1 := by simpa using hm
    have h_x_33_0 := hI.1
    have h_x_33_1 := hI.2.1
    have h_x_33_3 := hI.2.2
    unfold wl_X12_isHidden_33a
    by_cases c26 : (f_row (3 : Int32).toNatClampNeg) ≤ x_33_0
    · refine br1 c26 ?_
      have g27 : 0 ≤ (Int32.toInt (f_row (3 : Int32).toNatClampNeg)) ∧ (Int32.toInt (f_row (3 : Int32).toNatClampNeg)) ≤ 8 := RLW.at_3 h_f_row (rfl : ((3 : Nat) : Int) = 3) (by omega) (by omega)
      have d28 := le_z (x := (Int32.toInt (f_row (3 : Int32).toNatClampNeg))) (y := (Int32.toInt x_33_0)) rfl rfl c26
      exact KX _ _ _ _ _ _ _ _ ⟨⟨by omega, by omega⟩, ⟨by omega, by omega⟩, ⟨by omega, by omega⟩⟩
    · refine br0 c26 ?_
      have g29 : 0 ≤ (Int32.toInt (f_row (3 : Int32).toNatClampNeg)) ∧ (Int32.toInt (f_row (3 : Int32).toNatClampNeg)) ≤ 8 := RLW.at_3 h_f_row (rfl : ((3 : Nat) : Int) = 3) (by omega) (by omega)
      have d30 := nle_z (x := (Int32.toInt (f_row (3 : Int32).toNatClampNeg))) (y := (Int32.toInt x_33_0)) rfl rfl c26
      refine br1 (z_eq (x := (Int32.toInt x_33_1)) (y := 0) rfl rfl (by omega)) ?_
      exact KX _ _ _ _ _ _ _ _ ⟨⟨by omega, by omega⟩, ⟨by omega, by omega⟩, ⟨by omega, by omega⟩⟩
set_option maxRecDepth 100000 in
theorem s_X12_isHidden (a : Int32) (h0_ordered : Int32) (h0_law : Int32) (h0_broken : Int32) (h0_value : Int64) (h0_sum : Int64) (f_row : Nat → Int32) (f_set : Nat → Int64) (f_nOp : Nat → Int32) (f_nArg : Nat → Int32) (f_rest : Nat → Int64) (f_now : Nat → Int64) (h_a : 0 ≤ a.toInt ∧ a.toInt ≤ 39) (h_h0_ordered : 0 ≤ h0_ordered.toInt ∧ h0_ordered.toInt ≤ 0) (h_h0_broken : 0 ≤ h0_broken.toInt ∧ h0_broken.toInt ≤ 1) (h_f_row : RLW f_row) {Q : Int32 → (Int32 × Int32 × Int64 × Int64 × (Nat → Int64) × (Nat → Int64)) → Prop} (hq : ∀ (r : Int32) (u_0 : Int32) (u_1 : Int32) (u_2 : Int64) (u_3 : Int64) (u_4 : Nat → Int64) (u_5 : Nat → Int64), (0 ≤ r.toInt ∧ r.toInt ≤ 1) ∧ (0 ≤ u_1.toInt ∧ u_1.toInt ≤ 1) → Q r (u_0, u_1, u_2, u_3, u_4, u_5)) : wp_X12_isHidden a h0_ordered h0_law h0_broken h0_value h0_sum f_row f_set f_nOp f_nArg f_rest f_now Q := by
  unfold wp_X12_isHidden
  have t1 : (Int32.toInt (113 + a)) = 113 + (Int32.toInt a) := add_z rfl rfl (by omega) (by omega)
  refine ⟨vpi (x := (Int32.toInt (113 + a))) rfl (by omega) (by omega), ?_⟩
  by_cases c2 : (f_row (113 + a).toNatClampNeg) = 3
  · refine br1 c2 ?_
    have g3 : 0 ≤ (Int32.toInt (f_row (113 + a).toNatClampNeg)) ∧ (Int32.toInt (f_row (113 + a).toNatClampNeg)) ≤ 3 := RLW.at_113 h_f_row (tnz (x := (Int32.toInt (113 + a))) rfl (by omega)) (by omega) (by omega)
    have d4 := eq_z (x := (Int32.toInt (f_row (113 + a).toNatClampNeg))) (y := 3) rfl rfl c2
    have k7 : Int32.toInt 0 = 0 := rfl
    refine sl_X12_isHidden_33 a h0_ordered (f_row) (f_nOp) (f_nArg) (f_now) ⟨by omega, by omega⟩ ⟨by omega, by omega⟩ h_f_row _ (fun x5_0 x5_1 x5_2 x5_3 x5_4 x5_5 x5_6 x5_7 X6 => ?_) 1000000000000 0 0 h0_law h0_broken h0_value h0_sum (f_set) (f_rest) ⟨(by decide), (by decide), ⟨by omega, by omega⟩⟩ (by omega)
    have j8 := X6.1
    have j9 := X6.2.1
    have j10 := X6.2.2
    refine ⟨z01 (x := (Int32.toInt x5_1)) rfl (by omega) (by omega), ?_⟩
    exact hq _ _ _ _ _ _ _ ⟨⟨by omega, by omega⟩, ⟨by omega, by omega⟩⟩
  · refine br0 c2 ?_
    have g11 : 0 ≤ (Int32.toInt (f_row (113 + a).toNatClampNeg)) ∧ (Int32.toInt (f_row (113 + a).toNatClampNeg)) ≤ 3 := RLW.at_113 h_f_row (tnz (x := (Int32.toInt (113 + a))) rfl (by omega)) (by omega) (by omega)
    have d12 := ne_z (x := (Int32.toInt (f_row (113 + a).toNatClampNeg))) (y := 3) rfl rfl c2
    have t13 : (Int32.toInt (33 + a)) = 33 + (Int32.toInt a) := add_z rfl rfl (by omega) (by omega)
    refine ⟨vpi (x := (Int32.toInt (33 + a))) rfl (by omega) (by omega), ?_⟩
    by_cases c14 : (f_row (33 + a).toNatClampNeg) = 0
    · refine br1 c14 ?_
      have g15 : 0 ≤ (Int32.toInt (f_row (33 + a).toNatClampNeg)) ∧ (Int32.toInt (f_row (33 + a).toNatClampNeg)) ≤ 1 := RLW.at_33 h_f_row (tnz (x := (Int32.toInt (33 + a))) rfl (by omega)) (by omega) (by omega)
      have d16 := eq_z (x := (Int32.toInt (f_row (33 + a).toNatClampNeg))) (y := 0) rfl rfl c14
      have k19 : Int32.toInt 0 = 0 := rfl
      have k20 : Int32.toInt 1 = 1 := rfl
      refine sl_X12_isHidden_33b a h0_ordered (f_row) (f_nOp) (f_nArg) (f_now) ⟨by omega, by omega⟩ ⟨by omega, by omega⟩ h_f_row _ (fun x17_0 x17_1 x17_2 x17_3 x17_4 x17_5 x17_6 x17_7 X18 => ?_) 1000000000000 0 1 h0_law h0_broken h0_value h0_sum (f_set) (f_rest) ⟨(by decide), (by decide), ⟨by omega, by omega⟩⟩ (by omega)
      have j21 := X18.1
      have j22 := X18.2.1
      have j23 := X18.2.2
      refine ⟨z01 (x := (Int32.toInt x17_1)) rfl (by omega) (by omega), ?_⟩
      exact hq _ _ _ _ _ _ _ ⟨⟨by omega, by omega⟩, ⟨by omega, by omega⟩⟩
    · refine br0 c14 ?_
      have g24 : 0 ≤ (Int32.toInt (f_row (33 + a).toNatClampNeg)) ∧ (Int32.toInt (f_row (33 + a).toNatClampNeg)) ≤ 1 := RLW.at_33 h_f_row (tnz (x := (Int32.toInt (33 + a))) rfl (by omega)) (by omega) (by omega)
      have d25 := ne_z (x := (Int32.toInt (f_row (33 + a).toNatClampNeg))) (y := 0) rfl rfl c14
      have k28 : Int32.toInt 0 = 0 := rfl
      refine sl_X12_isHidden_33a a h0_ordered (f_row) (f_nOp) (f_nArg) (f_now) ⟨by omega, by omega⟩ ⟨by omega, by omega⟩ h_f_row _ (fun x26_0 x26_1 x26_2 x26_3 x26_4 x26_5 x26_6 x26_7 X27 => ?_) 1000000000000 0 0 h0_law h0_broken h0_value h0_sum (f_set) (f_rest) ⟨(by decide), (by decide), ⟨by omega, by omega⟩⟩ (by omega)
      have j29 := X27.1
      have j30 := X27.2.1
      have j31 := X27.2.2
      refine ⟨z01 (x := (Int32.toInt x26_1)) rfl (by omega) (by omega), ?_⟩
      exact hq _ _ _ _ _ _ _ ⟨⟨by omega, by omega⟩, ⟨by omega, by omega⟩⟩


set_option maxRecDepth 100000 in
theorem sl_X12_hidden_9 (h0_ordered : Int32) (f_row : Nat → Int32) (f_nOp : Nat → Int32) (f_nArg : Nat → Int32) (f_now : Nat → Int64) (h_h0_ordered : 0 ≤ h0_ordered.toInt ∧ h0_ordered.toInt ≤ 0) (h_f_row : RLW f_row) (Qb : Int32 → Int64 → Int32 → Int32 → Int64 → Int64 → (Nat → Int64) → (Nat → Int64) → Prop) (KX : ∀ (x_9_0 : Int32) (x_9_1 : Int64) (x_9_2 : Int32) (x_9_3 : Int32) (x_9_4 : Int64) (x_9_5 : Int64) (x_9_6 : Nat → Int64) (x_9_7 : Nat → Int64), (40 ≤ x_9_0.toInt ∧ x_9_0.toInt ≤ 40) ∧ (0 ≤ x_9_3.toInt ∧ x_9_3.toInt ≤ 1) → Qb x_9_0 x_9_1 x_9_2 x_9_3 x_9_4 x_9_5 x_9_6 x_9_7) : ∀ (n : Nat) (x_9_0 : Int32) (x_9_1 : Int64) (x_9_2 : Int32) (x_9_3 : Int32) (x_9_4 : Int64) (x_9_5 : Int64) (x_9_6 : Nat → Int64) (x_9_7 : Nat → Int64), (0 ≤ x_9_0.toInt ∧ x_9_0.toInt ≤ 40) ∧ (0 ≤ x_9_3.toInt ∧ x_9_3.toInt ≤ 1) → 41 - x_9_0.toInt < (n : Int) → wl_X12_hidden_9 h0_ordered f_row f_nOp f_nArg f_now Qb n x_9_0 x_9_1 x_9_2 x_9_3 x_9_4 x_9_5 x_9_6 x_9_7 := by
  intro n
  induction n with
  | zero =>
    intro x_9_0 x_9_1 x_9_2 x_9_3 x_9_4 x_9_5 x_9_6 x_9_7 hI hm
    exfalso; have hm : 41 - x_9_0.toInt < 0 := hm; omega
  | succ n ih =>
    intro x_9_0 x_9_1 x_9_2 x_9_3 x_9_4 x_9_5 x_9_6 x_9_7 hI hm
    have hm : 41 - x_9_0.toInt < (n : Int) + 1 := by simpa using hm
    have h_x_9_0 := hI.1
    have h_x_9_3 := hI.2
    unfold wl_X12_hidden_9
    by_cases c1 : 40 ≤ x_9_0
    · refine br1 c1 ?_
      have d2 := le_z (x := 40) (y := (Int32.toInt x_9_0)) rfl rfl c1
      exact KX _ _ _ _ _ _ _ _ ⟨⟨by omega, by omega⟩, ⟨by omega, by omega⟩⟩
    · refine br0 c1 ?_
      have d3 := nle_z (x := 40) (y := (Int32.toInt x_9_0)) rfl rfl c1
      refine s_X12_isHidden x_9_0 h0_ordered x_9_2 x_9_3 x_9_4 x_9_5 (f_row) (x_9_6) (f_nOp) (f_nArg) (x_9_7) (f_now) ⟨by omega, by omega⟩ ⟨by omega, by omega⟩ ⟨by omega, by omega⟩ h_f_row (fun r4 u5_0 u5_1 u5_2 u5_3 u5_4 u5_5 H6 => ?_)
      have j7 := H6.1
      have j8 := H6.2
      refine un6_i ?_
      by_cases c9 : r4 = 0
      · refine br1 c9 ?_
        have d10 := eq_z (x := (Int32.toInt r4)) (y := 0) rfl rfl c9
        have t11 : (Int32.toInt (x_9_0 + 1)) = (Int32.toInt x_9_0) + 1 := add_z rfl rfl (by omega) (by omega)
        exact ih _ _ _ _ _ _ _ _ ⟨⟨by omega, by omega⟩, ⟨by omega, by omega⟩⟩ (by omega)
      · refine br0 c9 ?_
        have d12 := ne_z (x := (Int32.toInt r4)) (y := 0) rfl rfl c9
        have t13 : (Int32.toInt (x_9_0 + 1)) = (Int32.toInt x_9_0) + 1 := add_z rfl rfl (by omega) (by omega)
        exact ih _ _ _ _ _ _ _ _ ⟨⟨by omega, by omega⟩, ⟨by omega, by omega⟩⟩ (by omega)
set_option maxRecDepth 100000 in
theorem s_X12_hidden (h0_ordered : Int32) (h0_law : Int32) (h0_broken : Int32) (h0_value : Int64) (h0_sum : Int64) (f_row : Nat → Int32) (f_set : Nat → Int64) (f_nOp : Nat → Int32) (f_nArg : Nat → Int32) (f_rest : Nat → Int64) (f_now : Nat → Int64) (h_h0_ordered : 0 ≤ h0_ordered.toInt ∧ h0_ordered.toInt ≤ 0) (h_h0_broken : 0 ≤ h0_broken.toInt ∧ h0_broken.toInt ≤ 1) (h_f_row : RLW f_row) {Q : Int64 → (Int32 × Int32 × Int32 × Int64 × Int64 × (Nat → Int64) × (Nat → Int64)) → Prop} (hq : ∀ (r : Int64) (u_0 : Int32) (u_1 : Int32) (u_2 : Int32) (u_3 : Int64) (u_4 : Int64) (u_5 : Nat → Int64) (u_6 : Nat → Int64), (0 ≤ u_2.toInt ∧ u_2.toInt ≤ 1) → Q r (u_0, u_1, u_2, u_3, u_4, u_5, u_6)) : wp_X12_hidden h0_ordered h0_law h0_broken h0_value h0_sum f_row f_set f_nOp f_nArg f_rest f_now Q := by
  unfold wp_X12_hidden
  have k3 : Int32.toInt 0 = 0 := rfl
  have k4 : Int64.toInt 0 = 0 := rfl
  refine sl_X12_hidden_9 h0_ordered (f_row) (f_nOp) (f_nArg) (f_now) ⟨by omega, by omega⟩ h_f_row _ (fun x1_0 x1_1 x1_2 x1_3 x1_4 x1_5 x1_6 x1_7 X2 => ?_) 1000000000000 0 0 h0_law h0_broken h0_value h0_sum (f_set) (f_rest) ⟨(by decide), ⟨by omega, by omega⟩⟩ (by omega)
  have j5 := X2.1
  have j6 := X2.2
  exact hq _ _ _ _ _ _ _ _ ⟨by omega, by omega⟩


set_option maxRecDepth 100000 in
theorem sl_X12_next_36 (Qb : Int32 → (Nat → Int32) → Prop) (KX : ∀ (x_36_0 : Int32) (x_36_1 : Nat → Int32), (100 ≤ x_36_0.toInt ∧ x_36_0.toInt ≤ 100) → Qb x_36_0 x_36_1) : ∀ (n : Nat) (x_36_0 : Int32) (x_36_1 : Nat → Int32), (0 ≤ x_36_0.toInt ∧ x_36_0.toInt ≤ 100) → 101 - x_36_0.toInt < (n : Int) → wl_X12_next_36 Qb n x_36_0 x_36_1 := by
  intro n
  induction n with
  | zero =>
    intro x_36_0 x_36_1 hI hm
    exfalso; have hm : 101 - x_36_0.toInt < 0 := hm; omega
  | succ n ih =>
    intro x_36_0 x_36_1 hI hm
    have hm : 101 - x_36_0.toInt < (n : Int) + 1 := by simpa using hm
    have h_x_36_0 := hI
    unfold wl_X12_next_36
    by_cases c12 : 100 ≤ x_36_0
    · refine br1 c12 ?_
      have d13 := le_z (x := 100) (y := (Int32.toInt x_36_0)) rfl rfl c12
      exact KX _ _ ⟨by omega, by omega⟩
    · refine br0 c12 ?_
      have d14 := nle_z (x := 100) (y := (Int32.toInt x_36_0)) rfl rfl c12
      refine ⟨vpi (x := (Int32.toInt x_36_0)) rfl (by omega) (by omega), ?_⟩
      have t15 : (Int32.toInt (x_36_0 + 1)) = (Int32.toInt x_36_0) + 1 := add_z rfl rfl (by omega) (by omega)
      exact ih _ _ ⟨by omega, by omega⟩ (by omega)
set_option maxRecDepth 100000 in
theorem sl_X12_next_63 (h0_ordered : Int32) (f_row : Nat → Int32) (f_nOp : Nat → Int32) (f_nArg : Nat → Int32) (f_now : Nat → Int64) (x_26_0 : Int32) (h_h0_ordered : 0 ≤ h0_ordered.toInt ∧ h0_ordered.toInt ≤ 0) (h_f_row : RLW f_row) (h_x_26_0 : 0 ≤ x_26_0.toInt ∧ x_26_0.toInt ≤ 7) (Qb : Int32 → Int32 → Int32 → Int32 → Int64 → Int64 → (Nat → Int32) → (Nat → Int64) → (Nat → Int64) → Prop) (KX : ∀ (x_63_0 : Int32) (x_63_1 : Int32) (x_63_2 : Int32) (x_63_3 : Int32) (x_63_4 : Int64) (x_63_5 : Int64) (x_63_6 : Nat → Int32) (x_63_7 : Nat → Int64) (x_63_8 : Nat → Int64), (40 ≤ x_63_0.toInt ∧ x_63_0.toInt ≤ 40) ∧ (0 ≤ x_63_3.toInt ∧ x_63_3.toInt ≤ 1) → Qb x_63_0 x_63_1 x_63_2 x_63_3 x_63_4 x_63_5 x_63_6 x_63_7 x_63_8) : ∀ (n : Nat) (x_63_0 : Int32) (x_63_1 : Int32) (x_63_2 : Int32) (x_63_3 : Int32) (x_63_4 : Int64) (x_63_5 : Int64) (x_63_6 : Nat → Int32) (x_63_7 : Nat → Int64) (x_63_8 : Nat → Int64), (0 ≤ x_63_0.toInt ∧ x_63_0.toInt ≤ 40) ∧ (0 ≤ x_63_3.toInt ∧ x_63_3.toInt ≤ 1) → 41 - x_63_0.toInt < (n : Int) → wl_X12_next_63 h0_ordered f_row f_nOp f_nArg f_now x_26_0 Qb n x_63_0 x_63_1 x_63_2 x_63_3 x_63_4 x_63_5 x_63_6 x_63_7 x_63_8 := by
  intro n
  induction n with
  | zero =>
    intro x_63_0 x_63_1 x_63_2 x_63_3 x_63_4 x_63_5 x_63_6 x_63_7 x_63_8 hI hm
    exfalso; have hm : 41 - x_63_0.toInt < 0 := hm; omega
  | succ n ih =>
    intro x_63_0 x_63_1 x_63_2 x_63_3 x_63_4 x_63_5 x_63_6 x_63_7 x_63_8 hI hm
    have hm : 41 - x_63_0.toInt < (n : Int) + 1 := by simpa using hm
    have h_x_63_0 := hI.1
    have h_x_63_3 := hI.2
    unfold wl_X12_next_63
    by_cases c16 : 40 ≤ x_63_0
    · refine br1 c16 ?_
      have d17 := le_z (x := 40) (y := (Int32.toInt x_63_0)) rfl rfl c16
      exact KX _ _ _ _ _ _ _ _ _ ⟨⟨by omega, by omega⟩, ⟨by omega, by omega⟩⟩
    · refine br0 c16 ?_
      have d18 := nle_z (x := 40) (y := (Int32.toInt x_63_0)) rfl rfl c16
      refine s_X12_isHidden x_63_0 h0_ordered x_63_2 x_63_3 x_63_4 x_63_5 (f_row) (x_63_7) (f_nOp) (f_nArg) (x_63_8) (f_now) ⟨by omega, by omega⟩ ⟨by omega, by omega⟩ ⟨by omega, by omega⟩ h_f_row (fun r19 u20_0 u20_1 u20_2 u20_3 u20_4 u20_5 H21 => ?_)
      have j22 := H21.1
      have j23 := H21.2
      refine un6_i ?_
      by_cases c24 : r19 = 0
      · refine br1 c24 ?_
        have d25 := eq_z (x := (Int32.toInt r19)) (y := 0) rfl rfl c24
        have t26 : (Int32.toInt (x_63_0 + 1)) = (Int32.toInt x_63_0) + 1 := add_z rfl rfl (by omega) (by omega)
        exact ih _ _ _ _ _ _ _ _ _ ⟨⟨by omega, by omega⟩, ⟨by omega, by omega⟩⟩ (by omega)
      · refine br0 c24 ?_
        have d27 := ne_z (x := (Int32.toInt r19)) (y := 0) rfl rfl c24
        refine s_X12_soundOf x_63_0 x_26_0 h0_ordered u20_0 u20_1 u20_2 u20_3 (f_row) (u20_4) (f_nOp) (f_nArg) (u20_5) (f_now) ⟨by omega, by omega⟩ ⟨by omega, by omega⟩ ⟨by omega, by omega⟩ ⟨by omega, by omega⟩ h_f_row (fun r28 u29_0 u29_1 u29_2 u29_3 u29_4 u29_5 H30 => ?_)
        have j31 := H30.1
        have j32 := H30.2
        refine un6_i ?_
        refine ⟨vpi (x := (Int32.toInt r28)) rfl (by omega) (by omega), ?_⟩
        refine ⟨vpi (x := (Int32.toInt r28)) rfl (by omega) (by omega), ?_⟩
        refine ⟨vpi (x := (Int32.toInt r28)) rfl (by omega) (by omega), ?_⟩
        by_cases c33 : ((x_63_6 r28.toNatClampNeg) + 1) ≤ x_63_1
        · refine br1 c33 ?_
          have d34 := le_z (x := (Int32.toInt ((x_63_6 r28.toNatClampNeg) + 1))) (y := (Int32.toInt x_63_1)) rfl rfl c33
          have t35 : (Int32.toInt (x_63_0 + 1)) = (Int32.toInt x_63_0) + 1 := add_z rfl rfl (by omega) (by omega)
          exact ih _ _ _ _ _ _ _ _ _ ⟨⟨by omega, by omega⟩, ⟨by omega, by omega⟩⟩ (by omega)
        · refine br0 c33 ?_
          have d36 := nle_z (x := (Int32.toInt ((x_63_6 r28.toNatClampNeg) + 1))) (y := (Int32.toInt x_63_1)) rfl rfl c33
          refine ⟨vpi (x := (Int32.toInt r28)) rfl (by omega) (by omega), ?_⟩
          have t37 : (Int32.toInt (x_63_0 + 1)) = (Int32.toInt x_63_0) + 1 := add_z rfl rfl (by omega) (by omega)
          exact ih _ _ _ _ _ _ _ _ _ ⟨⟨by omega, by omega⟩, ⟨by omega, by omega⟩⟩ (by omega)
set_option maxRecDepth 100000 in
theorem sl_X12_next_26 (h0_ordered : Int32) (f_row : Nat → Int32) (f_nOp : Nat → Int32) (f_nArg : Nat → Int32) (f_now : Nat → Int64) (h_h0_ordered : 0 ≤ h0_ordered.toInt ∧ h0_ordered.toInt ≤ 0) (h_f_row : RLW f_row) (Qb : Int32 → Int32 → Int32 → Int32 → Int32 → Int64 → Int64 → (Nat → Int32) → (Nat → Int64) → (Nat → Int64) → Prop) (KX : ∀ (x_26_0 : Int32) (x_26_1 : Int32) (x_26_2 : Int32) (x_26_3 : Int32) (x_26_4 : Int32) (x_26_5 : Int64) (x_26_6 : Int64) (x_26_7 : Nat → Int32) (x_26_8 : Nat → Int64) (x_26_9 : Nat → Int64), (8 ≤ x_26_0.toInt ∧ x_26_0.toInt ≤ 8) ∧ (0 ≤ x_26_4.toInt ∧ x_26_4.toInt ≤ 1) → Qb x_26_0 x_26_1 x_26_2 x_26_3 x_26_4 x_26_5 x_26_6 x_26_7 x_26_8 x_26_9) : ∀ (n : Nat) (x_26_0 : Int32) (x_26_1 : Int32) (x_26_2 : Int32) (x_26_3 : Int32) (x_26_4 : Int32) (x_26_5 : Int64) (x_26_6 : Int64) (x_26_7 : Nat → Int32) (x_26_8 : Nat → Int64) (x_26_9 : Nat → Int64), (0 ≤ x_26_0.toInt ∧ x_26_0.toInt ≤ 8) ∧ (0 ≤ x_26_4.toInt ∧ x_26_4.toInt ≤ 1) → 9 - x_26_0.toInt < (n : Int) → wl_X12_next_26 h0_ordered f_row f_nOp f_nArg f_now Qb n x_26_0 x_26_1 x_26_2 x_26_3 x_26_4 x_26_5 x_26_6 x_26_7 x_26_8 x_26_9 := by
  intro n
  induction n with
  | zero =>
    intro x_26_0 x_26_1 x_26_2 x_26_3 x_26_4 x_26_5 x_26_6 x_26_7 x_26_8 x_26_9 hI hm
    exfalso; have hm : 9 - x_26_0.toInt < 0 := hm; omega
  | succ n ih =>
    intro x_26_0 x_26_1 x_26_2 x_26_3 x_26_4 x_26_5 x_26_6 x_26_7 x_26_8 x_26_9 hI hm
    have hm : 9 - x_26_0.toInt < (n : Int) + 1 := by simpa using hm
    have h_x_26_0 := hI.1
    have h_x_26_4 := hI.2
    unfold wl_X12_next_26
    by_cases c9 : 8 ≤ x_26_0
    · refine br1 c9 ?_
      have d10 := le_z (x := 8) (y := (Int32.toInt x_26_0)) rfl rfl c9
      exact KX _ _ _ _ _ _ _ _ _ _ ⟨⟨by omega, by omega⟩, ⟨by omega, by omega⟩⟩
    · refine br0 c9 ?_
      have d11 := nle_z (x := 8) (y := (Int32.toInt x_26_0)) rfl rfl c9
      have k14 : Int32.toInt 0 = 0 := rfl
      refine sl_X12_next_36   _ (fun x12_0 x12_1 X13 => ?_) 1000000000000 0 (x_26_7) (by decide) (by omega)
      have j15 := X13
      refine sl_X12_next_63 h0_ordered (f_row) (f_nOp) (f_nArg) (f_now) x_26_0 ⟨by omega, by omega⟩ h_f_row ⟨by omega, by omega⟩ _ (fun x16_0 x16_1 x16_2 x16_3 x16_4 x16_5 x16_6 x16_7 x16_8 X17 => ?_) 1000000000000 0 0 x_26_3 x_26_4 x_26_5 x_26_6 (x12_1) (x_26_8) (x_26_9) ⟨(by decide), ⟨by omega, by omega⟩⟩ (by omega)
      have j18 := X17.1
      have j19 := X17.2
      refine jn_s ?_
      by_cases c20 : x16_1 ≤ 0
      · refine br1 c20 ?_
        have d21 := le_z (x := (Int32.toInt x16_1)) (y := 0) rfl rfl c20
        refine br1 (z_le (x := (Int32.toInt x16_1)) (y := 0) rfl rfl (by omega)) ?_
        have t22 : (Int32.toInt (x_26_0 + 1)) = (Int32.toInt x_26_0) + 1 := add_z rfl rfl (by omega) (by omega)
        exact ih _ _ _ _ _ _ _ _ _ _ ⟨⟨by omega, by omega⟩, ⟨by omega, by omega⟩⟩ (by omega)
      · refine br0 c20 ?_
        have d23 := nle_z (x := (Int32.toInt x16_1)) (y := 0) rfl rfl c20
        by_cases c24 : x_26_2 ≤ x16_1
        · refine br1 c24 ?_
          have d25 := le_z (x := (Int32.toInt x_26_2)) (y := (Int32.toInt x16_1)) rfl rfl c24
          refine br0 (z_nle (x := (Int32.toInt x16_1)) (y := 0) rfl rfl (by omega)) ?_
          by_cases c26 : x_26_2 ≤ x16_1
          · refine br1 c26 ?_
            have d27 := le_z (x := (Int32.toInt x_26_2)) (y := (Int32.toInt x16_1)) rfl rfl c26
            have t28 : (Int32.toInt (x_26_0 + 1)) = (Int32.toInt x_26_0) + 1 := add_z rfl rfl (by omega) (by omega)
            exact ih _ _ _ _ _ _ _ _ _ _ ⟨⟨by omega, by omega⟩, ⟨by omega, by omega⟩⟩ (by omega)
          · refine br0 c26 ?_
            have d29 := nle_z (x := (Int32.toInt x_26_2)) (y := (Int32.toInt x16_1)) rfl rfl c26
            have t30 : (Int32.toInt (x_26_0 + 1)) = (Int32.toInt x_26_0) + 1 := add_z rfl rfl (by omega) (by omega)
            exact ih _ _ _ _ _ _ _ _ _ _ ⟨⟨by omega, by omega⟩, ⟨by omega, by omega⟩⟩ (by omega)
        · refine br0 c24 ?_
          have d31 := nle_z (x := (Int32.toInt x_26_2)) (y := (Int32.toInt x16_1)) rfl rfl c24
          refine br0 (z_nle (x := (Int32.toInt x16_1)) (y := 0) rfl rfl (by omega)) ?_
          by_cases c32 : x_26_2 ≤ x16_1
          · refine br1 c32 ?_
            have d33 := le_z (x := (Int32.toInt x_26_2)) (y := (Int32.toInt x16_1)) rfl rfl c32
            have t34 : (Int32.toInt (x_26_0 + 1)) = (Int32.toInt x_26_0) + 1 := add_z rfl rfl (by omega) (by omega)
            exact ih _ _ _ _ _ _ _ _ _ _ ⟨⟨by omega, by omega⟩, ⟨by omega, by omega⟩⟩ (by omega)
          · refine br0 c32 ?_
            have d35 := nle_z (x := (Int32.toInt x_26_2)) (y := (Int32.toInt x16_1)) rfl rfl c32
            have t36 : (Int32.toInt (x_26_0 + 1)) = (Int32.toInt x_26_0) + 1 := add_z rfl rfl (by omega) (by omega)
            exact ih _ _ _ _ _ _ _ _ _ _ ⟨⟨by omega, by omega⟩, ⟨by omega, by omega⟩⟩ (by omega)
set_option maxRecDepth 100000 in
theorem s_X12_next (a : Int32) (h0_ordered : Int32) (h0_law : Int32) (h0_broken : Int32) (h0_value : Int64) (h0_sum : Int64) (f_alike : Nat → Int32) (f_row : Nat → Int32) (f_set : Nat → Int64) (f_nOp : Nat → Int32) (f_nArg : Nat → Int32) (f_rest : Nat → Int64) (f_now : Nat → Int64) (h_h0_ordered : 0 ≤ h0_ordered.toInt ∧ h0_ordered.toInt ≤ 0) (h_h0_broken : 0 ≤ h0_broken.toInt ∧ h0_broken.toInt ≤ 1) (h_f_row : RLW f_row) {Q : Int32 → (Int32 × Int32 × Int32 × Int64 × Int64 × (Nat → Int32) × (Nat → Int64) × (Nat → Int64)) → Prop} (hq : ∀ (r : Int32) (u_0 : Int32) (u_1 : Int32) (u_2 : Int32) (u_3 : Int64) (u_4 : Int64) (u_5 : Nat → Int32) (u_6 : Nat → Int64) (u_7 : Nat → Int64), (0 ≤ u_2.toInt ∧ u_2.toInt ≤ 1) → Q r (u_0, u_1, u_2, u_3, u_4, u_5, u_6, u_7)) : wp_X12_next a h0_ordered h0_law h0_broken h0_value h0_sum f_alike f_row f_set f_nOp f_nArg f_rest f_now Q := by
  unfold wp_X12_next
  refine o_X12_in _ _ _ _ ?_
  by_cases c1 : (lg_cmp a.toInt64 0) < 0
  · refine br1 c1 ?_
    have t2 : (Int64.toInt a.toInt64) = (Int32.toInt a) := i2l_z rfl
    have d3 := c_lt (x := (Int64.toInt a.toInt64)) (y := 0) rfl rfl c1
    refine br1 (by decide) ?_
    exact hq _ _ _ _ _ _ _ _ _ ⟨by omega, by omega⟩
  · refine br0 c1 ?_
    have t4 : (Int64.toInt a.toInt64) = (Int32.toInt a) := i2l_z rfl
    have d5 := c_nlt (x := (Int64.toInt a.toInt64)) (y := 0) rfl rfl c1
    by_cases c6 : 0 < (lg_cmp a.toInt64 1)
    · refine br1 c6 ?_
      have d7 := c_gt (x := (Int64.toInt a.toInt64)) (y := 1) rfl rfl c6
      refine br1 (by decide) ?_
      exact hq _ _ _ _ _ _ _ _ _ ⟨by omega, by omega⟩
    · refine br0 c6 ?_
      have d8 := c_ngt (x := (Int64.toInt a.toInt64)) (y := 1) rfl rfl c6
      refine br0 (by decide) ?_
      have k11 : Int32.toInt 0 = 0 := rfl
      have k12 : Int32.toInt (-1) = (-1) := (by decide)
      have k13 : Int32.toInt 100000000 = 100000000 := rfl
      refine sl_X12_next_26 h0_ordered (f_row) (f_nOp) (f_nArg) (f_now) ⟨by omega, by omega⟩ h_f_row _ (fun x9_0 x9_1 x9_2 x9_3 x9_4 x9_5 x9_6 x9_7 x9_8 x9_9 X10 => ?_) 1000000000000 0 (-1) 100000000 h0_law h0_broken h0_value h0_sum (f_alike) (f_set) (f_rest) ⟨(by decide), ⟨by omega, by omega⟩⟩ (by omega)
      have j14 := X10.1
      have j15 := X10.2
      by_cases c16 : x9_1 = (-1)
      · refine br1 c16 ?_
        have d17 := eq_z (x := (Int32.toInt x9_1)) (y := (-1)) rfl (by decide) c16
        exact hq _ _ _ _ _ _ _ _ _ ⟨by omega, by omega⟩
      · refine br0 c16 ?_
        have d18 := ne_z (x := (Int32.toInt x9_1)) (y := (-1)) rfl (by decide) c16
        by_cases c19 : a = 0
        · refine br1 c19 ?_
          have d20 := eq_z (x := (Int32.toInt a)) (y := 0) rfl rfl c19
          exact hq _ _ _ _ _ _ _ _ _ ⟨by omega, by omega⟩
        · refine br0 c19 ?_
          have d21 := ne_z (x := (Int32.toInt a)) (y := 0) rfl rfl c19
          exact hq _ _ _ _ _ _ _ _ _ ⟨by omega, by omega⟩


set_option maxRecDepth 100000 in
theorem sl_X12_compare_36 (a : Int32) (h0_ordered : Int32) (f_row : Nat → Int32) (f_nOp : Nat → Int32) (f_nArg : Nat → Int32) (f_now : Nat → Int64) (h_a : (-1) ≤ a.toInt ∧ a.toInt ≤ (-1)) (h_h0_ordered : 0 ≤ h0_ordered.toInt ∧ h0_ordered.toInt ≤ 0) (h_f_row : RLW f_row) (Qb : Int32 → Int32 → Int32 → Int32 → Int64 → Int64 → (Nat → Int64) → (Nat → Int64) → Prop) (KX : ∀ (x_36_0 : Int32) (x_36_1 : Int32) (x_36_2 : Int32) (x_36_3 : Int32) (x_36_4 : Int64) (x_36_5 : Int64) (x_36_6 : Nat → Int64) (x_36_7 : Nat → Int64), (0 ≤ x_36_0.toInt ∧ x_36_0.toInt ≤ 5) ∧ (0 ≤ x_36_3.toInt ∧ x_36_3.toInt ≤ 1) → Qb x_36_0 x_36_1 x_36_2 x_36_3 x_36_4 x_36_5 x_36_6 x_36_7) : ∀ (n : Nat) (x_36_0 : Int32) (x_36_1 : Int32) (x_36_2 : Int32) (x_36_3 : Int32) (x_36_4 : Int64) (x_36_5 : Int64) (x_36_6 : Nat → Int64) (x_36_7 : Nat → Int64), (0 ≤ x_36_0.toInt ∧ x_36_0.toInt ≤ 5) ∧ (0 ≤ x_36_3.toInt ∧ x_36_3.toInt ≤ 1) → 6 - x_36_0.toInt < (n : Int) → wl_X12_compare_36 a h0_ordered f_row f_nOp f_nArg f_now Qb n x_36_0 x_36_1 x_36_2 x_36_3 x_36_4 x_36_5 x_36_6 x_36_7 := by
  intro n
  induction n with
  | zero =>
    intro x_36_0 x_36_1 x_36_2 x_36_3 x_36_4 x_36_5 x_36_6 x_36_7 hI hm
    exfalso; have hm : 6 - x_36_0.toInt < 0 := hm; omega
  | succ n ih =>
    intro x_36_0 x_36_1 x_36_2 x_36_3 x_36_4 x_36_5 x_36_6 x_36_7 hI hm
    have hm : 6 - x_36_0.toInt < (n : Int) + 1 := by simpa using hm
    have h_x_36_0 := hI.1
    have h_x_36_3 := hI.2
    unfold wl_X12_compare_36
    by_cases c3 : (f_row (1 : Int32).toNatClampNeg) ≤ x_36_0
    · refine br1 c3 ?_
      have g4 : 0 ≤ (Int32.toInt (f_row (1 : Int32).toNatClampNeg)) ∧ (Int32.toInt (f_row (1 : Int32).toNatClampNeg)) ≤ 5 := RLW.at_1 h_f_row (rfl : ((1 : Nat) : Int) = 1) (by omega) (by omega)
      have d5 := le_z (x := (Int32.toInt (f_row (1 : Int32).toNatClampNeg))) (y := (Int32.toInt x_36_0)) rfl rfl c3
      exact KX _ _ _ _ _ _ _ _ ⟨⟨by omega, by omega⟩, ⟨by omega, by omega⟩⟩
    · refine br0 c3 ?_
      have g6 : 0 ≤ (Int32.toInt (f_row (1 : Int32).toNatClampNeg)) ∧ (Int32.toInt (f_row (1 : Int32).toNatClampNeg)) ≤ 5 := RLW.at_1 h_f_row (rfl : ((1 : Nat) : Int) = 1) (by omega) (by omega)
      have d7 := nle_z (x := (Int32.toInt (f_row (1 : Int32).toNatClampNeg))) (y := (Int32.toInt x_36_0)) rfl rfl c3
      have R8 : RLW (upd f_row 6 a) := RLW.up_6 h_f_row (rfl : ((6 : Nat) : Int) = 6) (by omega) (by omega) (w := (Int32.toInt a)) rfl (by omega) (by omega)
      refine s_X12_heardBy x_36_0 h0_ordered x_36_2 x_36_3 x_36_4 x_36_5 ((upd f_row 6 a)) (x_36_6) (f_nOp) (f_nArg) (x_36_7) (f_now) ⟨by omega, by omega⟩ ⟨by omega, by omega⟩ ⟨by omega, by omega⟩ R8 (fun r9 u10_0 u10_1 u10_2 u10_3 u10_4 u10_5 H11 => ?_)
      have j12 := H11
      refine un6_i ?_
      refine s_X12_ones r9  (fun r13 H14 => ?_)
      have j15 := H14
      have t16 : (Int32.toInt (x_36_0 + 1)) = (Int32.toInt x_36_0) + 1 := add_z rfl rfl (by omega) (by omega)
      exact ih _ _ _ _ _ _ _ _ ⟨⟨by omega, by omega⟩, ⟨by omega, by omega⟩⟩ (by omega)
set_option maxRecDepth 100000 in
theorem sl_X12_compare_36_1 (a : Int32) (h0_ordered : Int32) (f_row : Nat → Int32) (f_nOp : Nat → Int32) (f_nArg : Nat → Int32) (f_now : Nat → Int64) (h_a : 0 ≤ a.toInt ∧ a.toInt ≤ 5) (h_h0_ordered : 0 ≤ h0_ordered.toInt ∧ h0_ordered.toInt ≤ 0) (h_f_row : RLW f_row) (Qb : Int32 → Int32 → Int32 → Int32 → Int64 → Int64 → (Nat → Int64) → (Nat → Int64) → Prop) (KX : ∀ (x_36_0 : Int32) (x_36_1 : Int32) (x_36_2 : Int32) (x_36_3 : Int32) (x_36_4 : Int64) (x_36_5 : Int64) (x_36_6 : Nat → Int64) (x_36_7 : Nat → Int64), (0 ≤ x_36_0.toInt ∧ x_36_0.toInt ≤ 5) ∧ (0 ≤ x_36_3.toInt ∧ x_36_3.toInt ≤ 1) → Qb x_36_0 x_36_1 x_36_2 x_36_3 x_36_4 x_36_5 x_36_6 x_36_7) : ∀ (n : Nat) (x_36_0 : Int32) (x_36_1 : Int32) (x_36_2 : Int32) (x_36_3 : Int32) (x_36_4 : Int64) (x_36_5 : Int64) (x_36_6 : Nat → Int64) (x_36_7 : Nat → Int64), (0 ≤ x_36_0.toInt ∧ x_36_0.toInt ≤ 5) ∧ (0 ≤ x_36_3.toInt ∧ x_36_3.toInt ≤ 1) → 6 - x_36_0.toInt < (n : Int) → wl_X12_compare_36 a h0_ordered f_row f_nOp f_nArg f_now Qb n x_36_0 x_36_1 x_36_2 x_36_3 x_36_4 x_36_5 x_36_6 x_36_7 := by
  intro n
  induction n with
  | zero =>
    intro x_36_0 x_36_1 x_36_2 x_36_3 x_36_4 x_36_5 x_36_6 x_36_7 hI hm
    exfalso; have hm : 6 - x_36_0.toInt < 0 := hm; omega
  | succ n ih =>
    intro x_36_0 x_36_1 x_36_2 x_36_3 x_36_4 x_36_5 x_36_6 x_36_7 hI hm
    have hm : 6 - x_36_0.toInt < (n : Int) + 1 := by simpa using hm
    have h_x_36_0 := hI.1
    have h_x_36_3 := hI.2
    unfold wl_X12_compare_36
    by_cases c26 : (f_row (1 : Int32).toNatClampNeg) ≤ x_36_0
    · refine br1 c26 ?_
      have g27 : 0 ≤ (Int32.toInt (f_row (1 : Int32).toNatClampNeg)) ∧ (Int32.toInt (f_row (1 : Int32).toNatClampNeg)) ≤ 5 := RLW.at_1 h_f_row (rfl : ((1 : Nat) : Int) = 1) (by omega) (by omega)
      have d28 := le_z (x := (Int32.toInt (f_row (1 : Int32).toNatClampNeg))) (y := (Int32.toInt x_36_0)) rfl rfl c26
      exact KX _ _ _ _ _ _ _ _ ⟨⟨by omega, by omega⟩, ⟨by omega, by omega⟩⟩
    · refine br0 c26 ?_
      have g29 : 0 ≤ (Int32.toInt (f_row (1 : Int32).toNatClampNeg)) ∧ (Int32.toInt (f_row (1 : Int32).toNatClampNeg)) ≤ 5 := RLW.at_1 h_f_row (rfl : ((1 : Nat) : Int) = 1) (by omega) (by omega)
      have d30 := nle_z (x := (Int32.toInt (f_row (1 : Int32).toNatClampNeg))) (y := (Int32.toInt x_36_0)) rfl rfl c26
      have R31 : RLW (upd f_row 6 a) := RLW.up_6 h_f_row (rfl : ((6 : Nat) : Int) = 6) (by omega) (by omega) (w := (Int32.toInt a)) rfl (by omega) (by omega)
      refine s_X12_heardBy x_36_0 h0_ordered x_36_2 x_36_3 x_36_4 x_36_5 ((upd f_row 6 a)) (x_36_6) (f_nOp) (f_nArg) (x_36_7) (f_now) ⟨by omega, by omega⟩ ⟨by omega, by omega⟩ ⟨by omega, by omega⟩ R31 (fun r32 u33_0 u33_1 u33_2 u33_3 u33_4 u33_5 H34 => ?_)
      have j35 := H34
      refine un6_i ?_
      refine s_X12_ones r32  (fun r36 H37 => ?_)
      have j38 := H37
      have t39 : (Int32.toInt (x_36_0 + 1)) = (Int32.toInt x_36_0) + 1 := add_z rfl rfl (by omega) (by omega)
      exact ih _ _ _ _ _ _ _ _ ⟨⟨by omega, by omega⟩, ⟨by omega, by omega⟩⟩ (by omega)
set_option maxRecDepth 100000 in
theorem s_X12_compare (a : Int32) (h0_ordered : Int32) (h0_law : Int32) (h0_broken : Int32) (h0_value : Int64) (h0_sum : Int64) (f_row : Nat → Int32) (f_set : Nat → Int64) (f_nOp : Nat → Int32) (f_nArg : Nat → Int32) (f_rest : Nat → Int64) (f_now : Nat → Int64) (h_h0_ordered : 0 ≤ h0_ordered.toInt ∧ h0_ordered.toInt ≤ 0) (h_h0_broken : 0 ≤ h0_broken.toInt ∧ h0_broken.toInt ≤ 1) (h_f_row : RLW f_row) {Q : Int32 → (Int32 × Int32 × Int32 × Int64 × Int64 × (Nat → Int32) × (Nat → Int64) × (Nat → Int64)) → Prop} (hq : ∀ (r : Int32) (u_0 : Int32) (u_1 : Int32) (u_2 : Int32) (u_3 : Int64) (u_4 : Int64) (u_5 : Nat → Int32) (u_6 : Nat → Int64) (u_7 : Nat → Int64), (0 ≤ u_2.toInt ∧ u_2.toInt ≤ 1) ∧ (RLW u_5) → Q r (u_0, u_1, u_2, u_3, u_4, u_5, u_6, u_7)) : wp_X12_compare a h0_ordered h0_law h0_broken h0_value h0_sum f_row f_set f_nOp f_nArg f_rest f_now Q := by
  unfold wp_X12_compare
  refine o_X12_isLaw _ _ _ ?_
  by_cases c1 : a = (-1)
  · refine br1 c1 ?_
    have d2 := eq_z (x := (Int32.toInt a)) (y := (-1)) rfl (by decide) c1
    refine br0 (by decide) ?_
    have k5 : Int32.toInt 0 = 0 := rfl
    refine sl_X12_compare_36 a h0_ordered (f_row) (f_nOp) (f_nArg) (f_now) ⟨by omega, by omega⟩ ⟨by omega, by omega⟩ h_f_row _ (fun x3_0 x3_1 x3_2 x3_3 x3_4 x3_5 x3_6 x3_7 X4 => ?_) 1000000000000 0 0 h0_law h0_broken h0_value h0_sum (f_set) (f_rest) ⟨(by decide), ⟨by omega, by omega⟩⟩ (by omega)
    have j6 := X4.1
    have j7 := X4.2
    have R8 : RLW (upd f_row 6 a) := RLW.up_6 h_f_row (rfl : ((6 : Nat) : Int) = 6) (by omega) (by omega) (w := (Int32.toInt a)) rfl (by omega) (by omega)
    have g9 : (-1) ≤ (Int32.toInt (f_row (6 : Int32).toNatClampNeg)) ∧ (Int32.toInt (f_row (6 : Int32).toNatClampNeg)) ≤ 5 := RLW.at_6 h_f_row (rfl : ((6 : Nat) : Int) = 6) (by omega) (by omega)
    have R10 : RLW (upd (upd f_row 6 a) 6 (f_row (6 : Int32).toNatClampNeg)) := RLW.up_6 R8 (rfl : ((6 : Nat) : Int) = 6) (by omega) (by omega) (w := (Int32.toInt (f_row (6 : Int32).toNatClampNeg))) rfl (by omega) (by omega)
    exact hq _ _ _ _ _ _ _ _ _ ⟨⟨by omega, by omega⟩, R10⟩
  · refine br0 c1 ?_
    have d11 := ne_z (x := (Int32.toInt a)) (y := (-1)) rfl (by decide) c1
    refine o_X12_in _ _ _ _ ?_
    by_cases c12 : (lg_cmp a.toInt64 0) < 0
    · refine br1 c12 ?_
      have t13 : (Int64.toInt a.toInt64) = (Int32.toInt a) := i2l_z rfl
      have d14 := c_lt (x := (Int64.toInt a.toInt64)) (y := 0) rfl rfl c12
      refine br1 (by decide) ?_
      refine br1 (by decide) ?_
      exact hq _ _ _ _ _ _ _ _ _ ⟨⟨by omega, by omega⟩, h_f_row⟩
    · refine br0 c12 ?_
      have t15 : (Int64.toInt a.toInt64) = (Int32.toInt a) := i2l_z rfl
      have d16 := c_nlt (x := (Int64.toInt a.toInt64)) (y := 0) rfl rfl c12
      by_cases c17 : 0 < (lg_cmp a.toInt64 ((f_row (5 : Int32).toNatClampNeg).toInt64 - 1))
      · refine br1 c17 ?_
        have g18 : 0 ≤ (Int32.toInt (f_row (5 : Int32).toNatClampNeg)) ∧ (Int32.toInt (f_row (5 : Int32).toNatClampNeg)) ≤ 6 := RLW.at_5 h_f_row (rfl : ((5 : Nat) : Int) = 5) (by omega) (by omega)
        have t19 : (Int64.toInt (f_row (5 : Int32).toNatClampNeg).toInt64) = (Int32.toInt (f_row (5 : Int32).toNatClampNeg)) := i2l_z rfl
        have t20 : (Int64.toInt ((f_row (5 : Int32).toNatClampNeg).toInt64 - 1)) = (Int64.toInt (f_row (5 : Int32).toNatClampNeg).toInt64) - 1 := lsub_z rfl rfl (by omega) (by omega)
        have d21 := c_gt (x := (Int64.toInt a.toInt64)) (y := (Int64.toInt ((f_row (5 : Int32).toNatClampNeg).toInt64 - 1))) rfl rfl c17
        refine br1 (by decide) ?_
        refine br1 (by decide) ?_
        exact hq _ _ _ _ _ _ _ _ _ ⟨⟨by omega, by omega⟩, h_f_row⟩
      · refine br0 c17 ?_
        have g22 : 0 ≤ (Int32.toInt (f_row (5 : Int32).toNatClampNeg)) ∧ (Int32.toInt (f_row (5 : Int32).toNatClampNeg)) ≤ 6 := RLW.at_5 h_f_row (rfl : ((5 : Nat) : Int) = 5) (by omega) (by omega)
        have t23 : (Int64.toInt (f_row (5 : Int32).toNatClampNeg).toInt64) = (Int32.toInt (f_row (5 : Int32).toNatClampNeg)) := i2l_z rfl
        have t24 : (Int64.toInt ((f_row (5 : Int32).toNatClampNeg).toInt64 - 1)) = (Int64.toInt (f_row (5 : Int32).toNatClampNeg).toInt64) - 1 := lsub_z rfl rfl (by omega) (by omega)
        have d25 := c_ngt (x := (Int64.toInt a.toInt64)) (y := (Int64.toInt ((f_row (5 : Int32).toNatClampNeg).toInt64 - 1))) rfl rfl c17
        refine br0 (by decide) ?_
        refine br0 (by decide) ?_
        have k28 : Int32.toInt 0 = 0 := rfl
        refine sl_X12_compare_36_1 a h0_ordered (f_row) (f_nOp) (f_nArg) (f_now) ⟨by omega, by omega⟩ ⟨by omega, by omega⟩ h_f_row _ (fun x26_0 x26_1 x26_2 x26_3 x26_4 x26_5 x26_6 x26_7 X27 => ?_) 1000000000000 0 0 h0_law h0_broken h0_value h0_sum (f_set) (f_rest) ⟨(by decide), ⟨by omega, by omega⟩⟩ (by omega)
        have j29 := X27.1
        have j30 := X27.2
        have R31 : RLW (upd f_row 6 a) := RLW.up_6 h_f_row (rfl : ((6 : Nat) : Int) = 6) (by omega) (by omega) (w := (Int32.toInt a)) rfl (by omega) (by omega)
        have g32 : (-1) ≤ (Int32.toInt (f_row (6 : Int32).toNatClampNeg)) ∧ (Int32.toInt (f_row (6 : Int32).toNatClampNeg)) ≤ 5 := RLW.at_6 h_f_row (rfl : ((6 : Nat) : Int) = 6) (by omega) (by omega)
        have R33 : RLW (upd (upd f_row 6 a) 6 (f_row (6 : Int32).toNatClampNeg)) := RLW.up_6 R31 (rfl : ((6 : Nat) : Int) = 6) (by omega) (by omega) (w := (Int32.toInt (f_row (6 : Int32).toNatClampNeg))) rfl (by omega) (by omega)
        exact hq _ _ _ _ _ _ _ _ _ ⟨⟨by omega, by omega⟩, R33⟩


set_option maxRecDepth 100000 in
theorem sl_X12_quiet_101 (f_row : Nat → Int32) (x_67_0 : Int32) (h_f_row : RLW f_row) (h_x_67_0 : 0 ≤ x_67_0.toInt ∧ x_67_0.toInt ≤ 63) (Qb : Int32 → Int32 → Prop) (KX : ∀ (x_101_0 : Int32) (x_101_1 : Int32), (0 ≤ x_101_0.toInt ∧ x_101_0.toInt ≤ 0) ∧ (0 ≤ x_101_1.toInt ∧ x_101_1.toInt ≤ 0) → Qb x_101_0 x_101_1) : ∀ (n : Nat) (x_101_0 : Int32) (x_101_1 : Int32), (0 ≤ x_101_0.toInt ∧ x_101_0.toInt ≤ 0) ∧ (0 ≤ x_101_1.toInt ∧ x_101_1.toInt ≤ 0) → 1 - x_101_0.toInt < (n : Int) → wl_X12_quiet_101 f_row x_67_0 Qb n x_101_0 x_101_1 := by
  intro n
  induction n with
  | zero =>
    intro x_101_0 x_101_1 hI hm
    exfalso; have hm : 1 - x_101_0.toInt < 0 := hm; omega
  | succ n ih =>
    intro x_101_0 x_101_1 hI hm
    have hm : 1 - x_101_0.toInt < (n : Int) + 1 := by simpa using hm
    have h_x_101_0 := hI.1
    have h_x_101_1 := hI.2
    unfold wl_X12_quiet_101
    by_cases c44 : (f_row (2 : Int32).toNatClampNeg) ≤ x_101_0
    · refine br1 c44 ?_
      have g45 : 0 ≤ (Int32.toInt (f_row (2 : Int32).toNatClampNeg)) ∧ (Int32.toInt (f_row (2 : Int32).toNatClampNeg)) ≤ 6 := RLW.at_2 h_f_row (rfl : ((2 : Nat) : Int) = 2) (by omega) (by omega)
      have d46 := le_z (x := (Int32.toInt (f_row (2 : Int32).toNatClampNeg))) (y := (Int32.toInt x_101_0)) rfl rfl c44
      exact KX _ _ ⟨⟨by omega, by omega⟩, ⟨by omega, by omega⟩⟩
    · refine br0 c44 ?_
      have g47 : 0 ≤ (Int32.toInt (f_row (2 : Int32).toNatClampNeg)) ∧ (Int32.toInt (f_row (2 : Int32).toNatClampNeg)) ≤ 6 := RLW.at_2 h_f_row (rfl : ((2 : Nat) : Int) = 2) (by omega) (by omega)
      have d48 := nle_z (x := (Int32.toInt (f_row (2 : Int32).toNatClampNeg))) (y := (Int32.toInt x_101_0)) rfl rfl c44
      refine br1 (z_eq (x := (Int32.toInt x_101_1)) (y := 0) rfl rfl (by omega)) ?_
      exact KX _ _ ⟨⟨by omega, by omega⟩, ⟨by omega, by omega⟩⟩
set_option maxRecDepth 100000 in
theorem sl_X12_quiet_157 (a : Int32) (b : Int32) (h0_ordered : Int32) (f_row : Nat → Int32) (f_nOp : Nat → Int32) (f_nArg : Nat → Int32) (f_now : Nat → Int64) (x_67_0 : Int32) (h_a : 0 ≤ a.toInt ∧ a.toInt ≤ 2147483647) (h_b : 0 ≤ b.toInt ∧ b.toInt ≤ 39) (h_h0_ordered : 0 ≤ h0_ordered.toInt ∧ h0_ordered.toInt ≤ 0) (h_f_row : RLW f_row) (h_x_67_0 : 0 ≤ x_67_0.toInt ∧ x_67_0.toInt ≤ 63) (Qb : Int32 → Int32 → Int32 → Int32 → Int64 → Int64 → (Nat → Int64) → (Nat → Int64) → Prop) (KX : ∀ (x_157_0 : Int32) (x_157_1 : Int32) (x_157_2 : Int32) (x_157_3 : Int32) (x_157_4 : Int64) (x_157_5 : Int64) (x_157_6 : Nat → Int64) (x_157_7 : Nat → Int64), (0 ≤ x_157_0.toInt ∧ x_157_0.toInt ≤ 0) ∧ (0 ≤ x_157_1.toInt ∧ x_157_1.toInt ≤ 0) ∧ (0 ≤ x_157_3.toInt ∧ x_157_3.toInt ≤ 1) → Qb x_157_0 x_157_1 x_157_2 x_157_3 x_157_4 x_157_5 x_157_6 x_157_7) : ∀ (n : Nat) (x_157_0 : Int32) (x_157_1 : Int32) (x_157_2 : Int32) (x_157_3 : Int32) (x_157_4 : Int64) (x_157_5 : Int64) (x_157_6 : Nat → Int64) (x_157_7 : Nat → Int64), (0 ≤ x_157_0.toInt ∧ x_157_0.toInt ≤ 0) ∧ (0 ≤ x_157_1.toInt ∧ x_157_1.toInt ≤ 0) ∧ (0 ≤ x_157_3.toInt ∧ x_157_3.toInt ≤ 1) → 1 - x_157_0.toInt < (n : Int) → wl_X12_quiet_157 a b h0_ordered f_row f_nOp f_nArg f_now x_67_0 Qb n x_157_0 x_157_1 x_157_2 x_157_3 x_157_4 x_157_5 x_157_6 x_157_7 := by
  intro n
  induction n with
  | zero =>
    intro x_157_0 x_157_1 x_157_2 x_157_3 x_157_4 x_157_5 x_157_6 x_157_7 hI hm
    exfalso; have hm : 1 - x_157_0.toInt < 0 := hm; omega
  | succ n ih =>
    intro x_157_0 x_157_1 x_157_2 x_157_3 x_157_4 x_157_5 x_157_6 x_157_7 hI hm
    have hm : 1 - x_157_0.toInt < (n : Int) + 1 := by simpa using hm
    have h_x_157_0 := hI.1
    have h_x_157_1 := hI.2.1
    have h_x_157_3 := hI.2.2
    unfold wl_X12_quiet_157
    by_cases c49 : (f_row (1 : Int32).toNatClampNeg) ≤ x_157_0
    · refine br1 c49 ?_
      have g50 : 0 ≤ (Int32.toInt (f_row (1 : Int32).toNatClampNeg)) ∧ (Int32.toInt (f_row (1 : Int32).toNatClampNeg)) ≤ 5 := RLW.at_1 h_f_row (rfl : ((1 : Nat) : Int) = 1) (by omega) (by omega)
      have d51 := le_z (x := (Int32.toInt (f_row (1 : Int32).toNatClampNeg))) (y := (Int32.toInt x_157_0)) rfl rfl c49
      exact KX _ _ _ _ _ _ _ _ ⟨⟨by omega, by omega⟩, ⟨by omega, by omega⟩, ⟨by omega, by omega⟩⟩
    · refine br0 c49 ?_
      have g52 : 0 ≤ (Int32.toInt (f_row (1 : Int32).toNatClampNeg)) ∧ (Int32.toInt (f_row (1 : Int32).toNatClampNeg)) ≤ 5 := RLW.at_1 h_f_row (rfl : ((1 : Nat) : Int) = 1) (by omega) (by omega)
      have d53 := nle_z (x := (Int32.toInt (f_row (1 : Int32).toNatClampNeg))) (y := (Int32.toInt x_157_0)) rfl rfl c49
      refine br1 (z_eq (x := (Int32.toInt x_157_1)) (y := 0) rfl rfl (by omega)) ?_
      exact KX _ _ _ _ _ _ _ _ ⟨⟨by omega, by omega⟩, ⟨by omega, by omega⟩, ⟨by omega, by omega⟩⟩
set_option maxRecDepth 100000 in
theorem sl_X12_quiet_101_1 (f_row : Nat → Int32) (x_67_0 : Int32) (h_f_row : RLW f_row) (h_x_67_0 : 0 ≤ x_67_0.toInt ∧ x_67_0.toInt ≤ 63) (Qb : Int32 → Int32 → Prop) (KX : ∀ (x_101_0 : Int32) (x_101_1 : Int32), (0 ≤ x_101_0.toInt ∧ x_101_0.toInt ≤ 6) ∧ (0 ≤ x_101_1.toInt ∧ x_101_1.toInt ≤ 1) → Qb x_101_0 x_101_1) : ∀ (n : Nat) (x_101_0 : Int32) (x_101_1 : Int32), (0 ≤ x_101_0.toInt ∧ x_101_0.toInt ≤ 6) ∧ (0 ≤ x_101_1.toInt ∧ x_101_1.toInt ≤ 1) → 7 - x_101_0.toInt < (n : Int) → wl_X12_quiet_101 f_row x_67_0 Qb n x_101_0 x_101_1 := by
  intro n
  induction n with
  | zero =>
    intro x_101_0 x_101_1 hI hm
    exfalso; have hm : 7 - x_101_0.toInt < 0 := hm; omega
  | succ n ih =>
    intro x_101_0 x_101_1 hI hm
    have hm : 7 - x_101_0.toInt < (n : Int) + 1 := by simpa using hm
    have h_x_101_0 := hI.1
    have h_x_101_1 := hI.2
    unfold wl_X12_quiet_101
    by_cases c58 : (f_row (2 : Int32).toNatClampNeg) ≤ x_101_0
    · refine br1 c58 ?_
      have g59 : 0 ≤ (Int32.toInt (f_row (2 : Int32).toNatClampNeg)) ∧ (Int32.toInt (f_row (2 : Int32).toNatClampNeg)) ≤ 6 := RLW.at_2 h_f_row (rfl : ((2 : Nat) : Int) = 2) (by omega) (by omega)
      have d60 := le_z (x := (Int32.toInt (f_row (2 : Int32).toNatClampNeg))) (y := (Int32.toInt x_101_0)) rfl rfl c58
      exact KX _ _ ⟨⟨by omega, by omega⟩, ⟨by omega, by omega⟩⟩
    · refine br0 c58 ?_
      have g61 : 0 ≤ (Int32.toInt (f_row (2 : Int32).toNatClampNeg)) ∧ (Int32.toInt (f_row (2 : Int32).toNatClampNeg)) ≤ 6 := RLW.at_2 h_f_row (rfl : ((2 : Nat) : Int) = 2) (by omega) (by omega)
      have d62 := nle_z (x := (Int32.toInt (f_row (2 : Int32).toNatClampNeg))) (y := (Int32.toInt x_101_0)) rfl rfl c58
      by_cases c63 : x_101_1 = 0
      · refine br1 c63 ?_
        have d64 := eq_z (x := (Int32.toInt x_101_1)) (y := 0) rfl rfl c63
        exact KX _ _ ⟨⟨by omega, by omega⟩, ⟨by omega, by omega⟩⟩
      · refine br0 c63 ?_
        have d65 := ne_z (x := (Int32.toInt x_101_1)) (y := 0) rfl rfl c63
        refine o_X12_is _ _ _ ?_
        by_cases c66 : (lg_cmp ((x_67_0.toInt64 >>> (x_101_0.toInt64 &&& 63)) &&& 1) 1) = 0
        · refine br1 c66 ?_
          have t67 : (Int64.toInt x_67_0.toInt64) = (Int32.toInt x_67_0) := i2l_z rfl
          have d68 := c_eq (x := (Int64.toInt ((x_67_0.toInt64 >>> (x_101_0.toInt64 &&& 63)) &&& 1))) (y := 1) rfl rfl c66
          refine br0 (by decide) ?_
          have t69 : (Int32.toInt (22 + x_101_0)) = 22 + (Int32.toInt x_101_0) := add_z rfl rfl (by omega) (by omega)
          refine ⟨vpi (x := (Int32.toInt (22 + x_101_0))) rfl (by omega) (by omega), ?_⟩
          by_cases c70 : (f_row (22 + x_101_0).toNatClampNeg) = 0
          · refine br1 c70 ?_
            have g71 : 0 ≤ (Int32.toInt (f_row (22 + x_101_0).toNatClampNeg)) ∧ (Int32.toInt (f_row (22 + x_101_0).toNatClampNeg)) ≤ 1 := RLW.at_22 h_f_row (tnz (x := (Int32.toInt (22 + x_101_0))) rfl (by omega)) (by omega) (by omega)
            have d72 := eq_z (x := (Int32.toInt (f_row (22 + x_101_0).toNatClampNeg))) (y := 0) rfl rfl c70
            have t73 : (Int32.toInt (x_101_0 + 1)) = (Int32.toInt x_101_0) + 1 := add_z rfl rfl (by omega) (by omega)
            exact ih _ _ ⟨⟨by omega, by omega⟩, (by decide)⟩ (by omega)
          · refine br0 c70 ?_
            have g74 : 0 ≤ (Int32.toInt (f_row (22 + x_101_0).toNatClampNeg)) ∧ (Int32.toInt (f_row (22 + x_101_0).toNatClampNeg)) ≤ 1 := RLW.at_22 h_f_row (tnz (x := (Int32.toInt (22 + x_101_0))) rfl (by omega)) (by omega) (by omega)
            have d75 := ne_z (x := (Int32.toInt (f_row (22 + x_101_0).toNatClampNeg))) (y := 0) rfl rfl c70
            have t76 : (Int32.toInt (x_101_0 + 1)) = (Int32.toInt x_101_0) + 1 := add_z rfl rfl (by omega) (by omega)
            exact ih _ _ ⟨⟨by omega, by omega⟩, (by decide)⟩ (by omega)
        · refine br0 c66 ?_
          have t77 : (Int64.toInt x_67_0.toInt64) = (Int32.toInt x_67_0) := i2l_z rfl
          have d78 := c_ne (x := (Int64.toInt ((x_67_0.toInt64 >>> (x_101_0.toInt64 &&& 63)) &&& 1))) (y := 1) rfl rfl c66
          refine br1 (by decide) ?_
          have t79 : (Int32.toInt (x_101_0 + 1)) = (Int32.toInt x_101_0) + 1 := add_z rfl rfl (by omega) (by omega)
          exact ih _ _ ⟨⟨by omega, by omega⟩, (by decide)⟩ (by omega)
set_option maxRecDepth 100000 in
theorem sl_X12_quiet_157_1 (a : Int32) (b : Int32) (h0_ordered : Int32) (f_row : Nat → Int32) (f_nOp : Nat → Int32) (f_nArg : Nat → Int32) (f_now : Nat → Int64) (x_67_0 : Int32) (h_a : 0 ≤ a.toInt ∧ a.toInt ≤ 2147483647) (h_b : 0 ≤ b.toInt ∧ b.toInt ≤ 39) (h_h0_ordered : 0 ≤ h0_ordered.toInt ∧ h0_ordered.toInt ≤ 0) (h_f_row : RLW f_row) (h_x_67_0 : 0 ≤ x_67_0.toInt ∧ x_67_0.toInt ≤ 63) (Qb : Int32 → Int32 → Int32 → Int32 → Int64 → Int64 → (Nat → Int64) → (Nat → Int64) → Prop) (KX : ∀ (x_157_0 : Int32) (x_157_1 : Int32) (x_157_2 : Int32) (x_157_3 : Int32) (x_157_4 : Int64) (x_157_5 : Int64) (x_157_6 : Nat → Int64) (x_157_7 : Nat → Int64), (0 ≤ x_157_0.toInt ∧ x_157_0.toInt ≤ 5) ∧ (0 ≤ x_157_1.toInt ∧ x_157_1.toInt ≤ 1) ∧ (0 ≤ x_157_3.toInt ∧ x_157_3.toInt ≤ 1) → Qb x_157_0 x_157_1 x_157_2 x_157_3 x_157_4 x_157_5 x_157_6 x_157_7) : ∀ (n : Nat) (x_157_0 : Int32) (x_157_1 : Int32) (x_157_2 : Int32) (x_157_3 : Int32) (x_157_4 : Int64) (x_157_5 : Int64) (x_157_6 : Nat → Int64) (x_157_7 : Nat → Int64), (0 ≤ x_157_0.toInt ∧ x_157_0.toInt ≤ 5) ∧ (0 ≤ x_157_1.toInt ∧ x_157_1.toInt ≤ 1) ∧ (0 ≤ x_157_3.toInt ∧ x_157_3.toInt ≤ 1) → 6 - x_157_0.toInt < (n : Int) → wl_X12_quiet_157 a b h0_ordered f_row f_nOp f_nArg f_now x_67_0 Qb n x_157_0 x_157_1 x_157_2 x_157_3 x_157_4 x_157_5 x_157_6 x_157_7 := by
  intro n
  induction n with
  | zero =>
    intro x_157_0 x_157_1 x_157_2 x_157_3 x_157_4 x_157_5 x_157_6 x_157_7 hI hm
    exfalso; have hm : 6 - x_157_0.toInt < 0 := hm; omega
  | succ n ih =>
    intro x_157_0 x_157_1 x_157_2 x_157_3 x_157_4 x_157_5 x_157_6 x_157_7 hI hm
    have hm : 6 - x_157_0.toInt < (n : Int) + 1 := by simpa using hm
    have h_x_157_0 := hI.1
    have h_x_157_1 := hI.2.1
    have h_x_157_3 := hI.2.2
    unfold wl_X12_quiet_157
    by_cases c64 : (f_row (1 : Int32).toNatClampNeg) ≤ x_157_0
    · refine br1 c64 ?_
      have g65 : 0 ≤ (Int32.toInt (f_row (1 : Int32).toNatClampNeg)) ∧ (Int32.toInt (f_row (1 : Int32).toNatClampNeg)) ≤ 5 := RLW.at_1 h_f_row (rfl : ((1 : Nat) : Int) = 1) (by omega) (by omega)
      have d66 := le_z (x := (Int32.toInt (f_row (1 : Int32).toNatClampNeg))) (y := (Int32.toInt x_157_0)) rfl rfl c64
      exact KX _ _ _ _ _ _ _ _ ⟨⟨by omega, by omega⟩, ⟨by omega, by omega⟩, ⟨by omega, by omega⟩⟩
    · refine br0 c64 ?_
      have g67 : 0 ≤ (Int32.toInt (f_row (1 : Int32).toNatClampNeg)) ∧ (Int32.toInt (f_row (1 : Int32).toNatClampNeg)) ≤ 5 := RLW.at_1 h_f_row (rfl : ((1 : Nat) : Int) = 1) (by omega) (by omega)
      have d68 := nle_z (x := (Int32.toInt (f_row (1 : Int32).toNatClampNeg))) (y := (Int32.toInt x_157_0)) rfl rfl c64
      by_cases c69 : x_157_1 = 0
      · refine br1 c69 ?_
        have d70 := eq_z (x := (Int32.toInt x_157_1)) (y := 0) rfl rfl c69
        exact KX _ _ _ _ _ _ _ _ ⟨⟨by omega, by omega⟩, ⟨by omega, by omega⟩, ⟨by omega, by omega⟩⟩
      · refine br0 c69 ?_
        have d71 := ne_z (x := (Int32.toInt x_157_1)) (y := 0) rfl rfl c69
        refine o_X12_is _ _ _ ?_
        by_cases c72 : (lg_cmp ((a.toInt64 >>> (x_157_0.toInt64 &&& 63)) &&& 1) 1) = 0
        · refine br1 c72 ?_
          have t73 : (Int64.toInt a.toInt64) = (Int32.toInt a) := i2l_z rfl
          have d74 := c_eq (x := (Int64.toInt ((a.toInt64 >>> (x_157_0.toInt64 &&& 63)) &&& 1))) (y := 1) rfl rfl c72
          refine br0 (by decide) ?_
          refine s_X12_canHear x_157_0 b x_67_0 h0_ordered x_157_2 x_157_3 x_157_4 x_157_5 (f_row) (x_157_6) (f_nOp) (f_nArg) (x_157_7) (f_now) ⟨by omega, by omega⟩ ⟨by omega, by omega⟩ ⟨by omega, by omega⟩ ⟨by omega, by omega⟩ h_f_row (fun r75 u76_0 u76_1 u76_2 u76_3 u76_4 u76_5 H77 => ?_)
          have j78 := H77.1
          have j79 := H77.2
          refine un6_i ?_
          by_cases c80 : r75 = 0
          · refine br1 c80 ?_
            have d81 := eq_z (x := (Int32.toInt r75)) (y := 0) rfl rfl c80
            have t82 : (Int32.toInt (x_157_0 + 1)) = (Int32.toInt x_157_0) + 1 := add_z rfl rfl (by omega) (by omega)
            exact ih _ _ _ _ _ _ _ _ ⟨⟨by omega, by omega⟩, (by decide), ⟨by omega, by omega⟩⟩ (by omega)
          · refine br0 c80 ?_
            have d83 := ne_z (x := (Int32.toInt r75)) (y := 0) rfl rfl c80
            have t84 : (Int32.toInt (x_157_0 + 1)) = (Int32.toInt x_157_0) + 1 := add_z rfl rfl (by omega) (by omega)
            exact ih _ _ _ _ _ _ _ _ ⟨⟨by omega, by omega⟩, (by decide), ⟨by omega, by omega⟩⟩ (by omega)
        · refine br0 c72 ?_
          have t85 : (Int64.toInt a.toInt64) = (Int32.toInt a) := i2l_z rfl
          have d86 := c_ne (x := (Int64.toInt ((a.toInt64 >>> (x_157_0.toInt64 &&& 63)) &&& 1))) (y := 1) rfl rfl c72
          refine br1 (by decide) ?_
          have t87 : (Int32.toInt (x_157_0 + 1)) = (Int32.toInt x_157_0) + 1 := add_z rfl rfl (by omega) (by omega)
          exact ih _ _ _ _ _ _ _ _ ⟨⟨by omega, by omega⟩, (by decide), ⟨by omega, by omega⟩⟩ (by omega)
set_option maxRecDepth 100000 in
theorem sl_X12_quiet_67 (a : Int32) (b : Int32) (h0_ordered : Int32) (f_row : Nat → Int32) (f_nOp : Nat → Int32) (f_nArg : Nat → Int32) (f_now : Nat → Int64) (h_a : 0 ≤ a.toInt ∧ a.toInt ≤ 2147483647) (h_b : 0 ≤ b.toInt ∧ b.toInt ≤ 39) (h_h0_ordered : 0 ≤ h0_ordered.toInt ∧ h0_ordered.toInt ≤ 0) (h_f_row : RLW f_row) (Qb : Int32 → Int32 → Int32 → Int32 → Int32 → Int64 → Int64 → (Nat → Int64) → (Nat → Int64) → Prop) (KX : ∀ (x_67_0 : Int32) (x_67_1 : Int32) (x_67_2 : Int32) (x_67_3 : Int32) (x_67_4 : Int32) (x_67_5 : Int64) (x_67_6 : Int64) (x_67_7 : Nat → Int64) (x_67_8 : Nat → Int64), (1 ≤ x_67_0.toInt ∧ x_67_0.toInt ≤ 64) ∧ ((-1) ≤ x_67_1.toInt ∧ x_67_1.toInt ≤ 2147483647) ∧ (0 ≤ x_67_2.toInt ∧ x_67_2.toInt ≤ 100000000) ∧ (0 ≤ x_67_4.toInt ∧ x_67_4.toInt ≤ 1) → Qb x_67_0 x_67_1 x_67_2 x_67_3 x_67_4 x_67_5 x_67_6 x_67_7 x_67_8) : ∀ (n : Nat) (x_67_0 : Int32) (x_67_1 : Int32) (x_67_2 : Int32) (x_67_3 : Int32) (x_67_4 : Int32) (x_67_5 : Int64) (x_67_6 : Int64) (x_67_7 : Nat → Int64) (x_67_8 : Nat → Int64), (0 ≤ x_67_0.toInt ∧ x_67_0.toInt ≤ 64) ∧ ((-1) ≤ x_67_1.toInt ∧ x_67_1.toInt ≤ 2147483647) ∧ (0 ≤ x_67_2.toInt ∧ x_67_2.toInt ≤ 100000000) ∧ (0 ≤ x_67_4.toInt ∧ x_67_4.toInt ≤ 1) → 65 - x_67_0.toInt < (n : Int) → wl_X12_quiet_67 a b h0_ordered f_row f_nOp f_nArg f_now Qb n x_67_0 x_67_1 x_67_2 x_67_3 x_67_4 x_67_5 x_67_6 x_67_7 x_67_8 := by
  intro n
  induction n with
  | zero =>
    intro x_67_0 x_67_1 x_67_2 x_67_3 x_67_4 x_67_5 x_67_6 x_67_7 x_67_8 hI hm
    exfalso; have hm : 65 - x_67_0.toInt < 0 := hm; omega
  | succ n ih =>
    intro x_67_0 x_67_1 x_67_2 x_67_3 x_67_4 x_67_5 x_67_6 x_67_7 x_67_8 hI hm
    have hm : 65 - x_67_0.toInt < (n : Int) + 1 := by simpa using hm
    have h_x_67_0 := hI.1
    have h_x_67_1 := hI.2.1
    have h_x_67_2 := hI.2.2.1
    have h_x_67_4 := hI.2.2.2
    unfold wl_X12_quiet_67
    by_cases c31 : ((1 : Int32) <<< ((f_row (2 : Int32).toNatClampNeg) &&& 31)) ≤ x_67_0
    · refine br1 c31 ?_
      have g32 : 0 ≤ (Int32.toInt (f_row (2 : Int32).toNatClampNeg)) ∧ (Int32.toInt (f_row (2 : Int32).toNatClampNeg)) ≤ 6 := RLW.at_2 h_f_row (rfl : ((2 : Nat) : Int) = 2) (by omega) (by omega)
      have t33 : 1 ≤ (Int32.toInt ((1 : Int32) <<< ((f_row (2 : Int32).toNatClampNeg) &&& 31))) ∧ (Int32.toInt ((1 : Int32) <<< ((f_row (2 : Int32).toNatClampNeg) &&& 31))) ≤ 64 := shl1_b (by omega) (by omega)
      have d34 := le_z (x := (Int32.toInt ((1 : Int32) <<< ((f_row (2 : Int32).toNatClampNeg) &&& 31)))) (y := (Int32.toInt x_67_0)) rfl rfl c31
      have t35 := i32_hi x_67_1
      exact KX _ _ _ _ _ _ _ _ _ ⟨⟨by omega, by omega⟩, ⟨by omega, by omega⟩, ⟨by omega, by omega⟩, ⟨by omega, by omega⟩⟩
    · refine br0 c31 ?_
      have g36 : 0 ≤ (Int32.toInt (f_row (2 : Int32).toNatClampNeg)) ∧ (Int32.toInt (f_row (2 : Int32).toNatClampNeg)) ≤ 6 := RLW.at_2 h_f_row (rfl : ((2 : Nat) : Int) = 2) (by omega) (by omega)
      have t37 : 1 ≤ (Int32.toInt ((1 : Int32) <<< ((f_row (2 : Int32).toNatClampNeg) &&& 31))) ∧ (Int32.toInt ((1 : Int32) <<< ((f_row (2 : Int32).toNatClampNeg) &&& 31))) ≤ 64 := shl1_b (by omega) (by omega)
      have d38 := nle_z (x := (Int32.toInt ((1 : Int32) <<< ((f_row (2 : Int32).toNatClampNeg) &&& 31)))) (y := (Int32.toInt x_67_0)) rfl rfl c31
      refine s_X12_ones x_67_0.toInt64  (fun r39 H40 => ?_)
      have j41 := H40
      refine jn_s ?_
      by_cases c42 : x_67_2 ≤ r39
      · refine br1 c42 ?_
        have d43 := le_z (x := (Int32.toInt x_67_2)) (y := (Int32.toInt r39)) rfl rfl c42
        have k46 : Int32.toInt 0 = 0 := rfl
        refine sl_X12_quiet_101 (f_row) x_67_0 h_f_row ⟨by omega, by omega⟩ _ (fun x44_0 x44_1 X45 => ?_) 1000000000000 0 0 ⟨(by decide), (by decide)⟩ (by omega)
        have j47 := X45.1
        have j48 := X45.2
        have t49 := i32_hi a
        refine sl_X12_quiet_157 a b h0_ordered (f_row) (f_nOp) (f_nArg) (f_now) x_67_0 ⟨by omega, by omega⟩ ⟨by omega, by omega⟩ ⟨by omega, by omega⟩ h_f_row ⟨by omega, by omega⟩ _ (fun x50_0 x50_1 x50_2 x50_3 x50_4 x50_5 x50_6 x50_7 X51 => ?_) 1000000000000 0 x44_1 x_67_3 x_67_4 x_67_5 x_67_6 (x_67_7) (x_67_8) ⟨(by decide), ⟨by omega, by omega⟩, ⟨by omega, by omega⟩⟩ (by omega)
        have j52 := X51.1
        have j53 := X51.2.1
        have j54 := X51.2.2
        refine jn_s ?_
        refine br1 (z_eq (x := (Int32.toInt x50_1)) (y := 0) rfl rfl (by omega)) ?_
        refine br1 (z_eq (x := (Int32.toInt x50_1)) (y := 0) rfl rfl (by omega)) ?_
        have t55 : (Int32.toInt (x_67_0 + 1)) = (Int32.toInt x_67_0) + 1 := add_z rfl rfl (by omega) (by omega)
        have t56 := i32_hi x_67_1
        exact ih _ _ _ _ _ _ _ _ _ ⟨⟨by omega, by omega⟩, ⟨by omega, by omega⟩, ⟨by omega, by omega⟩, ⟨by omega, by omega⟩⟩ (by omega)
      · refine br0 c42 ?_
        have d57 := nle_z (x := (Int32.toInt x_67_2)) (y := (Int32.toInt r39)) rfl rfl c42
        have k60 : Int32.toInt 0 = 0 := rfl
        have k61 : Int32.toInt 1 = 1 := rfl
        refine sl_X12_quiet_101_1 (f_row) x_67_0 h_f_row ⟨by omega, by omega⟩ _ (fun x58_0 x58_1 X59 => ?_) 1000000000000 0 1 ⟨(by decide), (by decide)⟩ (by omega)
        have j62 := X59.1
        have j63 := X59.2
        have t64 := i32_hi a
        refine sl_X12_quiet_157_1 a b h0_ordered (f_row) (f_nOp) (f_nArg) (f_now) x_67_0 ⟨by omega, by omega⟩ ⟨by omega, by omega⟩ ⟨by omega, by omega⟩ h_f_row ⟨by omega, by omega⟩ _ (fun x65_0 x65_1 x65_2 x65_3 x65_4 x65_5 x65_6 x65_7 X66 => ?_) 1000000000000 0 x58_1 x_67_3 x_67_4 x_67_5 x_67_6 (x_67_7) (x_67_8) ⟨(by decide), ⟨by omega, by omega⟩, ⟨by omega, by omega⟩⟩ (by omega)
        have j67 := X66.1
        have j68 := X66.2.1
        have j69 := X66.2.2
        refine jn_s ?_
        by_cases c70 : x65_1 = 0
        · refine br1 c70 ?_
          have d71 := eq_z (x := (Int32.toInt x65_1)) (y := 0) rfl rfl c70
          refine br1 (z_eq (x := (Int32.toInt x65_1)) (y := 0) rfl rfl (by omega)) ?_
          have t72 : (Int32.toInt (x_67_0 + 1)) = (Int32.toInt x_67_0) + 1 := add_z rfl rfl (by omega) (by omega)
          have t73 := i32_hi x_67_1
          exact ih _ _ _ _ _ _ _ _ _ ⟨⟨by omega, by omega⟩, ⟨by omega, by omega⟩, ⟨by omega, by omega⟩, ⟨by omega, by omega⟩⟩ (by omega)
        · refine br0 c70 ?_
          have d74 := ne_z (x := (Int32.toInt x65_1)) (y := 0) rfl rfl c70
          refine br0 (z_ne (x := (Int32.toInt x65_1)) (y := 0) rfl rfl (by omega)) ?_
          refine s_X12_ones x_67_0.toInt64  (fun r75 H76 => ?_)
          have j77 := H76
          have t78 : (Int32.toInt (x_67_0 + 1)) = (Int32.toInt x_67_0) + 1 := add_z rfl rfl (by omega) (by omega)
          have t79 := i32_hi x_67_0
          exact ih _ _ _ _ _ _ _ _ _ ⟨⟨by omega, by omega⟩, ⟨by omega, by omega⟩, ⟨by omega, by omega⟩, ⟨by omega, by omega⟩⟩ (by omega)
set_option maxRecDepth 100000 in
theorem s_X12_quiet (a : Int32) (b : Int32) (d : Int32) (h0_ordered : Int32) (h0_law : Int32) (h0_broken : Int32) (h0_value : Int64) (h0_sum : Int64) (f_row : Nat → Int32) (f_set : Nat → Int64) (f_nOp : Nat → Int32) (f_nArg : Nat → Int32) (f_rest : Nat → Int64) (f_now : Nat → Int64) (h_h0_ordered : 0 ≤ h0_ordered.toInt ∧ h0_ordered.toInt ≤ 0) (h_h0_broken : 0 ≤ h0_broken.toInt ∧ h0_broken.toInt ≤ 1) (h_f_row : RLW f_row) {Q : Int32 → (Int32 × Int32 × Int32 × Int64 × Int64 × (Nat → Int64) × (Nat → Int64)) → Prop} (hq : ∀ (r : Int32) (u_0 : Int32) (u_1 : Int32) (u_2 : Int32) (u_3 : Int64) (u_4 : Int64) (u_5 : Nat → Int64) (u_6 : Nat → Int64), (0 ≤ u_2.toInt ∧ u_2.toInt ≤ 1) → Q r (u_0, u_1, u_2, u_3, u_4, u_5, u_6)) : wp_X12_quiet a b d h0_ordered h0_law h0_broken h0_value h0_sum f_row f_set f_nOp f_nArg f_rest f_now Q := by
  unfold wp_X12_quiet
  refine o_X12_in _ _ _ _ ?_
  by_cases c1 : (lg_cmp a.toInt64 0) < 0
  · refine br1 c1 ?_
    have t2 : (Int64.toInt a.toInt64) = (Int32.toInt a) := i2l_z rfl
    have d3 := c_lt (x := (Int64.toInt a.toInt64)) (y := 0) rfl rfl c1
    refine br1 (by decide) ?_
    exact hq _ _ _ _ _ _ _ _ ⟨by omega, by omega⟩
  · refine br0 c1 ?_
    have t4 : (Int64.toInt a.toInt64) = (Int32.toInt a) := i2l_z rfl
    have d5 := c_nlt (x := (Int64.toInt a.toInt64)) (y := 0) rfl rfl c1
    by_cases c6 : 0 < (lg_cmp a.toInt64 (((1 : Int64) <<< ((f_row (1 : Int32).toNatClampNeg).toInt64 &&& 63)) - 1))
    · refine br1 c6 ?_
      have g7 : 0 ≤ (Int32.toInt (f_row (1 : Int32).toNatClampNeg)) ∧ (Int32.toInt (f_row (1 : Int32).toNatClampNeg)) ≤ 5 := RLW.at_1 h_f_row (rfl : ((1 : Nat) : Int) = 1) (by omega) (by omega)
      have d8 := c_gt (x := (Int64.toInt a.toInt64)) (y := (Int64.toInt (((1 : Int64) <<< ((f_row (1 : Int32).toNatClampNeg).toInt64 &&& 63)) - 1))) rfl rfl c6
      refine br1 (by decide) ?_
      exact hq _ _ _ _ _ _ _ _ ⟨by omega, by omega⟩
    · refine br0 c6 ?_
      have g9 : 0 ≤ (Int32.toInt (f_row (1 : Int32).toNatClampNeg)) ∧ (Int32.toInt (f_row (1 : Int32).toNatClampNeg)) ≤ 5 := RLW.at_1 h_f_row (rfl : ((1 : Nat) : Int) = 1) (by omega) (by omega)
      have d10 := c_ngt (x := (Int64.toInt a.toInt64)) (y := (Int64.toInt (((1 : Int64) <<< ((f_row (1 : Int32).toNatClampNeg).toInt64 &&& 63)) - 1))) rfl rfl c6
      refine br0 (by decide) ?_
      refine o_X12_isCell _ _ ?_
      refine o_X12_in _ _ _ _ ?_
      by_cases c11 : (lg_cmp b.toInt64 0) < 0
      · refine br1 c11 ?_
        have t12 : (Int64.toInt b.toInt64) = (Int32.toInt b) := i2l_z rfl
        have d13 := c_lt (x := (Int64.toInt b.toInt64)) (y := 0) rfl rfl c11
        refine br1 (by decide) ?_
        exact hq _ _ _ _ _ _ _ _ ⟨by omega, by omega⟩
      · refine br0 c11 ?_
        have t14 : (Int64.toInt b.toInt64) = (Int32.toInt b) := i2l_z rfl
        have d15 := c_nlt (x := (Int64.toInt b.toInt64)) (y := 0) rfl rfl c11
        by_cases c16 : 0 < (lg_cmp b.toInt64 39)
        · refine br1 c16 ?_
          have d17 := c_gt (x := (Int64.toInt b.toInt64)) (y := 39) rfl rfl c16
          refine br1 (by decide) ?_
          exact hq _ _ _ _ _ _ _ _ ⟨by omega, by omega⟩
        · refine br0 c16 ?_
          have d18 := c_ngt (x := (Int64.toInt b.toInt64)) (y := 39) rfl rfl c16
          refine br0 (by decide) ?_
          have t19 : (Int32.toInt (113 + b)) = 113 + (Int32.toInt b) := add_z rfl rfl (by omega) (by omega)
          refine ⟨vpi (x := (Int32.toInt (113 + b))) rfl (by omega) (by omega), ?_⟩
          by_cases c20 : (f_row (113 + b).toNatClampNeg) = 3
          · refine br1 c20 ?_
            have g21 : 0 ≤ (Int32.toInt (f_row (113 + b).toNatClampNeg)) ∧ (Int32.toInt (f_row (113 + b).toNatClampNeg)) ≤ 3 := RLW.at_113 h_f_row (tnz (x := (Int32.toInt (113 + b))) rfl (by omega)) (by omega) (by omega)
            have d22 := eq_z (x := (Int32.toInt (f_row (113 + b).toNatClampNeg))) (y := 3) rfl rfl c20
            refine o_X12_in _ _ _ _ ?_
            by_cases c23 : (lg_cmp d.toInt64 0) < 0
            · refine br1 c23 ?_
              have t24 : (Int64.toInt d.toInt64) = (Int32.toInt d) := i2l_z rfl
              have d25 := c_lt (x := (Int64.toInt d.toInt64)) (y := 0) rfl rfl c23
              refine br1 (by decide) ?_
              exact hq _ _ _ _ _ _ _ _ ⟨by omega, by omega⟩
            · refine br0 c23 ?_
              have t26 : (Int64.toInt d.toInt64) = (Int32.toInt d) := i2l_z rfl
              have d27 := c_nlt (x := (Int64.toInt d.toInt64)) (y := 0) rfl rfl c23
              by_cases c28 : 0 < (lg_cmp d.toInt64 1)
              · refine br1 c28 ?_
                have d29 := c_gt (x := (Int64.toInt d.toInt64)) (y := 1) rfl rfl c28
                refine br1 (by decide) ?_
                exact hq _ _ _ _ _ _ _ _ ⟨by omega, by omega⟩
              · refine br0 c28 ?_
                have d30 := c_ngt (x := (Int64.toInt d.toInt64)) (y := 1) rfl rfl c28
                refine br0 (by decide) ?_
                have t31 := i32_hi a
                have k34 : Int32.toInt 0 = 0 := rfl
                have k35 : Int32.toInt (-1) = (-1) := (by decide)
                have k36 : Int32.toInt 100000000 = 100000000 := rfl
                refine sl_X12_quiet_67 a b h0_ordered (f_row) (f_nOp) (f_nArg) (f_now) ⟨by omega, by omega⟩ ⟨by omega, by omega⟩ ⟨by omega, by omega⟩ h_f_row _ (fun x32_0 x32_1 x32_2 x32_3 x32_4 x32_5 x32_6 x32_7 x32_8 X33 => ?_) 1000000000000 0 (-1) 100000000 h0_law h0_broken h0_value h0_sum (f_set) (f_rest) ⟨(by decide), (by decide), (by decide), ⟨by omega, by omega⟩⟩ (by omega)
                have j37 := X33.1
                have j38 := X33.2.1
                have j39 := X33.2.2.1
                have j40 := X33.2.2.2
                by_cases c41 : x32_1 = (-1)
                · refine br1 c41 ?_
                  have d42 := eq_z (x := (Int32.toInt x32_1)) (y := (-1)) rfl (by decide) c41
                  exact hq _ _ _ _ _ _ _ _ ⟨by omega, by omega⟩
                · refine br0 c41 ?_
                  have d43 := ne_z (x := (Int32.toInt x32_1)) (y := (-1)) rfl (by decide) c41
                  by_cases c44 : d = 1
                  · refine br1 c44 ?_
                    have d45 := eq_z (x := (Int32.toInt d)) (y := 1) rfl rfl c44
                    exact hq _ _ _ _ _ _ _ _ ⟨by omega, by omega⟩
                  · refine br0 c44 ?_
                    have d46 := ne_z (x := (Int32.toInt d)) (y := 1) rfl rfl c44
                    exact hq _ _ _ _ _ _ _ _ ⟨by omega, by omega⟩
          · refine br0 c20 ?_
            have g47 : 0 ≤ (Int32.toInt (f_row (113 + b).toNatClampNeg)) ∧ (Int32.toInt (f_row (113 + b).toNatClampNeg)) ≤ 3 := RLW.at_113 h_f_row (tnz (x := (Int32.toInt (113 + b))) rfl (by omega)) (by omega) (by omega)
            have d48 := ne_z (x := (Int32.toInt (f_row (113 + b).toNatClampNeg))) (y := 3) rfl rfl c20
            exact hq _ _ _ _ _ _ _ _ ⟨by omega, by omega⟩

