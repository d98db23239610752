set_option maxRecDepth 100000 in
theorem s_X1_copyFrom (p0_count : Int32) (f_p0_cell : Nat → Int32) (f_h0_cell : Nat → Int32) (f_p0_buckets : Nat → Int32) (f_h0_buckets : Nat → Int32) (h_p0_count : 0 ≤ p0_count.toInt ∧ p0_count.toInt ≤ 6) (h_f_p0_cell : CE f_p0_cell) (h_f_h0_cell : CE f_h0_cell) (h_f_p0_buckets : BU f_p0_buckets) (h_f_h0_buckets : BU f_h0_buckets) {Q : (Int32 × (Nat → Int32) × (Nat → Int32)) → Prop} (hq : ∀ (u_0 : Int32) (u_1 : Nat → Int32) (u_2 : Nat → Int32), (0 ≤ u_0.toInt ∧ u_0.toInt ≤ 6) ∧ (CE u_1) ∧ (BU u_2) → Q (u_0, u_1, u_2)) : wp_X1_copyFrom p0_count f_p0_cell f_h0_cell f_p0_buckets f_h0_buckets Q := by
  unfold wp_X1_copyFrom
  exact hq _ _ _ ⟨⟨by omega, by omega⟩, (CE.cp h_f_p0_cell), (BU.cp h_f_p0_buckets)⟩


set_option maxRecDepth 100000 in
theorem s_X4_copyFrom (p0_listeners : Int32) (p0_noises : Int32) (p0_hushed : Int32) (p0_hearsay : Int32) (p0_wells : Int32) (f_p0_column : Nat → Int32) (f_h0_column : Nat → Int32) (f_p0_ear : Nat → Int32) (f_h0_ear : Nat → Int32) (f_p0_noiseColumn : Nat → Int32) (f_h0_noiseColumn : Nat → Int32) (f_p0_noiseLoud : Nat → Int32) (f_h0_noiseLoud : Nat → Int32) (f_p0_hearsayColumn : Nat → Int32) (f_h0_hearsayColumn : Nat → Int32) (f_p0_hearsayLoud : Nat → Int32) (f_h0_hearsayLoud : Nat → Int32) (f_p0_sounds : Nat → Int32) (f_h0_sounds : Nat → Int32) (f_p0_wet : Nat → Int32) (f_h0_wet : Nat → Int32) (h_p0_listeners : 0 ≤ p0_listeners.toInt ∧ p0_listeners.toInt ≤ 5) (h_p0_noises : 0 ≤ p0_noises.toInt ∧ p0_noises.toInt ≤ 6) (h_p0_hearsay : 0 ≤ p0_hearsay.toInt ∧ p0_hearsay.toInt ≤ 8) (h_p0_wells : 0 ≤ p0_wells.toInt ∧ p0_wells.toInt ≤ 10) (h_f_p0_column : CO f_p0_column) (h_f_h0_column : CO f_h0_column) (h_f_p0_ear : EA f_p0_ear) (h_f_h0_ear : EA f_h0_ear) (h_f_p0_noiseColumn : NC f_p0_noiseColumn) (h_f_h0_noiseColumn : NC f_h0_noiseColumn) (h_f_p0_noiseLoud : NL f_p0_noiseLoud) (h_f_h0_noiseLoud : NL f_h0_noiseLoud) (h_f_p0_hearsayColumn : HC f_p0_hearsayColumn) (h_f_h0_hearsayColumn : HC f_h0_hearsayColumn) (h_f_p0_hearsayLoud : HL f_p0_hearsayLoud) (h_f_h0_hearsayLoud : HL f_h0_hearsayLoud) {Q : (Int32 × Int32 × Int32 × Int32 × Int32 × (Nat → Int32) × (Nat → Int32) × (Nat → Int32) × (Nat → Int32) × (Nat → Int32) × (Nat → Int32) × (Nat → Int32) × (Nat → Int32)) → Prop} (hq : ∀ (u_0 : Int32) (u_1 : Int32) (u_2 : Int32) (u_3 : Int32) (u_4 : Int32) (u_5 : Nat → Int32) (u_6 : Nat → Int32) (u_7 : Nat → Int32) (u_8 : Nat → Int32) (u_9 : Nat → Int32) (u_10 : Nat → Int32) (u_11 : Nat → Int32) (u_12 : Nat → Int32), (0 ≤ u_0.toInt ∧ u_0.toInt ≤ 5) ∧ (0 ≤ u_1.toInt ∧ u_1.toInt ≤ 6) ∧ (0 ≤ u_3.toInt ∧ u_3.toInt ≤ 8) ∧ (0 ≤ u_4.toInt ∧ u_4.toInt ≤ 10) ∧ (CO u_5) ∧ (EA u_6) ∧ (NC u_7) ∧ (NL u_8) ∧ (HC u_9) ∧ (HL u_10) → Q (u_0, u_1, u_2, u_3, u_4, u_5, u_6, u_7, u_8, u_9, u_10, u_11, u_12)) : wp_X4_copyFrom p0_listeners p0_noises p0_hushed p0_hearsay p0_wells f_p0_column f_h0_column f_p0_ear f_h0_ear f_p0_noiseColumn f_h0_noiseColumn f_p0_noiseLoud f_h0_noiseLoud f_p0_hearsayColumn f_h0_hearsayColumn f_p0_hearsayLoud f_h0_hearsayLoud f_p0_sounds f_h0_sounds f_p0_wet f_h0_wet Q := by
  unfold wp_X4_copyFrom
  exact hq _ _ _ _ _ _ _ _ _ _ _ _ _ ⟨⟨by omega, by omega⟩, ⟨by omega, by omega⟩, ⟨by omega, by omega⟩, ⟨by omega, by omega⟩, (CO.cp h_f_p0_column), (EA.cp h_f_p0_ear), (NC.cp h_f_p0_noiseColumn), (NL.cp h_f_p0_noiseLoud), (HC.cp h_f_p0_hearsayColumn), (HL.cp h_f_p0_hearsayLoud)⟩


set_option maxRecDepth 100000 in
theorem s_X6_copyFrom (p0_dug : Int64) (f_p0_kind : Nat → Int32) (f_h0_kind : Nat → Int32) (f_p0_hard : Nat → Int32) (f_h0_hard : Nat → Int32) (f_p0_water : Nat → Int32) (f_h0_water : Nat → Int32) (h_f_p0_kind : KI f_p0_kind) (h_f_h0_kind : KI f_h0_kind) (h_f_p0_hard : HA f_p0_hard) (h_f_h0_hard : HA f_h0_hard) (h_f_p0_water : WA f_p0_water) (h_f_h0_water : WA f_h0_water) {Q : (Int64 × (Nat → Int32) × (Nat → Int32) × (Nat → Int32)) → Prop} (hq : ∀ (u_0 : Int64) (u_1 : Nat → Int32) (u_2 : Nat → Int32) (u_3 : Nat → Int32), (KI u_1) ∧ (HA u_2) ∧ (WA u_3) → Q (u_0, u_1, u_2, u_3)) : wp_X6_copyFrom p0_dug f_p0_kind f_h0_kind f_p0_hard f_h0_hard f_p0_water f_h0_water Q := by
  unfold wp_X6_copyFrom
  exact hq _ _ _ _ ⟨(KI.cp h_f_p0_kind), (HA.cp h_f_p0_hard), (WA.cp h_f_p0_water)⟩


set_option maxRecDepth 100000 in
theorem s_X8_headOf (a : Int32) (b : Int32) (n_h0_heads : Nat) (f_h0_heads : Nat → Int32) (e_0 : n_h0_heads < 100000) {Q : Int32 → Prop} (hq : ∀ (r : Int32), True → Q r) : wp_X8_headOf a b n_h0_heads f_h0_heads Q := by
  unfold wp_X8_headOf
  by_cases c1 : ((5 * a) + b) < 0
  · refine br1 c1 ?_
    have d2 := lt_z (a := ((5 * a) + b)) (b := 0) (x := (Int32.toInt ((5 * a) + b))) (y := 0) rfl rfl c1
    exact hq _ trivial
  · refine br0 c1 ?_
    have d3 := nlt_z (a := ((5 * a) + b)) (b := 0) (x := (Int32.toInt ((5 * a) + b))) (y := 0) rfl rfl c1
    by_cases c4 : (Int32.ofNat n_h0_heads) ≤ ((5 * a) + b)
    · refine br1 c4 ?_
      have t5 := of_z (n := n_h0_heads) (by omega)
      have d6 := le_z (a := (Int32.ofNat n_h0_heads)) (b := ((5 * a) + b)) (x := (Int32.toInt (Int32.ofNat n_h0_heads))) (y := (Int32.toInt ((5 * a) + b))) rfl rfl c4
      exact hq _ trivial
    · refine br0 c4 ?_
      have t7 := of_z (n := n_h0_heads) (by omega)
      have d8 := nle_z (a := (Int32.ofNat n_h0_heads)) (b := ((5 * a) + b)) (x := (Int32.toInt (Int32.ofNat n_h0_heads))) (y := (Int32.toInt ((5 * a) + b))) rfl rfl c4
      refine ⟨vpi (x := (Int32.toInt ((5 * a) + b))) rfl (by omega) (by omega), ?_⟩
      exact hq _ trivial


set_option maxRecDepth 100000 in
theorem s_X8_setHead (a : Int32) (b : Int32) (d : Int32) (n_h0_heads : Nat) (f_h0_heads : Nat → Int32) (e_0 : n_h0_heads < 100000) {Q : (Nat → Int32) → Prop} (hq : ∀ (u : Nat → Int32), True → Q u) : wp_X8_setHead a b d n_h0_heads f_h0_heads Q := by
  unfold wp_X8_setHead
  by_cases c1 : ((5 * a) + b) < 0
  · refine br1 c1 ?_
    have d2 := lt_z (a := ((5 * a) + b)) (b := 0) (x := (Int32.toInt ((5 * a) + b))) (y := 0) rfl rfl c1
    exact hq _ trivial
  · refine br0 c1 ?_
    have d3 := nlt_z (a := ((5 * a) + b)) (b := 0) (x := (Int32.toInt ((5 * a) + b))) (y := 0) rfl rfl c1
    by_cases c4 : (Int32.ofNat n_h0_heads) ≤ ((5 * a) + b)
    · refine br1 c4 ?_
      have t5 := of_z (n := n_h0_heads) (by omega)
      have d6 := le_z (a := (Int32.ofNat n_h0_heads)) (b := ((5 * a) + b)) (x := (Int32.toInt (Int32.ofNat n_h0_heads))) (y := (Int32.toInt ((5 * a) + b))) rfl rfl c4
      exact hq _ trivial
    · refine br0 c4 ?_
      have t7 := of_z (n := n_h0_heads) (by omega)
      have d8 := nle_z (a := (Int32.ofNat n_h0_heads)) (b := ((5 * a) + b)) (x := (Int32.toInt (Int32.ofNat n_h0_heads))) (y := (Int32.toInt ((5 * a) + b))) rfl rfl c4
      refine ⟨vpi (x := (Int32.toInt ((5 * a) + b))) rfl (by omega) (by omega), ?_⟩
      exact hq _ trivial


set_option maxRecDepth 100000 in
theorem s_X0_joined (a : Int32) (b : Int64) (d : Int64) {Q : Int64 → Prop} (hq : ∀ (r : Int64), True → Q r) : wp_X0_joined a b d Q := by
  unfold wp_X0_joined
  by_cases c1 : a = 2
  · refine br1 c1 ?_
    have d2 := eq_z (a := a) (b := 2) (x := (Int32.toInt a)) (y := 2) rfl rfl c1
    exact hq _ trivial
  · refine br0 c1 ?_
    have d3 := ne_z (a := a) (b := 2) (x := (Int32.toInt a)) (y := 2) rfl rfl c1
    by_cases c4 : a = 3
    · refine br1 c4 ?_
      have d5 := eq_z (a := a) (b := 3) (x := (Int32.toInt a)) (y := 3) rfl rfl c4
      exact hq _ trivial
    · refine br0 c4 ?_
      have d6 := ne_z (a := a) (b := 3) (x := (Int32.toInt a)) (y := 3) rfl rfl c4
      by_cases c7 : a = 4
      · refine br1 c7 ?_
        have d8 := eq_z (a := a) (b := 4) (x := (Int32.toInt a)) (y := 4) rfl rfl c7
        exact hq _ trivial
      · refine br0 c7 ?_
        have d9 := ne_z (a := a) (b := 4) (x := (Int32.toInt a)) (y := 4) rfl rfl c7
        by_cases c10 : a = 5
        · refine br1 c10 ?_
          have d11 := eq_z (a := a) (b := 5) (x := (Int32.toInt a)) (y := 5) rfl rfl c10
          by_cases c12 : (lg_cmp d 0) = 0
          · refine br1 c12 ?_
            have d13 := c_eq (a := d) (b := 0) (x := (Int64.toInt d)) (y := 0) rfl rfl c12
            exact hq _ trivial
          · refine br0 c12 ?_
            have d14 := c_ne (a := d) (b := 0) (x := (Int64.toInt d)) (y := 0) rfl rfl c12
            refine ⟨z_neL (x := (Int64.toInt d)) rfl (by omega), ?_⟩
            exact hq _ trivial
        · refine br0 c10 ?_
          have d15 := ne_z (a := a) (b := 5) (x := (Int32.toInt a)) (y := 5) rfl rfl c10
          by_cases c16 : a = 6
          · refine br1 c16 ?_
            have d17 := eq_z (a := a) (b := 6) (x := (Int32.toInt a)) (y := 6) rfl rfl c16
            by_cases c18 : (lg_cmp d 0) = 0
            · refine br1 c18 ?_
              have d19 := c_eq (a := d) (b := 0) (x := (Int64.toInt d)) (y := 0) rfl rfl c18
              exact hq _ trivial
            · refine br0 c18 ?_
              have d20 := c_ne (a := d) (b := 0) (x := (Int64.toInt d)) (y := 0) rfl rfl c18
              refine ⟨z_neL (x := (Int64.toInt d)) rfl (by omega), ?_⟩
              exact hq _ trivial
          · refine br0 c16 ?_
            have d21 := ne_z (a := a) (b := 6) (x := (Int32.toInt a)) (y := 6) rfl rfl c16
            by_cases c22 : a = 7
            · refine br1 c22 ?_
              have d23 := eq_z (a := a) (b := 7) (x := (Int32.toInt a)) (y := 7) rfl rfl c22
              by_cases c24 : 0 ≤ (lg_cmp b d)
              · refine br1 c24 ?_
                have d25 := c_ge (a := b) (b := d) (x := (Int64.toInt b)) (y := (Int64.toInt d)) rfl rfl c24
                exact hq _ trivial
              · refine br0 c24 ?_
                have d26 := c_nge (a := b) (b := d) (x := (Int64.toInt b)) (y := (Int64.toInt d)) rfl rfl c24
                exact hq _ trivial
            · refine br0 c22 ?_
              have d27 := ne_z (a := a) (b := 7) (x := (Int32.toInt a)) (y := 7) rfl rfl c22
              by_cases c28 : a = 8
              · refine br1 c28 ?_
                have d29 := eq_z (a := a) (b := 8) (x := (Int32.toInt a)) (y := 8) rfl rfl c28
                by_cases c30 : (lg_cmp b d) ≤ 0
                · refine br1 c30 ?_
                  have d31 := c_le (a := b) (b := d) (x := (Int64.toInt b)) (y := (Int64.toInt d)) rfl rfl c30
                  exact hq _ trivial
                · refine br0 c30 ?_
                  have d32 := c_nle (a := b) (b := d) (x := (Int64.toInt b)) (y := (Int64.toInt d)) rfl rfl c30
                  exact hq _ trivial
              · refine br0 c28 ?_
                have d33 := ne_z (a := a) (b := 8) (x := (Int32.toInt a)) (y := 8) rfl rfl c28
                by_cases c34 : a = 9
                · refine br1 c34 ?_
                  have d35 := eq_z (a := a) (b := 9) (x := (Int32.toInt a)) (y := 9) rfl rfl c34
                  by_cases c36 : (lg_cmp b d) = 0
                  · refine br1 c36 ?_
                    have d37 := c_eq (a := b) (b := d) (x := (Int64.toInt b)) (y := (Int64.toInt d)) rfl rfl c36
                    exact hq _ trivial
                  · refine br0 c36 ?_
                    have d38 := c_ne (a := b) (b := d) (x := (Int64.toInt b)) (y := (Int64.toInt d)) rfl rfl c36
                    exact hq _ trivial
                · refine br0 c34 ?_
                  have d39 := ne_z (a := a) (b := 9) (x := (Int32.toInt a)) (y := 9) rfl rfl c34
                  exact hq _ trivial


set_option maxRecDepth 100000 in
theorem s_X0_wordValue (a : Int32) (b : Int32) (h0_cell : Int32) (h0_shaft : Int32) (h0_kind : Int32) (h0_done : Int32) (h0_latest : Int32) (h0_world_folk_listeners : Int32) (f_h0_world_folk_column : Nat → Int32) (f_h0_world_rock_hard : Nat → Int32) (f_h0_world_rock_water : Nat → Int32) (f_h0_world_term : Nat → Int32) (h0_world_crew_count : Int32) (f_h0_world_crew_cell : Nat → Int32) (f_h0_world_crew_buckets : Nat → Int32) (h_b : 0 ≤ b.toInt ∧ b.toInt ≤ 1023) (h_h0_cell : 0 ≤ h0_cell.toInt ∧ h0_cell.toInt ≤ 39) (h_h0_world_folk_listeners : 0 ≤ h0_world_folk_listeners.toInt ∧ h0_world_folk_listeners.toInt ≤ 5) (h_f_h0_world_folk_column : CO f_h0_world_folk_column) (h_f_h0_world_rock_hard : HA f_h0_world_rock_hard) (h_f_h0_world_rock_water : WA f_h0_world_rock_water) (h_f_h0_world_term : TE f_h0_world_term) (h_h0_world_crew_count : 0 ≤ h0_world_crew_count.toInt ∧ h0_world_crew_count.toInt ≤ 6) (h_f_h0_world_crew_cell : CE f_h0_world_crew_cell) (h_f_h0_world_crew_buckets : BU f_h0_world_crew_buckets) {Q : Int32 → Prop} (hq : ∀ (r : Int32), True → Q r) : wp_X0_wordValue a b h0_cell h0_shaft h0_kind h0_done h0_latest h0_world_folk_listeners f_h0_world_folk_column f_h0_world_rock_hard f_h0_world_rock_water f_h0_world_term h0_world_crew_count f_h0_world_crew_cell f_h0_world_crew_buckets Q := by
  unfold wp_X0_wordValue
  refine jn1_i (fun (y1 : Int32) => True) (fun y1 J2 => ?_) (fun _ HJ2 => ?_)
  · skip
    by_cases c3 : y1 = (-1)
    · refine br1 c3 ?_
      have d4 := eq_z (a := y1) (b := (-1)) (x := (Int32.toInt y1)) (y := (-1)) rfl (by decide) c3
      by_cases c5 : h0_world_folk_listeners ≤ b
      · refine br1 c5 ?_
        have d6 := le_z (a := h0_world_folk_listeners) (b := b) (x := (Int32.toInt h0_world_folk_listeners)) (y := (Int32.toInt b)) rfl rfl c5
        exact hq _ trivial
      · refine br0 c5 ?_
        have d7 := nle_z (a := h0_world_folk_listeners) (b := b) (x := (Int32.toInt h0_world_folk_listeners)) (y := (Int32.toInt b)) rfl rfl c5
        refine ⟨vpi (x := (Int32.toInt b)) rfl (by omega) (by omega), ?_⟩
        have g8 : 0 ≤ (Int32.toInt (f_h0_world_folk_column b.toNatClampNeg)) ∧ (Int32.toInt (f_h0_world_folk_column b.toNatClampNeg)) ≤ 7 := CO.at_0 h_f_h0_world_folk_column (tnz (x := (Int32.toInt b)) rfl (by omega)) (by omega) (by omega)
        exact hq _ trivial
    · refine br0 c3 ?_
      have d9 := ne_z (a := y1) (b := (-1)) (x := (Int32.toInt y1)) (y := (-1)) rfl (by decide) c3
      by_cases c10 : y1 = 0
      · refine br1 c10 ?_
        have d11 := eq_z (a := y1) (b := 0) (x := (Int32.toInt y1)) (y := 0) rfl rfl c10
        exact hq _ trivial
      · refine br0 c10 ?_
        have d12 := ne_z (a := y1) (b := 0) (x := (Int32.toInt y1)) (y := 0) rfl rfl c10
        by_cases c13 : y1 = 1
        · refine br1 c13 ?_
          have d14 := eq_z (a := y1) (b := 1) (x := (Int32.toInt y1)) (y := 1) rfl rfl c13
          exact hq _ trivial
        · refine br0 c13 ?_
          have d15 := ne_z (a := y1) (b := 1) (x := (Int32.toInt y1)) (y := 1) rfl rfl c13
          by_cases c16 : y1 = 2
          · refine br1 c16 ?_
            have d17 := eq_z (a := y1) (b := 2) (x := (Int32.toInt y1)) (y := 2) rfl rfl c16
            exact hq _ trivial
          · refine br0 c16 ?_
            have d18 := ne_z (a := y1) (b := 2) (x := (Int32.toInt y1)) (y := 2) rfl rfl c16
            by_cases c19 : y1 = 3
            · refine br1 c19 ?_
              have d20 := eq_z (a := y1) (b := 3) (x := (Int32.toInt y1)) (y := 3) rfl rfl c19
              exact hq _ trivial
            · refine br0 c19 ?_
              have d21 := ne_z (a := y1) (b := 3) (x := (Int32.toInt y1)) (y := 3) rfl rfl c19
              by_cases c22 : y1 = 4
              · refine br1 c22 ?_
                have d23 := eq_z (a := y1) (b := 4) (x := (Int32.toInt y1)) (y := 4) rfl rfl c22
                exact hq _ trivial
              · refine br0 c22 ?_
                have d24 := ne_z (a := y1) (b := 4) (x := (Int32.toInt y1)) (y := 4) rfl rfl c22
                by_cases c25 : y1 = 5
                · refine br1 c25 ?_
                  have d26 := eq_z (a := y1) (b := 5) (x := (Int32.toInt y1)) (y := 5) rfl rfl c25
                  exact hq _ trivial
                · refine br0 c25 ?_
                  have d27 := ne_z (a := y1) (b := 5) (x := (Int32.toInt y1)) (y := 5) rfl rfl c25
                  by_cases c28 : y1 = 6
                  · refine br1 c28 ?_
                    have d29 := eq_z (a := y1) (b := 6) (x := (Int32.toInt y1)) (y := 6) rfl rfl c28
                    exact hq _ trivial
                  · refine br0 c28 ?_
                    have d30 := ne_z (a := y1) (b := 6) (x := (Int32.toInt y1)) (y := 6) rfl rfl c28
                    by_cases c31 : y1 = 7
                    · refine br1 c31 ?_
                      have d32 := eq_z (a := y1) (b := 7) (x := (Int32.toInt y1)) (y := 7) rfl rfl c31
                      exact hq _ trivial
                    · refine br0 c31 ?_
                      have d33 := ne_z (a := y1) (b := 7) (x := (Int32.toInt y1)) (y := 7) rfl rfl c31
                      by_cases c34 : y1 = 8
                      · refine br1 c34 ?_
                        have d35 := eq_z (a := y1) (b := 8) (x := (Int32.toInt y1)) (y := 8) rfl rfl c34
                        exact hq _ trivial
                      · refine br0 c34 ?_
                        have d36 := ne_z (a := y1) (b := 8) (x := (Int32.toInt y1)) (y := 8) rfl rfl c34
                        by_cases c37 : y1 = 9
                        · refine br1 c37 ?_
                          have d38 := eq_z (a := y1) (b := 9) (x := (Int32.toInt y1)) (y := 9) rfl rfl c37
                          exact hq _ trivial
                        · refine br0 c37 ?_
                          have d39 := ne_z (a := y1) (b := 9) (x := (Int32.toInt y1)) (y := 9) rfl rfl c37
                          by_cases c40 : y1 = 10
                          · refine br1 c40 ?_
                            have d41 := eq_z (a := y1) (b := 10) (x := (Int32.toInt y1)) (y := 10) rfl rfl c40
                            have t42 : (Int32.toInt (h0_cell - h0_cell / 8 * 8)) = (Int32.toInt h0_cell) % 8 := rem_z rfl rfl (by omega) (by omega)
                            exact hq _ trivial
                          · refine br0 c40 ?_
                            have d43 := ne_z (a := y1) (b := 10) (x := (Int32.toInt y1)) (y := 10) rfl rfl c40
                            by_cases c44 : y1 = 11
                            · refine br1 c44 ?_
                              have d45 := eq_z (a := y1) (b := 11) (x := (Int32.toInt y1)) (y := 11) rfl rfl c44
                              have t46 : (Int32.toInt (h0_cell / 8)) = (Int32.toInt h0_cell) / 8 := div_z rfl rfl (by omega) (by omega)
                              exact hq _ trivial
                            · refine br0 c44 ?_
                              have d47 := ne_z (a := y1) (b := 11) (x := (Int32.toInt y1)) (y := 11) rfl rfl c44
                              by_cases c48 : y1 = 12
                              · refine br1 c48 ?_
                                have d49 := eq_z (a := y1) (b := 12) (x := (Int32.toInt y1)) (y := 12) rfl rfl c48
                                exact hq _ trivial
                              · refine br0 c48 ?_
                                have d50 := ne_z (a := y1) (b := 12) (x := (Int32.toInt y1)) (y := 12) rfl rfl c48
                                by_cases c51 : y1 = 13
                                · refine br1 c51 ?_
                                  have d52 := eq_z (a := y1) (b := 13) (x := (Int32.toInt y1)) (y := 13) rfl rfl c51
                                  refine ⟨vpi (x := (Int32.toInt h0_cell)) rfl (by omega) (by omega), ?_⟩
                                  have g53 : 1 ≤ (Int32.toInt (f_h0_world_rock_hard h0_cell.toNatClampNeg)) ∧ (Int32.toInt (f_h0_world_rock_hard h0_cell.toNatClampNeg)) ≤ 9 := HA.at_0 h_f_h0_world_rock_hard (tnz (x := (Int32.toInt h0_cell)) rfl (by omega)) (by omega) (by omega)
                                  exact hq _ trivial
                                · refine br0 c51 ?_
                                  have d54 := ne_z (a := y1) (b := 13) (x := (Int32.toInt y1)) (y := 13) rfl rfl c51
                                  by_cases c55 : y1 = 14
                                  · refine br1 c55 ?_
                                    have d56 := eq_z (a := y1) (b := 14) (x := (Int32.toInt y1)) (y := 14) rfl rfl c55
                                    refine ⟨vpi (x := (Int32.toInt h0_cell)) rfl (by omega) (by omega), ?_⟩
                                    have g57 : 0 ≤ (Int32.toInt (f_h0_world_rock_water h0_cell.toNatClampNeg)) ∧ (Int32.toInt (f_h0_world_rock_water h0_cell.toNatClampNeg)) ≤ 99 := WA.at_0 h_f_h0_world_rock_water (tnz (x := (Int32.toInt h0_cell)) rfl (by omega)) (by omega) (by omega)
                                    exact hq _ trivial
                                  · refine br0 c55 ?_
                                    have d58 := ne_z (a := y1) (b := 14) (x := (Int32.toInt y1)) (y := 14) rfl rfl c55
                                    by_cases c59 : y1 = 15
                                    · refine br1 c59 ?_
                                      have d60 := eq_z (a := y1) (b := 15) (x := (Int32.toInt y1)) (y := 15) rfl rfl c59
                                      exact hq _ trivial
                                    · refine br0 c59 ?_
                                      have d61 := ne_z (a := y1) (b := 15) (x := (Int32.toInt y1)) (y := 15) rfl rfl c59
                                      by_cases c62 : y1 = 16
                                      · refine br1 c62 ?_
                                        have d63 := eq_z (a := y1) (b := 16) (x := (Int32.toInt y1)) (y := 16) rfl rfl c62
                                        have g64 : 0 ≤ (Int32.toInt (f_h0_world_term (0 : Int32).toNatClampNeg)) ∧ (Int32.toInt (f_h0_world_term (0 : Int32).toNatClampNeg)) ≤ 9999 := TE.at_0 h_f_h0_world_term (rfl : ((0 : Nat) : Int) = 0) (by omega) (by omega)
                                        exact hq _ trivial
                                      · refine br0 c62 ?_
                                        have d65 := ne_z (a := y1) (b := 16) (x := (Int32.toInt y1)) (y := 16) rfl rfl c62
                                        by_cases c66 : y1 = 17
                                        · refine br1 c66 ?_
                                          have d67 := eq_z (a := y1) (b := 17) (x := (Int32.toInt y1)) (y := 17) rfl rfl c66
                                          have g68 : 0 ≤ (Int32.toInt (f_h0_world_term (2 : Int32).toNatClampNeg)) ∧ (Int32.toInt (f_h0_world_term (2 : Int32).toNatClampNeg)) ≤ 9999 := TE.at_0 h_f_h0_world_term (rfl : ((2 : Nat) : Int) = 2) (by omega) (by omega)
                                          exact hq _ trivial
                                        · refine br0 c66 ?_
                                          have d69 := ne_z (a := y1) (b := 17) (x := (Int32.toInt y1)) (y := 17) rfl rfl c66
                                          by_cases c70 : y1 = 18
                                          · refine br1 c70 ?_
                                            have d71 := eq_z (a := y1) (b := 18) (x := (Int32.toInt y1)) (y := 18) rfl rfl c70
                                            exact hq _ trivial
                                          · refine br0 c70 ?_
                                            have d72 := ne_z (a := y1) (b := 18) (x := (Int32.toInt y1)) (y := 18) rfl rfl c70
                                            by_cases c73 : y1 = 19
                                            · refine br1 c73 ?_
                                              have d74 := eq_z (a := y1) (b := 19) (x := (Int32.toInt y1)) (y := 19) rfl rfl c73
                                              exact hq _ trivial
                                            · refine br0 c73 ?_
                                              have d75 := ne_z (a := y1) (b := 19) (x := (Int32.toInt y1)) (y := 19) rfl rfl c73
                                              by_cases c76 : y1 = 20
                                              · refine br1 c76 ?_
                                                have d77 := eq_z (a := y1) (b := 20) (x := (Int32.toInt y1)) (y := 20) rfl rfl c76
                                                exact hq _ trivial
                                              · refine br0 c76 ?_
                                                have d78 := ne_z (a := y1) (b := 20) (x := (Int32.toInt y1)) (y := 20) rfl rfl c76
                                                by_cases c79 : y1 = 21
                                                · refine br1 c79 ?_
                                                  have d80 := eq_z (a := y1) (b := 21) (x := (Int32.toInt y1)) (y := 21) rfl rfl c79
                                                  exact hq _ trivial
                                                · refine br0 c79 ?_
                                                  have d81 := ne_z (a := y1) (b := 21) (x := (Int32.toInt y1)) (y := 21) rfl rfl c79
                                                  by_cases c82 : y1 = 22
                                                  · refine br1 c82 ?_
                                                    have d83 := eq_z (a := y1) (b := 22) (x := (Int32.toInt y1)) (y := 22) rfl rfl c82
                                                    exact hq _ trivial
                                                  · refine br0 c82 ?_
                                                    have d84 := ne_z (a := y1) (b := 22) (x := (Int32.toInt y1)) (y := 22) rfl rfl c82
                                                    by_cases c85 : y1 = 23
                                                    · refine br1 c85 ?_
                                                      have d86 := eq_z (a := y1) (b := 23) (x := (Int32.toInt y1)) (y := 23) rfl rfl c85
                                                      exact hq _ trivial
                                                    · refine br0 c85 ?_
                                                      have d87 := ne_z (a := y1) (b := 23) (x := (Int32.toInt y1)) (y := 23) rfl rfl c85
                                                      by_cases c88 : y1 = 24
                                                      · refine br1 c88 ?_
                                                        have d89 := eq_z (a := y1) (b := 24) (x := (Int32.toInt y1)) (y := 24) rfl rfl c88
                                                        exact hq _ trivial
                                                      · refine br0 c88 ?_
                                                        have d90 := ne_z (a := y1) (b := 24) (x := (Int32.toInt y1)) (y := 24) rfl rfl c88
                                                        by_cases c91 : y1 = 25
                                                        · refine br1 c91 ?_
                                                          have d92 := eq_z (a := y1) (b := 25) (x := (Int32.toInt y1)) (y := 25) rfl rfl c91
                                                          exact hq _ trivial
                                                        · refine br0 c91 ?_
                                                          have d93 := ne_z (a := y1) (b := 25) (x := (Int32.toInt y1)) (y := 25) rfl rfl c91
                                                          by_cases c94 : y1 = 26
                                                          · refine br1 c94 ?_
                                                            have d95 := eq_z (a := y1) (b := 26) (x := (Int32.toInt y1)) (y := 26) rfl rfl c94
                                                            exact hq _ trivial
                                                          · refine br0 c94 ?_
                                                            have d96 := ne_z (a := y1) (b := 26) (x := (Int32.toInt y1)) (y := 26) rfl rfl c94
                                                            by_cases c97 : y1 = 27
                                                            · refine br1 c97 ?_
                                                              have d98 := eq_z (a := y1) (b := 27) (x := (Int32.toInt y1)) (y := 27) rfl rfl c97
                                                              by_cases c99 : h0_world_crew_count ≤ b
                                                              · refine br1 c99 ?_
                                                                have d100 := le_z (a := h0_world_crew_count) (b := b) (x := (Int32.toInt h0_world_crew_count)) (y := (Int32.toInt b)) rfl rfl c99
                                                                exact hq _ trivial
                                                              · refine br0 c99 ?_
                                                                have d101 := nle_z (a := h0_world_crew_count) (b := b) (x := (Int32.toInt h0_world_crew_count)) (y := (Int32.toInt b)) rfl rfl c99
                                                                refine ⟨vpi (x := (Int32.toInt b)) rfl (by omega) (by omega), ?_⟩
                                                                have g102 : 0 ≤ (Int32.toInt (f_h0_world_crew_cell b.toNatClampNeg)) ∧ (Int32.toInt (f_h0_world_crew_cell b.toNatClampNeg)) ≤ 39 := CE.at_0 h_f_h0_world_crew_cell (tnz (x := (Int32.toInt b)) rfl (by omega)) (by omega) (by omega)
                                                                exact hq _ trivial
                                                            · refine br0 c97 ?_
                                                              have d103 := ne_z (a := y1) (b := 27) (x := (Int32.toInt y1)) (y := 27) rfl rfl c97
                                                              by_cases c104 : y1 = 28
                                                              · refine br1 c104 ?_
                                                                have d105 := eq_z (a := y1) (b := 28) (x := (Int32.toInt y1)) (y := 28) rfl rfl c104
                                                                by_cases c106 : h0_world_crew_count ≤ b
                                                                · refine br1 c106 ?_
                                                                  have d107 := le_z (a := h0_world_crew_count) (b := b) (x := (Int32.toInt h0_world_crew_count)) (y := (Int32.toInt b)) rfl rfl c106
                                                                  exact hq _ trivial
                                                                · refine br0 c106 ?_
                                                                  have d108 := nle_z (a := h0_world_crew_count) (b := b) (x := (Int32.toInt h0_world_crew_count)) (y := (Int32.toInt b)) rfl rfl c106
                                                                  refine ⟨vpi (x := (Int32.toInt b)) rfl (by omega) (by omega), ?_⟩
                                                                  have g109 : 0 ≤ (Int32.toInt (f_h0_world_crew_buckets b.toNatClampNeg)) ∧ (Int32.toInt (f_h0_world_crew_buckets b.toNatClampNeg)) ≤ 9999 := BU.at_0 h_f_h0_world_crew_buckets (tnz (x := (Int32.toInt b)) rfl (by omega)) (by omega) (by omega)
                                                                  exact hq _ trivial
                                                              · refine br0 c104 ?_
                                                                have d110 := ne_z (a := y1) (b := 28) (x := (Int32.toInt y1)) (y := 28) rfl rfl c104
                                                                exact hq _ trivial
  · skip
    by_cases c111 : a = 13
    · refine br1 c111 ?_
      have d112 := eq_z (a := a) (b := 13) (x := (Int32.toInt a)) (y := 13) rfl rfl c111
      exact HJ2 _ trivial
    · refine br0 c111 ?_
      have d113 := ne_z (a := a) (b := 13) (x := (Int32.toInt a)) (y := 13) rfl rfl c111
      exact HJ2 _ trivial


