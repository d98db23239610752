set_option maxRecDepth 100000 in
theorem s_X1_copyFrom (p0_count : Int32) (f_p0_cell : Nat → Int32) (f_h0_cell : Nat → Int32) (f_p0_buckets : Nat → Int32) (f_h0_buckets : Nat → Int32) (h_p0_count : 0 ≤ p0_count.toInt ∧ p0_count.toInt ≤ 6) (h_f_p0_cell : CE f_p0_cell) (h_f_h0_cell : CE f_h0_cell) (h_f_p0_buckets : BU f_p0_buckets) (h_f_h0_buckets : BU f_h0_buckets) {Q : (Int32 × (Nat → Int32) × (Nat → Int32)) → Prop} (hq : ∀ (u_0 : Int32) (u_1 : Nat → Int32) (u_2 : Nat → Int32), (0 ≤ u_0.toInt ∧ u_0.toInt ≤ 6) ∧ (CE u_1) ∧ (BU u_2) → Q (u_0, u_1, u_2)) : wp_X1_copyFrom p0_count f_p0_cell f_h0_cell f_p0_buckets f_h0_buckets Q := by
  unfold wp_X1_copyFrom
  exact hq _ _ _ ⟨⟨by omega, by omega⟩, (CE.cp h_f_p0_cell), (BU.cp h_f_p0_buckets)⟩


set_option maxRecDepth 100000 in
theorem s_X4_copyFrom (p0_listeners : Int32) (p0_noises : Int32) (p0_hushed : Int32) (p0_hearsay : Int32) (p0_wells : Int32) (f_p0_column : Nat → Int32) (f_h0_column : Nat → Int32) (f_p0_ear : Nat → Int32) (f_h0_ear : Nat → Int32) (f_p0_noiseColumn : Nat → Int32) (f_h0_noiseColumn : Nat → Int32) (f_p0_noiseLoud : Nat → Int32) (f_h0_noiseLoud : Nat → Int32) (f_p0_hearsayColumn : Nat → Int32) (f_h0_hearsayColumn : Nat → Int32) (f_p0_hearsayLoud : Nat → Int32) (f_h0_hearsayLoud : Nat → Int32) (f_p0_sounds : Nat → Int32) (f_h0_sounds : Nat → Int32) (f_p0_wet : Nat → Int32) (f_h0_wet : Nat → Int32) (h_p0_listeners : 0 ≤ p0_listeners.toInt ∧ p0_listeners.toInt ≤ 5) (h_p0_noises : 0 ≤ p0_noises.toInt ∧ p0_noises.toInt ≤ 6) (h_p0_hearsay : 0 ≤ p0_hearsay.toInt ∧ p0_hearsay.toInt ≤ 8) (h_p0_wells : 0 ≤ p0_wells.toInt ∧ p0_wells.toInt ≤ 10) (h_f_p0_column : CO f_p0_column) (h_f_h0_column : CO f_h0_column) (h_f_p0_ear : EA f_p0_ear) (h_f_h0_ear : EA f_h0_ear) (h_f_p0_noiseColumn : NC f_p0_noiseColumn) (h_f_h0_noiseColumn : NC f_h0_noiseColumn) (h_f_p0_noiseLoud : NL f_p0_noiseLoud) (h_f_h0_noiseLoud : NL f_h0_noiseLoud) (h_f_p0_hearsayColumn : HC f_p0_hearsayColumn) (h_f_h0_hearsayColumn : HC f_h0_hearsayColumn) (h_f_p0_hearsayLoud : HL f_p0_hearsayLoud) (h_f_h0_hearsayLoud : HL f_h0_hearsayLoud) {Q : (Int32 × Int32 × Int32 × Int32 × Int32 × (Nat → Int32) × (Nat → Int32) × (Nat → Int32) × (Nat → Int32) × (Nat → Int32) × (Nat → Int32) × (Nat → Int32) × (Nat → Int32)) → Prop} (hq : ∀ (u_0 : Int32) (u_1 : Int32) (u_2 : Int32) (u_3 : Int32) (u_4 : Int32) (u_5 : Nat → Int32) (u_6 : Nat → Int32) (u_7 : Nat → Int32) (u_8 : Nat → Int32) (u_9 : Nat → Int32) (u_10 : Nat → Int32) (u_11 : Nat → Int32) (u_12 : Nat → Int32), (0 ≤ u_0.toInt ∧ u_0.toInt ≤ 5) ∧ (0 ≤ u_1.toInt ∧ u_1.toInt ≤ 6) ∧ (0 ≤ u_3.toInt ∧ u_3.toInt ≤ 8) ∧ (0 ≤ u_4.toInt ∧ u_4.toInt ≤ 10) ∧ (CO u_5) ∧ (EA u_6) ∧ (NC u_7) ∧ (NL u_8) ∧ (HC u_9) ∧ (HL u_10) → Q (u_0, u_1, u_2, u_3, u_4, u_5, u_6, u_7, u_8, u_9, u_10, u_11, u_12)) : wp_X4_copyFrom p0_listeners p0_noises p0_hushed p0_hearsay p0_wells f_p0_column f_h0_column f_p0_ear f_h0_ear f_p0_noiseColumn f_h0_noiseColumn f_p0_noiseLoud f_h0_noiseLoud f_p0_hearsayColumn f_h0_hearsayColumn f_p0_hearsayLoud f_h0_hearsayLoud f_p0_sounds f_h0_sounds f_p0_wet f_h0_wet Q := by
  unfold wp_X4_copyFrom
  exact hq _ _ _ _ _ _ _ _ _ _ _ _ _ ⟨⟨by omega, by omega⟩, ⟨by omega, by omega⟩, ⟨by omega, by omega⟩, ⟨by omega, by omega⟩, (CO.cp h_f_p0_column), (EA.cp h_f_p0_ear), (NC.cp h_f_p0_noiseColumn), (NL.cp h_f_p0_noiseLoud), (HC.cp h_f_p0_hearsayColumn), (HL.cp h_f_p0_hearsayLoud)⟩


set_option maxRecDepth 100000 in
theorem s_X6_copyFrom (p0_dug : Int64) (f_p0_kind : Nat → Int32) (f_h0_kind : Nat → Int32) (f_p0_hard : Nat → Int32) (f_h0_hard : Nat → Int32) (f_p0_water : Nat → Int32) (f_h0_water : Nat → Int32) (h_f_p0_kind : KI f_p0_kind) (h_f_h0_kind : KI f_h0_kind) (h_f_p0_hard : HA f_p0_hard) (h_f_h0_hard : HA f_h0_hard) (h_f_p0_water : WA f_p0_water) (h_f_h0_water : WA f_h0_water) {Q : (Int64 × (Nat → Int32) × (Nat → Int32) × (Nat → Int32)) → Prop} (hq : ∀ (u_0 : Int64) (u_1 : Nat → Int32) (u_2 : Nat → Int32) (u_3 : Nat → Int32), (KI u_1) ∧ (HA u_2) ∧ (WA u_3) → Q (u_0, u_1, u_2, u_3)) : wp_X6_copyFrom p0_dug f_p0_kind f_h0_kind f_p0_hard f_h0_hard f_p0_water f_h0_water Q := by
  unfold wp_X6_copyFrom
  exact hq _ _ _ _ ⟨(KI.cp h_f_p0_kind), (HA.cp h_f_p0_hard), (WA.cp h_f_p0_water)⟩


set_option maxRecDepth 100000 in
theorem s_X8_headOf (a : Int32) (b : Int32) (n_h0_heads : Nat) (f_h0_heads : Nat → Int32) (e_0 : n_h0_heads < 100000) {Q : Int32 → Prop} (hq : ∀ (r : Int32), True → Q r) : wp_X8_headOf a b n_h0_heads f_h0_heads Q := by
  unfold wp_X8_headOf
  by_cases c1 : ((5 * a) + b) < 0
  · refine br1 c1 ?_
    have d2 := lt_z (x := (Int32.toInt ((5 * a) + b))) (y := 0) rfl rfl c1
    exact hq _ trivial
  · refine br0 c1 ?_
    have d3 := nlt_z (x := (Int32.toInt ((5 * a) + b))) (y := 0) rfl rfl c1
    by_cases c4 : (Int32.ofNat n_h0_heads) ≤ ((5 * a) + b)
    · refine br1 c4 ?_
      have t5 := of_z (n := n_h0_heads) (by omega)
      have d6 := le_z (x := (Int32.toInt (Int32.ofNat n_h0_heads))) (y := (Int32.toInt ((5 * a) + b))) rfl rfl c4
      exact hq _ trivial
    · refine br0 c4 ?_
      have t7 := of_z (n := n_h0_heads) (by omega)
      have d8 := nle_z (x := (Int32.toInt (Int32.ofNat n_h0_heads))) (y := (Int32.toInt ((5 * a) + b))) rfl rfl c4
      refine ⟨vpi (x := (Int32.toInt ((5 * a) + b))) rfl (by omega) (by omega), ?_⟩
      exact hq _ trivial


set_option maxRecDepth 100000 in
theorem s_X8_setHead (a : Int32) (b : Int32) (d : Int32) (n_h0_heads : Nat) (f_h0_heads : Nat → Int32) (e_0 : n_h0_heads < 100000) {Q : (Nat → Int32) → Prop} (hq : ∀ (u : Nat → Int32), True → Q u) : wp_X8_setHead a b d n_h0_heads f_h0_heads Q := by
  unfold wp_X8_setHead
  by_cases c1 : ((5 * a) + b) < 0
  · refine br1 c1 ?_
    have d2 := lt_z (x := (Int32.toInt ((5 * a) + b))) (y := 0) rfl rfl c1
    exact hq _ trivial
  · refine br0 c1 ?_
    have d3 := nlt_z (x := (Int32.toInt ((5 * a) + b))) (y := 0) rfl rfl c1
    by_cases c4 : (Int32.ofNat n_h0_heads) ≤ ((5 * a) + b)
    · refine br1 c4 ?_
      have t5 := of_z (n := n_h0_heads) (by omega)
      have d6 := le_z (x := (Int32.toInt (Int32.ofNat n_h0_heads))) (y := (Int32.toInt ((5 * a) + b))) rfl rfl c4
      exact hq _ trivial
    · refine br0 c4 ?_
      have t7 := of_z (n := n_h0_heads) (by omega)
      have d8 := nle_z (x := (Int32.toInt (Int32.ofNat n_h0_heads))) (y := (Int32.toInt ((5 * a) + b))) rfl rfl c4
      refine ⟨vpi (x := (Int32.toInt ((5 * a) + b))) rfl (by omega) (by omega), ?_⟩
      exact hq _ trivial


set_option maxRecDepth 100000 in
theorem s_X0_joined (a : Int32) (b : Int64) (d : Int64) {Q : Int64 → Prop} (hq : ∀ (r : Int64), True → Q r) : wp_X0_joined a b d Q := by
  unfold wp_X0_joined
  by_cases c1 : a = 2
  · refine br1 c1 ?_
    have d2 := eq_z (x := (Int32.toInt a)) (y := 2) rfl rfl c1
    exact hq _ trivial
  · refine br0 c1 ?_
    have d3 := ne_z (x := (Int32.toInt a)) (y := 2) rfl rfl c1
    by_cases c4 : a = 3
    · refine br1 c4 ?_
      have d5 := eq_z (x := (Int32.toInt a)) (y := 3) rfl rfl c4
      exact hq _ trivial
    · refine br0 c4 ?_
      have d6 := ne_z (x := (Int32.toInt a)) (y := 3) rfl rfl c4
      by_cases c7 : a = 4
      · refine br1 c7 ?_
        have d8 := eq_z (x := (Int32.toInt a)) (y := 4) rfl rfl c7
        exact hq _ trivial
      · refine br0 c7 ?_
        have d9 := ne_z (x := (Int32.toInt a)) (y := 4) rfl rfl c7
        by_cases c10 : a = 5
        · refine br1 c10 ?_
          have d11 := eq_z (x := (Int32.toInt a)) (y := 5) rfl rfl c10
          by_cases c12 : (lg_cmp d 0) = 0
          · refine br1 c12 ?_
            have d13 := c_eq (x := (Int64.toInt d)) (y := 0) rfl rfl c12
            exact hq _ trivial
          · refine br0 c12 ?_
            have d14 := c_ne (x := (Int64.toInt d)) (y := 0) rfl rfl c12
            refine ⟨z_neL (x := (Int64.toInt d)) rfl (by omega), ?_⟩
            exact hq _ trivial
        · refine br0 c10 ?_
          have d15 := ne_z (x := (Int32.toInt a)) (y := 5) rfl rfl c10
          by_cases c16 : a = 6
          · refine br1 c16 ?_
            have d17 := eq_z (x := (Int32.toInt a)) (y := 6) rfl rfl c16
            by_cases c18 : (lg_cmp d 0) = 0
            · refine br1 c18 ?_
              have d19 := c_eq (x := (Int64.toInt d)) (y := 0) rfl rfl c18
              exact hq _ trivial
            · refine br0 c18 ?_
              have d20 := c_ne (x := (Int64.toInt d)) (y := 0) rfl rfl c18
              refine ⟨z_neL (x := (Int64.toInt d)) rfl (by omega), ?_⟩
              exact hq _ trivial
          · refine br0 c16 ?_
            have d21 := ne_z (x := (Int32.toInt a)) (y := 6) rfl rfl c16
            by_cases c22 : a = 7
            · refine br1 c22 ?_
              have d23 := eq_z (x := (Int32.toInt a)) (y := 7) rfl rfl c22
              by_cases c24 : 0 ≤ (lg_cmp b d)
              · refine br1 c24 ?_
                have d25 := c_ge (x := (Int64.toInt b)) (y := (Int64.toInt d)) rfl rfl c24
                exact hq _ trivial
              · refine br0 c24 ?_
                have d26 := c_nge (x := (Int64.toInt b)) (y := (Int64.toInt d)) rfl rfl c24
                exact hq _ trivial
            · refine br0 c22 ?_
              have d27 := ne_z (x := (Int32.toInt a)) (y := 7) rfl rfl c22
              by_cases c28 : a = 8
              · refine br1 c28 ?_
                have d29 := eq_z (x := (Int32.toInt a)) (y := 8) rfl rfl c28
                by_cases c30 : (lg_cmp b d) ≤ 0
                · refine br1 c30 ?_
                  have d31 := c_le (x := (Int64.toInt b)) (y := (Int64.toInt d)) rfl rfl c30
                  exact hq _ trivial
                · refine br0 c30 ?_
                  have d32 := c_nle (x := (Int64.toInt b)) (y := (Int64.toInt d)) rfl rfl c30
                  exact hq _ trivial
              · refine br0 c28 ?_
                have d33 := ne_z (x := (Int32.toInt a)) (y := 8) rfl rfl c28
                by_cases c34 : a = 9
                · refine br1 c34 ?_
                  have d35 := eq_z (x := (Int32.toInt a)) (y := 9) rfl rfl c34
                  by_cases c36 : (lg_cmp b d) = 0
                  · refine br1 c36 ?_
                    have d37 := c_eq (x := (Int64.toInt b)) (y := (Int64.toInt d)) rfl rfl c36
                    exact hq _ trivial
                  · refine br0 c36 ?_
                    have d38 := c_ne (x := (Int64.toInt b)) (y := (Int64.toInt d)) rfl rfl c36
                    exact hq _ trivial
                · refine br0 c34 ?_
                  have d39 := ne_z (x := (Int32.toInt a)) (y := 9) rfl rfl c34
                  exact hq _ trivial


set_option maxRecDepth 100000 in
theorem s_X0_wordValue (a : Int32) (b : Int32) (h0_cell : Int32) (h0_shaft : Int32) (h0_kind : Int32) (h0_done : Int32) (h0_latest : Int32) (h0_world_folk_listeners : Int32) (f_h0_world_folk_column : Nat → Int32) (f_h0_world_rock_hard : Nat → Int32) (f_h0_world_rock_water : Nat → Int32) (f_h0_world_term : Nat → Int32) (h0_world_crew_count : Int32) (f_h0_world_crew_cell : Nat → Int32) (f_h0_world_crew_buckets : Nat → Int32) (h_b : 0 ≤ b.toInt ∧ b.toInt ≤ 1023) (h_h0_cell : 0 ≤ h0_cell.toInt ∧ h0_cell.toInt ≤ 39) (h_h0_world_folk_listeners : 0 ≤ h0_world_folk_listeners.toInt ∧ h0_world_folk_listeners.toInt ≤ 5) (h_f_h0_world_folk_column : CO f_h0_world_folk_column) (h_f_h0_world_rock_hard : HA f_h0_world_rock_hard) (h_f_h0_world_rock_water : WA f_h0_world_rock_water) (h_f_h0_world_term : TE f_h0_world_term) (h_h0_world_crew_count : 0 ≤ h0_world_crew_count.toInt ∧ h0_world_crew_count.toInt ≤ 6) (h_f_h0_world_crew_cell : CE f_h0_world_crew_cell) (h_f_h0_world_crew_buckets : BU f_h0_world_crew_buckets) {Q : Int32 → Prop} (hq : ∀ (r : Int32), True → Q r) : wp_X0_wordValue a b h0_cell h0_shaft h0_kind h0_done h0_latest h0_world_folk_listeners f_h0_world_folk_column f_h0_world_rock_hard f_h0_world_rock_water f_h0_world_term h0_world_crew_count f_h0_world_crew_cell f_h0_world_crew_buckets Q := by
  unfold wp_X0_wordValue
  refine jn1_i (fun (y1 : Int32) => True) (fun y1 J2 => ?_) (fun _ HJ2 => ?_)
  · skip
    by_cases c3 : y1 = (-1)
    · refine br1 c3 ?_
      have d4 := eq_z (x := (Int32.toInt y1)) (y := (-1)) rfl (by decide) c3
      by_cases c5 : h0_world_folk_listeners ≤ b
      · refine br1 c5 ?_
        have d6 := le_z (x := (Int32.toInt h0_world_folk_listeners)) (y := (Int32.toInt b)) rfl rfl c5
        exact hq _ trivial
      · refine br0 c5 ?_
        have d7 := nle_z (x := (Int32.toInt h0_world_folk_listeners)) (y := (Int32.toInt b)) rfl rfl c5
        refine ⟨vpi (x := (Int32.toInt b)) rfl (by omega) (by omega), ?_⟩
        have g8 : 0 ≤ (Int32.toInt (f_h0_world_folk_column b.toNatClampNeg)) ∧ (Int32.toInt (f_h0_world_folk_column b.toNatClampNeg)) ≤ 7 := CO.at_0 h_f_h0_world_folk_column (tnz (x := (Int32.toInt b)) rfl (by omega)) (by omega) (by omega)
        exact hq _ trivial
    · refine br0 c3 ?_
      have d9 := ne_z (x := (Int32.toInt y1)) (y := (-1)) rfl (by decide) c3
      by_cases c10 : y1 = 0
      · refine br1 c10 ?_
        have d11 := eq_z (x := (Int32.toInt y1)) (y := 0) rfl rfl c10
        exact hq _ trivial
      · refine br0 c10 ?_
        have d12 := ne_z (x := (Int32.toInt y1)) (y := 0) rfl rfl c10
        by_cases c13 : y1 = 1
        · refine br1 c13 ?_
          have d14 := eq_z (x := (Int32.toInt y1)) (y := 1) rfl rfl c13
          exact hq _ trivial
        · refine br0 c13 ?_
          have d15 := ne_z (x := (Int32.toInt y1)) (y := 1) rfl rfl c13
          by_cases c16 : y1 = 2
          · refine br1 c16 ?_
            have d17 := eq_z (x := (Int32.toInt y1)) (y := 2) rfl rfl c16
            exact hq _ trivial
          · refine br0 c16 ?_
            have d18 := ne_z (x := (Int32.toInt y1)) (y := 2) rfl rfl c16
            by_cases c19 : y1 = 3
            · refine br1 c19 ?_
              have d20 := eq_z (x := (Int32.toInt y1)) (y := 3) rfl rfl c19
              exact hq _ trivial
            · refine br0 c19 ?_
              have d21 := ne_z (x := (Int32.toInt y1)) (y := 3) rfl rfl c19
              by_cases c22 : y1 = 4
              · refine br1 c22 ?_
                have d23 := eq_z (x := (Int32.toInt y1)) (y := 4) rfl rfl c22
                exact hq _ trivial
              · refine br0 c22 ?_
                have d24 := ne_z (x := (Int32.toInt y1)) (y := 4) rfl rfl c22
                by_cases c25 : y1 = 5
                · refine br1 c25 ?_
                  have d26 := eq_z (x := (Int32.toInt y1)) (y := 5) rfl rfl c25
                  exact hq _ trivial
                · refine br0 c25 ?_
                  have d27 := ne_z (x := (Int32.toInt y1)) (y := 5) rfl rfl c25
                  by_cases c28 : y1 = 6
                  · refine br1 c28 ?_
                    have d29 := eq_z (x := (Int32.toInt y1)) (y := 6) rfl rfl c28
                    exact hq _ trivial
                  · refine br0 c28 ?_
                    have d30 := ne_z (x := (Int32.toInt y1)) (y := 6) rfl rfl c28
                    by_cases c31 : y1 = 7
                    · refine br1 c31 ?_
                      have d32 := eq_z (x := (Int32.toInt y1)) (y := 7) rfl rfl c31
                      exact hq _ trivial
                    · refine br0 c31 ?_
                      have d33 := ne_z (x := (Int32.toInt y1)) (y := 7) rfl rfl c31
                      by_cases c34 : y1 = 8
                      · refine br1 c34 ?_
                        have d35 := eq_z (x := (Int32.toInt y1)) (y := 8) rfl rfl c34
                        exact hq _ trivial
                      · refine br0 c34 ?_
                        have d36 := ne_z (x := (Int32.toInt y1)) (y := 8) rfl rfl c34
                        by_cases c37 : y1 = 9
                        · refine br1 c37 ?_
                          have d38 := eq_z (x := (Int32.toInt y1)) (y := 9) rfl rfl c37
                          exact hq _ trivial
                        · refine br0 c37 ?_
                          have d39 := ne_z (x := (Int32.toInt y1)) (y := 9) rfl rfl c37
                          by_cases c40 : y1 = 10
                          · refine br1 c40 ?_
                            have d41 := eq_z (x := (Int32.toInt y1)) (y := 10) rfl rfl c40
                            have t42 : (Int32.toInt (h0_cell - h0_cell / 8 * 8)) = (Int32.toInt h0_cell) % 8 := rem_z rfl rfl (by omega) (by omega)
                            exact hq _ trivial
                          · refine br0 c40 ?_
                            have d43 := ne_z (x := (Int32.toInt y1)) (y := 10) rfl rfl c40
                            by_cases c44 : y1 = 11
                            · refine br1 c44 ?_
                              have d45 := eq_z (x := (Int32.toInt y1)) (y := 11) rfl rfl c44
                              have t46 : (Int32.toInt (h0_cell / 8)) = (Int32.toInt h0_cell) / 8 := div_z rfl rfl (by omega) (by omega)
                              exact hq _ trivial
                            · refine br0 c44 ?_
                              have d47 := ne_z (x := (Int32.toInt y1)) (y := 11) rfl rfl c44
                              by_cases c48 : y1 = 12
                              · refine br1 c48 ?_
                                have d49 := eq_z (x := (Int32.toInt y1)) (y := 12) rfl rfl c48
                                exact hq _ trivial
                              · refine br0 c48 ?_
                                have d50 := ne_z (x := (Int32.toInt y1)) (y := 12) rfl rfl c48
                                by_cases c51 : y1 = 13
                                · refine br1 c51 ?_
                                  have d52 := eq_z (x := (Int32.toInt y1)) (y := 13) rfl rfl c51
                                  refine ⟨vpi (x := (Int32.toInt h0_cell)) rfl (by omega) (by omega), ?_⟩
                                  have g53 : 1 ≤ (Int32.toInt (f_h0_world_rock_hard h0_cell.toNatClampNeg)) ∧ (Int32.toInt (f_h0_world_rock_hard h0_cell.toNatClampNeg)) ≤ 9 := HA.at_0 h_f_h0_world_rock_hard (tnz (x := (Int32.toInt h0_cell)) rfl (by omega)) (by omega) (by omega)
                                  exact hq _ trivial
                                · refine br0 c51 ?_
                                  have d54 := ne_z (x := (Int32.toInt y1)) (y := 13) rfl rfl c51
                                  by_cases c55 : y1 = 14
                                  · refine br1 c55 ?_
                                    have d56 := eq_z (x := (Int32.toInt y1)) (y := 14) rfl rfl c55
                                    refine ⟨vpi (x := (Int32.toInt h0_cell)) rfl (by omega) (by omega), ?_⟩
                                    have g57 : 0 ≤ (Int32.toInt (f_h0_world_rock_water h0_cell.toNatClampNeg)) ∧ (Int32.toInt (f_h0_world_rock_water h0_cell.toNatClampNeg)) ≤ 99 := WA.at_0 h_f_h0_world_rock_water (tnz (x := (Int32.toInt h0_cell)) rfl (by omega)) (by omega) (by omega)
                                    exact hq _ trivial
                                  · refine br0 c55 ?_
                                    have d58 := ne_z (x := (Int32.toInt y1)) (y := 14) rfl rfl c55
                                    by_cases c59 : y1 = 15
                                    · refine br1 c59 ?_
                                      have d60 := eq_z (x := (Int32.toInt y1)) (y := 15) rfl rfl c59
                                      exact hq _ trivial
                                    · refine br0 c59 ?_
                                      have d61 := ne_z (x := (Int32.toInt y1)) (y := 15) rfl rfl c59
                                      by_cases c62 : y1 = 16
                                      · refine br1 c62 ?_
                                        have d63 := eq_z (x := (Int32.toInt y1)) (y := 16) rfl rfl c62
                                        have g64 : 0 ≤ (Int32.toInt (f_h0_world_term (0 : Int32).toNatClampNeg)) ∧ (Int32.toInt (f_h0_world_term (0 : Int32).toNatClampNeg)) ≤ 9999 := TE.at_0 h_f_h0_world_term (rfl : ((0 : Nat) : Int) = 0) (by omega) (by omega)
                                        exact hq _ trivial
                                      · refine br0 c62 ?_
                                        have d65 := ne_z (x := (Int32.toInt y1)) (y := 16) rfl rfl c62
                                        by_cases c66 : y1 = 17
                                        · refine br1 c66 ?_
                                          have d67 := eq_z (x := (Int32.toInt y1)) (y := 17) rfl rfl c66
                                          have g68 : 0 ≤ (Int32.toInt (f_h0_world_term (2 : Int32).toNatClampNeg)) ∧ (Int32.toInt (f_h0_world_term (2 : Int32).toNatClampNeg)) ≤ 9999 := TE.at_0 h_f_h0_world_term (rfl : ((2 : Nat) : Int) = 2) (by omega) (by omega)
                                          exact hq _ trivial
                                        · refine br0 c66 ?_
                                          have d69 := ne_z (x := (Int32.toInt y1)) (y := 17) rfl rfl c66
                                          by_cases c70 : y1 = 18
                                          · refine br1 c70 ?_
                                            have d71 := eq_z (x := (Int32.toInt y1)) (y := 18) rfl rfl c70
                                            exact hq _ trivial
                                          · refine br0 c70 ?_
                                            have d72 := ne_z (x := (Int32.toInt y1)) (y := 18) rfl rfl c70
                                            by_cases c73 : y1 = 19
                                            · refine br1 c73 ?_
                                              have d74 := eq_z (x := (Int32.toInt y1)) (y := 19) rfl rfl c73
                                              exact hq _ trivial
                                            · refine br0 c73 ?_
                                              have d75 := ne_z (x := (Int32.toInt y1)) (y := 19) rfl rfl c73
                                              by_cases c76 : y1 = 20
                                              · refine br1 c76 ?_
                                                have d77 := eq_z (x := (Int32.toInt y1)) (y := 20) rfl rfl c76
                                                exact hq _ trivial
                                              · refine br0 c76 ?_
                                                have d78 := ne_z (x := (Int32.toInt y1)) (y := 20) rfl rfl c76
                                                by_cases c79 : y1 = 21
                                                · refine br1 c79 ?_
                                                  have d80 := eq_z (x := (Int32.toInt y1)) (y := 21) rfl rfl c79
                                                  exact hq _ trivial
                                                · refine br0 c79 ?_
                                                  have d81 := ne_z (x := (Int32.toInt y1)) (y := 21) rfl rfl c79
                                                  by_cases c82 : y1 = 22
                                                  · refine br1 c82 ?_
                                                    have d83 := eq_z (x := (Int32.toInt y1)) (y := 22) rfl rfl c82
                                                    exact hq _ trivial
                                                  · refine br0 c82 ?_
                                                    have d84 := ne_z (x := (Int32.toInt y1)) (y := 22) rfl rfl c82
                                                    by_cases c85 : y1 = 23
                                                    · refine br1 c85 ?_
                                                      have d86 := eq_z (x := (Int32.toInt y1)) (y := 23) rfl rfl c85
                                                      exact hq _ trivial
                                                    · refine br0 c85 ?_
                                                      have d87 := ne_z (x := (Int32.toInt y1)) (y := 23) rfl rfl c85
                                                      by_cases c88 : y1 = 24
                                                      · refine br1 c88 ?_
                                                        have d89 := eq_z (x := (Int32.toInt y1)) (y := 24) rfl rfl c88
                                                        exact hq _ trivial
                                                      · refine br0 c88 ?_
                                                        have d90 := ne_z (x := (Int32.toInt y1)) (y := 24) rfl rfl c88
                                                        by_cases c91 : y1 = 25
                                                        · refine br1 c91 ?_
                                                          have d92 := eq_z (x := (Int32.toInt y1)) (y := 25) rfl rfl c91
                                                          exact hq _ trivial
                                                        · refine br0 c91 ?_
                                                          have d93 := ne_z (x := (Int32.toInt y1)) (y := 25) rfl rfl c91
                                                          by_cases c94 : y1 = 26
                                                          · refine br1 c94 ?_
                                                            have d95 := eq_z (x := (Int32.toInt y1)) (y := 26) rfl rfl c94
                                                            exact hq _ trivial
                                                          · refine br0 c94 ?_
                                                            have d96 := ne_z (x := (Int32.toInt y1)) (y := 26) rfl rfl c94
                                                            by_cases c97 : y1 = 27
                                                            · refine br1 c97 ?_
                                                              have d98 := eq_z (x := (Int32.toInt y1)) (y := 27) rfl rfl c97
                                                              by_cases c99 : h0_world_crew_count ≤ b
                                                              · refine br1 c99 ?_
                                                                have d100 := le_z (x := (Int32.toInt h0_world_crew_count)) (y := (Int32.toInt b)) rfl rfl c99
                                                                exact hq _ trivial
                                                              · refine br0 c99 ?_
                                                                have d101 := nle_z (x := (Int32.toInt h0_world_crew_count)) (y := (Int32.toInt b)) rfl rfl c99
                                                                refine ⟨vpi (x := (Int32.toInt b)) rfl (by omega) (by omega), ?_⟩
                                                                have g102 : 0 ≤ (Int32.toInt (f_h0_world_crew_cell b.toNatClampNeg)) ∧ (Int32.toInt (f_h0_world_crew_cell b.toNatClampNeg)) ≤ 39 := CE.at_0 h_f_h0_world_crew_cell (tnz (x := (Int32.toInt b)) rfl (by omega)) (by omega) (by omega)
                                                                exact hq _ trivial
                                                            · refine br0 c97 ?_
                                                              have d103 := ne_z (x := (Int32.toInt y1)) (y := 27) rfl rfl c97
                                                              by_cases c104 : y1 = 28
                                                              · refine br1 c104 ?_
                                                                have d105 := eq_z (x := (Int32.toInt y1)) (y := 28) rfl rfl c104
                                                                by_cases c106 : h0_world_crew_count ≤ b
                                                                · refine br1 c106 ?_
                                                                  have d107 := le_z (x := (Int32.toInt h0_world_crew_count)) (y := (Int32.toInt b)) rfl rfl c106
                                                                  exact hq _ trivial
                                                                · refine br0 c106 ?_
                                                                  have d108 := nle_z (x := (Int32.toInt h0_world_crew_count)) (y := (Int32.toInt b)) rfl rfl c106
                                                                  refine ⟨vpi (x := (Int32.toInt b)) rfl (by omega) (by omega), ?_⟩
                                                                  have g109 : 0 ≤ (Int32.toInt (f_h0_world_crew_buckets b.toNatClampNeg)) ∧ (Int32.toInt (f_h0_world_crew_buckets b.toNatClampNeg)) ≤ 9999 := BU.at_0 h_f_h0_world_crew_buckets (tnz (x := (Int32.toInt b)) rfl (by omega)) (by omega) (by omega)
                                                                  exact hq _ trivial
                                                              · refine br0 c104 ?_
                                                                have d110 := ne_z (x := (Int32.toInt y1)) (y := 28) rfl rfl c104
                                                                exact hq _ trivial
  · skip
    by_cases c111 : a = 13
    · refine br1 c111 ?_
      have d112 := eq_z (x := (Int32.toInt a)) (y := 13) rfl rfl c111
      exact HJ2 _ trivial
    · refine br0 c111 ?_
      have d113 := ne_z (x := (Int32.toInt a)) (y := 13) rfl rfl c111
      exact HJ2 _ trivial


set_option maxRecDepth 100000 in
theorem sl_X0_reckon_14 (h0_cell : Int32) (h0_shaft : Int32) (h0_kind : Int32) (h0_done : Int32) (h0_latest : Int32) (h0_value : Int32) (p0_length : Int32) (n_p0_code : Nat) (f_p0_code : Nat → Int32) (h0_world_folk_listeners : Int32) (f_h0_world_folk_column : Nat → Int32) (f_h0_world_rock_hard : Nat → Int32) (f_h0_world_rock_water : Nat → Int32) (f_h0_world_term : Nat → Int32) (h0_world_crew_count : Int32) (f_h0_world_crew_cell : Nat → Int32) (f_h0_world_crew_buckets : Nat → Int32) (h_h0_cell : 0 ≤ h0_cell.toInt ∧ h0_cell.toInt ≤ 39) (h_p0_length : 0 ≤ p0_length.toInt ∧ p0_length.toInt ≤ 400) (h_f_p0_code : CD f_p0_code) (h_h0_world_folk_listeners : 0 ≤ h0_world_folk_listeners.toInt ∧ h0_world_folk_listeners.toInt ≤ 5) (h_f_h0_world_folk_column : CO f_h0_world_folk_column) (h_f_h0_world_rock_hard : HA f_h0_world_rock_hard) (h_f_h0_world_rock_water : WA f_h0_world_rock_water) (h_f_h0_world_term : TE f_h0_world_term) (h_h0_world_crew_count : 0 ≤ h0_world_crew_count.toInt ∧ h0_world_crew_count.toInt ≤ 6) (h_f_h0_world_crew_cell : CE f_h0_world_crew_cell) (h_f_h0_world_crew_buckets : BU f_h0_world_crew_buckets) (z_n_p0_code : p0_length.toInt ≤ (n_p0_code : Int)) {Q : Int32 → (Int32 × (Nat → Int64)) → Prop} (hq : ∀ (r : Int32) (u_0 : Int32) (u_1 : Nat → Int64), (0 ≤ r.toInt ∧ r.toInt ≤ 1) → Q r (u_0, u_1)) (Qb : Int32 → Int32 → Int32 → (Nat → Int64) → Prop) (KX : ∀ (x_14_0 : Int32) (x_14_1 : Int32) (x_14_2 : Int32) (x_14_3 : Nat → Int64), (0 ≤ x_14_0.toInt ∧ x_14_0.toInt ≤ 400) ∧ ((-1) ≤ x_14_2.toInt ∧ x_14_2.toInt ≤ 63) → Qb x_14_0 x_14_1 x_14_2 x_14_3) : ∀ (n : Nat) (x_14_0 : Int32) (x_14_1 : Int32) (x_14_2 : Int32) (x_14_3 : Nat → Int64), (0 ≤ x_14_0.toInt ∧ x_14_0.toInt ≤ 400) ∧ ((-1) ≤ x_14_2.toInt ∧ x_14_2.toInt ≤ 63) → 401 - x_14_0.toInt < (n : Int) → wl_X0_reckon_14 h0_cell h0_shaft h0_kind h0_done h0_latest h0_value p0_length n_p0_code f_p0_code h0_world_folk_listeners f_h0_world_folk_column f_h0_world_rock_hard f_h0_world_rock_water f_h0_world_term h0_world_crew_count f_h0_world_crew_cell f_h0_world_crew_buckets Q Qb n x_14_0 x_14_1 x_14_2 x_14_3 := by
  intro n
  induction n with
  | zero =>
    intro x_14_0 x_14_1 x_14_2 x_14_3 hI hm
    exfalso; have hm : 401 - x_14_0.toInt < 0 := hm; omega
  | succ n ih =>
    intro x_14_0 x_14_1 x_14_2 x_14_3 hI hm
    have hm : 401 - x_14_0.toInt < (n : Int) + 1 := by simpa using hm
    have h_x_14_0 := hI.1
    have h_x_14_2 := hI.2
    unfold wl_X0_reckon_14
    by_cases c1 : 400 ≤ x_14_0
    · refine br1 c1 ?_
      have d2 := le_z (x := 400) (y := (Int32.toInt x_14_0)) rfl rfl c1
      exact KX _ _ _ _ ⟨⟨by with_reducible omega, by with_reducible omega⟩, ⟨by with_reducible omega, by with_reducible omega⟩⟩
    · refine br0 c1 ?_
      have d3 := nle_z (x := 400) (y := (Int32.toInt x_14_0)) rfl rfl c1
      by_cases c4 : x_14_1 < 0
      · refine br1 c4 ?_
        have d5 := lt_z (x := (Int32.toInt x_14_1)) (y := 0) rfl rfl c4
        exact KX _ _ _ _ ⟨⟨by with_reducible omega, by with_reducible omega⟩, ⟨by with_reducible omega, by with_reducible omega⟩⟩
      · refine br0 c4 ?_
        have d6 := nlt_z (x := (Int32.toInt x_14_1)) (y := 0) rfl rfl c4
        by_cases c7 : p0_length ≤ x_14_1
        · refine br1 c7 ?_
          have d8 := le_z (x := (Int32.toInt p0_length)) (y := (Int32.toInt x_14_1)) rfl rfl c7
          exact KX _ _ _ _ ⟨⟨by with_reducible omega, by with_reducible omega⟩, ⟨by with_reducible omega, by with_reducible omega⟩⟩
        · refine br0 c7 ?_
          have d9 := nle_z (x := (Int32.toInt p0_length)) (y := (Int32.toInt x_14_1)) rfl rfl c7
          refine ⟨vpi (x := (Int32.toInt x_14_1)) rfl (by with_reducible omega) (by with_reducible omega), ?_⟩
          refine ⟨vpi (x := (Int32.toInt x_14_1)) rfl (by with_reducible omega) (by with_reducible omega), ?_⟩
          by_cases c10 : ((f_p0_code x_14_1.toNatClampNeg) &&& 63) = 0
          · refine br1 c10 ?_
            have g11 : 0 ≤ (Int32.toInt (f_p0_code x_14_1.toNatClampNeg)) ∧ (Int32.toInt (f_p0_code x_14_1.toNatClampNeg)) ≤ 65535 := CD.at_0 h_f_p0_code (tnz (x := (Int32.toInt x_14_1)) rfl (by with_reducible omega)) (by with_reducible omega) (by with_reducible omega)
            have t12 : 0 ≤ (Int32.toInt ((f_p0_code x_14_1.toNatClampNeg) &&& 63)) ∧ (Int32.toInt ((f_p0_code x_14_1.toNatClampNeg) &&& 63)) ≤ 63 := and_z (by decide)
            have d13 := eq_z (x := (Int32.toInt ((f_p0_code x_14_1.toNatClampNeg) &&& 63))) (y := 0) rfl rfl c10
            by_cases c14 : x_14_2 = 0
            · refine br1 c14 ?_
              have d15 := eq_z (x := (Int32.toInt x_14_2)) (y := 0) rfl rfl c14
              exact hq _ _ _ (by decide)
            · refine br0 c14 ?_
              have d16 := ne_z (x := (Int32.toInt x_14_2)) (y := 0) rfl rfl c14
              exact hq _ _ _ (by decide)
          · refine br0 c10 ?_
            have g17 : 0 ≤ (Int32.toInt (f_p0_code x_14_1.toNatClampNeg)) ∧ (Int32.toInt (f_p0_code x_14_1.toNatClampNeg)) ≤ 65535 := CD.at_0 h_f_p0_code (tnz (x := (Int32.toInt x_14_1)) rfl (by with_reducible omega)) (by with_reducible omega) (by with_reducible omega)
            have t18 : 0 ≤ (Int32.toInt ((f_p0_code x_14_1.toNatClampNeg) &&& 63)) ∧ (Int32.toInt ((f_p0_code x_14_1.toNatClampNeg) &&& 63)) ≤ 63 := and_z (by decide)
            have d19 := ne_z (x := (Int32.toInt ((f_p0_code x_14_1.toNatClampNeg) &&& 63))) (y := 0) rfl rfl c10
            refine jn_s ?_
            by_cases c20 : ((f_p0_code x_14_1.toNatClampNeg) &&& 63) = 1
            · refine br1 c20 ?_
              have d21 := eq_z (x := (Int32.toInt ((f_p0_code x_14_1.toNatClampNeg) &&& 63))) (y := 1) rfl rfl c20
              by_cases c22 : (x_14_2 + 1) < 64
              · refine br1 c22 ?_
                have t23 : (Int32.toInt (x_14_2 + 1)) = (Int32.toInt x_14_2) + 1 := add_z rfl rfl (by with_reducible omega) (by with_reducible omega)
                have d24 := lt_z (x := (Int32.toInt (x_14_2 + 1))) (y := 64) rfl rfl c22
                refine br1 (z_eq (x := (Int32.toInt ((f_p0_code x_14_1.toNatClampNeg) &&& 63))) (y := 1) rfl rfl (by with_reducible omega)) ?_
                refine ⟨vpi (x := (Int32.toInt (x_14_2 + 1))) rfl (by with_reducible omega) (by with_reducible omega), ?_⟩
                have t25 : (Int32.toInt (x_14_0 + 1)) = (Int32.toInt x_14_0) + 1 := add_z rfl rfl (by with_reducible omega) (by with_reducible omega)
                have t26 : (Int32.toInt (x_14_1 + 1)) = (Int32.toInt x_14_1) + 1 := add_z rfl rfl (by with_reducible omega) (by with_reducible omega)
                exact ih _ _ _ _ ⟨⟨by with_reducible omega, by with_reducible omega⟩, ⟨by with_reducible omega, by with_reducible omega⟩⟩ (by with_reducible omega)
              · refine br0 c22 ?_
                have t27 : (Int32.toInt (x_14_2 + 1)) = (Int32.toInt x_14_2) + 1 := add_z rfl rfl (by with_reducible omega) (by with_reducible omega)
                have d28 := nlt_z (x := (Int32.toInt (x_14_2 + 1))) (y := 64) rfl rfl c22
                exact hq _ _ _ (by decide)
            · refine br0 c20 ?_
              have d29 := ne_z (x := (Int32.toInt ((f_p0_code x_14_1.toNatClampNeg) &&& 63))) (y := 1) rfl rfl c20
              by_cases c30 : ((f_p0_code x_14_1.toNatClampNeg) &&& 63) < 13
              · refine br1 c30 ?_
                have d31 := lt_z (x := (Int32.toInt ((f_p0_code x_14_1.toNatClampNeg) &&& 63))) (y := 13) rfl rfl c30
                by_cases c32 : ((f_p0_code x_14_1.toNatClampNeg) &&& 63) < 10
                · refine br1 c32 ?_
                  have d33 := lt_z (x := (Int32.toInt ((f_p0_code x_14_1.toNatClampNeg) &&& 63))) (y := 10) rfl rfl c32
                  by_cases c34 : 1 ≤ x_14_2
                  · refine br1 c34 ?_
                    have d35 := le_z (x := 1) (y := (Int32.toInt x_14_2)) rfl rfl c34
                    have t36 : (Int32.toInt (x_14_2 + (-1))) = (Int32.toInt x_14_2) + (-1) := add_z rfl (by decide) (by with_reducible omega) (by with_reducible omega)
                    refine ⟨vpi (x := (Int32.toInt (x_14_2 + (-1)))) rfl (by with_reducible omega) (by with_reducible omega), ?_⟩
                    have t37 : (Int32.toInt ((x_14_2 + (-1)) + 1)) = (Int32.toInt (x_14_2 + (-1))) + 1 := add_z rfl rfl (by with_reducible omega) (by with_reducible omega)
                    refine ⟨vpi (x := (Int32.toInt ((x_14_2 + (-1)) + 1))) rfl (by with_reducible omega) (by with_reducible omega), ?_⟩
                    refine s_X0_joined ((f_p0_code x_14_1.toNatClampNeg) &&& 63) (x_14_3 (x_14_2 + (-1)).toNatClampNeg) (x_14_3 ((x_14_2 + (-1)) + 1).toNatClampNeg)  (fun r38 H39 => ?_)
                    refine ⟨vpi (x := (Int32.toInt (x_14_2 + (-1)))) rfl (by with_reducible omega) (by with_reducible omega), ?_⟩
                    refine ⟨vpi (x := (Int32.toInt (x_14_2 + (-1)))) rfl (by with_reducible omega) (by with_reducible omega), ?_⟩
                    by_cases c40 : 0 < (lg_cmp r38 1000000000)
                    · refine br1 c40 ?_
                      have d41 := c_gt (x := (Int64.toInt r38)) (y := 1000000000) rfl rfl c40
                      exact hq _ _ _ (by decide)
                    · refine br0 c40 ?_
                      have d42 := c_ngt (x := (Int64.toInt r38)) (y := 1000000000) rfl rfl c40
                      refine ⟨vpi (x := (Int32.toInt (x_14_2 + (-1)))) rfl (by with_reducible omega) (by with_reducible omega), ?_⟩
                      by_cases c43 : 0 ≤ (lg_cmp r38 (-1000000000))
                      · refine br1 c43 ?_
                        have d44 := c_ge (x := (Int64.toInt r38)) (y := (-1000000000)) rfl (by decide +kernel) c43
                        have t45 : (Int32.toInt (x_14_0 + 1)) = (Int32.toInt x_14_0) + 1 := add_z rfl rfl (by with_reducible omega) (by with_reducible omega)
                        have t46 : (Int32.toInt (x_14_1 + 1)) = (Int32.toInt x_14_1) + 1 := add_z rfl rfl (by with_reducible omega) (by with_reducible omega)
                        exact ih _ _ _ _ ⟨⟨by with_reducible omega, by with_reducible omega⟩, ⟨by with_reducible omega, by with_reducible omega⟩⟩ (by with_reducible omega)
                      · refine br0 c43 ?_
                        have d47 := c_nge (x := (Int64.toInt r38)) (y := (-1000000000)) rfl (by decide +kernel) c43
                        exact hq _ _ _ (by decide)
                  · refine br0 c34 ?_
                    have d48 := nle_z (x := 1) (y := (Int32.toInt x_14_2)) rfl rfl c34
                    exact hq _ _ _ (by decide)
                · refine br0 c32 ?_
                  have d49 := nlt_z (x := (Int32.toInt ((f_p0_code x_14_1.toNatClampNeg) &&& 63))) (y := 10) rfl rfl c32
                  by_cases c50 : 0 ≤ x_14_2
                  · refine br1 c50 ?_
                    have d51 := le_z (x := 0) (y := (Int32.toInt x_14_2)) rfl rfl c50
                    by_cases c52 : ((f_p0_code x_14_1.toNatClampNeg) &&& 63) = 10
                    · refine br1 c52 ?_
                      have d53 := eq_z (x := (Int32.toInt ((f_p0_code x_14_1.toNatClampNeg) &&& 63))) (y := 10) rfl rfl c52
                      refine ⟨vpi (x := (Int32.toInt x_14_2)) rfl (by with_reducible omega) (by with_reducible omega), ?_⟩
                      refine ⟨vpi (x := (Int32.toInt x_14_2)) rfl (by with_reducible omega) (by with_reducible omega), ?_⟩
                      have t54 : (Int32.toInt (x_14_0 + 1)) = (Int32.toInt x_14_0) + 1 := add_z rfl rfl (by with_reducible omega) (by with_reducible omega)
                      have t55 : (Int32.toInt (x_14_1 + 1)) = (Int32.toInt x_14_1) + 1 := add_z rfl rfl (by with_reducible omega) (by with_reducible omega)
                      exact ih _ _ _ _ ⟨⟨by with_reducible omega, by with_reducible omega⟩, ⟨by with_reducible omega, by with_reducible omega⟩⟩ (by with_reducible omega)
                    · refine br0 c52 ?_
                      have d56 := ne_z (x := (Int32.toInt ((f_p0_code x_14_1.toNatClampNeg) &&& 63))) (y := 10) rfl rfl c52
                      refine ⟨vpi (x := (Int32.toInt x_14_2)) rfl (by with_reducible omega) (by with_reducible omega), ?_⟩
                      refine jn_s ?_
                      by_cases c57 : ((f_p0_code x_14_1.toNatClampNeg) &&& 63) = 12
                      · refine br1 c57 ?_
                        have d58 := eq_z (x := (Int32.toInt ((f_p0_code x_14_1.toNatClampNeg) &&& 63))) (y := 12) rfl rfl c57
                        by_cases c59 : (lg_cmp (x_14_3 x_14_2.toNatClampNeg) ((1 : Int32).toInt64 : Int64)) = 0
                        · refine br1 c59 ?_
                          have d60 := c_eq (x := (Int64.toInt (x_14_3 x_14_2.toNatClampNeg))) (y := 1) rfl rfl c59
                          have t61 : (Int32.toInt (x_14_0 + 1)) = (Int32.toInt x_14_0) + 1 := add_z rfl rfl (by with_reducible omega) (by with_reducible omega)
                          have t62 : (Int32.toInt ((f_p0_code x_14_1.toNatClampNeg) >>> ((6 : Int32) &&& 31))) = (Int32.toInt (f_p0_code x_14_1.toNatClampNeg)) / 64 := sr6_z
                          exact ih _ _ _ _ ⟨⟨by with_reducible omega, by with_reducible omega⟩, ⟨by with_reducible omega, by with_reducible omega⟩⟩ (by with_reducible omega)
                        · refine br0 c59 ?_
                          have d63 := c_ne (x := (Int64.toInt (x_14_3 x_14_2.toNatClampNeg))) (y := 1) rfl rfl c59
                          have t64 : (Int32.toInt (x_14_0 + 1)) = (Int32.toInt x_14_0) + 1 := add_z rfl rfl (by with_reducible omega) (by with_reducible omega)
                          have t65 : (Int32.toInt (x_14_1 + 1)) = (Int32.toInt x_14_1) + 1 := add_z rfl rfl (by with_reducible omega) (by with_reducible omega)
                          have t66 : (Int32.toInt (x_14_2 + (-1))) = (Int32.toInt x_14_2) + (-1) := add_z rfl (by decide) (by with_reducible omega) (by with_reducible omega)
                          exact ih _ _ _ _ ⟨⟨by with_reducible omega, by with_reducible omega⟩, ⟨by with_reducible omega, by with_reducible omega⟩⟩ (by with_reducible omega)
                      · refine br0 c57 ?_
                        have d67 := ne_z (x := (Int32.toInt ((f_p0_code x_14_1.toNatClampNeg) &&& 63))) (y := 12) rfl rfl c57
                        by_cases c68 : (lg_cmp (x_14_3 x_14_2.toNatClampNeg) ((0 : Int32).toInt64 : Int64)) = 0
                        · refine br1 c68 ?_
                          have d69 := c_eq (x := (Int64.toInt (x_14_3 x_14_2.toNatClampNeg))) (y := 0) rfl rfl c68
                          have t70 : (Int32.toInt (x_14_0 + 1)) = (Int32.toInt x_14_0) + 1 := add_z rfl rfl (by with_reducible omega) (by with_reducible omega)
                          have t71 : (Int32.toInt ((f_p0_code x_14_1.toNatClampNeg) >>> ((6 : Int32) &&& 31))) = (Int32.toInt (f_p0_code x_14_1.toNatClampNeg)) / 64 := sr6_z
                          exact ih _ _ _ _ ⟨⟨by with_reducible omega, by with_reducible omega⟩, ⟨by with_reducible omega, by with_reducible omega⟩⟩ (by with_reducible omega)
                        · refine br0 c68 ?_
                          have d72 := c_ne (x := (Int64.toInt (x_14_3 x_14_2.toNatClampNeg))) (y := 0) rfl rfl c68
                          have t73 : (Int32.toInt (x_14_0 + 1)) = (Int32.toInt x_14_0) + 1 := add_z rfl rfl (by with_reducible omega) (by with_reducible omega)
                          have t74 : (Int32.toInt (x_14_1 + 1)) = (Int32.toInt x_14_1) + 1 := add_z rfl rfl (by with_reducible omega) (by with_reducible omega)
                          have t75 : (Int32.toInt (x_14_2 + (-1))) = (Int32.toInt x_14_2) + (-1) := add_z rfl (by decide) (by with_reducible omega) (by with_reducible omega)
                          exact ih _ _ _ _ ⟨⟨by with_reducible omega, by with_reducible omega⟩, ⟨by with_reducible omega, by with_reducible omega⟩⟩ (by with_reducible omega)
                  · refine br0 c50 ?_
                    have d76 := nle_z (x := 0) (y := (Int32.toInt x_14_2)) rfl rfl c50
                    exact hq _ _ _ (by decide)
              · refine br0 c30 ?_
                have d77 := nlt_z (x := (Int32.toInt ((f_p0_code x_14_1.toNatClampNeg) &&& 63))) (y := 13) rfl rfl c30
                by_cases c78 : (x_14_2 + 1) < 64
                · refine br1 c78 ?_
                  have t79 : (Int32.toInt (x_14_2 + 1)) = (Int32.toInt x_14_2) + 1 := add_z rfl rfl (by with_reducible omega) (by with_reducible omega)
                  have d80 := lt_z (x := (Int32.toInt (x_14_2 + 1))) (y := 64) rfl rfl c78
                  refine br0 (z_ne (x := (Int32.toInt ((f_p0_code x_14_1.toNatClampNeg) &&& 63))) (y := 1) rfl rfl (by with_reducible omega)) ?_
                  have t81 : (Int32.toInt ((f_p0_code x_14_1.toNatClampNeg) >>> ((6 : Int32) &&& 31))) = (Int32.toInt (f_p0_code x_14_1.toNatClampNeg)) / 64 := sr6_z
                  refine s_X0_wordValue ((f_p0_code x_14_1.toNatClampNeg) &&& 63) ((f_p0_code x_14_1.toNatClampNeg) >>> ((6 : Int32) &&& 31)) h0_cell h0_shaft h0_kind h0_done h0_latest h0_world_folk_listeners (f_h0_world_folk_column) (f_h0_world_rock_hard) (f_h0_world_rock_water) (f_h0_world_term) h0_world_crew_count (f_h0_world_crew_cell) (f_h0_world_crew_buckets) ⟨by with_reducible omega, by with_reducible omega⟩ ⟨by with_reducible omega, by with_reducible omega⟩ ⟨by with_reducible omega, by with_reducible omega⟩ h_f_h0_world_folk_column h_f_h0_world_rock_hard h_f_h0_world_rock_water h_f_h0_world_term ⟨by with_reducible omega, by with_reducible omega⟩ h_f_h0_world_crew_cell h_f_h0_world_crew_buckets (fun r82 H83 => ?_)
                  refine ⟨vpi (x := (Int32.toInt (x_14_2 + 1))) rfl (by with_reducible omega) (by with_reducible omega), ?_⟩
                  have t84 : (Int32.toInt (x_14_0 + 1)) = (Int32.toInt x_14_0) + 1 := add_z rfl rfl (by with_reducible omega) (by with_reducible omega)
                  have t85 : (Int32.toInt (x_14_1 + 1)) = (Int32.toInt x_14_1) + 1 := add_z rfl rfl (by with_reducible omega) (by with_reducible omega)
                  exact ih _ _ _ _ ⟨⟨by with_reducible omega, by with_reducible omega⟩, ⟨by with_reducible omega, by with_reducible omega⟩⟩ (by with_reducible omega)
                · refine br0 c78 ?_
                  have t86 : (Int32.toInt (x_14_2 + 1)) = (Int32.toInt x_14_2) + 1 := add_z rfl rfl (by with_reducible omega) (by with_reducible omega)
                  have d87 := nlt_z (x := (Int32.toInt (x_14_2 + 1))) (y := 64) rfl rfl c78
                  exact hq _ _ _ (by decide)
set_option maxRecDepth 100000 in
theorem s_X0_reckon (b : Int32) (h0_cell : Int32) (h0_shaft : Int32) (h0_kind : Int32) (h0_done : Int32) (h0_latest : Int32) (h0_value : Int32) (p0_length : Int32) (n_p0_code : Nat) (f_p0_code : Nat → Int32) (f_h0_stack : Nat → Int64) (h0_world_folk_listeners : Int32) (f_h0_world_folk_column : Nat → Int32) (f_h0_world_rock_hard : Nat → Int32) (f_h0_world_rock_water : Nat → Int32) (f_h0_world_term : Nat → Int32) (h0_world_crew_count : Int32) (f_h0_world_crew_cell : Nat → Int32) (f_h0_world_crew_buckets : Nat → Int32) (h_h0_cell : 0 ≤ h0_cell.toInt ∧ h0_cell.toInt ≤ 39) (h_p0_length : 0 ≤ p0_length.toInt ∧ p0_length.toInt ≤ 400) (h_f_p0_code : CD f_p0_code) (h_h0_world_folk_listeners : 0 ≤ h0_world_folk_listeners.toInt ∧ h0_world_folk_listeners.toInt ≤ 5) (h_f_h0_world_folk_column : CO f_h0_world_folk_column) (h_f_h0_world_rock_hard : HA f_h0_world_rock_hard) (h_f_h0_world_rock_water : WA f_h0_world_rock_water) (h_f_h0_world_term : TE f_h0_world_term) (h_h0_world_crew_count : 0 ≤ h0_world_crew_count.toInt ∧ h0_world_crew_count.toInt ≤ 6) (h_f_h0_world_crew_cell : CE f_h0_world_crew_cell) (h_f_h0_world_crew_buckets : BU f_h0_world_crew_buckets) (e_0 : p0_length.toInt ≤ (n_p0_code : Int)) {Q : Int32 → (Int32 × (Nat → Int64)) → Prop} (hq : ∀ (r : Int32) (u_0 : Int32) (u_1 : Nat → Int64), (0 ≤ r.toInt ∧ r.toInt ≤ 1) → Q r (u_0, u_1)) : wp_X0_reckon b h0_cell h0_shaft h0_kind h0_done h0_latest h0_value p0_length n_p0_code f_p0_code f_h0_stack h0_world_folk_listeners f_h0_world_folk_column f_h0_world_rock_hard f_h0_world_rock_water f_h0_world_term h0_world_crew_count f_h0_world_crew_cell f_h0_world_crew_buckets Q := by
  unfold wp_X0_reckon
  have k3 : Int32.toInt 0 = 0 := rfl
  have k4 : Int32.toInt (-1) = (-1) := (by decide)
  refine sl_X0_reckon_14 h0_cell h0_shaft h0_kind h0_done h0_latest h0_value p0_length n_p0_code (f_p0_code) h0_world_folk_listeners (f_h0_world_folk_column) (f_h0_world_rock_hard) (f_h0_world_rock_water) (f_h0_world_term) h0_world_crew_count (f_h0_world_crew_cell) (f_h0_world_crew_buckets) ⟨by with_reducible omega, by with_reducible omega⟩ ⟨by with_reducible omega, by with_reducible omega⟩ h_f_p0_code ⟨by with_reducible omega, by with_reducible omega⟩ h_f_h0_world_folk_column h_f_h0_world_rock_hard h_f_h0_world_rock_water h_f_h0_world_term ⟨by with_reducible omega, by with_reducible omega⟩ h_f_h0_world_crew_cell h_f_h0_world_crew_buckets (by with_reducible omega) hq _ (fun x1_0 x1_1 x1_2 x1_3 X2 => ?_) 1000000000000 0 b (-1) (f_h0_stack) ⟨(by decide), (by decide)⟩ (by with_reducible omega)
  have j5 := X2.1
  have j6 := X2.2
  exact hq _ _ _ (by decide)


