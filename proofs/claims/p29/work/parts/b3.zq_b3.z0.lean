theorem bndz_a {α : Type} {e : α} {k : α → Prop} (h : ∀ z, k z) : bndz e k := h e
set_option maxRecDepth 100000 in
theorem sl_X7_runSeasons_N_22 (b : Int32) (h0_world : Nat) (h0_world_lawCount : Int32) (h0_world_force : Int32) (h0_world_crew_count : Int32) (f_h0_world_rock_kind : Nat → Int32) (f_h0_world_laws : Nat → Option Nat) (f_h0_world_rock_hard : Nat → Int32) (h_b : 1 ≤ b.toInt ∧ b.toInt ≤ 60) (h_h0_world_lawCount : 0 ≤ h0_world_lawCount.toInt ∧ h0_world_lawCount.toInt ≤ 6) (h_h0_world_force : (-1) ≤ h0_world_force.toInt ∧ h0_world_force.toInt ≤ (-1)) (h_h0_world_crew_count : 1 ≤ h0_world_crew_count.toInt ∧ h0_world_crew_count.toInt ≤ 6) (h_f_h0_world_rock_kind : KI f_h0_world_rock_kind) (h_f_h0_world_rock_hard : HA f_h0_world_rock_hard) (Qb : Int32 → Int32 → (Nat → Int32) → (Nat → Int32) → Int64 → Value → Value → Int32 → Int32 → Int32 → (Nat → Int32) → (Nat → Int32) → Int32 → Int32 → (Nat → Int32) → (Nat → Int32) → (Nat → Int32) → (Nat → Int32) → (Nat → Int32) → Prop) (KX : ∀ (x_22_0 : Int32) (x_22_1 : Int32) (x_22_2 : Nat → Int32) (x_22_3 : Nat → Int32) (x_22_4 : Int64) (x_22_5 : Value) (x_22_6 : Value) (x_22_7 : Int32) (x_22_8 : Int32) (x_22_9 : Int32) (x_22_10 : Nat → Int32) (x_22_11 : Nat → Int32) (x_22_12 : Int32) (x_22_13 : Int32) (x_22_14 : Nat → Int32) (x_22_15 : Nat → Int32) (x_22_16 : Nat → Int32) (x_22_17 : Nat → Int32) (x_22_18 : Nat → Int32), (1 ≤ x_22_0.toInt ∧ x_22_0.toInt ≤ 60) ∧ (CE x_22_2) ∧ (TE x_22_3) ∧ (0 ≤ x_22_7.toInt ∧ x_22_7.toInt ≤ 39) ∧ (WA x_22_10) ∧ (BU x_22_11) ∧ (0 ≤ x_22_12.toInt ∧ x_22_12.toInt ≤ 16) ∧ (0 ≤ x_22_13.toInt ∧ x_22_13.toInt ≤ 15) ∧ (DI x_22_14 x_22_15 x_22_16 x_22_17 x_22_18) → Qb x_22_0 x_22_1 x_22_2 x_22_3 x_22_4 x_22_5 x_22_6 x_22_7 x_22_8 x_22_9 x_22_10 x_22_11 x_22_12 x_22_13 x_22_14 x_22_15 x_22_16 x_22_17 x_22_18) : ∀ (n : Nat) (x_22_0 : Int32) (x_22_1 : Int32) (x_22_2 : Nat → Int32) (x_22_3 : Nat → Int32) (x_22_4 : Int64) (x_22_5 : Value) (x_22_6 : Value) (x_22_7 : Int32) (x_22_8 : Int32) (x_22_9 : Int32) (x_22_10 : Nat → Int32) (x_22_11 : Nat → Int32) (x_22_12 : Int32) (x_22_13 : Int32) (x_22_14 : Nat → Int32) (x_22_15 : Nat → Int32) (x_22_16 : Nat → Int32) (x_22_17 : Nat → Int32) (x_22_18 : Nat → Int32), (0 ≤ x_22_0.toInt ∧ x_22_0.toInt ≤ 60) ∧ (CE x_22_2) ∧ (TE x_22_3) ∧ (0 ≤ x_22_7.toInt ∧ x_22_7.toInt ≤ 39) ∧ (WA x_22_10) ∧ (BU x_22_11) ∧ (0 ≤ x_22_12.toInt ∧ x_22_12.toInt ≤ 16) ∧ (0 ≤ x_22_13.toInt ∧ x_22_13.toInt ≤ 15) ∧ (DI x_22_14 x_22_15 x_22_16 x_22_17 x_22_18) → 61 - x_22_0.toInt < (n : Int) → wl_X7_runSeasons_N_22 b h0_world h0_world_lawCount h0_world_force h0_world_crew_count f_h0_world_rock_kind f_h0_world_laws f_h0_world_rock_hard Qb n x_22_0 x_22_1 x_22_2 x_22_3 x_22_4 x_22_5 x_22_6 x_22_7 x_22_8 x_22_9 x_22_10 x_22_11 x_22_12 x_22_13 x_22_14 x_22_15 x_22_16 x_22_17 x_22_18 := by
  intro n
  induction n with
  | zero =>
    intro x_22_0 x_22_1 x_22_2 x_22_3 x_22_4 x_22_5 x_22_6 x_22_7 x_22_8 x_22_9 x_22_10 x_22_11 x_22_12 x_22_13 x_22_14 x_22_15 x_22_16 x_22_17 x_22_18 hI hm
    exfalso; have hm : 61 - x_22_0.toInt < 0 := hm; omega
  | succ n ih =>
    intro x_22_0 x_22_1 x_22_2 x_22_3 x_22_4 x_22_5 x_22_6 x_22_7 x_22_8 x_22_9 x_22_10 x_22_11 x_22_12 x_22_13 x_22_14 x_22_15 x_22_16 x_22_17 x_22_18 hI hm
    have hm : 61 - x_22_0.toInt < (n : Int) + 1 := by simpa using hm
    have h_x_22_0 := hI.1
    have h_x_22_2 := hI.2.1
    have h_x_22_3 := hI.2.2.1
    have h_x_22_7 := hI.2.2.2.1
    have h_x_22_10 := hI.2.2.2.2.1
    have h_x_22_11 := hI.2.2.2.2.2.1
    have h_x_22_12 := hI.2.2.2.2.2.2.1
    have h_x_22_13 := hI.2.2.2.2.2.2.2.1
    have h_rel0 := hI.2.2.2.2.2.2.2.2
    unfold wl_X7_runSeasons_N_22
    by_cases c4 : b ≤ x_22_0
    · refine br1 c4 ?_
      have d5 := le_z (a := b) (b := x_22_0) (x := (Int32.toInt b)) (y := (Int32.toInt x_22_0)) rfl rfl c4
      exact KX _ _ _ _ _ _ _ _ _ _ _ _ _ _ _ _ _ _ _ ⟨⟨by omega, by omega⟩, h_x_22_2, h_x_22_3, ⟨by omega, by omega⟩, h_x_22_10, h_x_22_11, ⟨by omega, by omega⟩, ⟨by omega, by omega⟩, h_rel0⟩
    · refine br0 c4 ?_
      have d6 := nle_z (a := b) (b := x_22_0) (x := (Int32.toInt b)) (y := (Int32.toInt x_22_0)) rfl rfl c4
      refine bndz_a (fun zb7 => ?_)
      refine ⟨z_ne (x := (Int32.toInt h0_world_crew_count)) (y := 0) rfl rfl (by omega), ?_⟩
      refine bndz_a (fun zb8 => ?_)
      refine bndz_a (fun zb9 => ?_)
      refine bndz_a (fun zb10 => ?_)
      refine s_X7_tryHaul_N zb8 h0_world h0_world_lawCount h0_world_force h0_world_crew_count (x_22_2) (x_22_3) (f_h0_world_rock_kind) (f_h0_world_laws) x_22_5 x_22_6 x_22_7 x_22_8 x_22_9 (x_22_10) (x_22_11) x_22_12 x_22_13 (x_22_14) (x_22_15) (x_22_16) (x_22_17) (x_22_18) ⟨by omega, by omega⟩ ⟨by omega, by omega⟩ ⟨by omega, by omega⟩ h_x_22_2 h_x_22_3 h_f_h0_world_rock_kind ⟨by omega, by omega⟩ h_x_22_10 h_x_22_11 ⟨by omega, by omega⟩ ⟨by omega, by omega⟩ h_rel0 (fun r11 u12_0 u12_1 u12_2 u12_3 u12_4 u12_5 u12_6 u12_7 u12_8 u12_9 u12_10 u12_11 u12_12 u12_13 u12_14 H13 => ?_)
      have j14 := H13.1
      have j15 := H13.2.1
      have j16 := H13.2.2.1
      have j17 := H13.2.2.2.1
      have j18 := H13.2.2.2.2.1
      have j19 := H13.2.2.2.2.2.1
      have j20 := H13.2.2.2.2.2.2.1
      have j21 := H13.2.2.2.2.2.2.2
      refine un15_i ?_
      by_cases c22 : 0 ≤ r11
      · refine br1 c22 ?_
        have d23 := le_z (a := 0) (b := r11) (x := 0) (y := (Int32.toInt r11)) rfl rfl c22
        have t24 : (Int32.toInt (x_22_0 + 1)) = (Int32.toInt x_22_0) + 1 := add_z rfl rfl (by omega) (by omega)
        exact ih _ _ _ _ _ _ _ _ _ _ _ _ _ _ _ _ _ _ _ ⟨⟨by omega, by omega⟩, h_x_22_2, j15, ⟨by omega, by omega⟩, j17, j18, ⟨by omega, by omega⟩, ⟨by omega, by omega⟩, j21⟩ (by omega)
      · refine br0 c22 ?_
        have d25 := nle_z (a := 0) (b := r11) (x := 0) (y := (Int32.toInt r11)) rfl rfl c22
        refine s_X7_tryDig_N zb8 zb10 h0_world h0_world_lawCount h0_world_force h0_world_crew_count (x_22_2) x_22_4 (f_h0_world_rock_kind) (f_h0_world_laws) u12_1 u12_2 u12_3 u12_4 u12_5 (u12_0) (f_h0_world_rock_hard) u12_8 u12_9 (u12_10) (u12_11) (u12_12) (u12_13) (u12_14) ⟨by omega, by omega⟩ ⟨by omega, by omega⟩ ⟨by omega, by omega⟩ h_x_22_2 h_f_h0_world_rock_kind ⟨by omega, by omega⟩ j15 h_f_h0_world_rock_hard ⟨by omega, by omega⟩ ⟨by omega, by omega⟩ j21 (fun r26 u27_0 u27_1 u27_2 u27_3 u27_4 u27_5 u27_6 u27_7 u27_8 u27_9 u27_10 u27_11 u27_12 u27_13 u27_14 H28 => ?_)
        have j29 := H28.1
        have j30 := H28.2.1
        have j31 := H28.2.2.1
        have j32 := H28.2.2.2.1
        have j33 := H28.2.2.2.2.1
        have j34 := H28.2.2.2.2.2.1
        have j35 := H28.2.2.2.2.2.2
        refine un15_i ?_
        by_cases c36 : r26 < 0
        · refine br1 c36 ?_
          have d37 := lt_z (a := r26) (b := 0) (x := (Int32.toInt r26)) (y := 0) rfl rfl c36
          by_cases c38 : 9999 ≤ (u27_7 (0 : Int32).toNatClampNeg)
          · refine br1 c38 ?_
            have g39 : 0 ≤ (Int32.toInt (u27_7 (0 : Int32).toNatClampNeg)) ∧ (Int32.toInt (u27_7 (0 : Int32).toNatClampNeg)) ≤ 9999 := TE.at_0 j32 (rfl : ((0 : Nat) : Int) = 0) (by omega) (by omega)
            have d40 := le_z (a := 9999) (b := (u27_7 (0 : Int32).toNatClampNeg)) (x := 9999) (y := (Int32.toInt (u27_7 (0 : Int32).toNatClampNeg))) rfl rfl c38
            have t41 : (Int32.toInt (x_22_0 + 1)) = (Int32.toInt x_22_0) + 1 := add_z rfl rfl (by omega) (by omega)
            exact ih _ _ _ _ _ _ _ _ _ _ _ _ _ _ _ _ _ _ _ ⟨⟨by omega, by omega⟩, j30, j32, ⟨by omega, by omega⟩, j17, j18, ⟨by omega, by omega⟩, ⟨by omega, by omega⟩, j35⟩ (by omega)
          · refine br0 c38 ?_
            have g42 : 0 ≤ (Int32.toInt (u27_7 (0 : Int32).toNatClampNeg)) ∧ (Int32.toInt (u27_7 (0 : Int32).toNatClampNeg)) ≤ 9999 := TE.at_0 j32 (rfl : ((0 : Nat) : Int) = 0) (by omega) (by omega)
            have d43 := nle_z (a := 9999) (b := (u27_7 (0 : Int32).toNatClampNeg)) (x := 9999) (y := (Int32.toInt (u27_7 (0 : Int32).toNatClampNeg))) rfl rfl c38
            have t44 : (Int32.toInt (x_22_0 + 1)) = (Int32.toInt x_22_0) + 1 := add_z rfl rfl (by omega) (by omega)
            have t45 : (Int32.toInt ((u27_7 (0 : Int32).toNatClampNeg) + 1)) = (Int32.toInt (u27_7 (0 : Int32).toNatClampNeg)) + 1 := add_z rfl rfl (by omega) (by omega)
            have R46 : TE (upd u27_7 0 ((u27_7 (0 : Int32).toNatClampNeg) + 1)) := TE.up_0 j32 (rfl : ((0 : Nat) : Int) = 0) (by omega) (by omega) (w := (Int32.toInt ((u27_7 (0 : Int32).toNatClampNeg) + 1))) rfl (by omega) (by omega)
            exact ih _ _ _ _ _ _ _ _ _ _ _ _ _ _ _ _ _ _ _ ⟨⟨by omega, by omega⟩, j30, R46, ⟨by omega, by omega⟩, j17, j18, ⟨by omega, by omega⟩, ⟨by omega, by omega⟩, j35⟩ (by omega)
        · refine br0 c36 ?_
          have d47 := nlt_z (a := r26) (b := 0) (x := (Int32.toInt r26)) (y := 0) rfl rfl c36
          have t48 : (Int32.toInt (x_22_0 + 1)) = (Int32.toInt x_22_0) + 1 := add_z rfl rfl (by omega) (by omega)
          exact ih _ _ _ _ _ _ _ _ _ _ _ _ _ _ _ _ _ _ _ ⟨⟨by omega, by omega⟩, j30, j32, ⟨by omega, by omega⟩, j17, j18, ⟨by omega, by omega⟩, ⟨by omega, by omega⟩, j35⟩ (by omega)
set_option maxRecDepth 100000 in
theorem s_X7_runSeasons_N (a : Int32) (b : Int32) (h0_world : Nat) (h0_world_lawCount : Int32) (h0_world_force : Int32) (h0_world_crew_count : Int32) (f_h0_world_crew_cell : Nat → Int32) (f_h0_world_term : Nat → Int32) (h0_world_rock_dug : Int64) (f_h0_world_rock_kind : Nat → Int32) (f_h0_world_laws : Nat → Option Nat) (h0_asker_world : Value) (h0_asker_law : Value) (h0_asker_cell : Int32) (h0_asker_shaft : Int32) (h0_asker_kind : Int32) (f_h0_world_rock_water : Nat → Int32) (f_h0_world_crew_buckets : Nat → Int32) (h0_diary_kept : Int32) (h0_diary_latest : Int32) (f_h0_diary_deed : Nat → Int32) (f_h0_diary_whose : Nat → Int32) (f_h0_diary_before : Nat → Int32) (f_h0_diary_bucketsBefore : Nat → Int32) (f_h0_diary_dayBefore : Nat → Int32) (f_h0_world_rock_hard : Nat → Int32) (h_a : 0 ≤ a.toInt ∧ a.toInt ≤ 1000000) (h_b : 1 ≤ b.toInt ∧ b.toInt ≤ 60) (h_h0_world_lawCount : 0 ≤ h0_world_lawCount.toInt ∧ h0_world_lawCount.toInt ≤ 6) (h_h0_world_force : (-1) ≤ h0_world_force.toInt ∧ h0_world_force.toInt ≤ (-1)) (h_h0_world_crew_count : 0 ≤ h0_world_crew_count.toInt ∧ h0_world_crew_count.toInt ≤ 6) (h_f_h0_world_crew_cell : CE f_h0_world_crew_cell) (h_f_h0_world_term : TE f_h0_world_term) (h_f_h0_world_rock_kind : KI f_h0_world_rock_kind) (h_h0_asker_cell : 0 ≤ h0_asker_cell.toInt ∧ h0_asker_cell.toInt ≤ 39) (h_f_h0_world_rock_water : WA f_h0_world_rock_water) (h_f_h0_world_crew_buckets : BU f_h0_world_crew_buckets) (h_h0_diary_kept : 0 ≤ h0_diary_kept.toInt ∧ h0_diary_kept.toInt ≤ 16) (h_h0_diary_latest : 0 ≤ h0_diary_latest.toInt ∧ h0_diary_latest.toInt ≤ 15) (h_f_h0_world_rock_hard : HA f_h0_world_rock_hard) (e_0 : DI f_h0_diary_deed f_h0_diary_whose f_h0_diary_before f_h0_diary_bucketsBefore f_h0_diary_dayBefore) {Q : ((Nat → Int32) × (Nat → Int32) × Int64 × Value × Value × Int32 × Int32 × Int32 × (Nat → Int32) × (Nat → Int32) × Int32 × Int32 × (Nat → Int32) × (Nat → Int32) × (Nat → Int32) × (Nat → Int32) × (Nat → Int32)) → Prop} (hq : ∀ (u_0 : Nat → Int32) (u_1 : Nat → Int32) (u_2 : Int64) (u_3 : Value) (u_4 : Value) (u_5 : Int32) (u_6 : Int32) (u_7 : Int32) (u_8 : Nat → Int32) (u_9 : Nat → Int32) (u_10 : Int32) (u_11 : Int32) (u_12 : Nat → Int32) (u_13 : Nat → Int32) (u_14 : Nat → Int32) (u_15 : Nat → Int32) (u_16 : Nat → Int32), (CE u_0) ∧ (TE u_1) ∧ (0 ≤ u_5.toInt ∧ u_5.toInt ≤ 39) ∧ (WA u_8) ∧ (BU u_9) ∧ (0 ≤ u_10.toInt ∧ u_10.toInt ≤ 16) ∧ (0 ≤ u_11.toInt ∧ u_11.toInt ≤ 15) ∧ (DI u_12 u_13 u_14 u_15 u_16) → Q (u_0, u_1, u_2, u_3, u_4, u_5, u_6, u_7, u_8, u_9, u_10, u_11, u_12, u_13, u_14, u_15, u_16)) : wp_X7_runSeasons_N a b h0_world h0_world_lawCount h0_world_force h0_world_crew_count f_h0_world_crew_cell f_h0_world_term h0_world_rock_dug f_h0_world_rock_kind f_h0_world_laws h0_asker_world h0_asker_law h0_asker_cell h0_asker_shaft h0_asker_kind f_h0_world_rock_water f_h0_world_crew_buckets h0_diary_kept h0_diary_latest f_h0_diary_deed f_h0_diary_whose f_h0_diary_before f_h0_diary_bucketsBefore f_h0_diary_dayBefore f_h0_world_rock_hard Q := by
  unfold wp_X7_runSeasons_N
  by_cases c1 : h0_world_crew_count = 0
  · refine br1 c1 ?_
    have d2 := eq_z (a := h0_world_crew_count) (b := 0) (x := (Int32.toInt h0_world_crew_count)) (y := 0) rfl rfl c1
    exact hq _ _ _ _ _ _ _ _ _ _ _ _ _ _ _ _ _ ⟨h_f_h0_world_crew_cell, h_f_h0_world_term, ⟨by omega, by omega⟩, h_f_h0_world_rock_water, h_f_h0_world_crew_buckets, ⟨by omega, by omega⟩, ⟨by omega, by omega⟩, e_0⟩
  · refine br0 c1 ?_
    have d3 := ne_z (a := h0_world_crew_count) (b := 0) (x := (Int32.toInt h0_world_crew_count)) (y := 0) rfl rfl c1
    have k6 : Int32.toInt 0 = 0 := rfl
    refine sl_X7_runSeasons_N_22 b h0_world h0_world_lawCount h0_world_force h0_world_crew_count (f_h0_world_rock_kind) f_h0_world_laws (f_h0_world_rock_hard) ⟨by omega, by omega⟩ ⟨by omega, by omega⟩ ⟨by omega, by omega⟩ ⟨by omega, by omega⟩ h_f_h0_world_rock_kind h_f_h0_world_rock_hard _ (fun x4_0 x4_1 x4_2 x4_3 x4_4 x4_5 x4_6 x4_7 x4_8 x4_9 x4_10 x4_11 x4_12 x4_13 x4_14 x4_15 x4_16 x4_17 x4_18 X5 => ?_) 1000000000000 0 a (f_h0_world_crew_cell) (f_h0_world_term) h0_world_rock_dug h0_asker_world h0_asker_law h0_asker_cell h0_asker_shaft h0_asker_kind (f_h0_world_rock_water) (f_h0_world_crew_buckets) h0_diary_kept h0_diary_latest (f_h0_diary_deed) (f_h0_diary_whose) (f_h0_diary_before) (f_h0_diary_bucketsBefore) (f_h0_diary_dayBefore) ⟨(by decide), h_f_h0_world_crew_cell, h_f_h0_world_term, ⟨by omega, by omega⟩, h_f_h0_world_rock_water, h_f_h0_world_crew_buckets, ⟨by omega, by omega⟩, ⟨by omega, by omega⟩, e_0⟩ (by omega)
    have j7 := X5.1
    have j8 := X5.2.1
    have j9 := X5.2.2.1
    have j10 := X5.2.2.2.1
    have j11 := X5.2.2.2.2.1
    have j12 := X5.2.2.2.2.2.1
    have j13 := X5.2.2.2.2.2.2.1
    have j14 := X5.2.2.2.2.2.2.2.1
    have j15 := X5.2.2.2.2.2.2.2.2
    exact hq _ _ _ _ _ _ _ _ _ _ _ _ _ _ _ _ _ ⟨j8, j9, ⟨by omega, by omega⟩, j11, j12, ⟨by omega, by omega⟩, ⟨by omega, by omega⟩, j15⟩
set_option maxRecDepth 100000 in
theorem sl_X7_runSeasons_T_22 (b : Int32) (h0_world : Nat) (h0_world_lawCount : Int32) (h0_world_force : Int32) (h0_world_crew_count : Int32) (f_h0_world_rock_kind : Nat → Int32) (f_h0_world_laws : Nat → Option Nat) (h0_asker_done : Int32) (h0_asker_latest : Int32) (t : Nat) (t_clauses : Int32) (t_length : Int32) (n_t_heads : Nat) (f_t_heads : Nat → Int32) (n_t_code : Nat) (f_t_code : Nat → Int32) (h0_world_folk_listeners : Int32) (f_h0_world_folk_column : Nat → Int32) (f_h0_world_rock_hard : Nat → Int32) (h_b : 1 ≤ b.toInt ∧ b.toInt ≤ 60) (h_h0_world_lawCount : 0 ≤ h0_world_lawCount.toInt ∧ h0_world_lawCount.toInt ≤ 6) (h_h0_world_force : 0 ≤ h0_world_force.toInt ∧ h0_world_force.toInt ≤ 5) (h_h0_world_crew_count : 1 ≤ h0_world_crew_count.toInt ∧ h0_world_crew_count.toInt ≤ 6) (h_f_h0_world_rock_kind : KI f_h0_world_rock_kind) (h_t_clauses : 0 ≤ t_clauses.toInt ∧ t_clauses.toInt ≤ 12) (h_t_length : 0 ≤ t_length.toInt ∧ t_length.toInt ≤ 400) (h_f_t_code : CD f_t_code) (h_h0_world_folk_listeners : 0 ≤ h0_world_folk_listeners.toInt ∧ h0_world_folk_listeners.toInt ≤ 5) (h_f_h0_world_folk_column : CO f_h0_world_folk_column) (h_f_h0_world_rock_hard : HA f_h0_world_rock_hard) (zlaw : f_h0_world_laws (Int32.toNatClampNeg h0_world_force) = some t) (zfo : h0_world_force.toInt < h0_world_lawCount.toInt) (z_n_t_heads : n_t_heads < 100000) (z_n_t_code : t_length.toInt ≤ (n_t_code : Int)) (Qb : Int32 → Int32 → (Nat → Int32) → (Nat → Int32) → Int64 → Value → Value → Int32 → Int32 → Int32 → Int32 → (Nat → Int64) → (Nat → Int32) → (Nat → Int32) → Int32 → Int32 → (Nat → Int32) → (Nat → Int32) → (Nat → Int32) → (Nat → Int32) → (Nat → Int32) → Prop) (KX : ∀ (x_22_0 : Int32) (x_22_1 : Int32) (x_22_2 : Nat → Int32) (x_22_3 : Nat → Int32) (x_22_4 : Int64) (x_22_5 : Value) (x_22_6 : Value) (x_22_7 : Int32) (x_22_8 : Int32) (x_22_9 : Int32) (x_22_10 : Int32) (x_22_11 : Nat → Int64) (x_22_12 : Nat → Int32) (x_22_13 : Nat → Int32) (x_22_14 : Int32) (x_22_15 : Int32) (x_22_16 : Nat → Int32) (x_22_17 : Nat → Int32) (x_22_18 : Nat → Int32) (x_22_19 : Nat → Int32) (x_22_20 : Nat → Int32), (1 ≤ x_22_0.toInt ∧ x_22_0.toInt ≤ 60) ∧ (CE x_22_2) ∧ (TE x_22_3) ∧ (0 ≤ x_22_7.toInt ∧ x_22_7.toInt ≤ 39) ∧ (WA x_22_12) ∧ (BU x_22_13) ∧ (0 ≤ x_22_14.toInt ∧ x_22_14.toInt ≤ 16) ∧ (0 ≤ x_22_15.toInt ∧ x_22_15.toInt ≤ 15) ∧ (DI x_22_16 x_22_17 x_22_18 x_22_19 x_22_20) → Qb x_22_0 x_22_1 x_22_2 x_22_3 x_22_4 x_22_5 x_22_6 x_22_7 x_22_8 x_22_9 x_22_10 x_22_11 x_22_12 x_22_13 x_22_14 x_22_15 x_22_16 x_22_17 x_22_18 x_22_19 x_22_20) : ∀ (n : Nat) (x_22_0 : Int32) (x_22_1 : Int32) (x_22_2 : Nat → Int32) (x_22_3 : Nat → Int32) (x_22_4 : Int64) (x_22_5 : Value) (x_22_6 : Value) (x_22_7 : Int32) (x_22_8 : Int32) (x_22_9 : Int32) (x_22_10 : Int32) (x_22_11 : Nat → Int64) (x_22_12 : Nat → Int32) (x_22_13 : Nat → Int32) (x_22_14 : Int32) (x_22_15 : Int32) (x_22_16 : Nat → Int32) (x_22_17 : Nat → Int32) (x_22_18 : Nat → Int32) (x_22_19 : Nat → Int32) (x_22_20 : Nat → Int32), (0 ≤ x_22_0.toInt ∧ x_22_0.toInt ≤ 60) ∧ (CE x_22_2) ∧ (TE x_22_3) ∧ (0 ≤ x_22_7.toInt ∧ x_22_7.toInt ≤ 39) ∧ (WA x_22_12) ∧ (BU x_22_13) ∧ (0 ≤ x_22_14.toInt ∧ x_22_14.toInt ≤ 16) ∧ (0 ≤ x_22_15.toInt ∧ x_22_15.toInt ≤ 15) ∧ (DI x_22_16 x_22_17 x_22_18 x_22_19 x_22_20) → 61 - x_22_0.toInt < (n : Int) → wl_X7_runSeasons_T_22 b h0_world h0_world_lawCount h0_world_force h0_world_crew_count f_h0_world_rock_kind f_h0_world_laws h0_asker_done h0_asker_latest t t_clauses t_length n_t_heads f_t_heads n_t_code f_t_code h0_world_folk_listeners f_h0_world_folk_column f_h0_world_rock_hard Qb n x_22_0 x_22_1 x_22_2 x_22_3 x_22_4 x_22_5 x_22_6 x_22_7 x_22_8 x_22_9 x_22_10 x_22_11 x_22_12 x_22_13 x_22_14 x_22_15 x_22_16 x_22_17 x_22_18 x_22_19 x_22_20 := by
  intro n
  induction n with
  | zero =>
    intro x_22_0 x_22_1 x_22_2 x_22_3 x_22_4 x_22_5 x_22_6 x_22_7 x_22_8 x_22_9 x_22_10 x_22_11 x_22_12 x_22_13 x_22_14 x_22_15 x_22_16 x_22_17 x_22_18 x_22_19 x_22_20 hI hm
    exfalso; have hm : 61 - x_22_0.toInt < 0 := hm; omega
  | succ n ih =>
    intro x_22_0 x_22_1 x_22_2 x_22_3 x_22_4 x_22_5 x_22_6 x_22_7 x_22_8 x_22_9 x_22_10 x_22_11 x_22_12 x_22_13 x_22_14 x_22_15 x_22_16 x_22_17 x_22_18 x_22_19 x_22_20 hI hm
    have hm : 61 - x_22_0.toInt < (n : Int) + 1 := by simpa using hm
    have h_x_22_0 := hI.1
    have h_x_22_2 := hI.2.1
    have h_x_22_3 := hI.2.2.1
    have h_x_22_7 := hI.2.2.2.1
    have h_x_22_12 := hI.2.2.2.2.1
    have h_x_22_13 := hI.2.2.2.2.2.1
    have h_x_22_14 := hI.2.2.2.2.2.2.1
    have h_x_22_15 := hI.2.2.2.2.2.2.2.1
    have h_rel0 := hI.2.2.2.2.2.2.2.2
    unfold wl_X7_runSeasons_T_22
    by_cases c4 : b ≤ x_22_0
    · refine br1 c4 ?_
      have d5 := le_z (a := b) (b := x_22_0) (x := (Int32.toInt b)) (y := (Int32.toInt x_22_0)) rfl rfl c4
      exact KX _ _ _ _ _ _ _ _ _ _ _ _ _ _ _ _ _ _ _ _ _ ⟨⟨by omega, by omega⟩, h_x_22_2, h_x_22_3, ⟨by omega, by omega⟩, h_x_22_12, h_x_22_13, ⟨by omega, by omega⟩, ⟨by omega, by omega⟩, h_rel0⟩
    · refine br0 c4 ?_
      have d6 := nle_z (a := b) (b := x_22_0) (x := (Int32.toInt b)) (y := (Int32.toInt x_22_0)) rfl rfl c4
      refine bndz_a (fun zb7 => ?_)
      refine ⟨z_ne (x := (Int32.toInt h0_world_crew_count)) (y := 0) rfl rfl (by omega), ?_⟩
      refine bndz_a (fun zb8 => ?_)
      refine bndz_a (fun zb9 => ?_)
      refine bndz_a (fun zb10 => ?_)
      refine s_X7_tryHaul_T zb8 h0_world h0_world_lawCount h0_world_force h0_world_crew_count (x_22_2) (x_22_3) (f_h0_world_rock_kind) (f_h0_world_laws) x_22_5 x_22_6 x_22_7 x_22_8 x_22_9 h0_asker_done h0_asker_latest x_22_10 t t_clauses t_length n_t_heads (f_t_heads) n_t_code (f_t_code) (x_22_11) h0_world_folk_listeners (f_h0_world_folk_column) (f_h0_world_rock_hard) (x_22_12) (x_22_13) x_22_14 x_22_15 (x_22_16) (x_22_17) (x_22_18) (x_22_19) (x_22_20) ⟨by omega, by omega⟩ ⟨by omega, by omega⟩ ⟨by omega, by omega⟩ h_x_22_2 h_x_22_3 h_f_h0_world_rock_kind ⟨by omega, by omega⟩ ⟨by omega, by omega⟩ ⟨by omega, by omega⟩ h_f_t_code ⟨by omega, by omega⟩ h_f_h0_world_folk_column h_f_h0_world_rock_hard h_x_22_12 h_x_22_13 ⟨by omega, by omega⟩ ⟨by omega, by omega⟩ (by omega) (by omega) (by omega) (by assumption) h_rel0 (fun r11 u12_0 u12_1 u12_2 u12_3 u12_4 u12_5 u12_6 u12_7 u12_8 u12_9 u12_10 u12_11 u12_12 u12_13 u12_14 u12_15 u12_16 H13 => ?_)
      have j14 := H13.1
      have j15 := H13.2.1
      have j16 := H13.2.2.1
      have j17 := H13.2.2.2.1
      have j18 := H13.2.2.2.2.1
      have j19 := H13.2.2.2.2.2.1
      have j20 := H13.2.2.2.2.2.2.1
      have j21 := H13.2.2.2.2.2.2.2
      refine un17_i ?_
      by_cases c22 : 0 ≤ r11
      · refine br1 c22 ?_
        have d23 := le_z (a := 0) (b := r11) (x := 0) (y := (Int32.toInt r11)) rfl rfl c22
        have t24 : (Int32.toInt (x_22_0 + 1)) = (Int32.toInt x_22_0) + 1 := add_z rfl rfl (by omega) (by omega)
        exact ih _ _ _ _ _ _ _ _ _ _ _ _ _ _ _ _ _ _ _ _ _ ⟨⟨by omega, by omega⟩, h_x_22_2, j15, ⟨by omega, by omega⟩, j17, j18, ⟨by omega, by omega⟩, ⟨by omega, by omega⟩, j21⟩ (by omega)
      · refine br0 c22 ?_
        have d25 := nle_z (a := 0) (b := r11) (x := 0) (y := (Int32.toInt r11)) rfl rfl c22
        refine s_X7_tryDig_T zb8 zb10 h0_world h0_world_lawCount h0_world_force h0_world_crew_count (x_22_2) x_22_4 (f_h0_world_rock_kind) (f_h0_world_laws) u12_1 u12_2 u12_3 u12_4 u12_5 h0_asker_done h0_asker_latest u12_6 (u12_0) (f_h0_world_rock_hard) t t_clauses t_length n_t_heads (f_t_heads) n_t_code (f_t_code) (u12_7) h0_world_folk_listeners (f_h0_world_folk_column) (u12_8) (u12_9) u12_10 u12_11 (u12_12) (u12_13) (u12_14) (u12_15) (u12_16) ⟨by omega, by omega⟩ ⟨by omega, by omega⟩ ⟨by omega, by omega⟩ h_x_22_2 h_f_h0_world_rock_kind ⟨by omega, by omega⟩ j15 h_f_h0_world_rock_hard ⟨by omega, by omega⟩ ⟨by omega, by omega⟩ h_f_t_code ⟨by omega, by omega⟩ h_f_h0_world_folk_column j17 j18 ⟨by omega, by omega⟩ ⟨by omega, by omega⟩ (by omega) (by omega) (by omega) (by assumption) j21 (fun r26 u27_0 u27_1 u27_2 u27_3 u27_4 u27_5 u27_6 u27_7 u27_8 u27_9 u27_10 u27_11 u27_12 u27_13 u27_14 u27_15 u27_16 H28 => ?_)
        have j29 := H28.1
        have j30 := H28.2.1
        have j31 := H28.2.2.1
        have j32 := H28.2.2.2.1
        have j33 := H28.2.2.2.2.1
        have j34 := H28.2.2.2.2.2.1
        have j35 := H28.2.2.2.2.2.2
        refine un17_i ?_
        by_cases c36 : r26 < 0
        · refine br1 c36 ?_
          have d37 := lt_z (a := r26) (b := 0) (x := (Int32.toInt r26)) (y := 0) rfl rfl c36
          by_cases c38 : 9999 ≤ (u27_8 (0 : Int32).toNatClampNeg)
          · refine br1 c38 ?_
            have g39 : 0 ≤ (Int32.toInt (u27_8 (0 : Int32).toNatClampNeg)) ∧ (Int32.toInt (u27_8 (0 : Int32).toNatClampNeg)) ≤ 9999 := TE.at_0 j32 (rfl : ((0 : Nat) : Int) = 0) (by omega) (by omega)
            have d40 := le_z (a := 9999) (b := (u27_8 (0 : Int32).toNatClampNeg)) (x := 9999) (y := (Int32.toInt (u27_8 (0 : Int32).toNatClampNeg))) rfl rfl c38
            have t41 : (Int32.toInt (x_22_0 + 1)) = (Int32.toInt x_22_0) + 1 := add_z rfl rfl (by omega) (by omega)
            exact ih _ _ _ _ _ _ _ _ _ _ _ _ _ _ _ _ _ _ _ _ _ ⟨⟨by omega, by omega⟩, j30, j32, ⟨by omega, by omega⟩, j17, j18, ⟨by omega, by omega⟩, ⟨by omega, by omega⟩, j35⟩ (by omega)
          · refine br0 c38 ?_
            have g42 : 0 ≤ (Int32.toInt (u27_8 (0 : Int32).toNatClampNeg)) ∧ (Int32.toInt (u27_8 (0 : Int32).toNatClampNeg)) ≤ 9999 := TE.at_0 j32 (rfl : ((0 : Nat) : Int) = 0) (by omega) (by omega)
            have d43 := nle_z (a := 9999) (b := (u27_8 (0 : Int32).toNatClampNeg)) (x := 9999) (y := (Int32.toInt (u27_8 (0 : Int32).toNatClampNeg))) rfl rfl c38
            have t44 : (Int32.toInt (x_22_0 + 1)) = (Int32.toInt x_22_0) + 1 := add_z rfl rfl (by omega) (by omega)
            have t45 : (Int32.toInt ((u27_8 (0 : Int32).toNatClampNeg) + 1)) = (Int32.toInt (u27_8 (0 : Int32).toNatClampNeg)) + 1 := add_z rfl rfl (by omega) (by omega)
            have R46 : TE (upd u27_8 0 ((u27_8 (0 : Int32).toNatClampNeg) + 1)) := TE.up_0 j32 (rfl : ((0 : Nat) : Int) = 0) (by omega) (by omega) (w := (Int32.toInt ((u27_8 (0 : Int32).toNatClampNeg) + 1))) rfl (by omega) (by omega)
            exact ih _ _ _ _ _ _ _ _ _ _ _ _ _ _ _ _ _ _ _ _ _ ⟨⟨by omega, by omega⟩, j30, R46, ⟨by omega, by omega⟩, j17, j18, ⟨by omega, by omega⟩, ⟨by omega, by omega⟩, j35⟩ (by omega)
        · refine br0 c36 ?_
          have d47 := nlt_z (a := r26) (b := 0) (x := (Int32.toInt r26)) (y := 0) rfl rfl c36
          have t48 : (Int32.toInt (x_22_0 + 1)) = (Int32.toInt x_22_0) + 1 := add_z rfl rfl (by omega) (by omega)
          exact ih _ _ _ _ _ _ _ _ _ _ _ _ _ _ _ _ _ _ _ _ _ ⟨⟨by omega, by omega⟩, j30, j32, ⟨by omega, by omega⟩, j17, j18, ⟨by omega, by omega⟩, ⟨by omega, by omega⟩, j35⟩ (by omega)
set_option maxRecDepth 100000 in
theorem s_X7_runSeasons_T (a : Int32) (b : Int32) (h0_world : Nat) (h0_world_lawCount : Int32) (h0_world_force : Int32) (h0_world_crew_count : Int32) (f_h0_world_crew_cell : Nat → Int32) (f_h0_world_term : Nat → Int32) (h0_world_rock_dug : Int64) (f_h0_world_rock_kind : Nat → Int32) (f_h0_world_laws : Nat → Option Nat) (h0_asker_world : Value) (h0_asker_law : Value) (h0_asker_cell : Int32) (h0_asker_shaft : Int32) (h0_asker_kind : Int32) (h0_asker_done : Int32) (h0_asker_latest : Int32) (h0_asker_value : Int32) (t : Nat) (t_clauses : Int32) (t_length : Int32) (n_t_heads : Nat) (f_t_heads : Nat → Int32) (n_t_code : Nat) (f_t_code : Nat → Int32) (f_h0_asker_stack : Nat → Int64) (h0_world_folk_listeners : Int32) (f_h0_world_folk_column : Nat → Int32) (f_h0_world_rock_hard : Nat → Int32) (f_h0_world_rock_water : Nat → Int32) (f_h0_world_crew_buckets : Nat → Int32) (h0_diary_kept : Int32) (h0_diary_latest : Int32) (f_h0_diary_deed : Nat → Int32) (f_h0_diary_whose : Nat → Int32) (f_h0_diary_before : Nat → Int32) (f_h0_diary_bucketsBefore : Nat → Int32) (f_h0_diary_dayBefore : Nat → Int32) (h_a : 0 ≤ a.toInt ∧ a.toInt ≤ 1000000) (h_b : 1 ≤ b.toInt ∧ b.toInt ≤ 60) (h_h0_world_lawCount : 0 ≤ h0_world_lawCount.toInt ∧ h0_world_lawCount.toInt ≤ 6) (h_h0_world_force : 0 ≤ h0_world_force.toInt ∧ h0_world_force.toInt ≤ 5) (h_h0_world_crew_count : 0 ≤ h0_world_crew_count.toInt ∧ h0_world_crew_count.toInt ≤ 6) (h_f_h0_world_crew_cell : CE f_h0_world_crew_cell) (h_f_h0_world_term : TE f_h0_world_term) (h_f_h0_world_rock_kind : KI f_h0_world_rock_kind) (h_h0_asker_cell : 0 ≤ h0_asker_cell.toInt ∧ h0_asker_cell.toInt ≤ 39) (h_t_clauses : 0 ≤ t_clauses.toInt ∧ t_clauses.toInt ≤ 12) (h_t_length : 0 ≤ t_length.toInt ∧ t_length.toInt ≤ 400) (h_f_t_code : CD f_t_code) (h_h0_world_folk_listeners : 0 ≤ h0_world_folk_listeners.toInt ∧ h0_world_folk_listeners.toInt ≤ 5) (h_f_h0_world_folk_column : CO f_h0_world_folk_column) (h_f_h0_world_rock_hard : HA f_h0_world_rock_hard) (h_f_h0_world_rock_water : WA f_h0_world_rock_water) (h_f_h0_world_crew_buckets : BU f_h0_world_crew_buckets) (h_h0_diary_kept : 0 ≤ h0_diary_kept.toInt ∧ h0_diary_kept.toInt ≤ 16) (h_h0_diary_latest : 0 ≤ h0_diary_latest.toInt ∧ h0_diary_latest.toInt ≤ 15) (e_0 : n_t_heads < 100000) (e_1 : t_length.toInt ≤ (n_t_code : Int)) (e_2 : h0_world_force.toInt < h0_world_lawCount.toInt) (e_3 : f_h0_world_laws (Int32.toNatClampNeg h0_world_force) = some t) (e_4 : DI f_h0_diary_deed f_h0_diary_whose f_h0_diary_before f_h0_diary_bucketsBefore f_h0_diary_dayBefore) {Q : ((Nat → Int32) × (Nat → Int32) × Int64 × Value × Value × Int32 × Int32 × Int32 × Int32 × (Nat → Int64) × (Nat → Int32) × (Nat → Int32) × Int32 × Int32 × (Nat → Int32) × (Nat → Int32) × (Nat → Int32) × (Nat → Int32) × (Nat → Int32)) → Prop} (hq : ∀ (u_0 : Nat → Int32) (u_1 : Nat → Int32) (u_2 : Int64) (u_3 : Value) (u_4 : Value) (u_5 : Int32) (u_6 : Int32) (u_7 : Int32) (u_8 : Int32) (u_9 : Nat → Int64) (u_10 : Nat → Int32) (u_11 : Nat → Int32) (u_12 : Int32) (u_13 : Int32) (u_14 : Nat → Int32) (u_15 : Nat → Int32) (u_16 : Nat → Int32) (u_17 : Nat → Int32) (u_18 : Nat → Int32), (CE u_0) ∧ (TE u_1) ∧ (0 ≤ u_5.toInt ∧ u_5.toInt ≤ 39) ∧ (WA u_10) ∧ (BU u_11) ∧ (0 ≤ u_12.toInt ∧ u_12.toInt ≤ 16) ∧ (0 ≤ u_13.toInt ∧ u_13.toInt ≤ 15) ∧ (DI u_14 u_15 u_16 u_17 u_18) → Q (u_0, u_1, u_2, u_3, u_4, u_5, u_6, u_7, u_8, u_9, u_10, u_11, u_12, u_13, u_14, u_15, u_16, u_17, u_18)) : wp_X7_runSeasons_T a b h0_world h0_world_lawCount h0_world_force h0_world_crew_count f_h0_world_crew_cell f_h0_world_term h0_world_rock_dug f_h0_world_rock_kind f_h0_world_laws h0_asker_world h0_asker_law h0_asker_cell h0_asker_shaft h0_asker_kind h0_asker_done h0_asker_latest h0_asker_value t t_clauses t_length n_t_heads f_t_heads n_t_code f_t_code f_h0_asker_stack h0_world_folk_listeners f_h0_world_folk_column f_h0_world_rock_hard f_h0_world_rock_water f_h0_world_crew_buckets h0_diary_kept h0_diary_latest f_h0_diary_deed f_h0_diary_whose f_h0_diary_before f_h0_diary_bucketsBefore f_h0_diary_dayBefore Q := by
  unfold wp_X7_runSeasons_T
  by_cases c1 : h0_world_crew_count = 0
  · refine br1 c1 ?_
    have d2 := eq_z (a := h0_world_crew_count) (b := 0) (x := (Int32.toInt h0_world_crew_count)) (y := 0) rfl rfl c1
    exact hq _ _ _ _ _ _ _ _ _ _ _ _ _ _ _ _ _ _ _ ⟨h_f_h0_world_crew_cell, h_f_h0_world_term, ⟨by omega, by omega⟩, h_f_h0_world_rock_water, h_f_h0_world_crew_buckets, ⟨by omega, by omega⟩, ⟨by omega, by omega⟩, e_4⟩
  · refine br0 c1 ?_
    have d3 := ne_z (a := h0_world_crew_count) (b := 0) (x := (Int32.toInt h0_world_crew_count)) (y := 0) rfl rfl c1
    have k6 : Int32.toInt 0 = 0 := rfl
    refine sl_X7_runSeasons_T_22 b h0_world h0_world_lawCount h0_world_force h0_world_crew_count (f_h0_world_rock_kind) f_h0_world_laws h0_asker_done h0_asker_latest t t_clauses t_length n_t_heads (f_t_heads) n_t_code (f_t_code) h0_world_folk_listeners (f_h0_world_folk_column) (f_h0_world_rock_hard) ⟨by omega, by omega⟩ ⟨by omega, by omega⟩ ⟨by omega, by omega⟩ ⟨by omega, by omega⟩ h_f_h0_world_rock_kind ⟨by omega, by omega⟩ ⟨by omega, by omega⟩ h_f_t_code ⟨by omega, by omega⟩ h_f_h0_world_folk_column h_f_h0_world_rock_hard (by assumption) (by omega) (by omega) (by omega) _ (fun x4_0 x4_1 x4_2 x4_3 x4_4 x4_5 x4_6 x4_7 x4_8 x4_9 x4_10 x4_11 x4_12 x4_13 x4_14 x4_15 x4_16 x4_17 x4_18 x4_19 x4_20 X5 => ?_) 1000000000000 0 a (f_h0_world_crew_cell) (f_h0_world_term) h0_world_rock_dug h0_asker_world h0_asker_law h0_asker_cell h0_asker_shaft h0_asker_kind h0_asker_value (f_h0_asker_stack) (f_h0_world_rock_water) (f_h0_world_crew_buckets) h0_diary_kept h0_diary_latest (f_h0_diary_deed) (f_h0_diary_whose) (f_h0_diary_before) (f_h0_diary_bucketsBefore) (f_h0_diary_dayBefore) ⟨(by decide), h_f_h0_world_crew_cell, h_f_h0_world_term, ⟨by omega, by omega⟩, h_f_h0_world_rock_water, h_f_h0_world_crew_buckets, ⟨by omega, by omega⟩, ⟨by omega, by omega⟩, e_4⟩ (by omega)
    have j7 := X5.1
    have j8 := X5.2.1
    have j9 := X5.2.2.1
    have j10 := X5.2.2.2.1
    have j11 := X5.2.2.2.2.1
    have j12 := X5.2.2.2.2.2.1
    have j13 := X5.2.2.2.2.2.2.1
    have j14 := X5.2.2.2.2.2.2.2.1
    have j15 := X5.2.2.2.2.2.2.2.2
    exact hq _ _ _ _ _ _ _ _ _ _ _ _ _ _ _ _ _ _ _ ⟨j8, j9, ⟨by omega, by omega⟩, j11, j12, ⟨by omega, by omega⟩, ⟨by omega, by omega⟩, j15⟩
