
set_option maxRecDepth 100000 in
theorem sl_X7_runSeasons_N_22 (b : Int32) (h0_world : Nat) (h0_world_lawCount : Int32) (h0_world_force : Int32) (h0_world_crew_count : Int32) (f_h0_world_rock_kind : Nat → Int32) (f_h0_world_laws : Nat → Option Nat) (f_h0_world_rock_hard : Nat → Int32) (h_b : 1 ≤ b.toInt ∧ b.toInt ≤ 60) (h_h0_world_lawCount : 0 ≤ h0_world_lawCount.toInt ∧ h0_world_lawCount.toInt ≤ 6) (h_h0_world_force : (-1) ≤ h0_world_force.toInt ∧ h0_world_force.toInt ≤ (-1)) (h_h0_world_crew_count : 1 ≤ h0_world_crew_count.toInt ∧ h0_world_crew_count.toInt ≤ 6) (h_f_h0_world_rock_kind : KI f_h0_world_rock_kind) (h_f_h0_world_rock_hard : HA f_h0_world_rock_hard) (Qb : Int32 → Int32 → (Nat → Int32) → (Nat → Int32) → Int64 → Value → Value → Int32 → Int32 → Int32 → (Nat → Int32) → (Nat → Int32) → Int32 → Int32 → (Nat → Int32) → (Nat → Int32) → (Nat → Int32) → (Nat → Int32) → (Nat → Int32) → Prop) (KX : ∀ (x_22_0 : Int32) (x_22_1 : Int32) (x_22_2 : Nat → Int32) (x_22_3 : Nat → Int32) (x_22_4 : Int64) (x_22_5 : Value) (x_22_6 : Value) (x_22_7 : Int32) (x_22_8 : Int32) (x_22_9 : Int32) (x_22_10 : Nat → Int32) (x_22_11 : Nat → Int32) (x_22_12 : Int32) (x_22_13 : Int32) (x_22_14 : Nat → Int32) (x_22_15 : Nat → Int32) (x_22_16 : Nat → Int32) (x_22_17 : Nat → Int32) (x_22_18 : Nat → Int32), (1 ≤ x_22_0.toInt ∧ x_22_0.toInt ≤ 60) ∧ (0 ≤ x_22_1.toInt ∧ x_22_1.toInt ≤ 1000002) ∧ (CE x_22_2) ∧ (TE x_22_3) ∧ (0 ≤ x_22_7.toInt ∧ x_22_7.toInt ≤ 39) ∧ (WA x_22_10) ∧ (BU x_22_11) ∧ (0 ≤ x_22_12.toInt ∧ x_22_12.toInt ≤ 16) ∧ (0 ≤ x_22_13.toInt ∧ x_22_13.toInt ≤ 15) ∧ (DI x_22_14 x_22_15 x_22_16 x_22_17 x_22_18) → Qb x_22_0 x_22_1 x_22_2 x_22_3 x_22_4 x_22_5 x_22_6 x_22_7 x_22_8 x_22_9 x_22_10 x_22_11 x_22_12 x_22_13 x_22_14 x_22_15 x_22_16 x_22_17 x_22_18) : ∀ (n : Nat) (x_22_0 : Int32) (x_22_1 : Int32) (x_22_2 : Nat → Int32) (x_22_3 : Nat → Int32) (x_22_4 : Int64) (x_22_5 : Value) (x_22_6 : Value) (x_22_7 : Int32) (x_22_8 : Int32) (x_22_9 : Int32) (x_22_10 : Nat → Int32) (x_22_11 : Nat → Int32) (x_22_12 : Int32) (x_22_13 : Int32) (x_22_14 : Nat → Int32) (x_22_15 : Nat → Int32) (x_22_16 : Nat → Int32) (x_22_17 : Nat → Int32) (x_22_18 : Nat → Int32), (0 ≤ x_22_0.toInt ∧ x_22_0.toInt ≤ 60) ∧ (0 ≤ x_22_1.toInt ∧ x_22_1.toInt ≤ 1000002) ∧ (CE x_22_2) ∧ (TE x_22_3) ∧ (0 ≤ x_22_7.toInt ∧ x_22_7.toInt ≤ 39) ∧ (WA x_22_10) ∧ (BU x_22_11) ∧ (0 ≤ x_22_12.toInt ∧ x_22_12.toInt ≤ 16) ∧ (0 ≤ x_22_13.toInt ∧ x_22_13.toInt ≤ 15) ∧ (DI x_22_14 x_22_15 x_22_16 x_22_17 x_22_18) → 61 - x_22_0.toInt < (n : Int) → wl_X7_runSeasons_N_22 b h0_world h0_world_lawCount h0_world_force h0_world_crew_count f_h0_world_rock_kind f_h0_world_laws f_h0_world_rock_hard Qb n x_22_0 x_22_1 x_22_2 x_22_3 x_22_4 x_22_5 x_22_6 x_22_7 x_22_8 x_22_9 x_22_10 x_22_11 x_22_12 x_22_13 x_22_14 x_22_15 x_22_16 x_22_17 x_22_18 := by
  intro n
  induction n with
  | zero =>
    intro x_22_0 x_22_1 x_22_2 x_22_3 x_22_4 x_22_5 x_22_6 x_22_7 x_22_8 x_22_9 x_22_10 x_22_11 x_22_12 x_22_13 x_22_14 x_22_15 x_22_16 x_22_17 x_22_18 hI hm
    exfalso; have hm : 61 - x_22_0.toInt < 0 := hm; omega
  | succ n ih =>
    intro x_22_0 x_22_1 x_22_2 x_22_3 x_22_4 x_22_5 x_22_6 x_22_7 x_22_8 x_22_9 x_22_10 x_22_11 x_22_12 x_22_13 x_22_14 x_22_15 x_22_16 x_22_17 x_22_18 hI hm
    have hm : 61 - x_22_0.toInt < (n : Int) + 1 := by simpa using hm
    have h_x_22_0 := hI.1
    have h_x_22_1 := hI.2.1
    have h_x_22_2 := hI.2.2.1
    have h_x_22_3 := hI.2.2.2.1
    have h_x_22_7 := hI.2.2.2.2.1
    have h_x_22_10 := hI.2.2.2.2.2.1
    have h_x_22_11 := hI.2.2.2.2.2.2.1
    have h_x_22_12 := hI.2.2.2.2.2.2.2.1
    have h_x_22_13 := hI.2.2.2.2.2.2.2.2.1
    have h_rel0 := hI.2.2.2.2.2.2.2.2.2
    unfold wl_X7_runSeasons_N_22
    by_cases c4 : b ≤ x_22_0
    · refine br1 c4 ?_
      have d5 := le_z (a := b) (b := x_22_0) (x := (Int32.toInt b)) (y := (Int32.toInt x_22_0)) rfl rfl c4
      exact KX _ _ _ _ _ _ _ _ _ _ _ _ _ _ _ _ _ _ _ ⟨⟨by omega, by omega⟩, ⟨by omega, by omega⟩, h_x_22_2, h_x_22_3, ⟨by omega, by omega⟩, h_x_22_10, h_x_22_11, ⟨by omega, by omega⟩, ⟨by omega, by omega⟩, h_rel0⟩
    · refine br0 c4 ?_
      have d6 := nle_z (a := b) (b := x_22_0) (x := (Int32.toInt b)) (y := (Int32.toInt x_22_0)) rfl rfl c4
      refine ⟨z_ne (x := (Int32.toInt h0_world_crew_count)) (y := 0) rfl rfl (by omega), ?_⟩
      refine s_X7_tryHaul_N (irm (irm ((x_22_1 * 1103) + 12345) 1000003) h0_world_crew_count) h0_world h0_world_lawCount h0_world_force h0_world_crew_count (x_22_2) (x_22_3) (f_h0_world_rock_kind) (f_h0_world_laws) x_22_5 x_22_6 x_22_7 x_22_8 x_22_9 (x_22_10) (x_22_11) x_22_12 x_22_13 (x_22_14) (x_22_15) (x_22_16) (x_22_17) (x_22_18) ⟨by omega, by omega⟩ ⟨by omega, by omega⟩ ⟨by omega, by omega⟩ h_x_22_2 h_x_22_3 h_f_h0_world_rock_kind ⟨by omega, by omega⟩ h_x_22_10 h_x_22_11 ⟨by omega, by omega⟩ ⟨by omega, by omega⟩ h_rel0 (fun r7 u8_0 u8_1 u8_2 u8_3 u8_4 u8_5 u8_6 u8_7 u8_8 u8_9 u8_10 u8_11 u8_12 u8_13 u8_14 H9 => ?_)
      have j10 := H9.1
      have j11 := H9.2.1
      have j12 := H9.2.2.1
      have j13 := H9.2.2.2.1
      have j14 := H9.2.2.2.2.1
      have j15 := H9.2.2.2.2.2.1
      have j16 := H9.2.2.2.2.2.2.1
      have j17 := H9.2.2.2.2.2.2.2
      refine un15_i ?_
      by_cases c18 : 0 ≤ r7
      · refine br1 c18 ?_
        have d19 := le_z (a := 0) (b := r7) (x := 0) (y := (Int32.toInt r7)) rfl rfl c18
        have t20 : (Int32.toInt (x_22_0 + 1)) = (Int32.toInt x_22_0) + 1 := add_z rfl rfl (by omega) (by omega)
        have t21 : (Int32.toInt (x_22_1 * 1103)) = (Int32.toInt x_22_1) * 1103 := mul_z rfl rfl (by omega) (by omega)
        have t22 : (Int32.toInt ((x_22_1 * 1103) + 12345)) = (Int32.toInt (x_22_1 * 1103)) + 12345 := add_z rfl rfl (by omega) (by omega)
        have t23 : (Int32.toInt (irm ((x_22_1 * 1103) + 12345) 1000003)) = (Int32.toInt ((x_22_1 * 1103) + 12345)) % 1000003 := irm_z rfl rfl (by omega) (by omega)
        have t24 : (Int32.toInt ((irm ((x_22_1 * 1103) + 12345) 1000003) * 1103)) = (Int32.toInt (irm ((x_22_1 * 1103) + 12345) 1000003)) * 1103 := mul_z rfl rfl (by omega) (by omega)
        have t25 : (Int32.toInt (((irm ((x_22_1 * 1103) + 12345) 1000003) * 1103) + 12345)) = (Int32.toInt ((irm ((x_22_1 * 1103) + 12345) 1000003) * 1103)) + 12345 := add_z rfl rfl (by omega) (by omega)
        have t26 : (Int32.toInt (irm (((irm ((x_22_1 * 1103) + 12345) 1000003) * 1103) + 12345) 1000003)) = (Int32.toInt (((irm ((x_22_1 * 1103) + 12345) 1000003) * 1103) + 12345)) % 1000003 := irm_z rfl rfl (by omega) (by omega)
        exact ih _ _ _ _ _ _ _ _ _ _ _ _ _ _ _ _ _ _ _ ⟨⟨by omega, by omega⟩, ⟨by omega, by omega⟩, h_x_22_2, j11, ⟨by omega, by omega⟩, j13, j14, ⟨by omega, by omega⟩, ⟨by omega, by omega⟩, j17⟩ (by omega)
      · refine br0 c18 ?_
        have d27 := nle_z (a := 0) (b := r7) (x := 0) (y := (Int32.toInt r7)) rfl rfl c18
        refine s_X7_tryDig_N (irm (irm ((x_22_1 * 1103) + 12345) 1000003) h0_world_crew_count) (irm (irm (((irm ((x_22_1 * 1103) + 12345) 1000003) * 1103) + 12345) 1000003) 3) h0_world h0_world_lawCount h0_world_force h0_world_crew_count (x_22_2) x_22_4 (f_h0_world_rock_kind) (f_h0_world_laws) u_73_1 u_73_2 u8_3 u8_4 u8_5 (u8_0) (f_h0_world_rock_hard) u8_8 u8_9 (u8_10) (u8_11) (u8_12) (u8_13) (u8_14) ⟨by omega, by omega⟩ ⟨by omega, by omega⟩ ⟨by omega, by omega⟩ h_x_22_2 h_f_h0_world_rock_kind ⟨by omega, by omega⟩ j11 h_f_h0_world_rock_hard ⟨by omega, by omega⟩ ⟨by omega, by omega⟩ j17 (fun r28 u29_0 u29_1 u29_2 u29_3 u29_4 u29_5 u29_6 u29_7 u29_8 u29_9 u29_10 u29_11 u29_12 u29_13 u29_14 H30 => ?_)
        have j31 := H30.1
        have j32 := H30.2.1
        have j33 := H30.2.2.1
        have j34 := H30.2.2.2.1
        have j35 := H30.2.2.2.2.1
        have j36 := H30.2.2.2.2.2.1
        have j37 := H30.2.2.2.2.2.2
        refine un15_i ?_
        by_cases c38 : r28 < 0
        · refine br1 c38 ?_
          have d39 := lt_z (a := r28) (b := 0) (x := (Int32.toInt r28)) (y := 0) rfl rfl c38
          by_cases c40 : 9999 ≤ (u29_7 (0 : Int32).toNatClampNeg)
          · refine br1 c40 ?_
            have g41 : 0 ≤ (Int32.toInt (u29_7 (0 : Int32).toNatClampNeg)) ∧ (Int32.toInt (u29_7 (0 : Int32).toNatClampNeg)) ≤ 9999 := TE.at_0 j34 (rfl : ((0 : Nat) : Int) = 0) (by omega) (by omega)
            have d42 := le_z (a := 9999) (b := (u29_7 (0 : Int32).toNatClampNeg)) (x := 9999) (y := (Int32.toInt (u29_7 (0 : Int32).toNatClampNeg))) rfl rfl c40
            have t43 : (Int32.toInt (x_22_0 + 1)) = (Int32.toInt x_22_0) + 1 := add_z rfl rfl (by omega) (by omega)
            have t44 : (Int32.toInt (x_22_1 * 1103)) = (Int32.toInt x_22_1) * 1103 := mul_z rfl rfl (by omega) (by omega)
            have t45 : (Int32.toInt ((x_22_1 * 1103) + 12345)) = (Int32.toInt (x_22_1 * 1103)) + 12345 := add_z rfl rfl (by omega) (by omega)
            have t46 : (Int32.toInt (irm ((x_22_1 * 1103) + 12345) 1000003)) = (Int32.toInt ((x_22_1 * 1103) + 12345)) % 1000003 := irm_z rfl rfl (by omega) (by omega)
            have t47 : (Int32.toInt ((irm ((x_22_1 * 1103) + 12345) 1000003) * 1103)) = (Int32.toInt (irm ((x_22_1 * 1103) + 12345) 1000003)) * 1103 := mul_z rfl rfl (by omega) (by omega)
            have t48 : (Int32.toInt (((irm ((x_22_1 * 1103) + 12345) 1000003) * 1103) + 12345)) = (Int32.toInt ((irm ((x_22_1 * 1103) + 12345) 1000003) * 1103)) + 12345 := add_z rfl rfl (by omega) (by omega)
            have t49 : (Int32.toInt (irm (((irm ((x_22_1 * 1103) + 12345) 1000003) * 1103) + 12345) 1000003)) = (Int32.toInt (((irm ((x_22_1 * 1103) + 12345) 1000003) * 1103) + 12345)) % 1000003 := irm_z rfl rfl (by omega) (by omega)
            exact ih _ _ _ _ _ _ _ _ _ _ _ _ _ _ _ _ _ _ _ ⟨⟨by omega, by omega⟩, ⟨by omega, by omega⟩, j32, j34, ⟨by omega, by omega⟩, j13, j14, ⟨by omega, by omega⟩, ⟨by omega, by omega⟩, j37⟩ (by omega)
          · refine br0 c40 ?_
            have g50 : 0 ≤ (Int32.toInt (u29_7 (0 : Int32).toNatClampNeg)) ∧ (Int32.toInt (u29_7 (0 : Int32).toNatClampNeg)) ≤ 9999 := TE.at_0 j34 (rfl : ((0 : Nat) : Int) = 0) (by omega) (by omega)
            have d51 := nle_z (a := 9999) (b := (u29_7 (0 : Int32).toNatClampNeg)) (x := 9999) (y := (Int32.toInt (u29_7 (0 : Int32).toNatClampNeg))) rfl rfl c40
            have t52 : (Int32.toInt (x_22_0 + 1)) = (Int32.toInt x_22_0) + 1 := add_z rfl rfl (by omega) (by omega)
            have t53 : (Int32.toInt (x_22_1 * 1103)) = (Int32.toInt x_22_1) * 1103 := mul_z rfl rfl (by omega) (by omega)
            have t54 : (Int32.toInt ((x_22_1 * 1103) + 12345)) = (Int32.toInt (x_22_1 * 1103)) + 12345 := add_z rfl rfl (by omega) (by omega)
            have t55 : (Int32.toInt (irm ((x_22_1 * 1103) + 12345) 1000003)) = (Int32.toInt ((x_22_1 * 1103) + 12345)) % 1000003 := irm_z rfl rfl (by omega) (by omega)
            have t56 : (Int32.toInt ((irm ((x_22_1 * 1103) + 12345) 1000003) * 1103)) = (Int32.toInt (irm ((x_22_1 * 1103) + 12345) 1000003)) * 1103 := mul_z rfl rfl (by omega) (by omega)
            have t57 : (Int32.toInt (((irm ((x_22_1 * 1103) + 12345) 1000003) * 1103) + 12345)) = (Int32.toInt ((irm ((x_22_1 * 1103) + 12345) 1000003) * 1103)) + 12345 := add_z rfl rfl (by omega) (by omega)
            have t58 : (Int32.toInt (irm (((irm ((x_22_1 * 1103) + 12345) 1000003) * 1103) + 12345) 1000003)) = (Int32.toInt (((irm ((x_22_1 * 1103) + 12345) 1000003) * 1103) + 12345)) % 1000003 := irm_z rfl rfl (by omega) (by omega)
            have t59 : (Int32.toInt ((u29_7 (0 : Int32).toNatClampNeg) + 1)) = (Int32.toInt (u29_7 (0 : Int32).toNatClampNeg)) + 1 := add_z rfl rfl (by omega) (by omega)
            have R60 : TE (upd u29_7 0 ((u29_7 (0 : Int32).toNatClampNeg) + 1)) := TE.up_0 j34 (rfl : ((0 : Nat) : Int) = 0) (by omega) (by omega) (w := (Int32.toInt ((u29_7 (0 : Int32).toNatClampNeg) + 1))) rfl (by omega) (by omega)
            exact ih _ _ _ _ _ _ _ _ _ _ _ _ _ _ _ _ _ _ _ ⟨⟨by omega, by omega⟩, ⟨by omega, by omega⟩, j32, R60, ⟨by omega, by omega⟩, j13, j14, ⟨by omega, by omega⟩, ⟨by omega, by omega⟩, j37⟩ (by omega)
        · refine br0 c38 ?_
          have d61 := nlt_z (a := r28) (b := 0) (x := (Int32.toInt r28)) (y := 0) rfl rfl c38
          have t62 : (Int32.toInt (x_22_0 + 1)) = (Int32.toInt x_22_0) + 1 := add_z rfl rfl (by omega) (by omega)
          have t63 : (Int32.toInt (x_22_1 * 1103)) = (Int32.toInt x_22_1) * 1103 := mul_z rfl rfl (by omega) (by omega)
          have t64 : (Int32.toInt ((x_22_1 * 1103) + 12345)) = (Int32.toInt (x_22_1 * 1103)) + 12345 := add_z rfl rfl (by omega) (by omega)
          have t65 : (Int32.toInt (irm ((x_22_1 * 1103) + 12345) 1000003)) = (Int32.toInt ((x_22_1 * 1103) + 12345)) % 1000003 := irm_z rfl rfl (by omega) (by omega)
          have t66 : (Int32.toInt ((irm ((x_22_1 * 1103) + 12345) 1000003) * 1103)) = (Int32.toInt (irm ((x_22_1 * 1103) + 12345) 1000003)) * 1103 := mul_z rfl rfl (by omega) (by omega)
          have t67 : (Int32.toInt (((irm ((x_22_1 * 1103) + 12345) 1000003) * 1103) + 12345)) = (Int32.toInt ((irm ((x_22_1 * 1103) + 12345) 1000003) * 1103)) + 12345 := add_z rfl rfl (by omega) (by omega)
          have t68 : (Int32.toInt (irm (((irm ((x_22_1 * 1103) + 12345) 1000003) * 1103) + 12345) 1000003)) = (Int32.toInt (((irm ((x_22_1 * 1103) + 12345) 1000003) * 1103) + 12345)) % 1000003 := irm_z rfl rfl (by omega) (by omega)
          exact ih _ _ _ _ _ _ _ _ _ _ _ _ _ _ _ _ _ _ _ ⟨⟨by omega, by omega⟩, ⟨by omega, by omega⟩, j32, j34, ⟨by omega, by omega⟩, j13, j14, ⟨by omega, by omega⟩, ⟨by omega, by omega⟩, j37⟩ (by omega)
set_option maxRecDepth 100000 in
theorem s_X7_runSeasons_N (a : Int32) (b : Int32) (h0_world : Nat) (h0_world_lawCount : Int32) (h0_world_force : Int32) (h0_world_crew_count : Int32) (f_h0_world_crew_cell : Nat → Int32) (f_h0_world_term : Nat → Int32) (h0_world_rock_dug : Int64) (f_h0_world_rock_kind : Nat → Int32) (f_h0_world_laws : Nat → Option Nat) (h0_asker_world : Value) (h0_asker_law : Value) (h0_asker_cell : Int32) (h0_asker_shaft : Int32) (h0_asker_kind : Int32) (f_h0_world_rock_water : Nat → Int32) (f_h0_world_crew_buckets : Nat → Int32) (h0_diary_kept : Int32) (h0_diary_latest : Int32) (f_h0_diary_deed : Nat → Int32) (f_h0_diary_whose : Nat → Int32) (f_h0_diary_before : Nat → Int32) (f_h0_diary_bucketsBefore : Nat → Int32) (f_h0_diary_dayBefore : Nat → Int32) (f_h0_world_rock_hard : Nat → Int32) (h_a : 0 ≤ a.toInt ∧ a.toInt ≤ 1000000) (h_b : 1 ≤ b.toInt ∧ b.toInt ≤ 60) (h_h0_world_lawCount : 0 ≤ h0_world_lawCount.toInt ∧ h0_world_lawCount.toInt ≤ 6) (h_h0_world_force : (-1) ≤ h0_world_force.toInt ∧ h0_world_force.toInt ≤ (-1)) (h_h0_world_crew_count : 0 ≤ h0_world_crew_count.toInt ∧ h0_world_crew_count.toInt ≤ 6) (h_f_h0_world_crew_cell : CE f_h0_world_crew_cell) (h_f_h0_world_term : TE f_h0_world_term) (h_f_h0_world_rock_kind : KI f_h0_world_rock_kind) (h_h0_asker_cell : 0 ≤ h0_asker_cell.toInt ∧ h0_asker_cell.toInt ≤ 39) (h_f_h0_world_rock_water : WA f_h0_world_rock_water) (h_f_h0_world_crew_buckets : BU f_h0_world_crew_buckets) (h_h0_diary_kept : 0 ≤ h0_diary_kept.toInt ∧ h0_diary_kept.toInt ≤ 16) (h_h0_diary_latest : 0 ≤ h0_diary_latest.toInt ∧ h0_diary_latest.toInt ≤ 15) (h_f_h0_world_rock_hard : HA f_h0_world_rock_hard) (e_0 : DI f_h0_diary_deed f_h0_diary_whose f_h0_diary_before f_h0_diary_bucketsBefore f_h0_diary_dayBefore) {Q : ((Nat → Int32) × (Nat → Int32) × Int64 × Value × Value × Int32 × Int32 × Int32 × (Nat → Int32) × (Nat → Int32) × Int32 × Int32 × (Nat → Int32) × (Nat → Int32) × (Nat → Int32) × (Nat → Int32) × (Nat → Int32)) → Prop} (hq : ∀ (u_0 : Nat → Int32) (u_1 : Nat → Int32) (u_2 : Int64) (u_3 : Value) (u_4 : Value) (u_5 : Int32) (u_6 : Int32) (u_7 : Int32) (u_8 : Nat → Int32) (u_9 : Nat → Int32) (u_10 : Int32) (u_11 : Int32) (u_12 : Nat → Int32) (u_13 : Nat → Int32) (u_14 : Nat → Int32) (u_15 : Nat → Int32) (u_16 : Nat → Int32), (CE u_0) ∧ (TE u_1) ∧ (0 ≤ u_5.toInt ∧ u_5.toInt ≤ 39) ∧ (WA u_8) ∧ (BU u_9) ∧ (0 ≤ u_10.toInt ∧ u_10.toInt ≤ 16) ∧ (0 ≤ u_11.toInt ∧ u_11.toInt ≤ 15) ∧ (DI u_12 u_13 u_14 u_15 u_16) → Q (u_0, u_1, u_2, u_3, u_4, u_5, u_6, u_7, u_8, u_9, u_10, u_11, u_12, u_13, u_14, u_15, u_16)) : wp_X7_runSeasons_N a b h0_world h0_world_lawCount h0_world_force h0_world_crew_count f_h0_world_crew_cell f_h0_world_term h0_world_rock_dug f_h0_world_rock_kind f_h0_world_laws h0_asker_world h0_asker_law h0_asker_cell h0_asker_shaft h0_asker_kind f_h0_world_rock_water f_h0_world_crew_buckets h0_diary_kept h0_diary_latest f_h0_diary_deed f_h0_diary_whose f_h0_diary_before f_h0_diary_bucketsBefore f_h0_diary_dayBefore f_h0_world_rock_hard Q := by
  unfold wp_X7_runSeasons_N
  by_cases c1 : h0_world_crew_count = 0
  · refine br1 c1 ?_
    have d2 := eq_z (a := h0_world_crew_count) (b := 0) (x := (Int32.toInt h0_world_crew_count)) (y := 0) rfl rfl c1
    exact hq _ _ _ _ _ _ _ _ _ _ _ _ _ _ _ _ _ ⟨h_f_h0_world_crew_cell, h_f_h0_world_term, ⟨by omega, by omega⟩, h_f_h0_world_rock_water, h_f_h0_world_crew_buckets, ⟨by omega, by omega⟩, ⟨by omega, by omega⟩, e_0⟩
  · refine br0 c1 ?_
    have d3 := ne_z (a := h0_world_crew_count) (b := 0) (x := (Int32.toInt h0_world_crew_count)) (y := 0) rfl rfl c1
    have k6 : Int32.toInt 0 = 0 := rfl
    refine sl_X7_runSeasons_N_22 b h0_world h0_world_lawCount h0_world_force h0_world_crew_count (f_h0_world_rock_kind) f_h0_world_laws (f_h0_world_rock_hard) ⟨by omega, by omega⟩ ⟨by omega, by omega⟩ ⟨by omega, by omega⟩ ⟨by omega, by omega⟩ h_f_h0_world_rock_kind h_f_h0_world_rock_hard _ (fun x4_0 x4_1 x4_2 x4_3 x4_4 x4_5 x4_6 x4_7 x4_8 x4_9 x4_10 x4_11 x4_12 x4_13 x4_14 x4_15 x4_16 x4_17 x4_18 X5 => ?_) 1000000000000 0 a (f_h0_world_crew_cell) (f_h0_world_term) h0_world_rock_dug h0_asker_world h0_asker_law h0_asker_cell h0_asker_shaft h0_asker_kind (f_h0_world_rock_water) (f_h0_world_crew_buckets) h0_diary_kept h0_diary_latest (f_h0_diary_deed) (f_h0_diary_whose) (f_h0_diary_before) (f_h0_diary_bucketsBefore) (f_h0_diary_dayBefore) ⟨(by decide), ⟨by omega, by omega⟩, h_f_h0_world_crew_cell, h_f_h0_world_term, ⟨by omega, by omega⟩, h_f_h0_world_rock_water, h_f_h0_world_crew_buckets, ⟨by omega, by omega⟩, ⟨by omega, by omega⟩, e_0⟩ (by omega)
    have j7 := X5.1
    have j8 := X5.2.1
    have j9 := X5.2.2.1
    have j10 := X5.2.2.2.1
    have j11 := X5.2.2.2.2.1
    have j12 := X5.2.2.2.2.2.1
    have j13 := X5.2.2.2.2.2.2.1
    have j14 := X5.2.2.2.2.2.2.2.1
    have j15 := X5.2.2.2.2.2.2.2.2.1
    have j16 := X5.2.2.2.2.2.2.2.2.2
    exact hq _ _ _ _ _ _ _ _ _ _ _ _ _ _ _ _ _ ⟨j9, j10, ⟨by omega, by omega⟩, j12, j13, ⟨by omega, by omega⟩, ⟨by omega, by omega⟩, j16⟩


set_option maxRecDepth 100000 in
theorem sl_X7_runSeasons_T_22 (b : Int32) (h0_world : Nat) (h0_world_lawCount : Int32) (h0_world_force : Int32) (h0_world_crew_count : Int32) (f_h0_world_rock_kind : Nat → Int32) (f_h0_world_laws : Nat → Option Nat) (h0_asker_done : Int32) (h0_asker_latest : Int32) (t : Nat) (t_clauses : Int32) (t_length : Int32) (n_t_heads : Nat) (f_t_heads : Nat → Int32) (n_t_code : Nat) (f_t_code : Nat → Int32) (h0_world_folk_listeners : Int32) (f_h0_world_folk_column : Nat → Int32) (f_h0_world_rock_hard : Nat → Int32) (h_b : 1 ≤ b.toInt ∧ b.toInt ≤ 60) (h_h0_world_lawCount : 0 ≤ h0_world_lawCount.toInt ∧ h0_world_lawCount.toInt ≤ 6) (h_h0_world_force : 0 ≤ h0_world_force.toInt ∧ h0_world_force.toInt ≤ 5) (h_h0_world_crew_count : 1 ≤ h0_world_crew_count.toInt ∧ h0_world_crew_count.toInt ≤ 6) (h_f_h0_world_rock_kind : KI f_h0_world_rock_kind) (h_t_clauses : 0 ≤ t_clauses.toInt ∧ t_clauses.toInt ≤ 12) (h_t_length : 0 ≤ t_length.toInt ∧ t_length.toInt ≤ 400) (h_f_t_code : CD f_t_code) (h_h0_world_folk_listeners : 0 ≤ h0_world_folk_listeners.toInt ∧ h0_world_folk_listeners.toInt ≤ 5) (h_f_h0_world_folk_column : CO f_h0_world_folk_column) (h_f_h0_world_rock_hard : HA f_h0_world_rock_hard) (zlaw : f_h0_world_laws (Int32.toNatClampNeg h0_world_force) = some t) (zfo : h0_world_force.toInt < h0_world_lawCount.toInt) (z_n_t_heads : n_t_heads < 100000) (z_n_t_code : t_length.toInt ≤ (n_t_code : Int)) (Qb : Int32 → Int32 → (Nat → Int32) → (Nat → Int32) → Int64 → Value → Value → Int32 → Int32 → Int32 → Int32 → (Nat → Int64) → (Nat → Int32) → (Nat → Int32) → Int32 → Int32 → (Nat → Int32) → (Nat → Int32) → (Nat → Int32) → (Nat → Int32) → (Nat → Int32) → Prop) (KX : ∀ (x_22_0 : Int32) (x_22_1 : Int32) (x_22_2 : Nat → Int32) (x_22_3 : Nat → Int32) (x_22_4 : Int64) (x_22_5 : Value) (x_22_6 : Value) (x_22_7 : Int32) (x_22_8 : Int32) (x_22_9 : Int32) (x_22_10 : Int32) (x_22_11 : Nat → Int64) (x_22_12 : Nat → Int32) (x_22_13 : Nat → Int32) (x_22_14 : Int32) (x_22_15 : Int32) (x_22_16 : Nat → Int32) (x_22_17 : Nat → Int32) (x_22_18 : Nat → Int32) (x_22_19 : Nat → Int32) (x_22_20 : Nat → Int32), (1 ≤ x_22_0.toInt ∧ x_22_0.toInt ≤ 60) ∧ (0 ≤ x_22_1.toInt ∧ x_22_1.toInt ≤ 1000002) ∧ (CE x_22_2) ∧ (TE x_22_3) ∧ (0 ≤ x_22_7.toInt ∧ x_22_7.toInt ≤ 39) ∧ (WA x_22_12) ∧ (BU x_22_13) ∧ (0 ≤ x_22_14.toInt ∧ x_22_14.toInt ≤ 16) ∧ (0 ≤ x_22_15.toInt ∧ x_22_15.toInt ≤ 15) ∧ (DI x_22_16 x_22_17 x_22_18 x_22_19 x_22_20) → Qb x_22_0 x_22_1 x_22_2 x_22_3 x_22_4 x_22_5 x_22_6 x_22_7 x_22_8 x_22_9 x_22_10 x_22_11 x_22_12 x_22_13 x_22_14 x_22_15 x_22_16 x_22_17 x_22_18 x_22_19 x_22_20) : ∀ (n : Nat) (x_22_0 : Int32) (x_22_1 : Int32) (x_22_2 : Nat → Int32) (x_22_3 : Nat → Int32) (x_22_4 : Int64) (x_22_5 : Value) (x_22_6 : Value) (x_22_7 : Int32) (x_22_8 : Int32) (x_22_9 : Int32) (x_22_10 : Int32) (x_22_11 : Nat → Int64) (x_22_12 : Nat → Int32) (x_22_13 : Nat → Int32) (x_22_14 : Int32) (x_22_15 : Int32) (x_22_16 : Nat → Int32) (x_22_17 : Nat → Int32) (x_22_18 : Nat → Int32) (x_22_19 : Nat → Int32) (x_22_20 : Nat → Int32), (0 ≤ x_22_0.toInt ∧ x_22_0.toInt ≤ 60) ∧ (0 ≤ x_22_1.toInt ∧ x_22_1.toInt ≤ 1000002) ∧ (CE x_22_2) ∧ (TE x_22_3) ∧ (0 ≤ x_22_7.toInt ∧ x_22_7.toInt ≤ 39) ∧ (WA x_22_12) ∧ (BU x_22_13) ∧ (0 ≤ x_22_14.toInt ∧ x_22_14.toInt ≤ 16) ∧ (0 ≤ x_22_15.toInt ∧ x_22_15.toInt ≤ 15) ∧ (DI x_22_16 x_22_17 x_22_18 x_22_19 x_22_20) → 61 - x_22_0.toInt < (n : Int) → wl_X7_runSeasons_T_22 b h0_world h0_world_lawCount h0_world_force h0_world_crew_count f_h0_world_rock_kind f_h0_world_laws h0_asker_done h0_asker_latest t t_clauses t_length n_t_heads f_t_heads n_t_code f_t_code h0_world_folk_listeners f_h0_world_folk_column f_h0_world_rock_hard Qb n x_22_0 x_22_1 x_22_2 x_22_3 x_22_4 x_22_5 x_22_6 x_22_7 x_22_8 x_22_9 x_22_10 x_22_11 x_22_12 x_22_13 x_22_14 x_22_15 x_22_16 x_22_17 x_22_18 x_22_19 x_22_20 := by
  intro n
  induction n with
  | zero =>
    intro x_22_0 x_22_1 x_22_2 x_22_3 x_22_4 x_22_5 x_22_6 x_22_7 x_22_8 x_22_9 x_22_10 x_22_11 x_22_12 x_22_13 x_22_14 x_22_15 x_22_16 x_22_17 x_22_18 x_22_19 x_22_20 hI hm
    exfalso; have hm : 61 - x_22_0.toInt < 0 := hm; omega
  | succ n ih =>
    intro x_22_0 x_22_1 x_22_2 x_22_3 x_22_4 x_22_5 x_22_6 x_22_7 x_22_8 x_22_9 x_22_10 x_22_11 x_22_12 x_22_13 x_22_14 x_22_15 x_22_16 x_22_17 x_22_18 x_22_19 x_22_20 hI hm
    have hm : 61 - x_22_0.toInt < (n : Int) + 1 := by simpa using hm
    have h_x_22_0 := hI.1
    have h_x_22_1 := hI.2.1
    have h_x_22_2 := hI.2.2.1
    have h_x_22_3 := hI.2.2.2.1
    have h_x_22_7 := hI.2.2.2.2.1
    have h_x_22_12 := hI.2.2.2.2.2.1
    have h_x_22_13 := hI.2.2.2.2.2.2.1
    have h_x_22_14 := hI.2.2.2.2.2.2.2.1
    have h_x_22_15 := hI.2.2.2.2.2.2.2.2.1
    have h_rel0 := hI.2.2.2.2.2.2.2.2.2
    unfold wl_X7_runSeasons_T_22
    by_cases c4 : b ≤ x_22_0
    · refine br1 c4 ?_
      have d5 := le_z (a := b) (b := x_22_0) (x := (Int32.toInt b)) (y := (Int32.toInt x_22_0)) rfl rfl c4
      exact KX _ _ _ _ _ _ _ _ _ _ _ _ _ _ _ _ _ _ _ _ _ ⟨⟨by omega, by omega⟩, ⟨by omega, by omega⟩, h_x_22_2, h_x_22_3, ⟨by omega, by omega⟩, h_x_22_12, h_x_22_13, ⟨by omega, by omega⟩, ⟨by omega, by omega⟩, h_rel0⟩
    · refine br0 c4 ?_
      have d6 := nle_z (a := b) (b := x_22_0) (x := (Int32.toInt b)) (y := (Int32.toInt x_22_0)) rfl rfl c4
      refine ⟨z_ne (x := (Int32.toInt h0_world_crew_count)) (y := 0) rfl rfl (by omega), ?_⟩
      refine s_X7_tryHaul_T (irm (irm ((x_22_1 * 1103) + 12345) 1000003) h0_world_crew_count) h0_world h0_world_lawCount h0_world_force h0_world_crew_count (x_22_2) (x_22_3) (f_h0_world_rock_kind) (f_h0_world_laws) x_22_5 x_22_6 x_22_7 x_22_8 x_22_9 h0_asker_done h0_asker_latest x_22_10 t t_clauses t_length n_t_heads (f_t_heads) n_t_code (f_t_code) (x_22_11) h0_world_folk_listeners (f_h0_world_folk_column) (f_h0_world_rock_hard) (x_22_12) (x_22_13) x_22_14 x_22_15 (x_22_16) (x_22_17) (x_22_18) (x_22_19) (x_22_20) ⟨by omega, by omega⟩ ⟨by omega, by omega⟩ ⟨by omega, by omega⟩ h_x_22_2 h_x_22_3 h_f_h0_world_rock_kind ⟨by omega, by omega⟩ ⟨by omega, by omega⟩ ⟨by omega, by omega⟩ h_f_t_code ⟨by omega, by omega⟩ h_f_h0_world_folk_column h_f_h0_world_rock_hard h_x_22_12 h_x_22_13 ⟨by omega, by omega⟩ ⟨by omega, by omega⟩ (by omega) (by omega) (by omega) (by assumption) h_rel0 (fun r7 u8_0 u8_1 u8_2 u8_3 u8_4 u8_5 u8_6 u8_7 u8_8 u8_9 u8_10 u8_11 u8_12 u8_13 u8_14 u8_15 u8_16 H9 => ?_)
      have j10 := H9.1
      have j11 := H9.2.1
      have j12 := H9.2.2.1
      have j13 := H9.2.2.2.1
      have j14 := H9.2.2.2.2.1
      have j15 := H9.2.2.2.2.2.1
      have j16 := H9.2.2.2.2.2.2.1
      have j17 := H9.2.2.2.2.2.2.2
      refine un17_i ?_
      by_cases c18 : 0 ≤ r7
      · refine br1 c18 ?_
        have d19 := le_z (a := 0) (b := r7) (x := 0) (y := (Int32.toInt r7)) rfl rfl c18
        have t20 : (Int32.toInt (x_22_0 + 1)) = (Int32.toInt x_22_0) + 1 := add_z rfl rfl (by omega) (by omega)
        have t21 : (Int32.toInt (x_22_1 * 1103)) = (Int32.toInt x_22_1) * 1103 := mul_z rfl rfl (by omega) (by omega)
        have t22 : (Int32.toInt ((x_22_1 * 1103) + 12345)) = (Int32.toInt (x_22_1 * 1103)) + 12345 := add_z rfl rfl (by omega) (by omega)
        have t23 : (Int32.toInt (irm ((x_22_1 * 1103) + 12345) 1000003)) = (Int32.toInt ((x_22_1 * 1103) + 12345)) % 1000003 := irm_z rfl rfl (by omega) (by omega)
        have t24 : (Int32.toInt ((irm ((x_22_1 * 1103) + 12345) 1000003) * 1103)) = (Int32.toInt (irm ((x_22_1 * 1103) + 12345) 1000003)) * 1103 := mul_z rfl rfl (by omega) (by omega)
        have t25 : (Int32.toInt (((irm ((x_22_1 * 1103) + 12345) 1000003) * 1103) + 12345)) = (Int32.toInt ((irm ((x_22_1 * 1103) + 12345) 1000003) * 1103)) + 12345 := add_z rfl rfl (by omega) (by omega)
        have t26 : (Int32.toInt (irm (((irm ((x_22_1 * 1103) + 12345) 1000003) * 1103) + 12345) 1000003)) = (Int32.toInt (((irm ((x_22_1 * 1103) + 12345) 1000003) * 1103) + 12345)) % 1000003 := irm_z rfl rfl (by omega) (by omega)
        exact ih _ _ _ _ _ _ _ _ _ _ _ _ _ _ _ _ _ _ _ _ _ ⟨⟨by omega, by omega⟩, ⟨by omega, by omega⟩, h_x_22_2, j11, ⟨by omega, by omega⟩, j13, j14, ⟨by omega, by omega⟩, ⟨by omega, by omega⟩, j17⟩ (by omega)
      · refine br0 c18 ?_
        have d27 := nle_z (a := 0) (b := r7) (x := 0) (y := (Int32.toInt r7)) rfl rfl c18
        refine s_X7_tryDig_T (irm (irm ((x_22_1 * 1103) + 12345) 1000003) h0_world_crew_count) (irm (irm (((irm ((x_22_1 * 1103) + 12345) 1000003) * 1103) + 12345) 1000003) 3) h0_world h0_world_lawCount h0_world_force h0_world_crew_count (x_22_2) x_22_4 (f_h0_world_rock_kind) (f_h0_world_laws) u_73_1 u_73_2 u8_3 u8_4 u8_5 h0_asker_done h0_asker_latest u8_6 (u8_0) (f_h0_world_rock_hard) t t_clauses t_length n_t_heads (f_t_heads) n_t_code (f_t_code) (u8_7) h0_world_folk_listeners (f_h0_world_folk_column) (u8_8) (u8_9) u8_10 u8_11 (u8_12) (u8_13) (u8_14) (u8_15) (u8_16) ⟨by omega, by omega⟩ ⟨by omega, by omega⟩ ⟨by omega, by omega⟩ h_x_22_2 h_f_h0_world_rock_kind ⟨by omega, by omega⟩ j11 h_f_h0_world_rock_hard ⟨by omega, by omega⟩ ⟨by omega, by omega⟩ h_f_t_code ⟨by omega, by omega⟩ h_f_h0_world_folk_column j13 j14 ⟨by omega, by omega⟩ ⟨by omega, by omega⟩ (by omega) (by omega) (by omega) (by assumption) j17 (fun r28 u29_0 u29_1 u29_2 u29_3 u29_4 u29_5 u29_6 u29_7 u29_8 u29_9 u29_10 u29_11 u29_12 u29_13 u29_14 u29_15 u29_16 H30 => ?_)
        have j31 := H30.1
        have j32 := H30.2.1
        have j33 := H30.2.2.1
        have j34 := H30.2.2.2.1
        have j35 := H30.2.2.2.2.1
        have j36 := H30.2.2.2.2.2.1
        have j37 := H30.2.2.2.2.2.2
        refine un17_i ?_
        by_cases c38 : r28 < 0
        · refine br1 c38 ?_
          have d39 := lt_z (a := r28) (b := 0) (x := (Int32.toInt r28)) (y := 0) rfl rfl c38
          by_cases c40 : 9999 ≤ (u29_8 (0 : Int32).toNatClampNeg)
          · refine br1 c40 ?_
            have g41 : 0 ≤ (Int32.toInt (u29_8 (0 : Int32).toNatClampNeg)) ∧ (Int32.toInt (u29_8 (0 : Int32).toNatClampNeg)) ≤ 9999 := TE.at_0 j34 (rfl : ((0 : Nat) : Int) = 0) (by omega) (by omega)
            have d42 := le_z (a := 9999) (b := (u29_8 (0 : Int32).toNatClampNeg)) (x := 9999) (y := (Int32.toInt (u29_8 (0 : Int32).toNatClampNeg))) rfl rfl c40
            have t43 : (Int32.toInt (x_22_0 + 1)) = (Int32.toInt x_22_0) + 1 := add_z rfl rfl (by omega) (by omega)
            have t44 : (Int32.toInt (x_22_1 * 1103)) = (Int32.toInt x_22_1) * 1103 := mul_z rfl rfl (by omega) (by omega)
            have t45 : (Int32.toInt ((x_22_1 * 1103) + 12345)) = (Int32.toInt (x_22_1 * 1103)) + 12345 := add_z rfl rfl (by omega) (by omega)
            have t46 : (Int32.toInt (irm ((x_22_1 * 1103) + 12345) 1000003)) = (Int32.toInt ((x_22_1 * 1103) + 12345)) % 1000003 := irm_z rfl rfl (by omega) (by omega)
            have t47 : (Int32.toInt ((irm ((x_22_1 * 1103) + 12345) 1000003) * 1103)) = (Int32.toInt (irm ((x_22_1 * 1103) + 12345) 1000003)) * 1103 := mul_z rfl rfl (by omega) (by omega)
            have t48 : (Int32.toInt (((irm ((x_22_1 * 1103) + 12345) 1000003) * 1103) + 12345)) = (Int32.toInt ((irm ((x_22_1 * 1103) + 12345) 1000003) * 1103)) + 12345 := add_z rfl rfl (by omega) (by omega)
            have t49 : (Int32.toInt (irm (((irm ((x_22_1 * 1103) + 12345) 1000003) * 1103) + 12345) 1000003)) = (Int32.toInt (((irm ((x_22_1 * 1103) + 12345) 1000003) * 1103) + 12345)) % 1000003 := irm_z rfl rfl (by omega) (by omega)
            exact ih _ _ _ _ _ _ _ _ _ _ _ _ _ _ _ _ _ _ _ _ _ ⟨⟨by omega, by omega⟩, ⟨by omega, by omega⟩, j32, j34, ⟨by omega, by omega⟩, j13, j14, ⟨by omega, by omega⟩, ⟨by omega, by omega⟩, j37⟩ (by omega)
          · refine br0 c40 ?_
            have g50 : 0 ≤ (Int32.toInt (u29_8 (0 : Int32).toNatClampNeg)) ∧ (Int32.toInt (u29_8 (0 : Int32).toNatClampNeg)) ≤ 9999 := TE.at_0 j34 (rfl : ((0 : Nat) : Int) = 0) (by omega) (by omega)
            have d51 := nle_z (a := 9999) (b := (u29_8 (0 : Int32).toNatClampNeg)) (x := 9999) (y := (Int32.toInt (u29_8 (0 : Int32).toNatClampNeg))) rfl rfl c40
            have t52 : (Int32.toInt (x_22_0 + 1)) = (Int32.toInt x_22_0) + 1 := add_z rfl rfl (by omega) (by omega)
            have t53 : (Int32.toInt (x_22_1 * 1103)) = (Int32.toInt x_22_1) * 1103 := mul_z rfl rfl (by omega) (by omega)
            have t54 : (Int32.toInt ((x_22_1 * 1103) + 12345)) = (Int32.toInt (x_22_1 * 1103)) + 12345 := add_z rfl rfl (by omega) (by omega)
            have t55 : (Int32.toInt (irm ((x_22_1 * 1103) + 12345) 1000003)) = (Int32.toInt ((x_22_1 * 1103) + 12345)) % 1000003 := irm_z rfl rfl (by omega) (by omega)
            have t56 : (Int32.toInt ((irm ((x_22_1 * 1103) + 12345) 1000003) * 1103)) = (Int32.toInt (irm ((x_22_1 * 1103) + 12345) 1000003)) * 1103 := mul_z rfl rfl (by omega) (by omega)
            have t57 : (Int32.toInt (((irm ((x_22_1 * 1103) + 12345) 1000003) * 1103) + 12345)) = (Int32.toInt ((irm ((x_22_1 * 1103) + 12345) 1000003) * 1103)) + 12345 := add_z rfl rfl (by omega) (by omega)
            have t58 : (Int32.toInt (irm (((irm ((x_22_1 * 1103) + 12345) 1000003) * 1103) + 12345) 1000003)) = (Int32.toInt (((irm ((x_22_1 * 1103) + 12345) 1000003) * 1103) + 12345)) % 1000003 := irm_z rfl rfl (by omega) (by omega)
            have t59 : (Int32.toInt ((u29_8 (0 : Int32).toNatClampNeg) + 1)) = (Int32.toInt (u29_8 (0 : Int32).toNatClampNeg)) + 1 := add_z rfl rfl (by omega) (by omega)
            have R60 : TE (upd u29_8 0 ((u29_8 (0 : Int32).toNatClampNeg) + 1)) := TE.up_0 j34 (rfl : ((0 : Nat) : Int) = 0) (by omega) (by omega) (w := (Int32.toInt ((u29_8 (0 : Int32).toNatClampNeg) + 1))) rfl (by omega) (by omega)
            exact ih _ _ _ _ _ _ _ _ _ _ _ _ _ _ _ _ _ _ _ _ _ ⟨⟨by omega, by omega⟩, ⟨by omega, by omega⟩, j32, R60, ⟨by omega, by omega⟩, j13, j14, ⟨by omega, by omega⟩, ⟨by omega, by omega⟩, j37⟩ (by omega)
        · refine br0 c38 ?_
          have d61 := nlt_z (a := r28) (b := 0) (x := (Int32.toInt r28)) (y := 0) rfl rfl c38
          have t62 : (Int32.toInt (x_22_0 + 1)) = (Int32.toInt x_22_0) + 1 := add_z rfl rfl (by omega) (by omega)
          have t63 : (Int32.toInt (x_22_1 * 1103)) = (Int32.toInt x_22_1) * 1103 := mul_z rfl rfl (by omega) (by omega)
          have t64 : (Int32.toInt ((x_22_1 * 1103) + 12345)) = (Int32.toInt (x_22_1 * 1103)) + 12345 := add_z rfl rfl (by omega) (by omega)
          have t65 : (Int32.toInt (irm ((x_22_1 * 1103) + 12345) 1000003)) = (Int32.toInt ((x_22_1 * 1103) + 12345)) % 1000003 := irm_z rfl rfl (by omega) (by omega)
          have t66 : (Int32.toInt ((irm ((x_22_1 * 1103) + 12345) 1000003) * 1103)) = (Int32.toInt (irm ((x_22_1 * 1103) + 12345) 1000003)) * 1103 := mul_z rfl rfl (by omega) (by omega)
          have t67 : (Int32.toInt (((irm ((x_22_1 * 1103) + 12345) 1000003) * 1103) + 12345)) = (Int32.toInt ((irm ((x_22_1 * 1103) + 12345) 1000003) * 1103)) + 12345 := add_z rfl rfl (by omega) (by omega)
          have t68 : (Int32.toInt (irm (((irm ((x_22_1 * 1103) + 12345) 1000003) * 1103) + 12345) 1000003)) = (Int32.toInt (((irm ((x_22_1 * 1103) + 12345) 1000003) * 1103) + 12345)) % 1000003 := irm_z rfl rfl (by omega) (by omega)
          exact ih _ _ _ _ _ _ _ _ _ _ _ _ _ _ _ _ _ _ _ _ _ ⟨⟨by omega, by omega⟩, ⟨by omega, by omega⟩, j32, j34, ⟨by omega, by omega⟩, j13, j14, ⟨by omega, by omega⟩, ⟨by omega, by omega⟩, j37⟩ (by omega)
set_option maxRecDepth 100000 in
theorem s_X7_runSeasons_T (a : Int32) (b : Int32) (h0_world : Nat) (h0_world_lawCount : Int32) (h0_world_force : Int32) (h0_world_crew_count : Int32) (f_h0_world_crew_cell : Nat → Int32) (f_h0_world_term : Nat → Int32) (h0_world_rock_dug : Int64) (f_h0_world_rock_kind : Nat → Int32) (f_h0_world_laws : Nat → Option Nat) (h0_asker_world : Value) (h0_asker_law : Value) (h0_asker_cell : Int32) (h0_asker_shaft : Int32) (h0_asker_kind : Int32) (h0_asker_done : Int32) (h0_asker_latest : Int32) (h0_asker_value : Int32) (t : Nat) (t_clauses : Int32) (t_length : Int32) (n_t_heads : Nat) (f_t_heads : Nat → Int32) (n_t_code : Nat) (f_t_code : Nat → Int32) (f_h0_asker_stack : Nat → Int64) (h0_world_folk_listeners : Int32) (f_h0_world_folk_column : Nat → Int32) (f_h0_world_rock_hard : Nat → Int32) (f_h0_world_rock_water : Nat → Int32) (f_h0_world_crew_buckets : Nat → Int32) (h0_diary_kept : Int32) (h0_diary_latest : Int32) (f_h0_diary_deed : Nat → Int32) (f_h0_diary_whose : Nat → Int32) (f_h0_diary_before : Nat → Int32) (f_h0_diary_bucketsBefore : Nat → Int32) (f_h0_diary_dayBefore : Nat → Int32) (h_a : 0 ≤ a.toInt ∧ a.toInt ≤ 1000000) (h_b : 1 ≤ b.toInt ∧ b.toInt ≤ 60) (h_h0_world_lawCount : 0 ≤ h0_world_lawCount.toInt ∧ h0_world_lawCount.toInt ≤ 6) (h_h0_world_force : 0 ≤ h0_world_force.toInt ∧ h0_world_force.toInt ≤ 5) (h_h0_world_crew_count : 0 ≤ h0_world_crew_count.toInt ∧ h0_world_crew_count.toInt ≤ 6) (h_f_h0_world_crew_cell : CE f_h0_world_crew_cell) (h_f_h0_world_term : TE f_h0_world_term) (h_f_h0_world_rock_kind : KI f_h0_world_rock_kind) (h_h0_asker_cell : 0 ≤ h0_asker_cell.toInt ∧ h0_asker_cell.toInt ≤ 39) (h_t_clauses : 0 ≤ t_clauses.toInt ∧ t_clauses.toInt ≤ 12) (h_t_length : 0 ≤ t_length.toInt ∧ t_length.toInt ≤ 400) (h_f_t_code : CD f_t_code) (h_h0_world_folk_listeners : 0 ≤ h0_world_folk_listeners.toInt ∧ h0_world_folk_listeners.toInt ≤ 5) (h_f_h0_world_folk_column : CO f_h0_world_folk_column) (h_f_h0_world_rock_hard : HA f_h0_world_rock_hard) (h_f_h0_world_rock_water : WA f_h0_world_rock_water) (h_f_h0_world_crew_buckets : BU f_h0_world_crew_buckets) (h_h0_diary_kept : 0 ≤ h0_diary_kept.toInt ∧ h0_diary_kept.toInt ≤ 16) (h_h0_diary_latest : 0 ≤ h0_diary_latest.toInt ∧ h0_diary_latest.toInt ≤ 15) (e_0 : n_t_heads < 100000) (e_1 : t_length.toInt ≤ (n_t_code : Int)) (e_2 : h0_world_force.toInt < h0_world_lawCount.toInt) (e_3 : f_h0_world_laws (Int32.toNatClampNeg h0_world_force) = some t) (e_4 : DI f_h0_diary_deed f_h0_diary_whose f_h0_diary_before f_h0_diary_bucketsBefore f_h0_diary_dayBefore) {Q : ((Nat → Int32) × (Nat → Int32) × Int64 × Value × Value × Int32 × Int32 × Int32 × Int32 × (Nat → Int64) × (Nat → Int32) × (Nat → Int32) × Int32 × Int32 × (Nat → Int32) × (Nat → Int32) × (Nat → Int32) × (Nat → Int32) × (Nat → Int32)) → Prop} (hq : ∀ (u_0 : Nat → Int32) (u_1 : Nat → Int32) (u_2 : Int64) (u_3 : Value) (u_4 : Value) (u_5 : Int32) (u_6 : Int32) (u_7 : Int32) (u_8 : Int32) (u_9 : Nat → Int64) (u_10 : Nat → Int32) (u_11 : Nat → Int32) (u_12 : Int32) (u_13 : Int32) (u_14 : Nat → Int32) (u_15 : Nat → Int32) (u_16 : Nat → Int32) (u_17 : Nat → Int32) (u_18 : Nat → Int32), (CE u_0) ∧ (TE u_1) ∧ (0 ≤ u_5.toInt ∧ u_5.toInt ≤ 39) ∧ (WA u_10) ∧ (BU u_11) ∧ (0 ≤ u_12.toInt ∧ u_12.toInt ≤ 16) ∧ (0 ≤ u_13.toInt ∧ u_13.toInt ≤ 15) ∧ (DI u_14 u_15 u_16 u_17 u_18) → Q (u_0, u_1, u_2, u_3, u_4, u_5, u_6, u_7, u_8, u_9, u_10, u_11, u_12, u_13, u_14, u_15, u_16, u_17, u_18)) : wp_X7_runSeasons_T a b h0_world h0_world_lawCount h0_world_force h0_world_crew_count f_h0_world_crew_cell f_h0_world_term h0_world_rock_dug f_h0_world_rock_kind f_h0_world_laws h0_asker_world h0_asker_law h0_asker_cell h0_asker_shaft h0_asker_kind h0_asker_done h0_asker_latest h0_asker_value t t_clauses t_length n_t_heads f_t_heads n_t_code f_t_code f_h0_asker_stack h0_world_folk_listeners f_h0_world_folk_column f_h0_world_rock_hard f_h0_world_rock_water f_h0_world_crew_buckets h0_diary_kept h0_diary_latest f_h0_diary_deed f_h0_diary_whose f_h0_diary_before f_h0_diary_bucketsBefore f_h0_diary_dayBefore Q := by
  unfold wp_X7_runSeasons_T
  by_cases c1 : h0_world_crew_count = 0
  · refine br1 c1 ?_
    have d2 := eq_z (a := h0_world_crew_count) (b := 0) (x := (Int32.toInt h0_world_crew_count)) (y := 0) rfl rfl c1
    exact hq _ _ _ _ _ _ _ _ _ _ _ _ _ _ _ _ _ _ _ ⟨h_f_h0_world_crew_cell, h_f_h0_world_term, ⟨by omega, by omega⟩, h_f_h0_world_rock_water, h_f_h0_world_crew_buckets, ⟨by omega, by omega⟩, ⟨by omega, by omega⟩, e_4⟩
  · refine br0 c1 ?_
    have d3 := ne_z (a := h0_world_crew_count) (b := 0) (x := (Int32.toInt h0_world_crew_count)) (y := 0) rfl rfl c1
    have k6 : Int32.toInt 0 = 0 := rfl
    refine sl_X7_runSeasons_T_22 b h0_world h0_world_lawCount h0_world_force h0_world_crew_count (f_h0_world_rock_kind) f_h0_world_laws h0_asker_done h0_asker_latest t t_clauses t_length n_t_heads (f_t_heads) n_t_code (f_t_code) h0_world_folk_listeners (f_h0_world_folk_column) (f_h0_world_rock_hard) ⟨by omega, by omega⟩ ⟨by omega, by omega⟩ ⟨by omega, by omega⟩ ⟨by omega, by omega⟩ h_f_h0_world_rock_kind ⟨by omega, by omega⟩ ⟨by omega, by omega⟩ h_f_t_code ⟨by omega, by omega⟩ h_f_h0_world_folk_column h_f_h0_world_rock_hard (by assumption) (by omega) (by omega) (by omega) _ (fun x4_0 x4_1 x4_2 x4_3 x4_4 x4_5 x4_6 x4_7 x4_8 x4_9 x4_10 x4_11 x4_12 x4_13 x4_14 x4_15 x4_16 x4_17 x4_18 x4_19 x4_20 X5 => ?_) 1000000000000 0 a (f_h0_world_crew_cell) (f_h0_world_term) h0_world_rock_dug h0_asker_world h0_asker_law h0_asker_cell h0_asker_shaft h0_asker_kind h0_asker_value (f_h0_asker_stack) (f_h0_world_rock_water) (f_h0_world_crew_buckets) h0_diary_kept h0_diary_latest (f_h0_diary_deed) (f_h0_diary_whose) (f_h0_diary_before) (f_h0_diary_bucketsBefore) (f_h0_diary_dayBefore) ⟨(by decide), ⟨by omega, by omega⟩, h_f_h0_world_crew_cell, h_f_h0_world_term, ⟨by omega, by omega⟩, h_f_h0_world_rock_water, h_f_h0_world_crew_buckets, ⟨by omega, by omega⟩, ⟨by omega, by omega⟩, e_4⟩ (by omega)
    have j7 := X5.1
    have j8 := X5.2.1
    have j9 := X5.2.2.1
    have j10 := X5.2.2.2.1
    have j11 := X5.2.2.2.2.1
    have j12 := X5.2.2.2.2.2.1
    have j13 := X5.2.2.2.2.2.2.1
    have j14 := X5.2.2.2.2.2.2.2.1
    have j15 := X5.2.2.2.2.2.2.2.2.1
    have j16 := X5.2.2.2.2.2.2.2.2.2
    exact hq _ _ _ _ _ _ _ _ _ _ _ _ _ _ _ _ _ _ _ ⟨j9, j10, ⟨by omega, by omega⟩, j12, j13, ⟨by omega, by omega⟩, ⟨by omega, by omega⟩, j16⟩

