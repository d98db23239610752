set_option maxRecDepth 100000 in
theorem s_X11_seasons_Nz (a : Int32) (b : Int32) (h0_drawnDay : Int32) (f_h0_refusals : Nat → Int32) (h0_site_world_lawCount : Int32) (h0_site_world_force : Int32) (h0_site_world_crew_count : Int32) (h0_paper_world : Nat) (h0_paper_world_lawCount : Int32) (h0_paper_world_force : Int32) (h0_paper_world_rock_dug : Int64) (h0_site_world_rock_dug : Int64) (f_h0_site_world_rock_kind : Nat → Int32) (f_h0_paper_world_rock_kind : Nat → Int32) (f_h0_site_world_rock_hard : Nat → Int32) (f_h0_paper_world_rock_hard : Nat → Int32) (f_h0_site_world_rock_water : Nat → Int32) (f_h0_paper_world_rock_water : Nat → Int32) (h0_paper_world_crew_count : Int32) (f_h0_site_world_crew_cell : Nat → Int32) (f_h0_paper_world_crew_cell : Nat → Int32) (f_h0_site_world_crew_buckets : Nat → Int32) (f_h0_paper_world_crew_buckets : Nat → Int32) (h0_paper_world_folk_listeners : Int32) (h0_paper_world_folk_noises : Int32) (h0_paper_world_folk_hushed : Int32) (h0_paper_world_folk_hearsay : Int32) (h0_paper_world_folk_wells : Int32) (h0_site_world_folk_listeners : Int32) (h0_site_world_folk_noises : Int32) (h0_site_world_folk_hushed : Int32) (h0_site_world_folk_hearsay : Int32) (h0_site_world_folk_wells : Int32) (f_h0_site_world_folk_column : Nat → Int32) (f_h0_paper_world_folk_column : Nat → Int32) (f_h0_site_world_folk_ear : Nat → Int32) (f_h0_paper_world_folk_ear : Nat → Int32) (f_h0_site_world_folk_noiseColumn : Nat → Int32) (f_h0_paper_world_folk_noiseColumn : Nat → Int32) (f_h0_site_world_folk_noiseLoud : Nat → Int32) (f_h0_paper_world_folk_noiseLoud : Nat → Int32) (f_h0_site_world_folk_hearsayColumn : Nat → Int32) (f_h0_paper_world_folk_hearsayColumn : Nat → Int32) (f_h0_site_world_folk_hearsayLoud : Nat → Int32) (f_h0_paper_world_folk_hearsayLoud : Nat → Int32) (f_h0_site_world_folk_sounds : Nat → Int32) (f_h0_paper_world_folk_sounds : Nat → Int32) (f_h0_site_world_folk_wet : Nat → Int32) (f_h0_paper_world_folk_wet : Nat → Int32) (f_h0_paper_world_term : Nat → Int32) (f_h0_site_world_term : Nat → Int32) (f_h0_site_world_laws : Nat → Option Nat) (f_h0_paper_world_laws : Nat → Option Nat) (h0_paper_diary_kept : Int32) (h0_paper_diary_latest : Int32) (h0_site_diary_kept : Int32) (h0_site_diary_latest : Int32) (f_h0_site_diary_deed : Nat → Int32) (f_h0_paper_diary_deed : Nat → Int32) (f_h0_site_diary_whose : Nat → Int32) (f_h0_paper_diary_whose : Nat → Int32) (f_h0_site_diary_before : Nat → Int32) (f_h0_paper_diary_before : Nat → Int32) (f_h0_site_diary_bucketsBefore : Nat → Int32) (f_h0_paper_diary_bucketsBefore : Nat → Int32) (f_h0_site_diary_dayBefore : Nat → Int32) (f_h0_paper_diary_dayBefore : Nat → Int32) (h0_asker_world : Value) (h0_asker_law : Value) (h0_asker_cell : Int32) (h0_asker_shaft : Int32) (h0_asker_kind : Int32) (h0_drawnCrew_count : Int32) (f_h0_drawnCrew_cell : Nat → Int32) (f_h0_drawnCrew_buckets : Nat → Int32) (TT : Nat → Prop) {w : Nat → Int} {U : UL} {rf : Nat → Int32} {ls : Nat → List Cls} {D : Option (Nat → Int)} (h_h0_site_world_lawCount : 0 ≤ h0_site_world_lawCount.toInt ∧ h0_site_world_lawCount.toInt ≤ 6) (h_h0_site_world_force : (-1) ≤ h0_site_world_force.toInt ∧ h0_site_world_force.toInt ≤ (-1)) (h_h0_site_world_crew_count : 0 ≤ h0_site_world_crew_count.toInt ∧ h0_site_world_crew_count.toInt ≤ 6) (h_h0_paper_world_lawCount : 0 ≤ h0_paper_world_lawCount.toInt ∧ h0_paper_world_lawCount.toInt ≤ 6) (h_h0_paper_world_force : (-1) ≤ h0_paper_world_force.toInt ∧ h0_paper_world_force.toInt ≤ 5) (h_f_h0_site_world_rock_kind : KI f_h0_site_world_rock_kind) (h_f_h0_paper_world_rock_kind : KI f_h0_paper_world_rock_kind) (h_f_h0_site_world_rock_hard : HA f_h0_site_world_rock_hard) (h_f_h0_paper_world_rock_hard : HA f_h0_paper_world_rock_hard) (h_f_h0_site_world_rock_water : WA f_h0_site_world_rock_water) (h_f_h0_paper_world_rock_water : WA f_h0_paper_world_rock_water) (h_h0_paper_world_crew_count : 0 ≤ h0_paper_world_crew_count.toInt ∧ h0_paper_world_crew_count.toInt ≤ 6) (h_f_h0_site_world_crew_cell : CE f_h0_site_world_crew_cell) (h_f_h0_paper_world_crew_cell : CE f_h0_paper_world_crew_cell) (h_f_h0_site_world_crew_buckets : BU f_h0_site_world_crew_buckets) (h_f_h0_paper_world_crew_buckets : BU f_h0_paper_world_crew_buckets) (h_h0_paper_world_folk_listeners : 0 ≤ h0_paper_world_folk_listeners.toInt ∧ h0_paper_world_folk_listeners.toInt ≤ 5) (h_h0_paper_world_folk_noises : 0 ≤ h0_paper_world_folk_noises.toInt ∧ h0_paper_world_folk_noises.toInt ≤ 6) (h_h0_paper_world_folk_hearsay : 0 ≤ h0_paper_world_folk_hearsay.toInt ∧ h0_paper_world_folk_hearsay.toInt ≤ 8) (h_h0_paper_world_folk_wells : 0 ≤ h0_paper_world_folk_wells.toInt ∧ h0_paper_world_folk_wells.toInt ≤ 10) (h_h0_site_world_folk_listeners : 0 ≤ h0_site_world_folk_listeners.toInt ∧ h0_site_world_folk_listeners.toInt ≤ 5) (h_h0_site_world_folk_noises : 0 ≤ h0_site_world_folk_noises.toInt ∧ h0_site_world_folk_noises.toInt ≤ 6) (h_h0_site_world_folk_hearsay : 0 ≤ h0_site_world_folk_hearsay.toInt ∧ h0_site_world_folk_hearsay.toInt ≤ 8) (h_h0_site_world_folk_wells : 0 ≤ h0_site_world_folk_wells.toInt ∧ h0_site_world_folk_wells.toInt ≤ 10) (h_f_h0_site_world_folk_column : CO f_h0_site_world_folk_column) (h_f_h0_paper_world_folk_column : CO f_h0_paper_world_folk_column) (h_f_h0_site_world_folk_ear : EA f_h0_site_world_folk_ear) (h_f_h0_paper_world_folk_ear : EA f_h0_paper_world_folk_ear) (h_f_h0_site_world_folk_noiseColumn : NC f_h0_site_world_folk_noiseColumn) (h_f_h0_paper_world_folk_noiseColumn : NC f_h0_paper_world_folk_noiseColumn) (h_f_h0_site_world_folk_noiseLoud : NL f_h0_site_world_folk_noiseLoud) (h_f_h0_paper_world_folk_noiseLoud : NL f_h0_paper_world_folk_noiseLoud) (h_f_h0_site_world_folk_hearsayColumn : HC f_h0_site_world_folk_hearsayColumn) (h_f_h0_paper_world_folk_hearsayColumn : HC f_h0_paper_world_folk_hearsayColumn) (h_f_h0_site_world_folk_hearsayLoud : HL f_h0_site_world_folk_hearsayLoud) (h_f_h0_paper_world_folk_hearsayLoud : HL f_h0_paper_world_folk_hearsayLoud) (h_f_h0_paper_world_term : TE f_h0_paper_world_term) (h_f_h0_site_world_term : TE f_h0_site_world_term) (h_h0_paper_diary_kept : 0 ≤ h0_paper_diary_kept.toInt ∧ h0_paper_diary_kept.toInt ≤ 16) (h_h0_paper_diary_latest : 0 ≤ h0_paper_diary_latest.toInt ∧ h0_paper_diary_latest.toInt ≤ 15) (h_h0_site_diary_kept : 0 ≤ h0_site_diary_kept.toInt ∧ h0_site_diary_kept.toInt ≤ 16) (h_h0_site_diary_latest : 0 ≤ h0_site_diary_latest.toInt ∧ h0_site_diary_latest.toInt ≤ 15) (h_h0_asker_cell : 0 ≤ h0_asker_cell.toInt ∧ h0_asker_cell.toInt ≤ 39) (h_h0_drawnCrew_count : 0 ≤ h0_drawnCrew_count.toInt ∧ h0_drawnCrew_count.toInt ≤ 6) (h_f_h0_drawnCrew_cell : CE f_h0_drawnCrew_cell) (h_f_h0_drawnCrew_buckets : BU f_h0_drawnCrew_buckets) (e_0 : RXw f_h0_site_world_rock_kind f_h0_site_world_rock_hard f_h0_site_world_rock_water h0_site_world_rock_dug f_h0_site_world_crew_cell f_h0_site_world_crew_buckets h0_site_world_crew_count f_h0_site_world_folk_column f_h0_site_world_folk_ear h0_site_world_folk_listeners f_h0_site_world_folk_noiseColumn f_h0_site_world_folk_noiseLoud h0_site_world_folk_noises h0_site_world_folk_hushed f_h0_site_world_folk_hearsayColumn f_h0_site_world_folk_hearsayLoud h0_site_world_folk_hearsay f_h0_site_world_folk_sounds f_h0_site_world_folk_wet h0_site_world_folk_wells f_h0_site_world_term h0_site_world_lawCount h0_site_world_force w) (e_1 : RXu f_h0_site_diary_deed f_h0_site_diary_whose f_h0_site_diary_before f_h0_site_diary_bucketsBefore f_h0_site_diary_dayBefore h0_site_diary_kept h0_site_diary_latest w U) (e_2 : DI f_h0_site_diary_deed f_h0_site_diary_whose f_h0_site_diary_before f_h0_site_diary_bucketsBefore f_h0_site_diary_dayBefore) (e_3 : RF f_h0_refusals rf) (e_4 : ∀ k, k < 6 → ∀ v, f_h0_site_world_laws k = some v → TT v) (e_5 : RXn h0_drawnDay h0_drawnCrew_count f_h0_drawnCrew_cell f_h0_drawnCrew_buckets D) {Q : Int32 → (Int32 × Int32 × (Nat → Int32) × Int32 × Int32 × Int64 × (Nat → Int32) × (Nat → Int32) × (Nat → Int32) × Int32 × (Nat → Int32) × (Nat → Int32) × Int32 × Int32 × Int32 × Int32 × Int32 × (Nat → Int32) × (Nat → Int32) × (Nat → Int32) × (Nat → Int32) × (Nat → Int32) × (Nat → Int32) × (Nat → Int32) × (Nat → Int32) × (Nat → Int32) × (Nat → Option Nat) × Int32 × Int32 × (Nat → Int32) × (Nat → Int32) × (Nat → Int32) × (Nat → Int32) × (Nat → Int32) × Value × Value × Int32 × Int32 × Int32 × Int32 × (Nat → Int32) × (Nat → Int32)) → Prop} (hq : ∀ (r : Int32) (u_0 : Int32) (u_1 : Int32) (u_2 : Nat → Int32) (u_3 : Int32) (u_4 : Int32) (u_5 : Int64) (u_6 : Nat → Int32) (u_7 : Nat → Int32) (u_8 : Nat → Int32) (u_9 : Int32) (u_10 : Nat → Int32) (u_11 : Nat → Int32) (u_12 : Int32) (u_13 : Int32) (u_14 : Int32) (u_15 : Int32) (u_16 : Int32) (u_17 : Nat → Int32) (u_18 : Nat → Int32) (u_19 : Nat → Int32) (u_20 : Nat → Int32) (u_21 : Nat → Int32) (u_22 : Nat → Int32) (u_23 : Nat → Int32) (u_24 : Nat → Int32) (u_25 : Nat → Int32) (u_26 : Nat → Option Nat) (u_27 : Int32) (u_28 : Int32) (u_29 : Nat → Int32) (u_30 : Nat → Int32) (u_31 : Nat → Int32) (u_32 : Nat → Int32) (u_33 : Nat → Int32) (u_34 : Value) (u_35 : Value) (u_36 : Int32) (u_37 : Int32) (u_38 : Int32) (u_39 : Int32) (u_40 : Nat → Int32) (u_41 : Nat → Int32), (0 ≤ u_3.toInt ∧ u_3.toInt ≤ 6) ∧ ((-1) ≤ u_4.toInt ∧ u_4.toInt ≤ 5) ∧ (KI u_6) ∧ (HA u_7) ∧ (WA u_8) ∧ (0 ≤ u_9.toInt ∧ u_9.toInt ≤ 6) ∧ (CE u_10) ∧ (BU u_11) ∧ (0 ≤ u_12.toInt ∧ u_12.toInt ≤ 5) ∧ (0 ≤ u_13.toInt ∧ u_13.toInt ≤ 6) ∧ (0 ≤ u_15.toInt ∧ u_15.toInt ≤ 8) ∧ (0 ≤ u_16.toInt ∧ u_16.toInt ≤ 10) ∧ (CO u_17) ∧ (EA u_18) ∧ (NC u_19) ∧ (NL u_20) ∧ (HC u_21) ∧ (HL u_22) ∧ (TE u_25) ∧ (0 ≤ u_27.toInt ∧ u_27.toInt ≤ 16) ∧ (0 ≤ u_28.toInt ∧ u_28.toInt ≤ 15) ∧ (0 ≤ u_36.toInt ∧ u_36.toInt ≤ 39) ∧ (0 ≤ u_39.toInt ∧ u_39.toInt ≤ 6) ∧ (CE u_40) ∧ (BU u_41) ∧ (u_1.toInt = tlS (seaB w a.toInt b.toInt)) ∧ (RF u_2 (tlR rf (seaB w a.toInt b.toInt))) ∧ (RXn u_0 u_39 u_40 u_41 (seaD D ls w a.toInt b.toInt)) → Q r (u_0, u_1, u_2, u_3, u_4, u_5, u_6, u_7, u_8, u_9, u_10, u_11, u_12, u_13, u_14, u_15, u_16, u_17, u_18, u_19, u_20, u_21, u_22, u_23, u_24, u_25, u_26, u_27, u_28, u_29, u_30, u_31, u_32, u_33, u_34, u_35, u_36, u_37, u_38, u_39, u_40, u_41)) : wp_X11_seasons_N a b h0_drawnDay f_h0_refusals h0_site_world_lawCount h0_site_world_force h0_site_world_crew_count h0_paper_world h0_paper_world_lawCount h0_paper_world_force h0_paper_world_rock_dug h0_site_world_rock_dug f_h0_site_world_rock_kind f_h0_paper_world_rock_kind f_h0_site_world_rock_hard f_h0_paper_world_rock_hard f_h0_site_world_rock_water f_h0_paper_world_rock_water h0_paper_world_crew_count f_h0_site_world_crew_cell f_h0_paper_world_crew_cell f_h0_site_world_crew_buckets f_h0_paper_world_crew_buckets h0_paper_world_folk_listeners h0_paper_world_folk_noises h0_paper_world_folk_hushed h0_paper_world_folk_hearsay h0_paper_world_folk_wells h0_site_world_folk_listeners h0_site_world_folk_noises h0_site_world_folk_hushed h0_site_world_folk_hearsay h0_site_world_folk_wells f_h0_site_world_folk_column f_h0_paper_world_folk_column f_h0_site_world_folk_ear f_h0_paper_world_folk_ear f_h0_site_world_folk_noiseColumn f_h0_paper_world_folk_noiseColumn f_h0_site_world_folk_noiseLoud f_h0_paper_world_folk_noiseLoud f_h0_site_world_folk_hearsayColumn f_h0_paper_world_folk_hearsayColumn f_h0_site_world_folk_hearsayLoud f_h0_paper_world_folk_hearsayLoud f_h0_site_world_folk_sounds f_h0_paper_world_folk_sounds f_h0_site_world_folk_wet f_h0_paper_world_folk_wet f_h0_paper_world_term f_h0_site_world_term f_h0_site_world_laws f_h0_paper_world_laws h0_paper_diary_kept h0_paper_diary_latest h0_site_diary_kept h0_site_diary_latest f_h0_site_diary_deed f_h0_paper_diary_deed f_h0_site_diary_whose f_h0_paper_diary_whose f_h0_site_diary_before f_h0_paper_diary_before f_h0_site_diary_bucketsBefore f_h0_paper_diary_bucketsBefore f_h0_site_diary_dayBefore f_h0_paper_diary_dayBefore h0_asker_world h0_asker_law h0_asker_cell h0_asker_shaft h0_asker_kind h0_drawnCrew_count f_h0_drawnCrew_cell f_h0_drawnCrew_buckets TT Q := by
  unfold wp_X11_seasons_N
  have l_cc0 : h0_site_world_crew_count.toInt = w 0 := RXw.cc e_0
  refine o_X11_isWithin _ _ _ ?_
  by_cases c1 : a < 0
  · refine br1 c1 ?_
    have d2 := lt_z (x := (Int32.toInt a)) (y := 0) rfl rfl c1
    refine br1 (by decide) ?_
    have k3 : Int32.toInt (-1) = (-1) := (by decide)
    refine s_X11_settlez (-1) (f_h0_refusals) (by decide) e_3 (fun r4 u5_0 u5_1 H6 => ?_)
    have j7 := H6.1
    have j8 := H6.2.1
    have j9 := H6.2.2
    refine un2_i ?_
    have hB10 : seaB w a.toInt b.toInt = (Int32.toInt r4) := by unfold seaB; (repeat' split) <;> omega
    exact hq _ _ _ _ _ _ _ _ _ _ _ _ _ _ _ _ _ _ _ _ _ _ _ _ _ _ _ _ _ _ _ _ _ _ _ _ _ _ _ _ _ _ _ ⟨⟨by omega, by omega⟩, ⟨by omega, by omega⟩, h_f_h0_paper_world_rock_kind, h_f_h0_paper_world_rock_hard, h_f_h0_paper_world_rock_water, ⟨by omega, by omega⟩, h_f_h0_paper_world_crew_cell, h_f_h0_paper_world_crew_buckets, ⟨by omega, by omega⟩, ⟨by omega, by omega⟩, ⟨by omega, by omega⟩, ⟨by omega, by omega⟩, h_f_h0_paper_world_folk_column, h_f_h0_paper_world_folk_ear, h_f_h0_paper_world_folk_noiseColumn, h_f_h0_paper_world_folk_noiseLoud, h_f_h0_paper_world_folk_hearsayColumn, h_f_h0_paper_world_folk_hearsayLoud, h_f_h0_paper_world_term, ⟨by omega, by omega⟩, ⟨by omega, by omega⟩, ⟨by omega, by omega⟩, ⟨by omega, by omega⟩, h_f_h0_drawnCrew_cell, h_f_h0_drawnCrew_buckets, (by rw [hB10]; exact j8), (by rw [hB10]; exact j9), (by unfold seaD; rw [if_pos (by omega)]; exact e_5)⟩
  · refine br0 c1 ?_
    have d11 := nlt_z (x := (Int32.toInt a)) (y := 0) rfl rfl c1
    by_cases c12 : 1000001 ≤ a
    · refine br1 c12 ?_
      have d13 := le_z (x := 1000001) (y := (Int32.toInt a)) rfl rfl c12
      refine br1 (by decide) ?_
      have k14 : Int32.toInt (-1) = (-1) := (by decide)
      refine s_X11_settlez (-1) (f_h0_refusals) (by decide) e_3 (fun r15 u16_0 u16_1 H17 => ?_)
      have j18 := H17.1
      have j19 := H17.2.1
      have j20 := H17.2.2
      refine un2_i ?_
      have hB21 : seaB w a.toInt b.toInt = (Int32.toInt r15) := by unfold seaB; (repeat' split) <;> omega
      exact hq _ _ _ _ _ _ _ _ _ _ _ _ _ _ _ _ _ _ _ _ _ _ _ _ _ _ _ _ _ _ _ _ _ _ _ _ _ _ _ _ _ _ _ ⟨⟨by omega, by omega⟩, ⟨by omega, by omega⟩, h_f_h0_paper_world_rock_kind, h_f_h0_paper_world_rock_hard, h_f_h0_paper_world_rock_water, ⟨by omega, by omega⟩, h_f_h0_paper_world_crew_cell, h_f_h0_paper_world_crew_buckets, ⟨by omega, by omega⟩, ⟨by omega, by omega⟩, ⟨by omega, by omega⟩, ⟨by omega, by omega⟩, h_f_h0_paper_world_folk_column, h_f_h0_paper_world_folk_ear, h_f_h0_paper_world_folk_noiseColumn, h_f_h0_paper_world_folk_noiseLoud, h_f_h0_paper_world_folk_hearsayColumn, h_f_h0_paper_world_folk_hearsayLoud, h_f_h0_paper_world_term, ⟨by omega, by omega⟩, ⟨by omega, by omega⟩, ⟨by omega, by omega⟩, ⟨by omega, by omega⟩, h_f_h0_drawnCrew_cell, h_f_h0_drawnCrew_buckets, (by rw [hB21]; exact j19), (by rw [hB21]; exact j20), (by unfold seaD; rw [if_pos (by omega)]; exact e_5)⟩
    · refine br0 c12 ?_
      have d22 := nle_z (x := 1000001) (y := (Int32.toInt a)) rfl rfl c12
      refine br0 (by decide) ?_
      by_cases c23 : b < 1
      · refine br1 c23 ?_
        have d24 := lt_z (x := (Int32.toInt b)) (y := 1) rfl rfl c23
        have k25 : Int32.toInt (-1) = (-1) := (by decide)
        refine s_X11_settlez (-1) (f_h0_refusals) (by decide) e_3 (fun r26 u27_0 u27_1 H28 => ?_)
        have j29 := H28.1
        have j30 := H28.2.1
        have j31 := H28.2.2
        refine un2_i ?_
        have hB32 : seaB w a.toInt b.toInt = (Int32.toInt r26) := by unfold seaB; (repeat' split) <;> omega
        exact hq _ _ _ _ _ _ _ _ _ _ _ _ _ _ _ _ _ _ _ _ _ _ _ _ _ _ _ _ _ _ _ _ _ _ _ _ _ _ _ _ _ _ _ ⟨⟨by omega, by omega⟩, ⟨by omega, by omega⟩, h_f_h0_paper_world_rock_kind, h_f_h0_paper_world_rock_hard, h_f_h0_paper_world_rock_water, ⟨by omega, by omega⟩, h_f_h0_paper_world_crew_cell, h_f_h0_paper_world_crew_buckets, ⟨by omega, by omega⟩, ⟨by omega, by omega⟩, ⟨by omega, by omega⟩, ⟨by omega, by omega⟩, h_f_h0_paper_world_folk_column, h_f_h0_paper_world_folk_ear, h_f_h0_paper_world_folk_noiseColumn, h_f_h0_paper_world_folk_noiseLoud, h_f_h0_paper_world_folk_hearsayColumn, h_f_h0_paper_world_folk_hearsayLoud, h_f_h0_paper_world_term, ⟨by omega, by omega⟩, ⟨by omega, by omega⟩, ⟨by omega, by omega⟩, ⟨by omega, by omega⟩, h_f_h0_drawnCrew_cell, h_f_h0_drawnCrew_buckets, (by rw [hB32]; exact j30), (by rw [hB32]; exact j31), (by unfold seaD; rw [if_pos (by omega)]; exact e_5)⟩
      · refine br0 c23 ?_
        have d33 := nlt_z (x := (Int32.toInt b)) (y := 1) rfl rfl c23
        by_cases c34 : b ≤ 60
        · refine br1 c34 ?_
          have d35 := le_z (x := (Int32.toInt b)) (y := 60) rfl rfl c34
          by_cases c36 : h0_site_world_crew_count = 0
          · refine br1 c36 ?_
            have d37 := eq_z (x := (Int32.toInt h0_site_world_crew_count)) (y := 0) rfl rfl c36
            have k38 : Int32.toInt (-3) = (-3) := (by decide)
            refine s_X11_settlez (-3) (f_h0_refusals) (by decide) e_3 (fun r39 u40_0 u40_1 H41 => ?_)
            have j42 := H41.1
            have j43 := H41.2.1
            have j44 := H41.2.2
            refine un2_i ?_
            have hB45 : seaB w a.toInt b.toInt = (Int32.toInt r39) := by unfold seaB; (repeat' split) <;> omega
            exact hq _ _ _ _ _ _ _ _ _ _ _ _ _ _ _ _ _ _ _ _ _ _ _ _ _ _ _ _ _ _ _ _ _ _ _ _ _ _ _ _ _ _ _ ⟨⟨by omega, by omega⟩, ⟨by omega, by omega⟩, h_f_h0_paper_world_rock_kind, h_f_h0_paper_world_rock_hard, h_f_h0_paper_world_rock_water, ⟨by omega, by omega⟩, h_f_h0_paper_world_crew_cell, h_f_h0_paper_world_crew_buckets, ⟨by omega, by omega⟩, ⟨by omega, by omega⟩, ⟨by omega, by omega⟩, ⟨by omega, by omega⟩, h_f_h0_paper_world_folk_column, h_f_h0_paper_world_folk_ear, h_f_h0_paper_world_folk_noiseColumn, h_f_h0_paper_world_folk_noiseLoud, h_f_h0_paper_world_folk_hearsayColumn, h_f_h0_paper_world_folk_hearsayLoud, h_f_h0_paper_world_term, ⟨by omega, by omega⟩, ⟨by omega, by omega⟩, ⟨by omega, by omega⟩, ⟨by omega, by omega⟩, h_f_h0_drawnCrew_cell, h_f_h0_drawnCrew_buckets, (by rw [hB45]; exact j43), (by rw [hB45]; exact j44), (by unfold seaD; rw [if_pos (by omega)]; exact e_5)⟩
          · refine br0 c36 ?_
            have d46 := ne_z (x := (Int32.toInt h0_site_world_crew_count)) (y := 0) rfl rfl c36
            refine s_X7_copyFromz h0_site_world_lawCount h0_site_world_force h0_site_world_rock_dug (f_h0_site_world_rock_kind) (f_h0_paper_world_rock_kind) (f_h0_site_world_rock_hard) (f_h0_paper_world_rock_hard) (f_h0_site_world_rock_water) (f_h0_paper_world_rock_water) h0_site_world_crew_count (f_h0_site_world_crew_cell) (f_h0_paper_world_crew_cell) (f_h0_site_world_crew_buckets) (f_h0_paper_world_crew_buckets) h0_site_world_folk_listeners h0_site_world_folk_noises h0_site_world_folk_hushed h0_site_world_folk_hearsay h0_site_world_folk_wells (f_h0_site_world_folk_column) (f_h0_paper_world_folk_column) (f_h0_site_world_folk_ear) (f_h0_paper_world_folk_ear) (f_h0_site_world_folk_noiseColumn) (f_h0_paper_world_folk_noiseColumn) (f_h0_site_world_folk_noiseLoud) (f_h0_paper_world_folk_noiseLoud) (f_h0_site_world_folk_hearsayColumn) (f_h0_paper_world_folk_hearsayColumn) (f_h0_site_world_folk_hearsayLoud) (f_h0_paper_world_folk_hearsayLoud) (f_h0_site_world_folk_sounds) (f_h0_paper_world_folk_sounds) (f_h0_site_world_folk_wet) (f_h0_paper_world_folk_wet) (f_h0_paper_world_term) (f_h0_site_world_term) (f_h0_site_world_laws) (f_h0_paper_world_laws) h0_site_diary_kept h0_site_diary_latest (f_h0_site_diary_deed) (f_h0_paper_diary_deed) (f_h0_site_diary_whose) (f_h0_paper_diary_whose) (f_h0_site_diary_before) (f_h0_paper_diary_before) (f_h0_site_diary_bucketsBefore) (f_h0_paper_diary_bucketsBefore) (f_h0_site_diary_dayBefore) (f_h0_paper_diary_dayBefore) TT ⟨by omega, by omega⟩ ⟨by omega, by omega⟩ h_f_h0_site_world_rock_kind h_f_h0_paper_world_rock_kind h_f_h0_site_world_rock_hard h_f_h0_paper_world_rock_hard h_f_h0_site_world_rock_water h_f_h0_paper_world_rock_water ⟨by omega, by omega⟩ h_f_h0_site_world_crew_cell h_f_h0_paper_world_crew_cell h_f_h0_site_world_crew_buckets h_f_h0_paper_world_crew_buckets ⟨by omega, by omega⟩ ⟨by omega, by omega⟩ ⟨by omega, by omega⟩ ⟨by omega, by omega⟩ h_f_h0_site_world_folk_column h_f_h0_paper_world_folk_column h_f_h0_site_world_folk_ear h_f_h0_paper_world_folk_ear h_f_h0_site_world_folk_noiseColumn h_f_h0_paper_world_folk_noiseColumn h_f_h0_site_world_folk_noiseLoud h_f_h0_paper_world_folk_noiseLoud h_f_h0_site_world_folk_hearsayColumn h_f_h0_paper_world_folk_hearsayColumn h_f_h0_site_world_folk_hearsayLoud h_f_h0_paper_world_folk_hearsayLoud h_f_h0_paper_world_term h_f_h0_site_world_term ⟨by omega, by omega⟩ ⟨by omega, by omega⟩ e_4 e_2 e_0 e_1 (fun u47_0 u47_1 u47_2 u47_3 u47_4 u47_5 u47_6 u47_7 u47_8 u47_9 u47_10 u47_11 u47_12 u47_13 u47_14 u47_15 u47_16 u47_17 u47_18 u47_19 u47_20 u47_21 u47_22 u47_23 u47_24 u47_25 u47_26 u47_27 u47_28 u47_29 u47_30 H48 => ?_)
            have j49 := H48.1
            have j50 := H48.2.1
            have j51 := H48.2.2.1
            have j52 := H48.2.2.2.1
            have j53 := H48.2.2.2.2.1
            have j54 := H48.2.2.2.2.2.1
            have j55 := H48.2.2.2.2.2.2.1
            have j56 := H48.2.2.2.2.2.2.2.1
            have j57 := H48.2.2.2.2.2.2.2.2.1
            have j58 := H48.2.2.2.2.2.2.2.2.2.1
            have j59 := H48.2.2.2.2.2.2.2.2.2.2.1
            have j60 := H48.2.2.2.2.2.2.2.2.2.2.2.1
            have j61 := H48.2.2.2.2.2.2.2.2.2.2.2.2.1
            have j62 := H48.2.2.2.2.2.2.2.2.2.2.2.2.2.1
            have j63 := H48.2.2.2.2.2.2.2.2.2.2.2.2.2.2.1
            have j64 := H48.2.2.2.2.2.2.2.2.2.2.2.2.2.2.2.1
            have j65 := H48.2.2.2.2.2.2.2.2.2.2.2.2.2.2.2.2.1
            have j66 := H48.2.2.2.2.2.2.2.2.2.2.2.2.2.2.2.2.2.1
            have j67 := H48.2.2.2.2.2.2.2.2.2.2.2.2.2.2.2.2.2.2.1
            have j68 := H48.2.2.2.2.2.2.2.2.2.2.2.2.2.2.2.2.2.2.2.1
            have j69 := H48.2.2.2.2.2.2.2.2.2.2.2.2.2.2.2.2.2.2.2.2.1
            have j70 := H48.2.2.2.2.2.2.2.2.2.2.2.2.2.2.2.2.2.2.2.2.2.1
            have j71 := H48.2.2.2.2.2.2.2.2.2.2.2.2.2.2.2.2.2.2.2.2.2.2.1
            have j72 := H48.2.2.2.2.2.2.2.2.2.2.2.2.2.2.2.2.2.2.2.2.2.2.2.1
            have j73 := H48.2.2.2.2.2.2.2.2.2.2.2.2.2.2.2.2.2.2.2.2.2.2.2.2.1
            have j74 := H48.2.2.2.2.2.2.2.2.2.2.2.2.2.2.2.2.2.2.2.2.2.2.2.2.2.1
            have j75 := H48.2.2.2.2.2.2.2.2.2.2.2.2.2.2.2.2.2.2.2.2.2.2.2.2.2.2
            refine un31_i ?_
            have zu47_1 : (u47_1).toInt = (h0_site_world_force).toInt := congrArg Int32.toInt j72
            have zu47_0 : (u47_0).toInt = (h0_site_world_lawCount).toInt := congrArg Int32.toInt j71
            have lw76 := fun k hk v (hv : u47_23 k = some v) => e_4 k hk v ((j70 k hk).symm.trans hv)
            have cc6 := RXw.cc j74
            have cc7 := RXw.cc e_0
            have cc6 : u47_6.toInt = w 0 := cc6
            have cc7 : h0_site_world_crew_count.toInt = w 0 := cc7
            refine s_X7_runSeasons_Nz (ls := ls) a b h0_paper_world u47_0 u47_1 u47_6 (u47_7) (u47_22) u47_2 (u47_3) (u47_23) h0_asker_world h0_asker_law h0_asker_cell h0_asker_shaft h0_asker_kind (u47_5) (u47_8) u47_24 u47_25 (u47_26) (u47_27) (u47_28) (u47_29) (u47_30) (u47_4) ⟨by omega, by omega⟩ ⟨by omega, by omega⟩ ⟨by omega, by omega⟩ ⟨by omega, by omega⟩ ⟨by omega, by omega⟩ j55 j67 j51 ⟨by omega, by omega⟩ j53 j56 ⟨by omega, by omega⟩ ⟨by omega, by omega⟩ j52 j74 j75 j73 (fun u77_0 u77_1 u77_2 u77_3 u77_4 u77_5 u77_6 u77_7 u77_8 u77_9 u77_10 u77_11 u77_12 u77_13 u77_14 u77_15 u77_16 H78 => ?_)
            have j79 := H78.1
            have j80 := H78.2.1
            have j81 := H78.2.2.1
            have j82 := H78.2.2.2.1
            have j83 := H78.2.2.2.2.1
            have j84 := H78.2.2.2.2.2.1
            have j85 := H78.2.2.2.2.2.2.1
            have j86 := H78.2.2.2.2.2.2.2.1
            have j87 := H78.2.2.2.2.2.2.2.2
            refine un17_i ?_
            obtain ⟨U8, hX8, hU8, hm8⟩ := j86
            refine o_X1_copyFrom _ _ _ _ _ _ ?_
            refine un3_i ?_
            refine x_allB (BU.cp j83) ⟨by omega, by omega⟩ (fun r88 H89 => ?_)
            have j91 := H89.1
            have j90 := H89.2
            refine x_allB h_f_h0_site_world_crew_buckets ⟨by omega, by omega⟩ (fun r92 H93 => ?_)
            have j95 := H93.1
            have j94 := H93.2
            have j96 := sumB_mo (f := fun i => ((f_h0_site_world_crew_buckets) i).toInt) (g := fun i => (((va_cpy (u77_9) (f_h0_drawnCrew_buckets) 0 0 6)) i).toInt) (n := ((Int32.toInt h0_site_world_crew_count)).toNat) (m := ((Int32.toInt u47_6)).toNat) (by omega) (fun i hi => by show ((f_h0_site_world_crew_buckets) i).toInt ≤ (((va_cpy (u77_9) (f_h0_drawnCrew_buckets) 0 0 6)) i).toInt; rw [cpy_n (by omega), RXw.bu e_0 i (by omega), RXw.bu hX8 i (by omega)]; exact hm8 i (by omega))
            have t97 : (Int32.toInt (r88 - r92)) = (Int32.toInt r88) - (Int32.toInt r92) := sub_z rfl rfl (by omega) (by omega)
            have t98 := i32_hi (r88 - r92)
            refine s_X11_settlez (r88 - r92) (f_h0_refusals) ⟨by omega, by omega⟩ e_3 (fun r99 u100_0 u100_1 H101 => ?_)
            have j102 := H101.1
            have j103 := H101.2.1
            have j104 := H101.2.2
            refine un2_i ?_
            have g105 : 0 ≤ (Int32.toInt (u77_1 (0 : Int32).toNatClampNeg)) ∧ (Int32.toInt (u77_1 (0 : Int32).toNatClampNeg)) ≤ 9999 := TE.at_0 j80 (rfl : ((0 : Nat) : Int) = 0) (by omega) (by omega)
            have hB106 : seaB w a.toInt b.toInt = 0 := by unfold seaB; (repeat' split) <;> omega
            have g107 : 0 ≤ (Int32.toInt r99) := by omega
            exact hq _ _ _ _ _ _ _ _ _ _ _ _ _ _ _ _ _ _ _ _ _ _ _ _ _ _ _ _ _ _ _ _ _ _ _ _ _ _ _ _ _ _ _ ⟨⟨by omega, by omega⟩, ⟨by omega, by omega⟩, j51, j52, j82, ⟨by omega, by omega⟩, j79, j83, ⟨by omega, by omega⟩, ⟨by omega, by omega⟩, ⟨by omega, by omega⟩, ⟨by omega, by omega⟩, j61, j62, j63, j64, j65, j66, j80, ⟨by omega, by omega⟩, ⟨by omega, by omega⟩, ⟨by omega, by omega⟩, ⟨by omega, by omega⟩, (CE.cp j79), (BU.cp j83), (by rw [hB106]; have q := j103; rw [tlS_p g107] at q; exact q), (by rw [hB106]; have q := j104; rw [tlR_p g107] at q; exact q), (by unfold seaD; rw [if_neg (by omega)]; exact RXn.of hX8 (by omega) (by omega))⟩
        · refine br0 c34 ?_
          have d108 := nle_z (x := (Int32.toInt b)) (y := 60) rfl rfl c34
          have k109 : Int32.toInt (-1) = (-1) := (by decide)
          refine s_X11_settlez (-1) (f_h0_refusals) (by decide) e_3 (fun r110 u111_0 u111_1 H112 => ?_)
          have j113 := H112.1
          have j114 := H112.2.1
          have j115 := H112.2.2
          refine un2_i ?_
          have hB116 : seaB w a.toInt b.toInt = (Int32.toInt r110) := by unfold seaB; (repeat' split) <;> omega
          exact hq _ _ _ _ _ _ _ _ _ _ _ _ _ _ _ _ _ _ _ _ _ _ _ _ _ _ _ _ _ _ _ _ _ _ _ _ _ _ _ _ _ _ _ ⟨⟨by omega, by omega⟩, ⟨by omega, by omega⟩, h_f_h0_paper_world_rock_kind, h_f_h0_paper_world_rock_hard, h_f_h0_paper_world_rock_water, ⟨by omega, by omega⟩, h_f_h0_paper_world_crew_cell, h_f_h0_paper_world_crew_buckets, ⟨by omega, by omega⟩, ⟨by omega, by omega⟩, ⟨by omega, by omega⟩, ⟨by omega, by omega⟩, h_f_h0_paper_world_folk_column, h_f_h0_paper_world_folk_ear, h_f_h0_paper_world_folk_noiseColumn, h_f_h0_paper_world_folk_noiseLoud, h_f_h0_paper_world_folk_hearsayColumn, h_f_h0_paper_world_folk_hearsayLoud, h_f_h0_paper_world_term, ⟨by omega, by omega⟩, ⟨by omega, by omega⟩, ⟨by omega, by omega⟩, ⟨by omega, by omega⟩, h_f_h0_drawnCrew_cell, h_f_h0_drawnCrew_buckets, (by rw [hB116]; exact j114), (by rw [hB116]; exact j115), (by unfold seaD; rw [if_pos (by omega)]; exact e_5)⟩


set_option maxRecDepth 100000 in
theorem s_X11_seasons_Tz (a : Int32) (b : Int32) (h0_drawnDay : Int32) (f_h0_refusals : Nat → Int32) (h0_site_world_lawCount : Int32) (h0_site_world_force : Int32) (h0_site_world_crew_count : Int32) (h0_paper_world : Nat) (h0_paper_world_lawCount : Int32) (h0_paper_world_force : Int32) (h0_paper_world_rock_dug : Int64) (h0_site_world_rock_dug : Int64) (f_h0_site_world_rock_kind : Nat → Int32) (f_h0_paper_world_rock_kind : Nat → Int32) (f_h0_site_world_rock_hard : Nat → Int32) (f_h0_paper_world_rock_hard : Nat → Int32) (f_h0_site_world_rock_water : Nat → Int32) (f_h0_paper_world_rock_water : Nat → Int32) (h0_paper_world_crew_count : Int32) (f_h0_site_world_crew_cell : Nat → Int32) (f_h0_paper_world_crew_cell : Nat → Int32) (f_h0_site_world_crew_buckets : Nat → Int32) (f_h0_paper_world_crew_buckets : Nat → Int32) (h0_paper_world_folk_listeners : Int32) (h0_paper_world_folk_noises : Int32) (h0_paper_world_folk_hushed : Int32) (h0_paper_world_folk_hearsay : Int32) (h0_paper_world_folk_wells : Int32) (h0_site_world_folk_listeners : Int32) (h0_site_world_folk_noises : Int32) (h0_site_world_folk_hushed : Int32) (h0_site_world_folk_hearsay : Int32) (h0_site_world_folk_wells : Int32) (f_h0_site_world_folk_column : Nat → Int32) (f_h0_paper_world_folk_column : Nat → Int32) (f_h0_site_world_folk_ear : Nat → Int32) (f_h0_paper_world_folk_ear : Nat → Int32) (f_h0_site_world_folk_noiseColumn : Nat → Int32) (f_h0_paper_world_folk_noiseColumn : Nat → Int32) (f_h0_site_world_folk_noiseLoud : Nat → Int32) (f_h0_paper_world_folk_noiseLoud : Nat → Int32) (f_h0_site_world_folk_hearsayColumn : Nat → Int32) (f_h0_paper_world_folk_hearsayColumn : Nat → Int32) (f_h0_site_world_folk_hearsayLoud : Nat → Int32) (f_h0_paper_world_folk_hearsayLoud : Nat → Int32) (f_h0_site_world_folk_sounds : Nat → Int32) (f_h0_paper_world_folk_sounds : Nat → Int32) (f_h0_site_world_folk_wet : Nat → Int32) (f_h0_paper_world_folk_wet : Nat → Int32) (f_h0_paper_world_term : Nat → Int32) (f_h0_site_world_term : Nat → Int32) (f_h0_site_world_laws : Nat → Option Nat) (f_h0_paper_world_laws : Nat → Option Nat) (h0_paper_diary_kept : Int32) (h0_paper_diary_latest : Int32) (h0_site_diary_kept : Int32) (h0_site_diary_latest : Int32) (f_h0_site_diary_deed : Nat → Int32) (f_h0_paper_diary_deed : Nat → Int32) (f_h0_site_diary_whose : Nat → Int32) (f_h0_paper_diary_whose : Nat → Int32) (f_h0_site_diary_before : Nat → Int32) (f_h0_paper_diary_before : Nat → Int32) (f_h0_site_diary_bucketsBefore : Nat → Int32) (f_h0_paper_diary_bucketsBefore : Nat → Int32) (f_h0_site_diary_dayBefore : Nat → Int32) (f_h0_paper_diary_dayBefore : Nat → Int32) (h0_asker_world : Value) (h0_asker_law : Value) (h0_asker_cell : Int32) (h0_asker_shaft : Int32) (h0_asker_kind : Int32) (h0_asker_done : Int32) (h0_asker_latest : Int32) (h0_asker_value : Int32) (t : Nat) (t_clauses : Int32) (t_length : Int32) (n_t_heads : Nat) (f_t_heads : Nat → Int32) (n_t_code : Nat) (f_t_code : Nat → Int32) (f_h0_asker_stack : Nat → Int64) (h0_drawnCrew_count : Int32) (f_h0_drawnCrew_cell : Nat → Int32) (f_h0_drawnCrew_buckets : Nat → Int32) (TT : Nat → Prop) {w : Nat → Int} {U : UL} {rf : Nat → Int32} {ls : Nat → List Cls} {D : Option (Nat → Int)} (h_h0_site_world_lawCount : 0 ≤ h0_site_world_lawCount.toInt ∧ h0_site_world_lawCount.toInt ≤ 6) (h_h0_site_world_force : 0 ≤ h0_site_world_force.toInt ∧ h0_site_world_force.toInt ≤ 5) (h_h0_site_world_crew_count : 0 ≤ h0_site_world_crew_count.toInt ∧ h0_site_world_crew_count.toInt ≤ 6) (h_h0_paper_world_lawCount : 0 ≤ h0_paper_world_lawCount.toInt ∧ h0_paper_world_lawCount.toInt ≤ 6) (h_h0_paper_world_force : (-1) ≤ h0_paper_world_force.toInt ∧ h0_paper_world_force.toInt ≤ 5) (h_f_h0_site_world_rock_kind : KI f_h0_site_world_rock_kind) (h_f_h0_paper_world_rock_kind : KI f_h0_paper_world_rock_kind) (h_f_h0_site_world_rock_hard : HA f_h0_site_world_rock_hard) (h_f_h0_paper_world_rock_hard : HA f_h0_paper_world_rock_hard) (h_f_h0_site_world_rock_water : WA f_h0_site_world_rock_water) (h_f_h0_paper_world_rock_water : WA f_h0_paper_world_rock_water) (h_h0_paper_world_crew_count : 0 ≤ h0_paper_world_crew_count.toInt ∧ h0_paper_world_crew_count.toInt ≤ 6) (h_f_h0_site_world_crew_cell : CE f_h0_site_world_crew_cell) (h_f_h0_paper_world_crew_cell : CE f_h0_paper_world_crew_cell) (h_f_h0_site_world_crew_buckets : BU f_h0_site_world_crew_buckets) (h_f_h0_paper_world_crew_buckets : BU f_h0_paper_world_crew_buckets) (h_h0_paper_world_folk_listeners : 0 ≤ h0_paper_world_folk_listeners.toInt ∧ h0_paper_world_folk_listeners.toInt ≤ 5) (h_h0_paper_world_folk_noises : 0 ≤ h0_paper_world_folk_noises.toInt ∧ h0_paper_world_folk_noises.toInt ≤ 6) (h_h0_paper_world_folk_hearsay : 0 ≤ h0_paper_world_folk_hearsay.toInt ∧ h0_paper_world_folk_hearsay.toInt ≤ 8) (h_h0_paper_world_folk_wells : 0 ≤ h0_paper_world_folk_wells.toInt ∧ h0_paper_world_folk_wells.toInt ≤ 10) (h_h0_site_world_folk_listeners : 0 ≤ h0_site_world_folk_listeners.toInt ∧ h0_site_world_folk_listeners.toInt ≤ 5) (h_h0_site_world_folk_noises : 0 ≤ h0_site_world_folk_noises.toInt ∧ h0_site_world_folk_noises.toInt ≤ 6) (h_h0_site_world_folk_hearsay : 0 ≤ h0_site_world_folk_hearsay.toInt ∧ h0_site_world_folk_hearsay.toInt ≤ 8) (h_h0_site_world_folk_wells : 0 ≤ h0_site_world_folk_wells.toInt ∧ h0_site_world_folk_wells.toInt ≤ 10) (h_f_h0_site_world_folk_column : CO f_h0_site_world_folk_column) (h_f_h0_paper_world_folk_column : CO f_h0_paper_world_folk_column) (h_f_h0_site_world_folk_ear : EA f_h0_site_world_folk_ear) (h_f_h0_paper_world_folk_ear : EA f_h0_paper_world_folk_ear) (h_f_h0_site_world_folk_noiseColumn : NC f_h0_site_world_folk_noiseColumn) (h_f_h0_paper_world_folk_noiseColumn : NC f_h0_paper_world_folk_noiseColumn) (h_f_h0_site_world_folk_noiseLoud : NL f_h0_site_world_folk_noiseLoud) (h_f_h0_paper_world_folk_noiseLoud : NL f_h0_paper_world_folk_noiseLoud) (h_f_h0_site_world_folk_hearsayColumn : HC f_h0_site_world_folk_hearsayColumn) (h_f_h0_paper_world_folk_hearsayColumn : HC f_h0_paper_world_folk_hearsayColumn) (h_f_h0_site_world_folk_hearsayLoud : HL f_h0_site_world_folk_hearsayLoud) (h_f_h0_paper_world_folk_hearsayLoud : HL f_h0_paper_world_folk_hearsayLoud) (h_f_h0_paper_world_term : TE f_h0_paper_world_term) (h_f_h0_site_world_term : TE f_h0_site_world_term) (h_h0_paper_diary_kept : 0 ≤ h0_paper_diary_kept.toInt ∧ h0_paper_diary_kept.toInt ≤ 16) (h_h0_paper_diary_latest : 0 ≤ h0_paper_diary_latest.toInt ∧ h0_paper_diary_latest.toInt ≤ 15) (h_h0_site_diary_kept : 0 ≤ h0_site_diary_kept.toInt ∧ h0_site_diary_kept.toInt ≤ 16) (h_h0_site_diary_latest : 0 ≤ h0_site_diary_latest.toInt ∧ h0_site_diary_latest.toInt ≤ 15) (h_h0_asker_cell : 0 ≤ h0_asker_cell.toInt ∧ h0_asker_cell.toInt ≤ 39) (h_t_clauses : 0 ≤ t_clauses.toInt ∧ t_clauses.toInt ≤ 12) (h_t_length : 0 ≤ t_length.toInt ∧ t_length.toInt ≤ 400) (h_f_t_code : CD f_t_code) (h_h0_drawnCrew_count : 0 ≤ h0_drawnCrew_count.toInt ∧ h0_drawnCrew_count.toInt ≤ 6) (h_f_h0_drawnCrew_cell : CE f_h0_drawnCrew_cell) (h_f_h0_drawnCrew_buckets : BU f_h0_drawnCrew_buckets) (e_0 : RXw f_h0_site_world_rock_kind f_h0_site_world_rock_hard f_h0_site_world_rock_water h0_site_world_rock_dug f_h0_site_world_crew_cell f_h0_site_world_crew_buckets h0_site_world_crew_count f_h0_site_world_folk_column f_h0_site_world_folk_ear h0_site_world_folk_listeners f_h0_site_world_folk_noiseColumn f_h0_site_world_folk_noiseLoud h0_site_world_folk_noises h0_site_world_folk_hushed f_h0_site_world_folk_hearsayColumn f_h0_site_world_folk_hearsayLoud h0_site_world_folk_hearsay f_h0_site_world_folk_sounds f_h0_site_world_folk_wet h0_site_world_folk_wells f_h0_site_world_term h0_site_world_lawCount h0_site_world_force w) (e_1 : RXu f_h0_site_diary_deed f_h0_site_diary_whose f_h0_site_diary_before f_h0_site_diary_bucketsBefore f_h0_site_diary_dayBefore h0_site_diary_kept h0_site_diary_latest w U) (e_2 : DI f_h0_site_diary_deed f_h0_site_diary_whose f_h0_site_diary_before f_h0_site_diary_bucketsBefore f_h0_site_diary_dayBefore) (e_3 : RF f_h0_refusals rf) (e_4 : XTx t_clauses t_length n_t_heads f_t_heads n_t_code f_t_code (ls (w 6).toNat)) (e_5 : ∀ q ∈ ls (w 6).toNat, okC q) (e_6 : ∀ k, k < 6 → ∀ v, f_h0_site_world_laws k = some v → TT v ∨ v = t) (e_7 : t_length.toInt ≤ (n_t_code : Int)) (e_8 : n_t_heads < 100000) (e_9 : h0_site_world_force.toInt < h0_site_world_lawCount.toInt) (e_10 : f_h0_site_world_laws (Int32.toNatClampNeg h0_site_world_force) = some t) (e_11 : RXn h0_drawnDay h0_drawnCrew_count f_h0_drawnCrew_cell f_h0_drawnCrew_buckets D) {Q : Int32 → (Int32 × Int32 × (Nat → Int32) × Int32 × Int32 × Int64 × (Nat → Int32) × (Nat → Int32) × (Nat → Int32) × Int32 × (Nat → Int32) × (Nat → Int32) × Int32 × Int32 × Int32 × Int32 × Int32 × (Nat → Int32) × (Nat → Int32) × (Nat → Int32) × (Nat → Int32) × (Nat → Int32) × (Nat → Int32) × (Nat → Int32) × (Nat → Int32) × (Nat → Int32) × (Nat → Option Nat) × Int32 × Int32 × (Nat → Int32) × (Nat → Int32) × (Nat → Int32) × (Nat → Int32) × (Nat → Int32) × Value × Value × Int32 × Int32 × Int32 × Int32 × (Nat → Int64) × Int32 × (Nat → Int32) × (Nat → Int32)) → Prop} (hq : ∀ (r : Int32) (u_0 : Int32) (u_1 : Int32) (u_2 : Nat → Int32) (u_3 : Int32) (u_4 : Int32) (u_5 : Int64) (u_6 : Nat → Int32) (u_7 : Nat → Int32) (u_8 : Nat → Int32) (u_9 : Int32) (u_10 : Nat → Int32) (u_11 : Nat → Int32) (u_12 : Int32) (u_13 : Int32) (u_14 : Int32) (u_15 : Int32) (u_16 : Int32) (u_17 : Nat → Int32) (u_18 : Nat → Int32) (u_19 : Nat → Int32) (u_20 : Nat → Int32) (u_21 : Nat → Int32) (u_22 : Nat → Int32) (u_23 : Nat → Int32) (u_24 : Nat → Int32) (u_25 : Nat → Int32) (u_26 : Nat → Option Nat) (u_27 : Int32) (u_28 : Int32) (u_29 : Nat → Int32) (u_30 : Nat → Int32) (u_31 : Nat → Int32) (u_32 : Nat → Int32) (u_33 : Nat → Int32) (u_34 : Value) (u_35 : Value) (u_36 : Int32) (u_37 : Int32) (u_38 : Int32) (u_39 : Int32) (u_40 : Nat → Int64) (u_41 : Int32) (u_42 : Nat → Int32) (u_43 : Nat → Int32), (0 ≤ u_3.toInt ∧ u_3.toInt ≤ 6) ∧ ((-1) ≤ u_4.toInt ∧ u_4.toInt ≤ 5) ∧ (KI u_6) ∧ (HA u_7) ∧ (WA u_8) ∧ (0 ≤ u_9.toInt ∧ u_9.toInt ≤ 6) ∧ (CE u_10) ∧ (BU u_11) ∧ (0 ≤ u_12.toInt ∧ u_12.toInt ≤ 5) ∧ (0 ≤ u_13.toInt ∧ u_13.toInt ≤ 6) ∧ (0 ≤ u_15.toInt ∧ u_15.toInt ≤ 8) ∧ (0 ≤ u_16.toInt ∧ u_16.toInt ≤ 10) ∧ (CO u_17) ∧ (EA u_18) ∧ (NC u_19) ∧ (NL u_20) ∧ (HC u_21) ∧ (HL u_22) ∧ (TE u_25) ∧ (0 ≤ u_27.toInt ∧ u_27.toInt ≤ 16) ∧ (0 ≤ u_28.toInt ∧ u_28.toInt ≤ 15) ∧ (0 ≤ u_36.toInt ∧ u_36.toInt ≤ 39) ∧ (0 ≤ u_41.toInt ∧ u_41.toInt ≤ 6) ∧ (CE u_42) ∧ (BU u_43) ∧ (u_1.toInt = tlS (seaB w a.toInt b.toInt)) ∧ (RF u_2 (tlR rf (seaB w a.toInt b.toInt))) ∧ (RXn u_0 u_41 u_42 u_43 (seaD D ls w a.toInt b.toInt)) → Q r (u_0, u_1, u_2, u_3, u_4, u_5, u_6, u_7, u_8, u_9, u_10, u_11, u_12, u_13, u_14, u_15, u_16, u_17, u_18, u_19, u_20, u_21, u_22, u_23, u_24, u_25, u_26, u_27, u_28, u_29, u_30, u_31, u_32, u_33, u_34, u_35, u_36, u_37, u_38, u_39, u_40, u_41, u_42, u_43)) : wp_X11_seasons_T a b h0_drawnDay f_h0_refusals h0_site_world_lawCount h0_site_world_force h0_site_world_crew_count h0_paper_world h0_paper_world_lawCount h0_paper_world_force h0_paper_world_rock_dug h0_site_world_rock_dug f_h0_site_world_rock_kind f_h0_paper_world_rock_kind f_h0_site_world_rock_hard f_h0_paper_world_rock_hard f_h0_site_world_rock_water f_h0_paper_world_rock_water h0_paper_world_crew_count f_h0_site_world_crew_cell f_h0_paper_world_crew_cell f_h0_site_world_crew_buckets f_h0_paper_world_crew_buckets h0_paper_world_folk_listeners h0_paper_world_folk_noises h0_paper_world_folk_hushed h0_paper_world_folk_hearsay h0_paper_world_folk_wells h0_site_world_folk_listeners h0_site_world_folk_noises h0_site_world_folk_hushed h0_site_world_folk_hearsay h0_site_world_folk_wells f_h0_site_world_folk_column f_h0_paper_world_folk_column f_h0_site_world_folk_ear f_h0_paper_world_folk_ear f_h0_site_world_folk_noiseColumn f_h0_paper_world_folk_noiseColumn f_h0_site_world_folk_noiseLoud f_h0_paper_world_folk_noiseLoud f_h0_site_world_folk_hearsayColumn f_h0_paper_world_folk_hearsayColumn f_h0_site_world_folk_hearsayLoud f_h0_paper_world_folk_hearsayLoud f_h0_site_world_folk_sounds f_h0_paper_world_folk_sounds f_h0_site_world_folk_wet f_h0_paper_world_folk_wet f_h0_paper_world_term f_h0_site_world_term f_h0_site_world_laws f_h0_paper_world_laws h0_paper_diary_kept h0_paper_diary_latest h0_site_diary_kept h0_site_diary_latest f_h0_site_diary_deed f_h0_paper_diary_deed f_h0_site_diary_whose f_h0_paper_diary_whose f_h0_site_diary_before f_h0_paper_diary_before f_h0_site_diary_bucketsBefore f_h0_paper_diary_bucketsBefore f_h0_site_diary_dayBefore f_h0_paper_diary_dayBefore h0_asker_world h0_asker_law h0_asker_cell h0_asker_shaft h0_asker_kind h0_asker_done h0_asker_latest h0_asker_value t t_clauses t_length n_t_heads f_t_heads n_t_code f_t_code f_h0_asker_stack h0_drawnCrew_count f_h0_drawnCrew_cell f_h0_drawnCrew_buckets TT Q := by
  unfold wp_X11_seasons_T
  have l_cc0 : h0_site_world_crew_count.toInt = w 0 := RXw.cc e_0
  refine o_X11_isWithin _ _ _ ?_
  by_cases c1 : a < 0
  · refine br1 c1 ?_
    have d2 := lt_z (x := (Int32.toInt a)) (y := 0) rfl rfl c1
    refine br1 (by decide) ?_
    have k3 : Int32.toInt (-1) = (-1) := (by decide)
    refine s_X11_settlez (-1) (f_h0_refusals) (by decide) e_3 (fun r4 u5_0 u5_1 H6 => ?_)
    have j7 := H6.1
    have j8 := H6.2.1
    have j9 := H6.2.2
    refine un2_i ?_
    have hB10 : seaB w a.toInt b.toInt = (Int32.toInt r4) := by unfold seaB; (repeat' split) <;> omega
    exact hq _ _ _ _ _ _ _ _ _ _ _ _ _ _ _ _ _ _ _ _ _ _ _ _ _ _ _ _ _ _ _ _ _ _ _ _ _ _ _ _ _ _ _ _ _ ⟨⟨by omega, by omega⟩, ⟨by omega, by omega⟩, h_f_h0_paper_world_rock_kind, h_f_h0_paper_world_rock_hard, h_f_h0_paper_world_rock_water, ⟨by omega, by omega⟩, h_f_h0_paper_world_crew_cell, h_f_h0_paper_world_crew_buckets, ⟨by omega, by omega⟩, ⟨by omega, by omega⟩, ⟨by omega, by omega⟩, ⟨by omega, by omega⟩, h_f_h0_paper_world_folk_column, h_f_h0_paper_world_folk_ear, h_f_h0_paper_world_folk_noiseColumn, h_f_h0_paper_world_folk_noiseLoud, h_f_h0_paper_world_folk_hearsayColumn, h_f_h0_paper_world_folk_hearsayLoud, h_f_h0_paper_world_term, ⟨by omega, by omega⟩, ⟨by omega, by omega⟩, ⟨by omega, by omega⟩, ⟨by omega, by omega⟩, h_f_h0_drawnCrew_cell, h_f_h0_drawnCrew_buckets, (by rw [hB10]; exact j8), (by rw [hB10]; exact j9), (by unfold seaD; rw [if_pos (by omega)]; exact e_11)⟩
  · refine br0 c1 ?_
    have d11 := nlt_z (x := (Int32.toInt a)) (y := 0) rfl rfl c1
    by_cases c12 : 1000001 ≤ a
    · refine br1 c12 ?_
      have d13 := le_z (x := 1000001) (y := (Int32.toInt a)) rfl rfl c12
      refine br1 (by decide) ?_
      have k14 : Int32.toInt (-1) = (-1) := (by decide)
      refine s_X11_settlez (-1) (f_h0_refusals) (by decide) e_3 (fun r15 u16_0 u16_1 H17 => ?_)
      have j18 := H17.1
      have j19 := H17.2.1
      have j20 := H17.2.2
      refine un2_i ?_
      have hB21 : seaB w a.toInt b.toInt = (Int32.toInt r15) := by unfold seaB; (repeat' split) <;> omega
      exact hq _ _ _ _ _ _ _ _ _ _ _ _ _ _ _ _ _ _ _ _ _ _ _ _ _ _ _ _ _ _ _ _ _ _ _ _ _ _ _ _ _ _ _ _ _ ⟨⟨by omega, by omega⟩, ⟨by omega, by omega⟩, h_f_h0_paper_world_rock_kind, h_f_h0_paper_world_rock_hard, h_f_h0_paper_world_rock_water, ⟨by omega, by omega⟩, h_f_h0_paper_world_crew_cell, h_f_h0_paper_world_crew_buckets, ⟨by omega, by omega⟩, ⟨by omega, by omega⟩, ⟨by omega, by omega⟩, ⟨by omega, by omega⟩, h_f_h0_paper_world_folk_column, h_f_h0_paper_world_folk_ear, h_f_h0_paper_world_folk_noiseColumn, h_f_h0_paper_world_folk_noiseLoud, h_f_h0_paper_world_folk_hearsayColumn, h_f_h0_paper_world_folk_hearsayLoud, h_f_h0_paper_world_term, ⟨by omega, by omega⟩, ⟨by omega, by omega⟩, ⟨by omega, by omega⟩, ⟨by omega, by omega⟩, h_f_h0_drawnCrew_cell, h_f_h0_drawnCrew_buckets, (by rw [hB21]; exact j19), (by rw [hB21]; exact j20), (by unfold seaD; rw [if_pos (by omega)]; exact e_11)⟩
    · refine br0 c12 ?_
      have d22 := nle_z (x := 1000001) (y := (Int32.toInt a)) rfl rfl c12
      refine br0 (by decide) ?_
      by_cases c23 : b < 1
      · refine br1 c23 ?_
        have d24 := lt_z (x := (Int32.toInt b)) (y := 1) rfl rfl c23
        have k25 : Int32.toInt (-1) = (-1) := (by decide)
        refine s_X11_settlez (-1) (f_h0_refusals) (by decide) e_3 (fun r26 u27_0 u27_1 H28 => ?_)
        have j29 := H28.1
        have j30 := H28.2.1
        have j31 := H28.2.2
        refine un2_i ?_
        have hB32 : seaB w a.toInt b.toInt = (Int32.toInt r26) := by unfold seaB; (repeat' split) <;> omega
        exact hq _ _ _ _ _ _ _ _ _ _ _ _ _ _ _ _ _ _ _ _ _ _ _ _ _ _ _ _ _ _ _ _ _ _ _ _ _ _ _ _ _ _ _ _ _ ⟨⟨by omega, by omega⟩, ⟨by omega, by omega⟩, h_f_h0_paper_world_rock_kind, h_f_h0_paper_world_rock_hard, h_f_h0_paper_world_rock_water, ⟨by omega, by omega⟩, h_f_h0_paper_world_crew_cell, h_f_h0_paper_world_crew_buckets, ⟨by omega, by omega⟩, ⟨by omega, by omega⟩, ⟨by omega, by omega⟩, ⟨by omega, by omega⟩, h_f_h0_paper_world_folk_column, h_f_h0_paper_world_folk_ear, h_f_h0_paper_world_folk_noiseColumn, h_f_h0_paper_world_folk_noiseLoud, h_f_h0_paper_world_folk_hearsayColumn, h_f_h0_paper_world_folk_hearsayLoud, h_f_h0_paper_world_term, ⟨by omega, by omega⟩, ⟨by omega, by omega⟩, ⟨by omega, by omega⟩, ⟨by omega, by omega⟩, h_f_h0_drawnCrew_cell, h_f_h0_drawnCrew_buckets, (by rw [hB32]; exact j30), (by rw [hB32]; exact j31), (by unfold seaD; rw [if_pos (by omega)]; exact e_11)⟩
      · refine br0 c23 ?_
        have d33 := nlt_z (x := (Int32.toInt b)) (y := 1) rfl rfl c23
        by_cases c34 : b ≤ 60
        · refine br1 c34 ?_
          have d35 := le_z (x := (Int32.toInt b)) (y := 60) rfl rfl c34
          by_cases c36 : h0_site_world_crew_count = 0
          · refine br1 c36 ?_
            have d37 := eq_z (x := (Int32.toInt h0_site_world_crew_count)) (y := 0) rfl rfl c36
            have k38 : Int32.toInt (-3) = (-3) := (by decide)
            refine s_X11_settlez (-3) (f_h0_refusals) (by decide) e_3 (fun r39 u40_0 u40_1 H41 => ?_)
            have j42 := H41.1
            have j43 := H41.2.1
            have j44 := H41.2.2
            refine un2_i ?_
            have hB45 : seaB w a.toInt b.toInt = (Int32.toInt r39) := by unfold seaB; (repeat' split) <;> omega
            exact hq _ _ _ _ _ _ _ _ _ _ _ _ _ _ _ _ _ _ _ _ _ _ _ _ _ _ _ _ _ _ _ _ _ _ _ _ _ _ _ _ _ _ _ _ _ ⟨⟨by omega, by omega⟩, ⟨by omega, by omega⟩, h_f_h0_paper_world_rock_kind, h_f_h0_paper_world_rock_hard, h_f_h0_paper_world_rock_water, ⟨by omega, by omega⟩, h_f_h0_paper_world_crew_cell, h_f_h0_paper_world_crew_buckets, ⟨by omega, by omega⟩, ⟨by omega, by omega⟩, ⟨by omega, by omega⟩, ⟨by omega, by omega⟩, h_f_h0_paper_world_folk_column, h_f_h0_paper_world_folk_ear, h_f_h0_paper_world_folk_noiseColumn, h_f_h0_paper_world_folk_noiseLoud, h_f_h0_paper_world_folk_hearsayColumn, h_f_h0_paper_world_folk_hearsayLoud, h_f_h0_paper_world_term, ⟨by omega, by omega⟩, ⟨by omega, by omega⟩, ⟨by omega, by omega⟩, ⟨by omega, by omega⟩, h_f_h0_drawnCrew_cell, h_f_h0_drawnCrew_buckets, (by rw [hB45]; exact j43), (by rw [hB45]; exact j44), (by unfold seaD; rw [if_pos (by omega)]; exact e_11)⟩
          · refine br0 c36 ?_
            have d46 := ne_z (x := (Int32.toInt h0_site_world_crew_count)) (y := 0) rfl rfl c36
            refine s_X7_copyFromz h0_site_world_lawCount h0_site_world_force h0_site_world_rock_dug (f_h0_site_world_rock_kind) (f_h0_paper_world_rock_kind) (f_h0_site_world_rock_hard) (f_h0_paper_world_rock_hard) (f_h0_site_world_rock_water) (f_h0_paper_world_rock_water) h0_site_world_crew_count (f_h0_site_world_crew_cell) (f_h0_paper_world_crew_cell) (f_h0_site_world_crew_buckets) (f_h0_paper_world_crew_buckets) h0_site_world_folk_listeners h0_site_world_folk_noises h0_site_world_folk_hushed h0_site_world_folk_hearsay h0_site_world_folk_wells (f_h0_site_world_folk_column) (f_h0_paper_world_folk_column) (f_h0_site_world_folk_ear) (f_h0_paper_world_folk_ear) (f_h0_site_world_folk_noiseColumn) (f_h0_paper_world_folk_noiseColumn) (f_h0_site_world_folk_noiseLoud) (f_h0_paper_world_folk_noiseLoud) (f_h0_site_world_folk_hearsayColumn) (f_h0_paper_world_folk_hearsayColumn) (f_h0_site_world_folk_hearsayLoud) (f_h0_paper_world_folk_hearsayLoud) (f_h0_site_world_folk_sounds) (f_h0_paper_world_folk_sounds) (f_h0_site_world_folk_wet) (f_h0_paper_world_folk_wet) (f_h0_paper_world_term) (f_h0_site_world_term) (f_h0_site_world_laws) (f_h0_paper_world_laws) h0_site_diary_kept h0_site_diary_latest (f_h0_site_diary_deed) (f_h0_paper_diary_deed) (f_h0_site_diary_whose) (f_h0_paper_diary_whose) (f_h0_site_diary_before) (f_h0_paper_diary_before) (f_h0_site_diary_bucketsBefore) (f_h0_paper_diary_bucketsBefore) (f_h0_site_diary_dayBefore) (f_h0_paper_diary_dayBefore) (fun v => TT v ∨ v = t) ⟨by omega, by omega⟩ ⟨by omega, by omega⟩ h_f_h0_site_world_rock_kind h_f_h0_paper_world_rock_kind h_f_h0_site_world_rock_hard h_f_h0_paper_world_rock_hard h_f_h0_site_world_rock_water h_f_h0_paper_world_rock_water ⟨by omega, by omega⟩ h_f_h0_site_world_crew_cell h_f_h0_paper_world_crew_cell h_f_h0_site_world_crew_buckets h_f_h0_paper_world_crew_buckets ⟨by omega, by omega⟩ ⟨by omega, by omega⟩ ⟨by omega, by omega⟩ ⟨by omega, by omega⟩ h_f_h0_site_world_folk_column h_f_h0_paper_world_folk_column h_f_h0_site_world_folk_ear h_f_h0_paper_world_folk_ear h_f_h0_site_world_folk_noiseColumn h_f_h0_paper_world_folk_noiseColumn h_f_h0_site_world_folk_noiseLoud h_f_h0_paper_world_folk_noiseLoud h_f_h0_site_world_folk_hearsayColumn h_f_h0_paper_world_folk_hearsayColumn h_f_h0_site_world_folk_hearsayLoud h_f_h0_paper_world_folk_hearsayLoud h_f_h0_paper_world_term h_f_h0_site_world_term ⟨by omega, by omega⟩ ⟨by omega, by omega⟩ e_6 e_2 e_0 e_1 (fun u47_0 u47_1 u47_2 u47_3 u47_4 u47_5 u47_6 u47_7 u47_8 u47_9 u47_10 u47_11 u47_12 u47_13 u47_14 u47_15 u47_16 u47_17 u47_18 u47_19 u47_20 u47_21 u47_22 u47_23 u47_24 u47_25 u47_26 u47_27 u47_28 u47_29 u47_30 H48 => ?_)
            have j49 := H48.1
            have j50 := H48.2.1
            have j51 := H48.2.2.1
            have j52 := H48.2.2.2.1
            have j53 := H48.2.2.2.2.1
            have j54 := H48.2.2.2.2.2.1
            have j55 := H48.2.2.2.2.2.2.1
            have j56 := H48.2.2.2.2.2.2.2.1
            have j57 := H48.2.2.2.2.2.2.2.2.1
            have j58 := H48.2.2.2.2.2.2.2.2.2.1
            have j59 := H48.2.2.2.2.2.2.2.2.2.2.1
            have j60 := H48.2.2.2.2.2.2.2.2.2.2.2.1
            have j61 := H48.2.2.2.2.2.2.2.2.2.2.2.2.1
            have j62 := H48.2.2.2.2.2.2.2.2.2.2.2.2.2.1
            have j63 := H48.2.2.2.2.2.2.2.2.2.2.2.2.2.2.1
            have j64 := H48.2.2.2.2.2.2.2.2.2.2.2.2.2.2.2.1
            have j65 := H48.2.2.2.2.2.2.2.2.2.2.2.2.2.2.2.2.1
            have j66 := H48.2.2.2.2.2.2.2.2.2.2.2.2.2.2.2.2.2.1
            have j67 := H48.2.2.2.2.2.2.2.2.2.2.2.2.2.2.2.2.2.2.1
            have j68 := H48.2.2.2.2.2.2.2.2.2.2.2.2.2.2.2.2.2.2.2.1
            have j69 := H48.2.2.2.2.2.2.2.2.2.2.2.2.2.2.2.2.2.2.2.2.1
            have j70 := H48.2.2.2.2.2.2.2.2.2.2.2.2.2.2.2.2.2.2.2.2.2.1
            have j71 := H48.2.2.2.2.2.2.2.2.2.2.2.2.2.2.2.2.2.2.2.2.2.2.1
            have j72 := H48.2.2.2.2.2.2.2.2.2.2.2.2.2.2.2.2.2.2.2.2.2.2.2.1
            have j73 := H48.2.2.2.2.2.2.2.2.2.2.2.2.2.2.2.2.2.2.2.2.2.2.2.2.1
            have j74 := H48.2.2.2.2.2.2.2.2.2.2.2.2.2.2.2.2.2.2.2.2.2.2.2.2.2.1
            have j75 := H48.2.2.2.2.2.2.2.2.2.2.2.2.2.2.2.2.2.2.2.2.2.2.2.2.2.2
            refine un31_i ?_
            have zu47_1 : (u47_1).toInt = (h0_site_world_force).toInt := congrArg Int32.toInt j72
            have zu47_0 : (u47_0).toInt = (h0_site_world_lawCount).toInt := congrArg Int32.toInt j71
            have wu47_1 : u47_23 (Int32.toNatClampNeg u47_1) = some t := by rw [j72, j70 _ (by have q9 := tnz (i := h0_site_world_force) (x := h0_site_world_force.toInt) rfl (by omega); omega)]; assumption
            have lw76 := fun k hk v (hv : u47_23 k = some v) => e_6 k hk v ((j70 k hk).symm.trans hv)
            have cc6 := RXw.cc j74
            have cc7 := RXw.cc e_0
            have cc6 : u47_6.toInt = w 0 := cc6
            have cc7 : h0_site_world_crew_count.toInt = w 0 := cc7
            have fo6 : h0_site_world_force.toInt = w 6 := RXw.fo e_0
            have htx0 : XTx t_clauses t_length n_t_heads f_t_heads n_t_code f_t_code (ls u47_1.toInt.toNat) := by rw [show u47_1.toInt = w 6 by omega]; exact e_4
            have hok0 : ∀ q ∈ ls u47_1.toInt.toNat, okC q := by rw [show u47_1.toInt = w 6 by omega]; exact e_5
            refine s_X7_runSeasons_Tz (ls := ls) a b h0_paper_world u47_0 u47_1 u47_6 (u47_7) (u47_22) u47_2 (u47_3) (u47_23) h0_asker_world h0_asker_law h0_asker_cell h0_asker_shaft h0_asker_kind h0_asker_done h0_asker_latest h0_asker_value t t_clauses t_length n_t_heads (f_t_heads) n_t_code (f_t_code) (f_h0_asker_stack) u47_9 (u47_14) (u47_4) (u47_5) (u47_8) u47_24 u47_25 (u47_26) (u47_27) (u47_28) (u47_29) (u47_30) ⟨by omega, by omega⟩ ⟨by omega, by omega⟩ ⟨by omega, by omega⟩ ⟨by omega, by omega⟩ ⟨by omega, by omega⟩ j55 j67 j51 ⟨by omega, by omega⟩ ⟨by omega, by omega⟩ ⟨by omega, by omega⟩ h_f_t_code ⟨by omega, by omega⟩ j61 j52 j53 j56 ⟨by omega, by omega⟩ ⟨by omega, by omega⟩ j74 j75 j73 htx0 hok0 (by omega) (by omega) (by omega) (by assumption) (fun u77_0 u77_1 u77_2 u77_3 u77_4 u77_5 u77_6 u77_7 u77_8 u77_9 u77_10 u77_11 u77_12 u77_13 u77_14 u77_15 u77_16 u77_17 u77_18 H78 => ?_)
            have j79 := H78.1
            have j80 := H78.2.1
            have j81 := H78.2.2.1
            have j82 := H78.2.2.2.1
            have j83 := H78.2.2.2.2.1
            have j84 := H78.2.2.2.2.2.1
            have j85 := H78.2.2.2.2.2.2.1
            have j86 := H78.2.2.2.2.2.2.2.1
            have j87 := H78.2.2.2.2.2.2.2.2
            refine un19_i ?_
            obtain ⟨U8, hX8, hU8, hm8⟩ := j86
            refine o_X1_copyFrom _ _ _ _ _ _ ?_
            refine un3_i ?_
            refine x_allB (BU.cp j83) ⟨by omega, by omega⟩ (fun r88 H89 => ?_)
            have j91 := H89.1
            have j90 := H89.2
            refine x_allB h_f_h0_site_world_crew_buckets ⟨by omega, by omega⟩ (fun r92 H93 => ?_)
            have j95 := H93.1
            have j94 := H93.2
            have j96 := sumB_mo (f := fun i => ((f_h0_site_world_crew_buckets) i).toInt) (g := fun i => (((va_cpy (u77_11) (f_h0_drawnCrew_buckets) 0 0 6)) i).toInt) (n := ((Int32.toInt h0_site_world_crew_count)).toNat) (m := ((Int32.toInt u47_6)).toNat) (by omega) (fun i hi => by show ((f_h0_site_world_crew_buckets) i).toInt ≤ (((va_cpy (u77_11) (f_h0_drawnCrew_buckets) 0 0 6)) i).toInt; rw [cpy_n (by omega), RXw.bu e_0 i (by omega), RXw.bu hX8 i (by omega)]; exact hm8 i (by omega))
            have t97 : (Int32.toInt (r88 - r92)) = (Int32.toInt r88) - (Int32.toInt r92) := sub_z rfl rfl (by omega) (by omega)
            have t98 := i32_hi (r88 - r92)
            refine s_X11_settlez (r88 - r92) (f_h0_refusals) ⟨by omega, by omega⟩ e_3 (fun r99 u100_0 u100_1 H101 => ?_)
            have j102 := H101.1
            have j103 := H101.2.1
            have j104 := H101.2.2
            refine un2_i ?_
            have g105 : 0 ≤ (Int32.toInt (u77_1 (0 : Int32).toNatClampNeg)) ∧ (Int32.toInt (u77_1 (0 : Int32).toNatClampNeg)) ≤ 9999 := TE.at_0 j80 (rfl : ((0 : Nat) : Int) = 0) (by omega) (by omega)
            have hB106 : seaB w a.toInt b.toInt = 0 := by unfold seaB; (repeat' split) <;> omega
            have g107 : 0 ≤ (Int32.toInt r99) := by omega
            exact hq _ _ _ _ _ _ _ _ _ _ _ _ _ _ _ _ _ _ _ _ _ _ _ _ _ _ _ _ _ _ _ _ _ _ _ _ _ _ _ _ _ _ _ _ _ ⟨⟨by omega, by omega⟩, ⟨by omega, by omega⟩, j51, j52, j82, ⟨by omega, by omega⟩, j79, j83, ⟨by omega, by omega⟩, ⟨by omega, by omega⟩, ⟨by omega, by omega⟩, ⟨by omega, by omega⟩, j61, j62, j63, j64, j65, j66, j80, ⟨by omega, by omega⟩, ⟨by omega, by omega⟩, ⟨by omega, by omega⟩, ⟨by omega, by omega⟩, (CE.cp j79), (BU.cp j83), (by rw [hB106]; have q := j103; rw [tlS_p g107] at q; exact q), (by rw [hB106]; have q := j104; rw [tlR_p g107] at q; exact q), (by unfold seaD; rw [if_neg (by omega)]; exact RXn.of hX8 (by omega) (by omega))⟩
        · refine br0 c34 ?_
          have d108 := nle_z (x := (Int32.toInt b)) (y := 60) rfl rfl c34
          have k109 : Int32.toInt (-1) = (-1) := (by decide)
          refine s_X11_settlez (-1) (f_h0_refusals) (by decide) e_3 (fun r110 u111_0 u111_1 H112 => ?_)
          have j113 := H112.1
          have j114 := H112.2.1
          have j115 := H112.2.2
          refine un2_i ?_
          have hB116 : seaB w a.toInt b.toInt = (Int32.toInt r110) := by unfold seaB; (repeat' split) <;> omega
          exact hq _ _ _ _ _ _ _ _ _ _ _ _ _ _ _ _ _ _ _ _ _ _ _ _ _ _ _ _ _ _ _ _ _ _ _ _ _ _ _ _ _ _ _ _ _ ⟨⟨by omega, by omega⟩, ⟨by omega, by omega⟩, h_f_h0_paper_world_rock_kind, h_f_h0_paper_world_rock_hard, h_f_h0_paper_world_rock_water, ⟨by omega, by omega⟩, h_f_h0_paper_world_crew_cell, h_f_h0_paper_world_crew_buckets, ⟨by omega, by omega⟩, ⟨by omega, by omega⟩, ⟨by omega, by omega⟩, ⟨by omega, by omega⟩, h_f_h0_paper_world_folk_column, h_f_h0_paper_world_folk_ear, h_f_h0_paper_world_folk_noiseColumn, h_f_h0_paper_world_folk_noiseLoud, h_f_h0_paper_world_folk_hearsayColumn, h_f_h0_paper_world_folk_hearsayLoud, h_f_h0_paper_world_term, ⟨by omega, by omega⟩, ⟨by omega, by omega⟩, ⟨by omega, by omega⟩, ⟨by omega, by omega⟩, h_f_h0_drawnCrew_cell, h_f_h0_drawnCrew_buckets, (by rw [hB116]; exact j114), (by rw [hB116]; exact j115), (by unfold seaD; rw [if_pos (by omega)]; exact e_11)⟩

