section
set_option maxRecDepth 100000 in
theorem s_X11_seasons_Nz (a : Int32) (b : Int32) (h0_drawnDay : Int32) (f_h0_refusals : Nat → Int32) (h0_site_world_lawCount : Int32) (h0_site_world_force : Int32) (h0_site_world_crew_count : Int32) (h0_paper_world : Nat) (h0_paper_world_lawCount : Int32) (h0_paper_world_force : Int32) (h0_paper_world_rock_dug : Int64) (h0_site_world_rock_dug : Int64) (f_h0_site_world_rock_kind : Nat → Int32) (f_h0_paper_world_rock_kind : Nat → Int32) (f_h0_site_world_rock_hard : Nat → Int32) (f_h0_paper_world_rock_hard : Nat → Int32) (f_h0_site_world_rock_water : Nat → Int32) (f_h0_paper_world_rock_water : Nat → Int32) (h0_paper_world_crew_count : Int32) (f_h0_site_world_crew_cell : Nat → Int32) (f_h0_paper_world_crew_cell : Nat → Int32) (f_h0_site_world_crew_buckets : Nat → Int32) (f_h0_paper_world_crew_buckets : Nat → Int32) (h0_paper_world_folk_listeners : Int32) (h0_paper_world_folk_noises : Int32) (h0_paper_world_folk_hushed : Int32) (h0_paper_world_folk_hearsay : Int32) (h0_paper_world_folk_wells : Int32) (h0_site_world_folk_listeners : Int32) (h0_site_world_folk_noises : Int32) (h0_site_world_folk_hushed : Int32) (h0_site_world_folk_hearsay : Int32) (h0_site_world_folk_wells : Int32) (f_h0_site_world_folk_column : Nat → Int32) (f_h0_paper_world_folk_column : Nat → Int32) (f_h0_site_world_folk_ear : Nat → Int32) (f_h0_paper_world_folk_ear : Nat → Int32) (f_h0_site_world_folk_noiseColumn : Nat → Int32) (f_h0_paper_world_folk_noiseColumn : Nat → Int32) (f_h0_site_world_folk_noiseLoud : Nat → Int32) (f_h0_paper_world_folk_noiseLoud : Nat → Int32) (f_h0_site_world_folk_hearsayColumn : Nat → Int32) (f_h0_paper_world_folk_hearsayColumn : Nat → Int32) (f_h0_site_world_folk_hearsayLoud : Nat → Int32) (f_h0_paper_world_folk_hearsayLoud : Nat → Int32) (f_h0_site_world_folk_sounds : Nat → Int32) (f_h0_paper_world_folk_sounds : Nat → Int32) (f_h0_site_world_folk_wet : Nat → Int32) (f_h0_paper_world_folk_wet : Nat → Int32) (f_h0_paper_world_term : Nat → Int32) (f_h0_site_world_term : Nat → Int32) (f_h0_site_world_laws : Nat → Option Nat) (f_h0_paper_world_laws : Nat → Option Nat) (h0_paper_diary_kept : Int32) (h0_paper_diary_latest : Int32) (h0_site_diary_kept : Int32) (h0_site_diary_latest : Int32) (f_h0_site_diary_deed : Nat → Int32) (f_h0_paper_diary_deed : Nat → Int32) (f_h0_site_diary_whose : Nat → Int32) (f_h0_paper_diary_whose : Nat → Int32) (f_h0_site_diary_before : Nat → Int32) (f_h0_paper_diary_before : Nat → Int32) (f_h0_site_diary_bucketsBefore : Nat → Int32) (f_h0_paper_diary_bucketsBefore : Nat → Int32) (f_h0_site_diary_dayBefore : Nat → Int32) (f_h0_paper_diary_dayBefore : Nat → Int32) (h0_asker_world : Value) (h0_asker_law : Value) (h0_asker_cell : Int32) (h0_asker_shaft : Int32) (h0_asker_kind : Int32) (h0_drawnCrew_count : Int32) (f_h0_drawnCrew_cell : Nat → Int32) (f_h0_drawnCrew_buckets : Nat → Int32) (TT : Nat → Prop) {w : Nat → Int} {U : UL} {rf : Nat → Int32} {ls : Nat → List Cls} {D : Option (Nat → Int)} (h_h0_site_world_lawCount : 0 ≤ h0_site_world_lawCount.toInt ∧ h0_site_world_lawCount.toInt ≤ 6) (h_h0_site_world_force : (-1) ≤ h0_site_world_force.toInt ∧ h0_site_world_force.toInt ≤ (-1)) (h_h0_site_world_crew_count : 0 ≤ h0_site_world_crew_count.toInt ∧ h0_site_world_crew_count.toInt ≤ 6) (h_h0_paper_world_lawCount : 0 ≤ h0_paper_world_lawCount.toInt ∧ h0_paper_world_lawCount.toInt ≤ 6) (h_h0_paper_world_force : (-1) ≤ h0_paper_world_force.toInt ∧ h0_paper_world_force.toInt ≤ 5) (h_f_h0_site_world_rock_kind : KI f_h0_site_world_rock_kind) (h_f_h0_paper_world_rock_kind : KI f_h0_paper_world_rock_kind) (h_f_h0_site_world_rock_hard : HA f_h0_site_world_rock_hard) (h_f_h0_paper_world_rock_hard : HA f_h0_paper_world_rock_hard) (h_f_h0_site_world_rock_water : WA f_h0_site_world_rock_water) (h_f_h0_paper_world_rock_water : WA f_h0_paper_world_rock_water) (h_h0_paper_world_crew_count : 0 ≤ h0_paper_world_crew_count.toInt ∧ h0_paper_world_crew_count.toInt ≤ 6) (h_f_h0_site_world_crew_cell : CE f_h0_site_world_crew_cell) (h_f_h0_paper_world_crew_cell : CE f_h0_paper_world_crew_cell) (h_f_h0_site_world_crew_buckets : BU f_h0_site_world_crew_buckets) (h_f_h0_paper_world_crew_buckets : BU f_h0_paper_world_crew_buckets) (h_h0_paper_world_folk_listeners : 0 ≤ h0_paper_world_folk_listeners.toInt ∧ h0_paper_world_folk_listeners.toInt ≤ 5) (h_h0_paper_world_folk_noises : 0 ≤ h0_paper_world_folk_noises.toInt ∧ h0_paper_world_folk_noises.toInt ≤ 6) (h_h0_paper_world_folk_hearsay : 0 ≤ h0_paper_world_folk_hearsay.toInt ∧ h0_paper_world_folk_hearsay.toInt ≤ 8) (h_h0_paper_world_folk_wells : 0 ≤ h0_paper_world_folk_wells.toInt ∧ h0_paper_world_folk_wells.toInt ≤ 10) (h_h0_site_world_folk_listeners : 0 ≤ h0_site_world_folk_listeners.toInt ∧ h0_site_world_folk_listeners.toInt ≤ 5) (h_h0_site_world_folk_noises : 0 ≤ h0_site_world_folk_noises.toInt ∧ h0_site_world_folk_noises.toInt ≤ 6) (h_h0_site_world_folk_hearsay : 0 ≤ h0_site_world_folk_hearsay.toInt ∧ h0_site_world_folk_hearsay.toInt ≤ 8) (h_h0_site_world_folk_wells : 0 ≤ h0_site_world_folk_wells.toInt ∧ h0_site_world_folk_wells.toInt ≤ 10) (h_f_h0_site_world_folk_column : CO f_h0_site_world_folk_column) (h_f_h0_paper_world_folk_column : CO f_h0_paper_world_folk_column) (h_f_h0_site_world_folk_ear : EA f_h0_site_world_folk_ear) (h_f_h0_paper_world_folk_ear : EA f_h0_paper_world_folk_ear) (h_f_h0_site_world_folk_noiseColumn : NC f_h0_site_world_folk_noiseColumn) (h_f_h0_paper_world_folk_noiseColumn : NC f_h0_paper_world_folk_noiseColumn) (h_f_h0_site_world_folk_noiseLoud : NL f_h0_site_world_folk_noiseLoud) (h_f_h0_paper_world_folk_noiseLoud : NL f_h0_paper_world_folk_noiseLoud) (h_f_h0_site_world_folk_hearsayColumn : HC f_h0_site_world_folk_hearsayColumn) (h_f_h0_paper_world_folk_hearsayColumn : HC f_h0_paper_world_folk_hearsayColumn) (h_f_h0_site_world_folk_hearsayLoud : HL f_h0_site_world_folk_hearsayLoud) (h_f_h0_paper_world_folk_hearsayLoud : HL f_h0_paper_world_folk_hearsayLoud) (h_f_h0_paper_world_term : TE f_h0_paper_world_term) (h_f_h0_site_world_term : TE f_h0_site_world_term) (h_h0_paper_diary_kept : 0 ≤ h0_paper_diary_kept.toInt ∧ h0_paper_diary_kept.toInt ≤ 16) (h_h0_paper_diary_latest : 0 ≤ h0_paper_diary_latest.toInt ∧ h0_paper_diary_latest.toInt ≤ 15) (h_h0_site_diary_kept : 0 ≤ h0_site_diary_kept.toInt ∧ h0_site_diary_kept.toInt ≤ 16) (h_h0_site_diary_latest : 0 ≤ h0_site_diary_latest.toInt ∧ h0_site_diary_latest.toInt ≤ 15) (h_h0_asker_cell : 0 ≤ h0_asker_cell.toInt ∧ h0_asker_cell.toInt ≤ 39) (h_h0_drawnCrew_count : 0 ≤ h0_drawnCrew_count.toInt ∧ h0_drawnCrew_count.toInt ≤ 6) (h_f_h0_drawnCrew_cell : CE f_h0_drawnCrew_cell) (h_f_h0_drawnCrew_buckets : BU f_h0_drawnCrew_buckets) (e_0 : RXw f_h0_site_world_rock_kind f_h0_site_world_rock_hard f_h0_site_world_rock_water h0_site_world_rock_dug f_h0_site_world_crew_cell f_h0_site_world_crew_buckets h0_site_world_crew_count f_h0_site_world_folk_column f_h0_site_world_folk_ear h0_site_world_folk_listeners f_h0_site_world_folk_noiseColumn f_h0_site_world_folk_noiseLoud h0_site_world_folk_noises h0_site_world_folk_hushed f_h0_site_world_folk_hearsayColumn f_h0_site_world_folk_hearsayLoud h0_site_world_folk_hearsay f_h0_site_world_folk_sounds f_h0_site_world_folk_wet h0_site_world_folk_wells f_h0_site_world_term h0_site_world_lawCount h0_site_world_force w) (e_1 : RXu f_h0_site_diary_deed f_h0_site_diary_whose f_h0_site_diary_before f_h0_site_diary_bucketsBefore f_h0_site_diary_dayBefore h0_site_diary_kept h0_site_diary_latest w U) (e_2 : DI f_h0_site_diary_deed f_h0_site_diary_whose f_h0_site_diary_before f_h0_site_diary_bucketsBefore f_h0_site_diary_dayBefore) (e_3 : RF f_h0_refusals rf) (e_4 : ∀ k, k < 6 → ∀ v, f_h0_site_world_laws k = some v → TT v) (e_5 : RXn h0_drawnDay h0_drawnCrew_count f_h0_drawnCrew_cell f_h0_drawnCrew_buckets D) {Q : Int32 → (Int32 × Int32 × (Nat → Int32) × Int32 × Int32 × Int64 × (Nat → Int32) × (Nat → Int32) × (Nat → Int32) × Int32 × (Nat → Int32) × (Nat → Int32) × Int32 × Int32 × Int32 × Int32 × Int32 × (Nat → Int32) × (Nat → Int32) × (Nat → Int32) × (Nat → Int32) × (Nat → Int32) × (Nat → Int32) × (Nat → Int32) × (Nat → Int32) × (Nat → Int32) × (Nat → Option Nat) × Int32 × Int32 × (Nat → Int32) × (Nat → Int32) × (Nat → Int32) × (Nat → Int32) × (Nat → Int32) × Value × Value × Int32 × Int32 × Int32 × Int32 × (Nat → Int32) × (Nat → Int32)) → Prop} (hq : ∀ (r : Int32) (u_0 : Int32) (u_1 : Int32) (u_2 : Nat → Int32) (u_3 : Int32) (u_4 : Int32) (u_5 : Int64) (u_6 : Nat → Int32) (u_7 : Nat → Int32) (u_8 : Nat → Int32) (u_9 : Int32) (u_10 : Nat → Int32) (u_11 : Nat → Int32) (u_12 : Int32) (u_13 : Int32) (u_14 : Int32) (u_15 : Int32) (u_16 : Int32) (u_17 : Nat → Int32) (u_18 : Nat → Int32) (u_19 : Nat → Int32) (u_20 : Nat → Int32) (u_21 : Nat → Int32) (u_22 : Nat → Int32) (u_23 : Nat → Int32) (u_24 : Nat → Int32) (u_25 : Nat → Int32) (u_26 : Nat → Option Nat) (u_27 : Int32) (u_28 : Int32) (u_29 : Nat → Int32) (u_30 : Nat → Int32) (u_31 : Nat → Int32) (u_32 : Nat → Int32) (u_33 : Nat → Int32) (u_34 : Value) (u_35 : Value) (u_36 : Int32) (u_37 : Int32) (u_38 : Int32) (u_39 : Int32) (u_40 : Nat → Int32) (u_41 : Nat → Int32), (0 ≤ u_3.toInt ∧ u_3.toInt ≤ 6) ∧ ((-1) ≤ u_4.toInt ∧ u_4.toInt ≤ 5) ∧ (KI u_6) ∧ (HA u_7) ∧ (WA u_8) ∧ (0 ≤ u_9.toInt ∧ u_9.toInt ≤ 6) ∧ (CE u_10) ∧ (BU u_11) ∧ (0 ≤ u_12.toInt ∧ u_12.toInt ≤ 5) ∧ (0 ≤ u_13.toInt ∧ u_13.toInt ≤ 6) ∧ (0 ≤ u_15.toInt ∧ u_15.toInt ≤ 8) ∧ (0 ≤ u_16.toInt ∧ u_16.toInt ≤ 10) ∧ (CO u_17) ∧ (EA u_18) ∧ (NC u_19) ∧ (NL u_20) ∧ (HC u_21) ∧ (HL u_22) ∧ (TE u_25) ∧ (0 ≤ u_27.toInt ∧ u_27.toInt ≤ 16) ∧ (0 ≤ u_28.toInt ∧ u_28.toInt ≤ 15) ∧ (0 ≤ u_36.toInt ∧ u_36.toInt ≤ 39) ∧ (0 ≤ u_39.toInt ∧ u_39.toInt ≤ 6) ∧ (CE u_40) ∧ (BU u_41) ∧ (u_1.toInt = tlS (seaB w a.toInt b.toInt)) ∧ (RF u_2 (tlR rf (seaB w a.toInt b.toInt))) ∧ (RXn u_0 u_39 u_40 u_41 (seaD D ls w a.toInt b.toInt)) → Q r (u_0, u_1, u_2, u_3, u_4, u_5, u_6, u_7, u_8, u_9, u_10, u_11, u_12, u_13, u_14, u_15, u_16, u_17, u_18, u_19, u_20, u_21, u_22, u_23, u_24, u_25, u_26, u_27, u_28, u_29, u_30, u_31, u_32, u_33, u_34, u_35, u_36, u_37, u_38, u_39, u_40, u_41)) : wp_X11_seasons_N a b h0_drawnDay f_h0_refusals h0_site_world_lawCount h0_site_world_force h0_site_world_crew_count h0_paper_world h0_paper_world_lawCount h0_paper_world_force h0_paper_world_rock_dug h0_site_world_rock_dug f_h0_site_world_rock_kind f_h0_paper_world_rock_kind f_h0_site_world_rock_hard f_h0_paper_world_rock_hard f_h0_site_world_rock_water f_h0_paper_world_rock_water h0_paper_world_crew_count f_h0_site_world_crew_cell f_h0_paper_world_crew_cell f_h0_site_world_crew_buckets f_h0_paper_world_crew_buckets h0_paper_world_folk_listeners h0_paper_world_folk_noises h0_paper_world_folk_hushed h0_paper_world_folk_hearsay h0_paper_world_folk_wells h0_site_world_folk_listeners h0_site_world_folk_noises h0_site_world_folk_hushed h0_site_world_folk_hearsay h0_site_world_folk_wells f_h0_site_world_folk_column f_h0_paper_world_folk_column f_h0_site_world_folk_ear f_h0_paper_world_folk_ear f_h0_site_world_folk_noiseColumn f_h0_paper_world_folk_noiseColumn f_h0_site_world_folk_noiseLoud f_h0_paper_world_folk_noiseLoud f_h0_site_world_folk_hearsayColumn f_h0_paper_world_folk_hearsayColumn f_h0_site_world_folk_hearsayLoud f_h0_paper_world_folk_hearsayLoud f_h0_site_world_folk_sounds f_h0_paper_world_folk_sounds f_h0_site_world_folk_wet f_h0_paper_world_folk_wet f_h0_paper_world_term f_h0_site_world_term f_h0_site_world_laws f_h0_paper_world_laws h0_paper_diary_kept h0_paper_diary_latest h0_site_diary_kept h0_site_diary_latest f_h0_site_diary_deed f_h0_paper_diary_deed f_h0_site_diary_whose f_h0_paper_diary_whose f_h0_site_diary_before f_h0_paper_diary_before f_h0_site_diary_bucketsBefore f_h0_paper_diary_bucketsBefore f_h0_site_diary_dayBefore f_h0_paper_diary_dayBefore h0_asker_world h0_asker_law h0_asker_cell h0_asker_shaft h0_asker_kind h0_drawnCrew_count f_h0_drawnCrew_cell f_h0_drawnCrew_buckets TT Q := by
  unfold wp_X11_seasons_N
  have l_cc0 : h0_site_world_crew_count.toInt = w 0 := RXw.cc e_0
  refine o_X11_isWithin _ _ _ ?_
  by_cases c1 : a < 0
  · refine br1 c1 ?_
    have d2 := lt_z (x := (Int32.toInt a)) (y := 0) rfl rfl c1
    refine br1 (by decide) ?_
    have k3 : Int32.toInt (-1) = (-1) := (by decide)
    refine s_X11_settlez (-1) (f_h0_refusals) (by decide) e_3 (fun r4 u5_0 u5_1 H6 => ?_)
    have j7 := H6.1
    have j8 := H6.2.1
    have j9 := H6.2.2
    refine un2_i ?_
    have hB10 : seaB w a.toInt b.toInt = (Int32.toInt r4) := by unfold seaB; (repeat' split) <;> omega
    exact hq _ _ _ _ _ _ _ _ _ _ _ _ _ _ _ _ _ _ _ _ _ _ _ _ _ _ _ _ _ _ _ _ _ _ _ _ _ _ _ _ _ _ _ ⟨(by first | with_reducible assumption | exact ⟨by omega, by omega⟩), (by first | with_reducible assumption | exact ⟨by omega, by omega⟩), h_f_h0_paper_world_rock_kind, h_f_h0_paper_world_rock_hard, h_f_h0_paper_world_rock_water, (by first | with_reducible assumption | exact ⟨by omega, by omega⟩), h_f_h0_paper_world_crew_cell, h_f_h0_paper_world_crew_buckets, (by first | with_reducible assumption | exact ⟨by omega, by omega⟩), (by first | with_reducible assumption | exact ⟨by omega, by omega⟩), (by first | with_reducible assumption | exact ⟨by omega, by omega⟩), (by first | with_reducible assumption | exact ⟨by omega, by omega⟩), h_f_h0_paper_world_folk_column, h_f_h0_paper_world_folk_ear, h_f_h0_paper_world_folk_noiseColumn, h_f_h0_paper_world_folk_noiseLoud, h_f_h0_paper_world_folk_hearsayColumn, h_f_h0_paper_world_folk_hearsayLoud, h_f_h0_paper_world_term, (by first | with_reducible assumption | exact ⟨by omega, by omega⟩), (by first | with_reducible assumption | exact ⟨by omega, by omega⟩), (by first | with_reducible assumption | exact ⟨by omega, by omega⟩), (by first | with_reducible assumption | exact ⟨by omega, by omega⟩), h_f_h0_drawnCrew_cell, h_f_h0_drawnCrew_buckets, (by rw [hB10]; exact j8), (by rw [hB10]; exact j9), (by unfold seaD; rw [if_pos (by omega)]; exact e_5)⟩
  · refine br0 c1 ?_
    have d11 := nlt_z (x := (Int32.toInt a)) (y := 0) rfl rfl c1
    by_cases c12 : 1000001 ≤ a
    · refine br1 c12 ?_
      have d13 := le_z (x := 1000001) (y := (Int32.toInt a)) rfl rfl c12
      refine br1 (by decide) ?_
      have k14 : Int32.toInt (-1) = (-1) := (by decide)
      refine s_X11_settlez (-1) (f_h0_refusals) (by decide) e_3 (fun r15 u16_0 u16_1 H17 => ?_)
      have j18 := H17.1
      have j19 := H17.2.1
      have j20 := H17.2.2
      refine un2_i ?_
      have hB21 : seaB w a.toInt b.toInt = (Int32.toInt r15) := by unfold seaB; (repeat' split) <;> omega
      exact hq _ _ _ _ _ _ _ _ _ _ _ _ _ _ _ _ _ _ _ _ _ _ _ _ _ _ _ _ _ _ _ _ _ _ _ _ _ _ _ _ _ _ _ ⟨(by first | with_reducible assumption | exact ⟨by omega, by omega⟩), (by first | with_reducible assumption | exact ⟨by omega, by omega⟩), h_f_h0_paper_world_rock_kind, h_f_h0_paper_world_rock_hard, h_f_h0_paper_world_rock_water, (by first | with_reducible assumption | exact ⟨by omega, by omega⟩), h_f_h0_paper_world_crew_cell, h_f_h0_paper_world_crew_buckets, (by first | with_reducible assumption | exact ⟨by omega, by omega⟩), (by first | with_reducible assumption | exact ⟨by omega, by omega⟩), (by first | with_reducible assumption | exact ⟨by omega, by omega⟩), (by first | with_reducible assumption | exact ⟨by omega, by omega⟩), h_f_h0_paper_world_folk_column, h_f_h0_paper_world_folk_ear, h_f_h0_paper_world_folk_noiseColumn, h_f_h0_paper_world_folk_noiseLoud, h_f_h0_paper_world_folk_hearsayColumn, h_f_h0_paper_world_folk_hearsayLoud, h_f_h0_paper_world_term, (by first | with_reducible assumption | exact ⟨by omega, by omega⟩), (by first | with_reducible assumption | exact ⟨by omega, by omega⟩), (by first | with_reducible assumption | exact ⟨by omega, by omega⟩), (by first | with_reducible assumption | exact ⟨by omega, by omega⟩), h_f_h0_drawnCrew_cell, h_f_h0_drawnCrew_buckets, (by rw [hB21]; exact j19), (by rw [hB21]; exact j20), (by unfold seaD; rw [if_pos (by omega)]; exact e_5)⟩
    · refine br0 c12 ?_
      have d22 := nle_z (x := 1000001) (y := (Int32.toInt a)) rfl rfl c12
      refine br0 (by decide) ?_
      by_cases c23 : b < 1
      · refine br1 c23 ?_
        have d24 := lt_z (x := (Int32.toInt b)) (y := 1) rfl rfl c23
        have k25 : Int32.toInt (-1) = (-1) := (by decide)
        refine s_X11_settlez (-1) (f_h0_refusals) (by decide) e_3 (fun r26 u27_0 u27_1 H28 => ?_)
        have j29 := H28.1
        have j30 := H28.2.1
        have j31 := H28.2.2
        refine un2_i ?_
        have hB32 : seaB w a.toInt b.toInt = (Int32.toInt r26) := by unfold seaB; (repeat' split) <;> omega
        exact hq _ _ _ _ _ _ _ _ _ _ _ _ _ _ _ _ _ _ _ _ _ _ _ _ _ _ _ _ _ _ _ _ _ _ _ _ _ _ _ _ _ _ _ ⟨(by first | with_reducible assumption | exact ⟨by omega, by omega⟩), (by first | with_reducible assumption | exact ⟨by omega, by omega⟩), h_f_h0_paper_world_rock_kind, h_f_h0_paper_world_rock_hard, h_f_h0_paper_world_rock_water, (by first | with_reducible assumption | exact ⟨by omega, by omega⟩), h_f_h0_paper_world_crew_cell, h_f_h0_paper_world_crew_buckets, (by first | with_reducible assumption | exact ⟨by omega, by omega⟩), (by first | with_reducible assumption | exact ⟨by omega, by omega⟩), (by first | with_reducible assumption | exact ⟨by omega, by omega⟩), (by first | with_reducible assumption | exact ⟨by omega, by omega⟩), h_f_h0_paper_world_folk_column, h_f_h0_paper_world_folk_ear, h_f_h0_paper_world_folk_noiseColumn, h_f_h0_paper_world_folk_noiseLoud, h_f_h0_paper_world_folk_hearsayColumn, h_f_h0_paper_world_folk_hearsayLoud, h_f_h0_paper_world_term, (by first | with_reducible assumption | exact ⟨by omega, by omega⟩), (by first | with_reducible assumption | exact ⟨by omega, by omega⟩), (by first | with_reducible assumption | exact ⟨by omega, by omega⟩), (by first | with_reducible assumption | exact ⟨by omega, by omega⟩), h_f_h0_drawnCrew_cell, h_f_h0_drawnCrew_buckets, (by rw [hB32]; exact j30), (by rw [hB32]; exact j31), (by unfold seaD; rw [if_pos (by omega)]; exact e_5)⟩
      · refine br0 c23 ?_
        have d33 := nlt_z (x := (Int32.toInt b)) (y := 1) rfl rfl c23
        by_cases c34 : b ≤ 60
        · refine br1 c34 ?_
          have d35 := le_z (x := (Int32.toInt b)) (y := 60) rfl rfl c34
          by_cases c36 : h0_site_world_crew_count = 0
          · refine br1 c36 ?_
            have d37 := eq_z (x := (Int32.toInt h0_site_world_crew_count)) (y := 0) rfl rfl c36
            have k38 : Int32.toInt (-3) = (-3) := (by decide)
            refine s_X11_settlez (-3) (f_h0_refusals) (by decide) e_3 (fun r39 u40_0 u40_1 H41 => ?_)
            have j42 := H41.1
            have j43 := H41.2.1
            have j44 := H41.2.2
            refine un2_i ?_
            have hB45 : seaB w a.toInt b.toInt = (Int32.toInt r39) := by unfold seaB; (repeat' split) <;> omega
            exact hq _ _ _ _ _ _ _ _ _ _ _ _ _ _ _ _ _ _ _ _ _ _ _ _ _ _ _ _ _ _ _ _ _ _ _ _ _ _ _ _ _ _ _ ⟨(by first | with_reducible assumption | exact ⟨by omega, by omega⟩), (by first | with_reducible assumption | exact ⟨by omega, by omega⟩), h_f_h0_paper_world_rock_kind, h_f_h0_paper_world_rock_hard, h_f_h0_paper_world_rock_water, (by first | with_reducible assumption | exact ⟨by omega, by omega⟩), h_f_h0_paper_world_crew_cell, h_f_h0_paper_world_crew_buckets, (by first | with_reducible assumption | exact ⟨by omega, by omega⟩), (by first | with_reducible assumption | exact ⟨by omega, by omega⟩), (by first | with_reducible assumption | exact ⟨by omega, by omega⟩), (by first | with_reducible assumption | exact ⟨by omega, by omega⟩), h_f_h0_paper_world_folk_column, h_f_h0_paper_world_folk_ear, h_f_h0_paper_world_folk_noiseColumn, h_f_h0_paper_world_folk_noiseLoud, h_f_h0_paper_world_folk_hearsayColumn, h_f_h0_paper_world_folk_hearsayLoud, h_f_h0_paper_world_term, (by first | with_reducible assumption | exact ⟨by omega, by omega⟩), (by first | with_reducible assumption | exact ⟨by omega, by omega⟩), (by first | with_reducible assumption | exact ⟨by omega, by omega⟩), (by first | with_reducible assumption | exact ⟨by omega, by omega⟩), h_f_h0_drawnCrew_cell, h_f_h0_drawnCrew_buckets, (by rw [hB45]; exact j43), (by rw [hB45]; exact j44), (by unfold seaD; rw [if_pos (by omega)]; exact e_5)⟩
          · refine br0 c36 ?_
            have d46 := ne_z (x := (Int32.toInt h0_site_world_crew_count)) (y := 0) rfl rfl c36
            refine s_X7_copyFromz h0_site_world_lawCount h0_site_world_force h0_site_world_rock_dug (f_h0_site_world_rock_kind) (f_h0_paper_world_rock_kind) (f_h0_site_world_rock_hard) (f_h0_paper_world_rock_hard) (f_h0_site_world_rock_water) (f_h0_paper_world_rock_water) h0_site_world_crew_count (f_h0_site_world_crew_cell) (f_h0_paper_world_crew_cell) (f_h0_site_world_crew_buckets) (f_h0_paper_world_crew_buckets) h0_site_world_folk_listeners h0_site_world_folk_noises h0_site_world_folk_hushed h0_site_world_folk_hearsay h0_site_world_folk_wells (f_h0_site_world_folk_column) (f_h0_paper_world_folk_column) (f_h0_site_world_folk_ear) (f_h0_paper_world_folk_ear) (f_h0_site_world_folk_noiseColumn) (f_h0_paper_world_folk_noiseColumn) (f_h0_site_world_folk_noiseLoud) (f_h0_paper_world_folk_noiseLoud) (f_h0_site_world_folk_hearsayColumn) (f_h0_paper_world_folk_hearsayColumn) (f_h0_site_world_folk_hearsayLoud) (f_h0_paper_world_folk_hearsayLoud) (f_h0_site_world_folk_sounds) (f_h0_paper_world_folk_sounds) (f_h0_site_world_folk_wet) (f_h0_paper_world_folk_wet) (f_h0_paper_world_term) (f_h0_site_world_term) (f_h0_site_world_laws) (f_h0_paper_world_laws) h0_site_diary_kept h0_site_diary_latest (f_h0_site_diary_deed) (f_h0_paper_diary_deed) (f_h0_site_diary_whose) (f_h0_paper_diary_whose) (f_h0_site_diary_before) (f_h0_paper_diary_before) (f_h0_site_diary_bucketsBefore) (f_h0_paper_diary_bucketsBefore) (f_h0_site_diary_dayBefore) (f_h0_paper_diary_dayBefore) TT (by first | with_reducible assumption | exact ⟨by omega, by omega⟩) (by first | with_reducible assumption | exact ⟨by omega, by omega⟩) h_f_h0_site_world_rock_kind h_f_h0_paper_world_rock_kind h_f_h0_site_world_rock_hard h_f_h0_paper_world_rock_hard h_f_h0_site_world_rock_water h_f_h0_paper_world_rock_water (by first | with_reducible assumption | exact ⟨by omega, by omega⟩) h_f_h0_site_world_crew_cell h_f_h0_paper_world_crew_cell h_f_h0_site_world_crew_buckets h_f_h0_paper_world_crew_buckets (by first | with_reducible assumption | exact ⟨by omega, by omega⟩) (by first | with_reducible assumption | exact ⟨by omega, by omega⟩) (by first | with_reducible assumption | exact ⟨by omega, by omega⟩) (by first | with_reducible assumption | exact ⟨by omega, by omega⟩) h_f_h0_site_world_folk_column h_f_h0_paper_world_folk_column h_f_h0_site_world_folk_ear h_f_h0_paper_world_folk_ear h_f_h0_site_world_folk_noiseColumn h_f_h0_paper_world_folk_noiseColumn h_f_h0_site_world_folk_noiseLoud h_f_h0_paper_world_folk_noiseLoud h_f_h0_site_world_folk_hearsayColumn h_f_h0_paper_world_folk_hearsayColumn h_f_h0_site_world_folk_hearsayLoud h_f_h0_paper_world_folk_hearsayLoud h_f_h0_paper_world_term h_f_h0_site_world_term (by first | with_reducible assumption | exact ⟨by omega, by omega⟩) (by first | with_reducible assumption | exact ⟨by omega, by omega⟩) e_4 e_2 e_0 e_1 (fun u47_0 u47_1 u47_2 u47_3 u47_4 u47_5 u47_6 u47_7 u47_8 u47_9 u47_10 u47_11 u47_12 u47_13 u47_14 u47_15 u47_16 u47_17 u47_18 u47_19 u47_20 u47_21 u47_22 u47_23 u47_24 u47_25 u47_26 u47_27 u47_28 u47_29 u47_30 H48 => ?_)
            have j49 := H48.1
            have j50 := H48.2.1
            have j51 := H48.2.2.1
            have j52 := H48.2.2.2.1
            have j53 := H48.2.2.2.2.1
            have j54 := H48.2.2.2.2.2.1
            have j55 := H48.2.2.2.2.2.2.1
            have j56 := H48.2.2.2.2.2.2.2.1
            have j57 := H48.2.2.2.2.2.2.2.2.1
            have j58 := H48.2.2.2.2.2.2.2.2.2.1
            have j59 := H48.2.2.2.2.2.2.2.2.2.2.1
            have j60 := H48.2.2.2.2.2.2.2.2.2.2.2.1
            have j61 := H48.2.2.2.2.2.2.2.2.2.2.2.2.1
            have j62 := H48.2.2.2.2.2.2.2.2.2.2.2.2.2.1
            have j63 := H48.2.2.2.2.2.2.2.2.2.2.2.2.2.2.1
            have j64 := H48.2.2.2.2.2.2.2.2.2.2.2.2.2.2.2.1
            have j65 := H48.2.2.2.2.2.2.2.2.2.2.2.2.2.2.2.2.1
            have j66 := H48.2.2.2.2.2.2.2.2.2.2.2.2.2.2.2.2.2.1
            have j67 := H48.2.2.2.2.2.2.2.2.2.2.2.2.2.2.2.2.2.2.1
            have j68 := H48.2.2.2.2.2.2.2.2.2.2.2.2.2.2.2.2.2.2.2.1
            have j69 := H48.2.2.2.2.2.2.2.2.2.2.2.2.2.2.2.2.2.2.2.2.1
            have j70 := H48.2.2.2.2.2.2.2.2.2.2.2.2.2.2.2.2.2.2.2.2.2.1
            have j71 := H48.2.2.2.2.2.2.2.2.2.2.2.2.2.2.2.2.2.2.2.2.2.2.1
            have j72 := H48.2.2.2.2.2.2.2.2.2.2.2.2.2.2.2.2.2.2.2.2.2.2.2.1
            have j73 := H48.2.2.2.2.2.2.2.2.2.2.2.2.2.2.2.2.2.2.2.2.2.2.2.2.1
            have j74 := H48.2.2.2.2.2.2.2.2.2.2.2.2.2.2.2.2.2.2.2.2.2.2.2.2.2.1
            have j75 := H48.2.2.2.2.2.2.2.2.2.2.2.2.2.2.2.2.2.2.2.2.2.2.2.2.2.2
            refine un31_i ?_
            have zu47_1 : (u47_1).toInt = (h0_site_world_force).toInt := congrArg Int32.toInt j72
            have zu47_0 : (u47_0).toInt = (h0_site_world_lawCount).toInt := congrArg Int32.toInt j71
            have lw76 := fun k hk v (hv : u47_23 k = some v) => e_4 k hk v ((j70 k hk).symm.trans hv)
            have cc6 := RXw.cc j74
            have cc7 := RXw.cc e_0
            have cc6 : u47_6.toInt = w 0 := cc6
            have cc7 : h0_site_world_crew_count.toInt = w 0 := cc7
            refine s_X7_runSeasons_Nz (ls := ls) a b h0_paper_world u47_0 u47_1 u47_6 (u47_7) (u47_22) u47_2 (u47_3) (u47_23) h0_asker_world h0_asker_law h0_asker_cell h0_asker_shaft h0_asker_kind (u47_5) (u47_8) u47_24 u47_25 (u47_26) (u47_27) (u47_28) (u47_29) (u47_30) (u47_4) (by first | with_reducible assumption | exact ⟨by omega, by omega⟩) (by first | with_reducible assumption | exact ⟨by omega, by omega⟩) (by first | with_reducible assumption | exact ⟨by omega, by omega⟩) (by first | with_reducible assumption | exact ⟨by omega, by omega⟩) (by first | with_reducible assumption | exact ⟨by omega, by omega⟩) j55 j67 j51 (by first | with_reducible assumption | exact ⟨by omega, by omega⟩) j53 j56 (by first | with_reducible assumption | exact ⟨by omega, by omega⟩) (by first | with_reducible assumption | exact ⟨by omega, by omega⟩) j52 j74 j75 j73 (fun u77_0 u77_1 u77_2 u77_3 u77_4 u77_5 u77_6 u77_7 u77_8 u77_9 u77_10 u77_11 u77_12 u77_13 u77_14 u77_15 u77_16 H78 => ?_)
            have j79 := H78.1
            have j80 := H78.2.1
            have j81 := H78.2.2.1
            have j82 := H78.2.2.2.1
            have j83 := H78.2.2.2.2.1
            have j84 := H78.2.2.2.2.2.1
            have j85 := H78.2.2.2.2.2.2.1
            have j86 := H78.2.2.2.2.2.2.2.1
            have j87 := H78.2.2.2.2.2.2.2.2
            refine un17_i ?_
            obtain ⟨U8, hX8, hU8, hm8⟩ := j86
            refine o_X1_copyFrom _ _ _ _ _ _ ?_
            refine un3_i ?_
            refine x_allB (BU.cp j83) (by first | with_reducible assumption | exact ⟨by omega, by omega⟩) (fun r88 H89 => ?_)
            have j91 := H89.1
            have j90 := H89.2
            refine x_allB h_f_h0_site_world_crew_buckets (by first | with_reducible assumption | exact ⟨by omega, by omega⟩) (fun r92 H93 => ?_)
            have j95 := H93.1
            have j94 := H93.2
            have j96 := sumB_mo (f := fun i => ((f_h0_site_world_crew_buckets) i).toInt) (g := fun i => (((va_cpy (u77_9) (f_h0_drawnCrew_buckets) 0 0 6)) i).toInt) (n := ((Int32.toInt h0_site_world_crew_count)).toNat) (m := ((Int32.toInt u47_6)).toNat) (by omega) (fun i hi => by show ((f_h0_site_world_crew_buckets) i).toInt ≤ (((va_cpy (u77_9) (f_h0_drawnCrew_buckets) 0 0 6)) i).toInt; rw [cpy_n (by omega), RXw.bu e_0 i (by omega), RXw.bu hX8 i (by omega)]; exact hm8 i (by omega))
            have t97 : (Int32.toInt (r88 - r92)) = (Int32.toInt r88) - (Int32.toInt r92) := sub_z rfl rfl (by omega) (by omega)
            have t98 := i32_hi (r88 - r92)
            refine s_X11_settlez (r88 - r92) (f_h0_refusals) (by first | with_reducible assumption | exact ⟨by omega, by omega⟩) e_3 (fun r99 u100_0 u100_1 H101 => ?_)
            have j102 := H101.1
            have j103 := H101.2.1
            have j104 := H101.2.2
            refine un2_i ?_
            have g105 : 0 ≤ (Int32.toInt (u77_1 (0 : Int32).toNatClampNeg)) ∧ (Int32.toInt (u77_1 (0 : Int32).toNatClampNeg)) ≤ 9999 := TE.at_0 j80 (rfl : ((0 : Nat) : Int) = 0) (by omega) (by omega)
            have hB106 : seaB w a.toInt b.toInt = 0 := by unfold seaB; (repeat' split) <;> omega
            have g107 : 0 ≤ (Int32.toInt r99) := by omega
            exact hq _ _ _ _ _ _ _ _ _ _ _ _ _ _ _ _ _ _ _ _ _ _ _ _ _ _ _ _ _ _ _ _ _ _ _ _ _ _ _ _ _ _ _ ⟨(by first | with_reducible assumption | exact ⟨by omega, by omega⟩), (by first | with_reducible assumption | exact ⟨by omega, by omega⟩), j51, j52, j82, (by first | with_reducible assumption | exact ⟨by omega, by omega⟩), j79, j83, (by first | with_reducible assumption | exact ⟨by omega, by omega⟩), (by first | with_reducible assumption | exact ⟨by omega, by omega⟩), (by first | with_reducible assumption | exact ⟨by omega, by omega⟩), (by first | with_reducible assumption | exact ⟨by omega, by omega⟩), j61, j62, j63, j64, j65, j66, j80, (by first | with_reducible assumption | exact ⟨by omega, by omega⟩), (by first | with_reducible assumption | exact ⟨by omega, by omega⟩), (by first | with_reducible assumption | exact ⟨by omega, by omega⟩), (by first | with_reducible assumption | exact ⟨by omega, by omega⟩), (CE.cp j79), (BU.cp j83), (by rw [hB106]; have q := j103; rw [tlS_p g107] at q; exact q), (by rw [hB106]; have q := j104; rw [tlR_p g107] at q; exact q), (by unfold seaD; rw [if_neg (by omega)]; exact RXn.of hX8 (by omega) (by omega))⟩
        · refine br0 c34 ?_
          have d108 := nle_z (x := (Int32.toInt b)) (y := 60) rfl rfl c34
          have k109 : Int32.toInt (-1) = (-1) := (by decide)
          refine s_X11_settlez (-1) (f_h0_refusals) (by decide) e_3 (fun r110 u111_0 u111_1 H112 => ?_)
          have j113 := H112.1
          have j114 := H112.2.1
          have j115 := H112.2.2
          refine un2_i ?_
          have hB116 : seaB w a.toInt b.toInt = (Int32.toInt r110) := by unfold seaB; (repeat' split) <;> omega
          exact hq _ _ _ _ _ _ _ _ _ _ _ _ _ _ _ _ _ _ _ _ _ _ _ _ _ _ _ _ _ _ _ _ _ _ _ _ _ _ _ _ _ _ _ ⟨(by first | with_reducible assumption | exact ⟨by omega, by omega⟩), (by first | with_reducible assumption | exact ⟨by omega, by omega⟩), h_f_h0_paper_world_rock_kind, h_f_h0_paper_world_rock_hard, h_f_h0_paper_world_rock_water, (by first | with_reducible assumption | exact ⟨by omega, by omega⟩), h_f_h0_paper_world_crew_cell, h_f_h0_paper_world_crew_buckets, (by first | with_reducible assumption | exact ⟨by omega, by omega⟩), (by first | with_reducible assumption | exact ⟨by omega, by omega⟩), (by first | with_reducible assumption | exact ⟨by omega, by omega⟩), (by first | with_reducible assumption | exact ⟨by omega, by omega⟩), h_f_h0_paper_world_folk_column, h_f_h0_paper_world_folk_ear, h_f_h0_paper_world_folk_noiseColumn, h_f_h0_paper_world_folk_noiseLoud, h_f_h0_paper_world_folk_hearsayColumn, h_f_h0_paper_world_folk_hearsayLoud, h_f_h0_paper_world_term, (by first | with_reducible assumption | exact ⟨by omega, by omega⟩), (by first | with_reducible assumption | exact ⟨by omega, by omega⟩), (by first | with_reducible assumption | exact ⟨by omega, by omega⟩), (by first | with_reducible assumption | exact ⟨by omega, by omega⟩), h_f_h0_drawnCrew_cell, h_f_h0_drawnCrew_buckets, (by rw [hB116]; exact j114), (by rw [hB116]; exact j115), (by unfold seaD; rw [if_pos (by omega)]; exact e_5)⟩


set_option maxRecDepth 100000 in
theorem s_X11_seasons_Tz (a : Int32) (b : Int32) (h0_drawnDay : Int32) (f_h0_refusals : Nat → Int32) (h0_site_world_lawCount : Int32) (h0_site_world_force : Int32) (h0_site_world_crew_count : Int32) (h0_paper_world : Nat) (h0_paper_world_lawCount : Int32) (h0_paper_world_force : Int32) (h0_paper_world_rock_dug : Int64) (h0_site_world_rock_dug : Int64) (f_h0_site_world_rock_kind : Nat → Int32) (f_h0_paper_world_rock_kind : Nat → Int32) (f_h0_site_world_rock_hard : Nat → Int32) (f_h0_paper_world_rock_hard : Nat → Int32) (f_h0_site_world_rock_water : Nat → Int32) (f_h0_paper_world_rock_water : Nat → Int32) (h0_paper_world_crew_count : Int32) (f_h0_site_world_crew_cell : Nat → Int32) (f_h0_paper_world_crew_cell : Nat → Int32) (f_h0_site_world_crew_buckets : Nat → Int32) (f_h0_paper_world_crew_buckets : Nat → Int32) (h0_paper_world_folk_listeners : Int32) (h0_paper_world_folk_noises : Int32) (h0_paper_world_folk_hushed : Int32) (h0_paper_world_folk_hearsay : Int32) (h0_paper_world_folk_wells : Int32) (h0_site_world_folk_listeners : Int32) (h0_site_world_folk_noises : Int32) (h0_site_world_folk_hushed : Int32) (h0_site_world_folk_hearsay : Int32) (h0_site_world_folk_wells : Int32) (f_h0_site_world_folk_column : Nat → Int32) (f_h0_paper_world_folk_column : Nat → Int32) (f_h0_site_world_folk_ear : Nat → Int32) (f_h0_paper_world_folk_ear : Nat → Int32) (f_h0_site_world_folk_noiseColumn : Nat → Int32) (f_h0_paper_world_folk_noiseColumn : Nat → Int32) (f_h0_site_world_folk_noiseLoud : Nat → Int32) (f_h0_paper_world_folk_noiseLoud : Nat → Int32) (f_h0_site_world_folk_hearsayColumn : Nat → Int32) (f_h0_paper_world_folk_hearsayColumn : Nat → Int32) (f_h0_site_world_folk_hearsayLoud : Nat → Int32) (f_h0_paper_world_folk_hearsayLoud : Nat → Int32) (f_h0_site_world_folk_sounds : Nat → Int32) (f_h0_paper_world_folk_sounds : Nat → Int32) (f_h0_site_world_folk_wet : Nat → Int32) (f_h0_paper_world_folk_wet : Nat → Int32) (f_h0_paper_world_term : Nat → Int32) (f_h0_site_world_term : Nat → Int32) (f_h0_site_world_laws : Nat → Option Nat) (f_h0_paper_world_laws : Nat → Option Nat) (h0_paper_diary_kept : Int32) (h0_paper_diary_latest : Int32) (h0_site_diary_kept : Int32) (h0_site_diary_latest : Int32) (f_h0_site_diary_deed : Nat → Int32) (f_h0_paper_diary_deed : Nat → Int32) (f_h0_site_diary_whose : Nat → Int32) (f_h0_paper_diary_whose : Nat → Int32) (f_h0_site_diary_before : Nat → Int32) (f_h0_paper_diary_before : Nat → Int32) (f_h0_site_diary_bucketsBefore : Nat → Int32) (f_h0_paper_diary_bucketsBefore : Nat → Int32) (f_h0_site_diary_dayBefore : Nat → Int32) (f_h0_paper_diary_dayBefore : Nat → Int32) (h0_asker_world : Value) (h0_asker_law : Value) (h0_asker_cell : Int32) (h0_asker_shaft : Int32) (h0_asker_kind : Int32) (h0_asker_done : Int32) (h0_asker_latest : Int32) (h0_asker_value : Int32) (t : Nat) (t_clauses : Int32) (t_length : Int32) (n_t_heads : Nat) (f_t_heads : Nat → Int32) (n_t_code : Nat) (f_t_code : Nat → Int32) (f_h0_asker_stack : Nat → Int64) (h0_drawnCrew_count : Int32) (f_h0_drawnCrew_cell : Nat → Int32) (f_h0_drawnCrew_buckets : Nat → Int32) (TT : Nat → Prop) {w : Nat → Int} {U : UL} {rf : Nat → Int32} {ls : Nat → List Cls} {D : Option (Nat → Int)} (h_h0_site_world_lawCount : 0 ≤ h0_site_world_lawCount.toInt ∧ h0_site_world_lawCount.toInt ≤ 6) (h_h0_site_world_force : 0 ≤ h0_site_world_force.toInt ∧ h0_site_world_force.toInt ≤ 5) (h_h0_site_world_crew_count : 0 ≤ h0_site_world_crew_count.toInt ∧ h0_site_world_crew_count.toInt ≤ 6) (h_h0_paper_world_lawCount : 0 ≤ h0_paper_world_lawCount.toInt ∧ h0_paper_world_lawCount.toInt ≤ 6) (h_h0_paper_world_force : (-1) ≤ h0_paper_world_force.toInt ∧ h0_paper_world_force.toInt ≤ 5) (h_f_h0_site_world_rock_kind : KI f_h0_site_world_rock_kind) (h_f_h0_paper_world_rock_kind : KI f_h0_paper_world_rock_kind) (h_f_h0_site_world_rock_hard : HA f_h0_site_world_rock_hard) (h_f_h0_paper_world_rock_hard : HA f_h0_paper_world_rock_hard) (h_f_h0_site_world_rock_water : WA f_h0_site_world_rock_water) (h_f_h0_paper_world_rock_water : WA f_h0_paper_world_rock_water) (h_h0_paper_world_crew_count : 0 ≤ h0_paper_world_crew_count.toInt ∧ h0_paper_world_crew_count.toInt ≤ 6) (h_f_h0_site_world_crew_cell : CE f_h0_site_world_crew_cell) (h_f_h0_paper_world_crew_cell : CE f_h0_paper_world_crew_cell) (h_f_h0_site_world_crew_buckets : BU f_h0_site_world_crew_buckets) (h_f_h0_paper_world_crew_buckets : BU f_h0_paper_world_crew_buckets) (h_h0_paper_world_folk_listeners : 0 ≤ h0_paper_world_folk_listeners.toInt ∧ h0_paper_world_folk_listeners.toInt ≤ 5) (h_h0_paper_world_folk_noises : 0 ≤ h0_paper_world_folk_noises.toInt ∧ h0_paper_world_folk_noises.toInt ≤ 6) (h_h0_paper_world_folk_hearsay : 0 ≤ h0_paper_world_folk_hearsay.toInt ∧ h0_paper_world_folk_hearsay.toInt ≤ 8) (h_h0_paper_world_folk_wells : 0 ≤ h0_paper_world_folk_wells.toInt ∧ h0_paper_world_folk_wells.toInt ≤ 10) (h_h0_site_world_folk_listeners : 0 ≤ h0_site_world_folk_listeners.toInt ∧ h0_site_world_folk_listeners.toInt ≤ 5) (h_h0_site_world_folk_noises : 0 ≤ h0_site_world_folk_noises.toInt ∧ h0_site_world_folk_noises.toInt ≤ 6) (h_h0_site_world_folk_hearsay : 0 ≤ h0_site_world_folk_hearsay.toInt ∧ h0_site_world_folk_hearsay.toInt ≤ 8) (h_h0_site_world_folk_wells : 0 ≤ h0_site_world_folk_wells.toInt ∧ h0_site_world_folk_wells.toInt ≤ 10) (h_f_h0_site_world_folk_column : CO f_h0_site_world_folk_column) (h_f_h0_paper_world_folk_column : CO f_h0_paper_world_folk_column) (h_f_h0_site_world_folk_ear : EA f_h0_site_world_folk_ear) (h_f_h0_paper_world_folk_ear : EA f_h0_paper_world_folk_ear) (h_f_h0_site_world_folk_noiseColumn : NC f_h0_site_world_folk_noiseColumn) (h_f_h0_paper_world_folk_noiseColumn : NC f_h0_paper_world_folk_noiseColumn) (h_f_h0_site_world_folk_noiseLoud : NL f_h0_site_world_folk_noiseLoud) (h_f_h0_paper_world_folk_noiseLoud : NL f_h0_paper_world_folk_noiseLoud) (h_f_h0_site_world_folk_hearsayColumn : HC f_h0_site_world_folk_hearsayColumn) (h_f_h0_paper_world_folk_hearsayColumn : HC f_h0_paper_world_folk_hearsayColumn) (h_f_h0_site_world_folk_hearsayLoud : HL f_h0_site_world_folk_hearsayLoud) (h_f_h0_paper_world_folk_hearsayLoud : HL f_h0_paper_world_folk_hearsayLoud) (h_f_h0_paper_world_term : TE f_h0_paper_world_term) (h_f_h0_site_world_term : TE f_h0_site_world_term) (h_h0_paper_diary_kept : 0 ≤ h0_paper_diary_kept.toInt ∧ h0_paper_diary_kept.toInt ≤ 16) (h_h0_paper_diary_latest : 0 ≤ h0_paper_diary_latest.toInt ∧ h0_paper_diary_latest.toInt ≤ 15) (h_h0_site_diary_kept : 0 ≤ h0_site_diary_kept.toInt ∧ h0_site_diary_kept.toInt ≤ 16) (h_h0_site_diary_latest : 0 ≤ h0_site_diary_latest.toInt ∧ h0_site_diary_latest.toInt ≤ 15) (h_h0_asker_cell : 0 ≤ h0_asker_cell.toInt ∧ h0_asker_cell.toInt ≤ 39) (h_t_clauses : 0 ≤ t_clauses.toInt ∧ t_clauses.toInt ≤ 12) (h_t_length : 0 ≤ t_length.toInt ∧ t_length.toInt ≤ 400) (h_f_t_code : CD f_t_code) (h_h0_drawnCrew_count : 0 ≤ h0_drawnCrew_count.toInt ∧ h0_drawnCrew_count.toInt ≤ 6) (h_f_h0_drawnCrew_cell : CE f_h0_drawnCrew_cell) (h_f_h0_drawnCrew_buckets : BU f_h0_drawnCrew_buckets) (e_0 : RXw f_h0_site_world_rock_kind f_h0_site_world_rock_hard f_h0_site_world_rock_water h0_site_world_rock_dug f_h0_site_world_crew_cell f_h0_site_world_crew_buckets h0_site_world_crew_count f_h0_site_world_folk_column f_h0_site_world_folk_ear h0_site_world_folk_listeners f_h0_site_world_folk_noiseColumn f_h0_site_world_folk_noiseLoud h0_site_world_folk_noises h0_site_world_folk_hushed f_h0_site_world_folk_hearsayColumn f_h0_site_world_folk_hearsayLoud h0_site_world_folk_hearsay f_h0_site_world_folk_sounds f_h0_site_world_folk_wet h0_site_world_folk_wells f_h0_site_world_term h0_site_world_lawCount h0_site_world_force w) (e_1 : RXu f_h0_site_diary_deed f_h0_site_diary_whose f_h0_site_diary_before f_h0_site_diary_bucketsBefore f_h0_site_diary_dayBefore h0_site_diary_kept h0_site_diary_latest w U) (e_2 : DI f_h0_site_diary_deed f_h0_site_diary_whose f_h0_site_diary_before f_h0_site_diary_bucketsBefore f_h0_site_diary_dayBefore) (e_3 : RF f_h0_refusals rf) (e_4 : XTx t_clauses t_length n_t_heads f_t_heads n_t_code f_t_code (ls (w 6).toNat)) (e_5 : ∀ q ∈ ls (w 6).toNat, okC q) (e_6 : ∀ k, k < 6 → ∀ v, f_h0_site_world_laws k = some v → TT v ∨ v = t) (e_7 : t_length.toInt ≤ (n_t_code : Int)) (e_8 : n_t_heads < 100000) (e_9 : h0_site_world_force.toInt < h0_site_world_lawCount.toInt) (e_10 : f_h0_site_world_laws (Int32.toNatClampNeg h0_site_world_force) = some t) (e_11 : RXn h0_drawnDay h0_drawnCrew_count f_h0_drawnCrew_cell f_h0_drawnCrew_buckets D) {Q : Int32 → (Int32 × Int32 × (Nat → Int32) × Int32 × Int32 × Int64 × (Nat → Int32) × (Nat → Int32) × (Nat → Int32) × Int32 × (Nat → Int32) × (Nat → Int32) × Int32 × Int32 × Int32 × Int32 × Int32 × (Nat → Int32) × (Nat → Int32) × (Nat → Int32) × (Nat → Int32) × (Nat → Int32) × (Nat → Int32) × (Nat → Int32) × (Nat → Int32) × (Nat → Int32) × (Nat → Option Nat) × Int32 × Int32 × (Nat → Int32) × (Nat → Int32) × (Nat → Int32) × (Nat → Int32) × (Nat → Int32) × Value × Value × Int32 × Int32 × Int32 × Int32 × (Nat → Int64) × Int32 × (Nat → Int32) × (Nat → Int32)) → Prop} (hq : ∀ (r : Int32) (u_0 : Int32) (u_1 : Int32) (u_2 : Nat → Int32) (u_3 : Int32) (u_4 : Int32) (u_5 : Int64) (u_6 : Nat → Int32) (u_7 : Nat → Int32) (u_8 : Nat → Int32) (u_9 : Int32) (u_10 : Nat → Int32) (u_11 : Nat → Int32) (u_12 : Int32) (u_13 : Int32) (u_14 : Int32) (u_15 : Int32) (u_16 : Int32) (u_17 : Nat → Int32) (u_18 : Nat → Int32) (u_19 : Nat → Int32) (u_20 : Nat → Int32) (u_21 : Nat → Int32) (u_22 : Nat → Int32) (u_23 : Nat → Int32) (u_24 : Nat → Int32) (u_25 : Nat → Int32) (u_26 : Nat → Option Nat) (u_27 : Int32) (u_28 : Int32) (u_29 : Nat → Int32) (u_30 : Nat → Int32) (u_31 : Nat → Int32) (u_32 : Nat → Int32) (u_33 : Nat → Int32) (u_34 : Value) (u_35 : Value) (u_36 : Int32) (u_37 : Int32) (u_38 : Int32) (u_39 : Int32) (u_40 : Nat → Int64) (u_41 : Int32) (u_42 : Nat → Int32) (u_43 : Nat → Int32), (0 ≤ u_3.toInt ∧ u_3.toInt ≤ 6) ∧ ((-1) ≤ u_4.toInt ∧ u_4.toInt ≤ 5) ∧ (KI u_6) ∧ (HA u_7) ∧ (WA u_8) ∧ (0 ≤ u_9.toInt ∧ u_9.toInt ≤ 6) ∧ (CE u_10) ∧ (BU u_11) ∧ (0 ≤ u_12.toInt ∧ u_12.toInt ≤ 5) ∧ (0 ≤ u_13.toInt ∧ u_13.toInt ≤ 6) ∧ (0 ≤ u_15.toInt ∧ u_15.toInt ≤ 8) ∧ (0 ≤ u_16.toInt ∧ u_16.toInt ≤ 10) ∧ (CO u_17) ∧ (EA u_18) ∧ (NC u_19) ∧ (NL u_20) ∧ (HC u_21) ∧ (HL u_22) ∧ (TE u_25) ∧ (0 ≤ u_27.toInt ∧ u_27.toInt ≤ 16) ∧ (0 ≤ u_28.toInt ∧ u_28.toInt ≤ 15) ∧ (0 ≤ u_36.toInt ∧ u_36.toInt ≤ 39) ∧ (0 ≤ u_41.toInt ∧ u_41.toInt ≤ 6) ∧ (CE u_42) ∧ (BU u_43) ∧ (u_1.toInt = tlS (seaB w a.toInt b.toInt)) ∧ (RF u_2 (tlR rf (seaB w a.toInt b.toInt))) ∧ (RXn u_0 u_41 u_42 u_43 (seaD D ls w a.toInt b.toInt)) → Q r (u_0, u_1, u_2, u_3, u_4, u_5, u_6, u_7, u_8, u_9, u_10, u_11, u_12, u_13, u_14, u_15, u_16, u_17, u_18, u_19, u_20, u_21, u_22, u_23, u_24, u_25, u_26, u_27, u_28, u_29, u_30, u_31, u_32, u_33, u_34, u_35, u_36, u_37, u_38, u_39, u_40, u_41, u_42, u_43)) : wp_X11_seasons_T a b h0_drawnDay f_h0_refusals h0_site_world_lawCount h0_site_world_force h0_site_world_crew_count h0_paper_world h0_paper_world_lawCount h0_paper_world_force h0_paper_world_rock_dug h0_site_world_rock_dug f_h0_site_world_rock_kind f_h0_paper_world_rock_kind f_h0_site_world_rock_hard f_h0_paper_world_rock_hard f_h0_site_world_rock_water f_h0_paper_world_rock_water h0_paper_world_crew_count f_h0_site_world_crew_cell f_h0_paper_world_crew_cell f_h0_site_world_crew_buckets f_h0_paper_world_crew_buckets h0_paper_world_folk_listeners h0_paper_world_folk_noises h0_paper_world_folk_hushed h0_paper_world_folk_hearsay h0_paper_world_folk_wells h0_site_world_folk_listeners h0_site_world_folk_noises h0_site_world_folk_hushed h0_site_world_folk_hearsay h0_site_world_folk_wells f_h0_site_world_folk_column f_h0_paper_world_folk_column f_h0_site_world_folk_ear f_h0_paper_world_folk_ear f_h0_site_world_folk_noiseColumn f_h0_paper_world_folk_noiseColumn f_h0_site_world_folk_noiseLoud f_h0_paper_world_folk_noiseLoud f_h0_site_world_folk_hearsayColumn f_h0_paper_world_folk_hearsayColumn f_h0_site_world_folk_hearsayLoud f_h0_paper_world_folk_hearsayLoud f_h0_site_world_folk_sounds f_h0_paper_world_folk_sounds f_h0_site_world_folk_wet f_h0_paper_world_folk_wet f_h0_paper_world_term f_h0_site_world_term f_h0_site_world_laws f_h0_paper_world_laws h0_paper_diary_kept h0_paper_diary_latest h0_site_diary_kept h0_site_diary_latest f_h0_site_diary_deed f_h0_paper_diary_deed f_h0_site_diary_whose f_h0_paper_diary_whose f_h0_site_diary_before f_h0_paper_diary_before f_h0_site_diary_bucketsBefore f_h0_paper_diary_bucketsBefore f_h0_site_diary_dayBefore f_h0_paper_diary_dayBefore h0_asker_world h0_asker_law h0_asker_cell h0_asker_shaft h0_asker_kind h0_asker_done h0_asker_latest h0_asker_value t t_clauses t_length n_t_heads f_t_heads n_t_code f_t_code f_h0_asker_stack h0_drawnCrew_count f_h0_drawnCrew_cell f_h0_drawnCrew_buckets TT Q := by
  unfold wp_X11_seasons_T
  have l_cc0 : h0_site_world_crew_count.toInt = w 0 := RXw.cc e_0
  refine o_X11_isWithin _ _ _ ?_
  by_cases c1 : a < 0
  · refine br1 c1 ?_
    have d2 := lt_z (x := (Int32.toInt a)) (y := 0) rfl rfl c1
    refine br1 (by decide) ?_
    have k3 : Int32.toInt (-1) = (-1) := (by decide)
    refine s_X11_settlez (-1) (f_h0_refusals) (by decide) e_3 (fun r4 u5_0 u5_1 H6 => ?_)
    have j7 := H6.1
    have j8 := H6.2.1
    have j9 := H6.2.2
    refine un2_i ?_
    have hB10 : seaB w a.toInt b.toInt = (Int32.toInt r4) := by unfold seaB; (repeat' split) <;> omega
    exact hq _ _ _ _ _ _ _ _ _ _ _ _ _ _ _ _ _ _ _ _ _ _ _ _ _ _ _ _ _ _ _ _ _ _ _ _ _ _ _ _ _ _ _ _ _ ⟨(by first | with_reducible assumption | exact ⟨by omega, by omega⟩), (by first | with_reducible assumption | exact ⟨by omega, by omega⟩), h_f_h0_paper_world_rock_kind, h_f_h0_paper_world_rock_hard, h_f_h0_paper_world_rock_water, (by first | with_reducible assumption | exact ⟨by omega, by omega⟩), h_f_h0_paper_world_crew_cell, h_f_h0_paper_world_crew_buckets, (by first | with_reducible assumption | exact ⟨by omega, by omega⟩), (by first | with_reducible assumption | exact ⟨by omega, by omega⟩), (by first | with_reducible assumption | exact ⟨by omega, by omega⟩), (by first | with_reducible assumption | exact ⟨by omega, by omega⟩), h_f_h0_paper_world_folk_column, h_f_h0_paper_world_folk_ear, h_f_h0_paper_world_folk_noiseColumn, h_f_h0_paper_world_folk_noiseLoud, h_f_h0_paper_world_folk_hearsayColumn, h_f_h0_paper_world_folk_hearsayLoud, h_f_h0_paper_world_term, (by first | with_reducible assumption | exact ⟨by omega, by omega⟩), (by first | with_reducible assumption | exact ⟨by omega, by omega⟩), (by first | with_reducible assumption | exact ⟨by omega, by omega⟩), (by first | with_reducible assumption | exact ⟨by omega, by omega⟩), h_f_h0_drawnCrew_cell, h_f_h0_drawnCrew_buckets, (by rw [hB10]; exact j8), (by rw [hB10]; exact j9), (by unfold seaD; rw [if_pos (by omega)]; exact e_11)⟩
  · refine br0 c1 ?_
    have d11 := nlt_z (x := (Int32.toInt a)) (y := 0) rfl rfl c1
    by_cases c12 : 1000001 ≤ a
    · refine br1 c12 ?_
      have d13 := le_z (x := 1000001) (y := (Int32.toInt a)) rfl rfl c12
      refine br1 (by decide) ?_
      have k14 : Int32.toInt (-1) = (-1) := (by decide)
      refine s_X11_settlez (-1) (f_h0_refusals) (by decide) e_3 (fun r15 u16_0 u16_1 H17 => ?_)
      have j18 := H17.1
      have j19 := H17.2.1
      have j20 := H17.2.2
      refine un2_i ?_
      have hB21 : seaB w a.toInt b.toInt = (Int32.toInt r15) := by unfold seaB; (repeat' split) <;> omega
      exact hq _ _ _ _ _ _ _ _ _ _ _ _ _ _ _ _ _ _ _ _ _ _ _ _ _ _ _ _ _ _ _ _ _ _ _ _ _ _ _ _ _ _ _ _ _ ⟨(by first | with_reducible assumption | exact ⟨by omega, by omega⟩), (by first | with_reducible assumption | exact ⟨by omega, by omega⟩), h_f_h0_paper_world_rock_kind, h_f_h0_paper_world_rock_hard, h_f_h0_paper_world_rock_water, (by first | with_reducible assumption | exact ⟨by omega, by omega⟩), h_f_h0_paper_world_crew_cell, h_f_h0_paper_world_crew_buckets, (by first | with_reducible assumption | exact ⟨by omega, by omega⟩), (by first | with_reducible assumption | exact ⟨by omega, by omega⟩), (by first | with_reducible assumption | exact ⟨by omega, by omega⟩), (by first | with_reducible assumption | exact ⟨by omega, by omega⟩), h_f_h0_paper_world_folk_column, h_f_h0_paper_world_folk_ear, h_f_h0_paper_world_folk_noiseColumn, h_f_h0_paper_world_folk_noiseLoud, h_f_h0_paper_world_folk_hearsayColumn, h_f_h0_paper_world_folk_hearsayLoud, h_f_h0_paper_world_term, (by first | with_reducible assumption | exact ⟨by omega, by omega⟩), (by first | with_reducible assumption | exact ⟨by omega, by omega⟩), (by first | with_reducible assumption | exact ⟨by omega, by omega⟩), (by first | with_reducible assumption | exact ⟨by omega, by omega⟩), h_f_h0_drawnCrew_cell, h_f_h0_drawnCrew_buckets, (by rw [hB21]; exact j19), (by rw [hB21]; exact j20), (by unfold seaD; rw [if_pos (by omega)]; exact e_11)⟩
    · refine br0 c12 ?_
      have d22 := nle_z (x := 1000001) (y := (Int32.toInt a)) rfl rfl c12
      refine br0 (by decide) ?_
      by_cases c23 : b < 1
      · refine br1 c23 ?_
        have d24 := lt_z (x := (Int32.toInt b)) (y := 1) rfl rfl c23
        have k25 : Int32.toInt (-1) = (-1) := (by decide)
        refine s_X11_settlez (-1) (f_h0_refusals) (by decide) e_3 (fun r26 u27_0 u27_1 H28 => ?_)
        have j29 := H28.1
        have j30 := H28.2.1
        have j31 := H28.2.2
        refine un2_i ?_
        have hB32 : seaB w a.toInt b.toInt = (Int32.toInt r26) := by unfold seaB; (repeat' split) <;> omega
        exact hq _ _ _ _ _ _ _ _ _ _ _ _ _ _ _ _ _ _ _ _ _ _ _ _ _ _ _ _ _ _ _ _ _ _ _ _ _ _ _ _ _ _ _ _ _ ⟨(by first | with_reducible assumption | exact ⟨by omega, by omega⟩), (by first | with_reducible assumption | exact ⟨by omega, by omega⟩), h_f_h0_paper_world_rock_kind, h_f_h0_paper_world_rock_hard, h_f_h0_paper_world_rock_water, (by first | with_reducible assumption | exact ⟨by omega, by omega⟩), h_f_h0_paper_world_crew_cell, h_f_h0_paper_world_crew_buckets, (by first | with_reducible assumption | exact ⟨by omega, by omega⟩), (by first | with_reducible assumption | exact ⟨by omega, by omega⟩), (by first | with_reducible assumption | exact ⟨by omega, by omega⟩), (by first | with_reducible assumption | exact ⟨by omega, by omega⟩), h_f_h0_paper_world_folk_column, h_f_h0_paper_world_folk_ear, h_f_h0_paper_world_folk_noiseColumn, h_f_h0_paper_world_folk_noiseLoud, h_f_h0_paper_world_folk_hearsayColumn, h_f_h0_paper_world_folk_hearsayLoud, h_f_h0_paper_world_term, (by first | with_reducible assumption | exact ⟨by omega, by omega⟩), (by first | with_reducible assumption | exact ⟨by omega, by omega⟩), (by first | with_reducible assumption | exact ⟨by omega, by omega⟩), (by first | with_reducible assumption | exact ⟨by omega, by omega⟩), h_f_h0_drawnCrew_cell, h_f_h0_drawnCrew_buckets, (by rw [hB32]; exact j30), (by rw [hB32]; exact j31), (by unfold seaD; rw [if_pos (by omega)]; exact e_11)⟩
      · refine br0 c23 ?_
        have d33 := nlt_z (x := (Int32.toInt b)) (y := 1) rfl rfl c23
        by_cases c34 : b ≤ 60
        · refine br1 c34 ?_
          have d35 := le_z (x := (Int32.toInt b)) (y := 60) rfl rfl c34
          by_cases c36 : h0_site_world_crew_count = 0
          · refine br1 c36 ?_
            have d37 := eq_z (x := (Int32.toInt h0_site_world_crew_count)) (y := 0) rfl rfl c36
            have k38 : Int32.toInt (-3) = (-3) := (by decide)
            refine s_X11_settlez (-3) (f_h0_refusals) (by decide) e_3 (fun r39 u40_0 u40_1 H41 => ?_)
            have j42 := H41.1
            have j43 := H41.2.1
            have j44 := H41.2.2
            refine un2_i ?_
            have hB45 : seaB w a.toInt b.toInt = (Int32.toInt r39) := by unfold seaB; (repeat' split) <;> omega
            exact hq _ _ _ _ _ _ _ _ _ _ _ _ _ _ _ _ _ _ _ _ _ _ _ _ _ _ _ _ _ _ _ _ _ _ _ _ _ _ _ _ _ _ _ _ _ ⟨(by first | with_reducible assumption | exact ⟨by omega, by omega⟩), (by first | with_reducible assumption | exact ⟨by omega, by omega⟩), h_f_h0_paper_world_rock_kind, h_f_h0_paper_world_rock_hard, h_f_h0_paper_world_rock_water, (by first | with_reducible assumption | exact ⟨by omega, by omega⟩), h_f_h0_paper_world_crew_cell, h_f_h0_paper_world_crew_buckets, (by first | with_reducible assumption | exact ⟨by omega, by omega⟩), (by first | with_reducible assumption | exact ⟨by omega, by omega⟩), (by first | with_reducible assumption | exact ⟨by omega, by omega⟩), (by first | with_reducible assumption | exact ⟨by omega, by omega⟩), h_f_h0_paper_world_folk_column, h_f_h0_paper_world_folk_ear, h_f_h0_paper_world_folk_noiseColumn, h_f_h0_paper_world_folk_noiseLoud, h_f_h0_paper_world_folk_hearsayColumn, h_f_h0_paper_world_folk_hearsayLoud, h_f_h0_paper_world_term, (by first | with_reducible assumption | exact ⟨by omega, by omega⟩), (by first | with_reducible assumption | exact ⟨by omega, by omega⟩), (by first | with_reducible assumption | exact ⟨by omega, by omega⟩), (by first | with_reducible assumption | exact ⟨by omega, by omega⟩), h_f_h0_drawnCrew_cell, h_f_h0_drawnCrew_buckets, (by rw [hB45]; exact j43), (by rw [hB45]; exact j44), (by unfold seaD; rw [if_pos (by omega)]; exact e_11)⟩
          · refine br0 c36 ?_
            have d46 := ne_z (x := (Int32.toInt h0_site_world_crew_count)) (y := 0) rfl rfl c36
            refine s_X7_copyFromz h0_site_world_lawCount h0_site_world_force h0_site_world_rock_dug (f_h0_site_world_rock_kind) (f_h0_paper_world_rock_kind) (f_h0_site_world_rock_hard) (f_h0_paper_world_rock_hard) (f_h0_site_world_rock_water) (f_h0_paper_world_rock_water) h0_site_world_crew_count (f_h0_site_world_crew_cell) (f_h0_paper_world_crew_cell) (f_h0_site_world_crew_buckets) (f_h0_paper_world_crew_buckets) h0_site_world_folk_listeners h0_site_world_folk_noises h0_site_world_folk_hushed h0_site_world_folk_hearsay h0_site_world_folk_wells (f_h0_site_world_folk_column) (f_h0_paper_world_folk_column) (f_h0_site_world_folk_ear) (f_h0_paper_world_folk_ear) (f_h0_site_world_folk_noiseColumn) (f_h0_paper_world_folk_noiseColumn) (f_h0_site_world_folk_noiseLoud) (f_h0_paper_world_folk_noiseLoud) (f_h0_site_world_folk_hearsayColumn) (f_h0_paper_world_folk_hearsayColumn) (f_h0_site_world_folk_hearsayLoud) (f_h0_paper_world_folk_hearsayLoud) (f_h0_site_world_folk_sounds) (f_h0_paper_world_folk_sounds) (f_h0_site_world_folk_wet) (f_h0_paper_world_folk_wet) (f_h0_paper_world_term) (f_h0_site_world_term) (f_h0_site_world_laws) (f_h0_paper_world_laws) h0_site_diary_kept h0_site_diary_latest (f_h0_site_diary_deed) (f_h0_paper_diary_deed) (f_h0_site_diary_whose) (f_h0_paper_diary_whose) (f_h0_site_diary_before) (f_h0_paper_diary_before) (f_h0_site_diary_bucketsBefore) (f_h0_paper_diary_bucketsBefore) (f_h0_site_diary_dayBefore) (f_h0_paper_diary_dayBefore) (fun v => TT v ∨ v = t) (by first | with_reducible assumption | exact ⟨by omega, by omega⟩) (by first | with_reducible assumption | exact ⟨by omega, by omega⟩) h_f_h0_site_world_rock_kind h_f_h0_paper_world_rock_kind h_f_h0_site_world_rock_hard h_f_h0_paper_world_rock_hard h_f_h0_site_world_rock_water h_f_h0_paper_world_rock_water (by first | with_reducible assumption | exact ⟨by omega, by omega⟩) h_f_h0_site_world_crew_cell h_f_h0_paper_world_crew_cell h_f_h0_site_world_crew_buckets h_f_h0_paper_world_crew_buckets (by first | with_reducible assumption | exact ⟨by omega, by omega⟩) (by first | with_reducible assumption | exact ⟨by omega, by omega⟩) (by first | with_reducible assumption | exact ⟨by omega, by omega⟩) (by first | with_reducible assumption | exact ⟨by omega, by omega⟩) h_f_h0_site_world_folk_column h_f_h0_paper_world_folk_column h_f_h0_site_world_folk_ear h_f_h0_paper_world_folk_ear h_f_h0_site_world_folk_noiseColumn h_f_h0_paper_world_folk_noiseColumn h_f_h0_site_world_folk_noiseLoud h_f_h0_paper_world_folk_noiseLoud h_f_h0_site_world_folk_hearsayColumn h_f_h0_paper_world_folk_hearsayColumn h_f_h0_site_world_folk_hearsayLoud h_f_h0_paper_world_folk_hearsayLoud h_f_h0_paper_world_term h_f_h0_site_world_term (by first | with_reducible assumption | exact ⟨by omega, by omega⟩) (by first | with_reducible assumption | exact ⟨by omega, by omega⟩) e_6 e_2 e_0 e_1 (fun u47_0 u47_1 u47_2 u47_3 u47_4 u47_5 u47_6 u47_7 u47_8 u47_9 u47_10 u47_11 u47_12 u47_13 u47_14 u47_15 u47_16 u47_17 u47_18 u47_19 u47_20 u47_21 u47_22 u47_23 u47_24 u47_25 u47_26 u47_27 u47_28 u47_29 u47_30 H48 => ?_)
            have j49 := H48.1
            have j50 := H48.2.1
            have j51 := H48.2.2.1
            have j52 := H48.2.2.2.1
            have j53 := H48.2.2.2.2.1
            have j54 := H48.2.2.2.2.2.1
            have j55 := H48.2.2.2.2.2.2.1
            have j56 := H48.2.2.2.2.2.2.2.1
            have j57 := H48.2.2.2.2.2.2.2.2.1
            have j58 := H48.2.2.2.2.2.2.2.2.2.1
            have j59 := H48.2.2.2.2.2.2.2.2.2.2.1
            have j60 := H48.2.2.2.2.2.2.2.2.2.2.2.1
            have j61 := H48.2.2.2.2.2.2.2.2.2.2.2.2.1
            have j62 := H48.2.2.2.2.2.2.2.2.2.2.2.2.2.1
            have j63 := H48.2.2.2.2.2.2.2.2.2.2.2.2.2.2.1
            have j64 := H48.2.2.2.2.2.2.2.2.2.2.2.2.2.2.2.1
            have j65 := H48.2.2.2.2.2.2.2.2.2.2.2.2.2.2.2.2.1
            have j66 := H48.2.2.2.2.2.2.2.2.2.2.2.2.2.2.2.2.2.1
            have j67 := H48.2.2.2.2.2.2.2.2.2.2.2.2.2.2.2.2.2.2.1
            have j68 := H48.2.2.2.2.2.2.2.2.2.2.2.2.2.2.2.2.2.2.2.1
            have j69 := H48.2.2.2.2.2.2.2.2.2.2.2.2.2.2.2.2.2.2.2.2.1
            have j70 := H48.2.2.2.2.2.2.2.2.2.2.2.2.2.2.2.2.2.2.2.2.2.1
            have j71 := H48.2.2.2.2.2.2.2.2.2.2.2.2.2.2.2.2.2.2.2.2.2.2.1
            have j72 := H48.2.2.2.2.2.2.2.2.2.2.2.2.2.2.2.2.2.2.2.2.2.2.2.1
            have j73 := H48.2.2.2.2.2.2.2.2.2.2.2.2.2.2.2.2.2.2.2.2.2.2.2.2.1
            have j74 := H48.2.2.2.2.2.2.2.2.2.2.2.2.2.2.2.2.2.2.2.2.2.2.2.2.2.1
            have j75 := H48.2.2.2.2.2.2.2.2.2.2.2.2.2.2.2.2.2.2.2.2.2.2.2.2.2.2
            refine un31_i ?_
            have zu47_1 : (u47_1).toInt = (h0_site_world_force).toInt := congrArg Int32.toInt j72
            have zu47_0 : (u47_0).toInt = (h0_site_world_lawCount).toInt := congrArg Int32.toInt j71
            have wu47_1 : u47_23 (Int32.toNatClampNeg u47_1) = some t := by rw [j72, j70 _ (by have q9 := tnz (i := h0_site_world_force) (x := h0_site_world_force.toInt) rfl (by omega); omega)]; assumption
            have lw76 := fun k hk v (hv : u47_23 k = some v) => e_6 k hk v ((j70 k hk).symm.trans hv)
            have cc6 := RXw.cc j74
            have cc7 := RXw.cc e_0
            have cc6 : u47_6.toInt = w 0 := cc6
            have cc7 : h0_site_world_crew_count.toInt = w 0 := cc7
            have fo6 : h0_site_world_force.toInt = w 6 := RXw.fo e_0
            have htx0 : XTx t_clauses t_length n_t_heads f_t_heads n_t_code f_t_code (ls u47_1.toInt.toNat) := by rw [show u47_1.toInt = w 6 by omega]; exact e_4
            have hok0 : ∀ q ∈ ls u47_1.toInt.toNat, okC q := by rw [show u47_1.toInt = w 6 by omega]; exact e_5
            refine s_X7_runSeasons_Tz (ls := ls) a b h0_paper_world u47_0 u47_1 u47_6 (u47_7) (u47_22) u47_2 (u47_3) (u47_23) h0_asker_world h0_asker_law h0_asker_cell h0_asker_shaft h0_asker_kind h0_asker_done h0_asker_latest h0_asker_value t t_clauses t_length n_t_heads (f_t_heads) n_t_code (f_t_code) (f_h0_asker_stack) u47_9 (u47_14) (u47_4) (u47_5) (u47_8) u47_24 u47_25 (u47_26) (u47_27) (u47_28) (u47_29) (u47_30) (by first | with_reducible assumption | exact ⟨by omega, by omega⟩) (by first | with_reducible assumption | exact ⟨by omega, by omega⟩) (by first | with_reducible assumption | exact ⟨by omega, by omega⟩) (by first | with_reducible assumption | exact ⟨by omega, by omega⟩) (by first | with_reducible assumption | exact ⟨by omega, by omega⟩) j55 j67 j51 (by first | with_reducible assumption | exact ⟨by omega, by omega⟩) (by first | with_reducible assumption | exact ⟨by omega, by omega⟩) (by first | with_reducible assumption | exact ⟨by omega, by omega⟩) h_f_t_code (by first | with_reducible assumption | exact ⟨by omega, by omega⟩) j61 j52 j53 j56 (by first | with_reducible assumption | exact ⟨by omega, by omega⟩) (by first | with_reducible assumption | exact ⟨by omega, by omega⟩) j74 j75 j73 htx0 hok0 (by omega) (by omega) (by omega) (by assumption) (fun u77_0 u77_1 u77_2 u77_3 u77_4 u77_5 u77_6 u77_7 u77_8 u77_9 u77_10 u77_11 u77_12 u77_13 u77_14 u77_15 u77_16 u77_17 u77_18 H78 => ?_)
            have j79 := H78.1
            have j80 := H78.2.1
            have j81 := H78.2.2.1
            have j82 := H78.2.2.2.1
            have j83 := H78.2.2.2.2.1
            have j84 := H78.2.2.2.2.2.1
            have j85 := H78.2.2.2.2.2.2.1
            have j86 := H78.2.2.2.2.2.2.2.1
            have j87 := H78.2.2.2.2.2.2.2.2
            refine un19_i ?_
            obtain ⟨U8, hX8, hU8, hm8⟩ := j86
            refine o_X1_copyFrom _ _ _ _ _ _ ?_
            refine un3_i ?_
            refine x_allB (BU.cp j83) (by first | with_reducible assumption | exact ⟨by omega, by omega⟩) (fun r88 H89 => ?_)
            have j91 := H89.1
            have j90 := H89.2
            refine x_allB h_f_h0_site_world_crew_buckets (by first | with_reducible assumption | exact ⟨by omega, by omega⟩) (fun r92 H93 => ?_)
            have j95 := H93.1
            have j94 := H93.2
            have j96 := sumB_mo (f := fun i => ((f_h0_site_world_crew_buckets) i).toInt) (g := fun i => (((va_cpy (u77_11) (f_h0_drawnCrew_buckets) 0 0 6)) i).toInt) (n := ((Int32.toInt h0_site_world_crew_count)).toNat) (m := ((Int32.toInt u47_6)).toNat) (by omega) (fun i hi => by show ((f_h0_site_world_crew_buckets) i).toInt ≤ (((va_cpy (u77_11) (f_h0_drawnCrew_buckets) 0 0 6)) i).toInt; rw [cpy_n (by omega), RXw.bu e_0 i (by omega), RXw.bu hX8 i (by omega)]; exact hm8 i (by omega))
            have t97 : (Int32.toInt (r88 - r92)) = (Int32.toInt r88) - (Int32.toInt r92) := sub_z rfl rfl (by omega) (by omega)
            have t98 := i32_hi (r88 - r92)
            refine s_X11_settlez (r88 - r92) (f_h0_refusals) (by first | with_reducible assumption | exact ⟨by omega, by omega⟩) e_3 (fun r99 u100_0 u100_1 H101 => ?_)
            have j102 := H101.1
            have j103 := H101.2.1
            have j104 := H101.2.2
            refine un2_i ?_
            have g105 : 0 ≤ (Int32.toInt (u77_1 (0 : Int32).toNatClampNeg)) ∧ (Int32.toInt (u77_1 (0 : Int32).toNatClampNeg)) ≤ 9999 := TE.at_0 j80 (rfl : ((0 : Nat) : Int) = 0) (by omega) (by omega)
            have hB106 : seaB w a.toInt b.toInt = 0 := by unfold seaB; (repeat' split) <;> omega
            have g107 : 0 ≤ (Int32.toInt r99) := by omega
            exact hq _ _ _ _ _ _ _ _ _ _ _ _ _ _ _ _ _ _ _ _ _ _ _ _ _ _ _ _ _ _ _ _ _ _ _ _ _ _ _ _ _ _ _ _ _ ⟨(by first | with_reducible assumption | exact ⟨by omega, by omega⟩), (by first | with_reducible assumption | exact ⟨by omega, by omega⟩), j51, j52, j82, (by first | with_reducible assumption | exact ⟨by omega, by omega⟩), j79, j83, (by first | with_reducible assumption | exact ⟨by omega, by omega⟩), (by first | with_reducible assumption | exact ⟨by omega, by omega⟩), (by first | with_reducible assumption | exact ⟨by omega, by omega⟩), (by first | with_reducible assumption | exact ⟨by omega, by omega⟩), j61, j62, j63, j64, j65, j66, j80, (by first | with_reducible assumption | exact ⟨by omega, by omega⟩), (by first | with_reducible assumption | exact ⟨by omega, by omega⟩), (by first | with_reducible assumption | exact ⟨by omega, by omega⟩), (by first | with_reducible assumption | exact ⟨by omega, by omega⟩), (CE.cp j79), (BU.cp j83), (by rw [hB106]; have q := j103; rw [tlS_p g107] at q; exact q), (by rw [hB106]; have q := j104; rw [tlR_p g107] at q; exact q), (by unfold seaD; rw [if_neg (by omega)]; exact RXn.of hX8 (by omega) (by omega))⟩
        · refine br0 c34 ?_
          have d108 := nle_z (x := (Int32.toInt b)) (y := 60) rfl rfl c34
          have k109 : Int32.toInt (-1) = (-1) := (by decide)
          refine s_X11_settlez (-1) (f_h0_refusals) (by decide) e_3 (fun r110 u111_0 u111_1 H112 => ?_)
          have j113 := H112.1
          have j114 := H112.2.1
          have j115 := H112.2.2
          refine un2_i ?_
          have hB116 : seaB w a.toInt b.toInt = (Int32.toInt r110) := by unfold seaB; (repeat' split) <;> omega
          exact hq _ _ _ _ _ _ _ _ _ _ _ _ _ _ _ _ _ _ _ _ _ _ _ _ _ _ _ _ _ _ _ _ _ _ _ _ _ _ _ _ _ _ _ _ _ ⟨(by first | with_reducible assumption | exact ⟨by omega, by omega⟩), (by first | with_reducible assumption | exact ⟨by omega, by omega⟩), h_f_h0_paper_world_rock_kind, h_f_h0_paper_world_rock_hard, h_f_h0_paper_world_rock_water, (by first | with_reducible assumption | exact ⟨by omega, by omega⟩), h_f_h0_paper_world_crew_cell, h_f_h0_paper_world_crew_buckets, (by first | with_reducible assumption | exact ⟨by omega, by omega⟩), (by first | with_reducible assumption | exact ⟨by omega, by omega⟩), (by first | with_reducible assumption | exact ⟨by omega, by omega⟩), (by first | with_reducible assumption | exact ⟨by omega, by omega⟩), h_f_h0_paper_world_folk_column, h_f_h0_paper_world_folk_ear, h_f_h0_paper_world_folk_noiseColumn, h_f_h0_paper_world_folk_noiseLoud, h_f_h0_paper_world_folk_hearsayColumn, h_f_h0_paper_world_folk_hearsayLoud, h_f_h0_paper_world_term, (by first | with_reducible assumption | exact ⟨by omega, by omega⟩), (by first | with_reducible assumption | exact ⟨by omega, by omega⟩), (by first | with_reducible assumption | exact ⟨by omega, by omega⟩), (by first | with_reducible assumption | exact ⟨by omega, by omega⟩), h_f_h0_drawnCrew_cell, h_f_h0_drawnCrew_buckets, (by rw [hB116]; exact j114), (by rw [hB116]; exact j115), (by unfold seaD; rw [if_pos (by omega)]; exact e_11)⟩
end
section
set_option maxRecDepth 100000 in
theorem s_X12_canHaulz (a : Int32) (f_row : Nat → Int32) {w : Nat → Int} (h_a : 0 ≤ a.toInt ∧ a.toInt ≤ 5) (h_f_row : RLW f_row) (e_0 : RMw f_row w) (e_1 : a.toInt < w 0) {Q : Int32 → Prop} (hq : ∀ (r : Int32), (r.toInt = (if w (113 + (w (10 + (a.toInt).toNat)).toNat) = 3 ∧ w 7 < 9999 then 1 else 0)) → Q r) : wp_X12_canHaul a f_row Q := by
  unfold wp_X12_canHaul
  refine o_X12_hasFound _ _ _ ?_
  have t1 : (Int32.toInt (10 + a)) = 10 + (Int32.toInt a) := add_z rfl rfl (by omega) (by omega)
  refine ⟨vpi (x := (Int32.toInt (10 + a))) rfl (by omega) (by omega), ?_⟩
  have g2 : 0 ≤ (Int32.toInt (f_row (10 + a).toNatClampNeg)) ∧ (Int32.toInt (f_row (10 + a).toNatClampNeg)) ≤ 39 := RLW.at_10 h_f_row (tnz (x := (Int32.toInt (10 + a))) rfl (by omega)) (by omega) (by omega)
  have t3 : (Int32.toInt (f_row (10 + a).toNatClampNeg)) = w (10 + ((Int32.toInt a)).toNat) := RMw.z e_0 (i := 10 + ((Int32.toInt a)).toNat) (show Int.toNat _ = _ by omega) (by omega)
  have t4 : (Int32.toInt (113 + (f_row (10 + a).toNatClampNeg))) = 113 + (Int32.toInt (f_row (10 + a).toNatClampNeg)) := add_z rfl rfl (by omega) (by omega)
  refine ⟨vpi (x := (Int32.toInt (113 + (f_row (10 + a).toNatClampNeg)))) rfl (by omega) (by omega), ?_⟩
  by_cases c5 : (f_row (113 + (f_row (10 + a).toNatClampNeg)).toNatClampNeg) = 3
  · refine br1 c5 ?_
    have g6 : 0 ≤ (Int32.toInt (f_row (113 + (f_row (10 + a).toNatClampNeg)).toNatClampNeg)) ∧ (Int32.toInt (f_row (113 + (f_row (10 + a).toNatClampNeg)).toNatClampNeg)) ≤ 3 := RLW.at_113 h_f_row (tnz (x := (Int32.toInt (113 + (f_row (10 + a).toNatClampNeg)))) rfl (by omega)) (by omega) (by omega)
    have t7 : (Int32.toInt (f_row (113 + (f_row (10 + a).toNatClampNeg)).toNatClampNeg)) = w (113 + (w (10 + ((Int32.toInt a)).toNat)).toNat) := RMw.z e_0 (i := 113 + (w (10 + ((Int32.toInt a)).toNat)).toNat) (show Int.toNat _ = _ by omega) (by omega)
    have d8 := eq_z (x := (Int32.toInt (f_row (113 + (f_row (10 + a).toNatClampNeg)).toNatClampNeg))) (y := 3) rfl rfl c5
    refine br0 (by decide) ?_
    by_cases c9 : 9999 ≤ (f_row (7 : Int32).toNatClampNeg)
    · refine br1 c9 ?_
      have g10 : 0 ≤ (Int32.toInt (f_row (7 : Int32).toNatClampNeg)) ∧ (Int32.toInt (f_row (7 : Int32).toNatClampNeg)) ≤ 9999 := RLW.at_7 h_f_row (rfl : ((7 : Nat) : Int) = 7) (by omega) (by omega)
      have t11 : (Int32.toInt (f_row (7 : Int32).toNatClampNeg)) = w (7) := RMw.z e_0 (i := 7) rfl (by omega)
      have d12 := le_z (x := 9999) (y := (Int32.toInt (f_row (7 : Int32).toNatClampNeg))) rfl rfl c9
      have k13 : Int32.toInt 0 = 0 := rfl
      exact hq _ (by (repeat' split) <;> omega)
    · refine br0 c9 ?_
      have g14 : 0 ≤ (Int32.toInt (f_row (7 : Int32).toNatClampNeg)) ∧ (Int32.toInt (f_row (7 : Int32).toNatClampNeg)) ≤ 9999 := RLW.at_7 h_f_row (rfl : ((7 : Nat) : Int) = 7) (by omega) (by omega)
      have t15 : (Int32.toInt (f_row (7 : Int32).toNatClampNeg)) = w (7) := RMw.z e_0 (i := 7) rfl (by omega)
      have d16 := nle_z (x := 9999) (y := (Int32.toInt (f_row (7 : Int32).toNatClampNeg))) rfl rfl c9
      have k17 : Int32.toInt 1 = 1 := rfl
      exact hq _ (by (repeat' split) <;> omega)
  · refine br0 c5 ?_
    have g18 : 0 ≤ (Int32.toInt (f_row (113 + (f_row (10 + a).toNatClampNeg)).toNatClampNeg)) ∧ (Int32.toInt (f_row (113 + (f_row (10 + a).toNatClampNeg)).toNatClampNeg)) ≤ 3 := RLW.at_113 h_f_row (tnz (x := (Int32.toInt (113 + (f_row (10 + a).toNatClampNeg)))) rfl (by omega)) (by omega) (by omega)
    have t19 : (Int32.toInt (f_row (113 + (f_row (10 + a).toNatClampNeg)).toNatClampNeg)) = w (113 + (w (10 + ((Int32.toInt a)).toNat)).toNat) := RMw.z e_0 (i := 113 + (w (10 + ((Int32.toInt a)).toNat)).toNat) (show Int.toNat _ = _ by omega) (by omega)
    have d20 := ne_z (x := (Int32.toInt (f_row (113 + (f_row (10 + a).toNatClampNeg)).toNatClampNeg))) (y := 3) rfl rfl c5
    refine br1 (by decide) ?_
    have k21 : Int32.toInt 0 = 0 := rfl
    exact hq _ (by (repeat' split) <;> omega)


set_option maxRecDepth 100000 in
theorem s_X12_haulItz (a : Int32) (h0_ordered : Int32) (h0_law : Int32) (h0_broken : Int32) (h0_value : Int64) (h0_sum : Int64) (f_row : Nat → Int32) (f_set : Nat → Int64) (f_nOp : Nat → Int32) (f_nArg : Nat → Int32) (f_rest : Nat → Int64) (f_now : Nat → Int64) {w : Nat → Int} {ls : Nat → List Cls} (h_a : 0 ≤ a.toInt ∧ a.toInt ≤ 5) (h_h0_ordered : 0 ≤ h0_ordered.toInt ∧ h0_ordered.toInt ≤ 0) (h_h0_broken : 0 ≤ h0_broken.toInt ∧ h0_broken.toInt ≤ 1) (h_f_row : RLW f_row) (e_0 : RMw f_row w) (e_1 : RML f_row ls) (e_2 : a.toInt < w 0) (e_3 : w 7 < 9999) {Q : Int32 → (Int32 × Int32 × Int64 × Int64 × (Nat → Int32) × (Nat → Int64) × (Nat → Int64)) → Prop} (hq : ∀ (r : Int32) (u_0 : Int32) (u_1 : Int32) (u_2 : Int64) (u_3 : Int64) (u_4 : Nat → Int32) (u_5 : Nat → Int64) (u_6 : Nat → Int64), (0 ≤ u_1.toInt ∧ u_1.toInt ≤ 1) ∧ (RLW u_4) ∧ (r.toInt = givesW (lawW w ls) w a.toInt (w (10 + (a.toInt).toNat))) ∧ (RMw u_4 (haulO (lawW w ls) w a.toInt)) ∧ (RML u_4 ls) → Q r (u_0, u_1, u_2, u_3, u_4, u_5, u_6)) : wp_X12_haulIt a h0_ordered h0_law h0_broken h0_value h0_sum f_row f_set f_nOp f_nArg f_rest f_now Q := by
  unfold wp_X12_haulIt
  obtain rfl : h0_ordered = 0 := z_eq (y := 0) rfl rfl (by omega)
  have t1 : (Int32.toInt (10 + a)) = 10 + (Int32.toInt a) := add_z rfl rfl (by omega) (by omega)
  refine ⟨vpi (x := (Int32.toInt (10 + a))) rfl (by omega) (by omega), ?_⟩
  have g3 : 0 ≤ (Int32.toInt (f_row (10 + a).toNatClampNeg)) ∧ (Int32.toInt (f_row (10 + a).toNatClampNeg)) ≤ 39 := RLW.at_10 h_f_row (tnz (x := (Int32.toInt (10 + a))) rfl (by omega)) (by omega) (by omega)
  have t4 : (Int32.toInt (f_row (10 + a).toNatClampNeg)) = w (10 + ((Int32.toInt a)).toNat) := RMw.z e_0 (i := 10 + ((Int32.toInt a)).toNat) (show Int.toNat _ = _ by omega) (by omega)
  refine z_mgives e_1 e_0 h_f_row (by first | with_reducible assumption | exact ⟨by omega, by omega⟩) (by first | with_reducible assumption | exact ⟨by omega, by omega⟩) (fun r2 q5 q6 q7 q8 q9 q10 H11 => ?_)
  have j12 := H11.1
  have j13 := H11.2.1
  have j14 := H11.2.2.1
  have j15 := H11.2.2.2
  rw [show (Int32.toInt (f_row (10 + a).toNatClampNeg)) = w (10 + ((Int32.toInt a)).toNat) by omega] at j13
  rw [show (Int32.toInt (f_row (10 + a).toNatClampNeg)) = w (10 + ((Int32.toInt a)).toNat) by omega] at j14
  refine un6_i ?_
  refine ⟨vpi (x := (Int32.toInt (10 + a))) rfl (by omega) (by omega), ?_⟩
  have t16 : (Int32.toInt (73 + (f_row (10 + a).toNatClampNeg))) = 73 + (Int32.toInt (f_row (10 + a).toNatClampNeg)) := add_z rfl rfl (by omega) (by omega)
  refine ⟨vpi (x := (Int32.toInt (73 + (f_row (10 + a).toNatClampNeg)))) rfl (by omega) (by omega), ?_⟩
  refine ⟨vpi (x := (Int32.toInt (73 + (f_row (10 + a).toNatClampNeg)))) rfl (by omega) (by omega), ?_⟩
  have t17 : (Int32.toInt (16 + a)) = 16 + (Int32.toInt a) := add_z rfl rfl (by omega) (by omega)
  refine ⟨vpi (x := (Int32.toInt (16 + a))) rfl (by omega) (by omega), ?_⟩
  refine o_X12_within _ _ _ _ ?_
  have g18 : 0 ≤ (Int32.toInt (f_row (16 + a).toNatClampNeg)) ∧ (Int32.toInt (f_row (16 + a).toNatClampNeg)) ≤ 9999 := RLW.at_16 h_f_row (tnz (x := (Int32.toInt (16 + a))) rfl (by omega)) (by omega) (by omega)
  have t19 : (Int32.toInt (f_row (16 + a).toNatClampNeg)) = w (16 + ((Int32.toInt a)).toNat) := RMw.z e_0 (i := 16 + ((Int32.toInt a)).toNat) (show Int.toNat _ = _ by omega) (by omega)
  have t20 : (Int32.toInt ((upd f_row (73 + (f_row (10 + a).toNatClampNeg)).toNatClampNeg ((f_row (73 + (f_row (10 + a).toNatClampNeg)).toNatClampNeg) - r2)) (16 + a).toNatClampNeg)) = (Int32.toInt (f_row (16 + a).toNatClampNeg)) := congrArg Int32.toInt (pk_un (ne_n (tnz (x := (Int32.toInt (16 + a))) rfl (by omega)) (tnz (x := (Int32.toInt (73 + (f_row (10 + a).toNatClampNeg)))) rfl (by omega)) (by omega)))
  have t21 : (Int32.toInt (((upd f_row (73 + (f_row (10 + a).toNatClampNeg)).toNatClampNeg ((f_row (73 + (f_row (10 + a).toNatClampNeg)).toNatClampNeg) - r2)) (16 + a).toNatClampNeg) + r2)) = (Int32.toInt ((upd f_row (73 + (f_row (10 + a).toNatClampNeg)).toNatClampNeg ((f_row (73 + (f_row (10 + a).toNatClampNeg)).toNatClampNeg) - r2)) (16 + a).toNatClampNeg)) + (Int32.toInt r2) := add_z rfl rfl (by omega) (by omega)
  have t22 : (Int64.toInt (((upd f_row (73 + (f_row (10 + a).toNatClampNeg)).toNatClampNeg ((f_row (73 + (f_row (10 + a).toNatClampNeg)).toNatClampNeg) - r2)) (16 + a).toNatClampNeg) + r2).toInt64) = (Int32.toInt (((upd f_row (73 + (f_row (10 + a).toNatClampNeg)).toNatClampNeg ((f_row (73 + (f_row (10 + a).toNatClampNeg)).toNatClampNeg) - r2)) (16 + a).toNatClampNeg) + r2)) := i2l_z rfl
  refine br1 (k_ge (x := (Int64.toInt (((upd f_row (73 + (f_row (10 + a).toNatClampNeg)).toNatClampNeg ((f_row (73 + (f_row (10 + a).toNatClampNeg)).toNatClampNeg) - r2)) (16 + a).toNatClampNeg) + r2).toInt64)) (y := 0) rfl rfl (by omega)) ?_
  by_cases c23 : (lg_cmp (((upd f_row (73 + (f_row (10 + a).toNatClampNeg)).toNatClampNeg ((f_row (73 + (f_row (10 + a).toNatClampNeg)).toNatClampNeg) - r2)) (16 + a).toNatClampNeg) + r2).toInt64 ((9999 : Int32).toInt64 : Int64)) ≤ 0
  · refine br1 c23 ?_
    have d24 := c_le (x := (Int64.toInt (((upd f_row (73 + (f_row (10 + a).toNatClampNeg)).toNatClampNeg ((f_row (73 + (f_row (10 + a).toNatClampNeg)).toNatClampNeg) - r2)) (16 + a).toNatClampNeg) + r2).toInt64)) (y := 9999) rfl rfl c23
    refine ⟨vpi (x := (Int32.toInt (16 + a))) rfl (by omega) (by omega), ?_⟩
    have g25 : 0 ≤ (Int32.toInt (f_row (73 + (f_row (10 + a).toNatClampNeg)).toNatClampNeg)) ∧ (Int32.toInt (f_row (73 + (f_row (10 + a).toNatClampNeg)).toNatClampNeg)) ≤ 99 := RLW.at_73 h_f_row (tnz (x := (Int32.toInt (73 + (f_row (10 + a).toNatClampNeg)))) rfl (by omega)) (by omega) (by omega)
    have t26 : (Int32.toInt (f_row (73 + (f_row (10 + a).toNatClampNeg)).toNatClampNeg)) = w (73 + (w (10 + ((Int32.toInt a)).toNat)).toNat) := RMw.z e_0 (i := 73 + (w (10 + ((Int32.toInt a)).toNat)).toNat) (show Int.toNat _ = _ by omega) (by omega)
    have t27 : (Int32.toInt ((f_row (73 + (f_row (10 + a).toNatClampNeg)).toNatClampNeg) - r2)) = (Int32.toInt (f_row (73 + (f_row (10 + a).toNatClampNeg)).toNatClampNeg)) - (Int32.toInt r2) := sub_z rfl rfl (by omega) (by omega)
    have R28 : RLW (upd f_row (73 + (f_row (10 + a).toNatClampNeg)).toNatClampNeg ((f_row (73 + (f_row (10 + a).toNatClampNeg)).toNatClampNeg) - r2)) := RLW.up_73 h_f_row (tnz (x := (Int32.toInt (73 + (f_row (10 + a).toNatClampNeg)))) rfl (by omega)) (by omega) (by omega) (w := (Int32.toInt ((f_row (73 + (f_row (10 + a).toNatClampNeg)).toNatClampNeg) - r2))) rfl (by omega) (by omega)
    have t29 : (Int32.toInt (((upd f_row (73 + (f_row (10 + a).toNatClampNeg)).toNatClampNeg ((f_row (73 + (f_row (10 + a).toNatClampNeg)).toNatClampNeg) - r2)) (16 + a).toNatClampNeg) + r2).toInt64.toInt32) = (Int64.toInt (((upd f_row (73 + (f_row (10 + a).toNatClampNeg)).toNatClampNeg ((f_row (73 + (f_row (10 + a).toNatClampNeg)).toNatClampNeg) - r2)) (16 + a).toNatClampNeg) + r2).toInt64) := l2i_z rfl (by omega) (by omega)
    have R30 : RLW (upd (upd f_row (73 + (f_row (10 + a).toNatClampNeg)).toNatClampNeg ((f_row (73 + (f_row (10 + a).toNatClampNeg)).toNatClampNeg) - r2)) (16 + a).toNatClampNeg (((upd f_row (73 + (f_row (10 + a).toNatClampNeg)).toNatClampNeg ((f_row (73 + (f_row (10 + a).toNatClampNeg)).toNatClampNeg) - r2)) (16 + a).toNatClampNeg) + r2).toInt64.toInt32) := RLW.up_16 R28 (tnz (x := (Int32.toInt (16 + a))) rfl (by omega)) (by omega) (by omega) (w := (Int32.toInt (((upd f_row (73 + (f_row (10 + a).toNatClampNeg)).toNatClampNeg ((f_row (73 + (f_row (10 + a).toNatClampNeg)).toNatClampNeg) - r2)) (16 + a).toNatClampNeg) + r2).toInt64.toInt32)) rfl (by omega) (by omega)
    have g31 : 0 ≤ (Int32.toInt (f_row (7 : Int32).toNatClampNeg)) ∧ (Int32.toInt (f_row (7 : Int32).toNatClampNeg)) ≤ 9999 := RLW.at_7 h_f_row (rfl : ((7 : Nat) : Int) = 7) (by omega) (by omega)
    have t32 : (Int32.toInt (f_row (7 : Int32).toNatClampNeg)) = w (7) := RMw.z e_0 (i := 7) rfl (by omega)
    have t33 : (Int32.toInt ((upd f_row (73 + (f_row (10 + a).toNatClampNeg)).toNatClampNeg ((f_row (73 + (f_row (10 + a).toNatClampNeg)).toNatClampNeg) - r2)) (7 : Int32).toNatClampNeg)) = (Int32.toInt (f_row (7 : Int32).toNatClampNeg)) := congrArg Int32.toInt (pk_un (ne_n (rfl : ((7 : Nat) : Int) = 7) (tnz (x := (Int32.toInt (73 + (f_row (10 + a).toNatClampNeg)))) rfl (by omega)) (by omega)))
    have t34 : (Int32.toInt ((upd (upd f_row (73 + (f_row (10 + a).toNatClampNeg)).toNatClampNeg ((f_row (73 + (f_row (10 + a).toNatClampNeg)).toNatClampNeg) - r2)) (16 + a).toNatClampNeg (((upd f_row (73 + (f_row (10 + a).toNatClampNeg)).toNatClampNeg ((f_row (73 + (f_row (10 + a).toNatClampNeg)).toNatClampNeg) - r2)) (16 + a).toNatClampNeg) + r2).toInt64.toInt32) (7 : Int32).toNatClampNeg)) = (Int32.toInt ((upd f_row (73 + (f_row (10 + a).toNatClampNeg)).toNatClampNeg ((f_row (73 + (f_row (10 + a).toNatClampNeg)).toNatClampNeg) - r2)) (7 : Int32).toNatClampNeg)) := congrArg Int32.toInt (pk_un (ne_n (rfl : ((7 : Nat) : Int) = 7) (tnz (x := (Int32.toInt (16 + a))) rfl (by omega)) (by omega)))
    have t35 : (Int32.toInt (((upd (upd f_row (73 + (f_row (10 + a).toNatClampNeg)).toNatClampNeg ((f_row (73 + (f_row (10 + a).toNatClampNeg)).toNatClampNeg) - r2)) (16 + a).toNatClampNeg (((upd f_row (73 + (f_row (10 + a).toNatClampNeg)).toNatClampNeg ((f_row (73 + (f_row (10 + a).toNatClampNeg)).toNatClampNeg) - r2)) (16 + a).toNatClampNeg) + r2).toInt64.toInt32) (7 : Int32).toNatClampNeg) + 1)) = (Int32.toInt ((upd (upd f_row (73 + (f_row (10 + a).toNatClampNeg)).toNatClampNeg ((f_row (73 + (f_row (10 + a).toNatClampNeg)).toNatClampNeg) - r2)) (16 + a).toNatClampNeg (((upd f_row (73 + (f_row (10 + a).toNatClampNeg)).toNatClampNeg ((f_row (73 + (f_row (10 + a).toNatClampNeg)).toNatClampNeg) - r2)) (16 + a).toNatClampNeg) + r2).toInt64.toInt32) (7 : Int32).toNatClampNeg)) + 1 := add_z rfl rfl (by omega) (by omega)
    have R36 : RLW (upd (upd (upd f_row (73 + (f_row (10 + a).toNatClampNeg)).toNatClampNeg ((f_row (73 + (f_row (10 + a).toNatClampNeg)).toNatClampNeg) - r2)) (16 + a).toNatClampNeg (((upd f_row (73 + (f_row (10 + a).toNatClampNeg)).toNatClampNeg ((f_row (73 + (f_row (10 + a).toNatClampNeg)).toNatClampNeg) - r2)) (16 + a).toNatClampNeg) + r2).toInt64.toInt32) 7 (((upd (upd f_row (73 + (f_row (10 + a).toNatClampNeg)).toNatClampNeg ((f_row (73 + (f_row (10 + a).toNatClampNeg)).toNatClampNeg) - r2)) (16 + a).toNatClampNeg (((upd f_row (73 + (f_row (10 + a).toNatClampNeg)).toNatClampNeg ((f_row (73 + (f_row (10 + a).toNatClampNeg)).toNatClampNeg) - r2)) (16 + a).toNatClampNeg) + r2).toInt64.toInt32) (7 : Int32).toNatClampNeg) + 1)) := RLW.up_7 R30 (rfl : ((7 : Nat) : Int) = 7) (by omega) (by omega) (w := (Int32.toInt (((upd (upd f_row (73 + (f_row (10 + a).toNatClampNeg)).toNatClampNeg ((f_row (73 + (f_row (10 + a).toNatClampNeg)).toNatClampNeg) - r2)) (16 + a).toNatClampNeg (((upd f_row (73 + (f_row (10 + a).toNatClampNeg)).toNatClampNeg ((f_row (73 + (f_row (10 + a).toNatClampNeg)).toNatClampNeg) - r2)) (16 + a).toNatClampNeg) + r2).toInt64.toInt32) (7 : Int32).toNatClampNeg) + 1))) rfl (by omega) (by omega)
    exact hq _ _ _ _ _ _ _ _ ⟨(by first | with_reducible assumption | exact ⟨by omega, by omega⟩), R36, (by omega), (by unfold haulO; rw [← j13]; unfold haulC; exact (RMw.up (RMw.up (RMw.up e_0 (by first | rfl | (show Int.toNat _ = _; omega)) (by first | rfl | omega | (split <;> omega))) (by first | rfl | (show Int.toNat _ = _; omega)) (by first | rfl | omega | (split <;> omega))) (by first | rfl | (show Int.toNat _ = _; omega)) (by first | rfl | omega | (split <;> omega)))), (RML.up (RML.up (RML.up e_1 (tnz (x := (Int32.toInt (73 + (f_row (10 + a).toNatClampNeg)))) rfl (by omega)) (by omega) (by omega)) (tnz (x := (Int32.toInt (16 + a))) rfl (by omega)) (by omega) (by omega)) (rfl : ((7 : Nat) : Int) = 7) (by omega) (by omega))⟩
  · refine br0 c23 ?_
    have d37 := c_nle (x := (Int64.toInt (((upd f_row (73 + (f_row (10 + a).toNatClampNeg)).toNatClampNeg ((f_row (73 + (f_row (10 + a).toNatClampNeg)).toNatClampNeg) - r2)) (16 + a).toNatClampNeg) + r2).toInt64)) (y := 9999) rfl rfl c23
    refine ⟨vpi (x := (Int32.toInt (16 + a))) rfl (by omega) (by omega), ?_⟩
    have g38 : 0 ≤ (Int32.toInt (f_row (73 + (f_row (10 + a).toNatClampNeg)).toNatClampNeg)) ∧ (Int32.toInt (f_row (73 + (f_row (10 + a).toNatClampNeg)).toNatClampNeg)) ≤ 99 := RLW.at_73 h_f_row (tnz (x := (Int32.toInt (73 + (f_row (10 + a).toNatClampNeg)))) rfl (by omega)) (by omega) (by omega)
    have t39 : (Int32.toInt (f_row (73 + (f_row (10 + a).toNatClampNeg)).toNatClampNeg)) = w (73 + (w (10 + ((Int32.toInt a)).toNat)).toNat) := RMw.z e_0 (i := 73 + (w (10 + ((Int32.toInt a)).toNat)).toNat) (show Int.toNat _ = _ by omega) (by omega)
    have t40 : (Int32.toInt ((f_row (73 + (f_row (10 + a).toNatClampNeg)).toNatClampNeg) - r2)) = (Int32.toInt (f_row (73 + (f_row (10 + a).toNatClampNeg)).toNatClampNeg)) - (Int32.toInt r2) := sub_z rfl rfl (by omega) (by omega)
    have R41 : RLW (upd f_row (73 + (f_row (10 + a).toNatClampNeg)).toNatClampNeg ((f_row (73 + (f_row (10 + a).toNatClampNeg)).toNatClampNeg) - r2)) := RLW.up_73 h_f_row (tnz (x := (Int32.toInt (73 + (f_row (10 + a).toNatClampNeg)))) rfl (by omega)) (by omega) (by omega) (w := (Int32.toInt ((f_row (73 + (f_row (10 + a).toNatClampNeg)).toNatClampNeg) - r2))) rfl (by omega) (by omega)
    have R42 : RLW (upd (upd f_row (73 + (f_row (10 + a).toNatClampNeg)).toNatClampNeg ((f_row (73 + (f_row (10 + a).toNatClampNeg)).toNatClampNeg) - r2)) (16 + a).toNatClampNeg 9999) := RLW.up_16 R41 (tnz (x := (Int32.toInt (16 + a))) rfl (by omega)) (by omega) (by omega) (w := 9999) rfl (by omega) (by omega)
    have g43 : 0 ≤ (Int32.toInt (f_row (7 : Int32).toNatClampNeg)) ∧ (Int32.toInt (f_row (7 : Int32).toNatClampNeg)) ≤ 9999 := RLW.at_7 h_f_row (rfl : ((7 : Nat) : Int) = 7) (by omega) (by omega)
    have t44 : (Int32.toInt (f_row (7 : Int32).toNatClampNeg)) = w (7) := RMw.z e_0 (i := 7) rfl (by omega)
    have t45 : (Int32.toInt ((upd f_row (73 + (f_row (10 + a).toNatClampNeg)).toNatClampNeg ((f_row (73 + (f_row (10 + a).toNatClampNeg)).toNatClampNeg) - r2)) (7 : Int32).toNatClampNeg)) = (Int32.toInt (f_row (7 : Int32).toNatClampNeg)) := congrArg Int32.toInt (pk_un (ne_n (rfl : ((7 : Nat) : Int) = 7) (tnz (x := (Int32.toInt (73 + (f_row (10 + a).toNatClampNeg)))) rfl (by omega)) (by omega)))
    have t46 : (Int32.toInt ((upd (upd f_row (73 + (f_row (10 + a).toNatClampNeg)).toNatClampNeg ((f_row (73 + (f_row (10 + a).toNatClampNeg)).toNatClampNeg) - r2)) (16 + a).toNatClampNeg 9999) (7 : Int32).toNatClampNeg)) = (Int32.toInt ((upd f_row (73 + (f_row (10 + a).toNatClampNeg)).toNatClampNeg ((f_row (73 + (f_row (10 + a).toNatClampNeg)).toNatClampNeg) - r2)) (7 : Int32).toNatClampNeg)) := congrArg Int32.toInt (pk_un (ne_n (rfl : ((7 : Nat) : Int) = 7) (tnz (x := (Int32.toInt (16 + a))) rfl (by omega)) (by omega)))
    have t47 : (Int32.toInt (((upd (upd f_row (73 + (f_row (10 + a).toNatClampNeg)).toNatClampNeg ((f_row (73 + (f_row (10 + a).toNatClampNeg)).toNatClampNeg) - r2)) (16 + a).toNatClampNeg 9999) (7 : Int32).toNatClampNeg) + 1)) = (Int32.toInt ((upd (upd f_row (73 + (f_row (10 + a).toNatClampNeg)).toNatClampNeg ((f_row (73 + (f_row (10 + a).toNatClampNeg)).toNatClampNeg) - r2)) (16 + a).toNatClampNeg 9999) (7 : Int32).toNatClampNeg)) + 1 := add_z rfl rfl (by omega) (by omega)
    have R48 : RLW (upd (upd (upd f_row (73 + (f_row (10 + a).toNatClampNeg)).toNatClampNeg ((f_row (73 + (f_row (10 + a).toNatClampNeg)).toNatClampNeg) - r2)) (16 + a).toNatClampNeg 9999) 7 (((upd (upd f_row (73 + (f_row (10 + a).toNatClampNeg)).toNatClampNeg ((f_row (73 + (f_row (10 + a).toNatClampNeg)).toNatClampNeg) - r2)) (16 + a).toNatClampNeg 9999) (7 : Int32).toNatClampNeg) + 1)) := RLW.up_7 R42 (rfl : ((7 : Nat) : Int) = 7) (by omega) (by omega) (w := (Int32.toInt (((upd (upd f_row (73 + (f_row (10 + a).toNatClampNeg)).toNatClampNeg ((f_row (73 + (f_row (10 + a).toNatClampNeg)).toNatClampNeg) - r2)) (16 + a).toNatClampNeg 9999) (7 : Int32).toNatClampNeg) + 1))) rfl (by omega) (by omega)
    have k49 : Int32.toInt 9999 = 9999 := rfl
    exact hq _ _ _ _ _ _ _ _ ⟨(by first | with_reducible assumption | exact ⟨by omega, by omega⟩), R48, (by omega), (by unfold haulO; rw [← j13]; unfold haulC; exact (RMw.up (RMw.up (RMw.up e_0 (by first | rfl | (show Int.toNat _ = _; omega)) (by first | rfl | omega | (split <;> omega))) (by first | rfl | (show Int.toNat _ = _; omega)) (by first | rfl | omega | (split <;> omega))) (by first | rfl | (show Int.toNat _ = _; omega)) (by first | rfl | omega | (split <;> omega)))), (RML.up (RML.up (RML.up e_1 (tnz (x := (Int32.toInt (73 + (f_row (10 + a).toNatClampNeg)))) rfl (by omega)) (by omega) (by omega)) (tnz (x := (Int32.toInt (16 + a))) rfl (by omega)) (by omega) (by omega)) (rfl : ((7 : Nat) : Int) = 7) (by omega) (by omega))⟩


set_option maxRecDepth 100000 in
theorem s_X12_canDigz (a : Int32) (b : Int32) (h0_ordered : Int32) (h0_law : Int32) (h0_broken : Int32) (h0_value : Int64) (h0_sum : Int64) (f_row : Nat → Int32) (f_set : Nat → Int64) (f_nOp : Nat → Int32) (f_nArg : Nat → Int32) (f_rest : Nat → Int64) (f_now : Nat → Int64) {w : Nat → Int} {ls : Nat → List Cls} (h_a : 0 ≤ a.toInt ∧ a.toInt ≤ 5) (h_b : 0 ≤ b.toInt ∧ b.toInt ≤ 2) (h_h0_ordered : 0 ≤ h0_ordered.toInt ∧ h0_ordered.toInt ≤ 0) (h_h0_broken : 0 ≤ h0_broken.toInt ∧ h0_broken.toInt ≤ 1) (h_f_row : RLW f_row) (e_0 : RMw f_row w) (e_1 : RML f_row ls) (e_2 : a.toInt < w 0) {Q : Int32 → (Int32 × Int32 × Int64 × Int64 × (Nat → Int64) × (Nat → Int64)) → Prop} (hq : ∀ (r : Int32) (u_0 : Int32) (u_1 : Int32) (u_2 : Int64) (u_3 : Int64) (u_4 : Nat → Int64) (u_5 : Nat → Int64), (0 ≤ u_1.toInt ∧ u_1.toInt ≤ 1) ∧ (r.toInt = (if 2 ≤ w (113 + (w (10 + (a.toInt).toNat)).toNat) ∨ cbI (w (10 + (a.toInt).toNat)) b.toInt < 0 ∨ w (33 + (cbI (w (10 + (a.toInt).toNat)) b.toInt).toNat) = 1 ∨ pasI (lawW w ls) w a.toInt (cbI (w (10 + (a.toInt).toNat)) b.toInt) = 0 ∨ 9999 < w 7 + digsW (lawW w ls) w a.toInt (cbI (w (10 + (a.toInt).toNat)) b.toInt) then 0 else 1)) → Q r (u_0, u_1, u_2, u_3, u_4, u_5)) : wp_X12_canDig a b h0_ordered h0_law h0_broken h0_value h0_sum f_row f_set f_nOp f_nArg f_rest f_now Q := by
  unfold wp_X12_canDig
  obtain rfl : h0_ordered = 0 := z_eq (y := 0) rfl rfl (by omega)
  have t1 : (Int32.toInt (10 + a)) = 10 + (Int32.toInt a) := add_z rfl rfl (by omega) (by omega)
  refine ⟨vpi (x := (Int32.toInt (10 + a))) rfl (by omega) (by omega), ?_⟩
  have g3 : 0 ≤ (Int32.toInt (f_row (10 + a).toNatClampNeg)) ∧ (Int32.toInt (f_row (10 + a).toNatClampNeg)) ≤ 39 := RLW.at_10 h_f_row (tnz (x := (Int32.toInt (10 + a))) rfl (by omega)) (by omega) (by omega)
  have t4 : (Int32.toInt (f_row (10 + a).toNatClampNeg)) = w (10 + ((Int32.toInt a)).toNat) := RMw.z e_0 (i := 10 + ((Int32.toInt a)).toNat) (show Int.toNat _ = _ by omega) (by omega)
  refine z_cellBy (z := w (10 + ((Int32.toInt a)).toNat)) (by omega) (by first | with_reducible assumption | exact ⟨by omega, by omega⟩) (by first | with_reducible assumption | exact ⟨by omega, by omega⟩) (fun r2 H5 => ?_)
  have j7 := H5.1
  have j6 := H5.2
  refine o_X12_mayDig _ _ _ ?_
  refine o_X12_isSpoilt _ _ _ ?_
  refine ⟨vpi (x := (Int32.toInt (10 + a))) rfl (by omega) (by omega), ?_⟩
  have t8 : (Int32.toInt (113 + (f_row (10 + a).toNatClampNeg))) = 113 + (Int32.toInt (f_row (10 + a).toNatClampNeg)) := add_z rfl rfl (by omega) (by omega)
  refine ⟨vpi (x := (Int32.toInt (113 + (f_row (10 + a).toNatClampNeg)))) rfl (by omega) (by omega), ?_⟩
  by_cases c9 : (f_row (113 + (f_row (10 + a).toNatClampNeg)).toNatClampNeg) = 2
  · refine br1 c9 ?_
    have g10 : 0 ≤ (Int32.toInt (f_row (113 + (f_row (10 + a).toNatClampNeg)).toNatClampNeg)) ∧ (Int32.toInt (f_row (113 + (f_row (10 + a).toNatClampNeg)).toNatClampNeg)) ≤ 3 := RLW.at_113 h_f_row (tnz (x := (Int32.toInt (113 + (f_row (10 + a).toNatClampNeg)))) rfl (by omega)) (by omega) (by omega)
    have t11 : (Int32.toInt (f_row (113 + (f_row (10 + a).toNatClampNeg)).toNatClampNeg)) = w (113 + (w (10 + ((Int32.toInt a)).toNat)).toNat) := RMw.z e_0 (i := 113 + (w (10 + ((Int32.toInt a)).toNat)).toNat) (show Int.toNat _ = _ by omega) (by omega)
    have d12 := eq_z (x := (Int32.toInt (f_row (113 + (f_row (10 + a).toNatClampNeg)).toNatClampNeg))) (y := 2) rfl rfl c9
    refine br0 (by decide) ?_
    refine br1 (by decide) ?_
    have k13 : Int32.toInt 0 = 0 := rfl
    exact hq _ _ _ _ _ _ _ ⟨(by first | with_reducible assumption | exact ⟨by omega, by omega⟩), (by rw [← j6]; (repeat' split) <;> omega)⟩
  · refine br0 c9 ?_
    have g14 : 0 ≤ (Int32.toInt (f_row (113 + (f_row (10 + a).toNatClampNeg)).toNatClampNeg)) ∧ (Int32.toInt (f_row (113 + (f_row (10 + a).toNatClampNeg)).toNatClampNeg)) ≤ 3 := RLW.at_113 h_f_row (tnz (x := (Int32.toInt (113 + (f_row (10 + a).toNatClampNeg)))) rfl (by omega)) (by omega) (by omega)
    have t15 : (Int32.toInt (f_row (113 + (f_row (10 + a).toNatClampNeg)).toNatClampNeg)) = w (113 + (w (10 + ((Int32.toInt a)).toNat)).toNat) := RMw.z e_0 (i := 113 + (w (10 + ((Int32.toInt a)).toNat)).toNat) (show Int.toNat _ = _ by omega) (by omega)
    have d16 := ne_z (x := (Int32.toInt (f_row (113 + (f_row (10 + a).toNatClampNeg)).toNatClampNeg))) (y := 2) rfl rfl c9
    refine br1 (by decide) ?_
    refine o_X12_hasFound _ _ _ ?_
    refine ⟨vpi (x := (Int32.toInt (10 + a))) rfl (by omega) (by omega), ?_⟩
    refine ⟨vpi (x := (Int32.toInt (113 + (f_row (10 + a).toNatClampNeg)))) rfl (by omega) (by omega), ?_⟩
    by_cases c17 : (f_row (113 + (f_row (10 + a).toNatClampNeg)).toNatClampNeg) = 3
    · refine br1 c17 ?_
      have d18 := eq_z (x := (Int32.toInt (f_row (113 + (f_row (10 + a).toNatClampNeg)).toNatClampNeg))) (y := 3) rfl rfl c17
      refine br0 (by decide) ?_
      refine br1 (by decide) ?_
      have k19 : Int32.toInt 0 = 0 := rfl
      exact hq _ _ _ _ _ _ _ ⟨(by first | with_reducible assumption | exact ⟨by omega, by omega⟩), (by rw [← j6]; (repeat' split) <;> omega)⟩
    · refine br0 c17 ?_
      have d20 := ne_z (x := (Int32.toInt (f_row (113 + (f_row (10 + a).toNatClampNeg)).toNatClampNeg))) (y := 3) rfl rfl c17
      refine br1 (by decide) ?_
      refine br0 (by decide) ?_
      by_cases c21 : r2 = (-1)
      · refine br1 c21 ?_
        have d22 := eq_z (x := (Int32.toInt r2)) (y := (-1)) rfl (by decide) c21
        have k23 : Int32.toInt 0 = 0 := rfl
        exact hq _ _ _ _ _ _ _ ⟨(by first | with_reducible assumption | exact ⟨by omega, by omega⟩), (by rw [← j6]; (repeat' split) <;> omega)⟩
      · refine br0 c21 ?_
        have d24 := ne_z (x := (Int32.toInt r2)) (y := (-1)) rfl (by decide) c21
        have t25 : (Int32.toInt (33 + r2)) = 33 + (Int32.toInt r2) := add_z rfl rfl (by omega) (by omega)
        refine ⟨vpi (x := (Int32.toInt (33 + r2))) rfl (by omega) (by omega), ?_⟩
        by_cases c26 : (f_row (33 + r2).toNatClampNeg) = 0
        · refine br1 c26 ?_
          have g27 : 0 ≤ (Int32.toInt (f_row (33 + r2).toNatClampNeg)) ∧ (Int32.toInt (f_row (33 + r2).toNatClampNeg)) ≤ 1 := RLW.at_33 h_f_row (tnz (x := (Int32.toInt (33 + r2))) rfl (by omega)) (by omega) (by omega)
          have t28 : (Int32.toInt (f_row (33 + r2).toNatClampNeg)) = w (33 + ((Int32.toInt r2)).toNat) := RMw.z e_0 (i := 33 + ((Int32.toInt r2)).toNat) (show Int.toNat _ = _ by omega) (by omega)
          have d29 := eq_z (x := (Int32.toInt (f_row (33 + r2).toNatClampNeg))) (y := 0) rfl rfl c26
          refine z_mpass e_1 e_0 h_f_row (by first | with_reducible assumption | exact ⟨by omega, by omega⟩) (by first | with_reducible assumption | exact ⟨by omega, by omega⟩) (fun r30 q31 q32 q33 q34 q35 q36 H37 => ?_)
          have j38 := H37.1
          have j39 := H37.2.1
          have j40 := H37.2.2
          refine un6_i ?_
          by_cases c41 : r30 = 0
          · refine br1 c41 ?_
            have d42 := eq_z (x := (Int32.toInt r30)) (y := 0) rfl rfl c41
            have k43 : Int32.toInt 0 = 0 := rfl
            exact hq _ _ _ _ _ _ _ ⟨(by first | with_reducible assumption | exact ⟨by omega, by omega⟩), (by rw [← j6]; (repeat' split) <;> omega)⟩
          · refine br0 c41 ?_
            have d44 := ne_z (x := (Int32.toInt r30)) (y := 0) rfl rfl c41
            refine z_mdigs e_1 e_0 h_f_row (by first | with_reducible assumption | exact ⟨by omega, by omega⟩) (by first | with_reducible assumption | exact ⟨by omega, by omega⟩) (fun r45 q46 q47 q48 q49 q50 q51 H52 => ?_)
            have j53 := H52.1
            have j54 := H52.2.1
            have j55 := H52.2.2
            refine un6_i ?_
            by_cases c56 : 9999 < ((f_row (7 : Int32).toNatClampNeg) + r45)
            · refine br1 c56 ?_
              have g57 : 0 ≤ (Int32.toInt (f_row (7 : Int32).toNatClampNeg)) ∧ (Int32.toInt (f_row (7 : Int32).toNatClampNeg)) ≤ 9999 := RLW.at_7 h_f_row (rfl : ((7 : Nat) : Int) = 7) (by omega) (by omega)
              have t58 : (Int32.toInt (f_row (7 : Int32).toNatClampNeg)) = w (7) := RMw.z e_0 (i := 7) rfl (by omega)
              have t59 : (Int32.toInt ((f_row (7 : Int32).toNatClampNeg) + r45)) = (Int32.toInt (f_row (7 : Int32).toNatClampNeg)) + (Int32.toInt r45) := add_z rfl rfl (by omega) (by omega)
              have d60 := lt_z (x := 9999) (y := (Int32.toInt ((f_row (7 : Int32).toNatClampNeg) + r45))) rfl rfl c56
              have k61 : Int32.toInt 0 = 0 := rfl
              exact hq _ _ _ _ _ _ _ ⟨(by first | with_reducible assumption | exact ⟨by omega, by omega⟩), (by rw [← j6]; (repeat' split) <;> omega)⟩
            · refine br0 c56 ?_
              have g62 : 0 ≤ (Int32.toInt (f_row (7 : Int32).toNatClampNeg)) ∧ (Int32.toInt (f_row (7 : Int32).toNatClampNeg)) ≤ 9999 := RLW.at_7 h_f_row (rfl : ((7 : Nat) : Int) = 7) (by omega) (by omega)
              have t63 : (Int32.toInt (f_row (7 : Int32).toNatClampNeg)) = w (7) := RMw.z e_0 (i := 7) rfl (by omega)
              have t64 : (Int32.toInt ((f_row (7 : Int32).toNatClampNeg) + r45)) = (Int32.toInt (f_row (7 : Int32).toNatClampNeg)) + (Int32.toInt r45) := add_z rfl rfl (by omega) (by omega)
              have d65 := nlt_z (x := 9999) (y := (Int32.toInt ((f_row (7 : Int32).toNatClampNeg) + r45))) rfl rfl c56
              have k66 : Int32.toInt 1 = 1 := rfl
              exact hq _ _ _ _ _ _ _ ⟨(by first | with_reducible assumption | exact ⟨by omega, by omega⟩), (by rw [← j6]; (repeat' split) <;> omega)⟩
        · refine br0 c26 ?_
          have g67 : 0 ≤ (Int32.toInt (f_row (33 + r2).toNatClampNeg)) ∧ (Int32.toInt (f_row (33 + r2).toNatClampNeg)) ≤ 1 := RLW.at_33 h_f_row (tnz (x := (Int32.toInt (33 + r2))) rfl (by omega)) (by omega) (by omega)
          have t68 : (Int32.toInt (f_row (33 + r2).toNatClampNeg)) = w (33 + ((Int32.toInt r2)).toNat) := RMw.z e_0 (i := 33 + ((Int32.toInt r2)).toNat) (show Int.toNat _ = _ by omega) (by omega)
          have d69 := ne_z (x := (Int32.toInt (f_row (33 + r2).toNatClampNeg))) (y := 0) rfl rfl c26
          have k70 : Int32.toInt 0 = 0 := rfl
          exact hq _ _ _ _ _ _ _ ⟨(by first | with_reducible assumption | exact ⟨by omega, by omega⟩), (by rw [← j6]; (repeat' split) <;> omega)⟩


set_option maxRecDepth 100000 in
theorem s_X12_digItz (a : Int32) (b : Int32) (h0_ordered : Int32) (h0_law : Int32) (h0_broken : Int32) (h0_value : Int64) (h0_sum : Int64) (f_row : Nat → Int32) (f_set : Nat → Int64) (f_nOp : Nat → Int32) (f_nArg : Nat → Int32) (f_rest : Nat → Int64) (f_now : Nat → Int64) {w : Nat → Int} {ls : Nat → List Cls} (h_a : 0 ≤ a.toInt ∧ a.toInt ≤ 5) (h_b : 0 ≤ b.toInt ∧ b.toInt ≤ 2) (h_h0_ordered : 0 ≤ h0_ordered.toInt ∧ h0_ordered.toInt ≤ 0) (h_h0_broken : 0 ≤ h0_broken.toInt ∧ h0_broken.toInt ≤ 1) (h_f_row : RLW f_row) (e_0 : RMw f_row w) (e_1 : RML f_row ls) (e_2 : a.toInt < w 0) (e_3 : 0 ≤ cbI (w (10 + (a.toInt).toNat)) b.toInt) (e_4 : w 7 + digsW (lawW w ls) w a.toInt (cbI (w (10 + (a.toInt).toNat)) b.toInt) ≤ 9999) {Q : Int32 → (Int32 × Int32 × Int64 × Int64 × (Nat → Int32) × (Nat → Int64) × (Nat → Int64)) → Prop} (hq : ∀ (r : Int32) (u_0 : Int32) (u_1 : Int32) (u_2 : Int64) (u_3 : Int64) (u_4 : Nat → Int32) (u_5 : Nat → Int64) (u_6 : Nat → Int64), (0 ≤ u_1.toInt ∧ u_1.toInt ≤ 1) ∧ (RLW u_4) ∧ (r.toInt = cbI (w (10 + (a.toInt).toNat)) b.toInt) ∧ (RMw u_4 (digO (lawW w ls) w a.toInt b.toInt)) ∧ (RML u_4 ls) → Q r (u_0, u_1, u_2, u_3, u_4, u_5, u_6)) : wp_X12_digIt a b h0_ordered h0_law h0_broken h0_value h0_sum f_row f_set f_nOp f_nArg f_rest f_now Q := by
  unfold wp_X12_digIt
  obtain rfl : h0_ordered = 0 := z_eq (y := 0) rfl rfl (by omega)
  have t1 : (Int32.toInt (10 + a)) = 10 + (Int32.toInt a) := add_z rfl rfl (by omega) (by omega)
  refine ⟨vpi (x := (Int32.toInt (10 + a))) rfl (by omega) (by omega), ?_⟩
  have g3 : 0 ≤ (Int32.toInt (f_row (10 + a).toNatClampNeg)) ∧ (Int32.toInt (f_row (10 + a).toNatClampNeg)) ≤ 39 := RLW.at_10 h_f_row (tnz (x := (Int32.toInt (10 + a))) rfl (by omega)) (by omega) (by omega)
  have t4 : (Int32.toInt (f_row (10 + a).toNatClampNeg)) = w (10 + ((Int32.toInt a)).toNat) := RMw.z e_0 (i := 10 + ((Int32.toInt a)).toNat) (show Int.toNat _ = _ by omega) (by omega)
  refine z_cellBy (z := w (10 + ((Int32.toInt a)).toNat)) (by omega) (by first | with_reducible assumption | exact ⟨by omega, by omega⟩) (by first | with_reducible assumption | exact ⟨by omega, by omega⟩) (fun r2 H5 => ?_)
  have j7 := H5.1
  have j6 := H5.2
  have t8 : 0 ≤ (Int32.toInt r2) := by omega
  refine z_mdigs e_1 e_0 h_f_row (by first | with_reducible assumption | exact ⟨by omega, by omega⟩) (by first | with_reducible assumption | exact ⟨by omega, by omega⟩) (fun r9 q10 q11 q12 q13 q14 q15 H16 => ?_)
  have j17 := H16.1
  have j18 := H16.2.1
  have j19 := H16.2.2
  have j20 := j18
  rw [j6] at j20
  refine un6_i ?_
  have t21 : (Int32.toInt (33 + r2)) = 33 + (Int32.toInt r2) := add_z rfl rfl (by omega) (by omega)
  refine ⟨vpi (x := (Int32.toInt (33 + r2))) rfl (by omega) (by omega), ?_⟩
  refine ⟨vpi (x := (Int32.toInt (10 + a))) rfl (by omega) (by omega), ?_⟩
  have g22 : 0 ≤ (Int32.toInt (f_row (7 : Int32).toNatClampNeg)) ∧ (Int32.toInt (f_row (7 : Int32).toNatClampNeg)) ≤ 9999 := RLW.at_7 h_f_row (rfl : ((7 : Nat) : Int) = 7) (by omega) (by omega)
  have t23 : (Int32.toInt (f_row (7 : Int32).toNatClampNeg)) = w (7) := RMw.z e_0 (i := 7) rfl (by omega)
  have t24 : (Int32.toInt ((f_row (7 : Int32).toNatClampNeg) + r9)) = (Int32.toInt (f_row (7 : Int32).toNatClampNeg)) + (Int32.toInt r9) := add_z rfl rfl (by omega) (by omega)
  have R25 : RLW (upd f_row 7 ((f_row (7 : Int32).toNatClampNeg) + r9)) := RLW.up_7 h_f_row (rfl : ((7 : Nat) : Int) = 7) (by omega) (by omega) (w := (Int32.toInt ((f_row (7 : Int32).toNatClampNeg) + r9))) rfl (by omega) (by omega)
  have R26 : RLW (upd (upd f_row 7 ((f_row (7 : Int32).toNatClampNeg) + r9)) (33 + r2).toNatClampNeg 1) := RLW.up_33 R25 (tnz (x := (Int32.toInt (33 + r2))) rfl (by omega)) (by omega) (by omega) (w := 1) rfl (by omega) (by omega)
  have R27 : RLW (upd (upd (upd f_row 7 ((f_row (7 : Int32).toNatClampNeg) + r9)) (33 + r2).toNatClampNeg 1) (10 + a).toNatClampNeg r2) := RLW.up_10 R26 (tnz (x := (Int32.toInt (10 + a))) rfl (by omega)) (by omega) (by omega) (w := (Int32.toInt r2)) rfl (by omega) (by omega)
  have k28 : Int32.toInt 1 = 1 := rfl
  exact hq _ _ _ _ _ _ _ _ ⟨(by first | with_reducible assumption | exact ⟨by omega, by omega⟩), R27, (by exact j6), (by unfold digO; rw [← j6]; rw [← j18]; unfold digC; exact (RMw.up (RMw.up (RMw.up e_0 (by first | rfl | (show Int.toNat _ = _; omega)) (by first | rfl | omega | (split <;> omega))) (by first | rfl | (show Int.toNat _ = _; omega)) (by first | rfl | omega | (split <;> omega))) (by first | rfl | (show Int.toNat _ = _; omega)) (by first | rfl | omega | (split <;> omega)))), (RML.up (RML.up (RML.up e_1 (rfl : ((7 : Nat) : Int) = 7) (by omega) (by omega)) (tnz (x := (Int32.toInt (33 + r2))) rfl (by omega)) (by omega) (by omega)) (tnz (x := (Int32.toInt (10 + a))) rfl (by omega)) (by omega) (by omega))⟩
end
section
/-! SEASONS of the reference -/
theorem givesW_nn {F : Option (List Cls)} {w : Nat → Int} {row : Nat → Int32} {s c : Int} (hR : RMw row w) (hr : RLW row) (hc : 0 ≤ c ∧ c ≤ 39) : 0 ≤ givesW F w s c ∧ givesW F w s c ≤ 99 := by
  have hc2 : (Int32.ofInt c).toInt = c := Int32.toInt_ofInt_of_le (by omega) (by omega)
  have r7 := RLW.at_73 hr (n := 73 + c.toNat) rfl (by omega) (by omega)
  have e2 := hR (73 + c.toNat) (by omega)
  have e : (w32 w 73 (Int32.ofInt c).toNatClampNeg).toInt = w (73 + c.toNat) := by
    have q : (Int32.ofInt c).toNatClampNeg = c.toNat := by show (Int32.ofInt c).toInt.toNat = _; rw [hc2]
    rw [q]
    show (Int32.ofInt (w (73 + c.toNat))).toInt = _
    rw [o32 e2]; exact e2
  have g := givesF_b (F := F) (kd := w32 w 113) (hd := w32 w 153) (wt := w32 w 73) (t0 := Int32.ofInt (w 7)) (t2 := Int32.ofInt (w 9)) (s := Int32.ofInt s) (c := Int32.ofInt c) (by omega)
  exact ⟨g.1, g.2.1⟩
theorem haulR_1 {F : Option (List Cls)} {w : Nat → Int} {row : Nat → Int32} {s : Int} (hR : RMw row w) (hr : RLW row) (h0 : 0 ≤ s) (h1 : s < w 0) (h6 : w 0 ≤ 6) (h : w (113 + (w (10 + s.toNat)).toNat) = 3 ∧ w 7 < 9999) : 0 ≤ haulR F w s ∧ haulW F w s = haulO F w s := by
  have r7 := RLW.at_10 hr (n := 10 + s.toNat) rfl (by omega) (by omega)
  have e2 := hR (10 + s.toNat) (by omega)
  have g := givesW_nn (F := F) (s := s) hR hr (c := w (10 + s.toNat)) (by omega)
  have e : haulR F w s = givesW F w s (w (10 + s.toNat)) := by unfold haulR; rw [if_neg (by omega), if_neg (by omega)]
  exact ⟨by omega, if_neg (by omega)⟩
theorem haulR_0 {F : Option (List Cls)} {w : Nat → Int} {s : Int} (h : ¬ (w (113 + (w (10 + s.toNat)).toNat) = 3 ∧ w 7 < 9999)) : haulR F w s < 0 := by
  unfold haulR
  by_cases c : s < 0 ∨ w 0 ≤ s
  · rw [if_pos c]; decide
  · rw [if_neg c, if_pos (by omega)]; decide
abbrev digP (F : Option (List Cls)) (w : Nat → Int) (s y : Int) : Prop := 2 ≤ w (113 + (w (10 + s.toNat)).toNat) ∨ cbI (w (10 + s.toNat)) y < 0 ∨ w (33 + (cbI (w (10 + s.toNat)) y).toNat) = 1 ∨ pasI F w s (cbI (w (10 + s.toNat)) y) = 0 ∨ 9999 < w 7 + digsW F w s (cbI (w (10 + s.toNat)) y)
theorem digR_1 {F : Option (List Cls)} {w : Nat → Int} {s y : Int} (h0 : 0 ≤ s) (h1 : s < w 0) (hy : 0 ≤ y ∧ y ≤ 2) (h : ¬ digP F w s y) : 0 ≤ digR F w s y ∧ digW F w s y = digO F w s y ∧ 0 ≤ cbI (w (10 + s.toNat)) y := by
  have h2 : ¬ cbI (w (10 + s.toNat)) y < 0 := fun q => h (Or.inr (Or.inl q))
  have e : digR F w s y = cbI (w (10 + s.toNat)) y := by unfold digR; rw [if_neg (by omega), if_neg (by omega), if_neg h]
  exact ⟨by omega, if_neg (by omega), by omega⟩
theorem digR_0 {F : Option (List Cls)} {w : Nat → Int} {s y : Int} (h : digP F w s y) : digR F w s y < 0 := by
  unfold digR
  by_cases c0 : y < 0 ∨ 2 < y
  · rw [if_pos c0]; decide
  · by_cases c : s < 0 ∨ w 0 ≤ s
    · rw [if_neg c0, if_pos c]; decide
    · rw [if_neg c0, if_neg c, if_pos h]; decide
theorem x_draw {a : Int32} {st : Int64} {x : Int} {n : Int} (ha : a.toInt = n) (hn : 1 ≤ n ∧ n ≤ 100) (hs : st.toInt = x) (hx : 0 ≤ x ∧ x ≤ 1000002) {Q : Int32 → Int64 → Prop} (hq : ∀ (r : Int32) (s₉ : Int64), r.toInt = dwI x % n → s₉.toInt = dwI x → Q r s₉) : wp_X12_draw a st Q := by
  unfold wp_X12_draw
  have b := dwI_b (x := x)
  have e1 : (st * 1103).toInt = x * 1103 := lmul_z hs (b := 1103) (y := 1103) rfl (by omega) (by omega)
  have e2 : (st * 1103 + 12345).toInt = x * 1103 + 12345 := ladd_z e1 (b := 12345) (y := 12345) rfl (by omega) (by omega)
  have e3 : ((st * 1103 + 12345) - (st * 1103 + 12345) / 1000003 * 1000003).toInt = dwI x := lrem_z e2 (b := 1000003) (y := 1000003) rfl (by omega) (by omega)
  have e4 : (a.toInt64).toInt = n := i2l_z ha
  have e5 := lrem_z e3 e4 (by omega) (by omega)
  have b5 := Int.emod_lt_of_pos (dwI x) (show 0 < n by omega)
  have b6 := Int.emod_nonneg (dwI x) (show n ≠ 0 by omega)
  exact ⟨z_neL e4 (by omega), hq _ _ (l2i_z e5 (by omega) (by omega)) e3⟩
/-- what was drawn, as the reference holds it -/
def RMn (dd nd : Int32) (dr : Nat → Int32) (D : Option (Nat → Int)) : Prop := match D with
  | none => nd.toInt = -1
  | some w => dd.toInt = w 7 ∧ nd.toInt = w 0 ∧ (0 ≤ w 0 ∧ w 0 ≤ 6) ∧ ∀ i : Nat, (i : Int) < w 0 → (dr (2 * i)).toInt = w (10 + i) ∧ (dr (2 * i + 1)).toInt = w (16 + i)
theorem x_se180 {row : Nat → Int32} {w : Nat → Int} (hR : RMw row w) (h6 : 0 ≤ w 0 ∧ w 0 ≤ 6) {Qb : Int32 → (Nat → Int32) → Prop} (K : ∀ (x : Int32) (dr : Nat → Int32), (∀ i : Nat, (i : Int) < w 0 → (dr (2 * i)).toInt = w (10 + i) ∧ (dr (2 * i + 1)).toInt = w (16 + i)) → Qb x dr) : ∀ (m k : Nat) (x : Int32) (dr : Nat → Int32), x.toInt = (k : Int) → (k : Int) ≤ w 0 → (w 0).toNat - k < m → (∀ i : Nat, i < k → (dr (2 * i)).toInt = w (10 + i) ∧ (dr (2 * i + 1)).toInt = w (16 + i)) → wl_X12_seasons_180 row Qb m x dr := by
  have e0 : (row (0 : Int32).toNatClampNeg).toInt = w 0 := hR 0 (by decide)
  intro m
  induction m with
  | zero => intro k x dr _ _ h; omega
  | succ m ih =>
    intro k x dr hx hk hm hd
    unfold wl_X12_seasons_180
    by_cases c : row (0 : Int32).toNatClampNeg ≤ x
    · have c₉ := le_z e0 hx c
      exact br1 c (K _ _ (fun i hi => hd i (by omega)))
    · have c₉ := nle_z e0 hx c
      have x1 : (10 + x).toInt = ((10 + k : Nat) : Int) := by rw [add_z (a := 10) (x := 10) rfl hx (by omega) (by omega)]; omega
      have x2 : (16 + x).toInt = ((16 + k : Nat) : Int) := by rw [add_z (a := 16) (x := 16) rfl hx (by omega) (by omega)]; omega
      have x3 : (2 * x).toInt = ((2 * k : Nat) : Int) := by rw [mul_z (a := 2) (x := 2) rfl hx (by omega) (by omega)]; omega
      have x4 := add1 x3 (by omega)
      refine br0 c ⟨vpi x1 (by omega) (by omega), vpi x3 (by omega) (by omega), vpi x2 (by omega) (by omega), vpi x4 (by omega) (by omega), ?_⟩
      rw [tnN x1, tnN x2, tnN x3, tnN x4]
      refine ih (k + 1) _ _ (add1 hx (by omega)) (by omega) (by omega) (fun i hi => ?_)
      by_cases e : i = k
      · rw [e, pk_un (by omega), pk_us, pk_us]; exact ⟨hR _ (by omega), hR _ (by omega)⟩
      · rw [pk_un (by omega), pk_un (by omega), pk_un (by omega), pk_un (by omega)]; exact hd i (by omega)
theorem haulW_frR {F : Option (List Cls)} {w : Nat → Int} {row : Nat → Int32} {s : Int} (hR : RMw row w) (hr : RLW row) : WFr (haulW F w s) w := haulW_fr (hR.gd hr)
theorem dayW_fr {w : Nat → Int} {z : Int} : WFr (uI w 7 z) w := fun j hj => uI_n (by omega)
set_option maxHeartbeats 2000000 in
theorem x_se68 {b : Int32} {N : Nat} (hb : b.toInt = (N : Int)) (hN : N ≤ 60) {nOp nArg : Nat → Int32} {now : Nat → Int64} {ls : Nat → List Cls} {x0 : Int} {w0 : Nat → Int} (h1 : 1 ≤ w0 0) {Qb : Int32 → Int32 → (Nat → Int64) → (Nat → Int64) → Int32 → Int32 → Int64 → Int64 → Int64 → (Nat → Int32) → Prop} (K : ∀ (x v : Int32) (set rest : Nat → Int64) (law br : Int32) (val sum st : Int64) (row : Nat → Int32), (0 ≤ v.toInt ∧ v.toInt ≤ 6000) → (0 ≤ br.toInt ∧ br.toInt ≤ 1) → RLW row → RMw row (seF ls N x0 w0) → RML row ls → WFr (seF ls N x0 w0) w0 → Qb x v set rest law br val sum st row) : ∀ (m i : Nat) (w : Nat → Int) (xx : Int) (x v : Int32) (set rest : Nat → Int64) (law br : Int32) (val sum st : Int64) (row : Nat → Int32), x.toInt = (i : Int) → i ≤ N → N - i < m → seF ls N x0 w0 = seF ls (N - i) xx w → st.toInt = xx → (0 ≤ xx ∧ xx ≤ 1000002) → (0 ≤ v.toInt ∧ v.toInt ≤ 99 * (i : Int)) → (0 ≤ br.toInt ∧ br.toInt ≤ 1) → RLW row → RMw row w → RML row ls → WFr w w0 → wl_X12_seasons_68 b 0 nOp nArg now Qb m x v set rest law br val sum st row := by
  intro m
  induction m with
  | zero => intro i w xx x v set rest law br val sum st row _ _ h; omega
  | succ m ih =>
    intro i w xx x v set rest law br val sum st row hx hi hm hT hst hxx hv hbr hr hR hl hfr
    unfold wl_X12_seasons_68
    by_cases c : b ≤ x
    · have c₉ := le_z hb hx c
      have e : seF ls N x0 w0 = w := by rw [hT, show N - i = 0 by omega]; rfl
      exact br1 c (K _ _ _ _ _ _ _ _ _ _ (by first | with_reducible assumption | exact ⟨by omega, by omega⟩) hbr hr (by rw [e]; exact hR) hl (by rw [e]; exact hfr))
    · have c₉ := nle_z hb hx c
      have e0 : (row (0 : Int32).toNatClampNeg).toInt = w 0 := hR 0 (by decide)
      have r0 := RLW.at_0 hr (n := 0) rfl (by decide) (by decide)
      have r0₉ := hR 0 (by decide)
      have f0 := hfr 0 (by decide)
      have x1 := add1 hx (by omega)
      have d1 := dwI_b (x := xx)
      have d2 := dwI_b (x := dwI xx)
      refine br0 c (x_draw e0 (by first | with_reducible assumption | exact ⟨by omega, by omega⟩) hst hxx (fun s st1 k1 k2 => x_draw (a := 3) (n := 3) rfl (by decide) k2 d1 (fun y st2 k3 k4 => ?_)))
      have b1 := Int.emod_lt_of_pos (dwI xx) (show 0 < w 0 by omega)
      have b2 := Int.emod_nonneg (dwI xx) (show w 0 ≠ 0 by omega)
      have SN : N - i = (N - (i + 1)) + 1 := by omega
      have E1 : s.toInt = dwI xx % w 0 := k1
      refine s_X12_canHaulz s row (by first | with_reducible assumption | exact ⟨by omega, by omega⟩) hr hR (by omega) (fun r H => ?_)
      have H2 := H
      by_cases C : w (113 + (w (10 + s.toInt.toNat)).toNat) = 3 ∧ w 7 < 9999
      · rw [if_pos C] at H2
        refine br0 (z_ne (y := 0) H2 rfl (by decide)) ?_
        have hh := haulR_1 (F := lawW w ls) hR hr (by omega) (by omega) (by omega) C
        refine s_X12_haulItz s 0 law br val sum row set nOp nArg rest now (by first | with_reducible assumption | exact ⟨by omega, by omega⟩) (by decide) hbr hr hR hl (by omega) C.2 (fun r2 u0 u1 u2 u3 u4 u5 u6 G => un7_i ?_)
        obtain ⟨g1, g2, g3, g4, g5⟩ := G
        have bg := givesW_nn (F := lawW w ls) (s := s.toInt) hR hr (c := w (10 + s.toInt.toNat)) (by have q := RLW.at_10 hr (n := 10 + s.toInt.toNat) rfl (by omega) (by omega); have q2 := hR (10 + s.toInt.toNat) (by omega); omega)
        have v2 : (v + r2).toInt = v.toInt + r2.toInt := add_z rfl rfl (by omega) (by omega)
        have T1 : seF ls N x0 w0 = seF ls (N - (i + 1)) (dwI (dwI xx)) (haulO (lawW w ls) w s.toInt) := by
          rw [hT, seF_s SN, ← hh.2]
          unfold se1
          rw [← E1, if_pos hh.1]
        exact ih (i + 1) _ _ _ _ _ _ _ _ _ _ _ _ x1 (by omega) (by omega) T1 k4 d2 (by first | with_reducible assumption | exact ⟨by omega, by omega⟩) g1 g2 g4 g5 (by rw [← hh.2]; exact (haulW_frR hR hr).tr hfr)
      · rw [if_neg C] at H2
        refine br1 (z_eq (y := 0) H2 rfl (by decide)) ?_
        have hh := haulR_0 (F := lawW w ls) C
        have hh₉ : ¬ 0 ≤ haulR (lawW w ls) w (dwI xx % w 0) := by rw [← E1]; omega
        refine s_X12_canDigz s y 0 law br val sum row set nOp nArg rest now (by first | with_reducible assumption | exact ⟨by omega, by omega⟩) (by first | with_reducible assumption | exact ⟨by omega, by omega⟩) (by decide) hbr hr hR hl (by omega) (fun r2 u0 u1 u2 u3 u4 u5 G => un6_i ?_)
        obtain ⟨g1, g2⟩ := G
        by_cases D : digP (lawW w ls) w s.toInt y.toInt
        · rw [if_pos D] at g2
          refine br1 (z_eq (y := 0) g2 rfl (by decide)) ?_
          have hd := digR_0 D
          have hd₉ : ¬ 0 ≤ digR (lawW w ls) w (dwI xx % w 0) (dwI (dwI xx) % 3) := by rw [← E1, ← k3]; omega
          have e7 : (row (7 : Int32).toNatClampNeg).toInt = w 7 := hR 7 (by decide)
          have r7 := RLW.at_7 hr (n := 7) rfl (by decide) (by decide)
          have r7₉ := hR 7 (by decide)
          by_cases c7 : 9999 ≤ row (7 : Int32).toNatClampNeg
          · have c7₉ := le_z (x := 9999) rfl e7 c7
            refine br1 c7 (ih (i + 1) w (dwI (dwI xx)) _ _ _ _ _ _ _ _ _ _ x1 (by omega) (by omega) ?_ k4 d2 (by first | with_reducible assumption | exact ⟨by omega, by omega⟩) g1 hr hR hl hfr)
            rw [hT, seF_s SN]
            unfold se1
            rw [if_neg hh₉, if_neg hd₉, if_neg (by omega)]
          · have c7₉ := nle_z (x := 9999) rfl e7 c7
            have a7 : (row (7 : Int32).toNatClampNeg + 1).toInt = w 7 + 1 := add_z e7 (b := 1) (y := 1) rfl (by omega) (by omega)
            refine br0 c7 (ih (i + 1) (uI w 7 (w 7 + 1)) (dwI (dwI xx)) _ _ _ _ _ _ _ _ _ _ x1 (by omega) (by omega) ?_ k4 d2 (by first | with_reducible assumption | exact ⟨by omega, by omega⟩) g1 (RLW.up_7 hr (n := 7) (z := 7) rfl (by decide) (by decide) (w := w 7 + 1) a7 (by omega) (by omega)) (RMw.up hR rfl a7) (RML.up hl (z := 7) rfl (by decide) (by decide)) (dayW_fr.tr hfr))
            rw [hT, seF_s SN]
            unfold se1
            rw [if_neg hh₉, if_neg hd₉, if_pos (by omega)]
        · rw [if_neg D] at g2
          refine br0 (z_ne (y := 0) g2 rfl (by decide)) ?_
          have b3 : 0 ≤ y.toInt ∧ y.toInt ≤ 2 := by omega
          have hd := digR_1 (by omega) (by omega) b3 D
          have hd₉ : 0 ≤ digR (lawW w ls) w (dwI xx % w 0) (dwI (dwI xx) % 3) := by rw [← E1, ← k3]; exact hd.1
          refine s_X12_digItz s y 0 u0 u1 u2 u3 row u4 nOp nArg u5 now (by first | with_reducible assumption | exact ⟨by omega, by omega⟩) b3 (by decide) g1 hr hR hl (by omega) hd.2.2 (by have q : ¬ 9999 < w 7 + digsW (lawW w ls) w s.toInt (cbI (w (10 + s.toInt.toNat)) y.toInt) := fun q => D (Or.inr (Or.inr (Or.inr (Or.inr q)))); omega) (fun r3 t0 t1 t2 t3 t4 t5 t6 G => un7_i ?_)
          obtain ⟨q1, q2, q3, q4, q5⟩ := G
          have T1 : seF ls N x0 w0 = seF ls (N - (i + 1)) (dwI (dwI xx)) (digO (lawW w ls) w s.toInt y.toInt) := by
            rw [hT, seF_s SN, ← hd.2.1]
            unfold se1
            rw [if_neg hh₉, if_pos hd₉, ← E1, ← k3]
          exact ih (i + 1) _ _ _ _ _ _ _ _ _ _ _ _ x1 (by omega) (by omega) T1 k4 d2 (by first | with_reducible assumption | exact ⟨by omega, by omega⟩) q1 q2 q4 q5 (by rw [← hd.2.1]; exact (digW_fr (hR.gd hr)).tr hfr)
set_option maxHeartbeats 2000000 in
/-- seasons() of the reference -/
theorem x_mseasons {a b law br dd nd : Int32} {val sum sta : Int64} {rfs rf row un so : Nat → Int32} {set rest now : Nat → Int64} {nOp nArg dr : Nat → Int32} {nU : Int32} {w : Nat → Int} {U : UL} {ls : Nat → List Cls} {D : Option (Nat → Int)} (hS : OMs nU br row un so w U ls) (hF : RF rfs rf) (hD : RMn dd nd dr D) {Q : Int32 → (Int32 × Int32 × Int32 × Int32 × Int64 × Int64 × Int64 × Int32 × Int32 × (Nat → Int32) × (Nat → Int32) × (Nat → Int32) × (Nat → Int64) × (Nat → Int64) × (Nat → Int32)) → Prop}
    (hq : ∀ (r st2 law₉ br₉ : Int32) (val₉ sum₉ sta₉ : Int64) (dd₉ nd₉ : Int32) (rfs₉ row₉ un₉ : Nat → Int32) (set₉ rest₉ : Nat → Int64) (dr₉ : Nat → Int32), st2.toInt = tlS (seaB w a.toInt b.toInt) → RF rfs₉ (tlR rf (seaB w a.toInt b.toInt)) → OMs nU br₉ row₉ un₉ so w U ls → RMn dd₉ nd₉ dr₉ (seaD D ls w a.toInt b.toInt) → (-1 ≤ nd₉.toInt ∧ nd₉.toInt ≤ 6) → Q r (0, st2, law₉, br₉, val₉, sum₉, sta₉, dd₉, nd₉, rfs₉, row₉, un₉, set₉, rest₉, dr₉)) (hnd : -1 ≤ nd.toInt ∧ nd.toInt ≤ 6) :
    wp_X12_seasons a b 0 law br val sum sta dd nd rfs row un set nOp nArg rest now dr Q := by
  obtain ⟨s1, s2, s3, s4, s5, s6, s7, s8⟩ := id hS
  have r0 := RLW.at_0 s3 (n := 0) rfl (by decide) (by decide)
  have e0 := s6 0 (by decide)
  have e0₉ : (row (0 : Int32).toNatClampNeg).toInt = w 0 := e0
  have no : ∀ (z : Int32) (Z : Int), z.toInt = Z → seaB w a.toInt b.toInt = Z → Z < 0 → -6 ≤ Z → wp_X12_tell z rfs (fun (r_31 : Int32) => (un2 (fun (u_31_0 : Int32) (u_31_1 : Nat → Int32) => (Q r_31 (0, u_31_0, law, br, val, sum, sta, dd, nd, u_31_1, row, un, set, rest, dr))))) := fun z Z hz hB hZ hZ6 => by
    refine s_X12_tellz z rfs (by first | with_reducible assumption | exact ⟨by omega, by omega⟩) hF (fun r u0 u1 h => un2_i ?_)
    obtain ⟨h1, h2, h3⟩ := h
    have h1 : r.toInt = Z := h1.trans hz
    rw [h1] at h2 h3
    exact hq _ _ _ _ _ _ _ _ _ _ _ _ _ _ _ (by rw [hB]; exact h2) (by rw [hB]; exact h3) hS (by unfold seaD; rw [hB, if_pos hZ]; exact hD) hnd
  have la : a.toInt64.toInt = a.toInt := i2l_z rfl
  have lb : b.toInt64.toInt = b.toInt := i2l_z rfl
  have inn : ∀ {x lo hi : Int64} {X L H : Int} {K : Int32 → Prop}, x.toInt = X → lo.toInt = L → hi.toInt = H → ((L ≤ X ∧ X ≤ H) → K 1) → (¬ (L ≤ X ∧ X ≤ H) → K 0) → wp_X12_in x lo hi K := fun {x lo hi X L H K} hx hl hh k1 k0 => by
    unfold wp_X12_in
    by_cases c1 : (lg_cmp x lo) < 0
    · have c1₉ := c_lt hx hl c1
      exact br1 c1 (k0 (by omega))
    · have c1₉ := c_nlt hx hl c1
      refine br0 c1 ?_
      by_cases c2 : 0 < (lg_cmp x hi)
      · have c2₉ := c_gt hx hh c2
        exact br1 c2 (k0 (by omega))
      · have c2₉ := c_ngt hx hh c2
        exact br0 c2 (k1 (by first | with_reducible assumption | exact ⟨by omega, by omega⟩))
  unfold wp_X12_seasons
  refine inn (X := a.toInt) (L := 0) (H := 1000000) la rfl rfl (fun ha => br0 (by decide) ?_) (fun ha => br1 rfl (no (-1) (-1) (by decide) (if_pos (by omega)) (by decide) (by decide)))
  refine inn (X := b.toInt) (L := 1) (H := 60) lb rfl rfl (fun hb => br0 (by decide) ?_) (fun hb => br1 rfl (no (-1) (-1) (by decide) (if_pos (by omega)) (by decide) (by decide)))
  by_cases c0 : row (0 : Int32).toNatClampNeg = 0
  · have c0₉ := eq_z (y := 0) e0₉ rfl c0
    refine br1 c0 (no (-3) (-3) (by decide) ?_ (by decide) (by decide))
    unfold seaB; rw [if_neg (by omega), if_pos (by omega)]
  · have c0₉ := ne_z (y := 0) e0₉ rfl c0
    have hB : seaB w a.toInt b.toInt = 0 := by unfold seaB; rw [if_neg (by omega), if_neg (by omega)]
    refine br0 c0 (x_keepAll (A := 16) rfl (by decide) ?_)
    have u16 : UN (kpS 16 106 row un) := UN.kp s4 s3
    obtain ⟨N, hN⟩ : ∃ N : Nat, b.toInt = (N : Int) := ⟨b.toInt.toNat, by omega⟩
    refine x_se68 (w0 := w) (x0 := a.toInt) hN (by omega) (by omega) (fun x v set2 rest2 law2 br2 val2 sum2 st2 row2 q1 q2 q3 q4 q5 q6 => ?_) 1000000000000 0 w a.toInt 0 0 set rest law br val sum a.toInt64 row rfl (Nat.zero_le _) (by omega) (by rw [Nat.sub_zero]) la (by first | with_reducible assumption | exact ⟨by omega, by omega⟩) (by decide) s2 s3 s6 s8 (fun j _ => rfl)
    have f0 := q6 0 (by decide)
    refine x_se180 q4 (by omega) (fun x2 dr2 k1 => ?_) 1000000000000 0 0 dr rfl (by omega) (by omega) (fun i hi => absurd hi (Nat.not_lt_zero _))
    refine x_putBack (A := 16) rfl (by decide) ?_
    refine s_X12_tellz v rfs (by first | with_reducible assumption | exact ⟨by omega, by omega⟩) hF (fun r u0 u1 h => un2_i ?_)
    obtain ⟨h1, h2, h3⟩ := h
    rw [tlS_p (by omega)] at h2
    rw [tlR_p (by omega)] at h3
    have e7 : (row2 (7 : Int32).toNatClampNeg).toInt = seF ls N a.toInt w 7 := q4 7 (by decide)
    have e00 : (row2 (0 : Int32).toNatClampNeg).toInt = seF ls N a.toInt w 0 := q4 0 (by decide)
    refine hq _ _ _ _ _ _ _ _ _ _ _ _ _ _ _ (by rw [hB]; exact h2) (by rw [hB]; exact h3) ⟨s1, q2, q3.pb u16, u16, s5, fun j hj => ?_, RMu.k17 (by decide) s7, q5.pb⟩ ?_ (by first | with_reducible assumption | exact ⟨by omega, by omega⟩)
    · unfold pbI
      by_cases c : 7 ≤ j ∧ j < 7 + 106
      · rw [if_pos c]
        unfold kpS
        rw [if_pos (by omega), show 7 + (106 * 16 + (j - 7) - 106 * 16) = j by omega]
        exact s6 j hj
      · rw [if_neg c, q4 j hj]; exact q6 j (by omega)
    · unfold seaD
      rw [hB, if_neg (by decide), show b.toInt.toNat = N by omega]
      exact ⟨e7, e00, (by first | with_reducible assumption | exact ⟨by omega, by omega⟩), k1⟩
end
section
/-! images: what they answer, what they hold -/
def imgR (a : Int) : Int := if 0 ≤ a ∧ a ≤ 1 then 0 else -1
def imgW (a : Int) (k : Int) (w W : Nat → Int) : Nat → Int := if a = k then w else W
def bakR (kp : Nat → Int32) (a : Int) : Int := if a < 0 ∨ 2 ≤ a then -1 else if kp a.toNat = 0 then -2 else 0
def bakW (kp : Nat → Int32) (a : Int) (W0 W1 w : Nat → Int) : Nat → Int := if bakR kp a < 0 then w else if a = 0 then W0 else W1
def bakU (kp : Nat → Int32) (a : Int) (U : UL) : UL := if bakR kp a < 0 then U else []
theorem imgR_y {a : Int} (h : 0 ≤ a) (h1 : a ≤ 1) : imgR a = 0 := if_pos ⟨h, h1⟩
theorem imgR_n {a : Int} (h : a < 0 ∨ 2 ≤ a) : imgR a = -1 := if_neg (by omega)
theorem imgW_y {a k : Int} {w W : Nat → Int} (h : a = k) : imgW a k w W = w := if_pos h
theorem imgW_n {a k : Int} {w W : Nat → Int} (h : ¬ a = k) : imgW a k w W = W := if_neg h
theorem bakR_n {kp : Nat → Int32} {a : Int} (h : a < 0 ∨ 2 ≤ a) : bakR kp a = -1 := if_pos h
theorem bakR_0 {kp : Nat → Int32} {a : Int32} (h0 : 0 ≤ a.toInt) (h1 : a.toInt ≤ 1) (hk : kp a.toNatClampNeg = 0) : bakR kp a.toInt = -2 := by
  have e : a.toInt.toNat = a.toNatClampNeg := rfl
  unfold bakR
  rw [if_neg (by omega), e, if_pos hk]
theorem bakR_1 {kp : Nat → Int32} {a : Int32} (h0 : 0 ≤ a.toInt) (h1 : a.toInt ≤ 1) (hk : ¬ kp a.toNatClampNeg = 0) : bakR kp a.toInt = 0 := by
  have e : a.toInt.toNat = a.toNatClampNeg := rfl
  unfold bakR
  rw [if_neg (by omega), e, if_neg hk]
theorem kp_un {a : Int32} {k : Nat} {kp : Nat → Int32} {P : Prop} (h : ¬ a.toInt = (k : Int)) (h0 : 0 ≤ a.toInt) (e : kp k ≠ 0 → P) : upd kp a.toNatClampNeg 1 k ≠ 0 → P := by
  have q : ¬ k = a.toNatClampNeg := fun q => h (by have := congrArg Int.ofNat q; have e : a.toNatClampNeg = a.toInt.toNat := rfl; rw [e] at q; omega)
  intro hk
  have z : upd kp a.toNatClampNeg 1 k = kp k := if_neg q
  rw [z] at hk
  exact e hk
theorem kp_at {a : Int32} {k : Nat} {kp : Nat → Int32} (h : a.toInt = (k : Int)) (hk : ¬ kp a.toNatClampNeg = 0) : kp k ≠ 0 := by
  have e : a.toNatClampNeg = a.toInt.toNat := rfl
  have q : a.toNatClampNeg = k := by rw [e]; omega
  rw [q] at hk
  exact hk
set_option maxRecDepth 100000 in
theorem s_X11_imagez (a : Int32) (w0_lawCount : Int32) (w0_force : Int32) (h0_site_world_lawCount : Int32) (h0_site_world_force : Int32) (w0_rock_dug : Int64) (h0_site_world_rock_dug : Int64) (f_h0_site_world_rock_kind : Nat → Int32) (f_w0_rock_kind : Nat → Int32) (f_h0_site_world_rock_hard : Nat → Int32) (f_w0_rock_hard : Nat → Int32) (f_h0_site_world_rock_water : Nat → Int32) (f_w0_rock_water : Nat → Int32) (w0_crew_count : Int32) (h0_site_world_crew_count : Int32) (f_h0_site_world_crew_cell : Nat → Int32) (f_w0_crew_cell : Nat → Int32) (f_h0_site_world_crew_buckets : Nat → Int32) (f_w0_crew_buckets : Nat → Int32) (w0_folk_listeners : Int32) (w0_folk_noises : Int32) (w0_folk_hushed : Int32) (w0_folk_hearsay : Int32) (w0_folk_wells : Int32) (h0_site_world_folk_listeners : Int32) (h0_site_world_folk_noises : Int32) (h0_site_world_folk_hushed : Int32) (h0_site_world_folk_hearsay : Int32) (h0_site_world_folk_wells : Int32) (f_h0_site_world_folk_column : Nat → Int32) (f_w0_folk_column : Nat → Int32) (f_h0_site_world_folk_ear : Nat → Int32) (f_w0_folk_ear : Nat → Int32) (f_h0_site_world_folk_noiseColumn : Nat → Int32) (f_w0_folk_noiseColumn : Nat → Int32) (f_h0_site_world_folk_noiseLoud : Nat → Int32) (f_w0_folk_noiseLoud : Nat → Int32) (f_h0_site_world_folk_hearsayColumn : Nat → Int32) (f_w0_folk_hearsayColumn : Nat → Int32) (f_h0_site_world_folk_hearsayLoud : Nat → Int32) (f_w0_folk_hearsayLoud : Nat → Int32) (f_h0_site_world_folk_sounds : Nat → Int32) (f_w0_folk_sounds : Nat → Int32) (f_h0_site_world_folk_wet : Nat → Int32) (f_w0_folk_wet : Nat → Int32) (f_w0_term : Nat → Int32) (f_h0_site_world_term : Nat → Int32) (f_h0_site_world_laws : Nat → Option Nat) (f_w0_laws : Nat → Option Nat) (f_h0_kept : Nat → Int32) (f_h0_refusals : Nat → Int32) (w1_lawCount : Int32) (w1_force : Int32) (w1_rock_dug : Int64) (f_w1_rock_kind : Nat → Int32) (f_w1_rock_hard : Nat → Int32) (f_w1_rock_water : Nat → Int32) (w1_crew_count : Int32) (f_w1_crew_cell : Nat → Int32) (f_w1_crew_buckets : Nat → Int32) (w1_folk_listeners : Int32) (w1_folk_noises : Int32) (w1_folk_hushed : Int32) (w1_folk_hearsay : Int32) (w1_folk_wells : Int32) (f_w1_folk_column : Nat → Int32) (f_w1_folk_ear : Nat → Int32) (f_w1_folk_noiseColumn : Nat → Int32) (f_w1_folk_noiseLoud : Nat → Int32) (f_w1_folk_hearsayColumn : Nat → Int32) (f_w1_folk_hearsayLoud : Nat → Int32) (f_w1_folk_sounds : Nat → Int32) (f_w1_folk_wet : Nat → Int32) (f_w1_term : Nat → Int32) (f_w1_laws : Nat → Option Nat) (TT : Nat → Prop) {w W0 W1 : Nat → Int} {rf : Nat → Int32} (h_w0_lawCount : 0 ≤ w0_lawCount.toInt ∧ w0_lawCount.toInt ≤ 6) (h_w0_force : (-1) ≤ w0_force.toInt ∧ w0_force.toInt ≤ 5) (h_h0_site_world_lawCount : 0 ≤ h0_site_world_lawCount.toInt ∧ h0_site_world_lawCount.toInt ≤ 6) (h_h0_site_world_force : (-1) ≤ h0_site_world_force.toInt ∧ h0_site_world_force.toInt ≤ 5) (h_f_h0_site_world_rock_kind : KI f_h0_site_world_rock_kind) (h_f_w0_rock_kind : KI f_w0_rock_kind) (h_f_h0_site_world_rock_hard : HA f_h0_site_world_rock_hard) (h_f_w0_rock_hard : HA f_w0_rock_hard) (h_f_h0_site_world_rock_water : WA f_h0_site_world_rock_water) (h_f_w0_rock_water : WA f_w0_rock_water) (h_w0_crew_count : 0 ≤ w0_crew_count.toInt ∧ w0_crew_count.toInt ≤ 6) (h_h0_site_world_crew_count : 0 ≤ h0_site_world_crew_count.toInt ∧ h0_site_world_crew_count.toInt ≤ 6) (h_f_h0_site_world_crew_cell : CE f_h0_site_world_crew_cell) (h_f_w0_crew_cell : CE f_w0_crew_cell) (h_f_h0_site_world_crew_buckets : BU f_h0_site_world_crew_buckets) (h_f_w0_crew_buckets : BU f_w0_crew_buckets) (h_w0_folk_listeners : 0 ≤ w0_folk_listeners.toInt ∧ w0_folk_listeners.toInt ≤ 5) (h_w0_folk_noises : 0 ≤ w0_folk_noises.toInt ∧ w0_folk_noises.toInt ≤ 6) (h_w0_folk_hearsay : 0 ≤ w0_folk_hearsay.toInt ∧ w0_folk_hearsay.toInt ≤ 8) (h_w0_folk_wells : 0 ≤ w0_folk_wells.toInt ∧ w0_folk_wells.toInt ≤ 10) (h_h0_site_world_folk_listeners : 0 ≤ h0_site_world_folk_listeners.toInt ∧ h0_site_world_folk_listeners.toInt ≤ 5) (h_h0_site_world_folk_noises : 0 ≤ h0_site_world_folk_noises.toInt ∧ h0_site_world_folk_noises.toInt ≤ 6) (h_h0_site_world_folk_hearsay : 0 ≤ h0_site_world_folk_hearsay.toInt ∧ h0_site_world_folk_hearsay.toInt ≤ 8) (h_h0_site_world_folk_wells : 0 ≤ h0_site_world_folk_wells.toInt ∧ h0_site_world_folk_wells.toInt ≤ 10) (h_f_h0_site_world_folk_column : CO f_h0_site_world_folk_column) (h_f_w0_folk_column : CO f_w0_folk_column) (h_f_h0_site_world_folk_ear : EA f_h0_site_world_folk_ear) (h_f_w0_folk_ear : EA f_w0_folk_ear) (h_f_h0_site_world_folk_noiseColumn : NC f_h0_site_world_folk_noiseColumn) (h_f_w0_folk_noiseColumn : NC f_w0_folk_noiseColumn) (h_f_h0_site_world_folk_noiseLoud : NL f_h0_site_world_folk_noiseLoud) (h_f_w0_folk_noiseLoud : NL f_w0_folk_noiseLoud) (h_f_h0_site_world_folk_hearsayColumn : HC f_h0_site_world_folk_hearsayColumn) (h_f_w0_folk_hearsayColumn : HC f_w0_folk_hearsayColumn) (h_f_h0_site_world_folk_hearsayLoud : HL f_h0_site_world_folk_hearsayLoud) (h_f_w0_folk_hearsayLoud : HL f_w0_folk_hearsayLoud) (h_f_w0_term : TE f_w0_term) (h_f_h0_site_world_term : TE f_h0_site_world_term) (h_w1_lawCount : 0 ≤ w1_lawCount.toInt ∧ w1_lawCount.toInt ≤ 6) (h_w1_force : (-1) ≤ w1_force.toInt ∧ w1_force.toInt ≤ 5) (h_f_w1_rock_kind : KI f_w1_rock_kind) (h_f_w1_rock_hard : HA f_w1_rock_hard) (h_f_w1_rock_water : WA f_w1_rock_water) (h_w1_crew_count : 0 ≤ w1_crew_count.toInt ∧ w1_crew_count.toInt ≤ 6) (h_f_w1_crew_cell : CE f_w1_crew_cell) (h_f_w1_crew_buckets : BU f_w1_crew_buckets) (h_w1_folk_listeners : 0 ≤ w1_folk_listeners.toInt ∧ w1_folk_listeners.toInt ≤ 5) (h_w1_folk_noises : 0 ≤ w1_folk_noises.toInt ∧ w1_folk_noises.toInt ≤ 6) (h_w1_folk_hearsay : 0 ≤ w1_folk_hearsay.toInt ∧ w1_folk_hearsay.toInt ≤ 8) (h_w1_folk_wells : 0 ≤ w1_folk_wells.toInt ∧ w1_folk_wells.toInt ≤ 10) (h_f_w1_folk_column : CO f_w1_folk_column) (h_f_w1_folk_ear : EA f_w1_folk_ear) (h_f_w1_folk_noiseColumn : NC f_w1_folk_noiseColumn) (h_f_w1_folk_noiseLoud : NL f_w1_folk_noiseLoud) (h_f_w1_folk_hearsayColumn : HC f_w1_folk_hearsayColumn) (h_f_w1_folk_hearsayLoud : HL f_w1_folk_hearsayLoud) (h_f_w1_term : TE f_w1_term) (e_0 : ∀ k, k < 6 → ∀ v, f_h0_site_world_laws k = some v → TT v) (e_1 : RXw f_h0_site_world_rock_kind f_h0_site_world_rock_hard f_h0_site_world_rock_water h0_site_world_rock_dug f_h0_site_world_crew_cell f_h0_site_world_crew_buckets h0_site_world_crew_count f_h0_site_world_folk_column f_h0_site_world_folk_ear h0_site_world_folk_listeners f_h0_site_world_folk_noiseColumn f_h0_site_world_folk_noiseLoud h0_site_world_folk_noises h0_site_world_folk_hushed f_h0_site_world_folk_hearsayColumn f_h0_site_world_folk_hearsayLoud h0_site_world_folk_hearsay f_h0_site_world_folk_sounds f_h0_site_world_folk_wet h0_site_world_folk_wells f_h0_site_world_term h0_site_world_lawCount h0_site_world_force w) (e_2 : f_h0_kept 0 ≠ 0 → RXw f_w0_rock_kind f_w0_rock_hard f_w0_rock_water w0_rock_dug f_w0_crew_cell f_w0_crew_buckets w0_crew_count f_w0_folk_column f_w0_folk_ear w0_folk_listeners f_w0_folk_noiseColumn f_w0_folk_noiseLoud w0_folk_noises w0_folk_hushed f_w0_folk_hearsayColumn f_w0_folk_hearsayLoud w0_folk_hearsay f_w0_folk_sounds f_w0_folk_wet w0_folk_wells f_w0_term w0_lawCount w0_force W0) (e_3 : f_h0_kept 1 ≠ 0 → RXw f_w1_rock_kind f_w1_rock_hard f_w1_rock_water w1_rock_dug f_w1_crew_cell f_w1_crew_buckets w1_crew_count f_w1_folk_column f_w1_folk_ear w1_folk_listeners f_w1_folk_noiseColumn f_w1_folk_noiseLoud w1_folk_noises w1_folk_hushed f_w1_folk_hearsayColumn f_w1_folk_hearsayLoud w1_folk_hearsay f_w1_folk_sounds f_w1_folk_wet w1_folk_wells f_w1_term w1_lawCount w1_force W1) (e_4 : RF f_h0_refusals rf) {Q : Int32 → (Int32 × Int32 × Int32 × Int64 × (Nat → Int32) × (Nat → Int32) × (Nat → Int32) × Int32 × (Nat → Int32) × (Nat → Int32) × Int32 × Int32 × Int32 × Int32 × Int32 × (Nat → Int32) × (Nat → Int32) × (Nat → Int32) × (Nat → Int32) × (Nat → Int32) × (Nat → Int32) × (Nat → Int32) × (Nat → Int32) × (Nat → Int32) × (Nat → Option Nat) × (Nat → Int32) × (Nat → Int32) × Int32 × Int32 × Int64 × (Nat → Int32) × (Nat → Int32) × (Nat → Int32) × Int32 × (Nat → Int32) × (Nat → Int32) × Int32 × Int32 × Int32 × Int32 × Int32 × (Nat → Int32) × (Nat → Int32) × (Nat → Int32) × (Nat → Int32) × (Nat → Int32) × (Nat → Int32) × (Nat → Int32) × (Nat → Int32) × (Nat → Int32) × (Nat → Option Nat)) → Prop} (hq : ∀ (r : Int32) (u_0 : Int32) (u_1 : Int32) (u_2 : Int32) (u_3 : Int64) (u_4 : Nat → Int32) (u_5 : Nat → Int32) (u_6 : Nat → Int32) (u_7 : Int32) (u_8 : Nat → Int32) (u_9 : Nat → Int32) (u_10 : Int32) (u_11 : Int32) (u_12 : Int32) (u_13 : Int32) (u_14 : Int32) (u_15 : Nat → Int32) (u_16 : Nat → Int32) (u_17 : Nat → Int32) (u_18 : Nat → Int32) (u_19 : Nat → Int32) (u_20 : Nat → Int32) (u_21 : Nat → Int32) (u_22 : Nat → Int32) (u_23 : Nat → Int32) (u_24 : Nat → Option Nat) (u_25 : Nat → Int32) (u_26 : Nat → Int32) (u_27 : Int32) (u_28 : Int32) (u_29 : Int64) (u_30 : Nat → Int32) (u_31 : Nat → Int32) (u_32 : Nat → Int32) (u_33 : Int32) (u_34 : Nat → Int32) (u_35 : Nat → Int32) (u_36 : Int32) (u_37 : Int32) (u_38 : Int32) (u_39 : Int32) (u_40 : Int32) (u_41 : Nat → Int32) (u_42 : Nat → Int32) (u_43 : Nat → Int32) (u_44 : Nat → Int32) (u_45 : Nat → Int32) (u_46 : Nat → Int32) (u_47 : Nat → Int32) (u_48 : Nat → Int32) (u_49 : Nat → Int32) (u_50 : Nat → Option Nat), (0 ≤ u_1.toInt ∧ u_1.toInt ≤ 6) ∧ ((-1) ≤ u_2.toInt ∧ u_2.toInt ≤ 5) ∧ (KI u_4) ∧ (HA u_5) ∧ (WA u_6) ∧ (0 ≤ u_7.toInt ∧ u_7.toInt ≤ 6) ∧ (CE u_8) ∧ (BU u_9) ∧ (0 ≤ u_10.toInt ∧ u_10.toInt ≤ 5) ∧ (0 ≤ u_11.toInt ∧ u_11.toInt ≤ 6) ∧ (0 ≤ u_13.toInt ∧ u_13.toInt ≤ 8) ∧ (0 ≤ u_14.toInt ∧ u_14.toInt ≤ 10) ∧ (CO u_15) ∧ (EA u_16) ∧ (NC u_17) ∧ (NL u_18) ∧ (HC u_19) ∧ (HL u_20) ∧ (TE u_23) ∧ (0 ≤ u_27.toInt ∧ u_27.toInt ≤ 6) ∧ ((-1) ≤ u_28.toInt ∧ u_28.toInt ≤ 5) ∧ (KI u_30) ∧ (HA u_31) ∧ (WA u_32) ∧ (0 ≤ u_33.toInt ∧ u_33.toInt ≤ 6) ∧ (CE u_34) ∧ (BU u_35) ∧ (0 ≤ u_36.toInt ∧ u_36.toInt ≤ 5) ∧ (0 ≤ u_37.toInt ∧ u_37.toInt ≤ 6) ∧ (0 ≤ u_39.toInt ∧ u_39.toInt ≤ 8) ∧ (0 ≤ u_40.toInt ∧ u_40.toInt ≤ 10) ∧ (CO u_41) ∧ (EA u_42) ∧ (NC u_43) ∧ (NL u_44) ∧ (HC u_45) ∧ (HL u_46) ∧ (TE u_49) ∧ ((0 ≤ a.toInt ∧ a.toInt ≤ 1 ∧ r.toInt = 0) ∨ ((a.toInt < 0 ∨ 2 ≤ a.toInt) ∧ r.toInt = -1)) ∧ (((∀ k, k < 6 → u_24 k = f_w0_laws k) ∧ u_1 = w0_lawCount ∧ u_2 = w0_force) ∨ ((∀ k, k < 6 → u_24 k = f_h0_site_world_laws k) ∧ u_1 = h0_site_world_lawCount ∧ u_2 = h0_site_world_force)) ∧ (((∀ k, k < 6 → u_50 k = f_w1_laws k) ∧ u_27 = w1_lawCount ∧ u_28 = w1_force) ∨ ((∀ k, k < 6 → u_50 k = f_h0_site_world_laws k) ∧ u_27 = h0_site_world_lawCount ∧ u_28 = h0_site_world_force)) ∧ (u_25 = kpI a f_h0_kept) ∧ (r.toInt = imgR a.toInt) ∧ (u_25 0 ≠ 0 → RXw u_4 u_5 u_6 u_3 u_8 u_9 u_7 u_15 u_16 u_10 u_17 u_18 u_11 u_12 u_19 u_20 u_13 u_21 u_22 u_14 u_23 u_1 u_2 (imgW a.toInt 0 w W0)) ∧ (u_25 1 ≠ 0 → RXw u_30 u_31 u_32 u_29 u_34 u_35 u_33 u_41 u_42 u_36 u_43 u_44 u_37 u_38 u_45 u_46 u_39 u_47 u_48 u_40 u_49 u_27 u_28 (imgW a.toInt 1 w W1)) ∧ (u_0.toInt = tlS (imgR a.toInt)) ∧ (RF u_26 (tlR rf (imgR a.toInt))) ∧ ((a.toInt = 0 → ((∀ k, k < 6 → u_24 k = f_h0_site_world_laws k) ∧ u_1 = h0_site_world_lawCount ∧ u_2 = h0_site_world_force)) ∧ (¬ a.toInt = 0 → ((∀ k, k < 6 → u_24 k = f_w0_laws k) ∧ u_1 = w0_lawCount ∧ u_2 = w0_force))) ∧ ((a.toInt = 1 → ((∀ k, k < 6 → u_50 k = f_h0_site_world_laws k) ∧ u_27 = h0_site_world_lawCount ∧ u_28 = h0_site_world_force)) ∧ (¬ a.toInt = 1 → ((∀ k, k < 6 → u_50 k = f_w1_laws k) ∧ u_27 = w1_lawCount ∧ u_28 = w1_force))) → Q r (u_0, u_1, u_2, u_3, u_4, u_5, u_6, u_7, u_8, u_9, u_10, u_11, u_12, u_13, u_14, u_15, u_16, u_17, u_18, u_19, u_20, u_21, u_22, u_23, u_24, u_25, u_26, u_27, u_28, u_29, u_30, u_31, u_32, u_33, u_34, u_35, u_36, u_37, u_38, u_39, u_40, u_41, u_42, u_43, u_44, u_45, u_46, u_47, u_48, u_49, u_50)) : wp_X11_image a w0_lawCount w0_force h0_site_world_lawCount h0_site_world_force w0_rock_dug h0_site_world_rock_dug f_h0_site_world_rock_kind f_w0_rock_kind f_h0_site_world_rock_hard f_w0_rock_hard f_h0_site_world_rock_water f_w0_rock_water w0_crew_count h0_site_world_crew_count f_h0_site_world_crew_cell f_w0_crew_cell f_h0_site_world_crew_buckets f_w0_crew_buckets w0_folk_listeners w0_folk_noises w0_folk_hushed w0_folk_hearsay w0_folk_wells h0_site_world_folk_listeners h0_site_world_folk_noises h0_site_world_folk_hushed h0_site_world_folk_hearsay h0_site_world_folk_wells f_h0_site_world_folk_column f_w0_folk_column f_h0_site_world_folk_ear f_w0_folk_ear f_h0_site_world_folk_noiseColumn f_w0_folk_noiseColumn f_h0_site_world_folk_noiseLoud f_w0_folk_noiseLoud f_h0_site_world_folk_hearsayColumn f_w0_folk_hearsayColumn f_h0_site_world_folk_hearsayLoud f_w0_folk_hearsayLoud f_h0_site_world_folk_sounds f_w0_folk_sounds f_h0_site_world_folk_wet f_w0_folk_wet f_w0_term f_h0_site_world_term f_h0_site_world_laws f_w0_laws f_h0_kept f_h0_refusals w1_lawCount w1_force w1_rock_dug f_w1_rock_kind f_w1_rock_hard f_w1_rock_water w1_crew_count f_w1_crew_cell f_w1_crew_buckets w1_folk_listeners w1_folk_noises w1_folk_hushed w1_folk_hearsay w1_folk_wells f_w1_folk_column f_w1_folk_ear f_w1_folk_noiseColumn f_w1_folk_noiseLoud f_w1_folk_hearsayColumn f_w1_folk_hearsayLoud f_w1_folk_sounds f_w1_folk_wet f_w1_term f_w1_laws TT Q := by
  unfold wp_X11_image
  refine o_X11_isWithin _ _ _ ?_
  by_cases c1 : a < 0
  · refine br1 c1 ?_
    have d2 := lt_z (x := (Int32.toInt a)) (y := 0) rfl rfl c1
    refine br1 (by decide) ?_
    have k3 : Int32.toInt (-1) = (-1) := (by decide)
    refine s_X11_settlez (-1) (f_h0_refusals) (by decide) e_4 (fun r4 u5_0 u5_1 H6 => ?_)
    have j7 := H6.1
    have j8 := H6.2.1
    have j9 := H6.2.2
    refine un2_i ?_
    have hi10 : imgR a.toInt = (Int32.toInt r4) := by first | exact (imgR_y (by omega) (by omega)).trans (by omega) | exact (imgR_n (by omega)).trans (by omega)
    exact hq _ _ _ _ _ _ _ _ _ _ _ _ _ _ _ _ _ _ _ _ _ _ _ _ _ _ _ _ _ _ _ _ _ _ _ _ _ _ _ _ _ _ _ _ _ _ _ _ _ _ _ _ ⟨(by first | with_reducible assumption | exact ⟨by omega, by omega⟩), (by first | with_reducible assumption | exact ⟨by omega, by omega⟩), h_f_w0_rock_kind, h_f_w0_rock_hard, h_f_w0_rock_water, (by first | with_reducible assumption | exact ⟨by omega, by omega⟩), h_f_w0_crew_cell, h_f_w0_crew_buckets, (by first | with_reducible assumption | exact ⟨by omega, by omega⟩), (by first | with_reducible assumption | exact ⟨by omega, by omega⟩), (by first | with_reducible assumption | exact ⟨by omega, by omega⟩), (by first | with_reducible assumption | exact ⟨by omega, by omega⟩), h_f_w0_folk_column, h_f_w0_folk_ear, h_f_w0_folk_noiseColumn, h_f_w0_folk_noiseLoud, h_f_w0_folk_hearsayColumn, h_f_w0_folk_hearsayLoud, h_f_w0_term, (by first | with_reducible assumption | exact ⟨by omega, by omega⟩), (by first | with_reducible assumption | exact ⟨by omega, by omega⟩), h_f_w1_rock_kind, h_f_w1_rock_hard, h_f_w1_rock_water, (by first | with_reducible assumption | exact ⟨by omega, by omega⟩), h_f_w1_crew_cell, h_f_w1_crew_buckets, (by first | with_reducible assumption | exact ⟨by omega, by omega⟩), (by first | with_reducible assumption | exact ⟨by omega, by omega⟩), (by first | with_reducible assumption | exact ⟨by omega, by omega⟩), (by first | with_reducible assumption | exact ⟨by omega, by omega⟩), h_f_w1_folk_column, h_f_w1_folk_ear, h_f_w1_folk_noiseColumn, h_f_w1_folk_noiseLoud, h_f_w1_folk_hearsayColumn, h_f_w1_folk_hearsayLoud, h_f_w1_term, (by omega), (Or.inl ⟨fun k hk => rfl, rfl, rfl⟩), (Or.inl ⟨fun k hk => rfl, rfl, rfl⟩), (by first | exact kp_p (by omega) (by omega) | exact kp_n (by omega)), (hi10.symm), (by rw [imgW_n (by omega)]; first | exact kp_un (by omega) (by omega) e_2 | exact e_2), (by rw [imgW_n (by omega)]; first | exact kp_un (by omega) (by omega) e_3 | exact e_3), (by rw [hi10]; exact j8), (by rw [hi10]; exact j9), ⟨fun h => absurd h (by omega), fun _ => ⟨fun k hk => rfl, rfl, rfl⟩⟩, ⟨fun h => absurd h (by omega), fun _ => ⟨fun k hk => rfl, rfl, rfl⟩⟩⟩
  · refine br0 c1 ?_
    have d13 := nlt_z (x := (Int32.toInt a)) (y := 0) rfl rfl c1
    by_cases c14 : 2 ≤ a
    · refine br1 c14 ?_
      have d15 := le_z (x := 2) (y := (Int32.toInt a)) rfl rfl c14
      refine br1 (by decide) ?_
      have k16 : Int32.toInt (-1) = (-1) := (by decide)
      refine s_X11_settlez (-1) (f_h0_refusals) (by decide) e_4 (fun r17 u18_0 u18_1 H19 => ?_)
      have j20 := H19.1
      have j21 := H19.2.1
      have j22 := H19.2.2
      refine un2_i ?_
      have hi23 : imgR a.toInt = (Int32.toInt r17) := by first | exact (imgR_y (by omega) (by omega)).trans (by omega) | exact (imgR_n (by omega)).trans (by omega)
      exact hq _ _ _ _ _ _ _ _ _ _ _ _ _ _ _ _ _ _ _ _ _ _ _ _ _ _ _ _ _ _ _ _ _ _ _ _ _ _ _ _ _ _ _ _ _ _ _ _ _ _ _ _ ⟨(by first | with_reducible assumption | exact ⟨by omega, by omega⟩), (by first | with_reducible assumption | exact ⟨by omega, by omega⟩), h_f_w0_rock_kind, h_f_w0_rock_hard, h_f_w0_rock_water, (by first | with_reducible assumption | exact ⟨by omega, by omega⟩), h_f_w0_crew_cell, h_f_w0_crew_buckets, (by first | with_reducible assumption | exact ⟨by omega, by omega⟩), (by first | with_reducible assumption | exact ⟨by omega, by omega⟩), (by first | with_reducible assumption | exact ⟨by omega, by omega⟩), (by first | with_reducible assumption | exact ⟨by omega, by omega⟩), h_f_w0_folk_column, h_f_w0_folk_ear, h_f_w0_folk_noiseColumn, h_f_w0_folk_noiseLoud, h_f_w0_folk_hearsayColumn, h_f_w0_folk_hearsayLoud, h_f_w0_term, (by first | with_reducible assumption | exact ⟨by omega, by omega⟩), (by first | with_reducible assumption | exact ⟨by omega, by omega⟩), h_f_w1_rock_kind, h_f_w1_rock_hard, h_f_w1_rock_water, (by first | with_reducible assumption | exact ⟨by omega, by omega⟩), h_f_w1_crew_cell, h_f_w1_crew_buckets, (by first | with_reducible assumption | exact ⟨by omega, by omega⟩), (by first | with_reducible assumption | exact ⟨by omega, by omega⟩), (by first | with_reducible assumption | exact ⟨by omega, by omega⟩), (by first | with_reducible assumption | exact ⟨by omega, by omega⟩), h_f_w1_folk_column, h_f_w1_folk_ear, h_f_w1_folk_noiseColumn, h_f_w1_folk_noiseLoud, h_f_w1_folk_hearsayColumn, h_f_w1_folk_hearsayLoud, h_f_w1_term, (by omega), (Or.inl ⟨fun k hk => rfl, rfl, rfl⟩), (Or.inl ⟨fun k hk => rfl, rfl, rfl⟩), (by first | exact kp_p (by omega) (by omega) | exact kp_n (by omega)), (hi23.symm), (by rw [imgW_n (by omega)]; first | exact kp_un (by omega) (by omega) e_2 | exact e_2), (by rw [imgW_n (by omega)]; first | exact kp_un (by omega) (by omega) e_3 | exact e_3), (by rw [hi23]; exact j21), (by rw [hi23]; exact j22), ⟨fun h => absurd h (by omega), fun _ => ⟨fun k hk => rfl, rfl, rfl⟩⟩, ⟨fun h => absurd h (by omega), fun _ => ⟨fun k hk => rfl, rfl, rfl⟩⟩⟩
    · refine br0 c14 ?_
      have d26 := nle_z (x := 2) (y := (Int32.toInt a)) rfl rfl c14
      refine br0 (by decide) ?_
      refine ⟨vpi (x := (Int32.toInt a)) rfl (by omega) (by omega), ?_⟩
      by_cases c27 : a = 0
      · refine br1 c27 ?_
        have d28 := eq_z (x := (Int32.toInt a)) (y := 0) rfl rfl c27
        refine s_X10_copyFromz h0_site_world_lawCount h0_site_world_force h0_site_world_rock_dug (f_h0_site_world_rock_kind) (f_w0_rock_kind) (f_h0_site_world_rock_hard) (f_w0_rock_hard) (f_h0_site_world_rock_water) (f_w0_rock_water) h0_site_world_crew_count (f_h0_site_world_crew_cell) (f_w0_crew_cell) (f_h0_site_world_crew_buckets) (f_w0_crew_buckets) h0_site_world_folk_listeners h0_site_world_folk_noises h0_site_world_folk_hushed h0_site_world_folk_hearsay h0_site_world_folk_wells (f_h0_site_world_folk_column) (f_w0_folk_column) (f_h0_site_world_folk_ear) (f_w0_folk_ear) (f_h0_site_world_folk_noiseColumn) (f_w0_folk_noiseColumn) (f_h0_site_world_folk_noiseLoud) (f_w0_folk_noiseLoud) (f_h0_site_world_folk_hearsayColumn) (f_w0_folk_hearsayColumn) (f_h0_site_world_folk_hearsayLoud) (f_w0_folk_hearsayLoud) (f_h0_site_world_folk_sounds) (f_w0_folk_sounds) (f_h0_site_world_folk_wet) (f_w0_folk_wet) (f_w0_term) (f_h0_site_world_term) (f_h0_site_world_laws) (f_w0_laws) TT (by first | with_reducible assumption | exact ⟨by omega, by omega⟩) (by first | with_reducible assumption | exact ⟨by omega, by omega⟩) h_f_h0_site_world_rock_kind h_f_w0_rock_kind h_f_h0_site_world_rock_hard h_f_w0_rock_hard h_f_h0_site_world_rock_water h_f_w0_rock_water (by first | with_reducible assumption | exact ⟨by omega, by omega⟩) h_f_h0_site_world_crew_cell h_f_w0_crew_cell h_f_h0_site_world_crew_buckets h_f_w0_crew_buckets (by first | with_reducible assumption | exact ⟨by omega, by omega⟩) (by first | with_reducible assumption | exact ⟨by omega, by omega⟩) (by first | with_reducible assumption | exact ⟨by omega, by omega⟩) (by first | with_reducible assumption | exact ⟨by omega, by omega⟩) h_f_h0_site_world_folk_column h_f_w0_folk_column h_f_h0_site_world_folk_ear h_f_w0_folk_ear h_f_h0_site_world_folk_noiseColumn h_f_w0_folk_noiseColumn h_f_h0_site_world_folk_noiseLoud h_f_w0_folk_noiseLoud h_f_h0_site_world_folk_hearsayColumn h_f_w0_folk_hearsayColumn h_f_h0_site_world_folk_hearsayLoud h_f_w0_folk_hearsayLoud h_f_w0_term h_f_h0_site_world_term e_0 e_1 (fun u29_0 u29_1 u29_2 u29_3 u29_4 u29_5 u29_6 u29_7 u29_8 u29_9 u29_10 u29_11 u29_12 u29_13 u29_14 u29_15 u29_16 u29_17 u29_18 u29_19 u29_20 u29_21 u29_22 u29_23 H30 => ?_)
        have j31 := H30.1
        have j32 := H30.2.1
        have j33 := H30.2.2.1
        have j34 := H30.2.2.2.1
        have j35 := H30.2.2.2.2.1
        have j36 := H30.2.2.2.2.2.1
        have j37 := H30.2.2.2.2.2.2.1
        have j38 := H30.2.2.2.2.2.2.2.1
        have j39 := H30.2.2.2.2.2.2.2.2.1
        have j40 := H30.2.2.2.2.2.2.2.2.2.1
        have j41 := H30.2.2.2.2.2.2.2.2.2.2.1
        have j42 := H30.2.2.2.2.2.2.2.2.2.2.2.1
        have j43 := H30.2.2.2.2.2.2.2.2.2.2.2.2.1
        have j44 := H30.2.2.2.2.2.2.2.2.2.2.2.2.2.1
        have j45 := H30.2.2.2.2.2.2.2.2.2.2.2.2.2.2.1
        have j46 := H30.2.2.2.2.2.2.2.2.2.2.2.2.2.2.2.1
        have j47 := H30.2.2.2.2.2.2.2.2.2.2.2.2.2.2.2.2.1
        have j48 := H30.2.2.2.2.2.2.2.2.2.2.2.2.2.2.2.2.2.1
        have j49 := H30.2.2.2.2.2.2.2.2.2.2.2.2.2.2.2.2.2.2.1
        have j50 := H30.2.2.2.2.2.2.2.2.2.2.2.2.2.2.2.2.2.2.2.1
        have j51 := H30.2.2.2.2.2.2.2.2.2.2.2.2.2.2.2.2.2.2.2.2.1
        have j52 := H30.2.2.2.2.2.2.2.2.2.2.2.2.2.2.2.2.2.2.2.2.2.1
        have j53 := H30.2.2.2.2.2.2.2.2.2.2.2.2.2.2.2.2.2.2.2.2.2.2
        refine un24_i ?_
        refine ⟨vpi (x := (Int32.toInt a)) rfl (by omega) (by omega), ?_⟩
        have k54 : Int32.toInt 0 = 0 := rfl
        refine s_X11_settlez 0 (f_h0_refusals) (by decide) e_4 (fun r55 u56_0 u56_1 H57 => ?_)
        have j58 := H57.1
        have j59 := H57.2.1
        have j60 := H57.2.2
        refine un2_i ?_
        have hi61 : imgR a.toInt = (Int32.toInt r55) := by first | exact (imgR_y (by omega) (by omega)).trans (by omega) | exact (imgR_n (by omega)).trans (by omega)
        exact hq _ _ _ _ _ _ _ _ _ _ _ _ _ _ _ _ _ _ _ _ _ _ _ _ _ _ _ _ _ _ _ _ _ _ _ _ _ _ _ _ _ _ _ _ _ _ _ _ _ _ _ _ ⟨(by first | with_reducible assumption | exact ⟨by omega, by omega⟩), (by first | with_reducible assumption | exact ⟨by omega, by omega⟩), j33, j34, j35, (by first | with_reducible assumption | exact ⟨by omega, by omega⟩), j37, j38, (by first | with_reducible assumption | exact ⟨by omega, by omega⟩), (by first | with_reducible assumption | exact ⟨by omega, by omega⟩), (by first | with_reducible assumption | exact ⟨by omega, by omega⟩), (by first | with_reducible assumption | exact ⟨by omega, by omega⟩), j43, j44, j45, j46, j47, j48, j49, (by first | with_reducible assumption | exact ⟨by omega, by omega⟩), (by first | with_reducible assumption | exact ⟨by omega, by omega⟩), h_f_w1_rock_kind, h_f_w1_rock_hard, h_f_w1_rock_water, (by first | with_reducible assumption | exact ⟨by omega, by omega⟩), h_f_w1_crew_cell, h_f_w1_crew_buckets, (by first | with_reducible assumption | exact ⟨by omega, by omega⟩), (by first | with_reducible assumption | exact ⟨by omega, by omega⟩), (by first | with_reducible assumption | exact ⟨by omega, by omega⟩), (by first | with_reducible assumption | exact ⟨by omega, by omega⟩), h_f_w1_folk_column, h_f_w1_folk_ear, h_f_w1_folk_noiseColumn, h_f_w1_folk_noiseLoud, h_f_w1_folk_hearsayColumn, h_f_w1_folk_hearsayLoud, h_f_w1_term, (by omega), (Or.inr ⟨j50, j51, j52⟩), (Or.inl ⟨fun k hk => rfl, rfl, rfl⟩), (by first | exact kp_p (by omega) (by omega) | exact kp_n (by omega)), (hi61.symm), (by rw [imgW_y (by omega)]; exact fun _ => j53), (by rw [imgW_n (by omega)]; first | exact kp_un (by omega) (by omega) e_3 | exact e_3), (by rw [hi61]; exact j59), (by rw [hi61]; exact j60), ⟨fun _ => ⟨j50, j51, j52⟩, fun h => absurd (by omega) h⟩, ⟨fun h => absurd h (by omega), fun _ => ⟨fun k hk => rfl, rfl, rfl⟩⟩⟩
      · refine br0 c27 ?_
        have d64 := ne_z (x := (Int32.toInt a)) (y := 0) rfl rfl c27
        refine s_X10_copyFromz h0_site_world_lawCount h0_site_world_force h0_site_world_rock_dug (f_h0_site_world_rock_kind) (f_w1_rock_kind) (f_h0_site_world_rock_hard) (f_w1_rock_hard) (f_h0_site_world_rock_water) (f_w1_rock_water) h0_site_world_crew_count (f_h0_site_world_crew_cell) (f_w1_crew_cell) (f_h0_site_world_crew_buckets) (f_w1_crew_buckets) h0_site_world_folk_listeners h0_site_world_folk_noises h0_site_world_folk_hushed h0_site_world_folk_hearsay h0_site_world_folk_wells (f_h0_site_world_folk_column) (f_w1_folk_column) (f_h0_site_world_folk_ear) (f_w1_folk_ear) (f_h0_site_world_folk_noiseColumn) (f_w1_folk_noiseColumn) (f_h0_site_world_folk_noiseLoud) (f_w1_folk_noiseLoud) (f_h0_site_world_folk_hearsayColumn) (f_w1_folk_hearsayColumn) (f_h0_site_world_folk_hearsayLoud) (f_w1_folk_hearsayLoud) (f_h0_site_world_folk_sounds) (f_w1_folk_sounds) (f_h0_site_world_folk_wet) (f_w1_folk_wet) (f_w1_term) (f_h0_site_world_term) (f_h0_site_world_laws) (f_w1_laws) TT (by first | with_reducible assumption | exact ⟨by omega, by omega⟩) (by first | with_reducible assumption | exact ⟨by omega, by omega⟩) h_f_h0_site_world_rock_kind h_f_w1_rock_kind h_f_h0_site_world_rock_hard h_f_w1_rock_hard h_f_h0_site_world_rock_water h_f_w1_rock_water (by first | with_reducible assumption | exact ⟨by omega, by omega⟩) h_f_h0_site_world_crew_cell h_f_w1_crew_cell h_f_h0_site_world_crew_buckets h_f_w1_crew_buckets (by first | with_reducible assumption | exact ⟨by omega, by omega⟩) (by first | with_reducible assumption | exact ⟨by omega, by omega⟩) (by first | with_reducible assumption | exact ⟨by omega, by omega⟩) (by first | with_reducible assumption | exact ⟨by omega, by omega⟩) h_f_h0_site_world_folk_column h_f_w1_folk_column h_f_h0_site_world_folk_ear h_f_w1_folk_ear h_f_h0_site_world_folk_noiseColumn h_f_w1_folk_noiseColumn h_f_h0_site_world_folk_noiseLoud h_f_w1_folk_noiseLoud h_f_h0_site_world_folk_hearsayColumn h_f_w1_folk_hearsayColumn h_f_h0_site_world_folk_hearsayLoud h_f_w1_folk_hearsayLoud h_f_w1_term h_f_h0_site_world_term e_0 e_1 (fun u65_0 u65_1 u65_2 u65_3 u65_4 u65_5 u65_6 u65_7 u65_8 u65_9 u65_10 u65_11 u65_12 u65_13 u65_14 u65_15 u65_16 u65_17 u65_18 u65_19 u65_20 u65_21 u65_22 u65_23 H66 => ?_)
        have j67 := H66.1
        have j68 := H66.2.1
        have j69 := H66.2.2.1
        have j70 := H66.2.2.2.1
        have j71 := H66.2.2.2.2.1
        have j72 := H66.2.2.2.2.2.1
        have j73 := H66.2.2.2.2.2.2.1
        have j74 := H66.2.2.2.2.2.2.2.1
        have j75 := H66.2.2.2.2.2.2.2.2.1
        have j76 := H66.2.2.2.2.2.2.2.2.2.1
        have j77 := H66.2.2.2.2.2.2.2.2.2.2.1
        have j78 := H66.2.2.2.2.2.2.2.2.2.2.2.1
        have j79 := H66.2.2.2.2.2.2.2.2.2.2.2.2.1
        have j80 := H66.2.2.2.2.2.2.2.2.2.2.2.2.2.1
        have j81 := H66.2.2.2.2.2.2.2.2.2.2.2.2.2.2.1
        have j82 := H66.2.2.2.2.2.2.2.2.2.2.2.2.2.2.2.1
        have j83 := H66.2.2.2.2.2.2.2.2.2.2.2.2.2.2.2.2.1
        have j84 := H66.2.2.2.2.2.2.2.2.2.2.2.2.2.2.2.2.2.1
        have j85 := H66.2.2.2.2.2.2.2.2.2.2.2.2.2.2.2.2.2.2.1
        have j86 := H66.2.2.2.2.2.2.2.2.2.2.2.2.2.2.2.2.2.2.2.1
        have j87 := H66.2.2.2.2.2.2.2.2.2.2.2.2.2.2.2.2.2.2.2.2.1
        have j88 := H66.2.2.2.2.2.2.2.2.2.2.2.2.2.2.2.2.2.2.2.2.2.1
        have j89 := H66.2.2.2.2.2.2.2.2.2.2.2.2.2.2.2.2.2.2.2.2.2.2
        refine un24_i ?_
        refine ⟨vpi (x := (Int32.toInt a)) rfl (by omega) (by omega), ?_⟩
        have k90 : Int32.toInt 0 = 0 := rfl
        refine s_X11_settlez 0 (f_h0_refusals) (by decide) e_4 (fun r91 u92_0 u92_1 H93 => ?_)
        have j94 := H93.1
        have j95 := H93.2.1
        have j96 := H93.2.2
        refine un2_i ?_
        have hi97 : imgR a.toInt = (Int32.toInt r91) := by first | exact (imgR_y (by omega) (by omega)).trans (by omega) | exact (imgR_n (by omega)).trans (by omega)
        exact hq _ _ _ _ _ _ _ _ _ _ _ _ _ _ _ _ _ _ _ _ _ _ _ _ _ _ _ _ _ _ _ _ _ _ _ _ _ _ _ _ _ _ _ _ _ _ _ _ _ _ _ _ ⟨(by first | with_reducible assumption | exact ⟨by omega, by omega⟩), (by first | with_reducible assumption | exact ⟨by omega, by omega⟩), h_f_w0_rock_kind, h_f_w0_rock_hard, h_f_w0_rock_water, (by first | with_reducible assumption | exact ⟨by omega, by omega⟩), h_f_w0_crew_cell, h_f_w0_crew_buckets, (by first | with_reducible assumption | exact ⟨by omega, by omega⟩), (by first | with_reducible assumption | exact ⟨by omega, by omega⟩), (by first | with_reducible assumption | exact ⟨by omega, by omega⟩), (by first | with_reducible assumption | exact ⟨by omega, by omega⟩), h_f_w0_folk_column, h_f_w0_folk_ear, h_f_w0_folk_noiseColumn, h_f_w0_folk_noiseLoud, h_f_w0_folk_hearsayColumn, h_f_w0_folk_hearsayLoud, h_f_w0_term, (by first | with_reducible assumption | exact ⟨by omega, by omega⟩), (by first | with_reducible assumption | exact ⟨by omega, by omega⟩), j69, j70, j71, (by first | with_reducible assumption | exact ⟨by omega, by omega⟩), j73, j74, (by first | with_reducible assumption | exact ⟨by omega, by omega⟩), (by first | with_reducible assumption | exact ⟨by omega, by omega⟩), (by first | with_reducible assumption | exact ⟨by omega, by omega⟩), (by first | with_reducible assumption | exact ⟨by omega, by omega⟩), j79, j80, j81, j82, j83, j84, j85, (by omega), (Or.inl ⟨fun k hk => rfl, rfl, rfl⟩), (Or.inr ⟨j86, j87, j88⟩), (by first | exact kp_p (by omega) (by omega) | exact kp_n (by omega)), (hi97.symm), (by rw [imgW_n (by omega)]; first | exact kp_un (by omega) (by omega) e_2 | exact e_2), (by rw [imgW_y (by omega)]; exact fun _ => j89), (by rw [hi97]; exact j95), (by rw [hi97]; exact j96), ⟨fun h => absurd h (by omega), fun _ => ⟨fun k hk => rfl, rfl, rfl⟩⟩, ⟨fun _ => ⟨j86, j87, j88⟩, fun h => absurd (by omega) h⟩⟩


set_option maxRecDepth 100000 in
theorem s_X11_backz (a : Int32) (f_h0_kept : Nat → Int32) (h0_site_world_lawCount : Int32) (h0_site_world_force : Int32) (w0_lawCount : Int32) (w0_force : Int32) (h0_site_world_rock_dug : Int64) (w0_rock_dug : Int64) (f_w0_rock_kind : Nat → Int32) (f_h0_site_world_rock_kind : Nat → Int32) (f_w0_rock_hard : Nat → Int32) (f_h0_site_world_rock_hard : Nat → Int32) (f_w0_rock_water : Nat → Int32) (f_h0_site_world_rock_water : Nat → Int32) (h0_site_world_crew_count : Int32) (w0_crew_count : Int32) (f_w0_crew_cell : Nat → Int32) (f_h0_site_world_crew_cell : Nat → Int32) (f_w0_crew_buckets : Nat → Int32) (f_h0_site_world_crew_buckets : Nat → Int32) (h0_site_world_folk_listeners : Int32) (h0_site_world_folk_noises : Int32) (h0_site_world_folk_hushed : Int32) (h0_site_world_folk_hearsay : Int32) (h0_site_world_folk_wells : Int32) (w0_folk_listeners : Int32) (w0_folk_noises : Int32) (w0_folk_hushed : Int32) (w0_folk_hearsay : Int32) (w0_folk_wells : Int32) (f_w0_folk_column : Nat → Int32) (f_h0_site_world_folk_column : Nat → Int32) (f_w0_folk_ear : Nat → Int32) (f_h0_site_world_folk_ear : Nat → Int32) (f_w0_folk_noiseColumn : Nat → Int32) (f_h0_site_world_folk_noiseColumn : Nat → Int32) (f_w0_folk_noiseLoud : Nat → Int32) (f_h0_site_world_folk_noiseLoud : Nat → Int32) (f_w0_folk_hearsayColumn : Nat → Int32) (f_h0_site_world_folk_hearsayColumn : Nat → Int32) (f_w0_folk_hearsayLoud : Nat → Int32) (f_h0_site_world_folk_hearsayLoud : Nat → Int32) (f_w0_folk_sounds : Nat → Int32) (f_h0_site_world_folk_sounds : Nat → Int32) (f_w0_folk_wet : Nat → Int32) (f_h0_site_world_folk_wet : Nat → Int32) (f_h0_site_world_term : Nat → Int32) (f_w0_term : Nat → Int32) (f_w0_laws : Nat → Option Nat) (f_h0_site_world_laws : Nat → Option Nat) (h0_site_diary_kept : Int32) (f_h0_refusals : Nat → Int32) (w1_lawCount : Int32) (w1_force : Int32) (w1_rock_dug : Int64) (f_w1_rock_kind : Nat → Int32) (f_w1_rock_hard : Nat → Int32) (f_w1_rock_water : Nat → Int32) (w1_crew_count : Int32) (f_w1_crew_cell : Nat → Int32) (f_w1_crew_buckets : Nat → Int32) (w1_folk_listeners : Int32) (w1_folk_noises : Int32) (w1_folk_hushed : Int32) (w1_folk_hearsay : Int32) (w1_folk_wells : Int32) (f_w1_folk_column : Nat → Int32) (f_w1_folk_ear : Nat → Int32) (f_w1_folk_noiseColumn : Nat → Int32) (f_w1_folk_noiseLoud : Nat → Int32) (f_w1_folk_hearsayColumn : Nat → Int32) (f_w1_folk_hearsayLoud : Nat → Int32) (f_w1_folk_sounds : Nat → Int32) (f_w1_folk_wet : Nat → Int32) (f_w1_term : Nat → Int32) (f_w1_laws : Nat → Option Nat) (TT : Nat → Prop) {w W0 W1 : Nat → Int} {U : UL} {rf : Nat → Int32} {gd_deed : Nat → Int32} {gd_whose : Nat → Int32} {gd_before : Nat → Int32} {gd_bucketsBefore : Nat → Int32} {gd_dayBefore : Nat → Int32} {gd_latest : Int32} (h_h0_site_world_lawCount : 0 ≤ h0_site_world_lawCount.toInt ∧ h0_site_world_lawCount.toInt ≤ 6) (h_h0_site_world_force : (-1) ≤ h0_site_world_force.toInt ∧ h0_site_world_force.toInt ≤ 5) (h_w0_lawCount : 0 ≤ w0_lawCount.toInt ∧ w0_lawCount.toInt ≤ 6) (h_w0_force : (-1) ≤ w0_force.toInt ∧ w0_force.toInt ≤ 5) (h_f_w0_rock_kind : KI f_w0_rock_kind) (h_f_h0_site_world_rock_kind : KI f_h0_site_world_rock_kind) (h_f_w0_rock_hard : HA f_w0_rock_hard) (h_f_h0_site_world_rock_hard : HA f_h0_site_world_rock_hard) (h_f_w0_rock_water : WA f_w0_rock_water) (h_f_h0_site_world_rock_water : WA f_h0_site_world_rock_water) (h_h0_site_world_crew_count : 0 ≤ h0_site_world_crew_count.toInt ∧ h0_site_world_crew_count.toInt ≤ 6) (h_w0_crew_count : 0 ≤ w0_crew_count.toInt ∧ w0_crew_count.toInt ≤ 6) (h_f_w0_crew_cell : CE f_w0_crew_cell) (h_f_h0_site_world_crew_cell : CE f_h0_site_world_crew_cell) (h_f_w0_crew_buckets : BU f_w0_crew_buckets) (h_f_h0_site_world_crew_buckets : BU f_h0_site_world_crew_buckets) (h_h0_site_world_folk_listeners : 0 ≤ h0_site_world_folk_listeners.toInt ∧ h0_site_world_folk_listeners.toInt ≤ 5) (h_h0_site_world_folk_noises : 0 ≤ h0_site_world_folk_noises.toInt ∧ h0_site_world_folk_noises.toInt ≤ 6) (h_h0_site_world_folk_hearsay : 0 ≤ h0_site_world_folk_hearsay.toInt ∧ h0_site_world_folk_hearsay.toInt ≤ 8) (h_h0_site_world_folk_wells : 0 ≤ h0_site_world_folk_wells.toInt ∧ h0_site_world_folk_wells.toInt ≤ 10) (h_w0_folk_listeners : 0 ≤ w0_folk_listeners.toInt ∧ w0_folk_listeners.toInt ≤ 5) (h_w0_folk_noises : 0 ≤ w0_folk_noises.toInt ∧ w0_folk_noises.toInt ≤ 6) (h_w0_folk_hearsay : 0 ≤ w0_folk_hearsay.toInt ∧ w0_folk_hearsay.toInt ≤ 8) (h_w0_folk_wells : 0 ≤ w0_folk_wells.toInt ∧ w0_folk_wells.toInt ≤ 10) (h_f_w0_folk_column : CO f_w0_folk_column) (h_f_h0_site_world_folk_column : CO f_h0_site_world_folk_column) (h_f_w0_folk_ear : EA f_w0_folk_ear) (h_f_h0_site_world_folk_ear : EA f_h0_site_world_folk_ear) (h_f_w0_folk_noiseColumn : NC f_w0_folk_noiseColumn) (h_f_h0_site_world_folk_noiseColumn : NC f_h0_site_world_folk_noiseColumn) (h_f_w0_folk_noiseLoud : NL f_w0_folk_noiseLoud) (h_f_h0_site_world_folk_noiseLoud : NL f_h0_site_world_folk_noiseLoud) (h_f_w0_folk_hearsayColumn : HC f_w0_folk_hearsayColumn) (h_f_h0_site_world_folk_hearsayColumn : HC f_h0_site_world_folk_hearsayColumn) (h_f_w0_folk_hearsayLoud : HL f_w0_folk_hearsayLoud) (h_f_h0_site_world_folk_hearsayLoud : HL f_h0_site_world_folk_hearsayLoud) (h_f_h0_site_world_term : TE f_h0_site_world_term) (h_f_w0_term : TE f_w0_term) (h_h0_site_diary_kept : 0 ≤ h0_site_diary_kept.toInt ∧ h0_site_diary_kept.toInt ≤ 16) (h_w1_lawCount : 0 ≤ w1_lawCount.toInt ∧ w1_lawCount.toInt ≤ 6) (h_w1_force : (-1) ≤ w1_force.toInt ∧ w1_force.toInt ≤ 5) (h_f_w1_rock_kind : KI f_w1_rock_kind) (h_f_w1_rock_hard : HA f_w1_rock_hard) (h_f_w1_rock_water : WA f_w1_rock_water) (h_w1_crew_count : 0 ≤ w1_crew_count.toInt ∧ w1_crew_count.toInt ≤ 6) (h_f_w1_crew_cell : CE f_w1_crew_cell) (h_f_w1_crew_buckets : BU f_w1_crew_buckets) (h_w1_folk_listeners : 0 ≤ w1_folk_listeners.toInt ∧ w1_folk_listeners.toInt ≤ 5) (h_w1_folk_noises : 0 ≤ w1_folk_noises.toInt ∧ w1_folk_noises.toInt ≤ 6) (h_w1_folk_hearsay : 0 ≤ w1_folk_hearsay.toInt ∧ w1_folk_hearsay.toInt ≤ 8) (h_w1_folk_wells : 0 ≤ w1_folk_wells.toInt ∧ w1_folk_wells.toInt ≤ 10) (h_f_w1_folk_column : CO f_w1_folk_column) (h_f_w1_folk_ear : EA f_w1_folk_ear) (h_f_w1_folk_noiseColumn : NC f_w1_folk_noiseColumn) (h_f_w1_folk_noiseLoud : NL f_w1_folk_noiseLoud) (h_f_w1_folk_hearsayColumn : HC f_w1_folk_hearsayColumn) (h_f_w1_folk_hearsayLoud : HL f_w1_folk_hearsayLoud) (h_f_w1_term : TE f_w1_term) (e_0 : ∀ k, k < 6 → ∀ v, f_w0_laws k = some v → TT v) (e_1 : ∀ k, k < 6 → ∀ v, f_w1_laws k = some v → TT v) (e_2 : RXw f_h0_site_world_rock_kind f_h0_site_world_rock_hard f_h0_site_world_rock_water h0_site_world_rock_dug f_h0_site_world_crew_cell f_h0_site_world_crew_buckets h0_site_world_crew_count f_h0_site_world_folk_column f_h0_site_world_folk_ear h0_site_world_folk_listeners f_h0_site_world_folk_noiseColumn f_h0_site_world_folk_noiseLoud h0_site_world_folk_noises h0_site_world_folk_hushed f_h0_site_world_folk_hearsayColumn f_h0_site_world_folk_hearsayLoud h0_site_world_folk_hearsay f_h0_site_world_folk_sounds f_h0_site_world_folk_wet h0_site_world_folk_wells f_h0_site_world_term h0_site_world_lawCount h0_site_world_force w) (e_3 : RXu gd_deed gd_whose gd_before gd_bucketsBefore gd_dayBefore h0_site_diary_kept gd_latest w U) (e_4 : f_h0_kept 0 ≠ 0 → RXw f_w0_rock_kind f_w0_rock_hard f_w0_rock_water w0_rock_dug f_w0_crew_cell f_w0_crew_buckets w0_crew_count f_w0_folk_column f_w0_folk_ear w0_folk_listeners f_w0_folk_noiseColumn f_w0_folk_noiseLoud w0_folk_noises w0_folk_hushed f_w0_folk_hearsayColumn f_w0_folk_hearsayLoud w0_folk_hearsay f_w0_folk_sounds f_w0_folk_wet w0_folk_wells f_w0_term w0_lawCount w0_force W0) (e_5 : f_h0_kept 1 ≠ 0 → RXw f_w1_rock_kind f_w1_rock_hard f_w1_rock_water w1_rock_dug f_w1_crew_cell f_w1_crew_buckets w1_crew_count f_w1_folk_column f_w1_folk_ear w1_folk_listeners f_w1_folk_noiseColumn f_w1_folk_noiseLoud w1_folk_noises w1_folk_hushed f_w1_folk_hearsayColumn f_w1_folk_hearsayLoud w1_folk_hearsay f_w1_folk_sounds f_w1_folk_wet w1_folk_wells f_w1_term w1_lawCount w1_force W1) (e_6 : RF f_h0_refusals rf) {Q : Int32 → (Int32 × Int32 × Int32 × Int64 × (Nat → Int32) × (Nat → Int32) × (Nat → Int32) × Int32 × (Nat → Int32) × (Nat → Int32) × Int32 × Int32 × Int32 × Int32 × Int32 × (Nat → Int32) × (Nat → Int32) × (Nat → Int32) × (Nat → Int32) × (Nat → Int32) × (Nat → Int32) × (Nat → Int32) × (Nat → Int32) × (Nat → Int32) × (Nat → Option Nat) × Int32 × (Nat → Int32)) → Prop} (hq : ∀ (r : Int32) (u_0 : Int32) (u_1 : Int32) (u_2 : Int32) (u_3 : Int64) (u_4 : Nat → Int32) (u_5 : Nat → Int32) (u_6 : Nat → Int32) (u_7 : Int32) (u_8 : Nat → Int32) (u_9 : Nat → Int32) (u_10 : Int32) (u_11 : Int32) (u_12 : Int32) (u_13 : Int32) (u_14 : Int32) (u_15 : Nat → Int32) (u_16 : Nat → Int32) (u_17 : Nat → Int32) (u_18 : Nat → Int32) (u_19 : Nat → Int32) (u_20 : Nat → Int32) (u_21 : Nat → Int32) (u_22 : Nat → Int32) (u_23 : Nat → Int32) (u_24 : Nat → Option Nat) (u_25 : Int32) (u_26 : Nat → Int32), (0 ≤ u_1.toInt ∧ u_1.toInt ≤ 6) ∧ ((-1) ≤ u_2.toInt ∧ u_2.toInt ≤ 5) ∧ (KI u_4) ∧ (HA u_5) ∧ (WA u_6) ∧ (0 ≤ u_7.toInt ∧ u_7.toInt ≤ 6) ∧ (CE u_8) ∧ (BU u_9) ∧ (0 ≤ u_10.toInt ∧ u_10.toInt ≤ 5) ∧ (0 ≤ u_11.toInt ∧ u_11.toInt ≤ 6) ∧ (0 ≤ u_13.toInt ∧ u_13.toInt ≤ 8) ∧ (0 ≤ u_14.toInt ∧ u_14.toInt ≤ 10) ∧ (CO u_15) ∧ (EA u_16) ∧ (NC u_17) ∧ (NL u_18) ∧ (HC u_19) ∧ (HL u_20) ∧ (TE u_23) ∧ (0 ≤ u_25.toInt ∧ u_25.toInt ≤ 16) ∧ (((∀ k, k < 6 → u_24 k = f_h0_site_world_laws k) ∧ u_1 = h0_site_world_lawCount ∧ u_2 = h0_site_world_force) ∨ ((∀ k, k < 6 → u_24 k = f_w0_laws k) ∧ u_1 = w0_lawCount ∧ u_2 = w0_force) ∨ ((∀ k, k < 6 → u_24 k = f_w1_laws k) ∧ u_1 = w1_lawCount ∧ u_2 = w1_force)) ∧ (r.toInt = bakR f_h0_kept a.toInt) ∧ (RXw u_4 u_5 u_6 u_3 u_8 u_9 u_7 u_15 u_16 u_10 u_17 u_18 u_11 u_12 u_19 u_20 u_13 u_21 u_22 u_14 u_23 u_1 u_2 (bakW f_h0_kept a.toInt W0 W1 w)) ∧ (RXu gd_deed gd_whose gd_before gd_bucketsBefore gd_dayBefore u_25 gd_latest (bakW f_h0_kept a.toInt W0 W1 w) (bakU f_h0_kept a.toInt U)) ∧ (u_0.toInt = tlS (bakR f_h0_kept a.toInt)) ∧ (RF u_26 (tlR rf (bakR f_h0_kept a.toInt))) ∧ ((bakR f_h0_kept a.toInt < 0 → ((∀ k, k < 6 → u_24 k = f_h0_site_world_laws k) ∧ u_1 = h0_site_world_lawCount ∧ u_2 = h0_site_world_force)) ∧ (¬ bakR f_h0_kept a.toInt < 0 → (a.toInt = 0 → ((∀ k, k < 6 → u_24 k = f_w0_laws k) ∧ u_1 = w0_lawCount ∧ u_2 = w0_force)) ∧ (¬ a.toInt = 0 → ((∀ k, k < 6 → u_24 k = f_w1_laws k) ∧ u_1 = w1_lawCount ∧ u_2 = w1_force)))) → Q r (u_0, u_1, u_2, u_3, u_4, u_5, u_6, u_7, u_8, u_9, u_10, u_11, u_12, u_13, u_14, u_15, u_16, u_17, u_18, u_19, u_20, u_21, u_22, u_23, u_24, u_25, u_26)) : wp_X11_back a f_h0_kept h0_site_world_lawCount h0_site_world_force w0_lawCount w0_force h0_site_world_rock_dug w0_rock_dug f_w0_rock_kind f_h0_site_world_rock_kind f_w0_rock_hard f_h0_site_world_rock_hard f_w0_rock_water f_h0_site_world_rock_water h0_site_world_crew_count w0_crew_count f_w0_crew_cell f_h0_site_world_crew_cell f_w0_crew_buckets f_h0_site_world_crew_buckets h0_site_world_folk_listeners h0_site_world_folk_noises h0_site_world_folk_hushed h0_site_world_folk_hearsay h0_site_world_folk_wells w0_folk_listeners w0_folk_noises w0_folk_hushed w0_folk_hearsay w0_folk_wells f_w0_folk_column f_h0_site_world_folk_column f_w0_folk_ear f_h0_site_world_folk_ear f_w0_folk_noiseColumn f_h0_site_world_folk_noiseColumn f_w0_folk_noiseLoud f_h0_site_world_folk_noiseLoud f_w0_folk_hearsayColumn f_h0_site_world_folk_hearsayColumn f_w0_folk_hearsayLoud f_h0_site_world_folk_hearsayLoud f_w0_folk_sounds f_h0_site_world_folk_sounds f_w0_folk_wet f_h0_site_world_folk_wet f_h0_site_world_term f_w0_term f_w0_laws f_h0_site_world_laws h0_site_diary_kept f_h0_refusals w1_lawCount w1_force w1_rock_dug f_w1_rock_kind f_w1_rock_hard f_w1_rock_water w1_crew_count f_w1_crew_cell f_w1_crew_buckets w1_folk_listeners w1_folk_noises w1_folk_hushed w1_folk_hearsay w1_folk_wells f_w1_folk_column f_w1_folk_ear f_w1_folk_noiseColumn f_w1_folk_noiseLoud f_w1_folk_hearsayColumn f_w1_folk_hearsayLoud f_w1_folk_sounds f_w1_folk_wet f_w1_term f_w1_laws TT Q := by
  unfold wp_X11_back
  refine o_X11_isWithin _ _ _ ?_
  by_cases c1 : a < 0
  · refine br1 c1 ?_
    have d2 := lt_z (x := (Int32.toInt a)) (y := 0) rfl rfl c1
    refine br1 (by decide) ?_
    have k3 : Int32.toInt (-1) = (-1) := (by decide)
    refine s_X11_settlez (-1) (f_h0_refusals) (by decide) e_6 (fun r4 u5_0 u5_1 H6 => ?_)
    have j7 := H6.1
    have j8 := H6.2.1
    have j9 := H6.2.2
    refine un2_i ?_
    have hi10 : bakR f_h0_kept a.toInt = (Int32.toInt r4) := by first | exact (bakR_n (by omega)).trans (by omega) | exact (bakR_0 (by omega) (by omega) (by assumption)).trans (by omega) | exact (bakR_1 (by omega) (by omega) (by assumption)).trans (by omega)
    exact hq _ _ _ _ _ _ _ _ _ _ _ _ _ _ _ _ _ _ _ _ _ _ _ _ _ _ _ _ ⟨(by first | with_reducible assumption | exact ⟨by omega, by omega⟩), (by first | with_reducible assumption | exact ⟨by omega, by omega⟩), h_f_h0_site_world_rock_kind, h_f_h0_site_world_rock_hard, h_f_h0_site_world_rock_water, (by first | with_reducible assumption | exact ⟨by omega, by omega⟩), h_f_h0_site_world_crew_cell, h_f_h0_site_world_crew_buckets, (by first | with_reducible assumption | exact ⟨by omega, by omega⟩), (by first | with_reducible assumption | exact ⟨by omega, by omega⟩), (by first | with_reducible assumption | exact ⟨by omega, by omega⟩), (by first | with_reducible assumption | exact ⟨by omega, by omega⟩), h_f_h0_site_world_folk_column, h_f_h0_site_world_folk_ear, h_f_h0_site_world_folk_noiseColumn, h_f_h0_site_world_folk_noiseLoud, h_f_h0_site_world_folk_hearsayColumn, h_f_h0_site_world_folk_hearsayLoud, h_f_h0_site_world_term, (by first | with_reducible assumption | exact ⟨by omega, by omega⟩), (Or.inl ⟨fun k hk => rfl, rfl, rfl⟩), (hi10.symm), (by unfold bakW; rw [if_pos (by rw [hi10]; omega)]; exact e_2), (by unfold bakU bakW; rw [if_pos (by rw [hi10]; omega), if_pos (by rw [hi10]; omega)]; exact e_3), (by rw [hi10]; exact j8), (by rw [hi10]; exact j9), ⟨fun _ => ⟨fun k hk => rfl, rfl, rfl⟩, fun h => absurd (by rw [hi10]; omega) h⟩⟩
  · refine br0 c1 ?_
    have d11 := nlt_z (x := (Int32.toInt a)) (y := 0) rfl rfl c1
    by_cases c12 : 2 ≤ a
    · refine br1 c12 ?_
      have d13 := le_z (x := 2) (y := (Int32.toInt a)) rfl rfl c12
      refine br1 (by decide) ?_
      have k14 : Int32.toInt (-1) = (-1) := (by decide)
      refine s_X11_settlez (-1) (f_h0_refusals) (by decide) e_6 (fun r15 u16_0 u16_1 H17 => ?_)
      have j18 := H17.1
      have j19 := H17.2.1
      have j20 := H17.2.2
      refine un2_i ?_
      have hi21 : bakR f_h0_kept a.toInt = (Int32.toInt r15) := by first | exact (bakR_n (by omega)).trans (by omega) | exact (bakR_0 (by omega) (by omega) (by assumption)).trans (by omega) | exact (bakR_1 (by omega) (by omega) (by assumption)).trans (by omega)
      exact hq _ _ _ _ _ _ _ _ _ _ _ _ _ _ _ _ _ _ _ _ _ _ _ _ _ _ _ _ ⟨(by first | with_reducible assumption | exact ⟨by omega, by omega⟩), (by first | with_reducible assumption | exact ⟨by omega, by omega⟩), h_f_h0_site_world_rock_kind, h_f_h0_site_world_rock_hard, h_f_h0_site_world_rock_water, (by first | with_reducible assumption | exact ⟨by omega, by omega⟩), h_f_h0_site_world_crew_cell, h_f_h0_site_world_crew_buckets, (by first | with_reducible assumption | exact ⟨by omega, by omega⟩), (by first | with_reducible assumption | exact ⟨by omega, by omega⟩), (by first | with_reducible assumption | exact ⟨by omega, by omega⟩), (by first | with_reducible assumption | exact ⟨by omega, by omega⟩), h_f_h0_site_world_folk_column, h_f_h0_site_world_folk_ear, h_f_h0_site_world_folk_noiseColumn, h_f_h0_site_world_folk_noiseLoud, h_f_h0_site_world_folk_hearsayColumn, h_f_h0_site_world_folk_hearsayLoud, h_f_h0_site_world_term, (by first | with_reducible assumption | exact ⟨by omega, by omega⟩), (Or.inl ⟨fun k hk => rfl, rfl, rfl⟩), (hi21.symm), (by unfold bakW; rw [if_pos (by rw [hi21]; omega)]; exact e_2), (by unfold bakU bakW; rw [if_pos (by rw [hi21]; omega), if_pos (by rw [hi21]; omega)]; exact e_3), (by rw [hi21]; exact j19), (by rw [hi21]; exact j20), ⟨fun _ => ⟨fun k hk => rfl, rfl, rfl⟩, fun h => absurd (by rw [hi21]; omega) h⟩⟩
    · refine br0 c12 ?_
      have d22 := nle_z (x := 2) (y := (Int32.toInt a)) rfl rfl c12
      refine br0 (by decide) ?_
      refine ⟨vpi (x := (Int32.toInt a)) rfl (by omega) (by omega), ?_⟩
      by_cases c23 : (f_h0_kept a.toNatClampNeg) = 0
      · refine br1 c23 ?_
        have d24 := eq_z (x := (Int32.toInt (f_h0_kept a.toNatClampNeg))) (y := 0) rfl rfl c23
        have k25 : Int32.toInt (-2) = (-2) := (by decide)
        refine s_X11_settlez (-2) (f_h0_refusals) (by decide) e_6 (fun r26 u27_0 u27_1 H28 => ?_)
        have j29 := H28.1
        have j30 := H28.2.1
        have j31 := H28.2.2
        refine un2_i ?_
        have hi32 : bakR f_h0_kept a.toInt = (Int32.toInt r26) := by first | exact (bakR_n (by omega)).trans (by omega) | exact (bakR_0 (by omega) (by omega) (by assumption)).trans (by omega) | exact (bakR_1 (by omega) (by omega) (by assumption)).trans (by omega)
        exact hq _ _ _ _ _ _ _ _ _ _ _ _ _ _ _ _ _ _ _ _ _ _ _ _ _ _ _ _ ⟨(by first | with_reducible assumption | exact ⟨by omega, by omega⟩), (by first | with_reducible assumption | exact ⟨by omega, by omega⟩), h_f_h0_site_world_rock_kind, h_f_h0_site_world_rock_hard, h_f_h0_site_world_rock_water, (by first | with_reducible assumption | exact ⟨by omega, by omega⟩), h_f_h0_site_world_crew_cell, h_f_h0_site_world_crew_buckets, (by first | with_reducible assumption | exact ⟨by omega, by omega⟩), (by first | with_reducible assumption | exact ⟨by omega, by omega⟩), (by first | with_reducible assumption | exact ⟨by omega, by omega⟩), (by first | with_reducible assumption | exact ⟨by omega, by omega⟩), h_f_h0_site_world_folk_column, h_f_h0_site_world_folk_ear, h_f_h0_site_world_folk_noiseColumn, h_f_h0_site_world_folk_noiseLoud, h_f_h0_site_world_folk_hearsayColumn, h_f_h0_site_world_folk_hearsayLoud, h_f_h0_site_world_term, (by first | with_reducible assumption | exact ⟨by omega, by omega⟩), (Or.inl ⟨fun k hk => rfl, rfl, rfl⟩), (hi32.symm), (by unfold bakW; rw [if_pos (by rw [hi32]; omega)]; exact e_2), (by unfold bakU bakW; rw [if_pos (by rw [hi32]; omega), if_pos (by rw [hi32]; omega)]; exact e_3), (by rw [hi32]; exact j30), (by rw [hi32]; exact j31), ⟨fun _ => ⟨fun k hk => rfl, rfl, rfl⟩, fun h => absurd (by rw [hi32]; omega) h⟩⟩
      · refine br0 c23 ?_
        have d33 := ne_z (x := (Int32.toInt (f_h0_kept a.toNatClampNeg))) (y := 0) rfl rfl c23
        refine ⟨vpi (x := (Int32.toInt a)) rfl (by omega) (by omega), ?_⟩
        by_cases c34 : a = 0
        · refine br1 c34 ?_
          have d35 := eq_z (x := (Int32.toInt a)) (y := 0) rfl rfl c34
          have rk36 := e_4 (kp_at (a := a) (k := 0) (by omega) (by assumption))
          refine s_X10_copyFromz w0_lawCount w0_force w0_rock_dug (f_w0_rock_kind) (f_h0_site_world_rock_kind) (f_w0_rock_hard) (f_h0_site_world_rock_hard) (f_w0_rock_water) (f_h0_site_world_rock_water) w0_crew_count (f_w0_crew_cell) (f_h0_site_world_crew_cell) (f_w0_crew_buckets) (f_h0_site_world_crew_buckets) w0_folk_listeners w0_folk_noises w0_folk_hushed w0_folk_hearsay w0_folk_wells (f_w0_folk_column) (f_h0_site_world_folk_column) (f_w0_folk_ear) (f_h0_site_world_folk_ear) (f_w0_folk_noiseColumn) (f_h0_site_world_folk_noiseColumn) (f_w0_folk_noiseLoud) (f_h0_site_world_folk_noiseLoud) (f_w0_folk_hearsayColumn) (f_h0_site_world_folk_hearsayColumn) (f_w0_folk_hearsayLoud) (f_h0_site_world_folk_hearsayLoud) (f_w0_folk_sounds) (f_h0_site_world_folk_sounds) (f_w0_folk_wet) (f_h0_site_world_folk_wet) (f_h0_site_world_term) (f_w0_term) (f_w0_laws) (f_h0_site_world_laws) TT (by first | with_reducible assumption | exact ⟨by omega, by omega⟩) (by first | with_reducible assumption | exact ⟨by omega, by omega⟩) h_f_w0_rock_kind h_f_h0_site_world_rock_kind h_f_w0_rock_hard h_f_h0_site_world_rock_hard h_f_w0_rock_water h_f_h0_site_world_rock_water (by first | with_reducible assumption | exact ⟨by omega, by omega⟩) h_f_w0_crew_cell h_f_h0_site_world_crew_cell h_f_w0_crew_buckets h_f_h0_site_world_crew_buckets (by first | with_reducible assumption | exact ⟨by omega, by omega⟩) (by first | with_reducible assumption | exact ⟨by omega, by omega⟩) (by first | with_reducible assumption | exact ⟨by omega, by omega⟩) (by first | with_reducible assumption | exact ⟨by omega, by omega⟩) h_f_w0_folk_column h_f_h0_site_world_folk_column h_f_w0_folk_ear h_f_h0_site_world_folk_ear h_f_w0_folk_noiseColumn h_f_h0_site_world_folk_noiseColumn h_f_w0_folk_noiseLoud h_f_h0_site_world_folk_noiseLoud h_f_w0_folk_hearsayColumn h_f_h0_site_world_folk_hearsayColumn h_f_w0_folk_hearsayLoud h_f_h0_site_world_folk_hearsayLoud h_f_h0_site_world_term h_f_w0_term e_0 rk36 (fun u37_0 u37_1 u37_2 u37_3 u37_4 u37_5 u37_6 u37_7 u37_8 u37_9 u37_10 u37_11 u37_12 u37_13 u37_14 u37_15 u37_16 u37_17 u37_18 u37_19 u37_20 u37_21 u37_22 u37_23 H38 => ?_)
          have j39 := H38.1
          have j40 := H38.2.1
          have j41 := H38.2.2.1
          have j42 := H38.2.2.2.1
          have j43 := H38.2.2.2.2.1
          have j44 := H38.2.2.2.2.2.1
          have j45 := H38.2.2.2.2.2.2.1
          have j46 := H38.2.2.2.2.2.2.2.1
          have j47 := H38.2.2.2.2.2.2.2.2.1
          have j48 := H38.2.2.2.2.2.2.2.2.2.1
          have j49 := H38.2.2.2.2.2.2.2.2.2.2.1
          have j50 := H38.2.2.2.2.2.2.2.2.2.2.2.1
          have j51 := H38.2.2.2.2.2.2.2.2.2.2.2.2.1
          have j52 := H38.2.2.2.2.2.2.2.2.2.2.2.2.2.1
          have j53 := H38.2.2.2.2.2.2.2.2.2.2.2.2.2.2.1
          have j54 := H38.2.2.2.2.2.2.2.2.2.2.2.2.2.2.2.1
          have j55 := H38.2.2.2.2.2.2.2.2.2.2.2.2.2.2.2.2.1
          have j56 := H38.2.2.2.2.2.2.2.2.2.2.2.2.2.2.2.2.2.1
          have j57 := H38.2.2.2.2.2.2.2.2.2.2.2.2.2.2.2.2.2.2.1
          have j58 := H38.2.2.2.2.2.2.2.2.2.2.2.2.2.2.2.2.2.2.2.1
          have j59 := H38.2.2.2.2.2.2.2.2.2.2.2.2.2.2.2.2.2.2.2.2.1
          have j60 := H38.2.2.2.2.2.2.2.2.2.2.2.2.2.2.2.2.2.2.2.2.2.1
          have j61 := H38.2.2.2.2.2.2.2.2.2.2.2.2.2.2.2.2.2.2.2.2.2.2
          refine un24_i ?_
          refine o_X2_clear _ ?_
          have k62 : Int32.toInt 0 = 0 := rfl
          refine s_X11_settlez 0 (f_h0_refusals) (by decide) e_6 (fun r63 u64_0 u64_1 H65 => ?_)
          have j66 := H65.1
          have j67 := H65.2.1
          have j68 := H65.2.2
          refine un2_i ?_
          have hi69 : bakR f_h0_kept a.toInt = (Int32.toInt r63) := by first | exact (bakR_n (by omega)).trans (by omega) | exact (bakR_0 (by omega) (by omega) (by assumption)).trans (by omega) | exact (bakR_1 (by omega) (by omega) (by assumption)).trans (by omega)
          exact hq _ _ _ _ _ _ _ _ _ _ _ _ _ _ _ _ _ _ _ _ _ _ _ _ _ _ _ _ ⟨(by first | with_reducible assumption | exact ⟨by omega, by omega⟩), (by first | with_reducible assumption | exact ⟨by omega, by omega⟩), j41, j42, j43, (by first | with_reducible assumption | exact ⟨by omega, by omega⟩), j45, j46, (by first | with_reducible assumption | exact ⟨by omega, by omega⟩), (by first | with_reducible assumption | exact ⟨by omega, by omega⟩), (by first | with_reducible assumption | exact ⟨by omega, by omega⟩), (by first | with_reducible assumption | exact ⟨by omega, by omega⟩), j51, j52, j53, j54, j55, j56, j57, (by decide), (Or.inr (Or.inl ⟨j58, j59, j60⟩)), (hi69.symm), (by unfold bakW; rw [if_neg (by rw [hi69]; omega)]; first | (rw [if_pos (by omega)]; exact j61) | (rw [if_neg (by omega)]; exact j61)), (by unfold bakU; rw [if_neg (by rw [hi69]; omega)]; exact RXu.nil e_3 (by omega)), (by rw [hi69]; exact j67), (by rw [hi69]; exact j68), ⟨fun h => absurd h (by rw [hi69]; omega), fun _ => ⟨fun _ => ⟨j58, j59, j60⟩, fun h => absurd (by omega) h⟩⟩⟩
        · refine br0 c34 ?_
          have d70 := ne_z (x := (Int32.toInt a)) (y := 0) rfl rfl c34
          have rk71 := e_5 (kp_at (a := a) (k := 1) (by omega) (by assumption))
          refine s_X10_copyFromz w1_lawCount w1_force w1_rock_dug (f_w1_rock_kind) (f_h0_site_world_rock_kind) (f_w1_rock_hard) (f_h0_site_world_rock_hard) (f_w1_rock_water) (f_h0_site_world_rock_water) w1_crew_count (f_w1_crew_cell) (f_h0_site_world_crew_cell) (f_w1_crew_buckets) (f_h0_site_world_crew_buckets) w1_folk_listeners w1_folk_noises w1_folk_hushed w1_folk_hearsay w1_folk_wells (f_w1_folk_column) (f_h0_site_world_folk_column) (f_w1_folk_ear) (f_h0_site_world_folk_ear) (f_w1_folk_noiseColumn) (f_h0_site_world_folk_noiseColumn) (f_w1_folk_noiseLoud) (f_h0_site_world_folk_noiseLoud) (f_w1_folk_hearsayColumn) (f_h0_site_world_folk_hearsayColumn) (f_w1_folk_hearsayLoud) (f_h0_site_world_folk_hearsayLoud) (f_w1_folk_sounds) (f_h0_site_world_folk_sounds) (f_w1_folk_wet) (f_h0_site_world_folk_wet) (f_h0_site_world_term) (f_w1_term) (f_w1_laws) (f_h0_site_world_laws) TT (by first | with_reducible assumption | exact ⟨by omega, by omega⟩) (by first | with_reducible assumption | exact ⟨by omega, by omega⟩) h_f_w1_rock_kind h_f_h0_site_world_rock_kind h_f_w1_rock_hard h_f_h0_site_world_rock_hard h_f_w1_rock_water h_f_h0_site_world_rock_water (by first | with_reducible assumption | exact ⟨by omega, by omega⟩) h_f_w1_crew_cell h_f_h0_site_world_crew_cell h_f_w1_crew_buckets h_f_h0_site_world_crew_buckets (by first | with_reducible assumption | exact ⟨by omega, by omega⟩) (by first | with_reducible assumption | exact ⟨by omega, by omega⟩) (by first | with_reducible assumption | exact ⟨by omega, by omega⟩) (by first | with_reducible assumption | exact ⟨by omega, by omega⟩) h_f_w1_folk_column h_f_h0_site_world_folk_column h_f_w1_folk_ear h_f_h0_site_world_folk_ear h_f_w1_folk_noiseColumn h_f_h0_site_world_folk_noiseColumn h_f_w1_folk_noiseLoud h_f_h0_site_world_folk_noiseLoud h_f_w1_folk_hearsayColumn h_f_h0_site_world_folk_hearsayColumn h_f_w1_folk_hearsayLoud h_f_h0_site_world_folk_hearsayLoud h_f_h0_site_world_term h_f_w1_term e_1 rk71 (fun u72_0 u72_1 u72_2 u72_3 u72_4 u72_5 u72_6 u72_7 u72_8 u72_9 u72_10 u72_11 u72_12 u72_13 u72_14 u72_15 u72_16 u72_17 u72_18 u72_19 u72_20 u72_21 u72_22 u72_23 H73 => ?_)
          have j74 := H73.1
          have j75 := H73.2.1
          have j76 := H73.2.2.1
          have j77 := H73.2.2.2.1
          have j78 := H73.2.2.2.2.1
          have j79 := H73.2.2.2.2.2.1
          have j80 := H73.2.2.2.2.2.2.1
          have j81 := H73.2.2.2.2.2.2.2.1
          have j82 := H73.2.2.2.2.2.2.2.2.1
          have j83 := H73.2.2.2.2.2.2.2.2.2.1
          have j84 := H73.2.2.2.2.2.2.2.2.2.2.1
          have j85 := H73.2.2.2.2.2.2.2.2.2.2.2.1
          have j86 := H73.2.2.2.2.2.2.2.2.2.2.2.2.1
          have j87 := H73.2.2.2.2.2.2.2.2.2.2.2.2.2.1
          have j88 := H73.2.2.2.2.2.2.2.2.2.2.2.2.2.2.1
          have j89 := H73.2.2.2.2.2.2.2.2.2.2.2.2.2.2.2.1
          have j90 := H73.2.2.2.2.2.2.2.2.2.2.2.2.2.2.2.2.1
          have j91 := H73.2.2.2.2.2.2.2.2.2.2.2.2.2.2.2.2.2.1
          have j92 := H73.2.2.2.2.2.2.2.2.2.2.2.2.2.2.2.2.2.2.1
          have j93 := H73.2.2.2.2.2.2.2.2.2.2.2.2.2.2.2.2.2.2.2.1
          have j94 := H73.2.2.2.2.2.2.2.2.2.2.2.2.2.2.2.2.2.2.2.2.1
          have j95 := H73.2.2.2.2.2.2.2.2.2.2.2.2.2.2.2.2.2.2.2.2.2.1
          have j96 := H73.2.2.2.2.2.2.2.2.2.2.2.2.2.2.2.2.2.2.2.2.2.2
          refine un24_i ?_
          refine o_X2_clear _ ?_
          have k97 : Int32.toInt 0 = 0 := rfl
          refine s_X11_settlez 0 (f_h0_refusals) (by decide) e_6 (fun r98 u99_0 u99_1 H100 => ?_)
          have j101 := H100.1
          have j102 := H100.2.1
          have j103 := H100.2.2
          refine un2_i ?_
          have hi104 : bakR f_h0_kept a.toInt = (Int32.toInt r98) := by first | exact (bakR_n (by omega)).trans (by omega) | exact (bakR_0 (by omega) (by omega) (by assumption)).trans (by omega) | exact (bakR_1 (by omega) (by omega) (by assumption)).trans (by omega)
          exact hq _ _ _ _ _ _ _ _ _ _ _ _ _ _ _ _ _ _ _ _ _ _ _ _ _ _ _ _ ⟨(by first | with_reducible assumption | exact ⟨by omega, by omega⟩), (by first | with_reducible assumption | exact ⟨by omega, by omega⟩), j76, j77, j78, (by first | with_reducible assumption | exact ⟨by omega, by omega⟩), j80, j81, (by first | with_reducible assumption | exact ⟨by omega, by omega⟩), (by first | with_reducible assumption | exact ⟨by omega, by omega⟩), (by first | with_reducible assumption | exact ⟨by omega, by omega⟩), (by first | with_reducible assumption | exact ⟨by omega, by omega⟩), j86, j87, j88, j89, j90, j91, j92, (by decide), (Or.inr (Or.inr ⟨j93, j94, j95⟩)), (hi104.symm), (by unfold bakW; rw [if_neg (by rw [hi104]; omega)]; first | (rw [if_pos (by omega)]; exact j96) | (rw [if_neg (by omega)]; exact j96)), (by unfold bakU; rw [if_neg (by rw [hi104]; omega)]; exact RXu.nil e_3 (by omega)), (by rw [hi104]; exact j102), (by rw [hi104]; exact j103), ⟨fun h => absurd h (by rw [hi104]; omega), fun _ => ⟨fun h => absurd h (by omega), fun _ => ⟨j93, j94, j95⟩⟩⟩⟩
end
section
/-! feed of both sides, images of the reference: exactly -/
theorem by4_r (v : Int32) (k : Nat) : 0 ≤ (by4 v k).toInt ∧ (by4 v k).toInt ≤ 255 := and_z (by decide)
theorem BY.f4 {v : Int32} {n i : Nat} {f : Nat → Int32} (h : BY f) : BY (f4I v n i f) := by
  intro j q hq k1 k2
  unfold f4I
  by_cases c : n ≤ j ∧ j < n + i
  · rw [if_pos c]
    have r := by4_r v (j - n)
    simp only [BYT, List.mem_cons, List.not_mem_nil, or_false] at hq
    rcases hq with rfl
    exact r
  · rw [if_neg c]; exact h j q hq k1 k2
theorem TP.f4 {v : Int32} {n i : Nat} {f : Nat → Int32} (h : TP f) : TP (f4I v n i f) := by
  intro j q hq k1 k2
  unfold f4I
  by_cases c : n ≤ j ∧ j < n + i
  · rw [if_pos c]
    have r := by4_r v (j - n)
    simp only [TPT, List.mem_cons, List.not_mem_nil, or_false] at hq
    rcases hq with rfl
    exact r
  · rw [if_neg c]; exact h j q hq k1 k2
def fdI (a b d g k : Int32) (n : Nat) (f : Nat → Int32) : Nat → Int32 := f4I k (n + 4 + 4 + 4 + 4) 4 (f4I g (n + 4 + 4 + 4) 4 (f4I d (n + 4 + 4) 4 (f4I b (n + 4) 4 (f4I a n 4 f))))
def fdT (a b d g k x : Int32) (f : Nat → Int32) : Nat → Int32 := if x.toInt + 20 ≤ 400 then fdI a b d g k x.toInt.toNat f else f
theorem BY.fd {a b d g k x : Int32} {f : Nat → Int32} (h : BY f) : BY (fdT a b d g k x f) := by
  unfold fdT fdI
  split
  · exact h.f4.f4.f4.f4.f4
  · exact h
theorem TP.fd {a b d g k x : Int32} {f : Nat → Int32} (h : TP f) : TP (fdT a b d g k x f) := by
  unfold fdT fdI
  split
  · exact h.f4.f4.f4.f4.f4
  · exact h
theorem fdT_p {a b d g k x : Int32} {f : Nat → Int32} {n : Nat} (hn : x.toInt = (n : Int)) (h : x.toInt + 20 ≤ 400) : fdT a b d g k x f = fdI a b d g k n f := by
  unfold fdT
  rw [if_pos h, hn, Int.toNat_natCast]
theorem fdT_n {a b d g k x : Int32} {f : Nat → Int32} (h : ¬ x.toInt + 20 ≤ 400) : fdT a b d g k x f = f := if_neg h
theorem x_feedx {a b d g k x : Int32} {f : Nat → Int32} (hx : 0 ≤ x.toInt ∧ x.toInt ≤ 400) {Q : Int32 → (Int32 × (Nat → Int32)) → Prop} (hq : Q (fdR x) (fdL x, fdT a b d g k x f)) : wp_X11_feed a b d g k x f Q := by
  unfold wp_X11_feed
  have t2 : (x + 20).toInt = x.toInt + 20 := add_z rfl rfl (by omega) (by omega)
  by_cases c : (x + 20) ≤ 400
  · have c₉ := le_z t2 (y := 400) rfl c
    obtain ⟨n, hn⟩ : ∃ n : Nat, x.toInt = (n : Int) := ⟨x.toInt.toNat, by omega⟩
    refine br1 c (x_addFour hn (by omega) (fun t1 h1 => un2_i (x_addFour h1 (by omega) (fun t2 h2 => un2_i (x_addFour h2 (by omega) (fun t3 h3 => un2_i (x_addFour h3 (by omega) (fun t4 h4 => un2_i (x_addFour h4 (by omega) (fun t5 h5 => un2_i ?_))))))))))
    have e := fd_p (x := x) (r := t5) (u := t5) (by omega) (by omega) (by omega) rfl
    rw [fdT_p hn (by omega), ← e.1, ← e.2] at hq
    exact hq
  · have c₉ := nle_z t2 (y := 400) rfl c
    have e := fd_n (x := x) (by omega)
    rw [fdT_n (by omega), ← e.1, ← e.2] at hq
    exact br0 c hq
theorem x_feedm {a b d g k x : Int32} {f : Nat → Int32} (hx : 0 ≤ x.toInt ∧ x.toInt ≤ 400) {Q : Int32 → (Int32 × Int32 × (Nat → Int32)) → Prop} (hq : Q (fdR x) (0, fdL x, fdT a b d g k x f)) : wp_X12_feed a b d g k x f Q := by
  unfold wp_X12_feed
  have t2 : (x + 20).toInt = x.toInt + 20 := add_z rfl rfl (by omega) (by omega)
  by_cases c : (x + 20) ≤ 400
  · have c₉ := le_z t2 (y := 400) rfl c
    obtain ⟨n, hn⟩ : ∃ n : Nat, x.toInt = (n : Int) := ⟨x.toInt.toNat, by omega⟩
    refine br1 c (x_four hn (by omega) (fun t1 h1 => un2_i (x_four h1 (by omega) (fun t2 h2 => un2_i (x_four h2 (by omega) (fun t3 h3 => un2_i (x_four h3 (by omega) (fun t4 h4 => un2_i (x_four h4 (by omega) (fun t5 h5 => un2_i ?_))))))))))
    have e := fd_p (x := x) (r := t5) (u := t5) (by omega) (by omega) (by omega) rfl
    rw [fdT_p hn (by omega), ← e.1, ← e.2] at hq
    exact hq
  · have c₉ := nle_z t2 (y := 400) rfl c
    have e := fd_n (x := x) (by omega)
    rw [fdT_n (by omega), ← e.1, ← e.2] at hq
    exact br0 c hq
/-! images of the reference -/
theorem RML.cong {f g : Nat → Int32} {ls : Nat → List Cls} (hR : RLW f) (h : RML f ls) (e : ∀ j, j < 5650 → g j = f j) : RML g ls := by
  have h5 := hR.at_5 (n := 5) (z := 5) rfl (by decide) (by decide)
  refine ⟨by rw [e 6 (by decide), e 5 (by decide)]; exact h.1, fun k hk => ?_⟩
  rw [e 5 (by decide)] at hk
  exact ⟨(h.2 k hk).1.ext (fun j h2 h3 => e j (by omega)), (h.2 k hk).2⟩
theorem RMw.cong {f g : Nat → Int32} {w : Nat → Int} (h : RMw f w) (e : ∀ j, j < 5650 → g j = f j) : RMw g w := fun j hj => by rw [e j (by omega)]; exact h j hj
/-- what is kept of the reference, as plain numbers -/
def IMz (kp im : Nat → Int32) (WI : Nat → Nat → Int) (LI : Nat → Nat → List Cls) : Prop := ∀ k : Nat, k < 2 → ¬ kp k = 0 → RMw (fun j => im (5650 * k + j)) (WI k) ∧ RML (fun j => im (5650 * k + j)) (LI k)
def imgL (a k : Int) (ls L : Nat → List Cls) : Nat → List Cls := if a = k then ls else L
theorem imgL_y {a k : Int} {w W : Nat → List Cls} (h : a = k) : imgL a k w W = w := if_pos h
theorem imgL_n {a k : Int} {w W : Nat → List Cls} (h : ¬ a = k) : imgL a k w W = W := if_neg h
def bakL (kp : Nat → Int32) (a : Int) (L0 L1 ls : Nat → List Cls) : Nat → List Cls := if bakR kp a < 0 then ls else if a = 0 then L0 else L1
theorem x_mimage {a : Int32} {row im kept rfs rf : Nat → Int32} {w : Nat → Int} {ls : Nat → List Cls} {WI : Nat → Nat → Int} {LI : Nat → Nat → List Cls} (hR : RLW row) (hI : IM kept im) (hW : RMw row w) (hL : RML row ls) (hZ : IMz kept im WI LI) (hf : RF rfs rf) {Q : Int32 → (Int32 × Int32 × (Nat → Int32) × (Nat → Int32) × (Nat → Int32)) → Prop} (hq : ∀ (r st : Int32) (im₉ rfs₉ : Nat → Int32), r = imR a → r.toInt = imgR a.toInt → st.toInt = tlS (imgR a.toInt) → RF rfs₉ (tlR rf (imgR a.toInt)) → IM (kpI a kept) im₉ → IMz (kpI a kept) im₉ (fun k => imgW a.toInt (k : Int) w (WI k)) (fun k => imgL a.toInt (k : Int) ls (LI k)) → Q r (0, st, im₉, kpI a kept, rfs₉)) : wp_X12_image a row im kept rfs Q := by
  unfold wp_X12_image
  have ea : a.toInt64.toInt = a.toInt := i2l_z rfl
  have z0 : (0 : Int64).toInt = 0 := rfl
  have z1 : (1 : Int64).toInt = 1 := rfl
  refine e_in (fun g1 g2 => br0 (by decide) ?_) (fun g => br1 rfl ?_)
  · obtain ⟨k, hk⟩ : ∃ k : Nat, a.toInt = (k : Int) := ⟨a.toInt.toNat, by omega⟩
    have e0 : imgR a.toInt = 0 := imgR_y (by omega) (by omega)
    have eR : imR a = 0 := by unfold imR; rw [if_pos (by omega)]
    have ek : upd kept a.toNatClampNeg 1 = kpI a kept := kp_p (by omega) (by omega)
    refine sl_im23 hk (by omega) (fun x im₉ h1 h2 => ?_) _ 0 0 im rfl (by omega) (by omega) (fun j hj => by omega) (fun j _ => rfl)
    refine ⟨vpi hk (by omega) (by omega), s_X12_tellz 0 rfs (by decide) hf (fun r s f H => un2_i ?_)⟩
    have hr : r.toInt = 0 := H.1
    have hr₉ : r = imR a := by rw [eR]; exact Int32.toInt_inj.mp hr
    have hs := H.2.1
    have hF := H.2.2
    rw [hr] at hs hF
    rw [ek]
    have kq : ∀ k2 : Nat, ¬ k2 = k → kpI a kept k2 = kept k2 := fun k2 h => by rw [← ek, tnN hk]; exact pk_un h
    refine hq r s im₉ f hr₉ (by rw [hr, e0]) (by rw [e0]; exact hs) (by rw [e0]; exact hF) (fun k2 h k3 => ?_) (fun k2 h k3 => ?_)
    · by_cases e : k2 = k
      · subst e
        exact RW.cong hR (fun j hj => h1 j hj)
      · rw [kq k2 e] at k3
        exact RW.cong (hI k2 h k3) (fun j hj => h2 _ (by omega))
    · show RMw _ (imgW a.toInt (k2 : Int) w (WI k2)) ∧ RML _ (imgL a.toInt (k2 : Int) ls (LI k2))
      by_cases e : k2 = k
      · subst e
        rw [imgW_y hk, imgL_y hk]
        exact ⟨hW.cong (fun j hj => h1 j hj), hL.cong hR (fun j hj => h1 j hj)⟩
      · rw [kq k2 e] at k3
        rw [imgW_n (by omega), imgL_n (by omega)]
        exact ⟨(hZ k2 h k3).1.cong (fun j hj => h2 _ (by omega)), (hZ k2 h k3).2.cong (hI k2 h k3) (fun j hj => h2 _ (by omega))⟩
  · have e0 : imgR a.toInt = -1 := imgR_n (by omega)
    have eR : imR a = -1 := by unfold imR; rw [if_neg (by omega)]
    have ek : kept = kpI a kept := kp_n (by omega)
    refine s_X12_tellz (-1) rfs (by decide) hf (fun r s f H => un2_i ?_)
    have hr : r.toInt = -1 := H.1
    have hr₉ : r = imR a := by rw [eR]; exact Int32.toInt_inj.mp hr
    have hs := H.2.1
    have hF := H.2.2
    rw [hr] at hs hF
    have Z : IMz (kpI a kept) im (fun k => imgW a.toInt (k : Int) w (WI k)) (fun k => imgL a.toInt (k : Int) ls (LI k)) := by
      rw [← ek]
      intro k2 h k3
      show RMw _ (imgW a.toInt (k2 : Int) w (WI k2)) ∧ RML _ (imgL a.toInt (k2 : Int) ls (LI k2))
      rw [imgW_n (by omega), imgL_n (by omega)]
      exact hZ k2 h k3
    have I2 : IM (kpI a kept) im := by rw [← ek]; exact hI
    have q := hq r s im f hr₉ (by rw [hr, e0]) (by rw [e0]; exact hs) (by rw [e0]; exact hF) I2 Z
    rw [← ek] at q
    exact q
theorem x_settled {a nU : Int32} {f rf : Nat → Int32} (h : -6 ≤ a.toInt ∧ a.toInt < 0 ∨ a.toInt = 0) (hf : RF f rf) {Q : Int32 → (Int32 × Int32 × (Nat → Int32)) → Prop} (hq : ∀ (s n : Int32) (f₉ : Nat → Int32), s.toInt = tlS a.toInt → (a.toInt = 0 → n.toInt = 0) → (a.toInt < 0 → n = nU) → RF f₉ (tlR rf a.toInt) → Q a (s, n, f₉)) : wp_X12_settled a nU f Q := by
  unfold wp_X12_settled
  by_cases c : 0 ≤ a
  · have c₉ := le_z (x := 0) rfl rfl c
    exact br1 c (s_X12_tellz a f (by omega) hf (fun r s f₉ H => un2_i (by have e : r = a := Int32.toInt_inj.mp H.1; have h2 := H.2.1; have h3 := H.2.2; rw [e] at h2 h3 ⊢; exact hq _ _ _ h2 (fun _ => rfl) (fun q => by omega) h3)))
  · have c₉ := nle_z (x := 0) rfl rfl c
    exact br0 c (s_X12_tellz a f (by omega) hf (fun r s f₉ H => un2_i (by have e : r = a := Int32.toInt_inj.mp H.1; have h2 := H.2.1; have h3 := H.2.2; rw [e] at h2 h3 ⊢; exact hq _ _ _ h2 (fun q => by omega) (fun _ => rfl) h3)))
theorem bakR_z {kp : Nat → Int32} {a : Int32} : (bkR a kp).toInt = bakR kp a.toInt := by
  unfold bkR bakR
  by_cases c : 0 ≤ a.toInt ∧ a.toInt ≤ 1
  · rw [if_pos c, if_neg (show ¬ (a.toInt < 0 ∨ 2 ≤ a.toInt) by omega)]
    by_cases d : kp a.toNatClampNeg = 0
    · have d₉ : kp a.toInt.toNat = 0 := d
      rw [if_pos d, if_pos d₉]; rfl
    · have d₉ : ¬ kp a.toInt.toNat = 0 := d
      rw [if_neg d, if_neg d₉]; rfl
  · rw [if_neg c, if_pos (show a.toInt < 0 ∨ 2 ≤ a.toInt by omega)]; rfl
theorem x_mback {a nU : Int32} {kept im row rfs rf un so : Nat → Int32} {w : Nat → Int} {ls : Nat → List Cls} {U : UL} {WI : Nat → Nat → Int} {LI : Nat → Nat → List Cls} (hR : RLW row) (hI : IM kept im) (hU : 0 ≤ nU.toInt ∧ nU.toInt ≤ 16) (hW : RMw row w) (hL : RML row ls) (hZ : IMz kept im WI LI) (hf : RF rfs rf) (hu : RMu un so nU U) {Q : Int32 → (Int32 × Int32 × Int32 × (Nat → Int32) × (Nat → Int32)) → Prop} (hq : ∀ (r st n : Int32) (row₉ rfs₉ : Nat → Int32), r = bkR a kept → st.toInt = tlS (bakR kept a.toInt) → (0 ≤ n.toInt ∧ n.toInt ≤ 16) → RLW row₉ → RMw row₉ (bakW kept a.toInt (WI 0) (WI 1) w) → RML row₉ (bakL kept a.toInt (LI 0) (LI 1) ls) → RMu un so n (bakU kept a.toInt U) → RF rfs₉ (tlR rf (bakR kept a.toInt)) → Q r (0, st, n, row₉, rfs₉)) : wp_X12_back a nU kept im row rfs Q := by
  unfold wp_X12_back
  have ea : a.toInt64.toInt = a.toInt := i2l_z rfl
  have z0 : (0 : Int64).toInt = 0 := rfl
  have z1 : (1 : Int64).toInt = 1 := rfl
  have bz := bakR_z (kp := kept) (a := a)
  have no : ∀ z : Int32, -6 ≤ z.toInt ∧ z.toInt < 0 → bkR a kept = z → wp_X12_tell z rfs (fun r_17 => un2 (fun (u_17_0 : Int32) (u_17_1 : Nat → Int32) => Q r_17 (0, u_17_0, nU, row, u_17_1))) := by
    intro z hz e
    have e₉ : bakR kept a.toInt = z.toInt := by rw [← bz, e]
    refine s_X12_tellz z rfs (by omega) hf (fun r s f H => un2_i ?_)
    have hr : r = z := Int32.toInt_inj.mp H.1
    have h2 := H.2.1
    have h3 := H.2.2
    rw [hr] at h2 h3 ⊢
    have n1 : bakR kept a.toInt < 0 := by omega
    exact hq z s nU row f e.symm (by rw [e₉]; exact h2) hU hR (by unfold bakW; rw [if_pos n1]; exact hW) (by unfold bakL; rw [if_pos n1]; exact hL) (by unfold bakU; rw [if_pos n1]; exact hu) (by rw [e₉]; exact h3)
  refine e_in (fun g1 g2 => br0 (by decide) ?_) (fun g => br1 rfl (no (-1) (by decide) (bk_n (a := a) (f := kept) (by omega)).symm))
  obtain ⟨k, hk⟩ : ∃ k : Nat, a.toInt = (k : Int) := ⟨a.toInt.toNat, by omega⟩
  refine ⟨vpi hk (by omega) (by omega), ?_⟩
  by_cases c : kept a.toNatClampNeg = 0
  · exact br1 c (no (-2) (by decide) (bk_0 (a := a) (f := kept) (by omega) (by omega) c).symm)
  · refine br0 c (sl_ba39 hk (by omega) (fun x row₉ h1 => ?_) _ 0 0 row rfl (by omega) (by omega) (fun j hj => by omega))
    have er : bkR a kept = 0 := (bk_1 (a := a) (f := kept) (by omega) (by omega) c).symm
    have e₉ : bakR kept a.toInt = 0 := by rw [← bz, er]; rfl
    have n1 : ¬ bakR kept a.toInt < 0 := by omega
    have ck : ¬ kept k = 0 := by rw [tnN hk] at c; exact c
    have R2 : RLW row₉ := RW.cong (hI k (by omega) ck) (fun j hj => h1 j hj)
    have W2 : RMw row₉ (WI k) := (hZ k (by omega) ck).1.cong (fun j hj => h1 j hj)
    have L2 : RML row₉ (LI k) := (hZ k (by omega) ck).2.cong (hI k (by omega) ck) (fun j hj => h1 j hj)
    refine x_settled (Or.inr rfl) hf (fun s n f h2 h3 h4 h5 => un3_i ?_)
    have n0 : n.toInt = 0 := h3 rfl
    have W3 : RMw row₉ (bakW kept a.toInt (WI 0) (WI 1) w) := by
      unfold bakW
      rw [if_neg n1]
      by_cases e0 : a.toInt = 0
      · have : k = 0 := by omega
        subst this
        rw [if_pos e0]; exact W2
      · have : k = 1 := by omega
        subst this
        rw [if_neg e0]; exact W2
    have L3 : RML row₉ (bakL kept a.toInt (LI 0) (LI 1) ls) := by
      unfold bakL
      rw [if_neg n1]
      by_cases e0 : a.toInt = 0
      · have : k = 0 := by omega
        subst this
        rw [if_pos e0]; exact L2
      · have : k = 1 := by omega
        subst this
        rw [if_neg e0]; exact L2
    exact hq 0 s n row₉ f er.symm (by rw [e₉]; exact h2) (by omega) R2 W3 L3 (by unfold bakU; rw [if_neg n1]; exact RMu.nil n0) (by rw [e₉]; exact h5)
end
section
/-! row, of both sides: exactly -/
abbrev rwC (t : Nat → Int) (n : Nat) (w : Nat → Int) (i : Nat) : Prop := i < 40 ∧ 3 * i + 3 ≤ n ∧ w (33 + i) = 0 ∧ (0 ≤ t (3 * i) ∧ t (3 * i) ≤ 3) ∧ (1 ≤ t (3 * i + 1) ∧ t (3 * i + 1) ≤ 9) ∧ (0 ≤ t (3 * i + 2) ∧ t (3 * i + 2) ≤ 99)
def rwU (t : Nat → Int) (w : Nat → Int) (i : Nat) : Nat → Int := uI (uI (uI w (113 + i) (t (3 * i))) (153 + i) (t (3 * i + 1))) (73 + i) (t (3 * i + 2))
def rowZF (t : Nat → Int) (n : Nat) (w : Nat → Int) : Nat → (Nat → Int) × Int
  | 0 => (w, 0)
  | i + 1 => if rwC t n (rowZF t n w i).1 i then (rwU t (rowZF t n w i).1 i, (rowZF t n w i).2 + 1) else rowZF t n w i
theorem rowZF_y {t : Nat → Int} {n : Nat} {w : Nat → Int} {i : Nat} (h : rwC t n (rowZF t n w i).1 i) : rowZF t n w (i + 1) = (rwU t (rowZF t n w i).1 i, (rowZF t n w i).2 + 1) := if_pos h
theorem rowZF_n {t : Nat → Int} {n : Nat} {w : Nat → Int} {i : Nat} (h : ¬ rwC t n (rowZF t n w i).1 i) : rowZF t n w (i + 1) = rowZF t n w i := if_neg h
theorem rowZF_b {t : Nat → Int} {n : Nat} {w : Nat → Int} : ∀ i : Nat, 0 ≤ (rowZF t n w i).2 ∧ (rowZF t n w i).2 ≤ (i : Int) := by
  intro i
  induction i with
  | zero => exact ⟨Int.le_refl _, Int.le_refl _⟩
  | succ i ih =>
    by_cases h : rwC t n (rowZF t n w i).1 i
    · rw [rowZF_y h]
      show 0 ≤ (rowZF t n w i).2 + 1 ∧ (rowZF t n w i).2 + 1 ≤ _
      omega
    · rw [rowZF_n h]; omega
def rowR (t : Nat → Int) (n : Nat) (w : Nat → Int) : Int := if n = 0 then -6 else (rowZF t n w ((n + 2) / 3)).2
def rowW (t : Nat → Int) (n : Nat) (w : Nat → Int) : Nat → Int := if n = 0 then w else (rowZF t n w ((n + 2) / 3)).1
def rowU (n : Nat) (U : UL) : UL := if n = 0 then U else []
def rowM (t : Nat → Int) (n : Nat) (w : Nat → Int) (m : Int) : Int := if n = 0 then m else (((n + 2) / 3 : Nat) : Int) - (rowZF t n w ((n + 2) / 3)).2
theorem x_cb0X {v : Int32} {Q : Int32 → Prop} (h1 : 0 ≤ v.toInt ∧ v.toInt ≤ 3 → Q 1) (h0 : ¬ (0 ≤ v.toInt ∧ v.toInt ≤ 3) → Q 0) : wp_X6_canBe 0 v Q := by
  unfold wp_X6_canBe
  refine br1 rfl ?_
  by_cases c : v < 0
  · have c₉ := lt_z (x := v.toInt) (y := 0) rfl rfl c
    exact br1 c (h0 (by omega))
  · have c₉ := nlt_z (x := v.toInt) (y := 0) rfl rfl c
    refine br0 c ?_
    by_cases d : 3 < v
    · have d₉ := lt_z (x := 3) (y := v.toInt) rfl rfl d
      exact br1 d (h0 (by omega))
    · have d₉ := nlt_z (x := 3) (y := v.toInt) rfl rfl d
      exact br0 d (h1 (by first | with_reducible assumption | exact ⟨by omega, by omega⟩))
theorem x_cb0M {v : Int32} {Q : Int32 → Prop} (h1 : 0 ≤ v.toInt ∧ v.toInt ≤ 3 → Q 1) (h0 : ¬ (0 ≤ v.toInt ∧ v.toInt ≤ 3) → Q 0) : wp_X12_canBe 0 v Q := by
  unfold wp_X12_canBe
  have ea : v.toInt64.toInt = v.toInt := i2l_z rfl
  have z0 : (0 : Int64).toInt = 0 := rfl
  have z1 : (3 : Int64).toInt = 3 := rfl
  refine br1 rfl ?_
  exact e_in (fun g1 g2 => h1 (by first | with_reducible assumption | exact ⟨by omega, by omega⟩)) (fun g => h0 (by omega))
theorem x_cb1X {v : Int32} {Q : Int32 → Prop} (h1 : 1 ≤ v.toInt ∧ v.toInt ≤ 9 → Q 1) (h0 : ¬ (1 ≤ v.toInt ∧ v.toInt ≤ 9) → Q 0) : wp_X6_canBe 1 v Q := by
  unfold wp_X6_canBe
  refine br0 (by decide) (br1 rfl ?_)
  by_cases c : v < 1
  · have c₉ := lt_z (x := v.toInt) (y := 1) rfl rfl c
    exact br1 c (h0 (by omega))
  · have c₉ := nlt_z (x := v.toInt) (y := 1) rfl rfl c
    refine br0 c ?_
    by_cases d : 9 < v
    · have d₉ := lt_z (x := 9) (y := v.toInt) rfl rfl d
      exact br1 d (h0 (by omega))
    · have d₉ := nlt_z (x := 9) (y := v.toInt) rfl rfl d
      exact br0 d (h1 (by first | with_reducible assumption | exact ⟨by omega, by omega⟩))
theorem x_cb1M {v : Int32} {Q : Int32 → Prop} (h1 : 1 ≤ v.toInt ∧ v.toInt ≤ 9 → Q 1) (h0 : ¬ (1 ≤ v.toInt ∧ v.toInt ≤ 9) → Q 0) : wp_X12_canBe 1 v Q := by
  unfold wp_X12_canBe
  have ea : v.toInt64.toInt = v.toInt := i2l_z rfl
  have z0 : (1 : Int64).toInt = 1 := rfl
  have z1 : (9 : Int64).toInt = 9 := rfl
  refine br0 (by decide) (br1 rfl ?_)
  exact e_in (fun g1 g2 => h1 (by first | with_reducible assumption | exact ⟨by omega, by omega⟩)) (fun g => h0 (by omega))
theorem x_cb2X {v : Int32} {Q : Int32 → Prop} (h1 : 0 ≤ v.toInt ∧ v.toInt ≤ 99 → Q 1) (h0 : ¬ (0 ≤ v.toInt ∧ v.toInt ≤ 99) → Q 0) : wp_X6_canBe 2 v Q := by
  unfold wp_X6_canBe
  refine br0 (by decide) (br0 (by decide) (br1 rfl ?_))
  by_cases c : v < 0
  · have c₉ := lt_z (x := v.toInt) (y := 0) rfl rfl c
    exact br1 c (h0 (by omega))
  · have c₉ := nlt_z (x := v.toInt) (y := 0) rfl rfl c
    refine br0 c ?_
    by_cases d : 99 < v
    · have d₉ := lt_z (x := 99) (y := v.toInt) rfl rfl d
      exact br1 d (h0 (by omega))
    · have d₉ := nlt_z (x := 99) (y := v.toInt) rfl rfl d
      exact br0 d (h1 (by first | with_reducible assumption | exact ⟨by omega, by omega⟩))
theorem x_cb2M {v : Int32} {Q : Int32 → Prop} (h1 : 0 ≤ v.toInt ∧ v.toInt ≤ 99 → Q 1) (h0 : ¬ (0 ≤ v.toInt ∧ v.toInt ≤ 99) → Q 0) : wp_X12_canBe 2 v Q := by
  unfold wp_X12_canBe
  have ea : v.toInt64.toInt = v.toInt := i2l_z rfl
  have z0 : (0 : Int64).toInt = 0 := rfl
  have z1 : (99 : Int64).toInt = 99 := rfl
  refine br0 (by decide) (br0 (by decide) (br1 rfl ?_))
  exact e_in (fun g1 g2 => br0 (by decide) (h1 (by first | with_reducible assumption | exact ⟨by omega, by omega⟩))) (fun g => br1 rfl (h0 (by omega)))
theorem x_tellCell {b len : Int32} {i n : Nat} (hb : b.toInt = (i : Int)) (hn : len.toInt = (n : Int)) (h4 : n ≤ 400) (hi : i ≤ 1000) {dg : Int64} {by_ kd hd wt : Nat → Int32} {w : Nat → Int} (hD : RD dg w) {Q : Int32 → ((Nat → Int32) × (Nat → Int32) × (Nat → Int32)) → Prop} (h1 : rwC (fun j => (by_ j).toInt) n w i → Q 1 (upd kd i (by_ (3 * i)), upd hd i (by_ (3 * i + 1)), upd wt i (by_ (3 * i + 2)))) (h0 : ¬ rwC (fun j => (by_ j).toInt) n w i → Q 0 (kd, hd, wt)) : wp_X5_tellCell b len dg by_ kd hd wt Q := by
  have e3 : (3 * b).toInt = ((3 * i : Nat) : Int) := mulN (a := 3) (x := 3) rfl hb (by omega)
  have e4 : (3 * b + 1).toInt = ((3 * i + 1 : Nat) : Int) := addN e3 (b := 1) (y := 1) rfl (by omega)
  have e5 : (3 * b + 2).toInt = ((3 * i + 2 : Nat) : Int) := addN e3 (b := 2) (y := 2) rfl (by omega)
  have e6 : (3 * b + 3).toInt = ((3 * i + 3 : Nat) : Int) := addN e3 (b := 3) (y := 3) rfl (by omega)
  unfold wp_X5_tellCell
  refine br0 (z_nlt hb (y := 0) rfl (by omega)) ?_
  by_cases c1 : 40 ≤ b
  · have c₉ := le_z (x := 40) rfl hb c1
    exact br1 c1 (h0 (fun h => by have := h.1; omega))
  · have c₉ := nle_z (x := 40) rfl hb c1
    refine br0 c1 ?_
    by_cases c2 : len < (3 * b) + 3
    · have d := lt_z hn e6 c2
      exact br1 c2 (h0 (fun h => by have := h.2.1; omega))
    · have d := nlt_z hn e6 c2
      refine br0 c2 (hD.at (by omega) (by omega) (fun r hr1 hr2 => ?_))
      have hr3 : r.toInt = w (33 + i) := by rw [hr2, hb, Int.toNat_natCast]
      by_cases c3 : r = 0
      · have z : w (33 + i) = 0 := by rw [← hr3, c3]; rfl
        refine br1 c3 ⟨vpi e3 (by omega) (by omega), vpi e4 (by omega) (by omega), vpi e5 (by omega) (by omega), ?_⟩
        rw [tnN e3, tnN e4, tnN e5, tnN hb]
        refine x_cb0X (fun k1 => br0 (by decide) ?_) (fun k1 => br1 rfl (h0 (fun h => k1 h.2.2.2.1)))
        refine x_cb1X (fun k2 => br0 (by decide) ?_) (fun k2 => br1 rfl (h0 (fun h => k2 h.2.2.2.2.1)))
        refine x_cb2X (fun k3 => br0 (by decide) ?_) (fun k3 => br1 rfl (h0 (fun h => k3 h.2.2.2.2.2)))
        exact ⟨vpi hb (by omega) (by omega), vpi hb (by omega) (by omega), vpi hb (by omega) (by omega), h1 ⟨by omega, by omega, z, k1, k2, k3⟩⟩
      · exact br0 c3 (h0 (fun h => c3 (Int32.toInt_inj.mp (by rw [hr3, h.2.2.1]; rfl))))
theorem x_row33 {len : Int32} {n : Nat} (hn : len.toInt = (n : Int)) (h4 : n ≤ 400) {by_ : Nat → Int32} {dg : Int64} {ce bu : Nat → Int32} {cc : Int32} {co ea : Nat → Int32} {ls : Int32} {nc nl : Nat → Int32} {ns hu : Int32} {hc hl : Nat → Int32} {hs : Int32} {so we : Nat → Int32} {wl : Int32} {te : Nat → Int32} {lc fo : Int32} {w : Nat → Int} {Qb : Int32 → Int32 → (Nat → Int32) → (Nat → Int32) → (Nat → Int32) → Prop} (K : ∀ (x c : Int32) (kd₉ hd₉ wt₉ : Nat → Int32), c.toInt = (rowZF (fun j => (by_ j).toInt) n w ((n + 2) / 3)).2 → RXw kd₉ hd₉ wt₉ dg ce bu cc co ea ls nc nl ns hu hc hl hs so we wl te lc fo (rowZF (fun j => (by_ j).toInt) n w ((n + 2) / 3)).1 → KI kd₉ → HA hd₉ → WA wt₉ → Qb x c kd₉ hd₉ wt₉) : ∀ (m i : Nat) (x c : Int32) (kd₉ hd₉ wt₉ : Nat → Int32), x.toInt = (i : Int) → i ≤ (n + 2) / 3 → (n + 2) / 3 - i < m → c.toInt = (rowZF (fun j => (by_ j).toInt) n w i).2 → RXw kd₉ hd₉ wt₉ dg ce bu cc co ea ls nc nl ns hu hc hl hs so we wl te lc fo (rowZF (fun j => (by_ j).toInt) n w i).1 → KI kd₉ → HA hd₉ → WA wt₉ → wl_X11_row_33 len dg by_ Qb m x c kd₉ hd₉ wt₉ := by
  have eN : ((len + 2) / 3).toInt = (((n + 2) / 3 : Nat) : Int) := by
    rw [div_z (addN hn (b := 2) (y := 2) rfl (by omega)) (b := 3) (y := 3) rfl (by omega) (by omega)]; omega
  intro m
  induction m with
  | zero => intro i x c kd₉ hd₉ wt₉ _ _ h; omega
  | succ m ih =>
    intro i x c kd₉ hd₉ wt₉ hx hi hm hc hX hk hh hw
    unfold wl_X11_row_33
    by_cases d : ((len + 2) / 3) ≤ x
    · have d₉ := le_z eN hx d
      obtain rfl : i = (n + 2) / 3 := by omega
      exact br1 d (K _ _ _ _ _ hc hX hk hh hw)
    · have d₉ := nle_z eN hx d
      have bb := rowZF_b (t := (fun j => (by_ j).toInt)) (n := n) (w := w) i
      have x1 : (x + 1).toInt = ((i + 1 : Nat) : Int) := add1 hx (by omega)
      refine br0 d (x_tellCell hx hn h4 (by omega) hX.dg (fun h => un3_i (br0 (by decide) ?_)) (fun h => un3_i (br1 rfl ?_)))
      · have c1 : (c + 1).toInt = (rowZF (fun j => (by_ j).toInt) n w (i + 1)).2 := by rw [rowZF_y h, add_z hc (b := 1) (y := 1) rfl (by omega) (by omega)]
        obtain ⟨r1, r2, r3, r4, r5, r6⟩ := id h
        refine ih (i + 1) _ _ _ _ _ x1 (by omega) (by omega) c1 ?_ (KI.up_0 hk rfl (by omega) (by omega) rfl r4.1 r4.2) (HA.up_0 hh rfl (by omega) (by omega) rfl r5.1 r5.2) (WA.up_0 hw rfl (by omega) (by omega) rfl r6.1 r6.2)
        rw [rowZF_y h]
        exact RXw.u_wt (RXw.u_hd (RXw.u_kd hX rfl r1 rfl) rfl r1 rfl) rfl r1 rfl
      · have q : rowZF (fun j => (by_ j).toInt) n w (i + 1) = rowZF (fun j => (by_ j).toInt) n w i := rowZF_n h
        exact ih (i + 1) _ _ _ _ _ x1 (by omega) (by omega) (by rw [q]; exact hc) (by rw [q]; exact hX) hk hh hw
theorem x_rowc {mud len kp : Int32} {n : Nat} (hn : len.toInt = (n : Int)) (h4 : n ≤ 400) {by_ rfs rf : Nat → Int32} {kd hd wt : Nat → Int32} {dg : Int64} {ce bu : Nat → Int32} {cc : Int32} {co ea : Nat → Int32} {ls : Int32} {nc nl : Nat → Int32} {ns hu : Int32} {hc hl : Nat → Int32} {hs : Int32} {so we : Nat → Int32} {wl : Int32} {te : Nat → Int32} {lc fo : Int32} {w : Nat → Int} {de wh be bb db : Nat → Int32} {lt : Int32} {U : UL} {mu : Int} (hX : RXw kd hd wt dg ce bu cc co ea ls nc nl ns hu hc hl hs so we wl te lc fo w) (hk : KI kd) (hh : HA hd) (hw : WA wt) (hru : RXu de wh be bb db kp lt w U) (hf : RF rfs rf) (hm : mud.toInt = mu) {Q : Int32 → (Int32 × Int32 × Int32 × (Nat → Int32) × (Nat → Int32) × (Nat → Int32) × Int32 × (Nat → Int32)) → Prop} (hq : ∀ (r mud₉ la kp₉ : Int32) (kd₉ hd₉ wt₉ rfs₉ : Nat → Int32), r.toInt = rowR (fun j => (by_ j).toInt) n w → mud₉.toInt = rowM (fun j => (by_ j).toInt) n w mu → la.toInt = tlS (rowR (fun j => (by_ j).toInt) n w) → KI kd₉ → HA hd₉ → WA wt₉ → RXw kd₉ hd₉ wt₉ dg ce bu cc co ea ls nc nl ns hu hc hl hs so we wl te lc fo (rowW (fun j => (by_ j).toInt) n w) → RXu de wh be bb db kp₉ lt (rowW (fun j => (by_ j).toInt) n w) (rowU n U) → RF rfs₉ (tlR rf (rowR (fun j => (by_ j).toInt) n w)) → Q r (mud₉, la, 0, kd₉, hd₉, wt₉, kp₉, rfs₉)) : wp_X11_row mud len dg by_ kd hd wt kp rfs Q := by
  unfold wp_X11_row
  by_cases c : len = 0
  · have n0 : n = 0 := by have := eq_z hn (y := 0) rfl c; omega
    subst n0
    have eR : rowR (fun j => (by_ j).toInt) 0 w = -6 := rfl
    refine br1 c (s_X11_settlez (-6) rfs (by decide) hf (fun r la f H => un2_i ?_))
    have hr : r.toInt = -6 := H.1
    have h2 := H.2.1
    have h3 := H.2.2
    rw [hr] at h2 h3
    have q := hq r mud la kp kd hd wt f (by rw [hr, eR]) hm (by rw [eR]; exact h2) hk hh hw hX hru (by rw [eR]; exact h3)
    rw [c]
    exact q
  · have n0 : ¬ n = 0 := by have := ne_z hn (y := 0) rfl c; omega
    have eR : rowR (fun j => (by_ j).toInt) n w = (rowZF (fun j => (by_ j).toInt) n w ((n + 2) / 3)).2 := if_neg n0
    have eW : rowW (fun j => (by_ j).toInt) n w = (rowZF (fun j => (by_ j).toInt) n w ((n + 2) / 3)).1 := if_neg n0
    have eU : rowU n U = [] := if_neg n0
    have bb := rowZF_b (t := (fun j => (by_ j).toInt)) (n := n) (w := w) ((n + 2) / 3)
    have eN : ((len + 2) / 3).toInt = (((n + 2) / 3 : Nat) : Int) := by
      rw [div_z (addN hn (b := 2) (y := 2) rfl (by omega)) (b := 3) (y := 3) rfl (by omega) (by omega)]; omega
    refine br0 c (x_row33 hn h4 (w := w) (fun x ct kd₉ hd₉ wt₉ hc hX2 hk2 hh2 hw2 => o_X2_clear _ ?_) _ 0 0 0 kd hd wt rfl (by omega) (by omega) rfl hX hk hh hw)
    refine s_X11_settlez ct rfs (by omega) hf (fun r la f H => un2_i ?_)
    have hr : r.toInt = ct.toInt := H.1
    have h2 := H.2.1
    have h3 := H.2.2
    rw [hr, hc, ← eR] at h2 h3
    refine hq r _ la 0 kd₉ hd₉ wt₉ f (by rw [hr, hc, eR]) ?_ h2 hk2 hh2 hw2 (by rw [eW]; exact hX2) (by rw [eU]; exact RXu.nil hru rfl) h3
    unfold rowM
    rw [if_neg n0, sub_z eN hc (by omega) (by omega)]
theorem x_row35 {tpd : Int32} {n : Nat} (hn : tpd.toInt = (n : Int)) (h4 : n ≤ 400) {tp : Nat → Int32} {w : Nat → Int} {ls : Nat → List Cls} {Qb : Int32 → Int32 → Int32 → (Nat → Int32) → Prop} (K : ∀ (x c d : Int32) (row₉ : Nat → Int32), c.toInt = (rowZF (fun j => (tp j).toInt) n w ((n + 2) / 3)).2 → d.toInt = (((n + 2) / 3 : Nat) : Int) - (rowZF (fun j => (tp j).toInt) n w ((n + 2) / 3)).2 → RLW row₉ → RMw row₉ (rowZF (fun j => (tp j).toInt) n w ((n + 2) / 3)).1 → RML row₉ ls → Qb x c d row₉) : ∀ (m i : Nat) (x c d : Int32) (row₉ : Nat → Int32), x.toInt = ((3 * i : Nat) : Int) → i ≤ (n + 2) / 3 → (n + 2) / 3 - i < m → c.toInt = (rowZF (fun j => (tp j).toInt) n w i).2 → d.toInt = (i : Int) - (rowZF (fun j => (tp j).toInt) n w i).2 → RLW row₉ → RMw row₉ (rowZF (fun j => (tp j).toInt) n w i).1 → RML row₉ ls → wl_X12_row_35 tpd tp Qb m x c d row₉ := by
  intro m
  induction m with
  | zero => intro i x c d row₉ _ _ h; omega
  | succ m ih =>
    intro i x c d row₉ hx hi hm hc hd hR hW hL
    unfold wl_X12_row_35
    have bb := rowZF_b (t := (fun j => (tp j).toInt)) (n := n) (w := w) i
    by_cases e : tpd ≤ x
    · have e₉ := le_z hn hx e
      obtain rfl : i = (n + 2) / 3 := by omega
      exact br1 e (K _ _ _ _ hc hd hR hW hL)
    · have e₉ := nle_z hn hx e
      have x1 : (x + 3).toInt = ((3 * (i + 1) : Nat) : Int) := by rw [addN hx (b := 3) (y := 3) rfl (by omega)]; omega
      have no : ¬ rwC (fun j => (tp j).toInt) n (rowZF (fun j => (tp j).toInt) n w i).1 i → wl_X12_row_35 tpd tp Qb m (x + 3) c (d + 1) row₉ := by
        intro h
        have q : rowZF (fun j => (tp j).toInt) n w (i + 1) = rowZF (fun j => (tp j).toInt) n w i := rowZF_n h
        refine ih (i + 1) _ _ _ _ x1 (by omega) (by omega) (by rw [q]; exact hc) ?_ hR (by rw [q]; exact hW) hL
        rw [q, add_z hd (b := 1) (y := 1) rfl (by omega) (by omega)]
        omega
      refine br0 e ?_
      have e2 : (x + 2).toInt = ((3 * i + 2 : Nat) : Int) := addN hx (b := 2) (y := 2) rfl (by omega)
      have e1 : (x + 1).toInt = ((3 * i + 1 : Nat) : Int) := addN hx (b := 1) (y := 1) rfl (by omega)
      by_cases f : tpd ≤ x + 2
      · have f₉ := le_z hn e2 f
        exact br1 f (no (fun h => by have := h.2.1; omega))
      · have f₉ := nle_z hn e2 f
        have eD : (x / 3).toInt = (i : Int) := by rw [div_z hx (b := 3) (y := 3) rfl (by omega) (by omega)]; omega
        have eL : (x / 3).toInt64.toInt = (i : Int) := i2l_z eD
        have z0 : (0 : Int64).toInt = 0 := rfl
        have z1 : (39 : Int64).toInt = 39 := rfl
        refine br0 f ?_
        unfold wp_X12_isCell
        refine e_in (fun g1 g2 => br0 (by decide) ?_) (fun g => br1 rfl (no (fun h => by have := h.1; omega)))
        have i4 : i < 40 := by omega
        have a33 : (33 + x / 3).toInt = ((33 + i : Nat) : Int) := addN (a := 33) (x := 33) rfl eD (by omega)
        have a113 : (113 + x / 3).toInt = ((113 + i : Nat) : Int) := addN (a := 113) (x := 113) rfl eD (by omega)
        have a153 : (153 + x / 3).toInt = ((153 + i : Nat) : Int) := addN (a := 153) (x := 153) rfl eD (by omega)
        have a73 : (73 + x / 3).toInt = ((73 + i : Nat) : Int) := addN (a := 73) (x := 73) rfl eD (by omega)
        refine ⟨vpi a33 (by omega) (by omega), ?_⟩
        rw [tnN a33, tnN a113, tnN a153, tnN a73, tnN hx, tnN e1, tnN e2]
        have r33 : (row₉ (33 + i)).toInt = (rowZF (fun j => (tp j).toInt) n w i).1 (33 + i) := hW _ (by omega)
        by_cases c3 : row₉ (33 + i) = 0
        · have z : (rowZF (fun j => (tp j).toInt) n w i).1 (33 + i) = 0 := by rw [← r33, c3]; rfl
          refine br1 c3 ⟨vpi hx (by omega) (by omega), ?_⟩
          refine x_cb0M (fun k1 => br0 (by decide) ?_) (fun k1 => br1 rfl (no (fun h => k1 h.2.2.2.1)))
          refine ⟨vpi e1 (by omega) (by omega), ?_⟩
          refine x_cb1M (fun k2 => br0 (by decide) ?_) (fun k2 => br1 rfl (no (fun h => k2 h.2.2.2.2.1)))
          refine ⟨vpi e2 (by omega) (by omega), ?_⟩
          refine x_cb2M (fun k3 => br0 (by decide) ?_) (fun k3 => br1 rfl (no (fun h => k3 h.2.2.2.2.2)))
          refine ⟨vpi hx (by omega) (by omega), vpi a113 (by omega) (by omega), vpi e1 (by omega) (by omega), vpi a153 (by omega) (by omega), vpi e2 (by omega) (by omega), vpi a73 (by omega) (by omega), ?_⟩
          have h : rwC (fun j => (tp j).toInt) n (rowZF (fun j => (tp j).toInt) n w i).1 i := ⟨i4, by omega, z, k1, k2, k3⟩
          have q := rowZF_y h
          refine ih (i + 1) _ _ _ _ x1 (by omega) (by omega) ?_ ?_ ?_ ?_ ?_
          · rw [q, add_z hc (b := 1) (y := 1) rfl (by omega) (by omega)]
          · rw [q, hd]
            show _ = ((i + 1 : Nat) : Int) - ((rowZF (fun j => (tp j).toInt) n w i).2 + 1)
            omega
          · exact RLW.up_73 (RLW.up_153 (RLW.up_113 hR (n := 113 + i) rfl (by omega) (by omega) rfl k1.1 k1.2) (n := 153 + i) rfl (by omega) (by omega) rfl k2.1 k2.2) (n := 73 + i) rfl (by omega) (by omega) rfl k3.1 k3.2
          · rw [q]
            exact RMw.up (RMw.up (RMw.up hW rfl rfl) rfl rfl) rfl rfl
          · exact RML.up (RML.up (RML.up hL (n := 113 + i) rfl (by omega) (by omega)) (n := 153 + i) rfl (by omega) (by omega)) (n := 73 + i) rfl (by omega) (by omega)
        · exact br0 c3 (no (fun h => c3 (Int32.toInt_inj.mp (by rw [r33, h.2.2.1]; rfl))))
theorem x_rowm {nU mud tpd : Int32} {n : Nat} (hn : tpd.toInt = (n : Int)) (h4 : n ≤ 400) {row tp rfs rf un so : Nat → Int32} {w : Nat → Int} {ls : Nat → List Cls} {U : UL} {mu : Int} (hR : RLW row) (hW : RMw row w) (hL : RML row ls) (hU : 0 ≤ nU.toInt ∧ nU.toInt ≤ 16) (hu : RMu un so nU U) (hf : RF rfs rf) (hm : mud.toInt = mu) {Q : Int32 → (Int32 × Int32 × Int32 × Int32 × Int32 × (Nat → Int32) × (Nat → Int32)) → Prop} (hq : ∀ (r st nU₉ mud₉ : Int32) (row₉ rfs₉ : Nat → Int32), r.toInt = rowR (fun j => (tp j).toInt) n w → mud₉.toInt = rowM (fun j => (tp j).toInt) n w mu → st.toInt = tlS (rowR (fun j => (tp j).toInt) n w) → (0 ≤ nU₉.toInt ∧ nU₉.toInt ≤ 16) → RLW row₉ → RMw row₉ (rowW (fun j => (tp j).toInt) n w) → RML row₉ ls → RMu un so nU₉ (rowU n U) → RF rfs₉ (tlR rf (rowR (fun j => (tp j).toInt) n w)) → Q r (0, st, nU₉, mud₉, 0, row₉, rfs₉)) : wp_X12_row nU mud tpd row tp rfs Q := by
  unfold wp_X12_row
  by_cases c : tpd = 0
  · have n0 : n = 0 := by have := eq_z hn (y := 0) rfl c; omega
    subst n0
    have eR : rowR (fun j => (tp j).toInt) 0 w = -6 := rfl
    refine br1 c (s_X12_tellz (-6) rfs (by decide) hf (fun r la f H => un2_i ?_))
    have hr : r.toInt = -6 := H.1
    have h2 := H.2.1
    have h3 := H.2.2
    rw [hr] at h2 h3
    exact hq r la nU mud row f (by rw [hr, eR]) hm (by rw [eR]; exact h2) hU hR hW hL hu (by rw [eR]; exact h3)
  · have n0 : ¬ n = 0 := by have := ne_z hn (y := 0) rfl c; omega
    have eR : rowR (fun j => (tp j).toInt) n w = (rowZF (fun j => (tp j).toInt) n w ((n + 2) / 3)).2 := if_neg n0
    have eW : rowW (fun j => (tp j).toInt) n w = (rowZF (fun j => (tp j).toInt) n w ((n + 2) / 3)).1 := if_neg n0
    have eU : rowU n U = [] := if_neg n0
    have bb := rowZF_b (t := (fun j => (tp j).toInt)) (n := n) (w := w) ((n + 2) / 3)
    refine br0 c (x_row35 hn h4 (w := w) (ls := ls) (fun x ct md row₉ hc hd hR2 hW2 hL2 => ?_) _ 0 0 0 0 row rfl (by omega) (by omega) rfl rfl hR hW hL)
    unfold wp_X12_settled
    refine br1 (z_le (x := 0) rfl hc (by omega)) ?_
    refine s_X12_tellz ct rfs (by omega) hf (fun r la f H => un2_i (un3_i ?_))
    have hr : r.toInt = ct.toInt := H.1
    have h2 := H.2.1
    have h3 := H.2.2
    rw [hr, hc, ← eR] at h2 h3
    exact hq r la 0 md row₉ f (by rw [hr, hc, eR]) (by unfold rowM; rw [if_neg n0]; exact hd) h2 (by decide) hR2 (by rw [eW]; exact hW2) hL2 (by rw [eU]; exact RMu.nil rfl) h3
end
section
/-! law() of the class: what it answers and what stands behind it, with the ranges -/
theorem z_claw {cs : Nat → ClassId} {tp : Nat → Int32} {n : Nat} {st en : Nat → Nat} {T : Nat → Int} (hL : Lex tp n st en T) {lc len tc now parts ao fp : Int32} (hn : len.toInt = (n : Int)) (h4 : n ≤ 400) {w : Nat → Int} (hlc : lc.toInt = w 5) (h56 : 0 ≤ w 5 ∧ w 5 ≤ 6) (hB : BY tp) (htc : 0 ≤ tc.toInt ∧ tc.toInt ≤ 401) (hao : 0 ≤ ao.toInt ∧ ao.toInt ≤ 1) {dc dl : Int32} (hdc : 0 ≤ dc.toInt ∧ dc.toInt ≤ 12) (hdl : 0 ≤ dl.toInt ∧ dl.toInt ≤ 400) {tk pl dh dcd : Nat → Int32} (hH : HD dh) (hC : CD dcd) {laws : Nat → Option Nat} {rfs rf : Nat → Int32} (hF : RF rfs rf) {fp0 : Int} (hfp : fp.toInt = fp0) {xe : XE} (hx : isRf xe.2.2) {Q : Int32 → (Int32 × Int32 × Int32 × Int32 × Int32 × Int32 × Int32 × Int32 × (Nat → Int32) × (Nat → Int32) × Int32 × Int32 × (Nat → Int32) × (Nat → Int32) × (Nat → Option Nat) × (Nat → Int32) × va_W) → Prop}
    (hq : ∀ (r la lc₉ len₉ tc₉ now₉ parts₉ ao₉ fp₉ : Int32) (tk₉ pl₉ : Nat → Int32) (dc₉ dl₉ : Int32) (dh₉ dcd₉ : Nat → Int32) (laws₉ : Nat → Option Nat) (rfs₉ : Nat → Int32) (nw : va_W), len₉ = 0 ∧ (0 ≤ tc₉.toInt ∧ tc₉.toInt ≤ 401) ∧ (0 ≤ ao₉.toInt ∧ ao₉.toInt ≤ 1) ∧ (0 ≤ dc₉.toInt ∧ dc₉.toInt ≤ 12) ∧ (0 ≤ dl₉.toInt ∧ dl₉.toInt ≤ 400) ∧ HD dh₉ ∧ CD dcd₉ ∧ r.toInt = lawR T w ∧ la.toInt = tlS (lawR T w) ∧ RF rfs₉ (tlR rf (lawR T w)) ∧ fp₉.toInt = lawFt T st w fp0 ∧ ((lawR T w < 0 ∧ nw = [] ∧ lc₉ = lc ∧ laws₉ = laws) ∨ (¬ lawR T w < 0 ∧ lawR T w = w 5 ∧ (rd_law T).1 = true ∧ ∃ x : TX, okT x ∧ nw = txc cs x ∧ lc.toInt < 6 ∧ lc₉ = lc + 1 ∧ laws₉ = va_up laws lc.toNatClampNeg (some x.1) ∧ XTx x.2.2.2.1 x.2.2.2.2.1 x.2.2.2.2.2.1 x.2.2.2.2.2.2.1 x.2.2.2.2.2.2.2.1 x.2.2.2.2.2.2.2.2 (rd_law T).2.2)) → Q r (la, lc₉, len₉, tc₉, now₉, parts₉, ao₉, fp₉, tk₉, pl₉, dc₉, dl₉, dh₉, dcd₉, laws₉, rfs₉, nw)) : wp_X11_law cs lc len tc now parts ao fp tp tk pl dc dl dh dcd laws rfs xe Q := by
  obtain ⟨M, hM⟩ : ∃ M : Nat, lc.toInt = (M : Int) := ⟨lc.toInt.toNat, by omega⟩
  refine cm_X11_law (Q1 := fun r u => ∃ (la lc₉ len₉ tc₉ now₉ parts₉ ao₉ fp₉ : Int32) (tk₉ pl₉ : Nat → Int32) (dc₉ dl₉ : Int32) (dh₉ dcd₉ : Nat → Int32) (laws₉ : Nat → Option Nat) (rfs₉ : Nat → Int32) (nw : va_W), u = (la, lc₉, len₉, tc₉, now₉, parts₉, ao₉, fp₉, tk₉, pl₉, dc₉, dl₉, dh₉, dcd₉, laws₉, rfs₉, nw) ∧ r.toInt = lawR T w ∧ la.toInt = tlS (lawR T w) ∧ RF rfs₉ (tlR rf (lawR T w)) ∧ fp₉.toInt = lawFt T st w fp0 ∧ ((lawR T w < 0 ∧ nw = []) ∨ (¬ lawR T w < 0 ∧ lawR T w = w 5 ∧ (rd_law T).1 = true ∧ ¬ nw = [] ∧ ∀ x : TX, nw = txc cs x → XTx x.2.2.2.1 x.2.2.2.2.1 x.2.2.2.2.2.1 x.2.2.2.2.2.2.1 x.2.2.2.2.2.2.2.1 x.2.2.2.2.2.2.2.2 (rd_law T).2.2)))
    (Q2 := fun _ u => ∃ (la lc₉ len₉ tc₉ now₉ parts₉ ao₉ fp₉ : Int32) (tk₉ pl₉ : Nat → Int32) (dc₉ dl₉ : Int32) (dh₉ dcd₉ : Nat → Int32) (laws₉ : Nat → Option Nat) (rfs₉ : Nat → Int32) (nw : va_W), u = (la, lc₉, len₉, tc₉, now₉, parts₉, ao₉, fp₉, tk₉, pl₉, dc₉, dl₉, dh₉, dcd₉, laws₉, rfs₉, nw) ∧ len₉ = 0 ∧ (0 ≤ tc₉.toInt ∧ tc₉.toInt ≤ 401) ∧ (0 ≤ ao₉.toInt ∧ ao₉.toInt ≤ 1) ∧ (0 ≤ dc₉.toInt ∧ dc₉.toInt ≤ 12) ∧ (0 ≤ dl₉.toInt ∧ dl₉.toInt ≤ 400) ∧ HD dh₉ ∧ CD dcd₉ ∧ ((nw = [] ∧ lc₉ = lc ∧ laws₉ = laws) ∨ ∃ x : TX, okT x ∧ nw = txc cs x ∧ lc.toInt < 6 ∧ lc₉ = lc + 1 ∧ laws₉ = va_up laws lc.toNatClampNeg (some x.1)))
    (x_claw hL hn h4 hM (by omega) hx (fun h6 => ?_) (fun m6 ok r tc₉ now₉ parts₉ dc₉ dl₉ tk₉ pl₉ dh₉ dcd₉ fh fk q1 q2 q3 nh nk k1 k2 => ?_) (fun m6 no tc₉ now₉ parts₉ fp₉ dc₉ dl₉ tk₉ pl₉ dh₉ dcd₉ k1 => ?_)) (s_X11_lawX (by omega) (by omega) hB htc hao hdc hdl hH hC hx (fun r la lc₉ len₉ tc₉ now₉ parts₉ ao₉ fp₉ tk₉ pl₉ dc₉ dl₉ dh₉ dcd₉ laws₉ rfs₉ nw k => ⟨_, _, _, _, _, _, _, _, _, _, _, _, _, _, _, _, _, rfl, k⟩)) (fun r u g1 g2 => ?_)
  · have z := lawR_6 (T := T) (st := st) (ls := fun _ => []) (fp := fp0) (show 6 ≤ w 5 by omega)
    refine ⟨_, _, _, _, _, _, _, _, _, _, _, _, _, _, _, _, _, rfl, ?_, ?_, ?_, ?_, Or.inl ⟨?_, rfl⟩⟩
    · rw [z.1]; decide
    · rw [z.1]; decide
    · rw [z.1]; unfold tlR; rw [if_pos (by decide)]; exact hF.up (by decide)
    · rw [z.2.2.2]; exact hfp
    · rw [z.1]; decide
  · have z := lawR_1 (T := T) (st := st) (ls := fun _ => []) (fp := fp0) (show ¬ 6 ≤ w 5 by omega) (by omega) ok
    refine ⟨_, _, _, _, _, _, _, _, _, _, _, _, _, _, _, _, _, rfl, ?_, ?_, ?_, ?_, Or.inr ⟨?_, z.1, ok, fun h => ?_, fun x e => ?_⟩⟩
    · rw [z.1]; omega
    · rw [z.1]; unfold tlS; rw [if_neg (by omega)]; rfl
    · rw [z.1]; unfold tlR; rw [if_neg (by omega)]; exact hF
    · rw [z.2.2.2]; decide
    · rw [z.1]; omega
    · cases h
    · obtain ⟨x1, x2, x3, x4, x5, x6, x7, x8, x9⟩ := x
      simp only [txc, List.cons.injEq, Prod.mk.injEq, Sum.inr.injEq, Sum.inl.injEq, Value.ref.injEq, Value.int.injEq, and_true, true_and] at e
      obtain ⟨⟨e1, e2, e3, e4, e5⟩, ⟨_, e6, e7⟩, _, e8, e9⟩ := e
      show XTx x4 x5 x6 x7 x8 x9 _
      rw [← e4, ← e5, ← e6, ← e7, ← e8, ← e9]
      exact k2
  · have z := lawR_0 (T := T) (st := st) (ls := fun _ => []) (fp := fp0) (show ¬ 6 ≤ w 5 by omega) no
    refine ⟨_, _, _, _, _, _, _, _, _, _, _, _, _, _, _, _, _, rfl, ?_, ?_, ?_, ?_, Or.inl ⟨?_, rfl⟩⟩
    · rw [z.1]; decide
    · rw [z.1]; decide
    · rw [z.1]; unfold tlR; rw [if_pos (by decide)]; exact hF.up (by decide)
    · rw [z.2.2.2]; exact k1
    · rw [z.1]; decide
  · obtain ⟨la, lc₉, len₉, tc₉, now₉, parts₉, ao₉, fp₉, tk₉, pl₉, dc₉, dl₉, dh₉, dcd₉, laws₉, rfs₉, nw, eu, k1, k2, k3, k4, k5⟩ := g1
    obtain ⟨la2, lc2, len2, tc2, now2, parts2, ao2, fp2, tk2, pl2, dc2, dl2, dh2, dcd2, laws2, rfs2, nw2, eu2, m1, m2, m3, m4, m5, m6, m7, m8⟩ := g2
    subst eu
    simp only [Prod.mk.injEq] at eu2
    obtain ⟨rfl, rfl, rfl, rfl, rfl, rfl, rfl, rfl, rfl, rfl, rfl, rfl, rfl, rfl, rfl, rfl, rfl⟩ := eu2
    refine hq _ _ _ _ _ _ _ _ _ _ _ _ _ _ _ _ _ _ ⟨m1, m2, m3, m4, m5, m6, m7, k1, k2, k3, k4, ?_⟩
    rcases k5 with ⟨k5, k6⟩ | ⟨k5, k6, k7, k8, k9⟩
    · rcases m8 with m8 | ⟨x, o1, o2, o3⟩
      · exact Or.inl ⟨k5, m8⟩
      · rw [o2] at k6; cases k6
    · rcases m8 with m8 | ⟨x, o1, o2, o3, o4, o5⟩
      · exact absurd m8.1 k8
      · exact Or.inr ⟨k5, k6, k7, x, o1, o2, o3, o4, o5, k9 x o2⟩
end
section
set_option maxRecDepth 100000 in
theorem s_X12_digz (a : Int32) (b : Int32) (h0_nUndo : Int32) (h0_ordered : Int32) (h0_law : Int32) (h0_broken : Int32) (h0_value : Int64) (h0_sum : Int64) (f_row : Nat → Int32) (f_set : Nat → Int64) (f_nOp : Nat → Int32) (f_nArg : Nat → Int32) (f_rest : Nat → Int64) (f_now : Nat → Int64) (f_undos : Nat → Int32) (f_sorts : Nat → Int32) (f_refusals : Nat → Int32) {w : Nat → Int} {U : UL} {rf : Nat → Int32} {ls : Nat → List Cls} (h_h0_nUndo : 0 ≤ h0_nUndo.toInt ∧ h0_nUndo.toInt ≤ 16) (h_h0_ordered : 0 ≤ h0_ordered.toInt ∧ h0_ordered.toInt ≤ 0) (h_h0_broken : 0 ≤ h0_broken.toInt ∧ h0_broken.toInt ≤ 1) (h_f_row : RLW f_row) (h_f_undos : UN f_undos) (h_f_sorts : SO f_sorts) (e_0 : RMw f_row w) (e_1 : RMu f_undos f_sorts h0_nUndo U) (e_2 : RML f_row ls) (e_3 : RF f_refusals rf) {Q : Int32 → (Int32 × Int32 × Int32 × Int32 × Int32 × Int64 × Int64 × (Nat → Int32) × (Nat → Int64) × (Nat → Int64) × (Nat → Int32) × (Nat → Int32) × (Nat → Int32)) → Prop} (hq : ∀ (r : Int32) (u_0 : Int32) (u_1 : Int32) (u_2 : Int32) (u_3 : Int32) (u_4 : Int32) (u_5 : Int64) (u_6 : Int64) (u_7 : Nat → Int32) (u_8 : Nat → Int64) (u_9 : Nat → Int64) (u_10 : Nat → Int32) (u_11 : Nat → Int32) (u_12 : Nat → Int32), (0 ≤ u_2.toInt ∧ u_2.toInt ≤ 16) ∧ (0 ≤ u_4.toInt ∧ u_4.toInt ≤ 1) ∧ (RLW u_7) ∧ (UN u_10) ∧ (SO u_11) ∧ (r.toInt = digR (lawW w ls) w a.toInt b.toInt) ∧ (RMw u_7 (digW (lawW w ls) w a.toInt b.toInt)) ∧ (RMu u_10 u_11 u_2 (rmU (digR (lawW w ls) w a.toInt b.toInt) 0 w U)) ∧ (RML u_7 ls) ∧ (u_1.toInt = tlS (digR (lawW w ls) w a.toInt b.toInt)) ∧ (RF u_12 (tlR rf (digR (lawW w ls) w a.toInt b.toInt))) → Q r (u_0, u_1, u_2, u_3, u_4, u_5, u_6, u_7, u_8, u_9, u_10, u_11, u_12)) : wp_X12_dig a b h0_nUndo h0_ordered h0_law h0_broken h0_value h0_sum f_row f_set f_nOp f_nArg f_rest f_now f_undos f_sorts f_refusals Q := by
  unfold wp_X12_dig
  refine s_X12_digNowz (ls := ls) a b h0_nUndo h0_ordered h0_law h0_broken h0_value h0_sum (f_row) (f_set) (f_nOp) (f_nArg) (f_rest) (f_now) (f_undos) (f_sorts) (by first | with_reducible assumption | exact ⟨by omega, by omega⟩) (by first | with_reducible assumption | exact ⟨by omega, by omega⟩) (by first | with_reducible assumption | exact ⟨by omega, by omega⟩) h_f_row h_f_undos h_f_sorts e_0 e_1 e_2 (fun r1 u2_0 u2_1 u2_2 u2_3 u2_4 u2_5 u2_6 u2_7 u2_8 u2_9 H3 => ?_)
  have j4 := H3.1
  have j5 := H3.2.1
  have j6 := H3.2.2.1
  have j7 := H3.2.2.2.1
  have j8 := H3.2.2.2.2.1
  have j9 := H3.2.2.2.2.2.1
  have j10 := H3.2.2.2.2.2.2.1
  have j11 := H3.2.2.2.2.2.2.2.1
  have j12 := H3.2.2.2.2.2.2.2.2.1
  have j13 := H3.2.2.2.2.2.2.2.2.2.1
  have j14 := H3.2.2.2.2.2.2.2.2.2.2
  refine un10_i ?_
  have t15 := i32_hi r1
  refine s_X12_tellz r1 (f_refusals) (by first | with_reducible assumption | exact ⟨by omega, by omega⟩) e_3 (fun r16 u17_0 u17_1 H18 => ?_)
  have j19 := H18.1
  have j20 := H18.2.1
  have j21 := H18.2.2
  refine un2_i ?_
  have k22 : Int32.toInt 0 = 0 := rfl
  have hR23 : digR (lawW w ls) w a.toInt b.toInt = (Int32.toInt r16) := by omega
  exact hq _ _ _ _ _ _ _ _ _ _ _ _ _ _ ⟨(by first | with_reducible assumption | exact ⟨by omega, by omega⟩), (by first | with_reducible assumption | exact ⟨by omega, by omega⟩), j7, j8, j9, hR23.symm, j11, j12, j13, (by rw [hR23]; exact j20), (by rw [hR23]; exact j21)⟩


set_option maxRecDepth 100000 in
theorem s_X12_haulz (a : Int32) (h0_nUndo : Int32) (h0_ordered : Int32) (h0_law : Int32) (h0_broken : Int32) (h0_value : Int64) (h0_sum : Int64) (f_row : Nat → Int32) (f_undos : Nat → Int32) (f_sorts : Nat → Int32) (f_set : Nat → Int64) (f_nOp : Nat → Int32) (f_nArg : Nat → Int32) (f_rest : Nat → Int64) (f_now : Nat → Int64) (f_refusals : Nat → Int32) {w : Nat → Int} {U : UL} {rf : Nat → Int32} {ls : Nat → List Cls} (h_h0_nUndo : 0 ≤ h0_nUndo.toInt ∧ h0_nUndo.toInt ≤ 16) (h_h0_ordered : 0 ≤ h0_ordered.toInt ∧ h0_ordered.toInt ≤ 0) (h_h0_broken : 0 ≤ h0_broken.toInt ∧ h0_broken.toInt ≤ 1) (h_f_row : RLW f_row) (h_f_undos : UN f_undos) (h_f_sorts : SO f_sorts) (e_0 : RMw f_row w) (e_1 : RMu f_undos f_sorts h0_nUndo U) (e_2 : RML f_row ls) (e_3 : RF f_refusals rf) {Q : Int32 → (Int32 × Int32 × Int32 × Int32 × Int32 × Int64 × Int64 × (Nat → Int32) × (Nat → Int32) × (Nat → Int32) × (Nat → Int64) × (Nat → Int64) × (Nat → Int32)) → Prop} (hq : ∀ (r : Int32) (u_0 : Int32) (u_1 : Int32) (u_2 : Int32) (u_3 : Int32) (u_4 : Int32) (u_5 : Int64) (u_6 : Int64) (u_7 : Nat → Int32) (u_8 : Nat → Int32) (u_9 : Nat → Int32) (u_10 : Nat → Int64) (u_11 : Nat → Int64) (u_12 : Nat → Int32), (0 ≤ u_2.toInt ∧ u_2.toInt ≤ 16) ∧ (0 ≤ u_4.toInt ∧ u_4.toInt ≤ 1) ∧ (RLW u_7) ∧ (UN u_8) ∧ (SO u_9) ∧ (r.toInt = haulR (lawW w ls) w a.toInt) ∧ (RMw u_7 (haulW (lawW w ls) w a.toInt)) ∧ (RMu u_8 u_9 u_2 (rmU (haulR (lawW w ls) w a.toInt) 1 w U)) ∧ (RML u_7 ls) ∧ (u_1.toInt = tlS (haulR (lawW w ls) w a.toInt)) ∧ (RF u_12 (tlR rf (haulR (lawW w ls) w a.toInt))) → Q r (u_0, u_1, u_2, u_3, u_4, u_5, u_6, u_7, u_8, u_9, u_10, u_11, u_12)) : wp_X12_haul a h0_nUndo h0_ordered h0_law h0_broken h0_value h0_sum f_row f_undos f_sorts f_set f_nOp f_nArg f_rest f_now f_refusals Q := by
  unfold wp_X12_haul
  refine s_X12_haulNowz (ls := ls) a h0_nUndo h0_ordered h0_law h0_broken h0_value h0_sum (f_row) (f_undos) (f_sorts) (f_set) (f_nOp) (f_nArg) (f_rest) (f_now) (by first | with_reducible assumption | exact ⟨by omega, by omega⟩) (by first | with_reducible assumption | exact ⟨by omega, by omega⟩) (by first | with_reducible assumption | exact ⟨by omega, by omega⟩) h_f_row h_f_undos h_f_sorts e_0 e_1 e_2 (fun r1 u2_0 u2_1 u2_2 u2_3 u2_4 u2_5 u2_6 u2_7 u2_8 u2_9 H3 => ?_)
  have j4 := H3.1
  have j5 := H3.2.1
  have j6 := H3.2.2.1
  have j7 := H3.2.2.2.1
  have j8 := H3.2.2.2.2.1
  have j9 := H3.2.2.2.2.2.1
  have j10 := H3.2.2.2.2.2.2.1
  have j11 := H3.2.2.2.2.2.2.2.1
  have j12 := H3.2.2.2.2.2.2.2.2.1
  have j13 := H3.2.2.2.2.2.2.2.2.2.1
  have j14 := H3.2.2.2.2.2.2.2.2.2.2
  refine un10_i ?_
  have t15 := i32_hi r1
  refine s_X12_tellz r1 (f_refusals) (by first | with_reducible assumption | exact ⟨by omega, by omega⟩) e_3 (fun r16 u17_0 u17_1 H18 => ?_)
  have j19 := H18.1
  have j20 := H18.2.1
  have j21 := H18.2.2
  refine un2_i ?_
  have k22 : Int32.toInt 0 = 0 := rfl
  have hR23 : haulR (lawW w ls) w a.toInt = (Int32.toInt r16) := by omega
  exact hq _ _ _ _ _ _ _ _ _ _ _ _ _ _ ⟨(by first | with_reducible assumption | exact ⟨by omega, by omega⟩), (by first | with_reducible assumption | exact ⟨by omega, by omega⟩), j7, j8, j9, hR23.symm, j11, j12, j13, (by rw [hR23]; exact j20), (by rw [hR23]; exact j21)⟩


set_option maxRecDepth 100000 in
theorem s_X12_hushz (a : Int32) (h0_nUndo : Int32) (f_row : Nat → Int32) (f_undos : Nat → Int32) (f_sorts : Nat → Int32) (f_refusals : Nat → Int32) {w : Nat → Int} {U : UL} {rf : Nat → Int32} {ls : Nat → List Cls} (h_h0_nUndo : 0 ≤ h0_nUndo.toInt ∧ h0_nUndo.toInt ≤ 16) (h_f_row : RLW f_row) (h_f_undos : UN f_undos) (h_f_sorts : SO f_sorts) (e_0 : RMw f_row w) (e_1 : RMu f_undos f_sorts h0_nUndo U) (e_2 : RML f_row ls) (e_3 : RF f_refusals rf) {Q : Int32 → (Int32 × Int32 × Int32 × (Nat → Int32) × (Nat → Int32) × (Nat → Int32) × (Nat → Int32)) → Prop} (hq : ∀ (r : Int32) (u_0 : Int32) (u_1 : Int32) (u_2 : Int32) (u_3 : Nat → Int32) (u_4 : Nat → Int32) (u_5 : Nat → Int32) (u_6 : Nat → Int32), (0 ≤ u_2.toInt ∧ u_2.toInt ≤ 16) ∧ (RLW u_3) ∧ (UN u_4) ∧ (SO u_5) ∧ (r.toInt = hushR w a.toInt) ∧ (RMw u_3 (hushW w a.toInt)) ∧ (RMu u_4 u_5 u_2 (rmU (hushR w a.toInt) 2 w U)) ∧ (RML u_3 ls) ∧ (u_1.toInt = tlS (hushR w a.toInt)) ∧ (RF u_6 (tlR rf (hushR w a.toInt))) → Q r (u_0, u_1, u_2, u_3, u_4, u_5, u_6)) : wp_X12_hush a h0_nUndo f_row f_undos f_sorts f_refusals Q := by
  unfold wp_X12_hush
  refine s_X12_hushNowz (ls := ls) a h0_nUndo (f_row) (f_undos) (f_sorts) (by first | with_reducible assumption | exact ⟨by omega, by omega⟩) h_f_row h_f_undos h_f_sorts e_0 e_1 e_2 (fun r1 u2_0 u2_1 u2_2 u2_3 H3 => ?_)
  have j4 := H3.1
  have j5 := H3.2.1
  have j6 := H3.2.2.1
  have j7 := H3.2.2.2.1
  have j8 := H3.2.2.2.2.1
  have j9 := H3.2.2.2.2.2.1
  have j10 := H3.2.2.2.2.2.2.1
  have j11 := H3.2.2.2.2.2.2.2.1
  have j12 := H3.2.2.2.2.2.2.2.2.1
  have j13 := H3.2.2.2.2.2.2.2.2.2
  refine un4_i ?_
  have t14 := i32_hi r1
  refine s_X12_tellz r1 (f_refusals) (by first | with_reducible assumption | exact ⟨by omega, by omega⟩) e_3 (fun r15 u16_0 u16_1 H17 => ?_)
  have j18 := H17.1
  have j19 := H17.2.1
  have j20 := H17.2.2
  refine un2_i ?_
  have k21 : Int32.toInt 0 = 0 := rfl
  have hR22 : hushR w a.toInt = (Int32.toInt r15) := by omega
  exact hq _ _ _ _ _ _ _ _ ⟨(by first | with_reducible assumption | exact ⟨by omega, by omega⟩), j6, j7, j8, hR22.symm, j10, j11, j12, (by rw [hR22]; exact j19), (by rw [hR22]; exact j20)⟩


set_option maxRecDepth 100000 in
theorem s_X12_liez (a : Int32) (b : Int32) (h0_nUndo : Int32) (f_row : Nat → Int32) (f_undos : Nat → Int32) (f_sorts : Nat → Int32) (f_refusals : Nat → Int32) {w : Nat → Int} {U : UL} {rf : Nat → Int32} {ls : Nat → List Cls} (h_h0_nUndo : 0 ≤ h0_nUndo.toInt ∧ h0_nUndo.toInt ≤ 16) (h_f_row : RLW f_row) (h_f_undos : UN f_undos) (h_f_sorts : SO f_sorts) (e_0 : RMw f_row w) (e_1 : RMu f_undos f_sorts h0_nUndo U) (e_2 : RML f_row ls) (e_3 : RF f_refusals rf) {Q : Int32 → (Int32 × Int32 × Int32 × (Nat → Int32) × (Nat → Int32) × (Nat → Int32) × (Nat → Int32)) → Prop} (hq : ∀ (r : Int32) (u_0 : Int32) (u_1 : Int32) (u_2 : Int32) (u_3 : Nat → Int32) (u_4 : Nat → Int32) (u_5 : Nat → Int32) (u_6 : Nat → Int32), (0 ≤ u_2.toInt ∧ u_2.toInt ≤ 16) ∧ (RLW u_3) ∧ (UN u_4) ∧ (SO u_5) ∧ (r.toInt = lieR w a.toInt b.toInt) ∧ (RMw u_3 (lieW w a.toInt b.toInt)) ∧ (RMu u_4 u_5 u_2 (rmU (lieR w a.toInt b.toInt) 3 w U)) ∧ (RML u_3 ls) ∧ (u_1.toInt = tlS (lieR w a.toInt b.toInt)) ∧ (RF u_6 (tlR rf (lieR w a.toInt b.toInt))) → Q r (u_0, u_1, u_2, u_3, u_4, u_5, u_6)) : wp_X12_lie a b h0_nUndo f_row f_undos f_sorts f_refusals Q := by
  unfold wp_X12_lie
  refine s_X12_lieNowz (ls := ls) a b h0_nUndo (f_row) (f_undos) (f_sorts) (by first | with_reducible assumption | exact ⟨by omega, by omega⟩) h_f_row h_f_undos h_f_sorts e_0 e_1 e_2 (fun r1 u2_0 u2_1 u2_2 u2_3 H3 => ?_)
  have j4 := H3.1
  have j5 := H3.2.1
  have j6 := H3.2.2.1
  have j7 := H3.2.2.2.1
  have j8 := H3.2.2.2.2.1
  have j9 := H3.2.2.2.2.2.1
  have j10 := H3.2.2.2.2.2.2.1
  have j11 := H3.2.2.2.2.2.2.2.1
  have j12 := H3.2.2.2.2.2.2.2.2.1
  have j13 := H3.2.2.2.2.2.2.2.2.2
  refine un4_i ?_
  have t14 := i32_hi r1
  refine s_X12_tellz r1 (f_refusals) (by first | with_reducible assumption | exact ⟨by omega, by omega⟩) e_3 (fun r15 u16_0 u16_1 H17 => ?_)
  have j18 := H17.1
  have j19 := H17.2.1
  have j20 := H17.2.2
  refine un2_i ?_
  have k21 : Int32.toInt 0 = 0 := rfl
  have hR22 : lieR w a.toInt b.toInt = (Int32.toInt r15) := by omega
  exact hq _ _ _ _ _ _ _ _ ⟨(by first | with_reducible assumption | exact ⟨by omega, by omega⟩), j6, j7, j8, hR22.symm, j10, j11, j12, (by rw [hR22]; exact j19), (by rw [hR22]; exact j20)⟩
end
section
/-! the told state: the laws of the class -/
abbrev ODr : Type := Option (Nat → Int)
/-! the laws of the class, each with the CLAUSES it holds -/
def LWZ (txs : List TX) (f : Nat → Option Nat) (lc : Int32) (ls : Nat → List Cls) : Prop := ∀ k : Nat, (k : Int) < lc.toInt → ∃ x ∈ txs, f k = some x.1 ∧ XTx x.2.2.2.1 x.2.2.2.2.1 x.2.2.2.2.2.1 x.2.2.2.2.2.2.1 x.2.2.2.2.2.2.2.1 x.2.2.2.2.2.2.2.2 (ls k) ∧ ∀ q ∈ ls k, okC q
theorem LWZ.cp {txs : List TX} {f g : Nat → Option Nat} {lc lc₉ : Int32} {ls : Nat → List Cls} (h : LWZ txs f lc ls) (h6 : lc.toInt ≤ 6) (hg : ∀ k, k < 6 → g k = f k) (e : lc₉ = lc) : LWZ txs g lc₉ ls := by
  subst e
  intro k hk
  rw [hg k (by omega)]
  exact h k hk
theorem LWZ.more {txs : List TX} {x : TX} {f : Nat → Option Nat} {lc : Int32} {ls : Nat → List Cls} (h : LWZ txs f lc ls) : LWZ (x :: txs) f lc ls := fun k hk => by
  obtain ⟨y, hy, e⟩ := h k hk
  exact ⟨y, List.mem_cons_of_mem _ hy, e⟩
theorem LWZ.push {txs : List TX} {x : TX} {f : Nat → Option Nat} {lc lc₉ : Int32} {ls ls₉ : Nat → List Cls} {f₉ : Nat → Option Nat} {L : List Cls} (h : LWZ txs f lc ls) (h0 : 0 ≤ lc.toInt) (h6 : lc.toInt < 6) (e1 : lc₉ = lc + 1) (e2 : f₉ = va_up f lc.toNatClampNeg (some x.1)) (hX : XTx x.2.2.2.1 x.2.2.2.2.1 x.2.2.2.2.2.1 x.2.2.2.2.2.2.1 x.2.2.2.2.2.2.2.1 x.2.2.2.2.2.2.2.2 L) (hL : ∀ q ∈ L, okC q) (es : ls₉ = fun k => if k = lc.toInt.toNat then L else ls k) : LWZ (x :: txs) f₉ lc₉ ls₉ := by
  subst e1
  subst e2
  subst es
  have e : (lc + 1).toInt = lc.toInt + 1 := add_z (a := lc) (b := 1) rfl rfl (by omega) (by omega)
  have en : lc.toInt.toNat = lc.toNatClampNeg := rfl
  have n := tnz (i := lc) (x := lc.toInt) rfl h0
  intro k hk
  by_cases c : k = lc.toNatClampNeg
  · have z : (if k = lc.toInt.toNat then L else ls k) = L := if_pos (by rw [en]; exact c)
    refine ⟨x, List.mem_cons_self, by rw [c, vu_s], ?_⟩
    show XTx _ _ _ _ _ _ (if k = lc.toInt.toNat then L else ls k) ∧ ∀ q ∈ (if k = lc.toInt.toNat then L else ls k), okC q
    rw [z]
    exact ⟨hX, hL⟩
  · obtain ⟨y, hy, q1, q2, q3⟩ := h k (by omega)
    have z : (if k = lc.toInt.toNat then L else ls k) = ls k := if_neg (by rw [en]; exact c)
    refine ⟨y, List.mem_cons_of_mem _ hy, by rw [vu_n c]; exact q1, ?_⟩
    show XTx _ _ _ _ _ _ (if k = lc.toInt.toNat then L else ls k) ∧ ∀ q ∈ (if k = lc.toInt.toNat then L else ls k), okC q
    rw [z]
    exact ⟨q2, q3⟩
theorem LWZ.cs {txs : List TX} {f : Nat → Option Nat} {lc fo : Int32} {ls : Nat → List Cls} {z : Int} (h : LWZ txs f lc ls) (hf : fo.toInt < lc.toInt) (h6 : lc.toInt ≤ 6) (h1 : -1 ≤ fo.toInt) (hz : fo.toInt = z) : fo.toInt = -1 ∨ (0 ≤ fo.toInt ∧ fo.toInt ≤ 5 ∧ ∃ (a b : List TX) (x : TX), txs = a ++ x :: b ∧ f (Int32.toNatClampNeg fo) = some x.1 ∧ XTx x.2.2.2.1 x.2.2.2.2.1 x.2.2.2.2.2.1 x.2.2.2.2.2.2.1 x.2.2.2.2.2.2.2.1 x.2.2.2.2.2.2.2.2 (ls z.toNat) ∧ ∀ q ∈ ls z.toNat, okC q) := by
  by_cases c : fo.toInt = -1
  · exact Or.inl c
  · have en : fo.toInt.toNat = fo.toNatClampNeg := rfl
    have n := tnz (i := fo) (x := fo.toInt) rfl (by omega)
    obtain ⟨x, hx, e1, e2⟩ := h fo.toNatClampNeg (by omega)
    obtain ⟨a, b, e3⟩ := List.append_of_mem hx
    rw [← en, hz] at e2
    exact Or.inr ⟨by omega, by omega, a, b, x, e3, e1, e2⟩
theorem LWZ.bak {txs : List TX} {f f0 f1 g : Nat → Option Nat} {lc l0 l1 lc₉ fo fo0 fo1 fo₉ : Int32} {ls L0 L1 : Nat → List Cls} {kp : Nat → Int32} {a : Int32} (h : LWZ txs f lc ls) (h6 : lc.toInt ≤ 6) (hk0 : kp 0 ≠ 0 → LWZ txs f0 l0 L0) (hk1 : kp 1 ≠ 0 → LWZ txs f1 l1 L1) (h60 : l0.toInt ≤ 6) (h61 : l1.toInt ≤ 6) (q : (bakR kp a.toInt < 0 → ((∀ k, k < 6 → g k = f k) ∧ lc₉ = lc ∧ fo₉ = fo)) ∧ (¬ bakR kp a.toInt < 0 → (a.toInt = 0 → ((∀ k, k < 6 → g k = f0 k) ∧ lc₉ = l0 ∧ fo₉ = fo0)) ∧ (¬ a.toInt = 0 → ((∀ k, k < 6 → g k = f1 k) ∧ lc₉ = l1 ∧ fo₉ = fo1)))) : LWZ txs g lc₉ (bakL kp a.toInt L0 L1 ls) := by
  by_cases c : bakR kp a.toInt < 0
  · have q2 := q.1 c
    unfold bakL
    rw [if_pos c]
    exact h.cp h6 q2.1 q2.2.1
  · have q2 := q.2 c
    have b0 : ¬ (a.toInt < 0 ∨ 2 ≤ a.toInt) := fun d => c (by rw [bakR_n d]; decide)
    have kk : ¬ kp a.toInt.toNat = 0 := fun d => c (by unfold bakR; rw [if_neg b0, if_pos d]; decide)
    unfold bakL
    rw [if_neg c]
    by_cases d : a.toInt = 0
    · rw [if_pos d]
      rw [d] at kk
      exact (hk0 kk).cp h60 (q2.1 d).1 (q2.1 d).2.1
    · rw [if_neg d]
      have d1 : a.toInt = 1 := by omega
      rw [d1] at kk
      exact (hk1 kk).cp h61 (q2.2 d).1 (q2.2 d).2.1
theorem LWZ.img {txs : List TX} {f g : Nat → Option Nat} {f0 : Nat → Option Nat} {lc l0 lc₉ fo fo0 fo₉ : Int32} {ls L0 : Nat → List Cls} {kp : Nat → Int32} {a : Int32} {k : Nat} (h : LWZ txs f lc ls) (h6 : lc.toInt ≤ 6) (hk : kp k ≠ 0 → LWZ txs f0 l0 L0) (h60 : l0.toInt ≤ 6) (q : (a.toInt = (k : Int) → ((∀ k, k < 6 → g k = f k) ∧ lc₉ = lc ∧ fo₉ = fo)) ∧ (¬ a.toInt = (k : Int) → ((∀ k, k < 6 → g k = f0 k) ∧ lc₉ = l0 ∧ fo₉ = fo0))) : kpI a kp k ≠ 0 → LWZ txs g lc₉ (imgL a.toInt (k : Int) ls L0) := by
  intro hkk
  by_cases c : a.toInt = (k : Int)
  · rw [imgL_y c]
    exact h.cp h6 (q.1 c).1 (q.1 c).2.1
  · rw [imgL_n c]
    refine LWZ.cp (hk ?_) h60 (q.2 c).1 (q.2 c).2.1
    by_cases d : 0 ≤ a.toInt ∧ a.toInt ≤ 1
    · rw [← kp_p d.1 d.2] at hkk
      have en : a.toInt.toNat = a.toNatClampNeg := rfl
      have z : upd kp a.toNatClampNeg 1 k = kp k := if_neg (by omega)
      rw [z] at hkk
      exact hkk
    · rw [← kp_n (by omega)] at hkk
      exact hkk
/-! what law() of the class makes of the plain state -/
theorem z_law_w {T : Nat → Int} {w : Nat → Int} (h : lawR T w < 0) : lawWw T w = w := if_pos h
theorem z_law_w1 {T : Nat → Int} {w : Nat → Int} (h : ¬ lawR T w < 0) : lawWw T w = uI w 5 (w 5 + 1) := if_neg h
theorem z_law_l {T : Nat → Int} {w : Nat → Int} {ls : Nat → List Cls} (h : lawR T w < 0) : lawLs T w ls = ls := if_pos h
theorem z_law_l1 {T : Nat → Int} {w : Nat → Int} {ls : Nat → List Cls} (h : ¬ lawR T w < 0) : lawLs T w ls = fun k => if k = (w 5).toNat then (rd_law T).2.2 else ls k := if_neg h
theorem z_law_rx0 {T : Nat → Int} {kd hd wt : Nat → Int32} {dg : Int64} {ce bu : Nat → Int32} {cc : Int32} {co ea : Nat → Int32} {ls : Int32} {nc nl : Nat → Int32} {ns hu : Int32} {hc hl : Nat → Int32} {hs : Int32} {so we : Nat → Int32} {wl : Int32} {te : Nat → Int32} {lc fo : Int32} {w : Nat → Int} {lc₉ : Int32} (h : RXw kd hd wt dg ce bu cc co ea ls nc nl ns hu hc hl hs so we wl te lc fo w) (q : lawR T w < 0) (e : lc₉ = lc) : RXw kd hd wt dg ce bu cc co ea ls nc nl ns hu hc hl hs so we wl te lc₉ fo (lawWw T w) := by
  rw [z_law_w q, e]; exact h
theorem z_law_rx1 {T : Nat → Int} {kd hd wt : Nat → Int32} {dg : Int64} {ce bu : Nat → Int32} {cc : Int32} {co ea : Nat → Int32} {ls : Int32} {nc nl : Nat → Int32} {ns hu : Int32} {hc hl : Nat → Int32} {hs : Int32} {so we : Nat → Int32} {wl : Int32} {te : Nat → Int32} {lc fo : Int32} {w : Nat → Int} {lc₉ : Int32} (h : RXw kd hd wt dg ce bu cc co ea ls nc nl ns hu hc hl hs so we wl te lc fo w) (q : ¬ lawR T w < 0) (h0 : 0 ≤ lc.toInt) (h6 : lc.toInt < 6) (e : lc₉ = lc + 1) : RXw kd hd wt dg ce bu cc co ea ls nc nl ns hu hc hl hs so we wl te lc₉ fo (lawWw T w) := by
  have e5 : lc.toInt = w 5 := h.lc
  rw [z_law_w1 q, e]
  exact RXw.u_lc h (by rw [add_z e5 (b := 1) (y := 1) rfl (by omega) (by omega)])
theorem z_law_ru {T : Nat → Int} {de wh be bb db : Nat → Int32} {kp lt : Int32} {w : Nat → Int} {U : UL} (hD : DI de wh be bb db) (h : RXu de wh be bb db kp lt w U) : RXu de wh be bb db kp lt (lawWw T w) U := by
  refine RXu.ext hD h (fun j h7 h1 => ?_)
  unfold lawWw
  split
  · rfl
  · exact uI_n (by omega)
theorem z_force_lt {w : Nat → Int} {a : Int} {fo₉ lc : Int32} (hf : fo₉.toInt = forceW w a 6) (h5 : lc.toInt = w 5) (h : w 6 < w 5) : fo₉.toInt < lc.toInt := by
  by_cases c : a < -1 ∨ w 5 ≤ a
  · have e : forceB w a = -2 := if_pos c
    have e2 : forceW w a = w := if_pos (by rw [e]; decide)
    rw [e2] at hf
    omega
  · have e : forceB w a = 0 := if_neg c
    have e2 : forceW w a = uI w 6 a := if_neg (by rw [e]; decide)
    rw [e2, uI_s] at hf
    omega
end
section
theorem fdL_r {x : Int32} (h : 0 ≤ x.toInt ∧ x.toInt ≤ 400) : 0 ≤ (fdL x).toInt ∧ (fdL x).toInt ≤ 400 := by
  unfold fdL
  by_cases c : x.toInt + 20 ≤ 400
  · rw [if_pos c, add_z (a := x) (b := 20) (y := 20) rfl rfl (by omega) (by omega)]; omega
  · rw [if_neg c]; exact h
set_option maxRecDepth 100000 in
theorem s_X11_feedz (a : Int32) (b : Int32) (d : Int32) (g : Int32) (k : Int32) (h0_reader_length : Int32) (f_h0_reader_bytes : Nat → Int32) (h_h0_reader_length : 0 ≤ h0_reader_length.toInt ∧ h0_reader_length.toInt ≤ 400) (h_f_h0_reader_bytes : BY f_h0_reader_bytes) {Q : Int32 → (Int32 × (Nat → Int32)) → Prop} (hq : ∀ (r : Int32) (u_0 : Int32) (u_1 : Nat → Int32), (0 ≤ u_0.toInt ∧ u_0.toInt ≤ 400) ∧ (BY u_1) ∧ (r = fdR h0_reader_length ∧ u_0 = fdL h0_reader_length) ∧ (u_1 = fdT a b d g k h0_reader_length f_h0_reader_bytes) → Q r (u_0, u_1)) : wp_X11_feed a b d g k h0_reader_length f_h0_reader_bytes Q := by
  refine x_feedx (by first | with_reducible assumption | exact ⟨by omega, by omega⟩) (hq _ _ _ ⟨?_, BY.fd h_f_h0_reader_bytes, ⟨rfl, rfl⟩, rfl⟩)
  exact fdL_r h_h0_reader_length


set_option maxRecDepth 100000 in
theorem s_X11_rowz (h0_latestMud : Int32) (h0_reader_length : Int32) (h0_site_world_rock_dug : Int64) (f_h0_reader_bytes : Nat → Int32) (f_h0_site_world_rock_kind : Nat → Int32) (f_h0_site_world_rock_hard : Nat → Int32) (f_h0_site_world_rock_water : Nat → Int32) (h0_site_diary_kept : Int32) (f_h0_refusals : Nat → Int32) {w : Nat → Int} {U : UL} {rf : Nat → Int32} {md : Int} {g_ce : Nat → Int32} {g_bu : Nat → Int32} {g_cc : Int32} {g_co : Nat → Int32} {g_ea : Nat → Int32} {g_ls : Int32} {g_nc : Nat → Int32} {g_nl : Nat → Int32} {g_ns : Int32} {g_hu : Int32} {g_hc : Nat → Int32} {g_hl : Nat → Int32} {g_hs : Int32} {g_so : Nat → Int32} {g_we : Nat → Int32} {g_wl : Int32} {g_te : Nat → Int32} {g_lc : Int32} {g_fo : Int32} {gd_deed : Nat → Int32} {gd_whose : Nat → Int32} {gd_before : Nat → Int32} {gd_bucketsBefore : Nat → Int32} {gd_dayBefore : Nat → Int32} {gd_latest : Int32} (h_h0_reader_length : 0 ≤ h0_reader_length.toInt ∧ h0_reader_length.toInt ≤ 400) (h_f_h0_reader_bytes : BY f_h0_reader_bytes) (h_f_h0_site_world_rock_kind : KI f_h0_site_world_rock_kind) (h_f_h0_site_world_rock_hard : HA f_h0_site_world_rock_hard) (h_f_h0_site_world_rock_water : WA f_h0_site_world_rock_water) (h_h0_site_diary_kept : 0 ≤ h0_site_diary_kept.toInt ∧ h0_site_diary_kept.toInt ≤ 16) (e_0 : RXw f_h0_site_world_rock_kind f_h0_site_world_rock_hard f_h0_site_world_rock_water h0_site_world_rock_dug g_ce g_bu g_cc g_co g_ea g_ls g_nc g_nl g_ns g_hu g_hc g_hl g_hs g_so g_we g_wl g_te g_lc g_fo w) (e_1 : RXu gd_deed gd_whose gd_before gd_bucketsBefore gd_dayBefore h0_site_diary_kept gd_latest w U) (e_2 : RF f_h0_refusals rf) (e_3 : h0_latestMud.toInt = md) {Q : Int32 → (Int32 × Int32 × Int32 × (Nat → Int32) × (Nat → Int32) × (Nat → Int32) × Int32 × (Nat → Int32)) → Prop} (hq : ∀ (r : Int32) (u_0 : Int32) (u_1 : Int32) (u_2 : Int32) (u_3 : Nat → Int32) (u_4 : Nat → Int32) (u_5 : Nat → Int32) (u_6 : Int32) (u_7 : Nat → Int32), (0 ≤ u_2.toInt ∧ u_2.toInt ≤ 400) ∧ (KI u_3) ∧ (HA u_4) ∧ (WA u_5) ∧ (0 ≤ u_6.toInt ∧ u_6.toInt ≤ 16) ∧ (r.toInt = rowR (fun j => (f_h0_reader_bytes j).toInt) (h0_reader_length.toInt).toNat w) ∧ (RXw u_3 u_4 u_5 h0_site_world_rock_dug g_ce g_bu g_cc g_co g_ea g_ls g_nc g_nl g_ns g_hu g_hc g_hl g_hs g_so g_we g_wl g_te g_lc g_fo (rowW (fun j => (f_h0_reader_bytes j).toInt) (h0_reader_length.toInt).toNat w)) ∧ (RXu gd_deed gd_whose gd_before gd_bucketsBefore gd_dayBefore u_6 gd_latest (rowW (fun j => (f_h0_reader_bytes j).toInt) (h0_reader_length.toInt).toNat w) (rowU (h0_reader_length.toInt).toNat U)) ∧ (u_1.toInt = tlS (rowR (fun j => (f_h0_reader_bytes j).toInt) (h0_reader_length.toInt).toNat w)) ∧ (RF u_7 (tlR rf (rowR (fun j => (f_h0_reader_bytes j).toInt) (h0_reader_length.toInt).toNat w))) ∧ (u_0.toInt = rowM (fun j => (f_h0_reader_bytes j).toInt) (h0_reader_length.toInt).toNat w md) ∧ (u_2.toInt = 0) → Q r (u_0, u_1, u_2, u_3, u_4, u_5, u_6, u_7)) : wp_X11_row h0_latestMud h0_reader_length h0_site_world_rock_dug f_h0_reader_bytes f_h0_site_world_rock_kind f_h0_site_world_rock_hard f_h0_site_world_rock_water h0_site_diary_kept f_h0_refusals Q := by
  refine x_rowc (n := (h0_reader_length.toInt).toNat) (by omega) (by omega) e_0 h_f_h0_site_world_rock_kind h_f_h0_site_world_rock_hard h_f_h0_site_world_rock_water e_1 e_2 e_3 (fun r mud la kp kd hd wt rfs k1 k2 k3 k4 k5 k6 k7 k8 k9 => hq _ _ _ _ _ _ _ _ _ ⟨(by decide), k4, k5, k6, ⟨by have q := k8.1; have q2 := k8.2.1; omega, by have q := k8.1; have q2 := k8.2.1; omega⟩, k1, k7, k8, k3, k9, k2, rfl⟩)


set_option maxRecDepth 100000 in
theorem s_X11_mudz (h0_latestMud : Int32) {md : Int} (e_0 : h0_latestMud.toInt = md) {Q : Int32 → Prop} (hq : ∀ (r : Int32), (r.toInt = md) → Q r) : wp_X11_mud h0_latestMud Q := by
  unfold wp_X11_mud
  exact hq _ e_0


set_option maxRecDepth 100000 in
theorem s_X11_stoppedz (h0_stoppedAt : Int32) {sp : Int} (e_0 : h0_stoppedAt.toInt = sp) {Q : Int32 → Prop} (hq : ∀ (r : Int32), (r.toInt = sp) → Q r) : wp_X11_stopped h0_stoppedAt Q := by
  unfold wp_X11_stopped
  exact hq _ e_0


set_option maxRecDepth 100000 in
theorem s_X11_faultz (h0_reader_faultPlace : Int32) {ft : Int} (e_0 : h0_reader_faultPlace.toInt = ft) {Q : Int32 → Prop} (hq : ∀ (r : Int32), (r.toInt = ft) → Q r) : wp_X11_fault h0_reader_faultPlace Q := by
  unfold wp_X11_fault
  exact hq _ e_0


set_option maxRecDepth 100000 in
theorem s_X11_statusz (h0_latestRefusal : Int32) {la : Int} (e_0 : h0_latestRefusal.toInt = la) {Q : Int32 → Prop} (hq : ∀ (r : Int32), (r.toInt = la) → Q r) : wp_X11_status h0_latestRefusal Q := by
  unfold wp_X11_status
  exact hq _ e_0
end
section
/-! drawn, of both sides: exactly -/
def drwR (D : Option (Nat → Int)) (a b : Int) : Int := match D with
  | none => -1
  | some w => if b < 0 ∨ 2 < b then -1 else if b = 2 then w 7 else if a < 0 ∨ w 0 ≤ a then -1 else if b = 0 then w (10 + a.toNat) else w (16 + a.toNat)
theorem drwR_s {w : Nat → Int} {a b : Int} : drwR (some w) a b = if b < 0 ∨ 2 < b then -1 else if b = 2 then w 7 else if a < 0 ∨ w 0 ≤ a then -1 else if b = 0 then w (10 + a.toNat) else w (16 + a.toNat) := rfl
theorem x_drawnc {a b dd cc : Int32} {bu ce : Nat → Int32} {D : Option (Nat → Int)} (hD : RXn dd cc ce bu D) {Q : Int32 → Prop} (hq : ∀ r : Int32, r.toInt = drwR D a.toInt b.toInt → Q r) : wp_X11_drawn a b dd cc bu ce Q := by
  unfold wp_X11_drawn
  have m1 : (-1 : Int32).toInt = -1 := by decide
  cases D with
  | none =>
    have e : dd.toInt = -1 := hD
    exact br1 (z_eq e m1 rfl) (hq _ m1)
  | some w =>
    obtain ⟨e1, e2, ⟨e3, e4, e5⟩, e6, e7⟩ := hD
    refine br0 (z_ne e1 m1 (by omega)) ?_
    by_cases c1 : b < 0
    · have c1₉ := lt_z (x := b.toInt) (y := 0) rfl rfl c1
      exact br1 c1 (hq _ (by rw [drwR_s, if_pos (Or.inl c1₉)]; exact m1))
    · have c1₉ := nlt_z (x := b.toInt) (y := 0) rfl rfl c1
      refine br0 c1 ?_
      by_cases c2 : b ≤ 2
      · have c2₉ := le_z (x := b.toInt) (y := 2) rfl rfl c2
        refine br1 c2 ?_
        by_cases c3 : b = 2
        · have c3₉ := eq_z (x := b.toInt) (y := 2) rfl rfl c3
          exact br1 c3 (hq _ (by rw [drwR_s, if_neg (by omega), if_pos c3₉]; exact e1))
        · have c3₉ := ne_z (x := b.toInt) (y := 2) rfl rfl c3
          refine br0 c3 ?_
          unfold wp_X11_isWithin
          by_cases d1 : a < 0
          · have d1₉ := lt_z (x := a.toInt) (y := 0) rfl rfl d1
            exact br1 d1 (br1 rfl (hq _ (by rw [drwR_s, if_neg (by omega), if_neg c3₉, if_pos (Or.inl d1₉)]; exact m1)))
          · have d1₉ := nlt_z (x := a.toInt) (y := 0) rfl rfl d1
            refine br0 d1 ?_
            by_cases d2 : cc ≤ a
            · have d2₉ := le_z (y := a.toInt) e3 rfl d2
              exact br1 d2 (br1 rfl (hq _ (by rw [drwR_s, if_neg (by omega), if_neg c3₉, if_pos (Or.inr d2₉)]; exact m1)))
            · have d2₉ := nle_z (y := a.toInt) e3 rfl d2
              obtain ⟨k, hk⟩ : ∃ k : Nat, a.toInt = (k : Int) := ⟨a.toInt.toNat, by omega⟩
              have ek : a.toInt.toNat = k := by rw [hk, Int.toNat_natCast]
              refine br0 d2 (br0 (by decide) ?_)
              rw [tnN hk]
              by_cases c4 : b = 0
              · have c4₉ := eq_z (x := b.toInt) (y := 0) rfl rfl c4
                exact br1 c4 ⟨vpi hk (by omega) (by omega), hq _ (by rw [drwR_s, if_neg (by omega), if_neg c3₉, if_neg (by omega), if_pos c4₉, ek]; exact e6 k (by omega))⟩
              · have c4₉ := ne_z (x := b.toInt) (y := 0) rfl rfl c4
                exact br0 c4 ⟨vpi hk (by omega) (by omega), hq _ (by rw [drwR_s, if_neg (by omega), if_neg c3₉, if_neg (by omega), if_neg c4₉, ek]; exact e7 k (by omega))⟩
      · have c2₉ := nle_z (x := b.toInt) (y := 2) rfl rfl c2
        exact br0 c2 (hq _ (by rw [drwR_s, if_pos (Or.inr c2₉)]; exact m1))
theorem x_drawnm {a b dd nd : Int32} {dr : Nat → Int32} {D : Option (Nat → Int)} (hD : RMn dd nd dr D) {Q : Int32 → Int32 → Prop} (hq : ∀ r : Int32, r.toInt = drwR D a.toInt b.toInt → Q r 0) : wp_X12_drawn a b dd nd dr Q := by
  unfold wp_X12_drawn
  have m1 : (-1 : Int32).toInt = -1 := by decide
  have ea : a.toInt64.toInt = a.toInt := i2l_z rfl
  have eb : b.toInt64.toInt = b.toInt := i2l_z rfl
  have z0 : (0 : Int64).toInt = 0 := rfl
  have z2 : (2 : Int64).toInt = 2 := rfl
  cases D with
  | none =>
    have e : nd.toInt = -1 := hD
    exact br1 (z_eq e m1 rfl) (hq _ m1)
  | some w =>
    obtain ⟨e1, e2, e3, e4⟩ := hD
    have en : nd.toInt64.toInt = w 0 := i2l_z e2
    have en1 : (nd.toInt64 - 1).toInt = w 0 - 1 := lsub_z en rfl (by omega) (by omega)
    refine br0 (z_ne e2 m1 (by omega)) (e_in (fun g1 g2 => br0 (by decide) ?_) (fun g => br1 rfl (hq _ (by rw [drwR_s, if_pos (by omega)]; exact m1))))
    refine jn_s ?_
    by_cases c3 : b = 2
    · have c3₉ := eq_z (x := b.toInt) (y := 2) rfl rfl c3
      refine br1 (z_le (x := 2) (y := b.toInt) rfl rfl (by omega)) (br1 c3 (hq _ ?_))
      rw [drwR_s, if_neg (by omega), if_pos c3₉]
      exact e1
    · have c3₉ := ne_z (x := b.toInt) (y := 2) rfl rfl c3
      refine br0 (z_nle (x := 2) (y := b.toInt) rfl rfl (by omega)) (e_in (fun g3 g4 => br0 (by decide) ?_) (fun g => br1 rfl (hq _ (by rw [drwR_s, if_neg (by omega), if_neg c3₉, if_pos (by omega)]; exact m1))))
      obtain ⟨k, hk⟩ : ∃ k : Nat, a.toInt = (k : Int) := ⟨a.toInt.toNat, by omega⟩
      have ek : a.toInt.toNat = k := by rw [hk, Int.toNat_natCast]
      have q := e4 k (by omega)
      have e2k : (2 * a).toInt = ((2 * k : Nat) : Int) := mulN (a := 2) (x := 2) rfl hk (by omega)
      by_cases c4 : b = 0
      · have c4₉ := eq_z (x := b.toInt) (y := 0) rfl rfl c4
        have ei : (2 * a + b).toInt = ((2 * k : Nat) : Int) := by rw [c4, add_z e2k (b := 0) (y := 0) rfl (by omega) (by omega)]; omega
        refine br0 c3 ⟨vpi ei (by omega) (by omega), hq _ ?_⟩
        rw [tnN ei, drwR_s, if_neg (by omega), if_neg c3₉, if_neg (by omega), if_pos c4₉, ek]
        exact q.1
      · have c4₉ := ne_z (x := b.toInt) (y := 0) rfl rfl c4
        have b1 : b.toInt = ((1 : Nat) : Int) := by omega
        have ei : (2 * a + b).toInt = ((2 * k + 1 : Nat) : Int) := addN e2k b1 (by omega)
        refine br0 c3 ⟨vpi ei (by omega) (by omega), hq _ ?_⟩
        rw [tnN ei, drwR_s, if_neg (by omega), if_neg c3₉, if_neg (by omega), if_neg c4₉, ek]
        exact q.2
end
section
/-! who, of both sides: exactly -/
def whoR (w : Nat → Int) (a b : Int) : Int := if b < 0 ∨ 4 < b then -1 else if b ≤ 1 then (if a < 0 ∨ w 1 ≤ a then -1 else if b = 0 then w (28 + a.toNat) else w (193 + a.toNat)) else if a < 0 ∨ w 2 ≤ a then -1 else if b = 2 then w (198 + a.toNat) else if b = 3 then w (204 + a.toNat) else w (22 + a.toNat)
theorem whoR_x {w : Nat → Int} {a b : Int} (h : b < 0 ∨ 4 < b) : whoR w a b = -1 := if_pos h
theorem whoR_1 {w : Nat → Int} {a b : Int} (h : b = 0 ∨ b = 1) : whoR w a b = if a < 0 ∨ w 1 ≤ a then -1 else if b = 0 then w (28 + a.toNat) else w (193 + a.toNat) := by
  unfold whoR
  rw [if_neg (show ¬ (b < 0 ∨ 4 < b) by omega), if_pos (show b ≤ 1 by omega)]
theorem whoR_2 {w : Nat → Int} {a b : Int} (h : 2 ≤ b) (h4 : b ≤ 4) : whoR w a b = if a < 0 ∨ w 2 ≤ a then -1 else if b = 2 then w (198 + a.toNat) else if b = 3 then w (204 + a.toNat) else w (22 + a.toNat) := by
  unfold whoR
  rw [if_neg (show ¬ (b < 0 ∨ 4 < b) by omega), if_neg (show ¬ b ≤ 1 by omega)]
theorem x_within2 {a n : Int32} {z : Int} (hn : n.toInt = z) {Q : Int32 → Prop} (h0 : a.toInt < 0 ∨ z ≤ a.toInt → Q 0) (h1 : 0 ≤ a.toInt → a.toInt < z → Q 1) : wp_X11_isWithin a n Q := by
  unfold wp_X11_isWithin
  by_cases d1 : a < 0
  · have d1₉ := lt_z (x := a.toInt) (y := 0) rfl rfl d1
    exact br1 d1 (h0 (Or.inl d1₉))
  · have d1₉ := nlt_z (x := a.toInt) (y := 0) rfl rfl d1
    refine br0 d1 ?_
    by_cases d2 : n ≤ a
    · have d2₉ := le_z (y := a.toInt) hn rfl d2
      exact br1 d2 (h0 (Or.inr d2₉))
    · have d2₉ := nle_z (y := a.toInt) hn rfl d2
      exact br0 d2 (h1 d1₉ d2₉)
theorem x_whoc {a b ls ns hu : Int32} {co ea nc nl : Nat → Int32} {w : Nat → Int} (h1 : RsW ls 1 w) (h2 : RsW ns 2 w) (h3 : RH hu w) (h4 : RkW co 28 5 w) (h5 : RkW ea 193 5 w) (h6 : RkW nc 198 6 w) (h7 : RkW nl 204 6 w) (l5 : w 1 ≤ 5) (n6 : w 2 ≤ 6) {Q : Int32 → Prop} (hq : ∀ r : Int32, r.toInt = whoR w a.toInt b.toInt → Q r) : wp_X11_who a b ls ns hu co ea nc nl Q := by
  unfold wp_X11_who
  have m1 : (-1 : Int32).toInt = -1 := by decide
  have h1 : ls.toInt = w 1 := h1
  have h2 : ns.toInt = w 2 := h2
  refine jn_s ?_
  by_cases c0 : b = 0
  · have c0₉ := eq_z (x := b.toInt) (y := 0) rfl rfl c0
    refine br1 c0 (jn_s (br0 (by decide) (x_within2 h1 (fun d => br1 rfl (hq _ (by rw [whoR_1 (Or.inl c0₉), if_pos d]; exact m1))) (fun d1 d2 => br0 (by decide) (br1 c0 ?_)))))
    obtain ⟨k, hk⟩ : ∃ k : Nat, a.toInt = (k : Int) := ⟨a.toInt.toNat, by omega⟩
    have ek : a.toInt.toNat = k := by rw [hk, Int.toNat_natCast]
    rw [tnN hk]
    exact ⟨vpi hk (by omega) (by omega), hq _ (by rw [whoR_1 (Or.inl c0₉), if_neg (by omega), if_pos c0₉, ek]; exact h4 k (by omega))⟩
  · have c0₉ := ne_z (x := b.toInt) (y := 0) rfl rfl c0
    refine br0 c0 ?_
    by_cases c1 : b = 1
    · have c1₉ := eq_z (x := b.toInt) (y := 1) rfl rfl c1
      refine br1 c1 (jn_s (br0 (by decide) (x_within2 h1 (fun d => br1 rfl (hq _ (by rw [whoR_1 (Or.inr c1₉), if_pos d]; exact m1))) (fun d1 d2 => br0 (by decide) (br0 c0 (br1 c1 ?_))))))
      obtain ⟨k, hk⟩ : ∃ k : Nat, a.toInt = (k : Int) := ⟨a.toInt.toNat, by omega⟩
      have ek : a.toInt.toNat = k := by rw [hk, Int.toNat_natCast]
      rw [tnN hk]
      exact ⟨vpi hk (by omega) (by omega), hq _ (by rw [whoR_1 (Or.inr c1₉), if_neg (by omega), if_neg c0₉, ek]; exact h5 k (by omega))⟩
    · have c1₉ := ne_z (x := b.toInt) (y := 1) rfl rfl c1
      refine br0 c1 (jn_s (br1 rfl (x_within2 h2 (fun d => br1 rfl (hq _ ?_)) (fun d1 d2 => br0 (by decide) (br0 c0 (br0 c1 ?_))))))
      · by_cases cx : b.toInt < 0 ∨ 4 < b.toInt
        · rw [whoR_x cx]; exact m1
        · rw [whoR_2 (by omega) (by omega), if_pos d]; exact m1
      · obtain ⟨k, hk⟩ : ∃ k : Nat, a.toInt = (k : Int) := ⟨a.toInt.toNat, by omega⟩
        have ek : a.toInt.toNat = k := by rw [hk, Int.toNat_natCast]
        rw [tnN hk]
        have va : vp_in a 6 := vpi hk (by omega) (by omega)
        by_cases c2 : b = 2
        · have c2₉ := eq_z (x := b.toInt) (y := 2) rfl rfl c2
          exact br1 c2 ⟨va, hq _ (by rw [whoR_2 (by omega) (by omega), if_neg (by omega), if_pos c2₉, ek]; exact h6 k (by omega))⟩
        · have c2₉ := ne_z (x := b.toInt) (y := 2) rfl rfl c2
          refine br0 c2 ?_
          by_cases c3 : b = 3
          · have c3₉ := eq_z (x := b.toInt) (y := 3) rfl rfl c3
            exact br1 c3 ⟨va, hq _ (by rw [whoR_2 (by omega) (by omega), if_neg (by omega), if_neg c2₉, if_pos c3₉, ek]; exact h7 k (by omega))⟩
          · have c3₉ := ne_z (x := b.toInt) (y := 3) rfl rfl c3
            refine br0 c3 ?_
            by_cases c4 : b = 4
            · have c4₉ := eq_z (x := b.toInt) (y := 4) rfl rfl c4
              refine br1 c4 (hq _ ?_)
              rw [whoR_2 (by omega) (by omega), if_neg (by omega), if_neg c2₉, if_neg c3₉, ek, h3.1 k (by omega)]
              have B := bh_is (x := hu) hk (by omega)
              have R : 0 ≤ ((hu >>> (a &&& 31)) &&& 1).toInt ∧ ((hu >>> (a &&& 31)) &&& 1).toInt ≤ 1 := and_z (by decide)
              cases g : bh hu k with
              | true =>
                rw [if_pos rfl]
                have n0 : ¬ (hu >>> (a &&& 31)) &&& 1 = 0 := fun q => by have := B.mp q; rw [g] at this; cases this
                have n1 : ¬ ((hu >>> (a &&& 31)) &&& 1).toInt = 0 := fun q => n0 (Int32.toInt_inj.mp q)
                omega
              | false =>
                rw [B.mpr g]; rfl
            · have c4₉ := ne_z (x := b.toInt) (y := 4) rfl rfl c4
              exact br0 c4 (hq _ (by rw [whoR_x (by omega)]; exact m1))
theorem x_whom {a b : Int32} {row : Nat → Int32} {w : Nat → Int} (hR : RMw row w) (l5 : 0 ≤ w 1 ∧ w 1 ≤ 5) (n6 : 0 ≤ w 2 ∧ w 2 ≤ 6) {Q : Int32 → Int32 → Prop} (hq : ∀ r : Int32, r.toInt = whoR w a.toInt b.toInt → Q r 0) : wp_X12_who a b row Q := by
  unfold wp_X12_who
  have m1 : (-1 : Int32).toInt = -1 := by decide
  have ea : a.toInt64.toInt = a.toInt := i2l_z rfl
  have eb : b.toInt64.toInt = b.toInt := i2l_z rfl
  have z0 : (0 : Int64).toInt = 0 := rfl
  have z4 : (4 : Int64).toInt = 4 := rfl
  have r1 : (row (1 : Int32).toNatClampNeg).toInt = w 1 := hR 1 (by decide)
  have r2 : (row (2 : Int32).toNatClampNeg).toInt = w 2 := hR 2 (by decide)
  have q1 : ((row (1 : Int32).toNatClampNeg).toInt64 - 1).toInt = w 1 - 1 := lsub_z (i2l_z r1) rfl (by omega) (by omega)
  have q2 : ((row (2 : Int32).toNatClampNeg).toInt64 - 1).toInt = w 2 - 1 := lsub_z (i2l_z r2) rfl (by omega) (by omega)
  refine e_in (fun g1 g2 => br0 (by decide) (jn_s ?_)) (fun g => br1 rfl (hq _ (by rw [whoR_x (by omega)]; exact m1)))
  by_cases c : 2 ≤ b
  · have c₉ := le_z (x := 2) (y := b.toInt) rfl rfl c
    refine br1 c ?_
    unfold wp_X12_isNoise
    refine e_in (fun g3 g4 => br0 (by decide) ?_) (fun g => br1 rfl (hq _ (by rw [whoR_2 (by omega) (by omega), if_pos (by omega)]; exact m1)))
    obtain ⟨k, hk⟩ : ∃ k : Nat, a.toInt = (k : Int) := ⟨a.toInt.toNat, by omega⟩
    have ek : a.toInt.toNat = k := by rw [hk, Int.toNat_natCast]
    have a1 : (198 + a).toInt = ((198 + k : Nat) : Int) := addN (a := 198) (x := 198) rfl hk (by omega)
    have a2 : (204 + a).toInt = ((204 + k : Nat) : Int) := addN (a := 204) (x := 204) rfl hk (by omega)
    have a3 : (22 + a).toInt = ((22 + k : Nat) : Int) := addN (a := 22) (x := 22) rfl hk (by omega)
    refine br0 (z_ne (x := b.toInt) (y := 0) rfl rfl (by omega)) (br0 (z_ne (x := b.toInt) (y := 1) rfl rfl (by omega)) ?_)
    rw [tnN a1, tnN a2, tnN a3]
    by_cases c2 : b = 2
    · have c2₉ := eq_z (x := b.toInt) (y := 2) rfl rfl c2
      exact br1 c2 ⟨vpi a1 (by omega) (by omega), hq _ (by rw [whoR_2 (by omega) (by omega), if_neg (by omega), if_pos c2₉, ek]; exact hR _ (by omega))⟩
    · have c2₉ := ne_z (x := b.toInt) (y := 2) rfl rfl c2
      refine br0 c2 ?_
      by_cases c3 : b = 3
      · have c3₉ := eq_z (x := b.toInt) (y := 3) rfl rfl c3
        exact br1 c3 ⟨vpi a2 (by omega) (by omega), hq _ (by rw [whoR_2 (by omega) (by omega), if_neg (by omega), if_neg c2₉, if_pos c3₉, ek]; exact hR _ (by omega))⟩
      · have c3₉ := ne_z (x := b.toInt) (y := 3) rfl rfl c3
        exact br0 c3 ⟨vpi a3 (by omega) (by omega), hq _ (by rw [whoR_2 (by omega) (by omega), if_neg (by omega), if_neg c2₉, if_neg c3₉, ek]; exact hR _ (by omega))⟩
  · have c₉ := nle_z (x := 2) (y := b.toInt) rfl rfl c
    refine br0 c ?_
    have b01 : b.toInt = 0 ∨ b.toInt = 1 := by omega
    unfold wp_X12_isEar
    refine e_in (fun g3 g4 => br0 (by decide) ?_) (fun g => br1 rfl (hq _ (by rw [whoR_1 b01, if_pos (by omega)]; exact m1)))
    obtain ⟨k, hk⟩ : ∃ k : Nat, a.toInt = (k : Int) := ⟨a.toInt.toNat, by omega⟩
    have ek : a.toInt.toNat = k := by rw [hk, Int.toNat_natCast]
    have a1 : (28 + a).toInt = ((28 + k : Nat) : Int) := addN (a := 28) (x := 28) rfl hk (by omega)
    have a2 : (193 + a).toInt = ((193 + k : Nat) : Int) := addN (a := 193) (x := 193) rfl hk (by omega)
    rw [tnN a1, tnN a2]
    by_cases c0 : b = 0
    · have c0₉ := eq_z (x := b.toInt) (y := 0) rfl rfl c0
      exact br1 c0 ⟨vpi a1 (by omega) (by omega), hq _ (by rw [whoR_1 b01, if_neg (by omega), if_pos c0₉, ek]; exact hR _ (by omega))⟩
    · have c0₉ := ne_z (x := b.toInt) (y := 0) rfl rfl c0
      exact br0 c0 (br1 (z_eq (x := b.toInt) (y := 1) rfl rfl (by omega)) ⟨vpi a2 (by omega) (by omega), hq _ (by rw [whoR_1 b01, if_neg (by omega), if_neg c0₉, ek]; exact hR _ (by omega))⟩)
end
section
set_option maxRecDepth 100000 in
theorem s_X11_drawnz (a : Int32) (b : Int32) (h0_drawnDay : Int32) (h0_drawnCrew_count : Int32) (f_h0_drawnCrew_buckets : Nat → Int32) (f_h0_drawnCrew_cell : Nat → Int32) {D : Option (Nat → Int)} (h_h0_drawnCrew_count : 0 ≤ h0_drawnCrew_count.toInt ∧ h0_drawnCrew_count.toInt ≤ 6) (h_f_h0_drawnCrew_buckets : BU f_h0_drawnCrew_buckets) (h_f_h0_drawnCrew_cell : CE f_h0_drawnCrew_cell) (e_0 : RXn h0_drawnDay h0_drawnCrew_count f_h0_drawnCrew_cell f_h0_drawnCrew_buckets D) {Q : Int32 → Prop} (hq : ∀ (r : Int32), (r.toInt = drwR D a.toInt b.toInt) → Q r) : wp_X11_drawn a b h0_drawnDay h0_drawnCrew_count f_h0_drawnCrew_buckets f_h0_drawnCrew_cell Q := by
  exact x_drawnc e_0 (fun r h => hq r h)


set_option maxRecDepth 100000 in
theorem s_X11_whoz (a : Int32) (b : Int32) (h0_site_world_folk_listeners : Int32) (h0_site_world_folk_noises : Int32) (h0_site_world_folk_hushed : Int32) (f_h0_site_world_folk_column : Nat → Int32) (f_h0_site_world_folk_ear : Nat → Int32) (f_h0_site_world_folk_noiseColumn : Nat → Int32) (f_h0_site_world_folk_noiseLoud : Nat → Int32) {w : Nat → Int} {g_kd : Nat → Int32} {g_hd : Nat → Int32} {g_wt : Nat → Int32} {g_dg : Int64} {g_ce : Nat → Int32} {g_bu : Nat → Int32} {g_cc : Int32} {g_hc : Nat → Int32} {g_hl : Nat → Int32} {g_hs : Int32} {g_so : Nat → Int32} {g_we : Nat → Int32} {g_wl : Int32} {g_te : Nat → Int32} {g_lc : Int32} {g_fo : Int32} (h_h0_site_world_folk_listeners : 0 ≤ h0_site_world_folk_listeners.toInt ∧ h0_site_world_folk_listeners.toInt ≤ 5) (h_h0_site_world_folk_noises : 0 ≤ h0_site_world_folk_noises.toInt ∧ h0_site_world_folk_noises.toInt ≤ 6) (h_f_h0_site_world_folk_column : CO f_h0_site_world_folk_column) (h_f_h0_site_world_folk_ear : EA f_h0_site_world_folk_ear) (h_f_h0_site_world_folk_noiseColumn : NC f_h0_site_world_folk_noiseColumn) (h_f_h0_site_world_folk_noiseLoud : NL f_h0_site_world_folk_noiseLoud) (e_0 : RXw g_kd g_hd g_wt g_dg g_ce g_bu g_cc f_h0_site_world_folk_column f_h0_site_world_folk_ear h0_site_world_folk_listeners f_h0_site_world_folk_noiseColumn f_h0_site_world_folk_noiseLoud h0_site_world_folk_noises h0_site_world_folk_hushed g_hc g_hl g_hs g_so g_we g_wl g_te g_lc g_fo w) {Q : Int32 → Prop} (hq : ∀ (r : Int32), (r.toInt = whoR w a.toInt b.toInt) → Q r) : wp_X11_who a b h0_site_world_folk_listeners h0_site_world_folk_noises h0_site_world_folk_hushed f_h0_site_world_folk_column f_h0_site_world_folk_ear f_h0_site_world_folk_noiseColumn f_h0_site_world_folk_noiseLoud Q := by
  exact x_whoc (RXw.ls e_0) (RXw.ns e_0) (RXw.hu e_0) (RXw.co e_0) (RXw.ea e_0) (RXw.nc e_0) (RXw.nl e_0) (by have q : h0_site_world_folk_listeners.toInt = w 1 := RXw.ls e_0; omega) (by have q : h0_site_world_folk_noises.toInt = w 2 := RXw.ns e_0; omega) (fun r h => hq r h)
end
section
/-! what at, asks, loud, din answer, of w -/
def dinR (w : Nat → Int) (a : Int) : Int := if a < 0 ∨ 7 < a then -1 else nsS w a (fun _ => false) (w 2).toNat
def atR (F : Option (List Cls)) (w : Nat → Int) (a b : Int) : Int := if a < 0 ∨ 39 < a then -1 else if b = 0 then w (113 + a.toNat) else if b = 1 then w (153 + a.toNat) else if b = 2 then w (73 + a.toNat) else if b = 3 then w (33 + a.toNat) else if b = 4 then saysW F w a (w (113 + a.toNat)) else if b = 5 then losesW F w a (w (113 + a.toNat)) else -1
def asksR (F : Option (List Cls)) (w : Nat → Int) (a b d : Int) : Int := if (a < 0 ∨ w 0 ≤ a) ∨ (b < 0 ∨ 39 < b) then -1 else if d = 0 then digsW F w a b else if d = 1 then pasI F w a b else if d = 2 then givesW F w a b else -1
/-- how many steps from a CELL to a COLUMN on the ground -/
def stpI (c col : Int) : Int := (if col ≤ c % 8 then c % 8 - col else col - c % 8) + c / 8 + 1
def loudI (F : Option (List Cls)) (w : Nat → Int) (c kind col : Int) : Int := saysW F w c kind - stpI c col * losesW F w c kind
def loudR (F : Option (List Cls)) (w : Nat → Int) (a b : Int) : Int := if (a < 0 ∨ 39 < a) ∨ (b < 0 ∨ 7 < b) then -100000 else loudI F w a (w (113 + a.toNat)) b
theorem stpI_b {c col : Int} (h : 0 ≤ c ∧ c ≤ 39) (h2 : 0 ≤ col ∧ col ≤ 99) : 1 ≤ stpI c col ∧ stpI c col ≤ 105 := by
  unfold stpI
  by_cases q : col ≤ c % 8
  · rw [if_pos q]; omega
  · rw [if_neg q]; omega
theorem mul_bI {a b x y : Int} (ha : 0 ≤ a ∧ a ≤ x) (hb : 0 ≤ b ∧ b ≤ y) : 0 ≤ a * b ∧ a * b ≤ x * y := ⟨Int.mul_nonneg ha.1 hb.1, Int.le_trans (Int.mul_le_mul_of_nonneg_right ha.2 hb.1) (Int.mul_le_mul_of_nonneg_left hb.2 (by omega))⟩
theorem loud_z {x y z : Int32} {S T L : Int} (hx : x.toInt = S) (hy : y.toInt = T) (hz : z.toInt = L) (b1 : 0 ≤ S ∧ S ≤ 99) (b2 : 0 ≤ T ∧ T ≤ 105) (b3 : 0 ≤ L ∧ L ≤ 9) : (x - y * z).toInt = S - T * L := by
  have m := mul_bI b2 b3
  exact sub_z hx (mul_z hy hz (by omega) (by omega)) (by omega) (by omega)
theorem loud_b {S T L : Int} (b1 : 0 ≤ S ∧ S ≤ 99) (b2 : 0 ≤ T ∧ T ≤ 105) (b3 : 0 ≤ L ∧ L ≤ 9) : -945 ≤ S - T * L ∧ S - T * L ≤ 99 := by
  have m := mul_bI b2 b3
  omega
theorem saysW_b {F : Option (List Cls)} {w : Nat → Int} {c k : Int} : 0 ≤ saysW F w c k ∧ saysW F w c k ≤ 99 := saysF_b
theorem losesW_b {F : Option (List Cls)} {w : Nat → Int} {c k : Int} : 0 ≤ losesW F w c k ∧ losesW F w c k ≤ 9 := losesF_b
theorem loudI_b {F : Option (List Cls)} {w : Nat → Int} {c k col : Int} (h : 0 ≤ c ∧ c ≤ 39) (h2 : 0 ≤ col ∧ col ≤ 99) : -945 ≤ loudI F w c k col ∧ loudI F w c k col ≤ 99 := loud_b saysW_b (by have q := stpI_b h h2; omega) losesW_b
theorem z_steps {a b : Int32} (ha : 0 ≤ a.toInt ∧ a.toInt ≤ 39) (hb : 0 ≤ b.toInt ∧ b.toInt ≤ 99) {Q : Int32 → Prop} (hq : ∀ r : Int32, (1 ≤ r.toInt ∧ r.toInt ≤ 105) ∧ r.toInt = stpI a.toInt b.toInt → Q r) : wp_X11_stepsTo a b Q := by
  have e1 : (a - a / 8 * 8).toInt = a.toInt % 8 := rem_z (b := 8) rfl rfl ha.1 (by decide)
  have e2 : (a / 8).toInt = a.toInt / 8 := div_z (b := 8) rfl rfl ha.1 (by decide)
  have e3 : ((a - a / 8 * 8) - b).toInt = a.toInt % 8 - b.toInt := sub_z e1 rfl (by omega) (by omega)
  have B := stpI_b ha hb
  unfold wp_X11_stepsTo
  by_cases c : 0 ≤ ((a - a / 8 * 8) - b)
  · have c₉ := le_z (x := 0) rfl e3 c
    rw [if_pos c]
    have e : ((((a - a / 8 * 8) - b) + (a / 8)) + 1).toInt = stpI a.toInt b.toInt := by
      rw [add_z (b := 1) (y := 1) (add_z e3 e2 (by omega) (by omega)) rfl (by omega) (by omega)]
      unfold stpI
      rw [if_pos (by omega)]
    exact hq _ ⟨by rw [e]; exact B, e⟩
  · have c₉ := nle_z (x := 0) rfl e3 c
    rw [if_neg c]
    have e4 : (0 - ((a - a / 8 * 8) - b)).toInt = 0 - (a.toInt % 8 - b.toInt) := sub_z (a := 0) rfl e3 (by omega) (by omega)
    have e : (((0 - ((a - a / 8 * 8) - b)) + (a / 8)) + 1).toInt = stpI a.toInt b.toInt := by
      rw [add_z (b := 1) (y := 1) (add_z e4 e2 (by omega) (by omega)) rfl (by omega) (by omega)]
      unfold stpI
      rw [if_neg (by omega)]
      omega
    exact hq _ ⟨by rw [e]; exact B, e⟩
theorem z_mloudAs {a b d law broken : Int32} {value sum : Int64} {row nOp nArg : Nat → Int32} {rest now set : Nat → Int64} {ls : Nat → List Cls} {w : Nat → Int} (hl : RML row ls) (hR : RMw row w) (hr : RLW row) (hc : 0 ≤ a.toInt ∧ a.toInt ≤ 39) (hd : 0 ≤ d.toInt ∧ d.toInt ≤ 99) (hB : 0 ≤ broken.toInt ∧ broken.toInt ≤ 1) {Q : QM} (hq : ∀ (r law₉ br₉ : Int32) (value₉ sum₉ : Int64) (set₉ rest₉ : Nat → Int64), (-945 ≤ r.toInt ∧ r.toInt ≤ 99) ∧ r.toInt = loudI (lawW w ls) w a.toInt b.toInt d.toInt ∧ (0 ≤ br₉.toInt ∧ br₉.toInt ≤ 1) → Q r (law₉, br₉, value₉, sum₉, set₉, rest₉)) : wp_X12_loudAs a b d 0 law broken value sum row set nOp nArg rest now Q := by
  have e1 : (a - a / 8 * 8).toInt = a.toInt % 8 := rem_z (b := 8) rfl rfl hc.1 (by decide)
  have e2 : (a / 8).toInt = a.toInt / 8 := div_z (b := 8) rfl rfl hc.1 (by decide)
  have B := stpI_b hc hd
  have E := loudI_b (F := lawW w ls) (w := w) (k := b.toInt) hc hd
  unfold wp_X12_loudAs wp_X12_apart
  have K : ∀ x : Int32, x.toInt = stpI a.toInt d.toInt - a.toInt / 8 - 1 → wp_X12_saysOf a b 0 law broken value sum row set nOp nArg rest now (fun r_20 => un6 (fun u0 u1 u2 u3 u4 u5 => wp_X12_losesOf a b 0 u0 u1 u2 u3 row u4 nOp nArg u5 now (fun r_28 => un6 (fun v0 v1 v2 v3 v4 v5 => Q (r_20 - (((x + (a / 8)) + 1) * r_28)) (v0, v1, v2, v3, v4, v5))))) := by
    intro x hx
    refine z_msays hl hR hr hc hB (fun r l1 b1 v1 s1 t1 p1 h => ?_)
    refine un6_i ?_
    refine z_mloses hl hR hr hc h.2.2 (fun r2 l2 b2 v2 s2 t2 p2 h2 => ?_)
    refine un6_i ?_
    have e3 : ((x + (a / 8)) + 1).toInt = stpI a.toInt d.toInt := by
      rw [add_z (b := 1) (y := 1) (add_z hx e2 (by omega) (by omega)) rfl (by omega) (by omega)]
      omega
    have e : (r - (((x + (a / 8)) + 1) * r2)).toInt = loudI (lawW w ls) w a.toInt b.toInt d.toInt := loud_z h.2.1 e3 h2.2.1 saysW_b (by omega) losesW_b
    exact hq _ _ _ _ _ _ _ ⟨by rw [e]; exact E, e, h2.2.2⟩
  by_cases c : (a - a / 8 * 8) ≤ d
  · have c₉ := le_z e1 rfl c
    refine br1 c (K _ ?_)
    rw [sub_z (x := d.toInt) rfl e1 (by omega) (by omega)]
    unfold stpI
    by_cases q : d.toInt ≤ a.toInt % 8
    · rw [if_pos q]; omega
    · rw [if_neg q]; omega
  · have c₉ := nle_z e1 rfl c
    refine br0 c (K _ ?_)
    rw [sub_z e1 (y := d.toInt) rfl (by omega) (by omega)]
    unfold stpI
    rw [if_pos (by omega)]
    omega
end
section
set_option maxRecDepth 100000 in
theorem s_X11_dinz (a : Int32) (h0_site_world_folk_noises : Int32) (h0_site_world_folk_hushed : Int32) (f_h0_site_world_folk_noiseColumn : Nat → Int32) (f_h0_site_world_folk_noiseLoud : Nat → Int32) {w : Nat → Int} {g_kd : Nat → Int32} {g_hd : Nat → Int32} {g_wt : Nat → Int32} {g_dg : Int64} {g_ce : Nat → Int32} {g_bu : Nat → Int32} {g_cc : Int32} {g_co : Nat → Int32} {g_ea : Nat → Int32} {g_ls : Int32} {g_hc : Nat → Int32} {g_hl : Nat → Int32} {g_hs : Int32} {g_so : Nat → Int32} {g_we : Nat → Int32} {g_wl : Int32} {g_te : Nat → Int32} {g_lc : Int32} {g_fo : Int32} (h_h0_site_world_folk_noises : 0 ≤ h0_site_world_folk_noises.toInt ∧ h0_site_world_folk_noises.toInt ≤ 6) (h_f_h0_site_world_folk_noiseColumn : NC f_h0_site_world_folk_noiseColumn) (h_f_h0_site_world_folk_noiseLoud : NL f_h0_site_world_folk_noiseLoud) (e_0 : RXw g_kd g_hd g_wt g_dg g_ce g_bu g_cc g_co g_ea g_ls f_h0_site_world_folk_noiseColumn f_h0_site_world_folk_noiseLoud h0_site_world_folk_noises h0_site_world_folk_hushed g_hc g_hl g_hs g_so g_we g_wl g_te g_lc g_fo w) {Q : Int32 → Prop} (hq : ∀ (r : Int32), (r.toInt = dinR w a.toInt) → Q r) : wp_X11_din a h0_site_world_folk_noises h0_site_world_folk_hushed f_h0_site_world_folk_noiseColumn f_h0_site_world_folk_noiseLoud Q := by
  unfold wp_X11_din
  have l_nc := RXw.nc e_0
  have l_nl := RXw.nl e_0
  have l_ns : h0_site_world_folk_noises.toInt = w 2 := RXw.ns e_0
  refine o_X11_isWithin _ _ _ ?_
  by_cases c1 : a < 0
  · refine br1 c1 ?_
    have d2 := lt_z (x := (Int32.toInt a)) (y := 0) rfl rfl c1
    refine br1 (by decide) ?_
    have k3 : Int32.toInt (-1) = (-1) := (by decide)
    exact hq _ (by unfold dinR; rw [if_pos (by omega)]; decide)
  · refine br0 c1 ?_
    have d4 := nlt_z (x := (Int32.toInt a)) (y := 0) rfl rfl c1
    by_cases c5 : 8 ≤ a
    · refine br1 c5 ?_
      have d6 := le_z (x := 8) (y := (Int32.toInt a)) rfl rfl c5
      refine br1 (by decide) ?_
      have k7 : Int32.toInt (-1) = (-1) := (by decide)
      exact hq _ (by unfold dinR; rw [if_pos (by omega)]; decide)
    · refine br0 c5 ?_
      have d8 := nle_z (x := 8) (y := (Int32.toInt a)) rfl rfl c5
      refine br0 (by decide) ?_
      refine s_X4_noiseInz a 0 h0_site_world_folk_noises h0_site_world_folk_hushed (f_h0_site_world_folk_noiseColumn) (f_h0_site_world_folk_noiseLoud) (w := w) (by first | with_reducible assumption | exact ⟨by omega, by omega⟩) (by first | with_reducible assumption | exact ⟨by omega, by omega⟩) h_f_h0_site_world_folk_noiseColumn h_f_h0_site_world_folk_noiseLoud (RXw.nz e_0) (fun r9 H10 => ?_)
      have j11 := H10.1
      have j12 := H10.2
      exact hq _ (by unfold dinR; rw [if_neg (by omega)]; exact j12.trans (nsS_0 (fun i _ => bh_0 i)))


set_option maxRecDepth 100000 in
theorem s_X11_at_Nz (a : Int32) (b : Int32) (h0_site_world : Nat) (h0_site_world_lawCount : Int32) (h0_site_world_force : Int32) (f_h0_site_world_laws : Nat → Option Nat) (h0_asker_world : Value) (h0_asker_law : Value) (h0_asker_cell : Int32) (h0_asker_shaft : Int32) (h0_asker_kind : Int32) (h0_site_world_rock_dug : Int64) (f_h0_site_world_rock_kind : Nat → Int32) (f_h0_site_world_rock_hard : Nat → Int32) (f_h0_site_world_rock_water : Nat → Int32) {w : Nat → Int} {ls : Nat → List Cls} {g_ce : Nat → Int32} {g_bu : Nat → Int32} {g_cc : Int32} {g_co : Nat → Int32} {g_ea : Nat → Int32} {g_ls : Int32} {g_nc : Nat → Int32} {g_nl : Nat → Int32} {g_ns : Int32} {g_hu : Int32} {g_hc : Nat → Int32} {g_hl : Nat → Int32} {g_hs : Int32} {g_so : Nat → Int32} {g_we : Nat → Int32} {g_wl : Int32} {g_te : Nat → Int32} (h_h0_site_world_lawCount : 0 ≤ h0_site_world_lawCount.toInt ∧ h0_site_world_lawCount.toInt ≤ 6) (h_h0_site_world_force : (-1) ≤ h0_site_world_force.toInt ∧ h0_site_world_force.toInt ≤ (-1)) (h_h0_asker_cell : 0 ≤ h0_asker_cell.toInt ∧ h0_asker_cell.toInt ≤ 39) (h_f_h0_site_world_rock_kind : KI f_h0_site_world_rock_kind) (h_f_h0_site_world_rock_hard : HA f_h0_site_world_rock_hard) (h_f_h0_site_world_rock_water : WA f_h0_site_world_rock_water) (e_0 : RXw f_h0_site_world_rock_kind f_h0_site_world_rock_hard f_h0_site_world_rock_water h0_site_world_rock_dug g_ce g_bu g_cc g_co g_ea g_ls g_nc g_nl g_ns g_hu g_hc g_hl g_hs g_so g_we g_wl g_te h0_site_world_lawCount h0_site_world_force w) {Q : Int32 → (Value × Value × Int32 × Int32 × Int32) → Prop} (hq : ∀ (r : Int32) (u_0 : Value) (u_1 : Value) (u_2 : Int32) (u_3 : Int32) (u_4 : Int32), (0 ≤ u_2.toInt ∧ u_2.toInt ≤ 39) ∧ (r.toInt = atR (lawW w ls) w a.toInt b.toInt) → Q r (u_0, u_1, u_2, u_3, u_4)) : wp_X11_at_N a b h0_site_world h0_site_world_lawCount h0_site_world_force f_h0_site_world_laws h0_asker_world h0_asker_law h0_asker_cell h0_asker_shaft h0_asker_kind h0_site_world_rock_dug f_h0_site_world_rock_kind f_h0_site_world_rock_hard f_h0_site_world_rock_water Q := by
  unfold wp_X11_at_N
  have l_kd := RXw.kd e_0
  have l_hd := RXw.hd e_0
  have l_wt := RXw.wt e_0
  have l_lc : h0_site_world_lawCount.toInt = w 5 := RXw.lc e_0
  have l_fo : h0_site_world_force.toInt = w 6 := RXw.fo e_0
  have hF : lawW w ls = none := lawW_n (by omega)
  refine o_X11_isWithin _ _ _ ?_
  by_cases c1 : a < 0
  · refine br1 c1 ?_
    have d2 := lt_z (x := (Int32.toInt a)) (y := 0) rfl rfl c1
    refine br1 (by decide) ?_
    have k3 : Int32.toInt (-1) = (-1) := (by decide)
    exact hq _ _ _ _ _ _ ⟨(by first | with_reducible assumption | exact ⟨by omega, by omega⟩), (by unfold atR; (repeat' split) <;> omega)⟩
  · refine br0 c1 ?_
    have d4 := nlt_z (x := (Int32.toInt a)) (y := 0) rfl rfl c1
    by_cases c5 : 40 ≤ a
    · refine br1 c5 ?_
      have d6 := le_z (x := 40) (y := (Int32.toInt a)) rfl rfl c5
      refine br1 (by decide) ?_
      have k7 : Int32.toInt (-1) = (-1) := (by decide)
      exact hq _ _ _ _ _ _ ⟨(by first | with_reducible assumption | exact ⟨by omega, by omega⟩), (by unfold atR; (repeat' split) <;> omega)⟩
    · refine br0 c5 ?_
      have d8 := nle_z (x := 40) (y := (Int32.toInt a)) rfl rfl c5
      refine br0 (by decide) ?_
      refine o_X10_lawInForce_N _ _ _ _ ?_
      refine o_X10_lawOf_N _ _ _ _ ?_
      refine br1 (z_lt (x := (Int32.toInt h0_site_world_force)) (y := 0) rfl rfl (by omega)) ?_
      refine o_X0_turnTo_N _ ?_
      by_cases c9 : b = 0
      · refine br1 c9 ?_
        have d10 := eq_z (x := (Int32.toInt b)) (y := 0) rfl rfl c9
        refine ⟨vpi (x := (Int32.toInt a)) rfl (by omega) (by omega), ?_⟩
        have g11 : 0 ≤ (Int32.toInt (f_h0_site_world_rock_kind a.toNatClampNeg)) ∧ (Int32.toInt (f_h0_site_world_rock_kind a.toNatClampNeg)) ≤ 3 := KI.at_0 h_f_h0_site_world_rock_kind (tnz (x := (Int32.toInt a)) rfl (by omega)) (by omega) (by omega)
        have t12 : (Int32.toInt (f_h0_site_world_rock_kind a.toNatClampNeg)) = w (113 + ((Int32.toInt a)).toNat) := RkW.z l_kd (i := ((Int32.toInt a)).toNat) rfl (by omega)
        exact hq _ _ _ _ _ _ ⟨(by first | with_reducible assumption | exact ⟨by omega, by omega⟩), (by unfold atR; (repeat' split) <;> omega)⟩
      · refine br0 c9 ?_
        have d13 := ne_z (x := (Int32.toInt b)) (y := 0) rfl rfl c9
        by_cases c14 : b = 1
        · refine br1 c14 ?_
          have d15 := eq_z (x := (Int32.toInt b)) (y := 1) rfl rfl c14
          refine ⟨vpi (x := (Int32.toInt a)) rfl (by omega) (by omega), ?_⟩
          have g16 : 1 ≤ (Int32.toInt (f_h0_site_world_rock_hard a.toNatClampNeg)) ∧ (Int32.toInt (f_h0_site_world_rock_hard a.toNatClampNeg)) ≤ 9 := HA.at_0 h_f_h0_site_world_rock_hard (tnz (x := (Int32.toInt a)) rfl (by omega)) (by omega) (by omega)
          have t17 : (Int32.toInt (f_h0_site_world_rock_hard a.toNatClampNeg)) = w (153 + ((Int32.toInt a)).toNat) := RkW.z l_hd (i := ((Int32.toInt a)).toNat) rfl (by omega)
          exact hq _ _ _ _ _ _ ⟨(by first | with_reducible assumption | exact ⟨by omega, by omega⟩), (by unfold atR; (repeat' split) <;> omega)⟩
        · refine br0 c14 ?_
          have d18 := ne_z (x := (Int32.toInt b)) (y := 1) rfl rfl c14
          by_cases c19 : b = 2
          · refine br1 c19 ?_
            have d20 := eq_z (x := (Int32.toInt b)) (y := 2) rfl rfl c19
            refine ⟨vpi (x := (Int32.toInt a)) rfl (by omega) (by omega), ?_⟩
            have g21 : 0 ≤ (Int32.toInt (f_h0_site_world_rock_water a.toNatClampNeg)) ∧ (Int32.toInt (f_h0_site_world_rock_water a.toNatClampNeg)) ≤ 99 := WA.at_0 h_f_h0_site_world_rock_water (tnz (x := (Int32.toInt a)) rfl (by omega)) (by omega) (by omega)
            have t22 : (Int32.toInt (f_h0_site_world_rock_water a.toNatClampNeg)) = w (73 + ((Int32.toInt a)).toNat) := RkW.z l_wt (i := ((Int32.toInt a)).toNat) rfl (by omega)
            exact hq _ _ _ _ _ _ ⟨(by first | with_reducible assumption | exact ⟨by omega, by omega⟩), (by unfold atR; (repeat' split) <;> omega)⟩
          · refine br0 c19 ?_
            have d23 := ne_z (x := (Int32.toInt b)) (y := 2) rfl rfl c19
            by_cases c24 : b = 3
            · refine br1 c24 ?_
              have d25 := eq_z (x := (Int32.toInt b)) (y := 3) rfl rfl c24
              refine s_X6_isDugz a h0_site_world_rock_dug (by first | with_reducible assumption | exact ⟨by omega, by omega⟩) (RXw.dg e_0) (fun r26 H27 => ?_)
              have j28 := H27.1
              have j29 := H27.2
              by_cases c30 : r26 = 0
              · refine br1 c30 ?_
                have d31 := eq_z (x := (Int32.toInt r26)) (y := 0) rfl rfl c30
                have k32 : Int32.toInt 0 = 0 := rfl
                exact hq _ _ _ _ _ _ ⟨(by first | with_reducible assumption | exact ⟨by omega, by omega⟩), (by unfold atR; (repeat' split) <;> omega)⟩
              · refine br0 c30 ?_
                have d33 := ne_z (x := (Int32.toInt r26)) (y := 0) rfl rfl c30
                have k34 : Int32.toInt 1 = 1 := rfl
                exact hq _ _ _ _ _ _ ⟨(by first | with_reducible assumption | exact ⟨by omega, by omega⟩), (by unfold atR; (repeat' split) <;> omega)⟩
            · refine br0 c24 ?_
              have d35 := ne_z (x := (Int32.toInt b)) (y := 3) rfl rfl c24
              by_cases c36 : b = 4
              · refine br1 c36 ?_
                have d37 := eq_z (x := (Int32.toInt b)) (y := 4) rfl rfl c36
                refine ⟨vpi (x := (Int32.toInt a)) rfl (by omega) (by omega), ?_⟩
                have g39 : 0 ≤ (Int32.toInt (f_h0_site_world_rock_kind a.toNatClampNeg)) ∧ (Int32.toInt (f_h0_site_world_rock_kind a.toNatClampNeg)) ≤ 3 := KI.at_0 h_f_h0_site_world_rock_kind (tnz (x := (Int32.toInt a)) rfl (by omega)) (by omega) (by omega)
                have t40 : (Int32.toInt (f_h0_site_world_rock_kind a.toNatClampNeg)) = w (113 + ((Int32.toInt a)).toNat) := RkW.z l_kd (i := ((Int32.toInt a)).toNat) rfl (by omega)
                refine z_csaysN (RXw.wk e_0) (by first | with_reducible assumption | exact ⟨by omega, by omega⟩) (fun r38 H41 => ?_)
                have j42 := H41.1
                have j43 := H41.2
                rw [← hF] at j43
                rw [show (Int32.toInt (f_h0_site_world_rock_kind a.toNatClampNeg)) = w (113 + ((Int32.toInt a)).toNat) by omega] at j43
                refine un3_i ?_
                have k44 : Int32.toInt (-1) = (-1) := (by decide)
                exact hq _ _ _ _ _ _ ⟨(by first | with_reducible assumption | exact ⟨by omega, by omega⟩), (by unfold atR; (repeat' split) <;> omega)⟩
              · refine br0 c36 ?_
                have d45 := ne_z (x := (Int32.toInt b)) (y := 4) rfl rfl c36
                by_cases c46 : b = 5
                · refine br1 c46 ?_
                  have d47 := eq_z (x := (Int32.toInt b)) (y := 5) rfl rfl c46
                  refine ⟨vpi (x := (Int32.toInt a)) rfl (by omega) (by omega), ?_⟩
                  have g49 : 0 ≤ (Int32.toInt (f_h0_site_world_rock_kind a.toNatClampNeg)) ∧ (Int32.toInt (f_h0_site_world_rock_kind a.toNatClampNeg)) ≤ 3 := KI.at_0 h_f_h0_site_world_rock_kind (tnz (x := (Int32.toInt a)) rfl (by omega)) (by omega) (by omega)
                  have t50 : (Int32.toInt (f_h0_site_world_rock_kind a.toNatClampNeg)) = w (113 + ((Int32.toInt a)).toNat) := RkW.z l_kd (i := ((Int32.toInt a)).toNat) rfl (by omega)
                  refine z_closesN (RXw.wk e_0) (by first | with_reducible assumption | exact ⟨by omega, by omega⟩) (fun r48 H51 => ?_)
                  have j52 := H51.1
                  have j53 := H51.2
                  rw [← hF] at j53
                  rw [show (Int32.toInt (f_h0_site_world_rock_kind a.toNatClampNeg)) = w (113 + ((Int32.toInt a)).toNat) by omega] at j53
                  refine un3_i ?_
                  have k54 : Int32.toInt (-1) = (-1) := (by decide)
                  exact hq _ _ _ _ _ _ ⟨(by first | with_reducible assumption | exact ⟨by omega, by omega⟩), (by unfold atR; (repeat' split) <;> omega)⟩
                · refine br0 c46 ?_
                  have d55 := ne_z (x := (Int32.toInt b)) (y := 5) rfl rfl c46
                  have k56 : Int32.toInt (-1) = (-1) := (by decide)
                  exact hq _ _ _ _ _ _ ⟨(by first | with_reducible assumption | exact ⟨by omega, by omega⟩), (by unfold atR; (repeat' split) <;> omega)⟩


set_option maxRecDepth 100000 in
theorem s_X11_asks_Nz (a : Int32) (b : Int32) (d : Int32) (h0_site_world : Nat) (h0_site_world_lawCount : Int32) (h0_site_world_force : Int32) (h0_site_world_crew_count : Int32) (f_h0_site_world_laws : Nat → Option Nat) (h0_asker_world : Value) (h0_asker_law : Value) (h0_asker_cell : Int32) (h0_asker_shaft : Int32) (h0_asker_kind : Int32) (f_h0_site_world_rock_kind : Nat → Int32) (f_h0_site_world_rock_hard : Nat → Int32) (f_h0_site_world_rock_water : Nat → Int32) {w : Nat → Int} {ls : Nat → List Cls} {g_dg : Int64} {g_ce : Nat → Int32} {g_bu : Nat → Int32} {g_co : Nat → Int32} {g_ea : Nat → Int32} {g_ls : Int32} {g_nc : Nat → Int32} {g_nl : Nat → Int32} {g_ns : Int32} {g_hu : Int32} {g_hc : Nat → Int32} {g_hl : Nat → Int32} {g_hs : Int32} {g_so : Nat → Int32} {g_we : Nat → Int32} {g_wl : Int32} {g_te : Nat → Int32} (h_h0_site_world_lawCount : 0 ≤ h0_site_world_lawCount.toInt ∧ h0_site_world_lawCount.toInt ≤ 6) (h_h0_site_world_force : (-1) ≤ h0_site_world_force.toInt ∧ h0_site_world_force.toInt ≤ (-1)) (h_h0_site_world_crew_count : 0 ≤ h0_site_world_crew_count.toInt ∧ h0_site_world_crew_count.toInt ≤ 6) (h_h0_asker_cell : 0 ≤ h0_asker_cell.toInt ∧ h0_asker_cell.toInt ≤ 39) (h_f_h0_site_world_rock_kind : KI f_h0_site_world_rock_kind) (h_f_h0_site_world_rock_hard : HA f_h0_site_world_rock_hard) (h_f_h0_site_world_rock_water : WA f_h0_site_world_rock_water) (e_0 : RXw f_h0_site_world_rock_kind f_h0_site_world_rock_hard f_h0_site_world_rock_water g_dg g_ce g_bu h0_site_world_crew_count g_co g_ea g_ls g_nc g_nl g_ns g_hu g_hc g_hl g_hs g_so g_we g_wl g_te h0_site_world_lawCount h0_site_world_force w) {Q : Int32 → (Value × Value × Int32 × Int32 × Int32) → Prop} (hq : ∀ (r : Int32) (u_0 : Value) (u_1 : Value) (u_2 : Int32) (u_3 : Int32) (u_4 : Int32), (0 ≤ u_2.toInt ∧ u_2.toInt ≤ 39) ∧ (r.toInt = asksR (lawW w ls) w a.toInt b.toInt d.toInt) → Q r (u_0, u_1, u_2, u_3, u_4)) : wp_X11_asks_N a b d h0_site_world h0_site_world_lawCount h0_site_world_force h0_site_world_crew_count f_h0_site_world_laws h0_asker_world h0_asker_law h0_asker_cell h0_asker_shaft h0_asker_kind f_h0_site_world_rock_kind f_h0_site_world_rock_hard f_h0_site_world_rock_water Q := by
  unfold wp_X11_asks_N
  have l_kd := RXw.kd e_0
  have l_hd := RXw.hd e_0
  have l_wt := RXw.wt e_0
  have l_cc : h0_site_world_crew_count.toInt = w 0 := RXw.cc e_0
  have l_lc : h0_site_world_lawCount.toInt = w 5 := RXw.lc e_0
  have l_fo : h0_site_world_force.toInt = w 6 := RXw.fo e_0
  have hF : lawW w ls = none := lawW_n (by omega)
  refine o_X11_isWithin _ _ _ ?_
  by_cases c1 : a < 0
  · refine br1 c1 ?_
    have d2 := lt_z (x := (Int32.toInt a)) (y := 0) rfl rfl c1
    refine br1 (by decide) ?_
    have k3 : Int32.toInt (-1) = (-1) := (by decide)
    exact hq _ _ _ _ _ _ ⟨(by first | with_reducible assumption | exact ⟨by omega, by omega⟩), (by unfold asksR; (repeat' split) <;> omega)⟩
  · refine br0 c1 ?_
    have d4 := nlt_z (x := (Int32.toInt a)) (y := 0) rfl rfl c1
    by_cases c5 : h0_site_world_crew_count ≤ a
    · refine br1 c5 ?_
      have d6 := le_z (x := (Int32.toInt h0_site_world_crew_count)) (y := (Int32.toInt a)) rfl rfl c5
      refine br1 (by decide) ?_
      have k7 : Int32.toInt (-1) = (-1) := (by decide)
      exact hq _ _ _ _ _ _ ⟨(by first | with_reducible assumption | exact ⟨by omega, by omega⟩), (by unfold asksR; (repeat' split) <;> omega)⟩
    · refine br0 c5 ?_
      have d8 := nle_z (x := (Int32.toInt h0_site_world_crew_count)) (y := (Int32.toInt a)) rfl rfl c5
      refine br0 (by decide) ?_
      refine o_X11_isWithin _ _ _ ?_
      by_cases c9 : b < 0
      · refine br1 c9 ?_
        have d10 := lt_z (x := (Int32.toInt b)) (y := 0) rfl rfl c9
        refine br1 (by decide) ?_
        have k11 : Int32.toInt (-1) = (-1) := (by decide)
        exact hq _ _ _ _ _ _ ⟨(by first | with_reducible assumption | exact ⟨by omega, by omega⟩), (by unfold asksR; (repeat' split) <;> omega)⟩
      · refine br0 c9 ?_
        have d12 := nlt_z (x := (Int32.toInt b)) (y := 0) rfl rfl c9
        by_cases c13 : 40 ≤ b
        · refine br1 c13 ?_
          have d14 := le_z (x := 40) (y := (Int32.toInt b)) rfl rfl c13
          refine br1 (by decide) ?_
          have k15 : Int32.toInt (-1) = (-1) := (by decide)
          exact hq _ _ _ _ _ _ ⟨(by first | with_reducible assumption | exact ⟨by omega, by omega⟩), (by unfold asksR; (repeat' split) <;> omega)⟩
        · refine br0 c13 ?_
          have d16 := nle_z (x := 40) (y := (Int32.toInt b)) rfl rfl c13
          refine br0 (by decide) ?_
          refine o_X10_lawInForce_N _ _ _ _ ?_
          refine o_X10_lawOf_N _ _ _ _ ?_
          refine br1 (z_lt (x := (Int32.toInt h0_site_world_force)) (y := 0) rfl rfl (by omega)) ?_
          refine o_X0_turnTo_N _ ?_
          by_cases c17 : d = 0
          · refine br1 c17 ?_
            have d18 := eq_z (x := (Int32.toInt d)) (y := 0) rfl rfl c17
            refine z_cdigsN (RXw.wk e_0) (by first | with_reducible assumption | exact ⟨by omega, by omega⟩)  (fun r19 H20 => ?_)
            have j21 := H20.1
            have j22 := H20.2
            rw [← hF] at j22
            refine un3_i ?_
            have g23 : 0 ≤ (Int32.toInt (f_h0_site_world_rock_kind b.toNatClampNeg)) ∧ (Int32.toInt (f_h0_site_world_rock_kind b.toNatClampNeg)) ≤ 3 := KI.at_0 h_f_h0_site_world_rock_kind (tnz (x := (Int32.toInt b)) rfl (by omega)) (by omega) (by omega)
            have t24 : (Int32.toInt (f_h0_site_world_rock_kind b.toNatClampNeg)) = w (113 + ((Int32.toInt b)).toNat) := RkW.z l_kd (i := ((Int32.toInt b)).toNat) rfl (by omega)
            exact hq _ _ _ _ _ _ ⟨(by first | with_reducible assumption | exact ⟨by omega, by omega⟩), (by unfold asksR; (repeat' split) <;> omega)⟩
          · refine br0 c17 ?_
            have d25 := ne_z (x := (Int32.toInt d)) (y := 0) rfl rfl c17
            by_cases c26 : d = 1
            · refine br1 c26 ?_
              have d27 := eq_z (x := (Int32.toInt d)) (y := 1) rfl rfl c26
              refine z_cpassN (RXw.wk e_0) (by first | with_reducible assumption | exact ⟨by omega, by omega⟩)  (by first | with_reducible assumption | exact ⟨by omega, by omega⟩) (fun r28 x29 x30 x31 H32 => ?_)
              have j33 := H32.1
              have j34 := H32.2.1
              rw [← hF] at j34
              have j35 := H32.2.2
              refine un3_i ?_
              by_cases c36 : r28 = 0
              · refine br1 c36 ?_
                have d37 := eq_z (x := (Int32.toInt r28)) (y := 0) rfl rfl c36
                have k38 : Int32.toInt 0 = 0 := rfl
                exact hq _ _ _ _ _ _ ⟨(by first | with_reducible assumption | exact ⟨by omega, by omega⟩), (by unfold asksR; (repeat' split) <;> omega)⟩
              · refine br0 c36 ?_
                have d39 := ne_z (x := (Int32.toInt r28)) (y := 0) rfl rfl c36
                have k40 : Int32.toInt 1 = 1 := rfl
                exact hq _ _ _ _ _ _ ⟨(by first | with_reducible assumption | exact ⟨by omega, by omega⟩), (by unfold asksR; (repeat' split) <;> omega)⟩
            · refine br0 c26 ?_
              have d41 := ne_z (x := (Int32.toInt d)) (y := 1) rfl rfl c26
              by_cases c42 : d = 2
              · refine br1 c42 ?_
                have d43 := eq_z (x := (Int32.toInt d)) (y := 2) rfl rfl c42
                refine z_cgivesN (RXw.wk e_0) h_f_h0_site_world_rock_water (by first | with_reducible assumption | exact ⟨by omega, by omega⟩)  (fun r44 H45 => ?_)
                have j46 := H45.1
                have j47 := H45.2.1
                rw [← hF] at j47
                have j48 := H45.2.2
                refine un3_i ?_
                have g49 : 0 ≤ (Int32.toInt (f_h0_site_world_rock_kind b.toNatClampNeg)) ∧ (Int32.toInt (f_h0_site_world_rock_kind b.toNatClampNeg)) ≤ 3 := KI.at_0 h_f_h0_site_world_rock_kind (tnz (x := (Int32.toInt b)) rfl (by omega)) (by omega) (by omega)
                have t50 : (Int32.toInt (f_h0_site_world_rock_kind b.toNatClampNeg)) = w (113 + ((Int32.toInt b)).toNat) := RkW.z l_kd (i := ((Int32.toInt b)).toNat) rfl (by omega)
                exact hq _ _ _ _ _ _ ⟨(by first | with_reducible assumption | exact ⟨by omega, by omega⟩), (by unfold asksR; (repeat' split) <;> omega)⟩
              · refine br0 c42 ?_
                have d51 := ne_z (x := (Int32.toInt d)) (y := 2) rfl rfl c42
                have k52 : Int32.toInt (-1) = (-1) := (by decide)
                exact hq _ _ _ _ _ _ ⟨(by first | with_reducible assumption | exact ⟨by omega, by omega⟩), (by unfold asksR; (repeat' split) <;> omega)⟩


set_option maxRecDepth 100000 in
theorem s_X11_loud_Nz (a : Int32) (b : Int32) (h0_site_world : Nat) (h0_site_world_lawCount : Int32) (h0_site_world_force : Int32) (f_h0_site_world_laws : Nat → Option Nat) (h0_asker_world : Value) (h0_asker_law : Value) (h0_asker_cell : Int32) (h0_asker_shaft : Int32) (h0_asker_kind : Int32) (f_h0_site_world_rock_kind : Nat → Int32) {w : Nat → Int} {ls : Nat → List Cls} {g_hd : Nat → Int32} {g_wt : Nat → Int32} {g_dg : Int64} {g_ce : Nat → Int32} {g_bu : Nat → Int32} {g_cc : Int32} {g_co : Nat → Int32} {g_ea : Nat → Int32} {g_ls : Int32} {g_nc : Nat → Int32} {g_nl : Nat → Int32} {g_ns : Int32} {g_hu : Int32} {g_hc : Nat → Int32} {g_hl : Nat → Int32} {g_hs : Int32} {g_so : Nat → Int32} {g_we : Nat → Int32} {g_wl : Int32} {g_te : Nat → Int32} (h_h0_site_world_lawCount : 0 ≤ h0_site_world_lawCount.toInt ∧ h0_site_world_lawCount.toInt ≤ 6) (h_h0_site_world_force : (-1) ≤ h0_site_world_force.toInt ∧ h0_site_world_force.toInt ≤ (-1)) (h_h0_asker_cell : 0 ≤ h0_asker_cell.toInt ∧ h0_asker_cell.toInt ≤ 39) (h_f_h0_site_world_rock_kind : KI f_h0_site_world_rock_kind) (e_0 : RXw f_h0_site_world_rock_kind g_hd g_wt g_dg g_ce g_bu g_cc g_co g_ea g_ls g_nc g_nl g_ns g_hu g_hc g_hl g_hs g_so g_we g_wl g_te h0_site_world_lawCount h0_site_world_force w) {Q : Int32 → (Value × Value × Int32 × Int32 × Int32) → Prop} (hq : ∀ (r : Int32) (u_0 : Value) (u_1 : Value) (u_2 : Int32) (u_3 : Int32) (u_4 : Int32), (0 ≤ u_2.toInt ∧ u_2.toInt ≤ 39) ∧ (r.toInt = loudR (lawW w ls) w a.toInt b.toInt) → Q r (u_0, u_1, u_2, u_3, u_4)) : wp_X11_loud_N a b h0_site_world h0_site_world_lawCount h0_site_world_force f_h0_site_world_laws h0_asker_world h0_asker_law h0_asker_cell h0_asker_shaft h0_asker_kind f_h0_site_world_rock_kind Q := by
  unfold wp_X11_loud_N
  have l_kd := RXw.kd e_0
  have l_lc : h0_site_world_lawCount.toInt = w 5 := RXw.lc e_0
  have l_fo : h0_site_world_force.toInt = w 6 := RXw.fo e_0
  have hF : lawW w ls = none := lawW_n (by omega)
  refine o_X11_isWithin _ _ _ ?_
  by_cases c1 : a < 0
  · refine br1 c1 ?_
    have d2 := lt_z (x := (Int32.toInt a)) (y := 0) rfl rfl c1
    refine br1 (by decide) ?_
    have k3 : Int32.toInt (-100000) = (-100000) := (by decide)
    exact hq _ _ _ _ _ _ ⟨(by first | with_reducible assumption | exact ⟨by omega, by omega⟩), (by unfold loudR; rw [if_pos (by omega)]; decide)⟩
  · refine br0 c1 ?_
    have d4 := nlt_z (x := (Int32.toInt a)) (y := 0) rfl rfl c1
    by_cases c5 : 40 ≤ a
    · refine br1 c5 ?_
      have d6 := le_z (x := 40) (y := (Int32.toInt a)) rfl rfl c5
      refine br1 (by decide) ?_
      have k7 : Int32.toInt (-100000) = (-100000) := (by decide)
      exact hq _ _ _ _ _ _ ⟨(by first | with_reducible assumption | exact ⟨by omega, by omega⟩), (by unfold loudR; rw [if_pos (by omega)]; decide)⟩
    · refine br0 c5 ?_
      have d8 := nle_z (x := 40) (y := (Int32.toInt a)) rfl rfl c5
      refine br0 (by decide) ?_
      refine o_X11_isWithin _ _ _ ?_
      by_cases c9 : b < 0
      · refine br1 c9 ?_
        have d10 := lt_z (x := (Int32.toInt b)) (y := 0) rfl rfl c9
        refine br1 (by decide) ?_
        have k11 : Int32.toInt (-100000) = (-100000) := (by decide)
        exact hq _ _ _ _ _ _ ⟨(by first | with_reducible assumption | exact ⟨by omega, by omega⟩), (by unfold loudR; rw [if_pos (by omega)]; decide)⟩
      · refine br0 c9 ?_
        have d12 := nlt_z (x := (Int32.toInt b)) (y := 0) rfl rfl c9
        by_cases c13 : 8 ≤ b
        · refine br1 c13 ?_
          have d14 := le_z (x := 8) (y := (Int32.toInt b)) rfl rfl c13
          refine br1 (by decide) ?_
          have k15 : Int32.toInt (-100000) = (-100000) := (by decide)
          exact hq _ _ _ _ _ _ ⟨(by first | with_reducible assumption | exact ⟨by omega, by omega⟩), (by unfold loudR; rw [if_pos (by omega)]; decide)⟩
        · refine br0 c13 ?_
          have d16 := nle_z (x := 8) (y := (Int32.toInt b)) rfl rfl c13
          refine br0 (by decide) ?_
          refine o_X10_lawInForce_N _ _ _ _ ?_
          refine o_X10_lawOf_N _ _ _ _ ?_
          refine br1 (z_lt (x := (Int32.toInt h0_site_world_force)) (y := 0) rfl rfl (by omega)) ?_
          refine o_X0_turnTo_N _ ?_
          refine ⟨vpi (x := (Int32.toInt a)) rfl (by omega) (by omega), ?_⟩
          have g18 : 0 ≤ (Int32.toInt (f_h0_site_world_rock_kind a.toNatClampNeg)) ∧ (Int32.toInt (f_h0_site_world_rock_kind a.toNatClampNeg)) ≤ 3 := KI.at_0 h_f_h0_site_world_rock_kind (tnz (x := (Int32.toInt a)) rfl (by omega)) (by omega) (by omega)
          have t19 : (Int32.toInt (f_h0_site_world_rock_kind a.toNatClampNeg)) = w (113 + ((Int32.toInt a)).toNat) := RkW.z l_kd (i := ((Int32.toInt a)).toNat) rfl (by omega)
          refine z_csaysN (RXw.wk e_0) (by first | with_reducible assumption | exact ⟨by omega, by omega⟩) (fun r17 H20 => ?_)
          have j21 := H20.1
          have j22 := H20.2
          rw [← hF] at j22
          rw [show (Int32.toInt (f_h0_site_world_rock_kind a.toNatClampNeg)) = w (113 + ((Int32.toInt a)).toNat) by omega] at j22
          refine un3_i ?_
          refine z_steps (by first | with_reducible assumption | exact ⟨by omega, by omega⟩) (by first | with_reducible assumption | exact ⟨by omega, by omega⟩) (fun r23 H24 => ?_)
          have j26 := H24.1
          have j25 := H24.2
          refine z_closesN (RXw.wk e_0) (by first | with_reducible assumption | exact ⟨by omega, by omega⟩) (fun r27 H28 => ?_)
          have j29 := H28.1
          have j30 := H28.2
          rw [← hF] at j30
          rw [show (Int32.toInt (f_h0_site_world_rock_kind a.toNatClampNeg)) = w (113 + ((Int32.toInt a)).toNat) by omega] at j30
          refine un3_i ?_
          have t31 : 0 ≤ (Int32.toInt (r23 * r27)) ∧ (Int32.toInt (r23 * r27)) ≤ 945 := mul_b (x := (Int32.toInt r23)) (y := (Int32.toInt r27)) (X := 105) (Y := 9) rfl rfl (by omega) (by omega) (by omega) (by omega) (by decide)
          have t32 : (Int32.toInt (r17 - (r23 * r27))) = (Int32.toInt r17) - (Int32.toInt (r23 * r27)) := sub_z rfl rfl (by omega) (by omega)
          have k33 : Int32.toInt (-1) = (-1) := (by decide)
          exact hq _ _ _ _ _ _ ⟨(by first | with_reducible assumption | exact ⟨by omega, by omega⟩), (by unfold loudR; rw [if_neg (by omega)]; exact loud_z j22 j25 j30 saysW_b (by have q := stpI_b (c := a.toInt) (col := b.toInt) (by omega) (by omega); omega) losesW_b)⟩


set_option maxRecDepth 100000 in
theorem s_X11_at_Tz (a : Int32) (b : Int32) (h0_site_world : Nat) (h0_site_world_lawCount : Int32) (h0_site_world_force : Int32) (f_h0_site_world_laws : Nat → Option Nat) (h0_asker_world : Value) (h0_asker_law : Value) (h0_asker_cell : Int32) (h0_asker_shaft : Int32) (h0_asker_kind : Int32) (h0_asker_done : Int32) (h0_asker_latest : Int32) (h0_asker_value : Int32) (h0_site_world_rock_dug : Int64) (f_h0_site_world_rock_kind : Nat → Int32) (f_h0_site_world_rock_hard : Nat → Int32) (f_h0_site_world_rock_water : Nat → Int32) (t : Nat) (t_clauses : Int32) (t_length : Int32) (n_t_heads : Nat) (f_t_heads : Nat → Int32) (n_t_code : Nat) (f_t_code : Nat → Int32) (f_h0_asker_stack : Nat → Int64) (h0_site_world_folk_listeners : Int32) (f_h0_site_world_folk_column : Nat → Int32) (f_h0_site_world_term : Nat → Int32) (h0_site_world_crew_count : Int32) (f_h0_site_world_crew_cell : Nat → Int32) (f_h0_site_world_crew_buckets : Nat → Int32) {w : Nat → Int} {ls : Nat → List Cls} {g_ea : Nat → Int32} {g_nc : Nat → Int32} {g_nl : Nat → Int32} {g_ns : Int32} {g_hu : Int32} {g_hc : Nat → Int32} {g_hl : Nat → Int32} {g_hs : Int32} {g_so : Nat → Int32} {g_we : Nat → Int32} {g_wl : Int32} (h_h0_site_world_lawCount : 0 ≤ h0_site_world_lawCount.toInt ∧ h0_site_world_lawCount.toInt ≤ 6) (h_h0_site_world_force : 0 ≤ h0_site_world_force.toInt ∧ h0_site_world_force.toInt ≤ 5) (h_h0_asker_cell : 0 ≤ h0_asker_cell.toInt ∧ h0_asker_cell.toInt ≤ 39) (h_f_h0_site_world_rock_kind : KI f_h0_site_world_rock_kind) (h_f_h0_site_world_rock_hard : HA f_h0_site_world_rock_hard) (h_f_h0_site_world_rock_water : WA f_h0_site_world_rock_water) (h_t_clauses : 0 ≤ t_clauses.toInt ∧ t_clauses.toInt ≤ 12) (h_t_length : 0 ≤ t_length.toInt ∧ t_length.toInt ≤ 400) (h_f_t_code : CD f_t_code) (h_h0_site_world_folk_listeners : 0 ≤ h0_site_world_folk_listeners.toInt ∧ h0_site_world_folk_listeners.toInt ≤ 5) (h_f_h0_site_world_folk_column : CO f_h0_site_world_folk_column) (h_f_h0_site_world_term : TE f_h0_site_world_term) (h_h0_site_world_crew_count : 0 ≤ h0_site_world_crew_count.toInt ∧ h0_site_world_crew_count.toInt ≤ 6) (h_f_h0_site_world_crew_cell : CE f_h0_site_world_crew_cell) (h_f_h0_site_world_crew_buckets : BU f_h0_site_world_crew_buckets) (e_0 : RXw f_h0_site_world_rock_kind f_h0_site_world_rock_hard f_h0_site_world_rock_water h0_site_world_rock_dug f_h0_site_world_crew_cell f_h0_site_world_crew_buckets h0_site_world_crew_count f_h0_site_world_folk_column g_ea h0_site_world_folk_listeners g_nc g_nl g_ns g_hu g_hc g_hl g_hs g_so g_we g_wl f_h0_site_world_term h0_site_world_lawCount h0_site_world_force w) (e_1 : XTx t_clauses t_length n_t_heads f_t_heads n_t_code f_t_code (ls (w 6).toNat)) (e_2 : ∀ q ∈ ls (w 6).toNat, okC q) (e_3 : n_t_heads < 100000) (e_4 : t_length.toInt ≤ (n_t_code : Int)) (e_5 : h0_site_world_force.toInt < h0_site_world_lawCount.toInt) (e_6 : f_h0_site_world_laws (Int32.toNatClampNeg h0_site_world_force) = some t) {Q : Int32 → (Value × Value × Int32 × Int32 × Int32 × Int32 × (Nat → Int64)) → Prop} (hq : ∀ (r : Int32) (u_0 : Value) (u_1 : Value) (u_2 : Int32) (u_3 : Int32) (u_4 : Int32) (u_5 : Int32) (u_6 : Nat → Int64), (0 ≤ u_2.toInt ∧ u_2.toInt ≤ 39) ∧ (r.toInt = atR (lawW w ls) w a.toInt b.toInt) → Q r (u_0, u_1, u_2, u_3, u_4, u_5, u_6)) : wp_X11_at_T a b h0_site_world h0_site_world_lawCount h0_site_world_force f_h0_site_world_laws h0_asker_world h0_asker_law h0_asker_cell h0_asker_shaft h0_asker_kind h0_asker_done h0_asker_latest h0_asker_value h0_site_world_rock_dug f_h0_site_world_rock_kind f_h0_site_world_rock_hard f_h0_site_world_rock_water t t_clauses t_length n_t_heads f_t_heads n_t_code f_t_code f_h0_asker_stack h0_site_world_folk_listeners f_h0_site_world_folk_column f_h0_site_world_term h0_site_world_crew_count f_h0_site_world_crew_cell f_h0_site_world_crew_buckets Q := by
  unfold wp_X11_at_T
  have l_kd := RXw.kd e_0
  have l_hd := RXw.hd e_0
  have l_wt := RXw.wt e_0
  have l_ce := RXw.ce e_0
  have l_bu := RXw.bu e_0
  have l_cc : h0_site_world_crew_count.toInt = w 0 := RXw.cc e_0
  have l_co := RXw.co e_0
  have l_ls : h0_site_world_folk_listeners.toInt = w 1 := RXw.ls e_0
  have l_te := RXw.te e_0
  have l_lc : h0_site_world_lawCount.toInt = w 5 := RXw.lc e_0
  have l_fo : h0_site_world_force.toInt = w 6 := RXw.fo e_0
  have hF : lawW w ls = some (ls (w 6).toNat) := lawW_s (by omega)
  refine o_X11_isWithin _ _ _ ?_
  by_cases c1 : a < 0
  · refine br1 c1 ?_
    have d2 := lt_z (x := (Int32.toInt a)) (y := 0) rfl rfl c1
    refine br1 (by decide) ?_
    have k3 : Int32.toInt (-1) = (-1) := (by decide)
    exact hq _ _ _ _ _ _ _ _ ⟨(by first | with_reducible assumption | exact ⟨by omega, by omega⟩), (by unfold atR; (repeat' split) <;> omega)⟩
  · refine br0 c1 ?_
    have d4 := nlt_z (x := (Int32.toInt a)) (y := 0) rfl rfl c1
    by_cases c5 : 40 ≤ a
    · refine br1 c5 ?_
      have d6 := le_z (x := 40) (y := (Int32.toInt a)) rfl rfl c5
      refine br1 (by decide) ?_
      have k7 : Int32.toInt (-1) = (-1) := (by decide)
      exact hq _ _ _ _ _ _ _ _ ⟨(by first | with_reducible assumption | exact ⟨by omega, by omega⟩), (by unfold atR; (repeat' split) <;> omega)⟩
    · refine br0 c5 ?_
      have d8 := nle_z (x := 40) (y := (Int32.toInt a)) rfl rfl c5
      refine br0 (by decide) ?_
      refine o_X10_lawInForce_T _ _ _ _ _ ?_
      refine o_X10_lawOf_T _ _ _ _ _ ?_
      refine br0 (z_nlt (x := (Int32.toInt h0_site_world_force)) (y := 0) rfl rfl (by omega)) ?_
      by_cases c9 : h0_site_world_lawCount ≤ h0_site_world_force
      · refine br1 c9 ?_
        have d10 := le_z (x := (Int32.toInt h0_site_world_lawCount)) (y := (Int32.toInt h0_site_world_force)) rfl rfl c9
        exfalso
        omega
      · refine br0 c9 ?_
        have d11 := nle_z (x := (Int32.toInt h0_site_world_lawCount)) (y := (Int32.toInt h0_site_world_force)) rfl rfl c9
        refine br0 (z_nle (x := 6) (y := (Int32.toInt h0_site_world_force)) rfl rfl (by omega)) ?_
        refine ⟨vpi (x := (Int32.toInt h0_site_world_force)) rfl (by omega) (by omega), ?_⟩
        refine ⟨by assumption, ?_⟩
        refine o_X0_turnTo_T _ ?_
        by_cases c12 : b = 0
        · refine br1 c12 ?_
          have d13 := eq_z (x := (Int32.toInt b)) (y := 0) rfl rfl c12
          refine ⟨vpi (x := (Int32.toInt a)) rfl (by omega) (by omega), ?_⟩
          have g14 : 0 ≤ (Int32.toInt (f_h0_site_world_rock_kind a.toNatClampNeg)) ∧ (Int32.toInt (f_h0_site_world_rock_kind a.toNatClampNeg)) ≤ 3 := KI.at_0 h_f_h0_site_world_rock_kind (tnz (x := (Int32.toInt a)) rfl (by omega)) (by omega) (by omega)
          have t15 : (Int32.toInt (f_h0_site_world_rock_kind a.toNatClampNeg)) = w (113 + ((Int32.toInt a)).toNat) := RkW.z l_kd (i := ((Int32.toInt a)).toNat) rfl (by omega)
          exact hq _ _ _ _ _ _ _ _ ⟨(by first | with_reducible assumption | exact ⟨by omega, by omega⟩), (by unfold atR; (repeat' split) <;> omega)⟩
        · refine br0 c12 ?_
          have d16 := ne_z (x := (Int32.toInt b)) (y := 0) rfl rfl c12
          by_cases c17 : b = 1
          · refine br1 c17 ?_
            have d18 := eq_z (x := (Int32.toInt b)) (y := 1) rfl rfl c17
            refine ⟨vpi (x := (Int32.toInt a)) rfl (by omega) (by omega), ?_⟩
            have g19 : 1 ≤ (Int32.toInt (f_h0_site_world_rock_hard a.toNatClampNeg)) ∧ (Int32.toInt (f_h0_site_world_rock_hard a.toNatClampNeg)) ≤ 9 := HA.at_0 h_f_h0_site_world_rock_hard (tnz (x := (Int32.toInt a)) rfl (by omega)) (by omega) (by omega)
            have t20 : (Int32.toInt (f_h0_site_world_rock_hard a.toNatClampNeg)) = w (153 + ((Int32.toInt a)).toNat) := RkW.z l_hd (i := ((Int32.toInt a)).toNat) rfl (by omega)
            exact hq _ _ _ _ _ _ _ _ ⟨(by first | with_reducible assumption | exact ⟨by omega, by omega⟩), (by unfold atR; (repeat' split) <;> omega)⟩
          · refine br0 c17 ?_
            have d21 := ne_z (x := (Int32.toInt b)) (y := 1) rfl rfl c17
            by_cases c22 : b = 2
            · refine br1 c22 ?_
              have d23 := eq_z (x := (Int32.toInt b)) (y := 2) rfl rfl c22
              refine ⟨vpi (x := (Int32.toInt a)) rfl (by omega) (by omega), ?_⟩
              have g24 : 0 ≤ (Int32.toInt (f_h0_site_world_rock_water a.toNatClampNeg)) ∧ (Int32.toInt (f_h0_site_world_rock_water a.toNatClampNeg)) ≤ 99 := WA.at_0 h_f_h0_site_world_rock_water (tnz (x := (Int32.toInt a)) rfl (by omega)) (by omega) (by omega)
              have t25 : (Int32.toInt (f_h0_site_world_rock_water a.toNatClampNeg)) = w (73 + ((Int32.toInt a)).toNat) := RkW.z l_wt (i := ((Int32.toInt a)).toNat) rfl (by omega)
              exact hq _ _ _ _ _ _ _ _ ⟨(by first | with_reducible assumption | exact ⟨by omega, by omega⟩), (by unfold atR; (repeat' split) <;> omega)⟩
            · refine br0 c22 ?_
              have d26 := ne_z (x := (Int32.toInt b)) (y := 2) rfl rfl c22
              by_cases c27 : b = 3
              · refine br1 c27 ?_
                have d28 := eq_z (x := (Int32.toInt b)) (y := 3) rfl rfl c27
                refine s_X6_isDugz a h0_site_world_rock_dug (by first | with_reducible assumption | exact ⟨by omega, by omega⟩) (RXw.dg e_0) (fun r29 H30 => ?_)
                have j31 := H30.1
                have j32 := H30.2
                by_cases c33 : r29 = 0
                · refine br1 c33 ?_
                  have d34 := eq_z (x := (Int32.toInt r29)) (y := 0) rfl rfl c33
                  have k35 : Int32.toInt 0 = 0 := rfl
                  exact hq _ _ _ _ _ _ _ _ ⟨(by first | with_reducible assumption | exact ⟨by omega, by omega⟩), (by unfold atR; (repeat' split) <;> omega)⟩
                · refine br0 c33 ?_
                  have d36 := ne_z (x := (Int32.toInt r29)) (y := 0) rfl rfl c33
                  have k37 : Int32.toInt 1 = 1 := rfl
                  exact hq _ _ _ _ _ _ _ _ ⟨(by first | with_reducible assumption | exact ⟨by omega, by omega⟩), (by unfold atR; (repeat' split) <;> omega)⟩
              · refine br0 c27 ?_
                have d38 := ne_z (x := (Int32.toInt b)) (y := 3) rfl rfl c27
                by_cases c39 : b = 4
                · refine br1 c39 ?_
                  have d40 := eq_z (x := (Int32.toInt b)) (y := 4) rfl rfl c39
                  refine ⟨vpi (x := (Int32.toInt a)) rfl (by omega) (by omega), ?_⟩
                  have g42 : 0 ≤ (Int32.toInt (f_h0_site_world_rock_kind a.toNatClampNeg)) ∧ (Int32.toInt (f_h0_site_world_rock_kind a.toNatClampNeg)) ≤ 3 := KI.at_0 h_f_h0_site_world_rock_kind (tnz (x := (Int32.toInt a)) rfl (by omega)) (by omega) (by omega)
                  have t43 : (Int32.toInt (f_h0_site_world_rock_kind a.toNatClampNeg)) = w (113 + ((Int32.toInt a)).toNat) := RkW.z l_kd (i := ((Int32.toInt a)).toNat) rfl (by omega)
                  refine z_csaysT e_1 e_2 (RXw.wk e_0) (LwB.of h_f_h0_site_world_rock_kind h_f_h0_site_world_rock_hard h_f_h0_site_world_rock_water h_f_h0_site_world_term) (by first | with_reducible assumption | exact ⟨by omega, by omega⟩) (by first | with_reducible assumption | exact ⟨by omega, by omega⟩) (fun r41 v44 st45 H46 => ?_)
                  have j47 := H46.1
                  have j48 := H46.2
                  rw [← hF] at j48
                  rw [show (Int32.toInt (f_h0_site_world_rock_kind a.toNatClampNeg)) = w (113 + ((Int32.toInt a)).toNat) by omega] at j48
                  refine un5_i ?_
                  have k49 : Int32.toInt (-1) = (-1) := (by decide)
                  exact hq _ _ _ _ _ _ _ _ ⟨(by first | with_reducible assumption | exact ⟨by omega, by omega⟩), (by unfold atR; (repeat' split) <;> omega)⟩
                · refine br0 c39 ?_
                  have d50 := ne_z (x := (Int32.toInt b)) (y := 4) rfl rfl c39
                  by_cases c51 : b = 5
                  · refine br1 c51 ?_
                    have d52 := eq_z (x := (Int32.toInt b)) (y := 5) rfl rfl c51
                    refine ⟨vpi (x := (Int32.toInt a)) rfl (by omega) (by omega), ?_⟩
                    have g54 : 0 ≤ (Int32.toInt (f_h0_site_world_rock_kind a.toNatClampNeg)) ∧ (Int32.toInt (f_h0_site_world_rock_kind a.toNatClampNeg)) ≤ 3 := KI.at_0 h_f_h0_site_world_rock_kind (tnz (x := (Int32.toInt a)) rfl (by omega)) (by omega) (by omega)
                    have t55 : (Int32.toInt (f_h0_site_world_rock_kind a.toNatClampNeg)) = w (113 + ((Int32.toInt a)).toNat) := RkW.z l_kd (i := ((Int32.toInt a)).toNat) rfl (by omega)
                    refine z_closesT e_1 e_2 (RXw.wk e_0) (LwB.of h_f_h0_site_world_rock_kind h_f_h0_site_world_rock_hard h_f_h0_site_world_rock_water h_f_h0_site_world_term) (by first | with_reducible assumption | exact ⟨by omega, by omega⟩) (by first | with_reducible assumption | exact ⟨by omega, by omega⟩) (fun r53 v56 st57 H58 => ?_)
                    have j59 := H58.1
                    have j60 := H58.2
                    rw [← hF] at j60
                    rw [show (Int32.toInt (f_h0_site_world_rock_kind a.toNatClampNeg)) = w (113 + ((Int32.toInt a)).toNat) by omega] at j60
                    refine un5_i ?_
                    have k61 : Int32.toInt (-1) = (-1) := (by decide)
                    exact hq _ _ _ _ _ _ _ _ ⟨(by first | with_reducible assumption | exact ⟨by omega, by omega⟩), (by unfold atR; (repeat' split) <;> omega)⟩
                  · refine br0 c51 ?_
                    have d62 := ne_z (x := (Int32.toInt b)) (y := 5) rfl rfl c51
                    have k63 : Int32.toInt (-1) = (-1) := (by decide)
                    exact hq _ _ _ _ _ _ _ _ ⟨(by first | with_reducible assumption | exact ⟨by omega, by omega⟩), (by unfold atR; (repeat' split) <;> omega)⟩


set_option maxRecDepth 100000 in
theorem s_X11_asks_Tz (a : Int32) (b : Int32) (d : Int32) (h0_site_world : Nat) (h0_site_world_lawCount : Int32) (h0_site_world_force : Int32) (h0_site_world_crew_count : Int32) (f_h0_site_world_laws : Nat → Option Nat) (h0_asker_world : Value) (h0_asker_law : Value) (h0_asker_cell : Int32) (h0_asker_shaft : Int32) (h0_asker_kind : Int32) (h0_asker_done : Int32) (h0_asker_latest : Int32) (h0_asker_value : Int32) (f_h0_site_world_rock_kind : Nat → Int32) (f_h0_site_world_rock_hard : Nat → Int32) (t : Nat) (t_clauses : Int32) (t_length : Int32) (n_t_heads : Nat) (f_t_heads : Nat → Int32) (n_t_code : Nat) (f_t_code : Nat → Int32) (f_h0_asker_stack : Nat → Int64) (h0_site_world_folk_listeners : Int32) (f_h0_site_world_folk_column : Nat → Int32) (f_h0_site_world_rock_water : Nat → Int32) (f_h0_site_world_term : Nat → Int32) (f_h0_site_world_crew_cell : Nat → Int32) (f_h0_site_world_crew_buckets : Nat → Int32) {w : Nat → Int} {ls : Nat → List Cls} {g_dg : Int64} {g_ea : Nat → Int32} {g_nc : Nat → Int32} {g_nl : Nat → Int32} {g_ns : Int32} {g_hu : Int32} {g_hc : Nat → Int32} {g_hl : Nat → Int32} {g_hs : Int32} {g_so : Nat → Int32} {g_we : Nat → Int32} {g_wl : Int32} (h_h0_site_world_lawCount : 0 ≤ h0_site_world_lawCount.toInt ∧ h0_site_world_lawCount.toInt ≤ 6) (h_h0_site_world_force : 0 ≤ h0_site_world_force.toInt ∧ h0_site_world_force.toInt ≤ 5) (h_h0_site_world_crew_count : 0 ≤ h0_site_world_crew_count.toInt ∧ h0_site_world_crew_count.toInt ≤ 6) (h_h0_asker_cell : 0 ≤ h0_asker_cell.toInt ∧ h0_asker_cell.toInt ≤ 39) (h_f_h0_site_world_rock_kind : KI f_h0_site_world_rock_kind) (h_f_h0_site_world_rock_hard : HA f_h0_site_world_rock_hard) (h_t_clauses : 0 ≤ t_clauses.toInt ∧ t_clauses.toInt ≤ 12) (h_t_length : 0 ≤ t_length.toInt ∧ t_length.toInt ≤ 400) (h_f_t_code : CD f_t_code) (h_h0_site_world_folk_listeners : 0 ≤ h0_site_world_folk_listeners.toInt ∧ h0_site_world_folk_listeners.toInt ≤ 5) (h_f_h0_site_world_folk_column : CO f_h0_site_world_folk_column) (h_f_h0_site_world_rock_water : WA f_h0_site_world_rock_water) (h_f_h0_site_world_term : TE f_h0_site_world_term) (h_f_h0_site_world_crew_cell : CE f_h0_site_world_crew_cell) (h_f_h0_site_world_crew_buckets : BU f_h0_site_world_crew_buckets) (e_0 : RXw f_h0_site_world_rock_kind f_h0_site_world_rock_hard f_h0_site_world_rock_water g_dg f_h0_site_world_crew_cell f_h0_site_world_crew_buckets h0_site_world_crew_count f_h0_site_world_folk_column g_ea h0_site_world_folk_listeners g_nc g_nl g_ns g_hu g_hc g_hl g_hs g_so g_we g_wl f_h0_site_world_term h0_site_world_lawCount h0_site_world_force w) (e_1 : XTx t_clauses t_length n_t_heads f_t_heads n_t_code f_t_code (ls (w 6).toNat)) (e_2 : ∀ q ∈ ls (w 6).toNat, okC q) (e_3 : n_t_heads < 100000) (e_4 : t_length.toInt ≤ (n_t_code : Int)) (e_5 : h0_site_world_force.toInt < h0_site_world_lawCount.toInt) (e_6 : f_h0_site_world_laws (Int32.toNatClampNeg h0_site_world_force) = some t) {Q : Int32 → (Value × Value × Int32 × Int32 × Int32 × Int32 × (Nat → Int64)) → Prop} (hq : ∀ (r : Int32) (u_0 : Value) (u_1 : Value) (u_2 : Int32) (u_3 : Int32) (u_4 : Int32) (u_5 : Int32) (u_6 : Nat → Int64), (0 ≤ u_2.toInt ∧ u_2.toInt ≤ 39) ∧ (r.toInt = asksR (lawW w ls) w a.toInt b.toInt d.toInt) → Q r (u_0, u_1, u_2, u_3, u_4, u_5, u_6)) : wp_X11_asks_T a b d h0_site_world h0_site_world_lawCount h0_site_world_force h0_site_world_crew_count f_h0_site_world_laws h0_asker_world h0_asker_law h0_asker_cell h0_asker_shaft h0_asker_kind h0_asker_done h0_asker_latest h0_asker_value f_h0_site_world_rock_kind f_h0_site_world_rock_hard t t_clauses t_length n_t_heads f_t_heads n_t_code f_t_code f_h0_asker_stack h0_site_world_folk_listeners f_h0_site_world_folk_column f_h0_site_world_rock_water f_h0_site_world_term f_h0_site_world_crew_cell f_h0_site_world_crew_buckets Q := by
  unfold wp_X11_asks_T
  have l_kd := RXw.kd e_0
  have l_hd := RXw.hd e_0
  have l_wt := RXw.wt e_0
  have l_ce := RXw.ce e_0
  have l_bu := RXw.bu e_0
  have l_cc : h0_site_world_crew_count.toInt = w 0 := RXw.cc e_0
  have l_co := RXw.co e_0
  have l_ls : h0_site_world_folk_listeners.toInt = w 1 := RXw.ls e_0
  have l_te := RXw.te e_0
  have l_lc : h0_site_world_lawCount.toInt = w 5 := RXw.lc e_0
  have l_fo : h0_site_world_force.toInt = w 6 := RXw.fo e_0
  have hF : lawW w ls = some (ls (w 6).toNat) := lawW_s (by omega)
  refine o_X11_isWithin _ _ _ ?_
  by_cases c1 : a < 0
  · refine br1 c1 ?_
    have d2 := lt_z (x := (Int32.toInt a)) (y := 0) rfl rfl c1
    refine br1 (by decide) ?_
    have k3 : Int32.toInt (-1) = (-1) := (by decide)
    exact hq _ _ _ _ _ _ _ _ ⟨(by first | with_reducible assumption | exact ⟨by omega, by omega⟩), (by unfold asksR; (repeat' split) <;> omega)⟩
  · refine br0 c1 ?_
    have d4 := nlt_z (x := (Int32.toInt a)) (y := 0) rfl rfl c1
    by_cases c5 : h0_site_world_crew_count ≤ a
    · refine br1 c5 ?_
      have d6 := le_z (x := (Int32.toInt h0_site_world_crew_count)) (y := (Int32.toInt a)) rfl rfl c5
      refine br1 (by decide) ?_
      have k7 : Int32.toInt (-1) = (-1) := (by decide)
      exact hq _ _ _ _ _ _ _ _ ⟨(by first | with_reducible assumption | exact ⟨by omega, by omega⟩), (by unfold asksR; (repeat' split) <;> omega)⟩
    · refine br0 c5 ?_
      have d8 := nle_z (x := (Int32.toInt h0_site_world_crew_count)) (y := (Int32.toInt a)) rfl rfl c5
      refine br0 (by decide) ?_
      refine o_X11_isWithin _ _ _ ?_
      by_cases c9 : b < 0
      · refine br1 c9 ?_
        have d10 := lt_z (x := (Int32.toInt b)) (y := 0) rfl rfl c9
        refine br1 (by decide) ?_
        have k11 : Int32.toInt (-1) = (-1) := (by decide)
        exact hq _ _ _ _ _ _ _ _ ⟨(by first | with_reducible assumption | exact ⟨by omega, by omega⟩), (by unfold asksR; (repeat' split) <;> omega)⟩
      · refine br0 c9 ?_
        have d12 := nlt_z (x := (Int32.toInt b)) (y := 0) rfl rfl c9
        by_cases c13 : 40 ≤ b
        · refine br1 c13 ?_
          have d14 := le_z (x := 40) (y := (Int32.toInt b)) rfl rfl c13
          refine br1 (by decide) ?_
          have k15 : Int32.toInt (-1) = (-1) := (by decide)
          exact hq _ _ _ _ _ _ _ _ ⟨(by first | with_reducible assumption | exact ⟨by omega, by omega⟩), (by unfold asksR; (repeat' split) <;> omega)⟩
        · refine br0 c13 ?_
          have d16 := nle_z (x := 40) (y := (Int32.toInt b)) rfl rfl c13
          refine br0 (by decide) ?_
          refine o_X10_lawInForce_T _ _ _ _ _ ?_
          refine o_X10_lawOf_T _ _ _ _ _ ?_
          refine br0 (z_nlt (x := (Int32.toInt h0_site_world_force)) (y := 0) rfl rfl (by omega)) ?_
          by_cases c17 : h0_site_world_lawCount ≤ h0_site_world_force
          · refine br1 c17 ?_
            have d18 := le_z (x := (Int32.toInt h0_site_world_lawCount)) (y := (Int32.toInt h0_site_world_force)) rfl rfl c17
            exfalso
            omega
          · refine br0 c17 ?_
            have d19 := nle_z (x := (Int32.toInt h0_site_world_lawCount)) (y := (Int32.toInt h0_site_world_force)) rfl rfl c17
            refine br0 (z_nle (x := 6) (y := (Int32.toInt h0_site_world_force)) rfl rfl (by omega)) ?_
            refine ⟨vpi (x := (Int32.toInt h0_site_world_force)) rfl (by omega) (by omega), ?_⟩
            refine ⟨by assumption, ?_⟩
            refine o_X0_turnTo_T _ ?_
            by_cases c20 : d = 0
            · refine br1 c20 ?_
              have d21 := eq_z (x := (Int32.toInt d)) (y := 0) rfl rfl c20
              refine z_cdigsT e_1 e_2 (RXw.wk e_0) (LwB.of h_f_h0_site_world_rock_kind h_f_h0_site_world_rock_hard h_f_h0_site_world_rock_water h_f_h0_site_world_term) (by first | with_reducible assumption | exact ⟨by omega, by omega⟩) (by first | with_reducible assumption | exact ⟨by omega, by omega⟩) (fun r22 v23 st24 H25 => ?_)
              have j26 := H25.1
              have j27 := H25.2
              rw [← hF] at j27
              refine un5_i ?_
              have g28 : 0 ≤ (Int32.toInt (f_h0_site_world_rock_kind b.toNatClampNeg)) ∧ (Int32.toInt (f_h0_site_world_rock_kind b.toNatClampNeg)) ≤ 3 := KI.at_0 h_f_h0_site_world_rock_kind (tnz (x := (Int32.toInt b)) rfl (by omega)) (by omega) (by omega)
              have t29 : (Int32.toInt (f_h0_site_world_rock_kind b.toNatClampNeg)) = w (113 + ((Int32.toInt b)).toNat) := RkW.z l_kd (i := ((Int32.toInt b)).toNat) rfl (by omega)
              exact hq _ _ _ _ _ _ _ _ ⟨(by first | with_reducible assumption | exact ⟨by omega, by omega⟩), (by unfold asksR; (repeat' split) <;> omega)⟩
            · refine br0 c20 ?_
              have d30 := ne_z (x := (Int32.toInt d)) (y := 0) rfl rfl c20
              by_cases c31 : d = 1
              · refine br1 c31 ?_
                have d32 := eq_z (x := (Int32.toInt d)) (y := 1) rfl rfl c31
                refine z_cpassT e_1 e_2 (RXw.wk e_0) (LwB.of h_f_h0_site_world_rock_kind h_f_h0_site_world_rock_hard h_f_h0_site_world_rock_water h_f_h0_site_world_term) (by first | with_reducible assumption | exact ⟨by omega, by omega⟩) (by first | with_reducible assumption | exact ⟨by omega, by omega⟩) (by first | with_reducible assumption | exact ⟨by omega, by omega⟩) (fun r33 x34 x35 x36 v37 st38 H39 => ?_)
                have j40 := H39.1
                have j41 := H39.2.1
                rw [← hF] at j41
                have j42 := H39.2.2
                refine un5_i ?_
                by_cases c43 : r33 = 0
                · refine br1 c43 ?_
                  have d44 := eq_z (x := (Int32.toInt r33)) (y := 0) rfl rfl c43
                  have k45 : Int32.toInt 0 = 0 := rfl
                  exact hq _ _ _ _ _ _ _ _ ⟨(by first | with_reducible assumption | exact ⟨by omega, by omega⟩), (by unfold asksR; (repeat' split) <;> omega)⟩
                · refine br0 c43 ?_
                  have d46 := ne_z (x := (Int32.toInt r33)) (y := 0) rfl rfl c43
                  have k47 : Int32.toInt 1 = 1 := rfl
                  exact hq _ _ _ _ _ _ _ _ ⟨(by first | with_reducible assumption | exact ⟨by omega, by omega⟩), (by unfold asksR; (repeat' split) <;> omega)⟩
              · refine br0 c31 ?_
                have d48 := ne_z (x := (Int32.toInt d)) (y := 1) rfl rfl c31
                by_cases c49 : d = 2
                · refine br1 c49 ?_
                  have d50 := eq_z (x := (Int32.toInt d)) (y := 2) rfl rfl c49
                  refine z_cgivesT e_1 e_2 (RXw.wk e_0) (LwB.of h_f_h0_site_world_rock_kind h_f_h0_site_world_rock_hard h_f_h0_site_world_rock_water h_f_h0_site_world_term) (by first | with_reducible assumption | exact ⟨by omega, by omega⟩) (by first | with_reducible assumption | exact ⟨by omega, by omega⟩) (fun r51 v52 st53 H54 => ?_)
                  have j55 := H54.1
                  have j56 := H54.2.1
                  rw [← hF] at j56
                  have j57 := H54.2.2
                  refine un5_i ?_
                  have g58 : 0 ≤ (Int32.toInt (f_h0_site_world_rock_kind b.toNatClampNeg)) ∧ (Int32.toInt (f_h0_site_world_rock_kind b.toNatClampNeg)) ≤ 3 := KI.at_0 h_f_h0_site_world_rock_kind (tnz (x := (Int32.toInt b)) rfl (by omega)) (by omega) (by omega)
                  have t59 : (Int32.toInt (f_h0_site_world_rock_kind b.toNatClampNeg)) = w (113 + ((Int32.toInt b)).toNat) := RkW.z l_kd (i := ((Int32.toInt b)).toNat) rfl (by omega)
                  exact hq _ _ _ _ _ _ _ _ ⟨(by first | with_reducible assumption | exact ⟨by omega, by omega⟩), (by unfold asksR; (repeat' split) <;> omega)⟩
                · refine br0 c49 ?_
                  have d60 := ne_z (x := (Int32.toInt d)) (y := 2) rfl rfl c49
                  have k61 : Int32.toInt (-1) = (-1) := (by decide)
                  exact hq _ _ _ _ _ _ _ _ ⟨(by first | with_reducible assumption | exact ⟨by omega, by omega⟩), (by unfold asksR; (repeat' split) <;> omega)⟩


set_option maxRecDepth 100000 in
theorem s_X11_loud_Tz (a : Int32) (b : Int32) (h0_site_world : Nat) (h0_site_world_lawCount : Int32) (h0_site_world_force : Int32) (f_h0_site_world_laws : Nat → Option Nat) (h0_asker_world : Value) (h0_asker_law : Value) (h0_asker_cell : Int32) (h0_asker_shaft : Int32) (h0_asker_kind : Int32) (h0_asker_done : Int32) (h0_asker_latest : Int32) (h0_asker_value : Int32) (f_h0_site_world_rock_kind : Nat → Int32) (t : Nat) (t_clauses : Int32) (t_length : Int32) (n_t_heads : Nat) (f_t_heads : Nat → Int32) (n_t_code : Nat) (f_t_code : Nat → Int32) (f_h0_asker_stack : Nat → Int64) (h0_site_world_folk_listeners : Int32) (f_h0_site_world_folk_column : Nat → Int32) (f_h0_site_world_rock_hard : Nat → Int32) (f_h0_site_world_rock_water : Nat → Int32) (f_h0_site_world_term : Nat → Int32) (h0_site_world_crew_count : Int32) (f_h0_site_world_crew_cell : Nat → Int32) (f_h0_site_world_crew_buckets : Nat → Int32) {w : Nat → Int} {ls : Nat → List Cls} {g_dg : Int64} {g_ea : Nat → Int32} {g_nc : Nat → Int32} {g_nl : Nat → Int32} {g_ns : Int32} {g_hu : Int32} {g_hc : Nat → Int32} {g_hl : Nat → Int32} {g_hs : Int32} {g_so : Nat → Int32} {g_we : Nat → Int32} {g_wl : Int32} (h_h0_site_world_lawCount : 0 ≤ h0_site_world_lawCount.toInt ∧ h0_site_world_lawCount.toInt ≤ 6) (h_h0_site_world_force : 0 ≤ h0_site_world_force.toInt ∧ h0_site_world_force.toInt ≤ 5) (h_h0_asker_cell : 0 ≤ h0_asker_cell.toInt ∧ h0_asker_cell.toInt ≤ 39) (h_f_h0_site_world_rock_kind : KI f_h0_site_world_rock_kind) (h_t_clauses : 0 ≤ t_clauses.toInt ∧ t_clauses.toInt ≤ 12) (h_t_length : 0 ≤ t_length.toInt ∧ t_length.toInt ≤ 400) (h_f_t_code : CD f_t_code) (h_h0_site_world_folk_listeners : 0 ≤ h0_site_world_folk_listeners.toInt ∧ h0_site_world_folk_listeners.toInt ≤ 5) (h_f_h0_site_world_folk_column : CO f_h0_site_world_folk_column) (h_f_h0_site_world_rock_hard : HA f_h0_site_world_rock_hard) (h_f_h0_site_world_rock_water : WA f_h0_site_world_rock_water) (h_f_h0_site_world_term : TE f_h0_site_world_term) (h_h0_site_world_crew_count : 0 ≤ h0_site_world_crew_count.toInt ∧ h0_site_world_crew_count.toInt ≤ 6) (h_f_h0_site_world_crew_cell : CE f_h0_site_world_crew_cell) (h_f_h0_site_world_crew_buckets : BU f_h0_site_world_crew_buckets) (e_0 : RXw f_h0_site_world_rock_kind f_h0_site_world_rock_hard f_h0_site_world_rock_water g_dg f_h0_site_world_crew_cell f_h0_site_world_crew_buckets h0_site_world_crew_count f_h0_site_world_folk_column g_ea h0_site_world_folk_listeners g_nc g_nl g_ns g_hu g_hc g_hl g_hs g_so g_we g_wl f_h0_site_world_term h0_site_world_lawCount h0_site_world_force w) (e_1 : XTx t_clauses t_length n_t_heads f_t_heads n_t_code f_t_code (ls (w 6).toNat)) (e_2 : ∀ q ∈ ls (w 6).toNat, okC q) (e_3 : n_t_heads < 100000) (e_4 : t_length.toInt ≤ (n_t_code : Int)) (e_5 : h0_site_world_force.toInt < h0_site_world_lawCount.toInt) (e_6 : f_h0_site_world_laws (Int32.toNatClampNeg h0_site_world_force) = some t) {Q : Int32 → (Value × Value × Int32 × Int32 × Int32 × Int32 × (Nat → Int64)) → Prop} (hq : ∀ (r : Int32) (u_0 : Value) (u_1 : Value) (u_2 : Int32) (u_3 : Int32) (u_4 : Int32) (u_5 : Int32) (u_6 : Nat → Int64), (0 ≤ u_2.toInt ∧ u_2.toInt ≤ 39) ∧ (r.toInt = loudR (lawW w ls) w a.toInt b.toInt) → Q r (u_0, u_1, u_2, u_3, u_4, u_5, u_6)) : wp_X11_loud_T a b h0_site_world h0_site_world_lawCount h0_site_world_force f_h0_site_world_laws h0_asker_world h0_asker_law h0_asker_cell h0_asker_shaft h0_asker_kind h0_asker_done h0_asker_latest h0_asker_value f_h0_site_world_rock_kind t t_clauses t_length n_t_heads f_t_heads n_t_code f_t_code f_h0_asker_stack h0_site_world_folk_listeners f_h0_site_world_folk_column f_h0_site_world_rock_hard f_h0_site_world_rock_water f_h0_site_world_term h0_site_world_crew_count f_h0_site_world_crew_cell f_h0_site_world_crew_buckets Q := by
  unfold wp_X11_loud_T
  have l_kd := RXw.kd e_0
  have l_hd := RXw.hd e_0
  have l_wt := RXw.wt e_0
  have l_ce := RXw.ce e_0
  have l_bu := RXw.bu e_0
  have l_cc : h0_site_world_crew_count.toInt = w 0 := RXw.cc e_0
  have l_co := RXw.co e_0
  have l_ls : h0_site_world_folk_listeners.toInt = w 1 := RXw.ls e_0
  have l_te := RXw.te e_0
  have l_lc : h0_site_world_lawCount.toInt = w 5 := RXw.lc e_0
  have l_fo : h0_site_world_force.toInt = w 6 := RXw.fo e_0
  have hF : lawW w ls = some (ls (w 6).toNat) := lawW_s (by omega)
  refine o_X11_isWithin _ _ _ ?_
  by_cases c1 : a < 0
  · refine br1 c1 ?_
    have d2 := lt_z (x := (Int32.toInt a)) (y := 0) rfl rfl c1
    refine br1 (by decide) ?_
    have k3 : Int32.toInt (-100000) = (-100000) := (by decide)
    exact hq _ _ _ _ _ _ _ _ ⟨(by first | with_reducible assumption | exact ⟨by omega, by omega⟩), (by unfold loudR; rw [if_pos (by omega)]; decide)⟩
  · refine br0 c1 ?_
    have d4 := nlt_z (x := (Int32.toInt a)) (y := 0) rfl rfl c1
    by_cases c5 : 40 ≤ a
    · refine br1 c5 ?_
      have d6 := le_z (x := 40) (y := (Int32.toInt a)) rfl rfl c5
      refine br1 (by decide) ?_
      have k7 : Int32.toInt (-100000) = (-100000) := (by decide)
      exact hq _ _ _ _ _ _ _ _ ⟨(by first | with_reducible assumption | exact ⟨by omega, by omega⟩), (by unfold loudR; rw [if_pos (by omega)]; decide)⟩
    · refine br0 c5 ?_
      have d8 := nle_z (x := 40) (y := (Int32.toInt a)) rfl rfl c5
      refine br0 (by decide) ?_
      refine o_X11_isWithin _ _ _ ?_
      by_cases c9 : b < 0
      · refine br1 c9 ?_
        have d10 := lt_z (x := (Int32.toInt b)) (y := 0) rfl rfl c9
        refine br1 (by decide) ?_
        have k11 : Int32.toInt (-100000) = (-100000) := (by decide)
        exact hq _ _ _ _ _ _ _ _ ⟨(by first | with_reducible assumption | exact ⟨by omega, by omega⟩), (by unfold loudR; rw [if_pos (by omega)]; decide)⟩
      · refine br0 c9 ?_
        have d12 := nlt_z (x := (Int32.toInt b)) (y := 0) rfl rfl c9
        by_cases c13 : 8 ≤ b
        · refine br1 c13 ?_
          have d14 := le_z (x := 8) (y := (Int32.toInt b)) rfl rfl c13
          refine br1 (by decide) ?_
          have k15 : Int32.toInt (-100000) = (-100000) := (by decide)
          exact hq _ _ _ _ _ _ _ _ ⟨(by first | with_reducible assumption | exact ⟨by omega, by omega⟩), (by unfold loudR; rw [if_pos (by omega)]; decide)⟩
        · refine br0 c13 ?_
          have d16 := nle_z (x := 8) (y := (Int32.toInt b)) rfl rfl c13
          refine br0 (by decide) ?_
          refine o_X10_lawInForce_T _ _ _ _ _ ?_
          refine o_X10_lawOf_T _ _ _ _ _ ?_
          refine br0 (z_nlt (x := (Int32.toInt h0_site_world_force)) (y := 0) rfl rfl (by omega)) ?_
          by_cases c17 : h0_site_world_lawCount ≤ h0_site_world_force
          · refine br1 c17 ?_
            have d18 := le_z (x := (Int32.toInt h0_site_world_lawCount)) (y := (Int32.toInt h0_site_world_force)) rfl rfl c17
            exfalso
            omega
          · refine br0 c17 ?_
            have d19 := nle_z (x := (Int32.toInt h0_site_world_lawCount)) (y := (Int32.toInt h0_site_world_force)) rfl rfl c17
            refine br0 (z_nle (x := 6) (y := (Int32.toInt h0_site_world_force)) rfl rfl (by omega)) ?_
            refine ⟨vpi (x := (Int32.toInt h0_site_world_force)) rfl (by omega) (by omega), ?_⟩
            refine ⟨by assumption, ?_⟩
            refine o_X0_turnTo_T _ ?_
            refine ⟨vpi (x := (Int32.toInt a)) rfl (by omega) (by omega), ?_⟩
            have g21 : 0 ≤ (Int32.toInt (f_h0_site_world_rock_kind a.toNatClampNeg)) ∧ (Int32.toInt (f_h0_site_world_rock_kind a.toNatClampNeg)) ≤ 3 := KI.at_0 h_f_h0_site_world_rock_kind (tnz (x := (Int32.toInt a)) rfl (by omega)) (by omega) (by omega)
            have t22 : (Int32.toInt (f_h0_site_world_rock_kind a.toNatClampNeg)) = w (113 + ((Int32.toInt a)).toNat) := RkW.z l_kd (i := ((Int32.toInt a)).toNat) rfl (by omega)
            refine z_csaysT e_1 e_2 (RXw.wk e_0) (LwB.of h_f_h0_site_world_rock_kind h_f_h0_site_world_rock_hard h_f_h0_site_world_rock_water h_f_h0_site_world_term) (by first | with_reducible assumption | exact ⟨by omega, by omega⟩) (by first | with_reducible assumption | exact ⟨by omega, by omega⟩) (fun r20 v23 st24 H25 => ?_)
            have j26 := H25.1
            have j27 := H25.2
            rw [← hF] at j27
            rw [show (Int32.toInt (f_h0_site_world_rock_kind a.toNatClampNeg)) = w (113 + ((Int32.toInt a)).toNat) by omega] at j27
            refine un5_i ?_
            refine z_steps (by first | with_reducible assumption | exact ⟨by omega, by omega⟩) (by first | with_reducible assumption | exact ⟨by omega, by omega⟩) (fun r28 H29 => ?_)
            have j31 := H29.1
            have j30 := H29.2
            refine z_closesT e_1 e_2 (RXw.wk e_0) (LwB.of h_f_h0_site_world_rock_kind h_f_h0_site_world_rock_hard h_f_h0_site_world_rock_water h_f_h0_site_world_term) (by first | with_reducible assumption | exact ⟨by omega, by omega⟩) (by first | with_reducible assumption | exact ⟨by omega, by omega⟩) (fun r32 v33 st34 H35 => ?_)
            have j36 := H35.1
            have j37 := H35.2
            rw [← hF] at j37
            rw [show (Int32.toInt (f_h0_site_world_rock_kind a.toNatClampNeg)) = w (113 + ((Int32.toInt a)).toNat) by omega] at j37
            refine un5_i ?_
            have t38 : 0 ≤ (Int32.toInt (r28 * r32)) ∧ (Int32.toInt (r28 * r32)) ≤ 945 := mul_b (x := (Int32.toInt r28)) (y := (Int32.toInt r32)) (X := 105) (Y := 9) rfl rfl (by omega) (by omega) (by omega) (by omega) (by decide)
            have t39 : (Int32.toInt (r20 - (r28 * r32))) = (Int32.toInt r20) - (Int32.toInt (r28 * r32)) := sub_z rfl rfl (by omega) (by omega)
            have k40 : Int32.toInt (-1) = (-1) := (by decide)
            exact hq _ _ _ _ _ _ _ _ ⟨(by first | with_reducible assumption | exact ⟨by omega, by omega⟩), (by unfold loudR; rw [if_neg (by omega)]; exact loud_z j27 j30 j37 saysW_b (by have q := stpI_b (c := a.toInt) (col := b.toInt) (by omega) (by omega); omega) losesW_b)⟩
end
section
set_option maxRecDepth 100000 in
theorem s_X12_dinz (a : Int32) (f_row : Nat → Int32) {w : Nat → Int} (h_f_row : RLW f_row) (e_0 : RMw f_row w) {Q : Int32 → Int32 → Prop} (hq : ∀ (r : Int32) (u : Int32), (r.toInt = dinR w a.toInt) → Q r u) : wp_X12_din a f_row Q := by
  unfold wp_X12_din
  refine o_X12_isColumn _ _ ?_
  refine o_X12_in _ _ _ _ ?_
  by_cases c1 : (lg_cmp a.toInt64 0) < 0
  · refine br1 c1 ?_
    have t2 : (Int64.toInt a.toInt64) = (Int32.toInt a) := i2l_z rfl
    have d3 := c_lt (x := (Int64.toInt a.toInt64)) (y := 0) rfl rfl c1
    refine br1 (by decide) ?_
    have k4 : Int32.toInt (-1) = (-1) := (by decide)
    have k5 : Int32.toInt 0 = 0 := rfl
    exact hq _ _ (by unfold dinR; rw [if_pos (by omega)]; decide)
  · refine br0 c1 ?_
    have t6 : (Int64.toInt a.toInt64) = (Int32.toInt a) := i2l_z rfl
    have d7 := c_nlt (x := (Int64.toInt a.toInt64)) (y := 0) rfl rfl c1
    by_cases c8 : 0 < (lg_cmp a.toInt64 7)
    · refine br1 c8 ?_
      have d9 := c_gt (x := (Int64.toInt a.toInt64)) (y := 7) rfl rfl c8
      refine br1 (by decide) ?_
      have k10 : Int32.toInt (-1) = (-1) := (by decide)
      have k11 : Int32.toInt 0 = 0 := rfl
      exact hq _ _ (by unfold dinR; rw [if_pos (by omega)]; decide)
    · refine br0 c8 ?_
      have d12 := c_ngt (x := (Int64.toInt a.toInt64)) (y := 7) rfl rfl c8
      refine br0 (by decide) ?_
      refine s_X12_dinButz a 0 (f_row) (w := w) (by first | with_reducible assumption | exact ⟨by omega, by omega⟩) h_f_row e_0 (fun r13 H14 => ?_)
      have j15 := H14.1
      have j16 := H14.2
      have k17 : Int32.toInt 0 = 0 := rfl
      exact hq _ _ (by unfold dinR; rw [if_neg (by omega)]; exact j16.trans (nsS_0 (fun i _ => bh_0 i)))


set_option maxRecDepth 100000 in
theorem s_X12_atz (a : Int32) (b : Int32) (h0_ordered : Int32) (h0_law : Int32) (h0_broken : Int32) (h0_value : Int64) (h0_sum : Int64) (f_row : Nat → Int32) (f_set : Nat → Int64) (f_nOp : Nat → Int32) (f_nArg : Nat → Int32) (f_rest : Nat → Int64) (f_now : Nat → Int64) {w : Nat → Int} {ls : Nat → List Cls} (h_h0_ordered : 0 ≤ h0_ordered.toInt ∧ h0_ordered.toInt ≤ 0) (h_h0_broken : 0 ≤ h0_broken.toInt ∧ h0_broken.toInt ≤ 1) (h_f_row : RLW f_row) (e_0 : RMw f_row w) (e_1 : RML f_row ls) {Q : Int32 → (Int32 × Int32 × Int32 × Int64 × Int64 × (Nat → Int64) × (Nat → Int64)) → Prop} (hq : ∀ (r : Int32) (u_0 : Int32) (u_1 : Int32) (u_2 : Int32) (u_3 : Int64) (u_4 : Int64) (u_5 : Nat → Int64) (u_6 : Nat → Int64), (0 ≤ u_2.toInt ∧ u_2.toInt ≤ 1) ∧ (r.toInt = atR (lawW w ls) w a.toInt b.toInt) → Q r (u_0, u_1, u_2, u_3, u_4, u_5, u_6)) : wp_X12_at a b h0_ordered h0_law h0_broken h0_value h0_sum f_row f_set f_nOp f_nArg f_rest f_now Q := by
  unfold wp_X12_at
  obtain rfl : h0_ordered = 0 := z_eq (y := 0) rfl rfl (by omega)
  refine o_X12_isCell _ _ ?_
  refine o_X12_in _ _ _ _ ?_
  by_cases c1 : (lg_cmp a.toInt64 0) < 0
  · refine br1 c1 ?_
    have t2 : (Int64.toInt a.toInt64) = (Int32.toInt a) := i2l_z rfl
    have d3 := c_lt (x := (Int64.toInt a.toInt64)) (y := 0) rfl rfl c1
    refine br1 (by decide) ?_
    have k4 : Int32.toInt (-1) = (-1) := (by decide)
    have k5 : Int32.toInt 0 = 0 := rfl
    exact hq _ _ _ _ _ _ _ _ ⟨(by first | with_reducible assumption | exact ⟨by omega, by omega⟩), (by unfold atR; (repeat' split) <;> omega)⟩
  · refine br0 c1 ?_
    have t6 : (Int64.toInt a.toInt64) = (Int32.toInt a) := i2l_z rfl
    have d7 := c_nlt (x := (Int64.toInt a.toInt64)) (y := 0) rfl rfl c1
    by_cases c8 : 0 < (lg_cmp a.toInt64 39)
    · refine br1 c8 ?_
      have d9 := c_gt (x := (Int64.toInt a.toInt64)) (y := 39) rfl rfl c8
      refine br1 (by decide) ?_
      have k10 : Int32.toInt (-1) = (-1) := (by decide)
      have k11 : Int32.toInt 0 = 0 := rfl
      exact hq _ _ _ _ _ _ _ _ ⟨(by first | with_reducible assumption | exact ⟨by omega, by omega⟩), (by unfold atR; (repeat' split) <;> omega)⟩
    · refine br0 c8 ?_
      have d12 := c_ngt (x := (Int64.toInt a.toInt64)) (y := 39) rfl rfl c8
      refine br0 (by decide) ?_
      by_cases c13 : b = 0
      · refine br1 c13 ?_
        have d14 := eq_z (x := (Int32.toInt b)) (y := 0) rfl rfl c13
        refine o_X12_placeOf _ _ ?_
        refine br1 (z_eq (x := (Int32.toInt b)) (y := 0) rfl rfl (by omega)) ?_
        have t15 : (Int32.toInt (113 + a)) = 113 + (Int32.toInt a) := add_z rfl rfl (by omega) (by omega)
        refine ⟨vpi (x := (Int32.toInt (113 + a))) rfl (by omega) (by omega), ?_⟩
        have g16 : 0 ≤ (Int32.toInt (f_row (113 + a).toNatClampNeg)) ∧ (Int32.toInt (f_row (113 + a).toNatClampNeg)) ≤ 3 := RLW.at_113 h_f_row (tnz (x := (Int32.toInt (113 + a))) rfl (by omega)) (by omega) (by omega)
        have t17 : (Int32.toInt (f_row (113 + a).toNatClampNeg)) = w (113 + ((Int32.toInt a)).toNat) := RMw.z e_0 (i := 113 + ((Int32.toInt a)).toNat) (show Int.toNat _ = _ by omega) (by omega)
        have k18 : Int32.toInt 0 = 0 := rfl
        exact hq _ _ _ _ _ _ _ _ ⟨(by first | with_reducible assumption | exact ⟨by omega, by omega⟩), (by unfold atR; (repeat' split) <;> omega)⟩
      · refine br0 c13 ?_
        have d19 := ne_z (x := (Int32.toInt b)) (y := 0) rfl rfl c13
        by_cases c20 : b = 1
        · refine br1 c20 ?_
          have d21 := eq_z (x := (Int32.toInt b)) (y := 1) rfl rfl c20
          refine o_X12_placeOf _ _ ?_
          refine br0 (z_ne (x := (Int32.toInt b)) (y := 0) rfl rfl (by omega)) ?_
          refine br1 (z_eq (x := (Int32.toInt b)) (y := 1) rfl rfl (by omega)) ?_
          have t22 : (Int32.toInt (153 + a)) = 153 + (Int32.toInt a) := add_z rfl rfl (by omega) (by omega)
          refine ⟨vpi (x := (Int32.toInt (153 + a))) rfl (by omega) (by omega), ?_⟩
          have g23 : 1 ≤ (Int32.toInt (f_row (153 + a).toNatClampNeg)) ∧ (Int32.toInt (f_row (153 + a).toNatClampNeg)) ≤ 9 := RLW.at_153 h_f_row (tnz (x := (Int32.toInt (153 + a))) rfl (by omega)) (by omega) (by omega)
          have t24 : (Int32.toInt (f_row (153 + a).toNatClampNeg)) = w (153 + ((Int32.toInt a)).toNat) := RMw.z e_0 (i := 153 + ((Int32.toInt a)).toNat) (show Int.toNat _ = _ by omega) (by omega)
          have k25 : Int32.toInt 0 = 0 := rfl
          exact hq _ _ _ _ _ _ _ _ ⟨(by first | with_reducible assumption | exact ⟨by omega, by omega⟩), (by unfold atR; (repeat' split) <;> omega)⟩
        · refine br0 c20 ?_
          have d26 := ne_z (x := (Int32.toInt b)) (y := 1) rfl rfl c20
          by_cases c27 : b = 2
          · refine br1 c27 ?_
            have d28 := eq_z (x := (Int32.toInt b)) (y := 2) rfl rfl c27
            refine o_X12_placeOf _ _ ?_
            refine br0 (z_ne (x := (Int32.toInt b)) (y := 0) rfl rfl (by omega)) ?_
            refine br0 (z_ne (x := (Int32.toInt b)) (y := 1) rfl rfl (by omega)) ?_
            have t29 : (Int32.toInt (73 + a)) = 73 + (Int32.toInt a) := add_z rfl rfl (by omega) (by omega)
            refine ⟨vpi (x := (Int32.toInt (73 + a))) rfl (by omega) (by omega), ?_⟩
            have g30 : 0 ≤ (Int32.toInt (f_row (73 + a).toNatClampNeg)) ∧ (Int32.toInt (f_row (73 + a).toNatClampNeg)) ≤ 99 := RLW.at_73 h_f_row (tnz (x := (Int32.toInt (73 + a))) rfl (by omega)) (by omega) (by omega)
            have t31 : (Int32.toInt (f_row (73 + a).toNatClampNeg)) = w (73 + ((Int32.toInt a)).toNat) := RMw.z e_0 (i := 73 + ((Int32.toInt a)).toNat) (show Int.toNat _ = _ by omega) (by omega)
            have k32 : Int32.toInt 0 = 0 := rfl
            exact hq _ _ _ _ _ _ _ _ ⟨(by first | with_reducible assumption | exact ⟨by omega, by omega⟩), (by unfold atR; (repeat' split) <;> omega)⟩
          · refine br0 c27 ?_
            have d33 := ne_z (x := (Int32.toInt b)) (y := 2) rfl rfl c27
            by_cases c34 : b = 3
            · refine br1 c34 ?_
              have d35 := eq_z (x := (Int32.toInt b)) (y := 3) rfl rfl c34
              have t36 : (Int32.toInt (33 + a)) = 33 + (Int32.toInt a) := add_z rfl rfl (by omega) (by omega)
              refine ⟨vpi (x := (Int32.toInt (33 + a))) rfl (by omega) (by omega), ?_⟩
              have g37 : 0 ≤ (Int32.toInt (f_row (33 + a).toNatClampNeg)) ∧ (Int32.toInt (f_row (33 + a).toNatClampNeg)) ≤ 1 := RLW.at_33 h_f_row (tnz (x := (Int32.toInt (33 + a))) rfl (by omega)) (by omega) (by omega)
              have t38 : (Int32.toInt (f_row (33 + a).toNatClampNeg)) = w (33 + ((Int32.toInt a)).toNat) := RMw.z e_0 (i := 33 + ((Int32.toInt a)).toNat) (show Int.toNat _ = _ by omega) (by omega)
              have k39 : Int32.toInt 0 = 0 := rfl
              exact hq _ _ _ _ _ _ _ _ ⟨(by first | with_reducible assumption | exact ⟨by omega, by omega⟩), (by unfold atR; (repeat' split) <;> omega)⟩
            · refine br0 c34 ?_
              have d40 := ne_z (x := (Int32.toInt b)) (y := 3) rfl rfl c34
              by_cases c41 : b = 4
              · refine br1 c41 ?_
                have d42 := eq_z (x := (Int32.toInt b)) (y := 4) rfl rfl c41
                have t43 : (Int32.toInt (113 + a)) = 113 + (Int32.toInt a) := add_z rfl rfl (by omega) (by omega)
                refine ⟨vpi (x := (Int32.toInt (113 + a))) rfl (by omega) (by omega), ?_⟩
                have g45 : 0 ≤ (Int32.toInt (f_row (113 + a).toNatClampNeg)) ∧ (Int32.toInt (f_row (113 + a).toNatClampNeg)) ≤ 3 := RLW.at_113 h_f_row (tnz (x := (Int32.toInt (113 + a))) rfl (by omega)) (by omega) (by omega)
                have t46 : (Int32.toInt (f_row (113 + a).toNatClampNeg)) = w (113 + ((Int32.toInt a)).toNat) := RMw.z e_0 (i := 113 + ((Int32.toInt a)).toNat) (show Int.toNat _ = _ by omega) (by omega)
                refine z_msays e_1 e_0 h_f_row (by first | with_reducible assumption | exact ⟨by omega, by omega⟩) (by first | with_reducible assumption | exact ⟨by omega, by omega⟩) (fun r44 q47 q48 q49 q50 q51 q52 H53 => ?_)
                have j54 := H53.1
                have j55 := H53.2.1
                have j56 := H53.2.2
                rw [show (Int32.toInt (f_row (113 + a).toNatClampNeg)) = w (113 + ((Int32.toInt a)).toNat) by omega] at j55
                refine un6_i ?_
                have k57 : Int32.toInt 0 = 0 := rfl
                exact hq _ _ _ _ _ _ _ _ ⟨(by first | with_reducible assumption | exact ⟨by omega, by omega⟩), (by unfold atR; (repeat' split) <;> omega)⟩
              · refine br0 c41 ?_
                have d58 := ne_z (x := (Int32.toInt b)) (y := 4) rfl rfl c41
                by_cases c59 : b = 5
                · refine br1 c59 ?_
                  have d60 := eq_z (x := (Int32.toInt b)) (y := 5) rfl rfl c59
                  have t61 : (Int32.toInt (113 + a)) = 113 + (Int32.toInt a) := add_z rfl rfl (by omega) (by omega)
                  refine ⟨vpi (x := (Int32.toInt (113 + a))) rfl (by omega) (by omega), ?_⟩
                  have g63 : 0 ≤ (Int32.toInt (f_row (113 + a).toNatClampNeg)) ∧ (Int32.toInt (f_row (113 + a).toNatClampNeg)) ≤ 3 := RLW.at_113 h_f_row (tnz (x := (Int32.toInt (113 + a))) rfl (by omega)) (by omega) (by omega)
                  have t64 : (Int32.toInt (f_row (113 + a).toNatClampNeg)) = w (113 + ((Int32.toInt a)).toNat) := RMw.z e_0 (i := 113 + ((Int32.toInt a)).toNat) (show Int.toNat _ = _ by omega) (by omega)
                  refine z_mloses e_1 e_0 h_f_row (by first | with_reducible assumption | exact ⟨by omega, by omega⟩) (by first | with_reducible assumption | exact ⟨by omega, by omega⟩) (fun r62 q65 q66 q67 q68 q69 q70 H71 => ?_)
                  have j72 := H71.1
                  have j73 := H71.2.1
                  have j74 := H71.2.2
                  rw [show (Int32.toInt (f_row (113 + a).toNatClampNeg)) = w (113 + ((Int32.toInt a)).toNat) by omega] at j73
                  refine un6_i ?_
                  have k75 : Int32.toInt 0 = 0 := rfl
                  exact hq _ _ _ _ _ _ _ _ ⟨(by first | with_reducible assumption | exact ⟨by omega, by omega⟩), (by unfold atR; (repeat' split) <;> omega)⟩
                · refine br0 c59 ?_
                  have d76 := ne_z (x := (Int32.toInt b)) (y := 5) rfl rfl c59
                  have k77 : Int32.toInt (-1) = (-1) := (by decide)
                  have k78 : Int32.toInt 0 = 0 := rfl
                  exact hq _ _ _ _ _ _ _ _ ⟨(by first | with_reducible assumption | exact ⟨by omega, by omega⟩), (by unfold atR; (repeat' split) <;> omega)⟩


set_option maxRecDepth 100000 in
theorem s_X12_asksz (a : Int32) (b : Int32) (d : Int32) (h0_ordered : Int32) (h0_law : Int32) (h0_broken : Int32) (h0_value : Int64) (h0_sum : Int64) (f_row : Nat → Int32) (f_set : Nat → Int64) (f_nOp : Nat → Int32) (f_nArg : Nat → Int32) (f_rest : Nat → Int64) (f_now : Nat → Int64) {w : Nat → Int} {ls : Nat → List Cls} (h_h0_ordered : 0 ≤ h0_ordered.toInt ∧ h0_ordered.toInt ≤ 0) (h_h0_broken : 0 ≤ h0_broken.toInt ∧ h0_broken.toInt ≤ 1) (h_f_row : RLW f_row) (e_0 : RMw f_row w) (e_1 : RML f_row ls) {Q : Int32 → (Int32 × Int32 × Int32 × Int64 × Int64 × (Nat → Int64) × (Nat → Int64)) → Prop} (hq : ∀ (r : Int32) (u_0 : Int32) (u_1 : Int32) (u_2 : Int32) (u_3 : Int64) (u_4 : Int64) (u_5 : Nat → Int64) (u_6 : Nat → Int64), (0 ≤ u_2.toInt ∧ u_2.toInt ≤ 1) ∧ (r.toInt = asksR (lawW w ls) w a.toInt b.toInt d.toInt) → Q r (u_0, u_1, u_2, u_3, u_4, u_5, u_6)) : wp_X12_asks a b d h0_ordered h0_law h0_broken h0_value h0_sum f_row f_set f_nOp f_nArg f_rest f_now Q := by
  unfold wp_X12_asks
  obtain rfl : h0_ordered = 0 := z_eq (y := 0) rfl rfl (by omega)
  refine o_X12_isShaft _ _ _ ?_
  refine o_X12_in _ _ _ _ ?_
  by_cases c1 : (lg_cmp a.toInt64 0) < 0
  · refine br1 c1 ?_
    have t2 : (Int64.toInt a.toInt64) = (Int32.toInt a) := i2l_z rfl
    have d3 := c_lt (x := (Int64.toInt a.toInt64)) (y := 0) rfl rfl c1
    refine br1 (by decide) ?_
    have k4 : Int32.toInt (-1) = (-1) := (by decide)
    have k5 : Int32.toInt 0 = 0 := rfl
    exact hq _ _ _ _ _ _ _ _ ⟨(by first | with_reducible assumption | exact ⟨by omega, by omega⟩), (by unfold asksR; (repeat' split) <;> omega)⟩
  · refine br0 c1 ?_
    have t6 : (Int64.toInt a.toInt64) = (Int32.toInt a) := i2l_z rfl
    have d7 := c_nlt (x := (Int64.toInt a.toInt64)) (y := 0) rfl rfl c1
    by_cases c8 : 0 < (lg_cmp a.toInt64 ((f_row (0 : Int32).toNatClampNeg).toInt64 - 1))
    · refine br1 c8 ?_
      have g9 : 0 ≤ (Int32.toInt (f_row (0 : Int32).toNatClampNeg)) ∧ (Int32.toInt (f_row (0 : Int32).toNatClampNeg)) ≤ 6 := RLW.at_0 h_f_row (rfl : ((0 : Nat) : Int) = 0) (by omega) (by omega)
      have t10 : (Int32.toInt (f_row (0 : Int32).toNatClampNeg)) = w (0) := RMw.z e_0 (i := 0) rfl (by omega)
      have t11 : (Int64.toInt (f_row (0 : Int32).toNatClampNeg).toInt64) = (Int32.toInt (f_row (0 : Int32).toNatClampNeg)) := i2l_z rfl
      have t12 : (Int64.toInt ((f_row (0 : Int32).toNatClampNeg).toInt64 - 1)) = (Int64.toInt (f_row (0 : Int32).toNatClampNeg).toInt64) - 1 := lsub_z rfl rfl (by omega) (by omega)
      have d13 := c_gt (x := (Int64.toInt a.toInt64)) (y := (Int64.toInt ((f_row (0 : Int32).toNatClampNeg).toInt64 - 1))) rfl rfl c8
      refine br1 (by decide) ?_
      have k14 : Int32.toInt (-1) = (-1) := (by decide)
      have k15 : Int32.toInt 0 = 0 := rfl
      exact hq _ _ _ _ _ _ _ _ ⟨(by first | with_reducible assumption | exact ⟨by omega, by omega⟩), (by unfold asksR; (repeat' split) <;> omega)⟩
    · refine br0 c8 ?_
      have g16 : 0 ≤ (Int32.toInt (f_row (0 : Int32).toNatClampNeg)) ∧ (Int32.toInt (f_row (0 : Int32).toNatClampNeg)) ≤ 6 := RLW.at_0 h_f_row (rfl : ((0 : Nat) : Int) = 0) (by omega) (by omega)
      have t17 : (Int32.toInt (f_row (0 : Int32).toNatClampNeg)) = w (0) := RMw.z e_0 (i := 0) rfl (by omega)
      have t18 : (Int64.toInt (f_row (0 : Int32).toNatClampNeg).toInt64) = (Int32.toInt (f_row (0 : Int32).toNatClampNeg)) := i2l_z rfl
      have t19 : (Int64.toInt ((f_row (0 : Int32).toNatClampNeg).toInt64 - 1)) = (Int64.toInt (f_row (0 : Int32).toNatClampNeg).toInt64) - 1 := lsub_z rfl rfl (by omega) (by omega)
      have d20 := c_ngt (x := (Int64.toInt a.toInt64)) (y := (Int64.toInt ((f_row (0 : Int32).toNatClampNeg).toInt64 - 1))) rfl rfl c8
      refine br0 (by decide) ?_
      refine o_X12_isCell _ _ ?_
      refine o_X12_in _ _ _ _ ?_
      by_cases c21 : (lg_cmp b.toInt64 0) < 0
      · refine br1 c21 ?_
        have t22 : (Int64.toInt b.toInt64) = (Int32.toInt b) := i2l_z rfl
        have d23 := c_lt (x := (Int64.toInt b.toInt64)) (y := 0) rfl rfl c21
        refine br1 (by decide) ?_
        have k24 : Int32.toInt (-1) = (-1) := (by decide)
        have k25 : Int32.toInt 0 = 0 := rfl
        exact hq _ _ _ _ _ _ _ _ ⟨(by first | with_reducible assumption | exact ⟨by omega, by omega⟩), (by unfold asksR; (repeat' split) <;> omega)⟩
      · refine br0 c21 ?_
        have t26 : (Int64.toInt b.toInt64) = (Int32.toInt b) := i2l_z rfl
        have d27 := c_nlt (x := (Int64.toInt b.toInt64)) (y := 0) rfl rfl c21
        by_cases c28 : 0 < (lg_cmp b.toInt64 39)
        · refine br1 c28 ?_
          have d29 := c_gt (x := (Int64.toInt b.toInt64)) (y := 39) rfl rfl c28
          refine br1 (by decide) ?_
          have k30 : Int32.toInt (-1) = (-1) := (by decide)
          have k31 : Int32.toInt 0 = 0 := rfl
          exact hq _ _ _ _ _ _ _ _ ⟨(by first | with_reducible assumption | exact ⟨by omega, by omega⟩), (by unfold asksR; (repeat' split) <;> omega)⟩
        · refine br0 c28 ?_
          have d32 := c_ngt (x := (Int64.toInt b.toInt64)) (y := 39) rfl rfl c28
          refine br0 (by decide) ?_
          refine o_X12_in _ _ _ _ ?_
          by_cases c33 : (lg_cmp d.toInt64 0) < 0
          · refine br1 c33 ?_
            have t34 : (Int64.toInt d.toInt64) = (Int32.toInt d) := i2l_z rfl
            have d35 := c_lt (x := (Int64.toInt d.toInt64)) (y := 0) rfl rfl c33
            refine br1 (by decide) ?_
            have k36 : Int32.toInt (-1) = (-1) := (by decide)
            have k37 : Int32.toInt 0 = 0 := rfl
            exact hq _ _ _ _ _ _ _ _ ⟨(by first | with_reducible assumption | exact ⟨by omega, by omega⟩), (by unfold asksR; (repeat' split) <;> omega)⟩
          · refine br0 c33 ?_
            have t38 : (Int64.toInt d.toInt64) = (Int32.toInt d) := i2l_z rfl
            have d39 := c_nlt (x := (Int64.toInt d.toInt64)) (y := 0) rfl rfl c33
            by_cases c40 : 0 < (lg_cmp d.toInt64 2)
            · refine br1 c40 ?_
              have d41 := c_gt (x := (Int64.toInt d.toInt64)) (y := 2) rfl rfl c40
              refine br1 (by decide) ?_
              have k42 : Int32.toInt (-1) = (-1) := (by decide)
              have k43 : Int32.toInt 0 = 0 := rfl
              exact hq _ _ _ _ _ _ _ _ ⟨(by first | with_reducible assumption | exact ⟨by omega, by omega⟩), (by unfold asksR; (repeat' split) <;> omega)⟩
            · refine br0 c40 ?_
              have d44 := c_ngt (x := (Int64.toInt d.toInt64)) (y := 2) rfl rfl c40
              refine br0 (by decide) ?_
              by_cases c45 : d = 0
              · refine br1 c45 ?_
                have d46 := eq_z (x := (Int32.toInt d)) (y := 0) rfl rfl c45
                refine z_mdigs e_1 e_0 h_f_row (by first | with_reducible assumption | exact ⟨by omega, by omega⟩) (by first | with_reducible assumption | exact ⟨by omega, by omega⟩) (fun r47 q48 q49 q50 q51 q52 q53 H54 => ?_)
                have j55 := H54.1
                have j56 := H54.2.1
                have j57 := H54.2.2
                refine un6_i ?_
                have k58 : Int32.toInt 0 = 0 := rfl
                exact hq _ _ _ _ _ _ _ _ ⟨(by first | with_reducible assumption | exact ⟨by omega, by omega⟩), (by unfold asksR; (repeat' split) <;> omega)⟩
              · refine br0 c45 ?_
                have d59 := ne_z (x := (Int32.toInt d)) (y := 0) rfl rfl c45
                by_cases c60 : d = 1
                · refine br1 c60 ?_
                  have d61 := eq_z (x := (Int32.toInt d)) (y := 1) rfl rfl c60
                  refine z_mpass e_1 e_0 h_f_row (by first | with_reducible assumption | exact ⟨by omega, by omega⟩) (by first | with_reducible assumption | exact ⟨by omega, by omega⟩) (fun r62 q63 q64 q65 q66 q67 q68 H69 => ?_)
                  have j70 := H69.1
                  have j71 := H69.2.1
                  have j72 := H69.2.2
                  refine un6_i ?_
                  by_cases c73 : r62 = 0
                  · refine br1 c73 ?_
                    have d74 := eq_z (x := (Int32.toInt r62)) (y := 0) rfl rfl c73
                    have k75 : Int32.toInt 0 = 0 := rfl
                    exact hq _ _ _ _ _ _ _ _ ⟨(by first | with_reducible assumption | exact ⟨by omega, by omega⟩), (by unfold asksR; (repeat' split) <;> omega)⟩
                  · refine br0 c73 ?_
                    have d76 := ne_z (x := (Int32.toInt r62)) (y := 0) rfl rfl c73
                    have k77 : Int32.toInt 1 = 1 := rfl
                    have k78 : Int32.toInt 0 = 0 := rfl
                    exact hq _ _ _ _ _ _ _ _ ⟨(by first | with_reducible assumption | exact ⟨by omega, by omega⟩), (by unfold asksR; (repeat' split) <;> omega)⟩
                · refine br0 c60 ?_
                  have d79 := ne_z (x := (Int32.toInt d)) (y := 1) rfl rfl c60
                  refine z_mgives e_1 e_0 h_f_row (by first | with_reducible assumption | exact ⟨by omega, by omega⟩) (by first | with_reducible assumption | exact ⟨by omega, by omega⟩) (fun r80 q81 q82 q83 q84 q85 q86 H87 => ?_)
                  have j88 := H87.1
                  have j89 := H87.2.1
                  have j90 := H87.2.2.1
                  have j91 := H87.2.2.2
                  refine un6_i ?_
                  have k92 : Int32.toInt 0 = 0 := rfl
                  exact hq _ _ _ _ _ _ _ _ ⟨(by first | with_reducible assumption | exact ⟨by omega, by omega⟩), (by unfold asksR; (repeat' split) <;> omega)⟩


set_option maxRecDepth 100000 in
theorem s_X12_loudz (a : Int32) (b : Int32) (h0_ordered : Int32) (h0_law : Int32) (h0_broken : Int32) (h0_value : Int64) (h0_sum : Int64) (f_row : Nat → Int32) (f_set : Nat → Int64) (f_nOp : Nat → Int32) (f_nArg : Nat → Int32) (f_rest : Nat → Int64) (f_now : Nat → Int64) {w : Nat → Int} {ls : Nat → List Cls} (h_h0_ordered : 0 ≤ h0_ordered.toInt ∧ h0_ordered.toInt ≤ 0) (h_h0_broken : 0 ≤ h0_broken.toInt ∧ h0_broken.toInt ≤ 1) (h_f_row : RLW f_row) (e_0 : RMw f_row w) (e_1 : RML f_row ls) {Q : Int32 → (Int32 × Int32 × Int32 × Int64 × Int64 × (Nat → Int64) × (Nat → Int64)) → Prop} (hq : ∀ (r : Int32) (u_0 : Int32) (u_1 : Int32) (u_2 : Int32) (u_3 : Int64) (u_4 : Int64) (u_5 : Nat → Int64) (u_6 : Nat → Int64), (0 ≤ u_2.toInt ∧ u_2.toInt ≤ 1) ∧ (r.toInt = loudR (lawW w ls) w a.toInt b.toInt) → Q r (u_0, u_1, u_2, u_3, u_4, u_5, u_6)) : wp_X12_loud a b h0_ordered h0_law h0_broken h0_value h0_sum f_row f_set f_nOp f_nArg f_rest f_now Q := by
  unfold wp_X12_loud
  obtain rfl : h0_ordered = 0 := z_eq (y := 0) rfl rfl (by omega)
  refine o_X12_isCell _ _ ?_
  refine o_X12_in _ _ _ _ ?_
  by_cases c1 : (lg_cmp a.toInt64 0) < 0
  · refine br1 c1 ?_
    have t2 : (Int64.toInt a.toInt64) = (Int32.toInt a) := i2l_z rfl
    have d3 := c_lt (x := (Int64.toInt a.toInt64)) (y := 0) rfl rfl c1
    refine br1 (by decide) ?_
    have k4 : Int32.toInt (-100000) = (-100000) := (by decide)
    have k5 : Int32.toInt 0 = 0 := rfl
    exact hq _ _ _ _ _ _ _ _ ⟨(by first | with_reducible assumption | exact ⟨by omega, by omega⟩), (by unfold loudR; rw [if_pos (by omega)]; decide)⟩
  · refine br0 c1 ?_
    have t6 : (Int64.toInt a.toInt64) = (Int32.toInt a) := i2l_z rfl
    have d7 := c_nlt (x := (Int64.toInt a.toInt64)) (y := 0) rfl rfl c1
    by_cases c8 : 0 < (lg_cmp a.toInt64 39)
    · refine br1 c8 ?_
      have d9 := c_gt (x := (Int64.toInt a.toInt64)) (y := 39) rfl rfl c8
      refine br1 (by decide) ?_
      have k10 : Int32.toInt (-100000) = (-100000) := (by decide)
      have k11 : Int32.toInt 0 = 0 := rfl
      exact hq _ _ _ _ _ _ _ _ ⟨(by first | with_reducible assumption | exact ⟨by omega, by omega⟩), (by unfold loudR; rw [if_pos (by omega)]; decide)⟩
    · refine br0 c8 ?_
      have d12 := c_ngt (x := (Int64.toInt a.toInt64)) (y := 39) rfl rfl c8
      refine br0 (by decide) ?_
      refine o_X12_isColumn _ _ ?_
      refine o_X12_in _ _ _ _ ?_
      by_cases c13 : (lg_cmp b.toInt64 0) < 0
      · refine br1 c13 ?_
        have t14 : (Int64.toInt b.toInt64) = (Int32.toInt b) := i2l_z rfl
        have d15 := c_lt (x := (Int64.toInt b.toInt64)) (y := 0) rfl rfl c13
        refine br1 (by decide) ?_
        have k16 : Int32.toInt (-100000) = (-100000) := (by decide)
        have k17 : Int32.toInt 0 = 0 := rfl
        exact hq _ _ _ _ _ _ _ _ ⟨(by first | with_reducible assumption | exact ⟨by omega, by omega⟩), (by unfold loudR; rw [if_pos (by omega)]; decide)⟩
      · refine br0 c13 ?_
        have t18 : (Int64.toInt b.toInt64) = (Int32.toInt b) := i2l_z rfl
        have d19 := c_nlt (x := (Int64.toInt b.toInt64)) (y := 0) rfl rfl c13
        by_cases c20 : 0 < (lg_cmp b.toInt64 7)
        · refine br1 c20 ?_
          have d21 := c_gt (x := (Int64.toInt b.toInt64)) (y := 7) rfl rfl c20
          refine br1 (by decide) ?_
          have k22 : Int32.toInt (-100000) = (-100000) := (by decide)
          have k23 : Int32.toInt 0 = 0 := rfl
          exact hq _ _ _ _ _ _ _ _ ⟨(by first | with_reducible assumption | exact ⟨by omega, by omega⟩), (by unfold loudR; rw [if_pos (by omega)]; decide)⟩
        · refine br0 c20 ?_
          have d24 := c_ngt (x := (Int64.toInt b.toInt64)) (y := 7) rfl rfl c20
          refine br0 (by decide) ?_
          have t25 : (Int32.toInt (113 + a)) = 113 + (Int32.toInt a) := add_z rfl rfl (by omega) (by omega)
          refine ⟨vpi (x := (Int32.toInt (113 + a))) rfl (by omega) (by omega), ?_⟩
          have g27 : 0 ≤ (Int32.toInt (f_row (113 + a).toNatClampNeg)) ∧ (Int32.toInt (f_row (113 + a).toNatClampNeg)) ≤ 3 := RLW.at_113 h_f_row (tnz (x := (Int32.toInt (113 + a))) rfl (by omega)) (by omega) (by omega)
          have t28 : (Int32.toInt (f_row (113 + a).toNatClampNeg)) = w (113 + ((Int32.toInt a)).toNat) := RMw.z e_0 (i := 113 + ((Int32.toInt a)).toNat) (show Int.toNat _ = _ by omega) (by omega)
          refine z_mloudAs e_1 e_0 h_f_row (by first | with_reducible assumption | exact ⟨by omega, by omega⟩) (by first | with_reducible assumption | exact ⟨by omega, by omega⟩) (by first | with_reducible assumption | exact ⟨by omega, by omega⟩) (fun r26 q29 q30 q31 q32 q33 q34 H35 => ?_)
          have j36 := H35.1
          have j37 := H35.2.1
          have j38 := H35.2.2
          rw [show (Int32.toInt (f_row (113 + a).toNatClampNeg)) = w (113 + ((Int32.toInt a)).toNat) by omega] at j37
          refine un6_i ?_
          have k39 : Int32.toInt 0 = 0 := rfl
          exact hq _ _ _ _ _ _ _ _ ⟨(by first | with_reducible assumption | exact ⟨by omega, by omega⟩), (by unfold loudR; rw [if_neg (by omega)]; exact j37)⟩
end
section
/-! who hears what, what is hidden: as bits, the same on both sides -/
def bitsF (p : Nat → Bool) : Nat → Int64
  | 0 => 0
  | n + 1 => if p n = true then bitsF p n ||| ((1 : Int64) <<< lN n) else bitsF p n
theorem bitsF_1 {p : Nat → Bool} {n : Nat} {x : Int32} (h : p n = true) (hx : x.toInt = (n : Int)) (hn : n < 64) : bitsF p n ||| ((1 : Int64) <<< (x.toInt64 &&& 63)) = bitsF p (n + 1) := by
  rw [sh_amt hx hn]
  show _ = if p n = true then _ else _
  rw [if_pos h]
theorem bitsF_0 {p : Nat → Bool} {n : Nat} (h : ¬ p n = true) : bitsF p n = bitsF p (n + 1) := by
  show _ = if p n = true then _ else _
  rw [if_neg h]
theorem lor_0 (x : Int64) : x ||| 0 = x := by
  apply wb_inj
  rw [Int64.toBitVec_or]
  show x.toBitVec ||| 0#64 = _
  exact BitVec.or_zero
theorem lt_or {i c : Nat} {A : Prop} (h : c < i + 1 ∧ A) : (c < i ∧ A) ∨ c = i := by
  by_cases e : c = i
  · exact Or.inr e
  · exact Or.inl ⟨by omega, h.2⟩
/-- whether the listener l hears the CELL c -/
def hrP (F : Option (List Cls)) (w : Nat → Int) (l c : Nat) : Bool := decide (w (113 + c) = 3 ∧ nsS w (w (28 + l)) (fun _ => false) (w 2).toNat < loudI F w (c : Int) 3 (w (28 + l)) + w (193 + l))
def hearsR (F : Option (List Cls)) (w : Nat → Int) (a : Int) : Int64 := if a < 0 ∨ w 1 ≤ a then -1 else bitsF (hrP F w a.toNat) 40
/-- said and lost hold what the CELLS of P say and lose as water -/
def MSZ (F : Option (List Cls)) (w : Nat → Int) (said lost : Nat → Int32) (P : Nat → Prop) : Prop := SA said ∧ LO lost ∧ ∀ c, c < 40 → P c → (said c).toInt = saysW F w (c : Int) 3 ∧ (lost c).toInt = losesW F w (c : Int) 3
theorem MSZ.up {F : Option (List Cls)} {w : Nat → Int} {said lost : Nat → Int32} {P P₉ : Nat → Prop} (h : MSZ F w said lost P) {x r1 r2 : Int32} {i : Nat} (hx : x.toInt = (i : Int)) (hi : i < 40) (h1 : r1.toInt = saysW F w x.toInt 3) (h2 : r2.toInt = losesW F w x.toInt 3) (hP : ∀ c, P₉ c → P c ∨ c = i) : MSZ F w (upd said x.toNatClampNeg r1) (upd lost x.toNatClampNeg r2) P₉ := by
  have b1 := saysW_b (F := F) (w := w) (c := x.toInt) (k := 3)
  have b2 := losesW_b (F := F) (w := w) (c := x.toInt) (k := 3)
  rw [tnN hx]
  refine ⟨SA.up_0 h.1 (n := i) (z := (i : Int)) rfl (by omega) (by omega) h1 (by omega) (by omega), LO.up_0 h.2.1 (n := i) (z := (i : Int)) rfl (by omega) (by omega) h2 (by omega) (by omega), fun c hc hp => ?_⟩
  by_cases e : c = i
  · subst e
    rw [pk_us, pk_us, h1, h2, hx]
    exact ⟨rfl, rfl⟩
  · rw [pk_un e, pk_un e]
    exact (hP c hp).elim (fun q => h.2.2 c hc q) (fun q => absurd q e)
theorem z_mcN {a : Int32} {said lost kd hard water term : Nat → Int32} {w : Nat → Int} (hW : WK kd hard water term w) (hc : 0 ≤ a.toInt ∧ a.toInt ≤ 39) {Q : (Int32 × Int32 × Int32 × (Nat → Int32) × (Nat → Int32)) → Prop} (hq : ∀ r1 r2 : Int32, r1.toInt = saysW none w a.toInt 3 → r2.toInt = losesW none w a.toInt 3 → Q (a, -1, 3, upd said a.toNatClampNeg r1, upd lost a.toNatClampNeg r2)) : wp_X3_measureCell_N a said lost Q := by
  unfold wp_X3_measureCell_N
  refine z_csaysN hW hc (fun r1 h1 => un3_i ⟨vpi rfl hc.1 (by omega), ?_⟩)
  exact z_closesN hW hc (fun r2 h2 => un3_i ⟨vpi rfl hc.1 (by omega), hq r1 r2 h1.2 h2.2⟩)
theorem z_mcT {a dn lt value lc ll ls cc : Int32} {nh nk : Nat} {fh code col kd hard water term cel buk said lost : Nat → Int32} {stk : Nat → Int64} {L : List Cls} {w : Nat → Int} (hT : XTx lc ll nh fh nk code L) (hok : ∀ q ∈ L, okC q) (hW : WK kd hard water term w) (hB : LwB kd hard water (term 0) (term 2)) (hc : 0 ≤ a.toInt ∧ a.toInt ≤ 39) {Q : (Int32 × Int32 × Int32 × Int32 × (Nat → Int64) × (Nat → Int32) × (Nat → Int32)) → Prop} (hq : ∀ (r1 r2 v : Int32) (k : Nat → Int64), r1.toInt = saysW (some L) w a.toInt 3 → r2.toInt = losesW (some L) w a.toInt 3 → Q (a, -1, 3, v, k, upd said a.toNatClampNeg r1, upd lost a.toNatClampNeg r2)) : wp_X3_measureCell_T a dn lt value lc ll nh fh nk code stk ls col hard water term cc cel buk said lost Q := by
  unfold wp_X3_measureCell_T
  refine z_csaysT hT hok hW hB hc (by decide) (fun r1 v1 k1 h1 => un5_i ⟨vpi rfl hc.1 (by omega), ?_⟩)
  exact z_closesT hT hok hW hB hc (by decide) (fun r2 v2 k2 h2 => un5_i ⟨vpi rfl hc.1 (by omega), hq r1 r2 v2 k2 h1.2 h2.2⟩)
theorem x_msN {kd hard water term : Nat → Int32} {w : Nat → Int} (hW : WK kd hard water term w) {Qb : Int32 → (Nat → Int32) → (Nat → Int32) → Int32 → Int32 → Int32 → Prop} (K : ∀ (x : Int32) (said lost : Nat → Int32) (c s k : Int32), MSZ none w said lost (fun c => w (113 + c) = 3) → (0 ≤ c.toInt ∧ c.toInt ≤ 39) → Qb x said lost c s k) : ∀ (m i : Nat) (x : Int32) (said lost : Nat → Int32) (c s k : Int32), x.toInt = (i : Int) → i ≤ 40 → 40 - i < m → MSZ none w said lost (fun c => c < i ∧ w (113 + c) = 3) → (0 ≤ c.toInt ∧ c.toInt ≤ 39) → wl_X3_measure_N_11 kd Qb m x said lost c s k := by
  intro m
  induction m with
  | zero => intro i x said lost c s k _ _ h; omega
  | succ m ih =>
    intro i x said lost c s k hx hi hm hM hc
    unfold wl_X3_measure_N_11
    by_cases q : 40 ≤ x
    · have q₉ := le_z (x := 40) rfl hx q
      exact br1 q (K _ _ _ _ _ _ ⟨hM.1, hM.2.1, fun c hc hp => hM.2.2 c hc ⟨by omega, hp⟩⟩ hc)
    · have q₉ := nle_z (x := 40) rfl hx q
      refine br0 q ⟨vpi hx (by omega) (by omega), ?_⟩
      have ek : (kd i).toInt = w (113 + i) := hW.1 i (by omega)
      rw [tnN hx]
      by_cases t : kd i = 3
      · have t₉ := eq_z (y := 3) ek rfl t
        refine br1 t (z_mcN hW (by first | with_reducible assumption | exact ⟨by omega, by omega⟩) (fun r1 r2 h1 h2 => un5_i ?_))
        exact ih (i + 1) _ _ _ _ _ _ (add1 hx (by omega)) (by omega) (by omega) (hM.up hx (by omega) h1 h2 (fun c hc => lt_or hc)) (by first | with_reducible assumption | exact ⟨by omega, by omega⟩)
      · have t₉ := ne_z (y := 3) ek rfl t
        refine br0 t (ih (i + 1) _ _ _ _ _ _ (add1 hx (by omega)) (by omega) (by omega) ⟨hM.1, hM.2.1, fun c hc hp => ?_⟩ hc)
        rcases lt_or hp with g | g
        · exact hM.2.2 c hc g
        · subst g; exact absurd hp.2 t₉
theorem x_msT {dn lt lc ll ls cc : Int32} {nh nk : Nat} {fh code col kd hard water term cel buk : Nat → Int32} {L : List Cls} {w : Nat → Int} (hT : XTx lc ll nh fh nk code L) (hok : ∀ q ∈ L, okC q) (hW : WK kd hard water term w) (hB : LwB kd hard water (term 0) (term 2)) {Qb : Int32 → (Nat → Int64) → (Nat → Int32) → (Nat → Int32) → Int32 → Int32 → Int32 → Int32 → Prop} (K : ∀ (x : Int32) (stk : Nat → Int64) (said lost : Nat → Int32) (c s k v : Int32), MSZ (some L) w said lost (fun c => w (113 + c) = 3) → (0 ≤ c.toInt ∧ c.toInt ≤ 39) → Qb x stk said lost c s k v) : ∀ (m i : Nat) (x : Int32) (stk : Nat → Int64) (said lost : Nat → Int32) (c s k v : Int32), x.toInt = (i : Int) → i ≤ 40 → 40 - i < m → MSZ (some L) w said lost (fun c => c < i ∧ w (113 + c) = 3) → (0 ≤ c.toInt ∧ c.toInt ≤ 39) → wl_X3_measure_T_11 dn lt kd lc ll nh fh nk code ls col hard water term cc cel buk Qb m x stk said lost c s k v := by
  intro m
  induction m with
  | zero => intro i x stk said lost c s k v _ _ h; omega
  | succ m ih =>
    intro i x stk said lost c s k v hx hi hm hM hc
    unfold wl_X3_measure_T_11
    by_cases q : 40 ≤ x
    · have q₉ := le_z (x := 40) rfl hx q
      exact br1 q (K _ _ _ _ _ _ _ _ ⟨hM.1, hM.2.1, fun c hc hp => hM.2.2 c hc ⟨by omega, hp⟩⟩ hc)
    · have q₉ := nle_z (x := 40) rfl hx q
      refine br0 q ⟨vpi hx (by omega) (by omega), ?_⟩
      have ek : (kd i).toInt = w (113 + i) := hW.1 i (by omega)
      rw [tnN hx]
      by_cases t : kd i = 3
      · have t₉ := eq_z (y := 3) ek rfl t
        refine br1 t (z_mcT hT hok hW hB (by first | with_reducible assumption | exact ⟨by omega, by omega⟩) (fun r1 r2 v2 k2 h1 h2 => un7_i ?_))
        exact ih (i + 1) _ _ _ _ _ _ _ _ (add1 hx (by omega)) (by omega) (by omega) (hM.up hx (by omega) h1 h2 (fun c hc => lt_or hc)) (by first | with_reducible assumption | exact ⟨by omega, by omega⟩)
      · have t₉ := ne_z (y := 3) ek rfl t
        refine br0 t (ih (i + 1) _ _ _ _ _ _ _ _ (add1 hx (by omega)) (by omega) (by omega) ⟨hM.1, hM.2.1, fun c hc hp => ?_⟩ hc)
        rcases lt_or hp with g | g
        · exact hM.2.2 c hc g
        · subst g; exact absurd hp.2 t₉
theorem z_loudn {F : Option (List Cls)} {w : Nat → Int} {said lost : Nat → Int32} {P : Nat → Prop} (hM : MSZ F w said lost P) {a b : Int32} {i : Nat} (ha : a.toInt = (i : Int)) (hi : i < 40) (hp : P i) (hb : 0 ≤ b.toInt ∧ b.toInt ≤ 99) {Q : Int32 → Prop} (hq : ∀ r : Int32, (-945 ≤ r.toInt ∧ r.toInt ≤ 99) ∧ r.toInt = loudI F w (i : Int) 3 b.toInt → Q r) : wp_X3_loudness a b said lost Q := by
  unfold wp_X3_loudness
  refine ⟨vpi ha (by omega) (by omega), z_steps (by first | with_reducible assumption | exact ⟨by omega, by omega⟩) hb (fun r h => ⟨vpi ha (by omega) (by omega), ?_⟩)⟩
  rw [tnN ha]
  have M := hM.2.2 i hi hp
  have h2 : r.toInt = stpI (i : Int) b.toInt := by rw [← ha]; exact h.2
  have e : (said i - r * lost i).toInt = loudI F w (i : Int) 3 b.toInt := loud_z M.1 h2 M.2 saysW_b (by first | with_reducible assumption | exact ⟨by omega, by omega⟩) losesW_b
  exact hq _ ⟨by rw [e]; exact loudI_b (by first | with_reducible assumption | exact ⟨by omega, by omega⟩) hb, e⟩
theorem x_hbl {F : Option (List Cls)} {w : Nat → Int} {b N : Int32} {l : Nat} {col kd said lost ear : Nat → Int32} (hb : b.toInt = (l : Int)) (hl : l < 5) (hk : RkW kd 113 40 w) (hcol : RkW col 28 5 w) (hear : RkW ear 193 5 w) (c7 : 0 ≤ w (28 + l) ∧ w (28 + l) ≤ 7) (e20 : 0 ≤ w (193 + l) ∧ w (193 + l) ≤ 20) (hM : MSZ F w said lost (fun c => w (113 + c) = 3)) (hN : N.toInt = nsS w (w (28 + l)) (fun _ => false) (w 2).toNat) {Qb : Int32 → Int64 → Prop} (K : ∀ x, Qb x (bitsF (hrP F w l) 40)) : ∀ (m i : Nat) (x : Int32), x.toInt = (i : Int) → i ≤ 40 → 40 - i < m → wl_X3_cellsHeardBy_27 b col kd said lost ear N Qb m x (bitsF (hrP F w l) i) := by
  intro m
  induction m with
  | zero => intro i x _ _ h; omega
  | succ m ih =>
    intro i x hx hi hm
    unfold wl_X3_cellsHeardBy_27
    by_cases q : 40 ≤ x
    · have q₉ := le_z (x := 40) rfl hx q
      refine br1 q ?_
      rw [show i = 40 by omega]
      exact K x
    · have q₉ := nle_z (x := 40) rfl hx q
      refine br0 q ⟨vpi hx (by omega) (by omega), ?_⟩
      have ek : (kd i).toInt = w (113 + i) := hk i (by omega)
      have ec : (col l).toInt = w (28 + l) := hcol l (by omega)
      have ee : (ear l).toInt = w (193 + l) := hear l (by omega)
      rw [tnN hx, tnN hb]
      by_cases t : kd i = 3
      · have t₉ := eq_z (y := 3) ek rfl t
        refine br1 t (z_loudn hM hx (by omega) t₉ (by first | with_reducible assumption | exact ⟨by omega, by omega⟩) (fun r h => ⟨vpi hb (by omega) (by omega), ?_⟩))
        have h2 := h.2
        rw [ec] at h2
        have es : (r + ear l).toInt = r.toInt + w (193 + l) := add_z rfl ee (by omega) (by omega)
        by_cases u : r + ear l ≤ N
        · have u₉ := le_z es hN u
          refine br1 u ?_
          have g : ¬ hrP F w l i = true := fun g => by
            have g2 := (of_decide_eq_true g).2
            omega
          rw [bitsF_0 g]
          exact ih (i + 1) _ (add1 hx (by omega)) (by omega) (by omega)
        · have u₉ := nle_z es hN u
          refine br0 u ?_
          have g : hrP F w l i = true := decide_eq_true ⟨t₉, by omega⟩
          rw [bitsF_1 g hx (by omega)]
          exact ih (i + 1) _ (add1 hx (by omega)) (by omega) (by omega)
      · have t₉ := ne_z (y := 3) ek rfl t
        refine br0 t ?_
        have g : ¬ hrP F w l i = true := fun g => t₉ (of_decide_eq_true g).1
        rw [bitsF_0 g]
        exact ih (i + 1) _ (add1 hx (by omega)) (by omega) (by omega)
theorem x_chb {F : Option (List Cls)} {w : Nat → Int} {b ns hu : Int32} {l : Nat} {col kd said lost ear nc nl : Nat → Int32} (hb : b.toInt = (l : Int)) (hl : l < 5) (hk : RkW kd 113 40 w) (hcol : RkW col 28 5 w) (hear : RkW ear 193 5 w) (c7 : 0 ≤ w (28 + l) ∧ w (28 + l) ≤ 7) (e20 : 0 ≤ w (193 + l) ∧ w (193 + l) ≤ 20) (hM : MSZ F w said lost (fun c => w (113 + c) = 3)) (h6 : 0 ≤ ns.toInt ∧ ns.toInt ≤ 6) (hc : NC nc) (hnl : NL nl) (hz : NZ ns hu nc nl w) {Q : Int64 → Prop} (hq : ∀ r : Int64, r = bitsF (hrP F w l) 40 → Q r) : wp_X3_cellsHeardBy b ns hu col nc nl kd said lost ear Q := by
  unfold wp_X3_cellsHeardBy
  refine ⟨vpi hb (by omega) (by omega), ?_⟩
  have ec : (col l).toInt = w (28 + l) := hcol l (by omega)
  rw [tnN hb]
  refine s_X4_noiseInz _ _ _ _ _ _ (w := w) (by first | with_reducible assumption | exact ⟨by omega, by omega⟩) h6 hc hnl hz (fun N hN => ?_)
  have h2 := hN.2
  rw [ec, nsS_0 (q₉ := fun _ => false) (fun i _ => bh_0 i)] at h2
  exact x_hbl hb hl hk hcol hear c7 e20 hM h2 (fun x => hq _ rfl) _ 0 _ rfl (by omega) (by omega)
/-! the reference -/
theorem z_mcan {a b d law broken : Int32} {value sum : Int64} {row nOp nArg : Nat → Int32} {rest now set : Nat → Int64} {ls : Nat → List Cls} {w : Nat → Int} (hl : RML row ls) (hR : RMw row w) (hr : RLW row) {l : Nat} (ha : a.toInt = (l : Int)) (hl5 : l < 5) (hc : 0 ≤ b.toInt ∧ b.toInt ≤ 39) (hB : 0 ≤ broken.toInt ∧ broken.toInt ≤ 1) {Q : QM} (h1 : nsS w (w (28 + l)) (bh d) (w 2).toNat < loudI (lawW w ls) w b.toInt 3 (w (28 + l)) + w (193 + l) → ∀ (law₉ br₉ : Int32) (value₉ sum₉ : Int64) (set₉ rest₉ : Nat → Int64), (0 ≤ br₉.toInt ∧ br₉.toInt ≤ 1) → Q 1 (law₉, br₉, value₉, sum₉, set₉, rest₉)) (h0 : ¬ nsS w (w (28 + l)) (bh d) (w 2).toNat < loudI (lawW w ls) w b.toInt 3 (w (28 + l)) + w (193 + l) → ∀ (law₉ br₉ : Int32) (value₉ sum₉ : Int64) (set₉ rest₉ : Nat → Int64), (0 ≤ br₉.toInt ∧ br₉.toInt ≤ 1) → Q 0 (law₉, br₉, value₉, sum₉, set₉, rest₉)) : wp_X12_canHear a b d 0 law broken value sum row set nOp nArg rest now Q := by
  unfold wp_X12_canHear
  have x1 : (28 + a).toInt = ((28 + l : Nat) : Int) := by rw [add_z (a := 28) (x := 28) rfl ha (by omega) (by omega)]; omega
  have x2 : (193 + a).toInt = ((193 + l : Nat) : Int) := by rw [add_z (a := 193) (x := 193) rfl ha (by omega) (by omega)]; omega
  have e1 : (row (28 + l)).toInt = w (28 + l) := hR (28 + l) (by omega)
  have e2 : (row (193 + l)).toInt = w (193 + l) := hR (193 + l) (by omega)
  have b1 := RLW.at_28 hr (n := 28 + l) rfl (by omega) (by omega)
  have b2 := RLW.at_193 hr (n := 193 + l) rfl (by omega) (by omega)
  refine ⟨vpi x1 (by omega) (by omega), ?_⟩
  rw [tnN x1]
  refine z_mloudAs hl hR hr hc ⟨b1.1, by omega⟩ hB (fun r l1 c1 v1 s1 t1 p1 h => un6_i ⟨vpi x2 (by omega) (by omega), ?_⟩)
  rw [tnN x2]
  have h2 : r.toInt = loudI (lawW w ls) w b.toInt 3 (w (28 + l)) := by rw [← e1]; exact h.2.1
  refine s_X12_dinButz _ d row (w := w) b1 hr hR (fun n hn => ?_)
  have h3 := hn.2
  rw [e1] at h3
  have es : (r + row (193 + l)).toInt = r.toInt + w (193 + l) := add_z rfl e2 (by omega) (by omega)
  by_cases u : r + row (193 + l) ≤ n
  · have u₉ := le_z es h3 u
    exact br1 u (h0 (by omega) _ _ _ _ _ _ h.2.2)
  · have u₉ := nle_z es h3 u
    exact br0 u (h1 (by omega) _ _ _ _ _ _ h.2.2)
theorem x_mhbl {a : Int32} {row nOp nArg : Nat → Int32} {now : Nat → Int64} {ls : Nat → List Cls} {w : Nat → Int} (hl : RML row ls) (hR : RMw row w) (hr : RLW row) {l : Nat} (ha : a.toInt = (l : Int)) (hl5 : l < 5) {Qb : Int32 → Int64 → Int32 → Int32 → Int64 → Int64 → (Nat → Int64) → (Nat → Int64) → Prop} (K : ∀ (x law broken : Int32) (value sum : Int64) (set rest : Nat → Int64), (0 ≤ broken.toInt ∧ broken.toInt ≤ 1) → Qb x (bitsF (hrP (lawW w ls) w l) 40) law broken value sum set rest) : ∀ (m i : Nat) (x law broken : Int32) (value sum : Int64) (set rest : Nat → Int64), x.toInt = (i : Int) → i ≤ 40 → 40 - i < m → (0 ≤ broken.toInt ∧ broken.toInt ≤ 1) → wl_X12_heardBy_5 a 0 row nOp nArg now Qb m x (bitsF (hrP (lawW w ls) w l) i) law broken value sum set rest := by
  intro m
  induction m with
  | zero => intro i x law broken value sum set rest _ _ h; omega
  | succ m ih =>
    intro i x law broken value sum set rest hx hi hm hB
    unfold wl_X12_heardBy_5
    by_cases q : 40 ≤ x
    · have q₉ := le_z (x := 40) rfl hx q
      refine br1 q ?_
      rw [show i = 40 by omega]
      exact K _ _ _ _ _ _ _ hB
    · have q₉ := nle_z (x := 40) rfl hx q
      have x1 : (113 + x).toInt = ((113 + i : Nat) : Int) := by rw [add_z (a := 113) (x := 113) rfl hx (by omega) (by omega)]; omega
      refine br0 q ⟨vpi x1 (by omega) (by omega), ?_⟩
      rw [tnN x1]
      have ek : (row (113 + i)).toInt = w (113 + i) := hR (113 + i) (by omega)
      have n0 : nsS w (w (28 + l)) (bh 0) (w 2).toNat = nsS w (w (28 + l)) (fun _ => false) (w 2).toNat := nsS_0 (fun i _ => bh_0 i)
      by_cases t : row (113 + i) = 3
      · have t₉ := eq_z (y := 3) ek rfl t
        refine br1 t (z_mcan hl hR hr ha hl5 (by first | with_reducible assumption | exact ⟨by omega, by omega⟩) hB (fun h => ?_) (fun h => ?_))
        · intro law₉ br₉ value₉ sum₉ set₉ rest₉ hb₉
          rw [n0, hx] at h
          have g : hrP (lawW w ls) w l i = true := decide_eq_true ⟨t₉, h⟩
          refine un6_i (br0 (by decide) ?_)
          rw [bitsF_1 g hx (by omega)]
          exact ih (i + 1) _ _ _ _ _ _ _ (add1 hx (by omega)) (by omega) (by omega) hb₉
        · intro law₉ br₉ value₉ sum₉ set₉ rest₉ hb₉
          rw [n0, hx] at h
          have g : ¬ hrP (lawW w ls) w l i = true := fun g => h (of_decide_eq_true g).2
          refine un6_i (br1 rfl ?_)
          rw [lor_0, bitsF_0 g]
          exact ih (i + 1) _ _ _ _ _ _ _ (add1 hx (by omega)) (by omega) (by omega) hb₉
      · have t₉ := ne_z (y := 3) ek rfl t
        refine br0 t ?_
        have g : ¬ hrP (lawW w ls) w l i = true := fun g => t₉ (of_decide_eq_true g).1
        rw [lor_0, bitsF_0 g]
        exact ih (i + 1) _ _ _ _ _ _ _ (add1 hx (by omega)) (by omega) (by omega) hB
theorem x_mheardBy {a law broken : Int32} {value sum : Int64} {row nOp nArg : Nat → Int32} {rest now set : Nat → Int64} {ls : Nat → List Cls} {w : Nat → Int} (hl : RML row ls) (hR : RMw row w) (hr : RLW row) {l : Nat} (ha : a.toInt = (l : Int)) (hl5 : l < 5) (hB : 0 ≤ broken.toInt ∧ broken.toInt ≤ 1) {Q : Int64 → (Int32 × Int32 × Int64 × Int64 × (Nat → Int64) × (Nat → Int64)) → Prop} (hq : ∀ (r : Int64) (law₉ br₉ : Int32) (value₉ sum₉ : Int64) (set₉ rest₉ : Nat → Int64), r = bitsF (hrP (lawW w ls) w l) 40 → (0 ≤ br₉.toInt ∧ br₉.toInt ≤ 1) → Q r (law₉, br₉, value₉, sum₉, set₉, rest₉)) : wp_X12_heardBy a 0 law broken value sum row set nOp nArg rest now Q := by
  unfold wp_X12_heardBy
  exact x_mhbl hl hR hr ha hl5 (fun x l1 b1 v1 s1 t1 p1 hb => hq _ _ _ _ _ _ _ rfl hb) _ 0 _ _ _ _ _ _ _ rfl (by omega) (by omega) hB
/-! what may be hidden -/
def mxZ0 (x : Int) : Int := if 0 < x then x else 0
/-- whether the CELL c is as it was heard, by the first n -/
def asH (F : Option (List Cls)) (w : Nat → Int) (c : Nat) : Nat → Bool
  | 0 => true
  | n + 1 => asH F w c n && decide (mxZ0 (loudI F w (c : Int) 3 (w (210 + 2 * n))) = w (211 + 2 * n))
theorem asH_y {F : Option (List Cls)} {w : Nat → Int} {c n : Nat} (h : asH F w c n = true) (h2 : mxZ0 (loudI F w (c : Int) 3 (w (210 + 2 * n))) = w (211 + 2 * n)) : asH F w c (n + 1) = true := by
  show (asH F w c n && decide _) = true
  rw [h, decide_eq_true h2]; rfl
theorem asH_n {F : Option (List Cls)} {w : Nat → Int} {c n : Nat} (h2 : ¬ mxZ0 (loudI F w (c : Int) 3 (w (210 + 2 * n))) = w (211 + 2 * n)) : asH F w c (n + 1) = false := by
  show (asH F w c n && decide _) = false
  rw [decide_eq_false h2, Bool.and_false]
theorem asH_f {F : Option (List Cls)} {w : Nat → Int} {c n : Nat} (h : asH F w c n = false) : ∀ k, asH F w c (n + k) = false := by
  intro k
  induction k with
  | zero => exact h
  | succ k ih =>
    show (asH F w c (n + k) && decide _) = false
    rw [ih, Bool.false_and]
theorem asH_ff {F : Option (List Cls)} {w : Nat → Int} {c n m : Nat} (h : asH F w c n = false) (hm : n ≤ m) : asH F w c m = false := by
  have q := asH_f h (m - n)
  rw [show n + (m - n) = m by omega] at q
  exact q
def hdB (F : Option (List Cls)) (w : Nat → Int) (c : Nat) : Bool := decide (¬ w (113 + c) = 3 ∧ w (33 + c) = 0) && asH F w c (w 3).toNat
def hidL (F : Option (List Cls)) (w : Nat → Int) : Int64 := bitsF (hdB F w) 40
theorem hdB_n {F : Option (List Cls)} {w : Nat → Int} {c : Nat} (h : w (113 + c) = 3 ∨ ¬ w (33 + c) = 0) : ¬ hdB F w c = true := by
  have q : ¬ (¬ w (113 + c) = 3 ∧ w (33 + c) = 0) := by omega
  unfold hdB
  rw [decide_eq_false q, Bool.false_and]
  decide
theorem hdB_e {F : Option (List Cls)} {w : Nat → Int} {c : Nat} (h1 : ¬ w (113 + c) = 3) (h2 : w (33 + c) = 0) : hdB F w c = asH F w c (w 3).toNat := by
  unfold hdB
  rw [decide_eq_true (show ¬ w (113 + c) = 3 ∧ w (33 + c) = 0 from ⟨h1, h2⟩), Bool.true_and]
theorem x_ahl {F : Option (List Cls)} {w : Nat → Int} {b hs : Int32} {i : Nat} {hc said lost hl : Nat → Int32} (hb : b.toInt = (i : Int)) (hi : i < 40) (hhc : RbW hc 210 8 w) (hhl : RbW hl 211 8 w) (hhs : hs.toInt = w 3) (h8 : 0 ≤ w 3 ∧ w 3 ≤ 8) (c7 : ∀ k, k < 8 → 0 ≤ w (210 + 2 * k) ∧ w (210 + 2 * k) ≤ 99) {P : Nat → Prop} (hM : MSZ F w said lost P) (hp : P i) {Q : Int32 → Prop} (h1 : asH F w i (w 3).toNat = true → Q 1) (h0 : asH F w i (w 3).toNat = false → Q 0) : ∀ (m k : Nat) (x : Int32), x.toInt = (k : Int) → (k : Int) ≤ w 3 → (w 3).toNat - k < m → asH F w i k = true → wl_X3_isAsHeard_2 b hs hc said lost hl Q (fun _ => Q 1) m x := by
  intro m
  induction m with
  | zero => intro k x _ _ h; omega
  | succ m ih =>
    intro k x hx hk hm hA
    unfold wl_X3_isAsHeard_2
    by_cases q : hs ≤ x
    · have q₉ := le_z hhs hx q
      refine br1 q (h1 ?_)
      rw [show (w 3).toNat = k by omega]; exact hA
    · have q₉ := nle_z hhs hx q
      have k8 : k < 8 := by omega
      refine br0 q ⟨vpi hx (by omega) (by omega), ?_⟩
      have ec : (hc k).toInt = w (210 + 2 * k) := hhc k k8
      have el : (hl k).toInt = w (211 + 2 * k) := hhl k k8
      have r7 := c7 k k8
      rw [tnN hx]
      refine z_loudn hM hb hi hp (by first | with_reducible assumption | exact ⟨by omega, by omega⟩) (fun r h => ⟨vpi hx (by omega) (by omega), ?_⟩)
      have h2 := h.2
      rw [ec] at h2
      have em : (if 0 < r then r else 0).toInt = mxZ0 (loudI F w (i : Int) 3 (w (210 + 2 * k))) := by
        unfold mxZ0
        by_cases g : 0 < r
        · have g₉ := lt_z (x := 0) rfl rfl g
          rw [if_pos g, if_pos (by omega)]; exact h2
        · have g₉ := nlt_z (x := 0) rfl rfl g
          rw [if_neg g, if_neg (by omega)]; rfl
      by_cases u : (if 0 < r then r else 0) = hl k
      · have u₉ := eq_z em el u
        refine br1 u (ih (k + 1) _ (add1 hx (by omega)) (by omega) (by omega) (asH_y hA u₉))
      · have u₉ := ne_z em el u
        exact br0 u (h0 (asH_ff (asH_n u₉) (by omega)))
theorem x_isAs {F : Option (List Cls)} {w : Nat → Int} {b hs : Int32} {i : Nat} {hc said lost hl : Nat → Int32} (hb : b.toInt = (i : Int)) (hi : i < 40) (hhc : RbW hc 210 8 w) (hhl : RbW hl 211 8 w) (hhs : hs.toInt = w 3) (h8 : 0 ≤ w 3 ∧ w 3 ≤ 8) (c7 : ∀ k, k < 8 → 0 ≤ w (210 + 2 * k) ∧ w (210 + 2 * k) ≤ 99) {P : Nat → Prop} (hM : MSZ F w said lost P) (hp : P i) {Q : Int32 → Prop} (h1 : asH F w i (w 3).toNat = true → Q 1) (h0 : asH F w i (w 3).toNat = false → Q 0) : wp_X3_isAsHeard b hs hc said lost hl Q := by
  unfold wp_X3_isAsHeard
  exact x_ahl hb hi hhc hhl hhs h8 c7 hM hp h1 h0 _ 0 _ rfl (by omega) (by omega) rfl
end
section
/-! the CELLS that may hide a spring: of both sides -/
theorem MSZ.no {F : Option (List Cls)} {w : Nat → Int} {said lost : Nat → Int32} {i : Nat} {A : Nat → Prop} (h : MSZ F w said lost (fun c => c < i ∧ A c)) (hn : ¬ A i) : MSZ F w said lost (fun c => c < i + 1 ∧ A c) := ⟨h.1, h.2.1, fun c hc hp => by
  rcases lt_or hp with g | g
  · exact h.2.2 c hc g
  · subst g; exact absurd hp.2 hn⟩
theorem MSZ.z {F : Option (List Cls)} {w : Nat → Int} {said lost : Nat → Int32} {A : Nat → Prop} (h1 : SA said) (h2 : LO lost) : MSZ F w said lost (fun c => c < 0 ∧ A c) := ⟨h1, h2, fun _ _ h => absurd h.1 (Nat.not_lt_zero _)⟩
theorem x_hdN {kd hard water term hc hl : Nat → Int32} {dg : Int64} {hs : Int32} {w : Nat → Int} (hW : WK kd hard water term w) (hD : RD dg w) (hhc : RbW hc 210 8 w) (hhl : RbW hl 211 8 w) (hhs : hs.toInt = w 3) (h8 : 0 ≤ w 3 ∧ w 3 ≤ 8) (c7 : ∀ k, k < 8 → 0 ≤ w (210 + 2 * k) ∧ w (210 + 2 * k) ≤ 99) {Qb : Int32 → Int64 → (Nat → Int32) → (Nat → Int32) → Int32 → Int32 → Int32 → Prop} (K : ∀ (x : Int32) (said lost : Nat → Int32) (c s k : Int32), MSZ none w said lost (fun c => ¬ w (113 + c) = 3 ∧ w (33 + c) = 0) → (0 ≤ c.toInt ∧ c.toInt ≤ 39) → Qb x (hidL none w) said lost c s k) : ∀ (m i : Nat) (x : Int32) (said lost : Nat → Int32) (c s k : Int32), x.toInt = (i : Int) → i ≤ 40 → 40 - i < m → MSZ none w said lost (fun c => c < i ∧ (¬ w (113 + c) = 3 ∧ w (33 + c) = 0)) → (0 ≤ c.toInt ∧ c.toInt ≤ 39) → wl_X3_hiddenCells_N_17 dg kd hs hc hl Qb m x (bitsF (hdB none w) i) said lost c s k := by
  intro m
  induction m with
  | zero => intro i x said lost c s k _ _ h; omega
  | succ m ih =>
    intro i x said lost c s k hx hi hm hM hcc
    unfold wl_X3_hiddenCells_N_17
    by_cases q : 40 ≤ x
    · have q₉ := le_z (x := 40) rfl hx q
      refine br1 q ?_
      rw [show i = 40 by omega]
      exact K _ _ _ _ _ _ ⟨hM.1, hM.2.1, fun c hc hp => hM.2.2 c hc ⟨by omega, hp⟩⟩ hcc
    · have q₉ := nle_z (x := 40) rfl hx q
      refine br0 q ⟨vpi hx (by omega) (by omega), ?_⟩
      have ek : (kd i).toInt = w (113 + i) := hW.1 i (by omega)
      rw [tnN hx]
      have xx : ((i : Nat) : Int).toNat = i := Int.toNat_natCast i
      by_cases t : kd i = 3
      · have t₉ := eq_z (y := 3) ek rfl t
        refine br1 t ?_
        rw [bitsF_0 (hdB_n (F := none) (Or.inl t₉))]
        exact ih (i + 1) _ _ _ _ _ _ (add1 hx (by omega)) (by omega) (by omega) (hM.no (fun g => g.1 t₉)) hcc
      · have t₉ := ne_z (y := 3) ek rfl t
        refine br0 t (RD.at hD (by omega) (by omega) (fun r hr h => ?_))
        rw [hx, xx] at h
        by_cases d : r = 0
        · have d₉ := eq_z (x := r.toInt) (y := 0) rfl rfl d
          have d0 : w (33 + i) = 0 := by omega
          refine br1 d (z_mcN hW (by first | with_reducible assumption | exact ⟨by omega, by omega⟩) (fun r1 r2 h1 h2 => un5_i ?_))
          have M := MSZ.up (P₉ := fun c => c < i + 1 ∧ (¬ w (113 + c) = 3 ∧ w (33 + c) = 0)) hM hx (by omega) h1 h2 (fun c hc => lt_or hc)
          refine x_isAs hx (by omega) hhc hhl hhs h8 c7 M ⟨by omega, t₉, d0⟩ (fun g => ?_) (fun g => ?_)
          · refine br0 (by decide) ?_
            rw [bitsF_1 (by rw [hdB_e t₉ d0]; exact g) hx (by omega)]
            exact ih (i + 1) _ _ _ _ _ _ (add1 hx (by omega)) (by omega) (by omega) M (by first | with_reducible assumption | exact ⟨by omega, by omega⟩)
          · refine br1 rfl ?_
            rw [bitsF_0 (by rw [hdB_e (F := none) t₉ d0, g]; decide)]
            exact ih (i + 1) _ _ _ _ _ _ (add1 hx (by omega)) (by omega) (by omega) M (by first | with_reducible assumption | exact ⟨by omega, by omega⟩)
        · have d₉ := ne_z (x := r.toInt) (y := 0) rfl rfl d
          have d0 : ¬ w (33 + i) = 0 := by omega
          refine br0 d ?_
          rw [bitsF_0 (hdB_n (F := none) (Or.inr d0))]
          exact ih (i + 1) _ _ _ _ _ _ (add1 hx (by omega)) (by omega) (by omega) (hM.no (fun g => d0 g.2)) hcc
/-! T -/
theorem x_hdT {dn lt lc ll ls cc : Int32} {nh nk : Nat} {fh code col cel buk : Nat → Int32} {L : List Cls} {kd hard water term hc hl : Nat → Int32} {dg : Int64} {hs : Int32} {w : Nat → Int} (hT : XTx lc ll nh fh nk code L) (hok : ∀ q ∈ L, okC q) (hB : LwB kd hard water (term 0) (term 2)) (hW : WK kd hard water term w) (hD : RD dg w) (hhc : RbW hc 210 8 w) (hhl : RbW hl 211 8 w) (hhs : hs.toInt = w 3) (h8 : 0 ≤ w 3 ∧ w 3 ≤ 8) (c7 : ∀ k, k < 8 → 0 ≤ w (210 + 2 * k) ∧ w (210 + 2 * k) ≤ 99) {Qb : Int32 → Int64 → (Nat → Int64) → (Nat → Int32) → (Nat → Int32) → Int32 → Int32 → Int32 → Int32 → Prop} (K : ∀ (x : Int32) (stk : Nat → Int64) (said lost : Nat → Int32) (c s k v : Int32), MSZ (some L) w said lost (fun c => ¬ w (113 + c) = 3 ∧ w (33 + c) = 0) → (0 ≤ c.toInt ∧ c.toInt ≤ 39) → Qb x (hidL (some L) w) stk said lost c s k v) : ∀ (m i : Nat) (x : Int32) (stk : Nat → Int64) (said lost : Nat → Int32) (c s k v : Int32), x.toInt = (i : Int) → i ≤ 40 → 40 - i < m → MSZ (some L) w said lost (fun c => c < i ∧ (¬ w (113 + c) = 3 ∧ w (33 + c) = 0)) → (0 ≤ c.toInt ∧ c.toInt ≤ 39) → wl_X3_hiddenCells_T_17 dn lt dg kd lc ll nh fh nk code ls hs col hard water term cc cel buk hc hl Qb m x (bitsF (hdB (some L) w) i) stk said lost c s k v := by
  intro m
  induction m with
  | zero => intro i x stk said lost c s k v _ _ h; omega
  | succ m ih =>
    intro i x stk said lost c s k v hx hi hm hM hcc
    unfold wl_X3_hiddenCells_T_17
    by_cases q : 40 ≤ x
    · have q₉ := le_z (x := 40) rfl hx q
      refine br1 q ?_
      rw [show i = 40 by omega]
      exact K _ _ _ _ _ _ _ _ ⟨hM.1, hM.2.1, fun c hc hp => hM.2.2 c hc ⟨by omega, hp⟩⟩ hcc
    · have q₉ := nle_z (x := 40) rfl hx q
      refine br0 q ⟨vpi hx (by omega) (by omega), ?_⟩
      have ek : (kd i).toInt = w (113 + i) := hW.1 i (by omega)
      rw [tnN hx]
      have xx : ((i : Nat) : Int).toNat = i := Int.toNat_natCast i
      by_cases t : kd i = 3
      · have t₉ := eq_z (y := 3) ek rfl t
        refine br1 t ?_
        rw [bitsF_0 (hdB_n (F := (some L)) (Or.inl t₉))]
        exact ih (i + 1) _ _ _ _ _ _ _ _ (add1 hx (by omega)) (by omega) (by omega) (hM.no (fun g => g.1 t₉)) hcc
      · have t₉ := ne_z (y := 3) ek rfl t
        refine br0 t (RD.at hD (by omega) (by omega) (fun r hr h => ?_))
        rw [hx, xx] at h
        by_cases d : r = 0
        · have d₉ := eq_z (x := r.toInt) (y := 0) rfl rfl d
          have d0 : w (33 + i) = 0 := by omega
          refine br1 d (z_mcT hT hok hW hB (by first | with_reducible assumption | exact ⟨by omega, by omega⟩) (fun r1 r2 v2 k2 h1 h2 => un7_i ?_))
          have M := MSZ.up (P₉ := fun c => c < i + 1 ∧ (¬ w (113 + c) = 3 ∧ w (33 + c) = 0)) hM hx (by omega) h1 h2 (fun c hc => lt_or hc)
          refine x_isAs hx (by omega) hhc hhl hhs h8 c7 M ⟨by omega, t₉, d0⟩ (fun g => ?_) (fun g => ?_)
          · refine br0 (by decide) ?_
            rw [bitsF_1 (by rw [hdB_e t₉ d0]; exact g) hx (by omega)]
            exact ih (i + 1) _ _ _ _ _ _ _ _ (add1 hx (by omega)) (by omega) (by omega) M (by first | with_reducible assumption | exact ⟨by omega, by omega⟩)
          · refine br1 rfl ?_
            rw [bitsF_0 (by rw [hdB_e (F := (some L)) t₉ d0, g]; decide)]
            exact ih (i + 1) _ _ _ _ _ _ _ _ (add1 hx (by omega)) (by omega) (by omega) M (by first | with_reducible assumption | exact ⟨by omega, by omega⟩)
        · have d₉ := ne_z (x := r.toInt) (y := 0) rfl rfl d
          have d0 : ¬ w (33 + i) = 0 := by omega
          refine br0 d ?_
          rw [bitsF_0 (hdB_n (F := (some L)) (Or.inr d0))]
          exact ih (i + 1) _ _ _ _ _ _ _ _ (add1 hx (by omega)) (by omega) (by omega) (hM.no (fun g => d0 g.2)) hcc
/-! the reference -/
theorem z_msound {a b law broken : Int32} {value sum : Int64} {row nOp nArg : Nat → Int32} {rest now set : Nat → Int64} {ls : Nat → List Cls} {w : Nat → Int} (hl : RML row ls) (hR : RMw row w) (hr : RLW row) (hc : 0 ≤ a.toInt ∧ a.toInt ≤ 39) (hd : 0 ≤ b.toInt ∧ b.toInt ≤ 99) (hB : 0 ≤ broken.toInt ∧ broken.toInt ≤ 1) {Q : QM} (hq : ∀ (r law₉ br₉ : Int32) (value₉ sum₉ : Int64) (set₉ rest₉ : Nat → Int64), (0 ≤ r.toInt ∧ r.toInt ≤ 99) ∧ r.toInt = mxZ0 (loudI (lawW w ls) w a.toInt 3 b.toInt) ∧ (0 ≤ br₉.toInt ∧ br₉.toInt ≤ 1) → Q r (law₉, br₉, value₉, sum₉, set₉, rest₉)) : wp_X12_soundOf a b 0 law broken value sum row set nOp nArg rest now Q := by
  unfold wp_X12_soundOf
  refine z_mloudAs hl hR hr hc hd hB (fun r l1 b1 v1 s1 t1 p1 h => un6_i ?_)
  refine x_within (x := r.toInt) (y := 0) (z := 99) (Int32.toInt_toInt64 r) rfl rfl (by decide) (by decide) (by decide) (fun r2 h2 => ?_)
  have h3 : r.toInt = loudI (lawW w ls) w a.toInt 3 b.toInt := h.2.1
  have e : nrI 0 99 r.toInt = mxZ0 (loudI (lawW w ls) w a.toInt 3 b.toInt) := by
    have q := h.1
    rw [← h3]
    unfold nrI mxZ0
    (repeat' split) <;> omega
  have B := nrI_b (lo := 0) (hi := 99) (x := r.toInt) (by decide)
  exact hq _ _ _ _ _ _ _ ⟨by rw [h2]; exact B, by rw [h2, e], h.2.2⟩
theorem x_ih33 {a law broken : Int32} {value sum : Int64} {row nOp nArg : Nat → Int32} {now set rest : Nat → Int64} {Qb : Int32 → Int32 → Int32 → Int32 → Int64 → Int64 → (Nat → Int64) → (Nat → Int64) → Prop} (K : Qb 0 0 law broken value sum set rest) : ∀ m : Nat, 0 < m → wl_X12_isHidden_33 a 0 row nOp nArg now Qb m 0 0 law broken value sum set rest := by
  intro m hm
  cases m with
  | zero => omega
  | succ m =>
    unfold wl_X12_isHidden_33
    by_cases q : row (3 : Int32).toNatClampNeg ≤ 0
    · exact br1 q K
    · exact br0 q (br1 rfl K)
theorem x_ih33a {a law broken : Int32} {value sum : Int64} {row nOp nArg : Nat → Int32} {now set rest : Nat → Int64} {Qb : Int32 → Int32 → Int32 → Int32 → Int64 → Int64 → (Nat → Int64) → (Nat → Int64) → Prop} (K : Qb 0 0 law broken value sum set rest) : ∀ m : Nat, 0 < m → wl_X12_isHidden_33a a 0 row nOp nArg now Qb m 0 0 law broken value sum set rest := by
  intro m hm
  cases m with
  | zero => omega
  | succ m =>
    unfold wl_X12_isHidden_33a
    by_cases q : row (3 : Int32).toNatClampNeg ≤ 0
    · exact br1 q K
    · exact br0 q (br1 rfl K)
theorem x_ih33b {a : Int32} {row nOp nArg : Nat → Int32} {now : Nat → Int64} {ls : Nat → List Cls} {w : Nat → Int} (hl : RML row ls) (hR : RMw row w) (hr : RLW row) {i : Nat} (ha : a.toInt = (i : Int)) (hi : i < 40) {Qb : Int32 → Int32 → Int32 → Int32 → Int64 → Int64 → (Nat → Int64) → (Nat → Int64) → Prop} (K : ∀ (x f law broken : Int32) (value sum : Int64) (set rest : Nat → Int64), (f = 1 ∧ asH (lawW w ls) w i (w 3).toNat = true ∨ f = 0 ∧ asH (lawW w ls) w i (w 3).toNat = false) → (0 ≤ broken.toInt ∧ broken.toInt ≤ 1) → Qb x f law broken value sum set rest) : ∀ (m k : Nat) (x f law broken : Int32) (value sum : Int64) (set rest : Nat → Int64), x.toInt = (k : Int) → (k : Int) ≤ w 3 → (w 3).toNat - k < m → (f = 1 ∧ asH (lawW w ls) w i k = true ∨ f = 0 ∧ asH (lawW w ls) w i k = false) → (0 ≤ broken.toInt ∧ broken.toInt ≤ 1) → wl_X12_isHidden_33b a 0 row nOp nArg now Qb m x f law broken value sum set rest := by
  intro m
  induction m with
  | zero => intro k x f law broken value sum set rest _ _ h; omega
  | succ m ih =>
    intro k x f law broken value sum set rest hx hk hm hf hB
    unfold wl_X12_isHidden_33b
    have z3 : (row (3 : Int32).toNatClampNeg).toInt = w 3 := hR 3 (by decide)
    have b3 := RLW.at_3 hr (n := 3) (z := 3) rfl (by omega) (by omega)
    have e3 : (row 3).toInt = w 3 := hR 3 (by decide)
    by_cases q : row (3 : Int32).toNatClampNeg ≤ x
    · have q₉ := le_z z3 hx q
      refine br1 q (K _ _ _ _ _ _ _ _ ?_ hB)
      rw [show (w 3).toNat = k by omega]
      exact hf
    · have q₉ := nle_z z3 hx q
      refine br0 q ?_
      rcases hf with ⟨f1, hA⟩ | ⟨f0, hA⟩
      · subst f1
        have k8 : k < 8 := by omega
        have y2 : (2 * x).toInt = 2 * (k : Int) := mul_z (a := 2) (x := 2) rfl hx (by omega) (by omega)
        have x1 : (210 + 2 * x).toInt = ((210 + 2 * k : Nat) : Int) := by rw [add_z (a := 210) (x := 210) rfl y2 (by omega) (by omega)]; omega
        have x2 : (210 + 2 * x + 1).toInt = ((211 + 2 * k : Nat) : Int) := by rw [add_z (b := 1) (y := 1) x1 rfl (by omega) (by omega)]; omega
        have e1 : (row (210 + 2 * k)).toInt = w (210 + 2 * k) := hR _ (by omega)
        have e2 : (row (211 + 2 * k)).toInt = w (211 + 2 * k) := hR _ (by omega)
        have c7 : 0 ≤ (row (210 + 2 * k)).toInt ∧ (row (210 + 2 * k)).toInt ≤ 99 := RLW.at_210 hr (n := 210 + 2 * k) (z := ((210 + 2 * k : Nat) : Int)) rfl (by omega) (by omega)
        refine br0 (by decide) ⟨vpi x1 (by omega) (by omega), ?_⟩
        rw [tnN x1]
        refine z_msound hl hR hr (by first | with_reducible assumption | exact ⟨by omega, by omega⟩) c7 hB (fun r l1 b1 v1 s1 t1 p1 h => un6_i ⟨vpi x2 (by omega) (by omega), ?_⟩)
        rw [tnN x2]
        have h2 := h.2.1
        rw [ha, e1] at h2
        by_cases u : r = row (211 + 2 * k)
        · have u₉ := eq_z h2 e2 u
          exact br1 u (ih (k + 1) _ _ _ _ _ _ _ _ (add1 hx (by omega)) (by omega) (by omega) (Or.inl ⟨rfl, asH_y hA u₉⟩) h.2.2)
        · have u₉ := ne_z h2 e2 u
          exact br0 u (ih (k + 1) _ _ _ _ _ _ _ _ (add1 hx (by omega)) (by omega) (by omega) (Or.inr ⟨rfl, asH_n u₉⟩) h.2.2)
      · subst f0
        exact br1 rfl (K _ _ _ _ _ _ _ _ (Or.inr ⟨rfl, asH_ff hA (by omega)⟩) hB)
theorem z_mishid {a law broken : Int32} {value sum : Int64} {row nOp nArg : Nat → Int32} {rest now set : Nat → Int64} {ls : Nat → List Cls} {w : Nat → Int} (hl : RML row ls) (hR : RMw row w) (hr : RLW row) {i : Nat} (ha : a.toInt = (i : Int)) (hi : i < 40) (hB : 0 ≤ broken.toInt ∧ broken.toInt ≤ 1) {Q : QM} (hq : ∀ (r law₉ br₉ : Int32) (value₉ sum₉ : Int64) (set₉ rest₉ : Nat → Int64), (r = 1 ∧ hdB (lawW w ls) w i = true ∨ r = 0 ∧ ¬ hdB (lawW w ls) w i = true) → (0 ≤ br₉.toInt ∧ br₉.toInt ≤ 1) → Q r (law₉, br₉, value₉, sum₉, set₉, rest₉)) : wp_X12_isHidden a 0 law broken value sum row set nOp nArg rest now Q := by
  unfold wp_X12_isHidden
  have x1 : (113 + a).toInt = ((113 + i : Nat) : Int) := by rw [add_z (a := 113) (x := 113) rfl ha (by omega) (by omega)]; omega
  have x2 : (33 + a).toInt = ((33 + i : Nat) : Int) := by rw [add_z (a := 33) (x := 33) rfl ha (by omega) (by omega)]; omega
  have e1 : (row (113 + i)).toInt = w (113 + i) := hR _ (by omega)
  have e2 : (row (33 + i)).toInt = w (33 + i) := hR _ (by omega)
  refine ⟨vpi x1 (by omega) (by omega), ?_⟩
  rw [tnN x1]
  by_cases t : row (113 + i) = 3
  · have t₉ := eq_z (y := 3) e1 rfl t
    exact br1 t (x_ih33 ⟨Or.inl rfl, hq _ _ _ _ _ _ _ (Or.inr ⟨rfl, hdB_n (Or.inl t₉)⟩) hB⟩ _ (by omega))
  · have t₉ := ne_z (y := 3) e1 rfl t
    refine br0 t ⟨vpi x2 (by omega) (by omega), ?_⟩
    rw [tnN x2]
    by_cases d : row (33 + i) = 0
    · have d₉ := eq_z (y := 0) e2 rfl d
      refine br1 d (x_ih33b hl hR hr ha hi (fun x f l1 b1 v1 s1 t1 p1 hf hb => ?_) _ 0 _ _ _ _ _ _ _ _ rfl (by have b3 := RLW.at_3 hr (n := 3) (z := 3) rfl (by omega) (by omega); have z3 : (row 3).toInt = w 3 := hR 3 (by decide); omega) (by have b3 := RLW.at_3 hr (n := 3) (z := 3) rfl (by omega) (by omega); have z3 : (row 3).toInt = w 3 := hR 3 (by decide); omega) (Or.inl ⟨rfl, rfl⟩) hB)
      rcases hf with ⟨f1, hA⟩ | ⟨f0, hA⟩
      · exact ⟨Or.inr f1, hq _ _ _ _ _ _ _ (Or.inl ⟨f1, by rw [hdB_e t₉ d₉]; exact hA⟩) hb⟩
      · exact ⟨Or.inl f0, hq _ _ _ _ _ _ _ (Or.inr ⟨f0, by rw [hdB_e t₉ d₉, hA]; decide⟩) hb⟩
    · have d₉ := ne_z (y := 0) e2 rfl d
      exact br0 d (x_ih33a ⟨Or.inl rfl, hq _ _ _ _ _ _ _ (Or.inr ⟨rfl, hdB_n (Or.inr d₉)⟩) hB⟩ _ (by omega))
theorem x_mhdl {row nOp nArg : Nat → Int32} {now : Nat → Int64} {ls : Nat → List Cls} {w : Nat → Int} (hl : RML row ls) (hR : RMw row w) (hr : RLW row) {Qb : Int32 → Int64 → Int32 → Int32 → Int64 → Int64 → (Nat → Int64) → (Nat → Int64) → Prop} (K : ∀ (x law broken : Int32) (value sum : Int64) (set rest : Nat → Int64), (0 ≤ broken.toInt ∧ broken.toInt ≤ 1) → Qb x (hidL (lawW w ls) w) law broken value sum set rest) : ∀ (m i : Nat) (x law broken : Int32) (value sum : Int64) (set rest : Nat → Int64), x.toInt = (i : Int) → i ≤ 40 → 40 - i < m → (0 ≤ broken.toInt ∧ broken.toInt ≤ 1) → wl_X12_hidden_9 0 row nOp nArg now Qb m x (bitsF (hdB (lawW w ls) w) i) law broken value sum set rest := by
  intro m
  induction m with
  | zero => intro i x law broken value sum set rest _ _ h; omega
  | succ m ih =>
    intro i x law broken value sum set rest hx hi hm hB
    unfold wl_X12_hidden_9
    by_cases q : 40 ≤ x
    · have q₉ := le_z (x := 40) rfl hx q
      refine br1 q ?_
      rw [show i = 40 by omega]
      exact K _ _ _ _ _ _ _ hB
    · have q₉ := nle_z (x := 40) rfl hx q
      refine br0 q (z_mishid hl hR hr hx (by omega) hB (fun r l1 b1 v1 s1 t1 p1 h hb => un6_i ?_))
      rcases h with ⟨r1, g⟩ | ⟨r0, g⟩
      · subst r1
        refine br0 (by decide) ?_
        rw [bitsF_1 g hx (by omega)]
        exact ih (i + 1) _ _ _ _ _ _ _ (add1 hx (by omega)) (by omega) (by omega) hb
      · subst r0
        refine br1 rfl ?_
        rw [lor_0, bitsF_0 g]
        exact ih (i + 1) _ _ _ _ _ _ _ (add1 hx (by omega)) (by omega) (by omega) hb
theorem x_mhidden {law broken : Int32} {value sum : Int64} {row nOp nArg : Nat → Int32} {rest now set : Nat → Int64} {ls : Nat → List Cls} {w : Nat → Int} (hl : RML row ls) (hR : RMw row w) (hr : RLW row) (hB : 0 ≤ broken.toInt ∧ broken.toInt ≤ 1) {Q : Int64 → (Int32 × Int32 × Int32 × Int64 × Int64 × (Nat → Int64) × (Nat → Int64)) → Prop} (hq : ∀ (r : Int64) (law₉ br₉ : Int32) (value₉ sum₉ : Int64) (set₉ rest₉ : Nat → Int64), r = hidL (lawW w ls) w → (0 ≤ br₉.toInt ∧ br₉.toInt ≤ 1) → Q r (0, law₉, br₉, value₉, sum₉, set₉, rest₉)) : wp_X12_hidden 0 law broken value sum row set nOp nArg rest now Q := by
  unfold wp_X12_hidden
  exact x_mhdl hl hR hr (fun x l1 b1 v1 s1 t1 p1 hb => hq _ _ _ _ _ _ _ rfl hb) _ 0 _ _ _ _ _ _ _ rfl (by omega) (by omega) hB
end
section
/-! the class: measures, what may be hidden, behind the law in force -/
theorem z_msN {kd hard water term said lost : Nat → Int32} {c s k : Int32} {w : Nat → Int} (hW : WK kd hard water term w) (hS : SA said) (hL : LO lost) (hc : 0 ≤ c.toInt ∧ c.toInt ≤ 39) {Q : (Int32 × Int32 × Int32 × (Nat → Int32) × (Nat → Int32)) → Prop} (hq : ∀ (c₉ s₉ k₉ : Int32) (said₉ lost₉ : Nat → Int32), MSZ none w said₉ lost₉ (fun c => w (113 + c) = 3) ∧ (0 ≤ c₉.toInt ∧ c₉.toInt ≤ 39) → Q (c₉, s₉, k₉, said₉, lost₉)) : wp_X3_measure_N c s k kd said lost Q := by
  unfold wp_X3_measure_N
  refine o_X0_turnTo_N _ ?_
  exact x_msN hW (fun x said lost c s k hM hc => hq _ _ _ _ _ ⟨hM, hc⟩) _ 0 _ _ _ _ _ _ rfl (by omega) (by omega) (MSZ.z hS hL) hc
theorem z_msT {dn lt lc ll ls cc : Int32} {nh nk : Nat} {fh code col kd hard water term cel buk said lost : Nat → Int32} {stk : Nat → Int64} {c s k v : Int32} {L : List Cls} {w : Nat → Int} (hT : XTx lc ll nh fh nk code L) (hok : ∀ q ∈ L, okC q) (hW : WK kd hard water term w) (hB : LwB kd hard water (term 0) (term 2)) (hS : SA said) (hL : LO lost) (hc : 0 ≤ c.toInt ∧ c.toInt ≤ 39) {Q : (Int32 × Int32 × Int32 × Int32 × (Nat → Int64) × (Nat → Int32) × (Nat → Int32)) → Prop} (hq : ∀ (c₉ s₉ k₉ v₉ : Int32) (stk₉ : Nat → Int64) (said₉ lost₉ : Nat → Int32), MSZ (some L) w said₉ lost₉ (fun c => w (113 + c) = 3) ∧ (0 ≤ c₉.toInt ∧ c₉.toInt ≤ 39) → Q (c₉, s₉, k₉, v₉, stk₉, said₉, lost₉)) : wp_X3_measure_T c s k dn lt v kd lc ll nh fh nk code stk ls col hard water term cc cel buk said lost Q := by
  unfold wp_X3_measure_T
  refine o_X0_turnTo_T _ ?_
  exact x_msT hT hok hW hB (fun x stk said lost c s k v hM hc => hq _ _ _ _ _ _ _ ⟨hM, hc⟩) _ 0 _ _ _ _ _ _ _ _ rfl (by omega) (by omega) (MSZ.z hS hL) hc
theorem z_hidN {kd hard water term hc hl said lost : Nat → Int32} {dg : Int64} {lc fo hs c s k : Int32} {laws : Nat → Option Nat} {w : Nat → Int} (hW : WK kd hard water term w) (hD : RD dg w) (hhc : RbW hc 210 8 w) (hhl : RbW hl 211 8 w) (hhs : hs.toInt = w 3) (h8 : 0 ≤ w 3 ∧ w 3 ≤ 8) (c7 : ∀ k, k < 8 → 0 ≤ w (210 + 2 * k) ∧ w (210 + 2 * k) ≤ 99) (hfo : fo.toInt < 0) (hS : SA said) (hL : LO lost) (hcc : 0 ≤ c.toInt ∧ c.toInt ≤ 39) {Q : Int64 → (Int32 × Int32 × Int32 × (Nat → Int32) × (Nat → Int32)) → Prop} (hq : ∀ (r : Int64) (c₉ s₉ k₉ : Int32) (said₉ lost₉ : Nat → Int32), r = hidL none w ∧ MSZ none w said₉ lost₉ (fun c => ¬ w (113 + c) = 3 ∧ w (33 + c) = 0) ∧ (0 ≤ c₉.toInt ∧ c₉.toInt ≤ 39) → Q r (c₉, s₉, k₉, said₉, lost₉)) : wp_X3_hiddenCells_N lc fo laws c s k dg kd said lost hs hc hl Q := by
  unfold wp_X3_hiddenCells_N
  refine o_X10_lawInForce_N _ _ _ _ (o_X10_lawOf_N _ _ _ _ (br1 (z_lt (x := fo.toInt) (y := 0) rfl rfl hfo) (o_X0_turnTo_N _ ?_)))
  exact x_hdN hW hD hhc hhl hhs h8 c7 (fun x said lost c s k hM hc => hq _ _ _ _ _ _ ⟨rfl, hM, hc⟩) _ 0 _ _ _ _ _ _ rfl (by omega) (by omega) (MSZ.z hS hL) hcc
theorem z_hidT {dn lt tlc tll ls cc : Int32} {nh nk : Nat} {fh code col cel buk : Nat → Int32} {stk : Nat → Int64} {L : List Cls} {t : Nat} {kd hard water term hc hl said lost : Nat → Int32} {dg : Int64} {lc fo hs c s k v : Int32} {laws : Nat → Option Nat} {w : Nat → Int} (hT : XTx tlc tll nh fh nk code L) (hok : ∀ q ∈ L, okC q) (hB : LwB kd hard water (term 0) (term 2)) (hW : WK kd hard water term w) (hD : RD dg w) (hhc : RbW hc 210 8 w) (hhl : RbW hl 211 8 w) (hhs : hs.toInt = w 3) (h8 : 0 ≤ w 3 ∧ w 3 ≤ 8) (c7 : ∀ k, k < 8 → 0 ≤ w (210 + 2 * k) ∧ w (210 + 2 * k) ≤ 99) (hf0 : 0 ≤ fo.toInt) (hf5 : fo.toInt ≤ 5) (hfl : fo.toInt < lc.toInt) (hlw : laws fo.toNatClampNeg = some t) (hS : SA said) (hL : LO lost) (hcc : 0 ≤ c.toInt ∧ c.toInt ≤ 39) {Q : Int64 → (Int32 × Int32 × Int32 × Int32 × (Nat → Int64) × (Nat → Int32) × (Nat → Int32)) → Prop} (hq : ∀ (r : Int64) (c₉ s₉ k₉ v₉ : Int32) (stk₉ : Nat → Int64) (said₉ lost₉ : Nat → Int32), r = hidL (some L) w ∧ MSZ (some L) w said₉ lost₉ (fun c => ¬ w (113 + c) = 3 ∧ w (33 + c) = 0) ∧ (0 ≤ c₉.toInt ∧ c₉.toInt ≤ 39) → Q r (c₉, s₉, k₉, v₉, stk₉, said₉, lost₉)) : wp_X3_hiddenCells_T lc fo laws c s k dn lt v dg kd t tlc tll nh fh nk code stk ls hs col hard water term cc cel buk said lost hc hl Q := by
  unfold wp_X3_hiddenCells_T
  refine o_X10_lawInForce_T _ _ _ _ _ (o_X10_lawOf_T _ _ _ _ _ (br0 (z_nlt (x := fo.toInt) (y := 0) rfl rfl hf0) (br0 (z_nle (x := lc.toInt) (y := fo.toInt) rfl rfl hfl) (br0 (z_nle (x := 6) (y := fo.toInt) rfl rfl (by omega)) ⟨vpi rfl hf0 (by omega), hlw, o_X0_turnTo_T _ ?_⟩))))
  exact x_hdT hT hok hB hW hD hhc hhl hhs h8 c7 (fun x stk said lost c s k v hM hc => hq _ _ _ _ _ _ _ _ ⟨rfl, hM, hc⟩) _ 0 _ _ _ _ _ _ _ _ rfl (by omega) (by omega) (MSZ.z hS hL) hcc
end
