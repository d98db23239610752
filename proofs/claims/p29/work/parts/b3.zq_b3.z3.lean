set_option maxRecDepth 100000 in
theorem sl_X1_allBuckets_4r (h0_count : Int32) (h0bf : Nat → Int32) (h_h0_count : 0 ≤ h0_count.toInt ∧ h0_count.toInt ≤ 6) (h_h0bf : BU h0bf) (Qb : Int32 → Int32 → Prop) (KX : ∀ (x_4_0 : Int32) (x_4_1 : Int32), (0 ≤ x_4_0.toInt ∧ x_4_0.toInt ≤ 6) ∧ (0 ≤ x_4_1.toInt ∧ x_4_1.toInt ≤ 59994) ∧ (x_4_1.toInt ≤ 9999 * x_4_0.toInt) → Qb x_4_0 x_4_1) : ∀ (n : Nat) (x_4_0 : Int32) (x_4_1 : Int32), (0 ≤ x_4_0.toInt ∧ x_4_0.toInt ≤ 6) ∧ (0 ≤ x_4_1.toInt ∧ x_4_1.toInt ≤ 59994) ∧ (x_4_1.toInt ≤ 9999 * x_4_0.toInt) → 7 - x_4_0.toInt < (n : Int) → wl_X1_allBuckets_4 h0_count h0bf Qb n x_4_0 x_4_1 := by
  intro n
  induction n with
  | zero =>
    intro x_4_0 x_4_1 hI hm
    exfalso; have hm : 7 - x_4_0.toInt < 0 := hm; omega
  | succ n ih =>
    intro x_4_0 x_4_1 hI hm
    have hm : 7 - x_4_0.toInt < (n : Int) + 1 := by simpa using hm
    have h_x_4_0 := hI.1
    have h_x_4_1 := hI.2.1
    have h_rel0 := hI.2.2
    unfold wl_X1_allBuckets_4
    by_cases c1 : h0_count ≤ x_4_0
    · refine br1 c1 ?_
      have d2 := le_z (a := h0_count) (b := x_4_0) (x := (Int32.toInt h0_count)) (y := (Int32.toInt x_4_0)) rfl rfl c1
      exact KX _ _ ⟨⟨by omega, by omega⟩, ⟨by omega, by omega⟩, (by omega)⟩
    · refine br0 c1 ?_
      have d3 := nle_z (a := h0_count) (b := x_4_0) (x := (Int32.toInt h0_count)) (y := (Int32.toInt x_4_0)) rfl rfl c1
      refine ⟨vpi (x := (Int32.toInt x_4_0)) rfl (by omega) (by omega), ?_⟩
      have t4 : (Int32.toInt (x_4_0 + 1)) = (Int32.toInt x_4_0) + 1 := add_z rfl rfl (by omega) (by omega)
      have g5 : 0 ≤ (Int32.toInt (h0bf x_4_0.toNatClampNeg)) ∧ (Int32.toInt (h0bf x_4_0.toNatClampNeg)) ≤ 9999 := BU.at_0 h_h0bf (tnz (x := (Int32.toInt x_4_0)) rfl (by omega)) (by omega) (by omega)
      have t6 : (Int32.toInt (x_4_1 + (h0bf x_4_0.toNatClampNeg))) = (Int32.toInt x_4_1) + (Int32.toInt (h0bf x_4_0.toNatClampNeg)) := add_z rfl rfl (by omega) (by omega)
      exact ih _ _ ⟨⟨by omega, by omega⟩, ⟨by omega, by omega⟩, (by omega)⟩ (by omega)
set_option maxRecDepth 100000 in
theorem s_X1_allBucketsr (h0_count : Int32) (h0bf : Nat → Int32) (h_h0_count : 0 ≤ h0_count.toInt ∧ h0_count.toInt ≤ 6) (h_h0bf : BU h0bf) {Q : Int32 → Prop} (hq : ∀ (r : Int32), (0 ≤ r.toInt ∧ r.toInt ≤ 59994) → Q r) : wp_X1_allBuckets h0_count h0bf Q := by
  unfold wp_X1_allBuckets
  have k3 : Int32.toInt 0 = 0 := rfl
  refine sl_X1_allBuckets_4r h0_count (h0bf) ⟨by omega, by omega⟩ h_h0bf _ (fun x1_0 x1_1 X2 => ?_) 1000000000000 0 0 ⟨(by decide), (by decide), (by omega)⟩ (by omega)
  have j4 := X2.1
  have j5 := X2.2.1
  have j6 := X2.2.2
  exact hq _ ⟨by omega, by omega⟩
set_option maxRecDepth 100000 in
theorem s_X11_seasons_N (a : Int32) (b : Int32) (h0_drawnDay : Int32) (f_h0_refusals : Nat → Int32) (h0_site_world_lawCount : Int32) (h0_site_world_force : Int32) (h0_site_world_crew_count : Int32) (h0_paper_world : Nat) (h0_paper_world_lawCount : Int32) (h0_paper_world_force : Int32) (h0_paper_world_rock_dug : Int64) (h0_site_world_rock_dug : Int64) (f_h0_site_world_rock_kind : Nat → Int32) (f_h0_paper_world_rock_kind : Nat → Int32) (f_h0_site_world_rock_hard : Nat → Int32) (f_h0_paper_world_rock_hard : Nat → Int32) (f_h0_site_world_rock_water : Nat → Int32) (f_h0_paper_world_rock_water : Nat → Int32) (h0_paper_world_crew_count : Int32) (f_h0_site_world_crew_cell : Nat → Int32) (f_h0_paper_world_crew_cell : Nat → Int32) (f_h0_site_world_crew_buckets : Nat → Int32) (f_h0_paper_world_crew_buckets : Nat → Int32) (h0_paper_world_folk_listeners : Int32) (h0_paper_world_folk_noises : Int32) (h0_paper_world_folk_hushed : Int32) (h0_paper_world_folk_hearsay : Int32) (h0_paper_world_folk_wells : Int32) (h0_site_world_folk_listeners : Int32) (h0_site_world_folk_noises : Int32) (h0_site_world_folk_hushed : Int32) (h0_site_world_folk_hearsay : Int32) (h0_site_world_folk_wells : Int32) (f_h0_site_world_folk_column : Nat → Int32) (f_h0_paper_world_folk_column : Nat → Int32) (f_h0_site_world_folk_ear : Nat → Int32) (f_h0_paper_world_folk_ear : Nat → Int32) (f_h0_site_world_folk_noiseColumn : Nat → Int32) (f_h0_paper_world_folk_noiseColumn : Nat → Int32) (f_h0_site_world_folk_noiseLoud : Nat → Int32) (f_h0_paper_world_folk_noiseLoud : Nat → Int32) (f_h0_site_world_folk_hearsayColumn : Nat → Int32) (f_h0_paper_world_folk_hearsayColumn : Nat → Int32) (f_h0_site_world_folk_hearsayLoud : Nat → Int32) (f_h0_paper_world_folk_hearsayLoud : Nat → Int32) (f_h0_site_world_folk_sounds : Nat → Int32) (f_h0_paper_world_folk_sounds : Nat → Int32) (f_h0_site_world_folk_wet : Nat → Int32) (f_h0_paper_world_folk_wet : Nat → Int32) (f_h0_paper_world_term : Nat → Int32) (f_h0_site_world_term : Nat → Int32) (f_h0_site_world_laws : Nat → Option Nat) (f_h0_paper_world_laws : Nat → Option Nat) (h0_paper_diary_kept : Int32) (h0_paper_diary_latest : Int32) (h0_site_diary_kept : Int32) (h0_site_diary_latest : Int32) (f_h0_site_diary_deed : Nat → Int32) (f_h0_paper_diary_deed : Nat → Int32) (f_h0_site_diary_whose : Nat → Int32) (f_h0_paper_diary_whose : Nat → Int32) (f_h0_site_diary_before : Nat → Int32) (f_h0_paper_diary_before : Nat → Int32) (f_h0_site_diary_bucketsBefore : Nat → Int32) (f_h0_paper_diary_bucketsBefore : Nat → Int32) (f_h0_site_diary_dayBefore : Nat → Int32) (f_h0_paper_diary_dayBefore : Nat → Int32) (h0_asker_world : Value) (h0_asker_law : Value) (h0_asker_cell : Int32) (h0_asker_shaft : Int32) (h0_asker_kind : Int32) (h0_drawnCrew_count : Int32) (f_h0_drawnCrew_cell : Nat → Int32) (f_h0_drawnCrew_buckets : Nat → Int32) (TT : Nat → Prop) (h_h0_site_world_lawCount : 0 ≤ h0_site_world_lawCount.toInt ∧ h0_site_world_lawCount.toInt ≤ 6) (h_h0_site_world_force : (-1) ≤ h0_site_world_force.toInt ∧ h0_site_world_force.toInt ≤ (-1)) (h_h0_site_world_crew_count : 0 ≤ h0_site_world_crew_count.toInt ∧ h0_site_world_crew_count.toInt ≤ 6) (h_h0_paper_world_lawCount : 0 ≤ h0_paper_world_lawCount.toInt ∧ h0_paper_world_lawCount.toInt ≤ 6) (h_h0_paper_world_force : (-1) ≤ h0_paper_world_force.toInt ∧ h0_paper_world_force.toInt ≤ 5) (h_f_h0_site_world_rock_kind : KI f_h0_site_world_rock_kind) (h_f_h0_paper_world_rock_kind : KI f_h0_paper_world_rock_kind) (h_f_h0_site_world_rock_hard : HA f_h0_site_world_rock_hard) (h_f_h0_paper_world_rock_hard : HA f_h0_paper_world_rock_hard) (h_f_h0_site_world_rock_water : WA f_h0_site_world_rock_water) (h_f_h0_paper_world_rock_water : WA f_h0_paper_world_rock_water) (h_h0_paper_world_crew_count : 0 ≤ h0_paper_world_crew_count.toInt ∧ h0_paper_world_crew_count.toInt ≤ 6) (h_f_h0_site_world_crew_cell : CE f_h0_site_world_crew_cell) (h_f_h0_paper_world_crew_cell : CE f_h0_paper_world_crew_cell) (h_f_h0_site_world_crew_buckets : BU f_h0_site_world_crew_buckets) (h_f_h0_paper_world_crew_buckets : BU f_h0_paper_world_crew_buckets) (h_h0_paper_world_folk_listeners : 0 ≤ h0_paper_world_folk_listeners.toInt ∧ h0_paper_world_folk_listeners.toInt ≤ 5) (h_h0_paper_world_folk_noises : 0 ≤ h0_paper_world_folk_noises.toInt ∧ h0_paper_world_folk_noises.toInt ≤ 6) (h_h0_paper_world_folk_hearsay : 0 ≤ h0_paper_world_folk_hearsay.toInt ∧ h0_paper_world_folk_hearsay.toInt ≤ 8) (h_h0_paper_world_folk_wells : 0 ≤ h0_paper_world_folk_wells.toInt ∧ h0_paper_world_folk_wells.toInt ≤ 10) (h_h0_site_world_folk_listeners : 0 ≤ h0_site_world_folk_listeners.toInt ∧ h0_site_world_folk_listeners.toInt ≤ 5) (h_h0_site_world_folk_noises : 0 ≤ h0_site_world_folk_noises.toInt ∧ h0_site_world_folk_noises.toInt ≤ 6) (h_h0_site_world_folk_hearsay : 0 ≤ h0_site_world_folk_hearsay.toInt ∧ h0_site_world_folk_hearsay.toInt ≤ 8) (h_h0_site_world_folk_wells : 0 ≤ h0_site_world_folk_wells.toInt ∧ h0_site_world_folk_wells.toInt ≤ 10) (h_f_h0_site_world_folk_column : CO f_h0_site_world_folk_column) (h_f_h0_paper_world_folk_column : CO f_h0_paper_world_folk_column) (h_f_h0_site_world_folk_ear : EA f_h0_site_world_folk_ear) (h_f_h0_paper_world_folk_ear : EA f_h0_paper_world_folk_ear) (h_f_h0_site_world_folk_noiseColumn : NC f_h0_site_world_folk_noiseColumn) (h_f_h0_paper_world_folk_noiseColumn : NC f_h0_paper_world_folk_noiseColumn) (h_f_h0_site_world_folk_noiseLoud : NL f_h0_site_world_folk_noiseLoud) (h_f_h0_paper_world_folk_noiseLoud : NL f_h0_paper_world_folk_noiseLoud) (h_f_h0_site_world_folk_hearsayColumn : HC f_h0_site_world_folk_hearsayColumn) (h_f_h0_paper_world_folk_hearsayColumn : HC f_h0_paper_world_folk_hearsayColumn) (h_f_h0_site_world_folk_hearsayLoud : HL f_h0_site_world_folk_hearsayLoud) (h_f_h0_paper_world_folk_hearsayLoud : HL f_h0_paper_world_folk_hearsayLoud) (h_f_h0_paper_world_term : TE f_h0_paper_world_term) (h_f_h0_site_world_term : TE f_h0_site_world_term) (h_h0_paper_diary_kept : 0 ≤ h0_paper_diary_kept.toInt ∧ h0_paper_diary_kept.toInt ≤ 16) (h_h0_paper_diary_latest : 0 ≤ h0_paper_diary_latest.toInt ∧ h0_paper_diary_latest.toInt ≤ 15) (h_h0_site_diary_kept : 0 ≤ h0_site_diary_kept.toInt ∧ h0_site_diary_kept.toInt ≤ 16) (h_h0_site_diary_latest : 0 ≤ h0_site_diary_latest.toInt ∧ h0_site_diary_latest.toInt ≤ 15) (h_h0_asker_cell : 0 ≤ h0_asker_cell.toInt ∧ h0_asker_cell.toInt ≤ 39) (h_h0_drawnCrew_count : 0 ≤ h0_drawnCrew_count.toInt ∧ h0_drawnCrew_count.toInt ≤ 6) (h_f_h0_drawnCrew_cell : CE f_h0_drawnCrew_cell) (h_f_h0_drawnCrew_buckets : BU f_h0_drawnCrew_buckets) (e_0 : ∀ k, k < 6 → ∀ v, f_h0_site_world_laws k = some v → TT v) (e_1 : DI f_h0_site_diary_deed f_h0_site_diary_whose f_h0_site_diary_before f_h0_site_diary_bucketsBefore f_h0_site_diary_dayBefore) {Q : Int32 → (Int32 × Int32 × (Nat → Int32) × Int32 × Int32 × Int64 × (Nat → Int32) × (Nat → Int32) × (Nat → Int32) × Int32 × (Nat → Int32) × (Nat → Int32) × Int32 × Int32 × Int32 × Int32 × Int32 × (Nat → Int32) × (Nat → Int32) × (Nat → Int32) × (Nat → Int32) × (Nat → Int32) × (Nat → Int32) × (Nat → Int32) × (Nat → Int32) × (Nat → Int32) × (Nat → Option Nat) × Int32 × Int32 × (Nat → Int32) × (Nat → Int32) × (Nat → Int32) × (Nat → Int32) × (Nat → Int32) × Value × Value × Int32 × Int32 × Int32 × Int32 × (Nat → Int32) × (Nat → Int32)) → Prop} (hq : ∀ (r : Int32) (u_0 : Int32) (u_1 : Int32) (u_2 : Nat → Int32) (u_3 : Int32) (u_4 : Int32) (u_5 : Int64) (u_6 : Nat → Int32) (u_7 : Nat → Int32) (u_8 : Nat → Int32) (u_9 : Int32) (u_10 : Nat → Int32) (u_11 : Nat → Int32) (u_12 : Int32) (u_13 : Int32) (u_14 : Int32) (u_15 : Int32) (u_16 : Int32) (u_17 : Nat → Int32) (u_18 : Nat → Int32) (u_19 : Nat → Int32) (u_20 : Nat → Int32) (u_21 : Nat → Int32) (u_22 : Nat → Int32) (u_23 : Nat → Int32) (u_24 : Nat → Int32) (u_25 : Nat → Int32) (u_26 : Nat → Option Nat) (u_27 : Int32) (u_28 : Int32) (u_29 : Nat → Int32) (u_30 : Nat → Int32) (u_31 : Nat → Int32) (u_32 : Nat → Int32) (u_33 : Nat → Int32) (u_34 : Value) (u_35 : Value) (u_36 : Int32) (u_37 : Int32) (u_38 : Int32) (u_39 : Int32) (u_40 : Nat → Int32) (u_41 : Nat → Int32), (0 ≤ u_3.toInt ∧ u_3.toInt ≤ 6) ∧ ((-1) ≤ u_4.toInt ∧ u_4.toInt ≤ 5) ∧ (KI u_6) ∧ (HA u_7) ∧ (WA u_8) ∧ (0 ≤ u_9.toInt ∧ u_9.toInt ≤ 6) ∧ (CE u_10) ∧ (BU u_11) ∧ (0 ≤ u_12.toInt ∧ u_12.toInt ≤ 5) ∧ (0 ≤ u_13.toInt ∧ u_13.toInt ≤ 6) ∧ (0 ≤ u_15.toInt ∧ u_15.toInt ≤ 8) ∧ (0 ≤ u_16.toInt ∧ u_16.toInt ≤ 10) ∧ (CO u_17) ∧ (EA u_18) ∧ (NC u_19) ∧ (NL u_20) ∧ (HC u_21) ∧ (HL u_22) ∧ (TE u_25) ∧ (0 ≤ u_27.toInt ∧ u_27.toInt ≤ 16) ∧ (0 ≤ u_28.toInt ∧ u_28.toInt ≤ 15) ∧ (0 ≤ u_36.toInt ∧ u_36.toInt ≤ 39) ∧ (0 ≤ u_39.toInt ∧ u_39.toInt ≤ 6) ∧ (CE u_40) ∧ (BU u_41) → Q r (u_0, u_1, u_2, u_3, u_4, u_5, u_6, u_7, u_8, u_9, u_10, u_11, u_12, u_13, u_14, u_15, u_16, u_17, u_18, u_19, u_20, u_21, u_22, u_23, u_24, u_25, u_26, u_27, u_28, u_29, u_30, u_31, u_32, u_33, u_34, u_35, u_36, u_37, u_38, u_39, u_40, u_41)) : wp_X11_seasons_N a b h0_drawnDay f_h0_refusals h0_site_world_lawCount h0_site_world_force h0_site_world_crew_count h0_paper_world h0_paper_world_lawCount h0_paper_world_force h0_paper_world_rock_dug h0_site_world_rock_dug f_h0_site_world_rock_kind f_h0_paper_world_rock_kind f_h0_site_world_rock_hard f_h0_paper_world_rock_hard f_h0_site_world_rock_water f_h0_paper_world_rock_water h0_paper_world_crew_count f_h0_site_world_crew_cell f_h0_paper_world_crew_cell f_h0_site_world_crew_buckets f_h0_paper_world_crew_buckets h0_paper_world_folk_listeners h0_paper_world_folk_noises h0_paper_world_folk_hushed h0_paper_world_folk_hearsay h0_paper_world_folk_wells h0_site_world_folk_listeners h0_site_world_folk_noises h0_site_world_folk_hushed h0_site_world_folk_hearsay h0_site_world_folk_wells f_h0_site_world_folk_column f_h0_paper_world_folk_column f_h0_site_world_folk_ear f_h0_paper_world_folk_ear f_h0_site_world_folk_noiseColumn f_h0_paper_world_folk_noiseColumn f_h0_site_world_folk_noiseLoud f_h0_paper_world_folk_noiseLoud f_h0_site_world_folk_hearsayColumn f_h0_paper_world_folk_hearsayColumn f_h0_site_world_folk_hearsayLoud f_h0_paper_world_folk_hearsayLoud f_h0_site_world_folk_sounds f_h0_paper_world_folk_sounds f_h0_site_world_folk_wet f_h0_paper_world_folk_wet f_h0_paper_world_term f_h0_site_world_term f_h0_site_world_laws f_h0_paper_world_laws h0_paper_diary_kept h0_paper_diary_latest h0_site_diary_kept h0_site_diary_latest f_h0_site_diary_deed f_h0_paper_diary_deed f_h0_site_diary_whose f_h0_paper_diary_whose f_h0_site_diary_before f_h0_paper_diary_before f_h0_site_diary_bucketsBefore f_h0_paper_diary_bucketsBefore f_h0_site_diary_dayBefore f_h0_paper_diary_dayBefore h0_asker_world h0_asker_law h0_asker_cell h0_asker_shaft h0_asker_kind h0_drawnCrew_count f_h0_drawnCrew_cell f_h0_drawnCrew_buckets TT Q := by
  unfold wp_X11_seasons_N
  refine o_X11_isWithin _ _ _ ?_
  by_cases c1 : a < 0
  · refine br1 c1 ?_
    have d2 := lt_z (a := a) (b := 0) (x := (Int32.toInt a)) (y := 0) rfl rfl c1
    refine br1 (by decide) ?_
    refine o_X11_settle _ _ _ ?_
    refine jn_s ?_
    refine br0 (by decide) ?_
    refine br0 (by decide) ?_
    refine br0 (by decide) ?_
    refine ⟨by unfold vp_in; decide, ?_⟩
    refine ⟨by unfold vp_in; decide, ?_⟩
    refine un2_i ?_
    exact hq _ _ _ _ _ _ _ _ _ _ _ _ _ _ _ _ _ _ _ _ _ _ _ _ _ _ _ _ _ _ _ _ _ _ _ _ _ _ _ _ _ _ _ ⟨⟨by omega, by omega⟩, ⟨by omega, by omega⟩, h_f_h0_paper_world_rock_kind, h_f_h0_paper_world_rock_hard, h_f_h0_paper_world_rock_water, ⟨by omega, by omega⟩, h_f_h0_paper_world_crew_cell, h_f_h0_paper_world_crew_buckets, ⟨by omega, by omega⟩, ⟨by omega, by omega⟩, ⟨by omega, by omega⟩, ⟨by omega, by omega⟩, h_f_h0_paper_world_folk_column, h_f_h0_paper_world_folk_ear, h_f_h0_paper_world_folk_noiseColumn, h_f_h0_paper_world_folk_noiseLoud, h_f_h0_paper_world_folk_hearsayColumn, h_f_h0_paper_world_folk_hearsayLoud, h_f_h0_paper_world_term, ⟨by omega, by omega⟩, ⟨by omega, by omega⟩, ⟨by omega, by omega⟩, ⟨by omega, by omega⟩, h_f_h0_drawnCrew_cell, h_f_h0_drawnCrew_buckets⟩
  · refine br0 c1 ?_
    have d3 := nlt_z (a := a) (b := 0) (x := (Int32.toInt a)) (y := 0) rfl rfl c1
    by_cases c4 : 1000001 ≤ a
    · refine br1 c4 ?_
      have d5 := le_z (a := 1000001) (b := a) (x := 1000001) (y := (Int32.toInt a)) rfl rfl c4
      refine br1 (by decide) ?_
      refine o_X11_settle _ _ _ ?_
      refine jn_s ?_
      refine br0 (by decide) ?_
      refine br0 (by decide) ?_
      refine br0 (by decide) ?_
      refine ⟨by unfold vp_in; decide, ?_⟩
      refine ⟨by unfold vp_in; decide, ?_⟩
      refine un2_i ?_
      exact hq _ _ _ _ _ _ _ _ _ _ _ _ _ _ _ _ _ _ _ _ _ _ _ _ _ _ _ _ _ _ _ _ _ _ _ _ _ _ _ _ _ _ _ ⟨⟨by omega, by omega⟩, ⟨by omega, by omega⟩, h_f_h0_paper_world_rock_kind, h_f_h0_paper_world_rock_hard, h_f_h0_paper_world_rock_water, ⟨by omega, by omega⟩, h_f_h0_paper_world_crew_cell, h_f_h0_paper_world_crew_buckets, ⟨by omega, by omega⟩, ⟨by omega, by omega⟩, ⟨by omega, by omega⟩, ⟨by omega, by omega⟩, h_f_h0_paper_world_folk_column, h_f_h0_paper_world_folk_ear, h_f_h0_paper_world_folk_noiseColumn, h_f_h0_paper_world_folk_noiseLoud, h_f_h0_paper_world_folk_hearsayColumn, h_f_h0_paper_world_folk_hearsayLoud, h_f_h0_paper_world_term, ⟨by omega, by omega⟩, ⟨by omega, by omega⟩, ⟨by omega, by omega⟩, ⟨by omega, by omega⟩, h_f_h0_drawnCrew_cell, h_f_h0_drawnCrew_buckets⟩
    · refine br0 c4 ?_
      have d6 := nle_z (a := 1000001) (b := a) (x := 1000001) (y := (Int32.toInt a)) rfl rfl c4
      refine br0 (by decide) ?_
      by_cases c7 : b < 1
      · refine br1 c7 ?_
        have d8 := lt_z (a := b) (b := 1) (x := (Int32.toInt b)) (y := 1) rfl rfl c7
        refine o_X11_settle _ _ _ ?_
        refine jn_s ?_
        refine br0 (by decide) ?_
        refine br0 (by decide) ?_
        refine br0 (by decide) ?_
        refine ⟨by unfold vp_in; decide, ?_⟩
        refine ⟨by unfold vp_in; decide, ?_⟩
        refine un2_i ?_
        exact hq _ _ _ _ _ _ _ _ _ _ _ _ _ _ _ _ _ _ _ _ _ _ _ _ _ _ _ _ _ _ _ _ _ _ _ _ _ _ _ _ _ _ _ ⟨⟨by omega, by omega⟩, ⟨by omega, by omega⟩, h_f_h0_paper_world_rock_kind, h_f_h0_paper_world_rock_hard, h_f_h0_paper_world_rock_water, ⟨by omega, by omega⟩, h_f_h0_paper_world_crew_cell, h_f_h0_paper_world_crew_buckets, ⟨by omega, by omega⟩, ⟨by omega, by omega⟩, ⟨by omega, by omega⟩, ⟨by omega, by omega⟩, h_f_h0_paper_world_folk_column, h_f_h0_paper_world_folk_ear, h_f_h0_paper_world_folk_noiseColumn, h_f_h0_paper_world_folk_noiseLoud, h_f_h0_paper_world_folk_hearsayColumn, h_f_h0_paper_world_folk_hearsayLoud, h_f_h0_paper_world_term, ⟨by omega, by omega⟩, ⟨by omega, by omega⟩, ⟨by omega, by omega⟩, ⟨by omega, by omega⟩, h_f_h0_drawnCrew_cell, h_f_h0_drawnCrew_buckets⟩
      · refine br0 c7 ?_
        have d9 := nlt_z (a := b) (b := 1) (x := (Int32.toInt b)) (y := 1) rfl rfl c7
        by_cases c10 : b ≤ 60
        · refine br1 c10 ?_
          have d11 := le_z (a := b) (b := 60) (x := (Int32.toInt b)) (y := 60) rfl rfl c10
          by_cases c12 : h0_site_world_crew_count = 0
          · refine br1 c12 ?_
            have d13 := eq_z (a := h0_site_world_crew_count) (b := 0) (x := (Int32.toInt h0_site_world_crew_count)) (y := 0) rfl rfl c12
            refine o_X11_settle _ _ _ ?_
            refine jn_s ?_
            refine br0 (by decide) ?_
            refine br0 (by decide) ?_
            refine br0 (by decide) ?_
            refine ⟨by unfold vp_in; decide, ?_⟩
            refine ⟨by unfold vp_in; decide, ?_⟩
            refine un2_i ?_
            exact hq _ _ _ _ _ _ _ _ _ _ _ _ _ _ _ _ _ _ _ _ _ _ _ _ _ _ _ _ _ _ _ _ _ _ _ _ _ _ _ _ _ _ _ ⟨⟨by omega, by omega⟩, ⟨by omega, by omega⟩, h_f_h0_paper_world_rock_kind, h_f_h0_paper_world_rock_hard, h_f_h0_paper_world_rock_water, ⟨by omega, by omega⟩, h_f_h0_paper_world_crew_cell, h_f_h0_paper_world_crew_buckets, ⟨by omega, by omega⟩, ⟨by omega, by omega⟩, ⟨by omega, by omega⟩, ⟨by omega, by omega⟩, h_f_h0_paper_world_folk_column, h_f_h0_paper_world_folk_ear, h_f_h0_paper_world_folk_noiseColumn, h_f_h0_paper_world_folk_noiseLoud, h_f_h0_paper_world_folk_hearsayColumn, h_f_h0_paper_world_folk_hearsayLoud, h_f_h0_paper_world_term, ⟨by omega, by omega⟩, ⟨by omega, by omega⟩, ⟨by omega, by omega⟩, ⟨by omega, by omega⟩, h_f_h0_drawnCrew_cell, h_f_h0_drawnCrew_buckets⟩
          · refine br0 c12 ?_
            have d14 := ne_z (a := h0_site_world_crew_count) (b := 0) (x := (Int32.toInt h0_site_world_crew_count)) (y := 0) rfl rfl c12
            refine s_X7_copyFrom h0_site_world_lawCount h0_site_world_force h0_site_world_rock_dug (f_h0_site_world_rock_kind) (f_h0_paper_world_rock_kind) (f_h0_site_world_rock_hard) (f_h0_paper_world_rock_hard) (f_h0_site_world_rock_water) (f_h0_paper_world_rock_water) h0_site_world_crew_count (f_h0_site_world_crew_cell) (f_h0_paper_world_crew_cell) (f_h0_site_world_crew_buckets) (f_h0_paper_world_crew_buckets) h0_site_world_folk_listeners h0_site_world_folk_noises h0_site_world_folk_hushed h0_site_world_folk_hearsay h0_site_world_folk_wells (f_h0_site_world_folk_column) (f_h0_paper_world_folk_column) (f_h0_site_world_folk_ear) (f_h0_paper_world_folk_ear) (f_h0_site_world_folk_noiseColumn) (f_h0_paper_world_folk_noiseColumn) (f_h0_site_world_folk_noiseLoud) (f_h0_paper_world_folk_noiseLoud) (f_h0_site_world_folk_hearsayColumn) (f_h0_paper_world_folk_hearsayColumn) (f_h0_site_world_folk_hearsayLoud) (f_h0_paper_world_folk_hearsayLoud) (f_h0_site_world_folk_sounds) (f_h0_paper_world_folk_sounds) (f_h0_site_world_folk_wet) (f_h0_paper_world_folk_wet) (f_h0_paper_world_term) (f_h0_site_world_term) (f_h0_site_world_laws) (f_h0_paper_world_laws) h0_site_diary_kept h0_site_diary_latest (f_h0_site_diary_deed) (f_h0_paper_diary_deed) (f_h0_site_diary_whose) (f_h0_paper_diary_whose) (f_h0_site_diary_before) (f_h0_paper_diary_before) (f_h0_site_diary_bucketsBefore) (f_h0_paper_diary_bucketsBefore) (f_h0_site_diary_dayBefore) (f_h0_paper_diary_dayBefore) TT ⟨by omega, by omega⟩ ⟨by omega, by omega⟩ h_f_h0_site_world_rock_kind h_f_h0_paper_world_rock_kind h_f_h0_site_world_rock_hard h_f_h0_paper_world_rock_hard h_f_h0_site_world_rock_water h_f_h0_paper_world_rock_water ⟨by omega, by omega⟩ h_f_h0_site_world_crew_cell h_f_h0_paper_world_crew_cell h_f_h0_site_world_crew_buckets h_f_h0_paper_world_crew_buckets ⟨by omega, by omega⟩ ⟨by omega, by omega⟩ ⟨by omega, by omega⟩ ⟨by omega, by omega⟩ h_f_h0_site_world_folk_column h_f_h0_paper_world_folk_column h_f_h0_site_world_folk_ear h_f_h0_paper_world_folk_ear h_f_h0_site_world_folk_noiseColumn h_f_h0_paper_world_folk_noiseColumn h_f_h0_site_world_folk_noiseLoud h_f_h0_paper_world_folk_noiseLoud h_f_h0_site_world_folk_hearsayColumn h_f_h0_paper_world_folk_hearsayColumn h_f_h0_site_world_folk_hearsayLoud h_f_h0_paper_world_folk_hearsayLoud h_f_h0_paper_world_term h_f_h0_site_world_term ⟨by omega, by omega⟩ ⟨by omega, by omega⟩ e_0 e_1 (fun u15_0 u15_1 u15_2 u15_3 u15_4 u15_5 u15_6 u15_7 u15_8 u15_9 u15_10 u15_11 u15_12 u15_13 u15_14 u15_15 u15_16 u15_17 u15_18 u15_19 u15_20 u15_21 u15_22 u15_23 u15_24 u15_25 u15_26 u15_27 u15_28 u15_29 u15_30 H16 => ?_)
            have j17 := H16.1
            have j18 := H16.2.1
            have j19 := H16.2.2.1
            have j20 := H16.2.2.2.1
            have j21 := H16.2.2.2.2.1
            have j22 := H16.2.2.2.2.2.1
            have j23 := H16.2.2.2.2.2.2.1
            have j24 := H16.2.2.2.2.2.2.2.1
            have j25 := H16.2.2.2.2.2.2.2.2.1
            have j26 := H16.2.2.2.2.2.2.2.2.2.1
            have j27 := H16.2.2.2.2.2.2.2.2.2.2.1
            have j28 := H16.2.2.2.2.2.2.2.2.2.2.2.1
            have j29 := H16.2.2.2.2.2.2.2.2.2.2.2.2.1
            have j30 := H16.2.2.2.2.2.2.2.2.2.2.2.2.2.1
            have j31 := H16.2.2.2.2.2.2.2.2.2.2.2.2.2.2.1
            have j32 := H16.2.2.2.2.2.2.2.2.2.2.2.2.2.2.2.1
            have j33 := H16.2.2.2.2.2.2.2.2.2.2.2.2.2.2.2.2.1
            have j34 := H16.2.2.2.2.2.2.2.2.2.2.2.2.2.2.2.2.2.1
            have j35 := H16.2.2.2.2.2.2.2.2.2.2.2.2.2.2.2.2.2.2.1
            have j36 := H16.2.2.2.2.2.2.2.2.2.2.2.2.2.2.2.2.2.2.2.1
            have j37 := H16.2.2.2.2.2.2.2.2.2.2.2.2.2.2.2.2.2.2.2.2.1
            have j38 := H16.2.2.2.2.2.2.2.2.2.2.2.2.2.2.2.2.2.2.2.2.2.1
            have j39 := H16.2.2.2.2.2.2.2.2.2.2.2.2.2.2.2.2.2.2.2.2.2.2.1
            have j40 := H16.2.2.2.2.2.2.2.2.2.2.2.2.2.2.2.2.2.2.2.2.2.2.2.1
            have j41 := H16.2.2.2.2.2.2.2.2.2.2.2.2.2.2.2.2.2.2.2.2.2.2.2.2
            refine un31_i ?_
            have zu15_1 : (u15_1).toInt = (h0_site_world_force).toInt := congrArg Int32.toInt j40
            have zu15_0 : (u15_0).toInt = (h0_site_world_lawCount).toInt := congrArg Int32.toInt j39
            have lw42 := fun k hk v (hv : u15_23 k = some v) => e_0 k hk v ((j38 k hk).symm.trans hv)
            refine s_X7_runSeasons_N a b h0_paper_world u15_0 u15_1 u15_6 (u15_7) (u15_22) u15_2 (u15_3) (u15_23) h0_asker_world h0_asker_law h0_asker_cell h0_asker_shaft h0_asker_kind (u15_5) (u15_8) u15_24 u15_25 (u15_26) (u15_27) (u15_28) (u15_29) (u15_30) (u15_4) ⟨by omega, by omega⟩ ⟨by omega, by omega⟩ ⟨by omega, by omega⟩ ⟨by omega, by omega⟩ ⟨by omega, by omega⟩ j23 j35 j19 ⟨by omega, by omega⟩ j21 j24 ⟨by omega, by omega⟩ ⟨by omega, by omega⟩ j20 j41 (fun u43_0 u43_1 u43_2 u43_3 u43_4 u43_5 u43_6 u43_7 u43_8 u43_9 u43_10 u43_11 u43_12 u43_13 u43_14 u43_15 u43_16 H44 => ?_)
            have j45 := H44.1
            have j46 := H44.2.1
            have j47 := H44.2.2.1
            have j48 := H44.2.2.2.1
            have j49 := H44.2.2.2.2.1
            have j50 := H44.2.2.2.2.2.1
            have j51 := H44.2.2.2.2.2.2.1
            have j52 := H44.2.2.2.2.2.2.2
            refine un17_i ?_
            refine s_X1_copyFrom u15_6 (u43_0) (f_h0_drawnCrew_cell) (u43_9) (f_h0_drawnCrew_buckets) ⟨by omega, by omega⟩ j45 h_f_h0_drawnCrew_cell j49 h_f_h0_drawnCrew_buckets (fun u53_0 u53_1 u53_2 H54 => ?_)
            have j55 := H54.1
            have j56 := H54.2.1
            have j57 := H54.2.2
            refine un3_i ?_
            refine s_X1_allBucketsr u53_0 (u53_2) ⟨by omega, by omega⟩ j57 (fun r58 H59 => ?_)
            have j60 := H59
            refine s_X1_allBucketsr h0_site_world_crew_count (f_h0_site_world_crew_buckets) ⟨by omega, by omega⟩ h_f_h0_site_world_crew_buckets (fun r61 H62 => ?_)
            have j63 := H62
            refine o_X11_settle _ _ _ ?_
            refine jn_s ?_
            by_cases c64 : 0 ≤ (r58 - r61)
            · refine br1 c64 ?_
              have t65 : (Int32.toInt (r58 - r61)) = (Int32.toInt r58) - (Int32.toInt r61) := sub_z rfl rfl (by omega) (by omega)
              have d66 := le_z (a := 0) (b := (r58 - r61)) (x := 0) (y := (Int32.toInt (r58 - r61))) rfl rfl c64
              refine br1 (z_le (x := 0) (y := (Int32.toInt (r58 - r61))) rfl rfl (by omega)) ?_
              refine un2_i ?_
              have g67 : 0 ≤ (Int32.toInt (u43_1 (0 : Int32).toNatClampNeg)) ∧ (Int32.toInt (u43_1 (0 : Int32).toNatClampNeg)) ≤ 9999 := TE.at_0 j46 (rfl : ((0 : Nat) : Int) = 0) (by omega) (by omega)
              exact hq _ _ _ _ _ _ _ _ _ _ _ _ _ _ _ _ _ _ _ _ _ _ _ _ _ _ _ _ _ _ _ _ _ _ _ _ _ _ _ _ _ _ _ ⟨⟨by omega, by omega⟩, ⟨by omega, by omega⟩, j19, j20, j48, ⟨by omega, by omega⟩, j45, j49, ⟨by omega, by omega⟩, ⟨by omega, by omega⟩, ⟨by omega, by omega⟩, ⟨by omega, by omega⟩, j29, j30, j31, j32, j33, j34, j46, ⟨by omega, by omega⟩, ⟨by omega, by omega⟩, ⟨by omega, by omega⟩, ⟨by omega, by omega⟩, j56, j57⟩
            · refine br0 c64 ?_
              have t68 : (Int32.toInt (r58 - r61)) = (Int32.toInt r58) - (Int32.toInt r61) := sub_z rfl rfl (by omega) (by omega)
              have d69 := nle_z (a := 0) (b := (r58 - r61)) (x := 0) (y := (Int32.toInt (r58 - r61))) rfl rfl c64
              refine br0 (z_nle (x := 0) (y := (Int32.toInt (r58 - r61))) rfl rfl (by omega)) ?_
              by_cases c70 : 7 ≤ (-(r58 - r61))
              · refine br1 c70 ?_
                have t71 : (Int32.toInt (-(r58 - r61))) = - (Int32.toInt (r58 - r61)) := neg_z rfl (by omega) (by omega)
                have d72 := le_z (a := 7) (b := (-(r58 - r61))) (x := 7) (y := (Int32.toInt (-(r58 - r61)))) rfl rfl c70
                refine un2_i ?_
                have g73 : 0 ≤ (Int32.toInt (u43_1 (0 : Int32).toNatClampNeg)) ∧ (Int32.toInt (u43_1 (0 : Int32).toNatClampNeg)) ≤ 9999 := TE.at_0 j46 (rfl : ((0 : Nat) : Int) = 0) (by omega) (by omega)
                exact hq _ _ _ _ _ _ _ _ _ _ _ _ _ _ _ _ _ _ _ _ _ _ _ _ _ _ _ _ _ _ _ _ _ _ _ _ _ _ _ _ _ _ _ ⟨⟨by omega, by omega⟩, ⟨by omega, by omega⟩, j19, j20, j48, ⟨by omega, by omega⟩, j45, j49, ⟨by omega, by omega⟩, ⟨by omega, by omega⟩, ⟨by omega, by omega⟩, ⟨by omega, by omega⟩, j29, j30, j31, j32, j33, j34, j46, ⟨by omega, by omega⟩, ⟨by omega, by omega⟩, ⟨by omega, by omega⟩, ⟨by omega, by omega⟩, j56, j57⟩
              · refine br0 c70 ?_
                have t74 : (Int32.toInt (-(r58 - r61))) = - (Int32.toInt (r58 - r61)) := neg_z rfl (by omega) (by omega)
                have d75 := nle_z (a := 7) (b := (-(r58 - r61))) (x := 7) (y := (Int32.toInt (-(r58 - r61)))) rfl rfl c70
                refine ⟨vpi (x := (Int32.toInt (-(r58 - r61)))) rfl (by omega) (by omega), ?_⟩
                refine ⟨vpi (x := (Int32.toInt (-(r58 - r61)))) rfl (by omega) (by omega), ?_⟩
                refine un2_i ?_
                have g76 : 0 ≤ (Int32.toInt (u43_1 (0 : Int32).toNatClampNeg)) ∧ (Int32.toInt (u43_1 (0 : Int32).toNatClampNeg)) ≤ 9999 := TE.at_0 j46 (rfl : ((0 : Nat) : Int) = 0) (by omega) (by omega)
                exact hq _ _ _ _ _ _ _ _ _ _ _ _ _ _ _ _ _ _ _ _ _ _ _ _ _ _ _ _ _ _ _ _ _ _ _ _ _ _ _ _ _ _ _ ⟨⟨by omega, by omega⟩, ⟨by omega, by omega⟩, j19, j20, j48, ⟨by omega, by omega⟩, j45, j49, ⟨by omega, by omega⟩, ⟨by omega, by omega⟩, ⟨by omega, by omega⟩, ⟨by omega, by omega⟩, j29, j30, j31, j32, j33, j34, j46, ⟨by omega, by omega⟩, ⟨by omega, by omega⟩, ⟨by omega, by omega⟩, ⟨by omega, by omega⟩, j56, j57⟩
        · refine br0 c10 ?_
          have d77 := nle_z (a := b) (b := 60) (x := (Int32.toInt b)) (y := 60) rfl rfl c10
          refine o_X11_settle _ _ _ ?_
          refine jn_s ?_
          refine br0 (by decide) ?_
          refine br0 (by decide) ?_
          refine br0 (by decide) ?_
          refine ⟨by unfold vp_in; decide, ?_⟩
          refine ⟨by unfold vp_in; decide, ?_⟩
          refine un2_i ?_
          exact hq _ _ _ _ _ _ _ _ _ _ _ _ _ _ _ _ _ _ _ _ _ _ _ _ _ _ _ _ _ _ _ _ _ _ _ _ _ _ _ _ _ _ _ ⟨⟨by omega, by omega⟩, ⟨by omega, by omega⟩, h_f_h0_paper_world_rock_kind, h_f_h0_paper_world_rock_hard, h_f_h0_paper_world_rock_water, ⟨by omega, by omega⟩, h_f_h0_paper_world_crew_cell, h_f_h0_paper_world_crew_buckets, ⟨by omega, by omega⟩, ⟨by omega, by omega⟩, ⟨by omega, by omega⟩, ⟨by omega, by omega⟩, h_f_h0_paper_world_folk_column, h_f_h0_paper_world_folk_ear, h_f_h0_paper_world_folk_noiseColumn, h_f_h0_paper_world_folk_noiseLoud, h_f_h0_paper_world_folk_hearsayColumn, h_f_h0_paper_world_folk_hearsayLoud, h_f_h0_paper_world_term, ⟨by omega, by omega⟩, ⟨by omega, by omega⟩, ⟨by omega, by omega⟩, ⟨by omega, by omega⟩, h_f_h0_drawnCrew_cell, h_f_h0_drawnCrew_buckets⟩
set_option maxRecDepth 100000 in
theorem s_X11_seasons_T (a : Int32) (b : Int32) (h0_drawnDay : Int32) (f_h0_refusals : Nat → Int32) (h0_site_world_lawCount : Int32) (h0_site_world_force : Int32) (h0_site_world_crew_count : Int32) (h0_paper_world : Nat) (h0_paper_world_lawCount : Int32) (h0_paper_world_force : Int32) (h0_paper_world_rock_dug : Int64) (h0_site_world_rock_dug : Int64) (f_h0_site_world_rock_kind : Nat → Int32) (f_h0_paper_world_rock_kind : Nat → Int32) (f_h0_site_world_rock_hard : Nat → Int32) (f_h0_paper_world_rock_hard : Nat → Int32) (f_h0_site_world_rock_water : Nat → Int32) (f_h0_paper_world_rock_water : Nat → Int32) (h0_paper_world_crew_count : Int32) (f_h0_site_world_crew_cell : Nat → Int32) (f_h0_paper_world_crew_cell : Nat → Int32) (f_h0_site_world_crew_buckets : Nat → Int32) (f_h0_paper_world_crew_buckets : Nat → Int32) (h0_paper_world_folk_listeners : Int32) (h0_paper_world_folk_noises : Int32) (h0_paper_world_folk_hushed : Int32) (h0_paper_world_folk_hearsay : Int32) (h0_paper_world_folk_wells : Int32) (h0_site_world_folk_listeners : Int32) (h0_site_world_folk_noises : Int32) (h0_site_world_folk_hushed : Int32) (h0_site_world_folk_hearsay : Int32) (h0_site_world_folk_wells : Int32) (f_h0_site_world_folk_column : Nat → Int32) (f_h0_paper_world_folk_column : Nat → Int32) (f_h0_site_world_folk_ear : Nat → Int32) (f_h0_paper_world_folk_ear : Nat → Int32) (f_h0_site_world_folk_noiseColumn : Nat → Int32) (f_h0_paper_world_folk_noiseColumn : Nat → Int32) (f_h0_site_world_folk_noiseLoud : Nat → Int32) (f_h0_paper_world_folk_noiseLoud : Nat → Int32) (f_h0_site_world_folk_hearsayColumn : Nat → Int32) (f_h0_paper_world_folk_hearsayColumn : Nat → Int32) (f_h0_site_world_folk_hearsayLoud : Nat → Int32) (f_h0_paper_world_folk_hearsayLoud : Nat → Int32) (f_h0_site_world_folk_sounds : Nat → Int32) (f_h0_paper_world_folk_sounds : Nat → Int32) (f_h0_site_world_folk_wet : Nat → Int32) (f_h0_paper_world_folk_wet : Nat → Int32) (f_h0_paper_world_term : Nat → Int32) (f_h0_site_world_term : Nat → Int32) (f_h0_site_world_laws : Nat → Option Nat) (f_h0_paper_world_laws : Nat → Option Nat) (h0_paper_diary_kept : Int32) (h0_paper_diary_latest : Int32) (h0_site_diary_kept : Int32) (h0_site_diary_latest : Int32) (f_h0_site_diary_deed : Nat → Int32) (f_h0_paper_diary_deed : Nat → Int32) (f_h0_site_diary_whose : Nat → Int32) (f_h0_paper_diary_whose : Nat → Int32) (f_h0_site_diary_before : Nat → Int32) (f_h0_paper_diary_before : Nat → Int32) (f_h0_site_diary_bucketsBefore : Nat → Int32) (f_h0_paper_diary_bucketsBefore : Nat → Int32) (f_h0_site_diary_dayBefore : Nat → Int32) (f_h0_paper_diary_dayBefore : Nat → Int32) (h0_asker_world : Value) (h0_asker_law : Value) (h0_asker_cell : Int32) (h0_asker_shaft : Int32) (h0_asker_kind : Int32) (h0_asker_done : Int32) (h0_asker_latest : Int32) (h0_asker_value : Int32) (t : Nat) (t_clauses : Int32) (t_length : Int32) (n_t_heads : Nat) (f_t_heads : Nat → Int32) (n_t_code : Nat) (f_t_code : Nat → Int32) (f_h0_asker_stack : Nat → Int64) (h0_drawnCrew_count : Int32) (f_h0_drawnCrew_cell : Nat → Int32) (f_h0_drawnCrew_buckets : Nat → Int32) (TT : Nat → Prop) (h_h0_site_world_lawCount : 0 ≤ h0_site_world_lawCount.toInt ∧ h0_site_world_lawCount.toInt ≤ 6) (h_h0_site_world_force : 0 ≤ h0_site_world_force.toInt ∧ h0_site_world_force.toInt ≤ 5) (h_h0_site_world_crew_count : 0 ≤ h0_site_world_crew_count.toInt ∧ h0_site_world_crew_count.toInt ≤ 6) (h_h0_paper_world_lawCount : 0 ≤ h0_paper_world_lawCount.toInt ∧ h0_paper_world_lawCount.toInt ≤ 6) (h_h0_paper_world_force : (-1) ≤ h0_paper_world_force.toInt ∧ h0_paper_world_force.toInt ≤ 5) (h_f_h0_site_world_rock_kind : KI f_h0_site_world_rock_kind) (h_f_h0_paper_world_rock_kind : KI f_h0_paper_world_rock_kind) (h_f_h0_site_world_rock_hard : HA f_h0_site_world_rock_hard) (h_f_h0_paper_world_rock_hard : HA f_h0_paper_world_rock_hard) (h_f_h0_site_world_rock_water : WA f_h0_site_world_rock_water) (h_f_h0_paper_world_rock_water : WA f_h0_paper_world_rock_water) (h_h0_paper_world_crew_count : 0 ≤ h0_paper_world_crew_count.toInt ∧ h0_paper_world_crew_count.toInt ≤ 6) (h_f_h0_site_world_crew_cell : CE f_h0_site_world_crew_cell) (h_f_h0_paper_world_crew_cell : CE f_h0_paper_world_crew_cell) (h_f_h0_site_world_crew_buckets : BU f_h0_site_world_crew_buckets) (h_f_h0_paper_world_crew_buckets : BU f_h0_paper_world_crew_buckets) (h_h0_paper_world_folk_listeners : 0 ≤ h0_paper_world_folk_listeners.toInt ∧ h0_paper_world_folk_listeners.toInt ≤ 5) (h_h0_paper_world_folk_noises : 0 ≤ h0_paper_world_folk_noises.toInt ∧ h0_paper_world_folk_noises.toInt ≤ 6) (h_h0_paper_world_folk_hearsay : 0 ≤ h0_paper_world_folk_hearsay.toInt ∧ h0_paper_world_folk_hearsay.toInt ≤ 8) (h_h0_paper_world_folk_wells : 0 ≤ h0_paper_world_folk_wells.toInt ∧ h0_paper_world_folk_wells.toInt ≤ 10) (h_h0_site_world_folk_listeners : 0 ≤ h0_site_world_folk_listeners.toInt ∧ h0_site_world_folk_listeners.toInt ≤ 5) (h_h0_site_world_folk_noises : 0 ≤ h0_site_world_folk_noises.toInt ∧ h0_site_world_folk_noises.toInt ≤ 6) (h_h0_site_world_folk_hearsay : 0 ≤ h0_site_world_folk_hearsay.toInt ∧ h0_site_world_folk_hearsay.toInt ≤ 8) (h_h0_site_world_folk_wells : 0 ≤ h0_site_world_folk_wells.toInt ∧ h0_site_world_folk_wells.toInt ≤ 10) (h_f_h0_site_world_folk_column : CO f_h0_site_world_folk_column) (h_f_h0_paper_world_folk_column : CO f_h0_paper_world_folk_column) (h_f_h0_site_world_folk_ear : EA f_h0_site_world_folk_ear) (h_f_h0_paper_world_folk_ear : EA f_h0_paper_world_folk_ear) (h_f_h0_site_world_folk_noiseColumn : NC f_h0_site_world_folk_noiseColumn) (h_f_h0_paper_world_folk_noiseColumn : NC f_h0_paper_world_folk_noiseColumn) (h_f_h0_site_world_folk_noiseLoud : NL f_h0_site_world_folk_noiseLoud) (h_f_h0_paper_world_folk_noiseLoud : NL f_h0_paper_world_folk_noiseLoud) (h_f_h0_site_world_folk_hearsayColumn : HC f_h0_site_world_folk_hearsayColumn) (h_f_h0_paper_world_folk_hearsayColumn : HC f_h0_paper_world_folk_hearsayColumn) (h_f_h0_site_world_folk_hearsayLoud : HL f_h0_site_world_folk_hearsayLoud) (h_f_h0_paper_world_folk_hearsayLoud : HL f_h0_paper_world_folk_hearsayLoud) (h_f_h0_paper_world_term : TE f_h0_paper_world_term) (h_f_h0_site_world_term : TE f_h0_site_world_term) (h_h0_paper_diary_kept : 0 ≤ h0_paper_diary_kept.toInt ∧ h0_paper_diary_kept.toInt ≤ 16) (h_h0_paper_diary_latest : 0 ≤ h0_paper_diary_latest.toInt ∧ h0_paper_diary_latest.toInt ≤ 15) (h_h0_site_diary_kept : 0 ≤ h0_site_diary_kept.toInt ∧ h0_site_diary_kept.toInt ≤ 16) (h_h0_site_diary_latest : 0 ≤ h0_site_diary_latest.toInt ∧ h0_site_diary_latest.toInt ≤ 15) (h_h0_asker_cell : 0 ≤ h0_asker_cell.toInt ∧ h0_asker_cell.toInt ≤ 39) (h_t_clauses : 0 ≤ t_clauses.toInt ∧ t_clauses.toInt ≤ 12) (h_t_length : 0 ≤ t_length.toInt ∧ t_length.toInt ≤ 400) (h_f_t_code : CD f_t_code) (h_h0_drawnCrew_count : 0 ≤ h0_drawnCrew_count.toInt ∧ h0_drawnCrew_count.toInt ≤ 6) (h_f_h0_drawnCrew_cell : CE f_h0_drawnCrew_cell) (h_f_h0_drawnCrew_buckets : BU f_h0_drawnCrew_buckets) (e_0 : ∀ k, k < 6 → ∀ v, f_h0_site_world_laws k = some v → TT v ∨ v = t) (e_1 : DI f_h0_site_diary_deed f_h0_site_diary_whose f_h0_site_diary_before f_h0_site_diary_bucketsBefore f_h0_site_diary_dayBefore) (e_2 : t_length.toInt ≤ (n_t_code : Int)) (e_3 : n_t_heads < 100000) (e_4 : h0_site_world_force.toInt < h0_site_world_lawCount.toInt) (e_5 : f_h0_site_world_laws (Int32.toNatClampNeg h0_site_world_force) = some t) {Q : Int32 → (Int32 × Int32 × (Nat → Int32) × Int32 × Int32 × Int64 × (Nat → Int32) × (Nat → Int32) × (Nat → Int32) × Int32 × (Nat → Int32) × (Nat → Int32) × Int32 × Int32 × Int32 × Int32 × Int32 × (Nat → Int32) × (Nat → Int32) × (Nat → Int32) × (Nat → Int32) × (Nat → Int32) × (Nat → Int32) × (Nat → Int32) × (Nat → Int32) × (Nat → Int32) × (Nat → Option Nat) × Int32 × Int32 × (Nat → Int32) × (Nat → Int32) × (Nat → Int32) × (Nat → Int32) × (Nat → Int32) × Value × Value × Int32 × Int32 × Int32 × Int32 × (Nat → Int64) × Int32 × (Nat → Int32) × (Nat → Int32)) → Prop} (hq : ∀ (r : Int32) (u_0 : Int32) (u_1 : Int32) (u_2 : Nat → Int32) (u_3 : Int32) (u_4 : Int32) (u_5 : Int64) (u_6 : Nat → Int32) (u_7 : Nat → Int32) (u_8 : Nat → Int32) (u_9 : Int32) (u_10 : Nat → Int32) (u_11 : Nat → Int32) (u_12 : Int32) (u_13 : Int32) (u_14 : Int32) (u_15 : Int32) (u_16 : Int32) (u_17 : Nat → Int32) (u_18 : Nat → Int32) (u_19 : Nat → Int32) (u_20 : Nat → Int32) (u_21 : Nat → Int32) (u_22 : Nat → Int32) (u_23 : Nat → Int32) (u_24 : Nat → Int32) (u_25 : Nat → Int32) (u_26 : Nat → Option Nat) (u_27 : Int32) (u_28 : Int32) (u_29 : Nat → Int32) (u_30 : Nat → Int32) (u_31 : Nat → Int32) (u_32 : Nat → Int32) (u_33 : Nat → Int32) (u_34 : Value) (u_35 : Value) (u_36 : Int32) (u_37 : Int32) (u_38 : Int32) (u_39 : Int32) (u_40 : Nat → Int64) (u_41 : Int32) (u_42 : Nat → Int32) (u_43 : Nat → Int32), (0 ≤ u_3.toInt ∧ u_3.toInt ≤ 6) ∧ ((-1) ≤ u_4.toInt ∧ u_4.toInt ≤ 5) ∧ (KI u_6) ∧ (HA u_7) ∧ (WA u_8) ∧ (0 ≤ u_9.toInt ∧ u_9.toInt ≤ 6) ∧ (CE u_10) ∧ (BU u_11) ∧ (0 ≤ u_12.toInt ∧ u_12.toInt ≤ 5) ∧ (0 ≤ u_13.toInt ∧ u_13.toInt ≤ 6) ∧ (0 ≤ u_15.toInt ∧ u_15.toInt ≤ 8) ∧ (0 ≤ u_16.toInt ∧ u_16.toInt ≤ 10) ∧ (CO u_17) ∧ (EA u_18) ∧ (NC u_19) ∧ (NL u_20) ∧ (HC u_21) ∧ (HL u_22) ∧ (TE u_25) ∧ (0 ≤ u_27.toInt ∧ u_27.toInt ≤ 16) ∧ (0 ≤ u_28.toInt ∧ u_28.toInt ≤ 15) ∧ (0 ≤ u_36.toInt ∧ u_36.toInt ≤ 39) ∧ (0 ≤ u_41.toInt ∧ u_41.toInt ≤ 6) ∧ (CE u_42) ∧ (BU u_43) → Q r (u_0, u_1, u_2, u_3, u_4, u_5, u_6, u_7, u_8, u_9, u_10, u_11, u_12, u_13, u_14, u_15, u_16, u_17, u_18, u_19, u_20, u_21, u_22, u_23, u_24, u_25, u_26, u_27, u_28, u_29, u_30, u_31, u_32, u_33, u_34, u_35, u_36, u_37, u_38, u_39, u_40, u_41, u_42, u_43)) : wp_X11_seasons_T a b h0_drawnDay f_h0_refusals h0_site_world_lawCount h0_site_world_force h0_site_world_crew_count h0_paper_world h0_paper_world_lawCount h0_paper_world_force h0_paper_world_rock_dug h0_site_world_rock_dug f_h0_site_world_rock_kind f_h0_paper_world_rock_kind f_h0_site_world_rock_hard f_h0_paper_world_rock_hard f_h0_site_world_rock_water f_h0_paper_world_rock_water h0_paper_world_crew_count f_h0_site_world_crew_cell f_h0_paper_world_crew_cell f_h0_site_world_crew_buckets f_h0_paper_world_crew_buckets h0_paper_world_folk_listeners h0_paper_world_folk_noises h0_paper_world_folk_hushed h0_paper_world_folk_hearsay h0_paper_world_folk_wells h0_site_world_folk_listeners h0_site_world_folk_noises h0_site_world_folk_hushed h0_site_world_folk_hearsay h0_site_world_folk_wells f_h0_site_world_folk_column f_h0_paper_world_folk_column f_h0_site_world_folk_ear f_h0_paper_world_folk_ear f_h0_site_world_folk_noiseColumn f_h0_paper_world_folk_noiseColumn f_h0_site_world_folk_noiseLoud f_h0_paper_world_folk_noiseLoud f_h0_site_world_folk_hearsayColumn f_h0_paper_world_folk_hearsayColumn f_h0_site_world_folk_hearsayLoud f_h0_paper_world_folk_hearsayLoud f_h0_site_world_folk_sounds f_h0_paper_world_folk_sounds f_h0_site_world_folk_wet f_h0_paper_world_folk_wet f_h0_paper_world_term f_h0_site_world_term f_h0_site_world_laws f_h0_paper_world_laws h0_paper_diary_kept h0_paper_diary_latest h0_site_diary_kept h0_site_diary_latest f_h0_site_diary_deed f_h0_paper_diary_deed f_h0_site_diary_whose f_h0_paper_diary_whose f_h0_site_diary_before f_h0_paper_diary_before f_h0_site_diary_bucketsBefore f_h0_paper_diary_bucketsBefore f_h0_site_diary_dayBefore f_h0_paper_diary_dayBefore h0_asker_world h0_asker_law h0_asker_cell h0_asker_shaft h0_asker_kind h0_asker_done h0_asker_latest h0_asker_value t t_clauses t_length n_t_heads f_t_heads n_t_code f_t_code f_h0_asker_stack h0_drawnCrew_count f_h0_drawnCrew_cell f_h0_drawnCrew_buckets TT Q := by
  unfold wp_X11_seasons_T
  refine o_X11_isWithin _ _ _ ?_
  by_cases c1 : a < 0
  · refine br1 c1 ?_
    have d2 := lt_z (a := a) (b := 0) (x := (Int32.toInt a)) (y := 0) rfl rfl c1
    refine br1 (by decide) ?_
    refine o_X11_settle _ _ _ ?_
    refine jn_s ?_
    refine br0 (by decide) ?_
    refine br0 (by decide) ?_
    refine br0 (by decide) ?_
    refine ⟨by unfold vp_in; decide, ?_⟩
    refine ⟨by unfold vp_in; decide, ?_⟩
    refine un2_i ?_
    exact hq _ _ _ _ _ _ _ _ _ _ _ _ _ _ _ _ _ _ _ _ _ _ _ _ _ _ _ _ _ _ _ _ _ _ _ _ _ _ _ _ _ _ _ _ _ ⟨⟨by omega, by omega⟩, ⟨by omega, by omega⟩, h_f_h0_paper_world_rock_kind, h_f_h0_paper_world_rock_hard, h_f_h0_paper_world_rock_water, ⟨by omega, by omega⟩, h_f_h0_paper_world_crew_cell, h_f_h0_paper_world_crew_buckets, ⟨by omega, by omega⟩, ⟨by omega, by omega⟩, ⟨by omega, by omega⟩, ⟨by omega, by omega⟩, h_f_h0_paper_world_folk_column, h_f_h0_paper_world_folk_ear, h_f_h0_paper_world_folk_noiseColumn, h_f_h0_paper_world_folk_noiseLoud, h_f_h0_paper_world_folk_hearsayColumn, h_f_h0_paper_world_folk_hearsayLoud, h_f_h0_paper_world_term, ⟨by omega, by omega⟩, ⟨by omega, by omega⟩, ⟨by omega, by omega⟩, ⟨by omega, by omega⟩, h_f_h0_drawnCrew_cell, h_f_h0_drawnCrew_buckets⟩
  · refine br0 c1 ?_
    have d3 := nlt_z (a := a) (b := 0) (x := (Int32.toInt a)) (y := 0) rfl rfl c1
    by_cases c4 : 1000001 ≤ a
    · refine br1 c4 ?_
      have d5 := le_z (a := 1000001) (b := a) (x := 1000001) (y := (Int32.toInt a)) rfl rfl c4
      refine br1 (by decide) ?_
      refine o_X11_settle _ _ _ ?_
      refine jn_s ?_
      refine br0 (by decide) ?_
      refine br0 (by decide) ?_
      refine br0 (by decide) ?_
      refine ⟨by unfold vp_in; decide, ?_⟩
      refine ⟨by unfold vp_in; decide, ?_⟩
      refine un2_i ?_
      exact hq _ _ _ _ _ _ _ _ _ _ _ _ _ _ _ _ _ _ _ _ _ _ _ _ _ _ _ _ _ _ _ _ _ _ _ _ _ _ _ _ _ _ _ _ _ ⟨⟨by omega, by omega⟩, ⟨by omega, by omega⟩, h_f_h0_paper_world_rock_kind, h_f_h0_paper_world_rock_hard, h_f_h0_paper_world_rock_water, ⟨by omega, by omega⟩, h_f_h0_paper_world_crew_cell, h_f_h0_paper_world_crew_buckets, ⟨by omega, by omega⟩, ⟨by omega, by omega⟩, ⟨by omega, by omega⟩, ⟨by omega, by omega⟩, h_f_h0_paper_world_folk_column, h_f_h0_paper_world_folk_ear, h_f_h0_paper_world_folk_noiseColumn, h_f_h0_paper_world_folk_noiseLoud, h_f_h0_paper_world_folk_hearsayColumn, h_f_h0_paper_world_folk_hearsayLoud, h_f_h0_paper_world_term, ⟨by omega, by omega⟩, ⟨by omega, by omega⟩, ⟨by omega, by omega⟩, ⟨by omega, by omega⟩, h_f_h0_drawnCrew_cell, h_f_h0_drawnCrew_buckets⟩
    · refine br0 c4 ?_
      have d6 := nle_z (a := 1000001) (b := a) (x := 1000001) (y := (Int32.toInt a)) rfl rfl c4
      refine br0 (by decide) ?_
      by_cases c7 : b < 1
      · refine br1 c7 ?_
        have d8 := lt_z (a := b) (b := 1) (x := (Int32.toInt b)) (y := 1) rfl rfl c7
        refine o_X11_settle _ _ _ ?_
        refine jn_s ?_
        refine br0 (by decide) ?_
        refine br0 (by decide) ?_
        refine br0 (by decide) ?_
        refine ⟨by unfold vp_in; decide, ?_⟩
        refine ⟨by unfold vp_in; decide, ?_⟩
        refine un2_i ?_
        exact hq _ _ _ _ _ _ _ _ _ _ _ _ _ _ _ _ _ _ _ _ _ _ _ _ _ _ _ _ _ _ _ _ _ _ _ _ _ _ _ _ _ _ _ _ _ ⟨⟨by omega, by omega⟩, ⟨by omega, by omega⟩, h_f_h0_paper_world_rock_kind, h_f_h0_paper_world_rock_hard, h_f_h0_paper_world_rock_water, ⟨by omega, by omega⟩, h_f_h0_paper_world_crew_cell, h_f_h0_paper_world_crew_buckets, ⟨by omega, by omega⟩, ⟨by omega, by omega⟩, ⟨by omega, by omega⟩, ⟨by omega, by omega⟩, h_f_h0_paper_world_folk_column, h_f_h0_paper_world_folk_ear, h_f_h0_paper_world_folk_noiseColumn, h_f_h0_paper_world_folk_noiseLoud, h_f_h0_paper_world_folk_hearsayColumn, h_f_h0_paper_world_folk_hearsayLoud, h_f_h0_paper_world_term, ⟨by omega, by omega⟩, ⟨by omega, by omega⟩, ⟨by omega, by omega⟩, ⟨by omega, by omega⟩, h_f_h0_drawnCrew_cell, h_f_h0_drawnCrew_buckets⟩
      · refine br0 c7 ?_
        have d9 := nlt_z (a := b) (b := 1) (x := (Int32.toInt b)) (y := 1) rfl rfl c7
        by_cases c10 : b ≤ 60
        · refine br1 c10 ?_
          have d11 := le_z (a := b) (b := 60) (x := (Int32.toInt b)) (y := 60) rfl rfl c10
          by_cases c12 : h0_site_world_crew_count = 0
          · refine br1 c12 ?_
            have d13 := eq_z (a := h0_site_world_crew_count) (b := 0) (x := (Int32.toInt h0_site_world_crew_count)) (y := 0) rfl rfl c12
            refine o_X11_settle _ _ _ ?_
            refine jn_s ?_
            refine br0 (by decide) ?_
            refine br0 (by decide) ?_
            refine br0 (by decide) ?_
            refine ⟨by unfold vp_in; decide, ?_⟩
            refine ⟨by unfold vp_in; decide, ?_⟩
            refine un2_i ?_
            exact hq _ _ _ _ _ _ _ _ _ _ _ _ _ _ _ _ _ _ _ _ _ _ _ _ _ _ _ _ _ _ _ _ _ _ _ _ _ _ _ _ _ _ _ _ _ ⟨⟨by omega, by omega⟩, ⟨by omega, by omega⟩, h_f_h0_paper_world_rock_kind, h_f_h0_paper_world_rock_hard, h_f_h0_paper_world_rock_water, ⟨by omega, by omega⟩, h_f_h0_paper_world_crew_cell, h_f_h0_paper_world_crew_buckets, ⟨by omega, by omega⟩, ⟨by omega, by omega⟩, ⟨by omega, by omega⟩, ⟨by omega, by omega⟩, h_f_h0_paper_world_folk_column, h_f_h0_paper_world_folk_ear, h_f_h0_paper_world_folk_noiseColumn, h_f_h0_paper_world_folk_noiseLoud, h_f_h0_paper_world_folk_hearsayColumn, h_f_h0_paper_world_folk_hearsayLoud, h_f_h0_paper_world_term, ⟨by omega, by omega⟩, ⟨by omega, by omega⟩, ⟨by omega, by omega⟩, ⟨by omega, by omega⟩, h_f_h0_drawnCrew_cell, h_f_h0_drawnCrew_buckets⟩
          · refine br0 c12 ?_
            have d14 := ne_z (a := h0_site_world_crew_count) (b := 0) (x := (Int32.toInt h0_site_world_crew_count)) (y := 0) rfl rfl c12
            refine s_X7_copyFrom h0_site_world_lawCount h0_site_world_force h0_site_world_rock_dug (f_h0_site_world_rock_kind) (f_h0_paper_world_rock_kind) (f_h0_site_world_rock_hard) (f_h0_paper_world_rock_hard) (f_h0_site_world_rock_water) (f_h0_paper_world_rock_water) h0_site_world_crew_count (f_h0_site_world_crew_cell) (f_h0_paper_world_crew_cell) (f_h0_site_world_crew_buckets) (f_h0_paper_world_crew_buckets) h0_site_world_folk_listeners h0_site_world_folk_noises h0_site_world_folk_hushed h0_site_world_folk_hearsay h0_site_world_folk_wells (f_h0_site_world_folk_column) (f_h0_paper_world_folk_column) (f_h0_site_world_folk_ear) (f_h0_paper_world_folk_ear) (f_h0_site_world_folk_noiseColumn) (f_h0_paper_world_folk_noiseColumn) (f_h0_site_world_folk_noiseLoud) (f_h0_paper_world_folk_noiseLoud) (f_h0_site_world_folk_hearsayColumn) (f_h0_paper_world_folk_hearsayColumn) (f_h0_site_world_folk_hearsayLoud) (f_h0_paper_world_folk_hearsayLoud) (f_h0_site_world_folk_sounds) (f_h0_paper_world_folk_sounds) (f_h0_site_world_folk_wet) (f_h0_paper_world_folk_wet) (f_h0_paper_world_term) (f_h0_site_world_term) (f_h0_site_world_laws) (f_h0_paper_world_laws) h0_site_diary_kept h0_site_diary_latest (f_h0_site_diary_deed) (f_h0_paper_diary_deed) (f_h0_site_diary_whose) (f_h0_paper_diary_whose) (f_h0_site_diary_before) (f_h0_paper_diary_before) (f_h0_site_diary_bucketsBefore) (f_h0_paper_diary_bucketsBefore) (f_h0_site_diary_dayBefore) (f_h0_paper_diary_dayBefore) (fun v => TT v ∨ v = t) ⟨by omega, by omega⟩ ⟨by omega, by omega⟩ h_f_h0_site_world_rock_kind h_f_h0_paper_world_rock_kind h_f_h0_site_world_rock_hard h_f_h0_paper_world_rock_hard h_f_h0_site_world_rock_water h_f_h0_paper_world_rock_water ⟨by omega, by omega⟩ h_f_h0_site_world_crew_cell h_f_h0_paper_world_crew_cell h_f_h0_site_world_crew_buckets h_f_h0_paper_world_crew_buckets ⟨by omega, by omega⟩ ⟨by omega, by omega⟩ ⟨by omega, by omega⟩ ⟨by omega, by omega⟩ h_f_h0_site_world_folk_column h_f_h0_paper_world_folk_column h_f_h0_site_world_folk_ear h_f_h0_paper_world_folk_ear h_f_h0_site_world_folk_noiseColumn h_f_h0_paper_world_folk_noiseColumn h_f_h0_site_world_folk_noiseLoud h_f_h0_paper_world_folk_noiseLoud h_f_h0_site_world_folk_hearsayColumn h_f_h0_paper_world_folk_hearsayColumn h_f_h0_site_world_folk_hearsayLoud h_f_h0_paper_world_folk_hearsayLoud h_f_h0_paper_world_term h_f_h0_site_world_term ⟨by omega, by omega⟩ ⟨by omega, by omega⟩ e_0 e_1 (fun u15_0 u15_1 u15_2 u15_3 u15_4 u15_5 u15_6 u15_7 u15_8 u15_9 u15_10 u15_11 u15_12 u15_13 u15_14 u15_15 u15_16 u15_17 u15_18 u15_19 u15_20 u15_21 u15_22 u15_23 u15_24 u15_25 u15_26 u15_27 u15_28 u15_29 u15_30 H16 => ?_)
            have j17 := H16.1
            have j18 := H16.2.1
            have j19 := H16.2.2.1
            have j20 := H16.2.2.2.1
            have j21 := H16.2.2.2.2.1
            have j22 := H16.2.2.2.2.2.1
            have j23 := H16.2.2.2.2.2.2.1
            have j24 := H16.2.2.2.2.2.2.2.1
            have j25 := H16.2.2.2.2.2.2.2.2.1
            have j26 := H16.2.2.2.2.2.2.2.2.2.1
            have j27 := H16.2.2.2.2.2.2.2.2.2.2.1
            have j28 := H16.2.2.2.2.2.2.2.2.2.2.2.1
            have j29 := H16.2.2.2.2.2.2.2.2.2.2.2.2.1
            have j30 := H16.2.2.2.2.2.2.2.2.2.2.2.2.2.1
            have j31 := H16.2.2.2.2.2.2.2.2.2.2.2.2.2.2.1
            have j32 := H16.2.2.2.2.2.2.2.2.2.2.2.2.2.2.2.1
            have j33 := H16.2.2.2.2.2.2.2.2.2.2.2.2.2.2.2.2.1
            have j34 := H16.2.2.2.2.2.2.2.2.2.2.2.2.2.2.2.2.2.1
            have j35 := H16.2.2.2.2.2.2.2.2.2.2.2.2.2.2.2.2.2.2.1
            have j36 := H16.2.2.2.2.2.2.2.2.2.2.2.2.2.2.2.2.2.2.2.1
            have j37 := H16.2.2.2.2.2.2.2.2.2.2.2.2.2.2.2.2.2.2.2.2.1
            have j38 := H16.2.2.2.2.2.2.2.2.2.2.2.2.2.2.2.2.2.2.2.2.2.1
            have j39 := H16.2.2.2.2.2.2.2.2.2.2.2.2.2.2.2.2.2.2.2.2.2.2.1
            have j40 := H16.2.2.2.2.2.2.2.2.2.2.2.2.2.2.2.2.2.2.2.2.2.2.2.1
            have j41 := H16.2.2.2.2.2.2.2.2.2.2.2.2.2.2.2.2.2.2.2.2.2.2.2.2
            refine un31_i ?_
            have zu15_1 : (u15_1).toInt = (h0_site_world_force).toInt := congrArg Int32.toInt j40
            have zu15_0 : (u15_0).toInt = (h0_site_world_lawCount).toInt := congrArg Int32.toInt j39
            have wu15_1 : u15_23 (Int32.toNatClampNeg u15_1) = some t := by rw [j40, j38 _ (by have q9 := tnz (i := h0_site_world_force) (x := h0_site_world_force.toInt) rfl (by omega); omega)]; assumption
            have lw42 := fun k hk v (hv : u15_23 k = some v) => e_0 k hk v ((j38 k hk).symm.trans hv)
            refine s_X7_runSeasons_T a b h0_paper_world u15_0 u15_1 u15_6 (u15_7) (u15_22) u15_2 (u15_3) (u15_23) h0_asker_world h0_asker_law h0_asker_cell h0_asker_shaft h0_asker_kind h0_asker_done h0_asker_latest h0_asker_value t t_clauses t_length n_t_heads (f_t_heads) n_t_code (f_t_code) (f_h0_asker_stack) u15_9 (u15_14) (u15_4) (u15_5) (u15_8) u15_24 u15_25 (u15_26) (u15_27) (u15_28) (u15_29) (u15_30) ⟨by omega, by omega⟩ ⟨by omega, by omega⟩ ⟨by omega, by omega⟩ ⟨by omega, by omega⟩ ⟨by omega, by omega⟩ j23 j35 j19 ⟨by omega, by omega⟩ ⟨by omega, by omega⟩ ⟨by omega, by omega⟩ h_f_t_code ⟨by omega, by omega⟩ j29 j20 j21 j24 ⟨by omega, by omega⟩ ⟨by omega, by omega⟩ (by omega) (by omega) (by omega) (by assumption) j41 (fun u43_0 u43_1 u43_2 u43_3 u43_4 u43_5 u43_6 u43_7 u43_8 u43_9 u43_10 u43_11 u43_12 u43_13 u43_14 u43_15 u43_16 u43_17 u43_18 H44 => ?_)
            have j45 := H44.1
            have j46 := H44.2.1
            have j47 := H44.2.2.1
            have j48 := H44.2.2.2.1
            have j49 := H44.2.2.2.2.1
            have j50 := H44.2.2.2.2.2.1
            have j51 := H44.2.2.2.2.2.2.1
            have j52 := H44.2.2.2.2.2.2.2
            refine un19_i ?_
            refine s_X1_copyFrom u15_6 (u43_0) (f_h0_drawnCrew_cell) (u43_11) (f_h0_drawnCrew_buckets) ⟨by omega, by omega⟩ j45 h_f_h0_drawnCrew_cell j49 h_f_h0_drawnCrew_buckets (fun u53_0 u53_1 u53_2 H54 => ?_)
            have j55 := H54.1
            have j56 := H54.2.1
            have j57 := H54.2.2
            refine un3_i ?_
            refine s_X1_allBucketsr u53_0 (u53_2) ⟨by omega, by omega⟩ j57 (fun r58 H59 => ?_)
            have j60 := H59
            refine s_X1_allBucketsr h0_site_world_crew_count (f_h0_site_world_crew_buckets) ⟨by omega, by omega⟩ h_f_h0_site_world_crew_buckets (fun r61 H62 => ?_)
            have j63 := H62
            refine o_X11_settle _ _ _ ?_
            refine jn_s ?_
            by_cases c64 : 0 ≤ (r58 - r61)
            · refine br1 c64 ?_
              have t65 : (Int32.toInt (r58 - r61)) = (Int32.toInt r58) - (Int32.toInt r61) := sub_z rfl rfl (by omega) (by omega)
              have d66 := le_z (a := 0) (b := (r58 - r61)) (x := 0) (y := (Int32.toInt (r58 - r61))) rfl rfl c64
              refine br1 (z_le (x := 0) (y := (Int32.toInt (r58 - r61))) rfl rfl (by omega)) ?_
              refine un2_i ?_
              have g67 : 0 ≤ (Int32.toInt (u43_1 (0 : Int32).toNatClampNeg)) ∧ (Int32.toInt (u43_1 (0 : Int32).toNatClampNeg)) ≤ 9999 := TE.at_0 j46 (rfl : ((0 : Nat) : Int) = 0) (by omega) (by omega)
              exact hq _ _ _ _ _ _ _ _ _ _ _ _ _ _ _ _ _ _ _ _ _ _ _ _ _ _ _ _ _ _ _ _ _ _ _ _ _ _ _ _ _ _ _ _ _ ⟨⟨by omega, by omega⟩, ⟨by omega, by omega⟩, j19, j20, j48, ⟨by omega, by omega⟩, j45, j49, ⟨by omega, by omega⟩, ⟨by omega, by omega⟩, ⟨by omega, by omega⟩, ⟨by omega, by omega⟩, j29, j30, j31, j32, j33, j34, j46, ⟨by omega, by omega⟩, ⟨by omega, by omega⟩, ⟨by omega, by omega⟩, ⟨by omega, by omega⟩, j56, j57⟩
            · refine br0 c64 ?_
              have t68 : (Int32.toInt (r58 - r61)) = (Int32.toInt r58) - (Int32.toInt r61) := sub_z rfl rfl (by omega) (by omega)
              have d69 := nle_z (a := 0) (b := (r58 - r61)) (x := 0) (y := (Int32.toInt (r58 - r61))) rfl rfl c64
              refine br0 (z_nle (x := 0) (y := (Int32.toInt (r58 - r61))) rfl rfl (by omega)) ?_
              by_cases c70 : 7 ≤ (-(r58 - r61))
              · refine br1 c70 ?_
                have t71 : (Int32.toInt (-(r58 - r61))) = - (Int32.toInt (r58 - r61)) := neg_z rfl (by omega) (by omega)
                have d72 := le_z (a := 7) (b := (-(r58 - r61))) (x := 7) (y := (Int32.toInt (-(r58 - r61)))) rfl rfl c70
                refine un2_i ?_
                have g73 : 0 ≤ (Int32.toInt (u43_1 (0 : Int32).toNatClampNeg)) ∧ (Int32.toInt (u43_1 (0 : Int32).toNatClampNeg)) ≤ 9999 := TE.at_0 j46 (rfl : ((0 : Nat) : Int) = 0) (by omega) (by omega)
                exact hq _ _ _ _ _ _ _ _ _ _ _ _ _ _ _ _ _ _ _ _ _ _ _ _ _ _ _ _ _ _ _ _ _ _ _ _ _ _ _ _ _ _ _ _ _ ⟨⟨by omega, by omega⟩, ⟨by omega, by omega⟩, j19, j20, j48, ⟨by omega, by omega⟩, j45, j49, ⟨by omega, by omega⟩, ⟨by omega, by omega⟩, ⟨by omega, by omega⟩, ⟨by omega, by omega⟩, j29, j30, j31, j32, j33, j34, j46, ⟨by omega, by omega⟩, ⟨by omega, by omega⟩, ⟨by omega, by omega⟩, ⟨by omega, by omega⟩, j56, j57⟩
              · refine br0 c70 ?_
                have t74 : (Int32.toInt (-(r58 - r61))) = - (Int32.toInt (r58 - r61)) := neg_z rfl (by omega) (by omega)
                have d75 := nle_z (a := 7) (b := (-(r58 - r61))) (x := 7) (y := (Int32.toInt (-(r58 - r61)))) rfl rfl c70
                refine ⟨vpi (x := (Int32.toInt (-(r58 - r61)))) rfl (by omega) (by omega), ?_⟩
                refine ⟨vpi (x := (Int32.toInt (-(r58 - r61)))) rfl (by omega) (by omega), ?_⟩
                refine un2_i ?_
                have g76 : 0 ≤ (Int32.toInt (u43_1 (0 : Int32).toNatClampNeg)) ∧ (Int32.toInt (u43_1 (0 : Int32).toNatClampNeg)) ≤ 9999 := TE.at_0 j46 (rfl : ((0 : Nat) : Int) = 0) (by omega) (by omega)
                exact hq _ _ _ _ _ _ _ _ _ _ _ _ _ _ _ _ _ _ _ _ _ _ _ _ _ _ _ _ _ _ _ _ _ _ _ _ _ _ _ _ _ _ _ _ _ ⟨⟨by omega, by omega⟩, ⟨by omega, by omega⟩, j19, j20, j48, ⟨by omega, by omega⟩, j45, j49, ⟨by omega, by omega⟩, ⟨by omega, by omega⟩, ⟨by omega, by omega⟩, ⟨by omega, by omega⟩, j29, j30, j31, j32, j33, j34, j46, ⟨by omega, by omega⟩, ⟨by omega, by omega⟩, ⟨by omega, by omega⟩, ⟨by omega, by omega⟩, j56, j57⟩
        · refine br0 c10 ?_
          have d77 := nle_z (a := b) (b := 60) (x := (Int32.toInt b)) (y := 60) rfl rfl c10
          refine o_X11_settle _ _ _ ?_
          refine jn_s ?_
          refine br0 (by decide) ?_
          refine br0 (by decide) ?_
          refine br0 (by decide) ?_
          refine ⟨by unfold vp_in; decide, ?_⟩
          refine ⟨by unfold vp_in; decide, ?_⟩
          refine un2_i ?_
          exact hq _ _ _ _ _ _ _ _ _ _ _ _ _ _ _ _ _ _ _ _ _ _ _ _ _ _ _ _ _ _ _ _ _ _ _ _ _ _ _ _ _ _ _ _ _ ⟨⟨by omega, by omega⟩, ⟨by omega, by omega⟩, h_f_h0_paper_world_rock_kind, h_f_h0_paper_world_rock_hard, h_f_h0_paper_world_rock_water, ⟨by omega, by omega⟩, h_f_h0_paper_world_crew_cell, h_f_h0_paper_world_crew_buckets, ⟨by omega, by omega⟩, ⟨by omega, by omega⟩, ⟨by omega, by omega⟩, ⟨by omega, by omega⟩, h_f_h0_paper_world_folk_column, h_f_h0_paper_world_folk_ear, h_f_h0_paper_world_folk_noiseColumn, h_f_h0_paper_world_folk_noiseLoud, h_f_h0_paper_world_folk_hearsayColumn, h_f_h0_paper_world_folk_hearsayLoud, h_f_h0_paper_world_term, ⟨by omega, by omega⟩, ⟨by omega, by omega⟩, ⟨by omega, by omega⟩, ⟨by omega, by omega⟩, h_f_h0_drawnCrew_cell, h_f_h0_drawnCrew_buckets⟩
