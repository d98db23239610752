
set_option maxRecDepth 100000 in
theorem s_X11_orders_N (h0_reader_length : Int32) (h0_reader_faultPlace : Int32) (f_h0_reader_bytes : Nat → Int32) (f_h0_reader_tokens : Nat → Int32) (f_h0_reader_places : Nat → Int32) (f_h0_reader_draft_heads : Nat → Int32) (f_h0_reader_draft_code : Nat → Int32) (h0_paper_world : Nat) (h0_paper_done : Int32) (h0_paper_latest : Int32) (h0_paper_world_lawCount : Int32) (h0_paper_world_force : Int32) (h0_site_world_lawCount : Int32) (h0_site_world_force : Int32) (h0_paper_world_rock_dug : Int64) (h0_site_world_rock_dug : Int64) (f_h0_site_world_rock_kind : Nat → Int32) (f_h0_paper_world_rock_kind : Nat → Int32) (f_h0_site_world_rock_hard : Nat → Int32) (f_h0_paper_world_rock_hard : Nat → Int32) (f_h0_site_world_rock_water : Nat → Int32) (f_h0_paper_world_rock_water : Nat → Int32) (h0_paper_world_crew_count : Int32) (h0_site_world_crew_count : Int32) (f_h0_site_world_crew_cell : Nat → Int32) (f_h0_paper_world_crew_cell : Nat → Int32) (f_h0_site_world_crew_buckets : Nat → Int32) (f_h0_paper_world_crew_buckets : Nat → Int32) (h0_paper_world_folk_listeners : Int32) (h0_paper_world_folk_noises : Int32) (h0_paper_world_folk_hushed : Int32) (h0_paper_world_folk_hearsay : Int32) (h0_paper_world_folk_wells : Int32) (h0_site_world_folk_listeners : Int32) (h0_site_world_folk_noises : Int32) (h0_site_world_folk_hushed : Int32) (h0_site_world_folk_hearsay : Int32) (h0_site_world_folk_wells : Int32) (f_h0_site_world_folk_column : Nat → Int32) (f_h0_paper_world_folk_column : Nat → Int32) (f_h0_site_world_folk_ear : Nat → Int32) (f_h0_paper_world_folk_ear : Nat → Int32) (f_h0_site_world_folk_noiseColumn : Nat → Int32) (f_h0_paper_world_folk_noiseColumn : Nat → Int32) (f_h0_site_world_folk_noiseLoud : Nat → Int32) (f_h0_paper_world_folk_noiseLoud : Nat → Int32) (f_h0_site_world_folk_hearsayColumn : Nat → Int32) (f_h0_paper_world_folk_hearsayColumn : Nat → Int32) (f_h0_site_world_folk_hearsayLoud : Nat → Int32) (f_h0_paper_world_folk_hearsayLoud : Nat → Int32) (f_h0_site_world_folk_sounds : Nat → Int32) (f_h0_paper_world_folk_sounds : Nat → Int32) (f_h0_site_world_folk_wet : Nat → Int32) (f_h0_paper_world_folk_wet : Nat → Int32) (f_h0_paper_world_term : Nat → Int32) (f_h0_site_world_term : Nat → Int32) (f_h0_site_world_laws : Nat → Option Nat) (f_h0_paper_world_laws : Nat → Option Nat) (h0_paper_diary_kept : Int32) (h0_paper_diary_latest : Int32) (h0_site_diary_kept : Int32) (h0_site_diary_latest : Int32) (f_h0_site_diary_deed : Nat → Int32) (f_h0_paper_diary_deed : Nat → Int32) (f_h0_site_diary_whose : Nat → Int32) (f_h0_paper_diary_whose : Nat → Int32) (f_h0_site_diary_before : Nat → Int32) (f_h0_paper_diary_before : Nat → Int32) (f_h0_site_diary_bucketsBefore : Nat → Int32) (f_h0_paper_diary_bucketsBefore : Nat → Int32) (f_h0_site_diary_dayBefore : Nat → Int32) (f_h0_paper_diary_dayBefore : Nat → Int32) (h0_asker_world : Value) (h0_asker_law : Value) (h0_asker_cell : Int32) (h0_asker_shaft : Int32) (h0_asker_kind : Int32) (h0_asker_done : Int32) (h0_asker_latest : Int32) (h0_asker_value : Int32) (f_h0_asker_stack : Nat → Int64) (f_h0_refusals : Nat → Int32) (TT : Nat → Prop) (xe : XE) (h_h0_reader_length : 0 ≤ h0_reader_length.toInt ∧ h0_reader_length.toInt ≤ 400) (h_f_h0_reader_bytes : BY f_h0_reader_bytes) (h_f_h0_reader_draft_heads : HD f_h0_reader_draft_heads) (h_f_h0_reader_draft_code : CD f_h0_reader_draft_code) (h_h0_paper_world_lawCount : 0 ≤ h0_paper_world_lawCount.toInt ∧ h0_paper_world_lawCount.toInt ≤ 6) (h_h0_paper_world_force : (-1) ≤ h0_paper_world_force.toInt ∧ h0_paper_world_force.toInt ≤ 5) (h_h0_site_world_lawCount : 0 ≤ h0_site_world_lawCount.toInt ∧ h0_site_world_lawCount.toInt ≤ 6) (h_h0_site_world_force : (-1) ≤ h0_site_world_force.toInt ∧ h0_site_world_force.toInt ≤ (-1)) (h_f_h0_site_world_rock_kind : KI f_h0_site_world_rock_kind) (h_f_h0_paper_world_rock_kind : KI f_h0_paper_world_rock_kind) (h_f_h0_site_world_rock_hard : HA f_h0_site_world_rock_hard) (h_f_h0_paper_world_rock_hard : HA f_h0_paper_world_rock_hard) (h_f_h0_site_world_rock_water : WA f_h0_site_world_rock_water) (h_f_h0_paper_world_rock_water : WA f_h0_paper_world_rock_water) (h_h0_paper_world_crew_count : 0 ≤ h0_paper_world_crew_count.toInt ∧ h0_paper_world_crew_count.toInt ≤ 6) (h_h0_site_world_crew_count : 0 ≤ h0_site_world_crew_count.toInt ∧ h0_site_world_crew_count.toInt ≤ 6) (h_f_h0_site_world_crew_cell : CE f_h0_site_world_crew_cell) (h_f_h0_paper_world_crew_cell : CE f_h0_paper_world_crew_cell) (h_f_h0_site_world_crew_buckets : BU f_h0_site_world_crew_buckets) (h_f_h0_paper_world_crew_buckets : BU f_h0_paper_world_crew_buckets) (h_h0_paper_world_folk_listeners : 0 ≤ h0_paper_world_folk_listeners.toInt ∧ h0_paper_world_folk_listeners.toInt ≤ 5) (h_h0_paper_world_folk_noises : 0 ≤ h0_paper_world_folk_noises.toInt ∧ h0_paper_world_folk_noises.toInt ≤ 6) (h_h0_paper_world_folk_hearsay : 0 ≤ h0_paper_world_folk_hearsay.toInt ∧ h0_paper_world_folk_hearsay.toInt ≤ 8) (h_h0_paper_world_folk_wells : 0 ≤ h0_paper_world_folk_wells.toInt ∧ h0_paper_world_folk_wells.toInt ≤ 10) (h_h0_site_world_folk_listeners : 0 ≤ h0_site_world_folk_listeners.toInt ∧ h0_site_world_folk_listeners.toInt ≤ 5) (h_h0_site_world_folk_noises : 0 ≤ h0_site_world_folk_noises.toInt ∧ h0_site_world_folk_noises.toInt ≤ 6) (h_h0_site_world_folk_hearsay : 0 ≤ h0_site_world_folk_hearsay.toInt ∧ h0_site_world_folk_hearsay.toInt ≤ 8) (h_h0_site_world_folk_wells : 0 ≤ h0_site_world_folk_wells.toInt ∧ h0_site_world_folk_wells.toInt ≤ 10) (h_f_h0_site_world_folk_column : CO f_h0_site_world_folk_column) (h_f_h0_paper_world_folk_column : CO f_h0_paper_world_folk_column) (h_f_h0_site_world_folk_ear : EA f_h0_site_world_folk_ear) (h_f_h0_paper_world_folk_ear : EA f_h0_paper_world_folk_ear) (h_f_h0_site_world_folk_noiseColumn : NC f_h0_site_world_folk_noiseColumn) (h_f_h0_paper_world_folk_noiseColumn : NC f_h0_paper_world_folk_noiseColumn) (h_f_h0_site_world_folk_noiseLoud : NL f_h0_site_world_folk_noiseLoud) (h_f_h0_paper_world_folk_noiseLoud : NL f_h0_paper_world_folk_noiseLoud) (h_f_h0_site_world_folk_hearsayColumn : HC f_h0_site_world_folk_hearsayColumn) (h_f_h0_paper_world_folk_hearsayColumn : HC f_h0_paper_world_folk_hearsayColumn) (h_f_h0_site_world_folk_hearsayLoud : HL f_h0_site_world_folk_hearsayLoud) (h_f_h0_paper_world_folk_hearsayLoud : HL f_h0_paper_world_folk_hearsayLoud) (h_f_h0_paper_world_term : TE f_h0_paper_world_term) (h_f_h0_site_world_term : TE f_h0_site_world_term) (h_h0_paper_diary_kept : 0 ≤ h0_paper_diary_kept.toInt ∧ h0_paper_diary_kept.toInt ≤ 16) (h_h0_paper_diary_latest : 0 ≤ h0_paper_diary_latest.toInt ∧ h0_paper_diary_latest.toInt ≤ 15) (h_h0_site_diary_kept : 0 ≤ h0_site_diary_kept.toInt ∧ h0_site_diary_kept.toInt ≤ 16) (h_h0_site_diary_latest : 0 ≤ h0_site_diary_latest.toInt ∧ h0_site_diary_latest.toInt ≤ 15) (h_h0_asker_cell : 0 ≤ h0_asker_cell.toInt ∧ h0_asker_cell.toInt ≤ 39) (e_0 : isRf xe.2.2) (e_1 : ∀ k, k < 6 → ∀ v, f_h0_site_world_laws k = some v → TT v) (e_2 : DI f_h0_site_diary_deed f_h0_site_diary_whose f_h0_site_diary_before f_h0_site_diary_bucketsBefore f_h0_site_diary_dayBefore) {Q : Int32 → (Int32 × Int32 × Int32 × Int32 × Int32 × Int32 × Int32 × Int32 × (Nat → Int32) × (Nat → Int32) × Int32 × Int32 × (Nat → Int32) × (Nat → Int32) × Int32 × Int32 × Int32 × Int32 × Int32 × Int32 × Int64 × Int64 × (Nat → Int32) × (Nat → Int32) × (Nat → Int32) × (Nat → Int32) × (Nat → Int32) × (Nat → Int32) × Int32 × Int32 × (Nat → Int32) × (Nat → Int32) × (Nat → Int32) × (Nat → Int32) × Int32 × Int32 × Int32 × Int32 × Int32 × Int32 × Int32 × Int32 × Int32 × Int32 × (Nat → Int32) × (Nat → Int32) × (Nat → Int32) × (Nat → Int32) × (Nat → Int32) × (Nat → Int32) × (Nat → Int32) × (Nat → Int32) × (Nat → Int32) × (Nat → Int32) × (Nat → Int32) × (Nat → Int32) × (Nat → Int32) × (Nat → Int32) × (Nat → Int32) × (Nat → Int32) × (Nat → Int32) × (Nat → Int32) × (Nat → Option Nat) × (Nat → Option Nat) × Int32 × Int32 × Int32 × Int32 × (Nat → Int32) × (Nat → Int32) × (Nat → Int32) × (Nat → Int32) × (Nat → Int32) × (Nat → Int32) × (Nat → Int32) × (Nat → Int32) × (Nat → Int32) × (Nat → Int32) × Value × Value × Int32 × Int32 × Int32 × Int32 × Int32 × Int32 × (Nat → Int64) × (Nat → Int32)) → Prop} (hq : ∀ (r : Int32) (u_0 : Int32) (u_1 : Int32) (u_2 : Int32) (u_3 : Int32) (u_4 : Int32) (u_5 : Int32) (u_6 : Int32) (u_7 : Int32) (u_8 : Nat → Int32) (u_9 : Nat → Int32) (u_10 : Int32) (u_11 : Int32) (u_12 : Nat → Int32) (u_13 : Nat → Int32) (u_14 : Int32) (u_15 : Int32) (u_16 : Int32) (u_17 : Int32) (u_18 : Int32) (u_19 : Int32) (u_20 : Int64) (u_21 : Int64) (u_22 : Nat → Int32) (u_23 : Nat → Int32) (u_24 : Nat → Int32) (u_25 : Nat → Int32) (u_26 : Nat → Int32) (u_27 : Nat → Int32) (u_28 : Int32) (u_29 : Int32) (u_30 : Nat → Int32) (u_31 : Nat → Int32) (u_32 : Nat → Int32) (u_33 : Nat → Int32) (u_34 : Int32) (u_35 : Int32) (u_36 : Int32) (u_37 : Int32) (u_38 : Int32) (u_39 : Int32) (u_40 : Int32) (u_41 : Int32) (u_42 : Int32) (u_43 : Int32) (u_44 : Nat → Int32) (u_45 : Nat → Int32) (u_46 : Nat → Int32) (u_47 : Nat → Int32) (u_48 : Nat → Int32) (u_49 : Nat → Int32) (u_50 : Nat → Int32) (u_51 : Nat → Int32) (u_52 : Nat → Int32) (u_53 : Nat → Int32) (u_54 : Nat → Int32) (u_55 : Nat → Int32) (u_56 : Nat → Int32) (u_57 : Nat → Int32) (u_58 : Nat → Int32) (u_59 : Nat → Int32) (u_60 : Nat → Int32) (u_61 : Nat → Int32) (u_62 : Nat → Option Nat) (u_63 : Nat → Option Nat) (u_64 : Int32) (u_65 : Int32) (u_66 : Int32) (u_67 : Int32) (u_68 : Nat → Int32) (u_69 : Nat → Int32) (u_70 : Nat → Int32) (u_71 : Nat → Int32) (u_72 : Nat → Int32) (u_73 : Nat → Int32) (u_74 : Nat → Int32) (u_75 : Nat → Int32) (u_76 : Nat → Int32) (u_77 : Nat → Int32) (u_78 : Value) (u_79 : Value) (u_80 : Int32) (u_81 : Int32) (u_82 : Int32) (u_83 : Int32) (u_84 : Int32) (u_85 : Int32) (u_86 : Nat → Int64) (u_87 : Nat → Int32), (0 ≤ u_2.toInt ∧ u_2.toInt ≤ 400) ∧ (0 ≤ u_3.toInt ∧ u_3.toInt ≤ 401) ∧ (0 ≤ u_6.toInt ∧ u_6.toInt ≤ 1) ∧ (0 ≤ u_10.toInt ∧ u_10.toInt ≤ 12) ∧ (0 ≤ u_11.toInt ∧ u_11.toInt ≤ 400) ∧ (HD u_12) ∧ (CD u_13) ∧ (0 ≤ u_16.toInt ∧ u_16.toInt ≤ 6) ∧ ((-1) ≤ u_17.toInt ∧ u_17.toInt ≤ 5) ∧ (0 ≤ u_18.toInt ∧ u_18.toInt ≤ 6) ∧ ((-1) ≤ u_19.toInt ∧ u_19.toInt ≤ 5) ∧ (KI u_22) ∧ (KI u_23) ∧ (HA u_24) ∧ (HA u_25) ∧ (WA u_26) ∧ (WA u_27) ∧ (0 ≤ u_28.toInt ∧ u_28.toInt ≤ 6) ∧ (0 ≤ u_29.toInt ∧ u_29.toInt ≤ 6) ∧ (CE u_30) ∧ (CE u_31) ∧ (BU u_32) ∧ (BU u_33) ∧ (0 ≤ u_34.toInt ∧ u_34.toInt ≤ 5) ∧ (0 ≤ u_35.toInt ∧ u_35.toInt ≤ 6) ∧ (0 ≤ u_37.toInt ∧ u_37.toInt ≤ 8) ∧ (0 ≤ u_38.toInt ∧ u_38.toInt ≤ 10) ∧ (0 ≤ u_39.toInt ∧ u_39.toInt ≤ 5) ∧ (0 ≤ u_40.toInt ∧ u_40.toInt ≤ 6) ∧ (0 ≤ u_42.toInt ∧ u_42.toInt ≤ 8) ∧ (0 ≤ u_43.toInt ∧ u_43.toInt ≤ 10) ∧ (CO u_44) ∧ (CO u_45) ∧ (EA u_46) ∧ (EA u_47) ∧ (NC u_48) ∧ (NC u_49) ∧ (NL u_50) ∧ (NL u_51) ∧ (HC u_52) ∧ (HC u_53) ∧ (HL u_54) ∧ (HL u_55) ∧ (TE u_60) ∧ (TE u_61) ∧ (0 ≤ u_64.toInt ∧ u_64.toInt ≤ 16) ∧ (0 ≤ u_65.toInt ∧ u_65.toInt ≤ 15) ∧ (0 ≤ u_66.toInt ∧ u_66.toInt ≤ 16) ∧ (0 ≤ u_67.toInt ∧ u_67.toInt ≤ 15) ∧ (0 ≤ u_80.toInt ∧ u_80.toInt ≤ 39) ∧ (∀ k, k < 6 → u_62 k = f_h0_site_world_laws k) ∧ (u_18 = h0_site_world_lawCount) ∧ (u_19 = h0_site_world_force) ∧ (DI u_68 u_70 u_72 u_74 u_76) → Q r (u_0, u_1, u_2, u_3, u_4, u_5, u_6, u_7, u_8, u_9, u_10, u_11, u_12, u_13, u_14, u_15, u_16, u_17, u_18, u_19, u_20, u_21, u_22, u_23, u_24, u_25, u_26, u_27, u_28, u_29, u_30, u_31, u_32, u_33, u_34, u_35, u_36, u_37, u_38, u_39, u_40, u_41, u_42, u_43, u_44, u_45, u_46, u_47, u_48, u_49, u_50, u_51, u_52, u_53, u_54, u_55, u_56, u_57, u_58, u_59, u_60, u_61, u_62, u_63, u_64, u_65, u_66, u_67, u_68, u_69, u_70, u_71, u_72, u_73, u_74, u_75, u_76, u_77, u_78, u_79, u_80, u_81, u_82, u_83, u_84, u_85, u_86, u_87)) : wp_X11_orders_N h0_reader_length h0_reader_faultPlace f_h0_reader_bytes f_h0_reader_tokens f_h0_reader_places f_h0_reader_draft_heads f_h0_reader_draft_code h0_paper_world h0_paper_done h0_paper_latest h0_paper_world_lawCount h0_paper_world_force h0_site_world_lawCount h0_site_world_force h0_paper_world_rock_dug h0_site_world_rock_dug f_h0_site_world_rock_kind f_h0_paper_world_rock_kind f_h0_site_world_rock_hard f_h0_paper_world_rock_hard f_h0_site_world_rock_water f_h0_paper_world_rock_water h0_paper_world_crew_count h0_site_world_crew_count f_h0_site_world_crew_cell f_h0_paper_world_crew_cell f_h0_site_world_crew_buckets f_h0_paper_world_crew_buckets h0_paper_world_folk_listeners h0_paper_world_folk_noises h0_paper_world_folk_hushed h0_paper_world_folk_hearsay h0_paper_world_folk_wells h0_site_world_folk_listeners h0_site_world_folk_noises h0_site_world_folk_hushed h0_site_world_folk_hearsay h0_site_world_folk_wells f_h0_site_world_folk_column f_h0_paper_world_folk_column f_h0_site_world_folk_ear f_h0_paper_world_folk_ear f_h0_site_world_folk_noiseColumn f_h0_paper_world_folk_noiseColumn f_h0_site_world_folk_noiseLoud f_h0_paper_world_folk_noiseLoud f_h0_site_world_folk_hearsayColumn f_h0_paper_world_folk_hearsayColumn f_h0_site_world_folk_hearsayLoud f_h0_paper_world_folk_hearsayLoud f_h0_site_world_folk_sounds f_h0_paper_world_folk_sounds f_h0_site_world_folk_wet f_h0_paper_world_folk_wet f_h0_paper_world_term f_h0_site_world_term f_h0_site_world_laws f_h0_paper_world_laws h0_paper_diary_kept h0_paper_diary_latest h0_site_diary_kept h0_site_diary_latest f_h0_site_diary_deed f_h0_paper_diary_deed f_h0_site_diary_whose f_h0_paper_diary_whose f_h0_site_diary_before f_h0_paper_diary_before f_h0_site_diary_bucketsBefore f_h0_paper_diary_bucketsBefore f_h0_site_diary_dayBefore f_h0_paper_diary_dayBefore h0_asker_world h0_asker_law h0_asker_cell h0_asker_shaft h0_asker_kind h0_asker_done h0_asker_latest h0_asker_value f_h0_asker_stack f_h0_refusals TT xe Q := by
  unfold wp_X11_orders_N
  refine s_X5_read 1 h0_reader_length h0_reader_faultPlace (f_h0_reader_bytes) (f_h0_reader_tokens) (f_h0_reader_places) (f_h0_reader_draft_heads) (f_h0_reader_draft_code) xe (by decide) ⟨by omega, by omega⟩ h_f_h0_reader_bytes h_f_h0_reader_draft_heads h_f_h0_reader_draft_code e_0 (fun r1 u2_0 u2_1 u2_2 u2_3 u2_4 u2_5 u2_6 u2_7 u2_8 u2_9 u2_10 u2_11 H3 => ?_)
  have j4 := H3.1
  have j5 := H3.2.1
  have j6 := H3.2.2.1
  have j7 := H3.2.2.2.1
  have j8 := H3.2.2.2.2.1
  have j9 := H3.2.2.2.2.2.1
  have j10 := H3.2.2.2.2.2.2.1
  have j11 := H3.2.2.2.2.2.2.2
  refine un12_i ?_
  by_cases c12 : r1 = 0
  · refine br1 c12 ?_
    have d13 := eq_z (a := r1) (b := 0) (x := (Int32.toInt r1)) (y := 0) rfl rfl c12
    refine o_X11_settle _ _ _ ?_
    refine jn_s ?_
    refine br0 (by decide) ?_
    refine br0 (by decide) ?_
    refine br0 (by decide) ?_
    refine ⟨by unfold vp_in; decide, ?_⟩
    refine ⟨by unfold vp_in; decide, ?_⟩
    refine un2_i ?_
    have k14 : Int32.toInt (-6) = (-6) := (by decide)
    have k15 : Int32.toInt (-1) = (-1) := (by decide)
    exact hq _ _ _ _ _ _ _ _ _ _ _ _ _ _ _ _ _ _ _ _ _ _ _ _ _ _ _ _ _ _ _ _ _ _ _ _ _ _ _ _ _ _ _ _ _ _ _ _ _ _ _ _ _ _ _ _ _ _ _ _ _ _ _ _ _ _ _ _ _ _ _ _ _ _ _ _ _ _ _ _ _ _ _ _ _ _ _ _ _ ⟨⟨by omega, by omega⟩, ⟨by omega, by omega⟩, ⟨by omega, by omega⟩, ⟨by omega, by omega⟩, ⟨by omega, by omega⟩, j10, j11, ⟨by omega, by omega⟩, ⟨by omega, by omega⟩, ⟨by omega, by omega⟩, ⟨by omega, by omega⟩, h_f_h0_site_world_rock_kind, h_f_h0_paper_world_rock_kind, h_f_h0_site_world_rock_hard, h_f_h0_paper_world_rock_hard, h_f_h0_site_world_rock_water, h_f_h0_paper_world_rock_water, ⟨by omega, by omega⟩, ⟨by omega, by omega⟩, h_f_h0_site_world_crew_cell, h_f_h0_paper_world_crew_cell, h_f_h0_site_world_crew_buckets, h_f_h0_paper_world_crew_buckets, ⟨by omega, by omega⟩, ⟨by omega, by omega⟩, ⟨by omega, by omega⟩, ⟨by omega, by omega⟩, ⟨by omega, by omega⟩, ⟨by omega, by omega⟩, ⟨by omega, by omega⟩, ⟨by omega, by omega⟩, h_f_h0_site_world_folk_column, h_f_h0_paper_world_folk_column, h_f_h0_site_world_folk_ear, h_f_h0_paper_world_folk_ear, h_f_h0_site_world_folk_noiseColumn, h_f_h0_paper_world_folk_noiseColumn, h_f_h0_site_world_folk_noiseLoud, h_f_h0_paper_world_folk_noiseLoud, h_f_h0_site_world_folk_hearsayColumn, h_f_h0_paper_world_folk_hearsayColumn, h_f_h0_site_world_folk_hearsayLoud, h_f_h0_paper_world_folk_hearsayLoud, h_f_h0_paper_world_term, h_f_h0_site_world_term, ⟨by omega, by omega⟩, ⟨by omega, by omega⟩, ⟨by omega, by omega⟩, ⟨by omega, by omega⟩, ⟨by omega, by omega⟩, (fun k hk => rfl), rfl, rfl, e_2⟩
  · refine br0 c12 ?_
    have d16 := ne_z (a := r1) (b := 0) (x := (Int32.toInt r1)) (y := 0) rfl rfl c12
    refine s_X7_copyFrom h0_site_world_lawCount h0_site_world_force h0_site_world_rock_dug (f_h0_site_world_rock_kind) (f_h0_paper_world_rock_kind) (f_h0_site_world_rock_hard) (f_h0_paper_world_rock_hard) (f_h0_site_world_rock_water) (f_h0_paper_world_rock_water) h0_site_world_crew_count (f_h0_site_world_crew_cell) (f_h0_paper_world_crew_cell) (f_h0_site_world_crew_buckets) (f_h0_paper_world_crew_buckets) h0_site_world_folk_listeners h0_site_world_folk_noises h0_site_world_folk_hushed h0_site_world_folk_hearsay h0_site_world_folk_wells (f_h0_site_world_folk_column) (f_h0_paper_world_folk_column) (f_h0_site_world_folk_ear) (f_h0_paper_world_folk_ear) (f_h0_site_world_folk_noiseColumn) (f_h0_paper_world_folk_noiseColumn) (f_h0_site_world_folk_noiseLoud) (f_h0_paper_world_folk_noiseLoud) (f_h0_site_world_folk_hearsayColumn) (f_h0_paper_world_folk_hearsayColumn) (f_h0_site_world_folk_hearsayLoud) (f_h0_paper_world_folk_hearsayLoud) (f_h0_site_world_folk_sounds) (f_h0_paper_world_folk_sounds) (f_h0_site_world_folk_wet) (f_h0_paper_world_folk_wet) (f_h0_paper_world_term) (f_h0_site_world_term) (f_h0_site_world_laws) (f_h0_paper_world_laws) h0_site_diary_kept h0_site_diary_latest (f_h0_site_diary_deed) (f_h0_paper_diary_deed) (f_h0_site_diary_whose) (f_h0_paper_diary_whose) (f_h0_site_diary_before) (f_h0_paper_diary_before) (f_h0_site_diary_bucketsBefore) (f_h0_paper_diary_bucketsBefore) (f_h0_site_diary_dayBefore) (f_h0_paper_diary_dayBefore) TT ⟨by omega, by omega⟩ ⟨by omega, by omega⟩ h_f_h0_site_world_rock_kind h_f_h0_paper_world_rock_kind h_f_h0_site_world_rock_hard h_f_h0_paper_world_rock_hard h_f_h0_site_world_rock_water h_f_h0_paper_world_rock_water ⟨by omega, by omega⟩ h_f_h0_site_world_crew_cell h_f_h0_paper_world_crew_cell h_f_h0_site_world_crew_buckets h_f_h0_paper_world_crew_buckets ⟨by omega, by omega⟩ ⟨by omega, by omega⟩ ⟨by omega, by omega⟩ ⟨by omega, by omega⟩ h_f_h0_site_world_folk_column h_f_h0_paper_world_folk_column h_f_h0_site_world_folk_ear h_f_h0_paper_world_folk_ear h_f_h0_site_world_folk_noiseColumn h_f_h0_paper_world_folk_noiseColumn h_f_h0_site_world_folk_noiseLoud h_f_h0_paper_world_folk_noiseLoud h_f_h0_site_world_folk_hearsayColumn h_f_h0_paper_world_folk_hearsayColumn h_f_h0_site_world_folk_hearsayLoud h_f_h0_paper_world_folk_hearsayLoud h_f_h0_paper_world_term h_f_h0_site_world_term ⟨by omega, by omega⟩ ⟨by omega, by omega⟩ e_1 e_2 (fun u17_0 u17_1 u17_2 u17_3 u17_4 u17_5 u17_6 u17_7 u17_8 u17_9 u17_10 u17_11 u17_12 u17_13 u17_14 u17_15 u17_16 u17_17 u17_18 u17_19 u17_20 u17_21 u17_22 u17_23 u17_24 u17_25 u17_26 u17_27 u17_28 u17_29 u17_30 H18 => ?_)
    have j19 := H18.1
    have j20 := H18.2.1
    have j21 := H18.2.2.1
    have j22 := H18.2.2.2.1
    have j23 := H18.2.2.2.2.1
    have j24 := H18.2.2.2.2.2.1
    have j25 := H18.2.2.2.2.2.2.1
    have j26 := H18.2.2.2.2.2.2.2.1
    have j27 := H18.2.2.2.2.2.2.2.2.1
    have j28 := H18.2.2.2.2.2.2.2.2.2.1
    have j29 := H18.2.2.2.2.2.2.2.2.2.2.1
    have j30 := H18.2.2.2.2.2.2.2.2.2.2.2.1
    have j31 := H18.2.2.2.2.2.2.2.2.2.2.2.2.1
    have j32 := H18.2.2.2.2.2.2.2.2.2.2.2.2.2.1
    have j33 := H18.2.2.2.2.2.2.2.2.2.2.2.2.2.2.1
    have j34 := H18.2.2.2.2.2.2.2.2.2.2.2.2.2.2.2.1
    have j35 := H18.2.2.2.2.2.2.2.2.2.2.2.2.2.2.2.2.1
    have j36 := H18.2.2.2.2.2.2.2.2.2.2.2.2.2.2.2.2.2.1
    have j37 := H18.2.2.2.2.2.2.2.2.2.2.2.2.2.2.2.2.2.2.1
    have j38 := H18.2.2.2.2.2.2.2.2.2.2.2.2.2.2.2.2.2.2.2.1
    have j39 := H18.2.2.2.2.2.2.2.2.2.2.2.2.2.2.2.2.2.2.2.2.1
    have j40 := H18.2.2.2.2.2.2.2.2.2.2.2.2.2.2.2.2.2.2.2.2.2.1
    have j41 := H18.2.2.2.2.2.2.2.2.2.2.2.2.2.2.2.2.2.2.2.2.2.2.1
    have j42 := H18.2.2.2.2.2.2.2.2.2.2.2.2.2.2.2.2.2.2.2.2.2.2.2.1
    have j43 := H18.2.2.2.2.2.2.2.2.2.2.2.2.2.2.2.2.2.2.2.2.2.2.2.2
    refine un31_i ?_
    have zu17_1 : (u17_1).toInt = (h0_site_world_force).toInt := congrArg Int32.toInt j42
    have zu17_0 : (u17_0).toInt = (h0_site_world_lawCount).toInt := congrArg Int32.toInt j41
    have lw44 := fun k hk v (hv : u17_23 k = some v) => e_1 k hk v ((j40 k hk).symm.trans hv)
    refine s_X7_runOrders_N h0_paper_world u2_8 u2_9 60 (u2_10) h0_asker_world h0_asker_law h0_asker_cell h0_asker_shaft h0_asker_kind h0_asker_done h0_asker_latest h0_asker_value 400 (u2_11) (f_h0_asker_stack) u17_0 u17_1 u17_9 u17_10 u17_11 (u17_14) u17_2 (u17_4) (u17_5) (u17_22) u17_6 (u17_7) (u17_8) (u17_3) (u17_23) u17_24 u17_25 (u17_26) (u17_27) (u17_28) (u17_29) (u17_30) (u17_16) (u17_17) ⟨by omega, by omega⟩ ⟨by omega, by omega⟩ j10 ⟨by omega, by omega⟩ j11 ⟨by omega, by omega⟩ ⟨by omega, by omega⟩ ⟨by omega, by omega⟩ ⟨by omega, by omega⟩ j31 j22 j23 j37 ⟨by omega, by omega⟩ j25 j26 j21 ⟨by omega, by omega⟩ ⟨by omega, by omega⟩ j33 j34 (by omega) (by omega) j43 (fun r45 u46_0 u46_1 u46_2 u46_3 u46_4 u46_5 u46_6 u46_7 u46_8 u46_9 u46_10 u46_11 u46_12 u46_13 u46_14 u46_15 u46_16 u46_17 u46_18 u46_19 u46_20 u46_21 u46_22 u46_23 u46_24 H47 => ?_)
    have j48 := H47.1
    have j49 := H47.2.1
    have j50 := H47.2.2.1
    have j51 := H47.2.2.2.1
    have j52 := H47.2.2.2.2.1
    have j53 := H47.2.2.2.2.2.1
    have j54 := H47.2.2.2.2.2.2.1
    have j55 := H47.2.2.2.2.2.2.2.1
    have j56 := H47.2.2.2.2.2.2.2.2.1
    have j57 := H47.2.2.2.2.2.2.2.2.2
    refine un25_i ?_
    by_cases c58 : r45 = (-1)
    · refine br1 c58 ?_
      have d59 := eq_z (a := r45) (b := (-1)) (x := (Int32.toInt r45)) (y := (-1)) rfl (by decide) c58
      refine s_X7_copyFrom u17_0 u17_1 u46_13 (u17_3) (f_h0_site_world_rock_kind) (u17_4) (f_h0_site_world_rock_hard) (u46_14) (f_h0_site_world_rock_water) u17_6 (u46_16) (f_h0_site_world_crew_cell) (u46_17) (f_h0_site_world_crew_buckets) u17_9 u17_10 u46_11 u17_12 u17_13 (u46_12) (f_h0_site_world_folk_column) (u17_15) (f_h0_site_world_folk_ear) (u17_16) (f_h0_site_world_folk_noiseColumn) (u17_17) (f_h0_site_world_folk_noiseLoud) (u17_18) (f_h0_site_world_folk_hearsayColumn) (u17_19) (f_h0_site_world_folk_hearsayLoud) (u17_20) (f_h0_site_world_folk_sounds) (u17_21) (f_h0_site_world_folk_wet) (f_h0_site_world_term) (u46_15) (u17_23) (f_h0_site_world_laws) u46_18 u46_19 (u46_20) (f_h0_site_diary_deed) (u46_21) (f_h0_site_diary_whose) (u46_22) (f_h0_site_diary_before) (u46_23) (f_h0_site_diary_bucketsBefore) (u46_24) (f_h0_site_diary_dayBefore) TT ⟨by omega, by omega⟩ ⟨by omega, by omega⟩ j21 h_f_h0_site_world_rock_kind j22 h_f_h0_site_world_rock_hard j51 h_f_h0_site_world_rock_water ⟨by omega, by omega⟩ j53 h_f_h0_site_world_crew_cell j54 h_f_h0_site_world_crew_buckets ⟨by omega, by omega⟩ ⟨by omega, by omega⟩ ⟨by omega, by omega⟩ ⟨by omega, by omega⟩ j50 h_f_h0_site_world_folk_column j32 h_f_h0_site_world_folk_ear j33 h_f_h0_site_world_folk_noiseColumn j34 h_f_h0_site_world_folk_noiseLoud j35 h_f_h0_site_world_folk_hearsayColumn j36 h_f_h0_site_world_folk_hearsayLoud h_f_h0_site_world_term j52 ⟨by omega, by omega⟩ ⟨by omega, by omega⟩ lw44 j57 (fun u60_0 u60_1 u60_2 u60_3 u60_4 u60_5 u60_6 u60_7 u60_8 u60_9 u60_10 u60_11 u60_12 u60_13 u60_14 u60_15 u60_16 u60_17 u60_18 u60_19 u60_20 u60_21 u60_22 u60_23 u60_24 u60_25 u60_26 u60_27 u60_28 u60_29 u60_30 H61 => ?_)
      have j62 := H61.1
      have j63 := H61.2.1
      have j64 := H61.2.2.1
      have j65 := H61.2.2.2.1
      have j66 := H61.2.2.2.2.1
      have j67 := H61.2.2.2.2.2.1
      have j68 := H61.2.2.2.2.2.2.1
      have j69 := H61.2.2.2.2.2.2.2.1
      have j70 := H61.2.2.2.2.2.2.2.2.1
      have j71 := H61.2.2.2.2.2.2.2.2.2.1
      have j72 := H61.2.2.2.2.2.2.2.2.2.2.1
      have j73 := H61.2.2.2.2.2.2.2.2.2.2.2.1
      have j74 := H61.2.2.2.2.2.2.2.2.2.2.2.2.1
      have j75 := H61.2.2.2.2.2.2.2.2.2.2.2.2.2.1
      have j76 := H61.2.2.2.2.2.2.2.2.2.2.2.2.2.2.1
      have j77 := H61.2.2.2.2.2.2.2.2.2.2.2.2.2.2.2.1
      have j78 := H61.2.2.2.2.2.2.2.2.2.2.2.2.2.2.2.2.1
      have j79 := H61.2.2.2.2.2.2.2.2.2.2.2.2.2.2.2.2.2.1
      have j80 := H61.2.2.2.2.2.2.2.2.2.2.2.2.2.2.2.2.2.2.1
      have j81 := H61.2.2.2.2.2.2.2.2.2.2.2.2.2.2.2.2.2.2.2.1
      have j82 := H61.2.2.2.2.2.2.2.2.2.2.2.2.2.2.2.2.2.2.2.2.1
      have j83 := H61.2.2.2.2.2.2.2.2.2.2.2.2.2.2.2.2.2.2.2.2.2.1
      have j84 := H61.2.2.2.2.2.2.2.2.2.2.2.2.2.2.2.2.2.2.2.2.2.2.1
      have j85 := H61.2.2.2.2.2.2.2.2.2.2.2.2.2.2.2.2.2.2.2.2.2.2.2.1
      have j86 := H61.2.2.2.2.2.2.2.2.2.2.2.2.2.2.2.2.2.2.2.2.2.2.2.2
      refine un31_i ?_
      have zu60_1 : (u60_1).toInt = (u17_1).toInt := congrArg Int32.toInt j85
      have zu60_0 : (u60_0).toInt = (u17_0).toInt := congrArg Int32.toInt j84
      refine o_X11_settle _ _ _ ?_
      refine jn_s ?_
      refine br1 (z_le (x := 0) (y := (Int32.toInt u46_0)) rfl rfl (by omega)) ?_
      refine br1 (z_le (x := 0) (y := (Int32.toInt u46_0)) rfl rfl (by omega)) ?_
      refine un2_i ?_
      have k87 : Int32.toInt (-1) = (-1) := (by decide)
      have k88 : Int32.toInt 0 = 0 := rfl
      exact hq _ _ _ _ _ _ _ _ _ _ _ _ _ _ _ _ _ _ _ _ _ _ _ _ _ _ _ _ _ _ _ _ _ _ _ _ _ _ _ _ _ _ _ _ _ _ _ _ _ _ _ _ _ _ _ _ _ _ _ _ _ _ _ _ _ _ _ _ _ _ _ _ _ _ _ _ _ _ _ _ _ _ _ _ _ _ _ _ _ ⟨⟨by omega, by omega⟩, ⟨by omega, by omega⟩, ⟨by omega, by omega⟩, ⟨by omega, by omega⟩, ⟨by omega, by omega⟩, j10, j11, ⟨by omega, by omega⟩, ⟨by omega, by omega⟩, ⟨by omega, by omega⟩, ⟨by omega, by omega⟩, j64, j21, j65, j22, j66, j51, ⟨by omega, by omega⟩, ⟨by omega, by omega⟩, j68, j53, j69, j54, ⟨by omega, by omega⟩, ⟨by omega, by omega⟩, ⟨by omega, by omega⟩, ⟨by omega, by omega⟩, ⟨by omega, by omega⟩, ⟨by omega, by omega⟩, ⟨by omega, by omega⟩, ⟨by omega, by omega⟩, j74, j50, j75, j32, j76, j33, j77, j34, j78, j35, j79, j36, j52, j80, ⟨by omega, by omega⟩, ⟨by omega, by omega⟩, ⟨by omega, by omega⟩, ⟨by omega, by omega⟩, ⟨by omega, by omega⟩, (fun k hk => (j83 k hk).trans (j40 k hk)), (j84.trans j41), (j85.trans j42), j86⟩
    · refine br0 c58 ?_
      have d89 := ne_z (a := r45) (b := (-1)) (x := (Int32.toInt r45)) (y := (-1)) rfl (by decide) c58
      refine o_X11_settle _ _ _ ?_
      refine jn_s ?_
      refine br0 (by decide) ?_
      refine br0 (by decide) ?_
      refine br0 (by decide) ?_
      refine ⟨by unfold vp_in; decide, ?_⟩
      refine ⟨by unfold vp_in; decide, ?_⟩
      refine un2_i ?_
      have k90 : Int32.toInt (-3) = (-3) := (by decide)
      exact hq _ _ _ _ _ _ _ _ _ _ _ _ _ _ _ _ _ _ _ _ _ _ _ _ _ _ _ _ _ _ _ _ _ _ _ _ _ _ _ _ _ _ _ _ _ _ _ _ _ _ _ _ _ _ _ _ _ _ _ _ _ _ _ _ _ _ _ _ _ _ _ _ _ _ _ _ _ _ _ _ _ _ _ _ _ _ _ _ _ ⟨⟨by omega, by omega⟩, ⟨by omega, by omega⟩, ⟨by omega, by omega⟩, ⟨by omega, by omega⟩, ⟨by omega, by omega⟩, j10, j11, ⟨by omega, by omega⟩, ⟨by omega, by omega⟩, ⟨by omega, by omega⟩, ⟨by omega, by omega⟩, h_f_h0_site_world_rock_kind, j21, h_f_h0_site_world_rock_hard, j22, h_f_h0_site_world_rock_water, j51, ⟨by omega, by omega⟩, ⟨by omega, by omega⟩, h_f_h0_site_world_crew_cell, j53, h_f_h0_site_world_crew_buckets, j54, ⟨by omega, by omega⟩, ⟨by omega, by omega⟩, ⟨by omega, by omega⟩, ⟨by omega, by omega⟩, ⟨by omega, by omega⟩, ⟨by omega, by omega⟩, ⟨by omega, by omega⟩, ⟨by omega, by omega⟩, h_f_h0_site_world_folk_column, j50, h_f_h0_site_world_folk_ear, j32, h_f_h0_site_world_folk_noiseColumn, j33, h_f_h0_site_world_folk_noiseLoud, j34, h_f_h0_site_world_folk_hearsayColumn, j35, h_f_h0_site_world_folk_hearsayLoud, j36, j52, h_f_h0_site_world_term, ⟨by omega, by omega⟩, ⟨by omega, by omega⟩, ⟨by omega, by omega⟩, ⟨by omega, by omega⟩, ⟨by omega, by omega⟩, (fun k hk => rfl), rfl, rfl, e_2⟩


set_option maxRecDepth 100000 in
theorem s_X11_orders_T (h0_reader_length : Int32) (h0_reader_faultPlace : Int32) (f_h0_reader_bytes : Nat → Int32) (f_h0_reader_tokens : Nat → Int32) (f_h0_reader_places : Nat → Int32) (f_h0_reader_draft_heads : Nat → Int32) (f_h0_reader_draft_code : Nat → Int32) (h0_paper_world : Nat) (h0_paper_done : Int32) (h0_paper_latest : Int32) (h0_paper_world_lawCount : Int32) (h0_paper_world_force : Int32) (h0_site_world_lawCount : Int32) (h0_site_world_force : Int32) (h0_paper_world_rock_dug : Int64) (h0_site_world_rock_dug : Int64) (f_h0_site_world_rock_kind : Nat → Int32) (f_h0_paper_world_rock_kind : Nat → Int32) (f_h0_site_world_rock_hard : Nat → Int32) (f_h0_paper_world_rock_hard : Nat → Int32) (f_h0_site_world_rock_water : Nat → Int32) (f_h0_paper_world_rock_water : Nat → Int32) (h0_paper_world_crew_count : Int32) (h0_site_world_crew_count : Int32) (f_h0_site_world_crew_cell : Nat → Int32) (f_h0_paper_world_crew_cell : Nat → Int32) (f_h0_site_world_crew_buckets : Nat → Int32) (f_h0_paper_world_crew_buckets : Nat → Int32) (h0_paper_world_folk_listeners : Int32) (h0_paper_world_folk_noises : Int32) (h0_paper_world_folk_hushed : Int32) (h0_paper_world_folk_hearsay : Int32) (h0_paper_world_folk_wells : Int32) (h0_site_world_folk_listeners : Int32) (h0_site_world_folk_noises : Int32) (h0_site_world_folk_hushed : Int32) (h0_site_world_folk_hearsay : Int32) (h0_site_world_folk_wells : Int32) (f_h0_site_world_folk_column : Nat → Int32) (f_h0_paper_world_folk_column : Nat → Int32) (f_h0_site_world_folk_ear : Nat → Int32) (f_h0_paper_world_folk_ear : Nat → Int32) (f_h0_site_world_folk_noiseColumn : Nat → Int32) (f_h0_paper_world_folk_noiseColumn : Nat → Int32) (f_h0_site_world_folk_noiseLoud : Nat → Int32) (f_h0_paper_world_folk_noiseLoud : Nat → Int32) (f_h0_site_world_folk_hearsayColumn : Nat → Int32) (f_h0_paper_world_folk_hearsayColumn : Nat → Int32) (f_h0_site_world_folk_hearsayLoud : Nat → Int32) (f_h0_paper_world_folk_hearsayLoud : Nat → Int32) (f_h0_site_world_folk_sounds : Nat → Int32) (f_h0_paper_world_folk_sounds : Nat → Int32) (f_h0_site_world_folk_wet : Nat → Int32) (f_h0_paper_world_folk_wet : Nat → Int32) (f_h0_paper_world_term : Nat → Int32) (f_h0_site_world_term : Nat → Int32) (f_h0_site_world_laws : Nat → Option Nat) (f_h0_paper_world_laws : Nat → Option Nat) (h0_paper_diary_kept : Int32) (h0_paper_diary_latest : Int32) (h0_site_diary_kept : Int32) (h0_site_diary_latest : Int32) (f_h0_site_diary_deed : Nat → Int32) (f_h0_paper_diary_deed : Nat → Int32) (f_h0_site_diary_whose : Nat → Int32) (f_h0_paper_diary_whose : Nat → Int32) (f_h0_site_diary_before : Nat → Int32) (f_h0_paper_diary_before : Nat → Int32) (f_h0_site_diary_bucketsBefore : Nat → Int32) (f_h0_paper_diary_bucketsBefore : Nat → Int32) (f_h0_site_diary_dayBefore : Nat → Int32) (f_h0_paper_diary_dayBefore : Nat → Int32) (h0_asker_world : Value) (h0_asker_law : Value) (h0_asker_cell : Int32) (h0_asker_shaft : Int32) (h0_asker_kind : Int32) (h0_asker_done : Int32) (h0_asker_latest : Int32) (h0_asker_value : Int32) (f_h0_asker_stack : Nat → Int64) (t : Nat) (t_clauses : Int32) (t_length : Int32) (n_t_heads : Nat) (f_t_heads : Nat → Int32) (n_t_code : Nat) (f_t_code : Nat → Int32) (f_h0_refusals : Nat → Int32) (TT : Nat → Prop) (xe : XE) (h_h0_reader_length : 0 ≤ h0_reader_length.toInt ∧ h0_reader_length.toInt ≤ 400) (h_f_h0_reader_bytes : BY f_h0_reader_bytes) (h_f_h0_reader_draft_heads : HD f_h0_reader_draft_heads) (h_f_h0_reader_draft_code : CD f_h0_reader_draft_code) (h_h0_paper_world_lawCount : 0 ≤ h0_paper_world_lawCount.toInt ∧ h0_paper_world_lawCount.toInt ≤ 6) (h_h0_paper_world_force : (-1) ≤ h0_paper_world_force.toInt ∧ h0_paper_world_force.toInt ≤ 5) (h_h0_site_world_lawCount : 0 ≤ h0_site_world_lawCount.toInt ∧ h0_site_world_lawCount.toInt ≤ 6) (h_h0_site_world_force : 0 ≤ h0_site_world_force.toInt ∧ h0_site_world_force.toInt ≤ 5) (h_f_h0_site_world_rock_kind : KI f_h0_site_world_rock_kind) (h_f_h0_paper_world_rock_kind : KI f_h0_paper_world_rock_kind) (h_f_h0_site_world_rock_hard : HA f_h0_site_world_rock_hard) (h_f_h0_paper_world_rock_hard : HA f_h0_paper_world_rock_hard) (h_f_h0_site_world_rock_water : WA f_h0_site_world_rock_water) (h_f_h0_paper_world_rock_water : WA f_h0_paper_world_rock_water) (h_h0_paper_world_crew_count : 0 ≤ h0_paper_world_crew_count.toInt ∧ h0_paper_world_crew_count.toInt ≤ 6) (h_h0_site_world_crew_count : 0 ≤ h0_site_world_crew_count.toInt ∧ h0_site_world_crew_count.toInt ≤ 6) (h_f_h0_site_world_crew_cell : CE f_h0_site_world_crew_cell) (h_f_h0_paper_world_crew_cell : CE f_h0_paper_world_crew_cell) (h_f_h0_site_world_crew_buckets : BU f_h0_site_world_crew_buckets) (h_f_h0_paper_world_crew_buckets : BU f_h0_paper_world_crew_buckets) (h_h0_paper_world_folk_listeners : 0 ≤ h0_paper_world_folk_listeners.toInt ∧ h0_paper_world_folk_listeners.toInt ≤ 5) (h_h0_paper_world_folk_noises : 0 ≤ h0_paper_world_folk_noises.toInt ∧ h0_paper_world_folk_noises.toInt ≤ 6) (h_h0_paper_world_folk_hearsay : 0 ≤ h0_paper_world_folk_hearsay.toInt ∧ h0_paper_world_folk_hearsay.toInt ≤ 8) (h_h0_paper_world_folk_wells : 0 ≤ h0_paper_world_folk_wells.toInt ∧ h0_paper_world_folk_wells.toInt ≤ 10) (h_h0_site_world_folk_listeners : 0 ≤ h0_site_world_folk_listeners.toInt ∧ h0_site_world_folk_listeners.toInt ≤ 5) (h_h0_site_world_folk_noises : 0 ≤ h0_site_world_folk_noises.toInt ∧ h0_site_world_folk_noises.toInt ≤ 6) (h_h0_site_world_folk_hearsay : 0 ≤ h0_site_world_folk_hearsay.toInt ∧ h0_site_world_folk_hearsay.toInt ≤ 8) (h_h0_site_world_folk_wells : 0 ≤ h0_site_world_folk_wells.toInt ∧ h0_site_world_folk_wells.toInt ≤ 10) (h_f_h0_site_world_folk_column : CO f_h0_site_world_folk_column) (h_f_h0_paper_world_folk_column : CO f_h0_paper_world_folk_column) (h_f_h0_site_world_folk_ear : EA f_h0_site_world_folk_ear) (h_f_h0_paper_world_folk_ear : EA f_h0_paper_world_folk_ear) (h_f_h0_site_world_folk_noiseColumn : NC f_h0_site_world_folk_noiseColumn) (h_f_h0_paper_world_folk_noiseColumn : NC f_h0_paper_world_folk_noiseColumn) (h_f_h0_site_world_folk_noiseLoud : NL f_h0_site_world_folk_noiseLoud) (h_f_h0_paper_world_folk_noiseLoud : NL f_h0_paper_world_folk_noiseLoud) (h_f_h0_site_world_folk_hearsayColumn : HC f_h0_site_world_folk_hearsayColumn) (h_f_h0_paper_world_folk_hearsayColumn : HC f_h0_paper_world_folk_hearsayColumn) (h_f_h0_site_world_folk_hearsayLoud : HL f_h0_site_world_folk_hearsayLoud) (h_f_h0_paper_world_folk_hearsayLoud : HL f_h0_paper_world_folk_hearsayLoud) (h_f_h0_paper_world_term : TE f_h0_paper_world_term) (h_f_h0_site_world_term : TE f_h0_site_world_term) (h_h0_paper_diary_kept : 0 ≤ h0_paper_diary_kept.toInt ∧ h0_paper_diary_kept.toInt ≤ 16) (h_h0_paper_diary_latest : 0 ≤ h0_paper_diary_latest.toInt ∧ h0_paper_diary_latest.toInt ≤ 15) (h_h0_site_diary_kept : 0 ≤ h0_site_diary_kept.toInt ∧ h0_site_diary_kept.toInt ≤ 16) (h_h0_site_diary_latest : 0 ≤ h0_site_diary_latest.toInt ∧ h0_site_diary_latest.toInt ≤ 15) (h_h0_asker_cell : 0 ≤ h0_asker_cell.toInt ∧ h0_asker_cell.toInt ≤ 39) (h_t_clauses : 0 ≤ t_clauses.toInt ∧ t_clauses.toInt ≤ 12) (h_t_length : 0 ≤ t_length.toInt ∧ t_length.toInt ≤ 400) (h_f_t_code : CD f_t_code) (e_0 : isRf xe.2.2) (e_1 : ∀ k, k < 6 → ∀ v, f_h0_site_world_laws k = some v → TT v ∨ v = t) (e_2 : DI f_h0_site_diary_deed f_h0_site_diary_whose f_h0_site_diary_before f_h0_site_diary_bucketsBefore f_h0_site_diary_dayBefore) (e_3 : t_length.toInt ≤ (n_t_code : Int)) (e_4 : n_t_heads < 100000) (e_5 : h0_site_world_force.toInt < h0_site_world_lawCount.toInt) (e_6 : f_h0_site_world_laws (Int32.toNatClampNeg h0_site_world_force) = some t) {Q : Int32 → (Int32 × Int32 × Int32 × Int32 × Int32 × Int32 × Int32 × Int32 × (Nat → Int32) × (Nat → Int32) × Int32 × Int32 × (Nat → Int32) × (Nat → Int32) × Int32 × Int32 × Int32 × Int32 × Int32 × Int32 × Int64 × Int64 × (Nat → Int32) × (Nat → Int32) × (Nat → Int32) × (Nat → Int32) × (Nat → Int32) × (Nat → Int32) × Int32 × Int32 × (Nat → Int32) × (Nat → Int32) × (Nat → Int32) × (Nat → Int32) × Int32 × Int32 × Int32 × Int32 × Int32 × Int32 × Int32 × Int32 × Int32 × Int32 × (Nat → Int32) × (Nat → Int32) × (Nat → Int32) × (Nat → Int32) × (Nat → Int32) × (Nat → Int32) × (Nat → Int32) × (Nat → Int32) × (Nat → Int32) × (Nat → Int32) × (Nat → Int32) × (Nat → Int32) × (Nat → Int32) × (Nat → Int32) × (Nat → Int32) × (Nat → Int32) × (Nat → Int32) × (Nat → Int32) × (Nat → Option Nat) × (Nat → Option Nat) × Int32 × Int32 × Int32 × Int32 × (Nat → Int32) × (Nat → Int32) × (Nat → Int32) × (Nat → Int32) × (Nat → Int32) × (Nat → Int32) × (Nat → Int32) × (Nat → Int32) × (Nat → Int32) × (Nat → Int32) × Value × Value × Int32 × Int32 × Int32 × Int32 × Int32 × Int32 × (Nat → Int64) × (Nat → Int32)) → Prop} (hq : ∀ (r : Int32) (u_0 : Int32) (u_1 : Int32) (u_2 : Int32) (u_3 : Int32) (u_4 : Int32) (u_5 : Int32) (u_6 : Int32) (u_7 : Int32) (u_8 : Nat → Int32) (u_9 : Nat → Int32) (u_10 : Int32) (u_11 : Int32) (u_12 : Nat → Int32) (u_13 : Nat → Int32) (u_14 : Int32) (u_15 : Int32) (u_16 : Int32) (u_17 : Int32) (u_18 : Int32) (u_19 : Int32) (u_20 : Int64) (u_21 : Int64) (u_22 : Nat → Int32) (u_23 : Nat → Int32) (u_24 : Nat → Int32) (u_25 : Nat → Int32) (u_26 : Nat → Int32) (u_27 : Nat → Int32) (u_28 : Int32) (u_29 : Int32) (u_30 : Nat → Int32) (u_31 : Nat → Int32) (u_32 : Nat → Int32) (u_33 : Nat → Int32) (u_34 : Int32) (u_35 : Int32) (u_36 : Int32) (u_37 : Int32) (u_38 : Int32) (u_39 : Int32) (u_40 : Int32) (u_41 : Int32) (u_42 : Int32) (u_43 : Int32) (u_44 : Nat → Int32) (u_45 : Nat → Int32) (u_46 : Nat → Int32) (u_47 : Nat → Int32) (u_48 : Nat → Int32) (u_49 : Nat → Int32) (u_50 : Nat → Int32) (u_51 : Nat → Int32) (u_52 : Nat → Int32) (u_53 : Nat → Int32) (u_54 : Nat → Int32) (u_55 : Nat → Int32) (u_56 : Nat → Int32) (u_57 : Nat → Int32) (u_58 : Nat → Int32) (u_59 : Nat → Int32) (u_60 : Nat → Int32) (u_61 : Nat → Int32) (u_62 : Nat → Option Nat) (u_63 : Nat → Option Nat) (u_64 : Int32) (u_65 : Int32) (u_66 : Int32) (u_67 : Int32) (u_68 : Nat → Int32) (u_69 : Nat → Int32) (u_70 : Nat → Int32) (u_71 : Nat → Int32) (u_72 : Nat → Int32) (u_73 : Nat → Int32) (u_74 : Nat → Int32) (u_75 : Nat → Int32) (u_76 : Nat → Int32) (u_77 : Nat → Int32) (u_78 : Value) (u_79 : Value) (u_80 : Int32) (u_81 : Int32) (u_82 : Int32) (u_83 : Int32) (u_84 : Int32) (u_85 : Int32) (u_86 : Nat → Int64) (u_87 : Nat → Int32), (0 ≤ u_2.toInt ∧ u_2.toInt ≤ 400) ∧ (0 ≤ u_3.toInt ∧ u_3.toInt ≤ 401) ∧ (0 ≤ u_6.toInt ∧ u_6.toInt ≤ 1) ∧ (0 ≤ u_10.toInt ∧ u_10.toInt ≤ 12) ∧ (0 ≤ u_11.toInt ∧ u_11.toInt ≤ 400) ∧ (HD u_12) ∧ (CD u_13) ∧ (0 ≤ u_16.toInt ∧ u_16.toInt ≤ 6) ∧ ((-1) ≤ u_17.toInt ∧ u_17.toInt ≤ 5) ∧ (0 ≤ u_18.toInt ∧ u_18.toInt ≤ 6) ∧ ((-1) ≤ u_19.toInt ∧ u_19.toInt ≤ 5) ∧ (KI u_22) ∧ (KI u_23) ∧ (HA u_24) ∧ (HA u_25) ∧ (WA u_26) ∧ (WA u_27) ∧ (0 ≤ u_28.toInt ∧ u_28.toInt ≤ 6) ∧ (0 ≤ u_29.toInt ∧ u_29.toInt ≤ 6) ∧ (CE u_30) ∧ (CE u_31) ∧ (BU u_32) ∧ (BU u_33) ∧ (0 ≤ u_34.toInt ∧ u_34.toInt ≤ 5) ∧ (0 ≤ u_35.toInt ∧ u_35.toInt ≤ 6) ∧ (0 ≤ u_37.toInt ∧ u_37.toInt ≤ 8) ∧ (0 ≤ u_38.toInt ∧ u_38.toInt ≤ 10) ∧ (0 ≤ u_39.toInt ∧ u_39.toInt ≤ 5) ∧ (0 ≤ u_40.toInt ∧ u_40.toInt ≤ 6) ∧ (0 ≤ u_42.toInt ∧ u_42.toInt ≤ 8) ∧ (0 ≤ u_43.toInt ∧ u_43.toInt ≤ 10) ∧ (CO u_44) ∧ (CO u_45) ∧ (EA u_46) ∧ (EA u_47) ∧ (NC u_48) ∧ (NC u_49) ∧ (NL u_50) ∧ (NL u_51) ∧ (HC u_52) ∧ (HC u_53) ∧ (HL u_54) ∧ (HL u_55) ∧ (TE u_60) ∧ (TE u_61) ∧ (0 ≤ u_64.toInt ∧ u_64.toInt ≤ 16) ∧ (0 ≤ u_65.toInt ∧ u_65.toInt ≤ 15) ∧ (0 ≤ u_66.toInt ∧ u_66.toInt ≤ 16) ∧ (0 ≤ u_67.toInt ∧ u_67.toInt ≤ 15) ∧ (0 ≤ u_80.toInt ∧ u_80.toInt ≤ 39) ∧ (∀ k, k < 6 → u_62 k = f_h0_site_world_laws k) ∧ (u_18 = h0_site_world_lawCount) ∧ (u_19 = h0_site_world_force) ∧ (DI u_68 u_70 u_72 u_74 u_76) → Q r (u_0, u_1, u_2, u_3, u_4, u_5, u_6, u_7, u_8, u_9, u_10, u_11, u_12, u_13, u_14, u_15, u_16, u_17, u_18, u_19, u_20, u_21, u_22, u_23, u_24, u_25, u_26, u_27, u_28, u_29, u_30, u_31, u_32, u_33, u_34, u_35, u_36, u_37, u_38, u_39, u_40, u_41, u_42, u_43, u_44, u_45, u_46, u_47, u_48, u_49, u_50, u_51, u_52, u_53, u_54, u_55, u_56, u_57, u_58, u_59, u_60, u_61, u_62, u_63, u_64, u_65, u_66, u_67, u_68, u_69, u_70, u_71, u_72, u_73, u_74, u_75, u_76, u_77, u_78, u_79, u_80, u_81, u_82, u_83, u_84, u_85, u_86, u_87)) : wp_X11_orders_T h0_reader_length h0_reader_faultPlace f_h0_reader_bytes f_h0_reader_tokens f_h0_reader_places f_h0_reader_draft_heads f_h0_reader_draft_code h0_paper_world h0_paper_done h0_paper_latest h0_paper_world_lawCount h0_paper_world_force h0_site_world_lawCount h0_site_world_force h0_paper_world_rock_dug h0_site_world_rock_dug f_h0_site_world_rock_kind f_h0_paper_world_rock_kind f_h0_site_world_rock_hard f_h0_paper_world_rock_hard f_h0_site_world_rock_water f_h0_paper_world_rock_water h0_paper_world_crew_count h0_site_world_crew_count f_h0_site_world_crew_cell f_h0_paper_world_crew_cell f_h0_site_world_crew_buckets f_h0_paper_world_crew_buckets h0_paper_world_folk_listeners h0_paper_world_folk_noises h0_paper_world_folk_hushed h0_paper_world_folk_hearsay h0_paper_world_folk_wells h0_site_world_folk_listeners h0_site_world_folk_noises h0_site_world_folk_hushed h0_site_world_folk_hearsay h0_site_world_folk_wells f_h0_site_world_folk_column f_h0_paper_world_folk_column f_h0_site_world_folk_ear f_h0_paper_world_folk_ear f_h0_site_world_folk_noiseColumn f_h0_paper_world_folk_noiseColumn f_h0_site_world_folk_noiseLoud f_h0_paper_world_folk_noiseLoud f_h0_site_world_folk_hearsayColumn f_h0_paper_world_folk_hearsayColumn f_h0_site_world_folk_hearsayLoud f_h0_paper_world_folk_hearsayLoud f_h0_site_world_folk_sounds f_h0_paper_world_folk_sounds f_h0_site_world_folk_wet f_h0_paper_world_folk_wet f_h0_paper_world_term f_h0_site_world_term f_h0_site_world_laws f_h0_paper_world_laws h0_paper_diary_kept h0_paper_diary_latest h0_site_diary_kept h0_site_diary_latest f_h0_site_diary_deed f_h0_paper_diary_deed f_h0_site_diary_whose f_h0_paper_diary_whose f_h0_site_diary_before f_h0_paper_diary_before f_h0_site_diary_bucketsBefore f_h0_paper_diary_bucketsBefore f_h0_site_diary_dayBefore f_h0_paper_diary_dayBefore h0_asker_world h0_asker_law h0_asker_cell h0_asker_shaft h0_asker_kind h0_asker_done h0_asker_latest h0_asker_value f_h0_asker_stack t t_clauses t_length n_t_heads f_t_heads n_t_code f_t_code f_h0_refusals TT xe Q := by
  unfold wp_X11_orders_T
  refine s_X5_read 1 h0_reader_length h0_reader_faultPlace (f_h0_reader_bytes) (f_h0_reader_tokens) (f_h0_reader_places) (f_h0_reader_draft_heads) (f_h0_reader_draft_code) xe (by decide) ⟨by omega, by omega⟩ h_f_h0_reader_bytes h_f_h0_reader_draft_heads h_f_h0_reader_draft_code e_0 (fun r1 u2_0 u2_1 u2_2 u2_3 u2_4 u2_5 u2_6 u2_7 u2_8 u2_9 u2_10 u2_11 H3 => ?_)
  have j4 := H3.1
  have j5 := H3.2.1
  have j6 := H3.2.2.1
  have j7 := H3.2.2.2.1
  have j8 := H3.2.2.2.2.1
  have j9 := H3.2.2.2.2.2.1
  have j10 := H3.2.2.2.2.2.2.1
  have j11 := H3.2.2.2.2.2.2.2
  refine un12_i ?_
  by_cases c12 : r1 = 0
  · refine br1 c12 ?_
    have d13 := eq_z (a := r1) (b := 0) (x := (Int32.toInt r1)) (y := 0) rfl rfl c12
    refine o_X11_settle _ _ _ ?_
    refine jn_s ?_
    refine br0 (by decide) ?_
    refine br0 (by decide) ?_
    refine br0 (by decide) ?_
    refine ⟨by unfold vp_in; decide, ?_⟩
    refine ⟨by unfold vp_in; decide, ?_⟩
    refine un2_i ?_
    have k14 : Int32.toInt (-6) = (-6) := (by decide)
    have k15 : Int32.toInt (-1) = (-1) := (by decide)
    exact hq _ _ _ _ _ _ _ _ _ _ _ _ _ _ _ _ _ _ _ _ _ _ _ _ _ _ _ _ _ _ _ _ _ _ _ _ _ _ _ _ _ _ _ _ _ _ _ _ _ _ _ _ _ _ _ _ _ _ _ _ _ _ _ _ _ _ _ _ _ _ _ _ _ _ _ _ _ _ _ _ _ _ _ _ _ _ _ _ _ ⟨⟨by omega, by omega⟩, ⟨by omega, by omega⟩, ⟨by omega, by omega⟩, ⟨by omega, by omega⟩, ⟨by omega, by omega⟩, j10, j11, ⟨by omega, by omega⟩, ⟨by omega, by omega⟩, ⟨by omega, by omega⟩, ⟨by omega, by omega⟩, h_f_h0_site_world_rock_kind, h_f_h0_paper_world_rock_kind, h_f_h0_site_world_rock_hard, h_f_h0_paper_world_rock_hard, h_f_h0_site_world_rock_water, h_f_h0_paper_world_rock_water, ⟨by omega, by omega⟩, ⟨by omega, by omega⟩, h_f_h0_site_world_crew_cell, h_f_h0_paper_world_crew_cell, h_f_h0_site_world_crew_buckets, h_f_h0_paper_world_crew_buckets, ⟨by omega, by omega⟩, ⟨by omega, by omega⟩, ⟨by omega, by omega⟩, ⟨by omega, by omega⟩, ⟨by omega, by omega⟩, ⟨by omega, by omega⟩, ⟨by omega, by omega⟩, ⟨by omega, by omega⟩, h_f_h0_site_world_folk_column, h_f_h0_paper_world_folk_column, h_f_h0_site_world_folk_ear, h_f_h0_paper_world_folk_ear, h_f_h0_site_world_folk_noiseColumn, h_f_h0_paper_world_folk_noiseColumn, h_f_h0_site_world_folk_noiseLoud, h_f_h0_paper_world_folk_noiseLoud, h_f_h0_site_world_folk_hearsayColumn, h_f_h0_paper_world_folk_hearsayColumn, h_f_h0_site_world_folk_hearsayLoud, h_f_h0_paper_world_folk_hearsayLoud, h_f_h0_paper_world_term, h_f_h0_site_world_term, ⟨by omega, by omega⟩, ⟨by omega, by omega⟩, ⟨by omega, by omega⟩, ⟨by omega, by omega⟩, ⟨by omega, by omega⟩, (fun k hk => rfl), rfl, rfl, e_2⟩
  · refine br0 c12 ?_
    have d16 := ne_z (a := r1) (b := 0) (x := (Int32.toInt r1)) (y := 0) rfl rfl c12
    refine s_X7_copyFrom h0_site_world_lawCount h0_site_world_force h0_site_world_rock_dug (f_h0_site_world_rock_kind) (f_h0_paper_world_rock_kind) (f_h0_site_world_rock_hard) (f_h0_paper_world_rock_hard) (f_h0_site_world_rock_water) (f_h0_paper_world_rock_water) h0_site_world_crew_count (f_h0_site_world_crew_cell) (f_h0_paper_world_crew_cell) (f_h0_site_world_crew_buckets) (f_h0_paper_world_crew_buckets) h0_site_world_folk_listeners h0_site_world_folk_noises h0_site_world_folk_hushed h0_site_world_folk_hearsay h0_site_world_folk_wells (f_h0_site_world_folk_column) (f_h0_paper_world_folk_column) (f_h0_site_world_folk_ear) (f_h0_paper_world_folk_ear) (f_h0_site_world_folk_noiseColumn) (f_h0_paper_world_folk_noiseColumn) (f_h0_site_world_folk_noiseLoud) (f_h0_paper_world_folk_noiseLoud) (f_h0_site_world_folk_hearsayColumn) (f_h0_paper_world_folk_hearsayColumn) (f_h0_site_world_folk_hearsayLoud) (f_h0_paper_world_folk_hearsayLoud) (f_h0_site_world_folk_sounds) (f_h0_paper_world_folk_sounds) (f_h0_site_world_folk_wet) (f_h0_paper_world_folk_wet) (f_h0_paper_world_term) (f_h0_site_world_term) (f_h0_site_world_laws) (f_h0_paper_world_laws) h0_site_diary_kept h0_site_diary_latest (f_h0_site_diary_deed) (f_h0_paper_diary_deed) (f_h0_site_diary_whose) (f_h0_paper_diary_whose) (f_h0_site_diary_before) (f_h0_paper_diary_before) (f_h0_site_diary_bucketsBefore) (f_h0_paper_diary_bucketsBefore) (f_h0_site_diary_dayBefore) (f_h0_paper_diary_dayBefore) (fun v => TT v ∨ v = t) ⟨by omega, by omega⟩ ⟨by omega, by omega⟩ h_f_h0_site_world_rock_kind h_f_h0_paper_world_rock_kind h_f_h0_site_world_rock_hard h_f_h0_paper_world_rock_hard h_f_h0_site_world_rock_water h_f_h0_paper_world_rock_water ⟨by omega, by omega⟩ h_f_h0_site_world_crew_cell h_f_h0_paper_world_crew_cell h_f_h0_site_world_crew_buckets h_f_h0_paper_world_crew_buckets ⟨by omega, by omega⟩ ⟨by omega, by omega⟩ ⟨by omega, by omega⟩ ⟨by omega, by omega⟩ h_f_h0_site_world_folk_column h_f_h0_paper_world_folk_column h_f_h0_site_world_folk_ear h_f_h0_paper_world_folk_ear h_f_h0_site_world_folk_noiseColumn h_f_h0_paper_world_folk_noiseColumn h_f_h0_site_world_folk_noiseLoud h_f_h0_paper_world_folk_noiseLoud h_f_h0_site_world_folk_hearsayColumn h_f_h0_paper_world_folk_hearsayColumn h_f_h0_site_world_folk_hearsayLoud h_f_h0_paper_world_folk_hearsayLoud h_f_h0_paper_world_term h_f_h0_site_world_term ⟨by omega, by omega⟩ ⟨by omega, by omega⟩ e_1 e_2 (fun u17_0 u17_1 u17_2 u17_3 u17_4 u17_5 u17_6 u17_7 u17_8 u17_9 u17_10 u17_11 u17_12 u17_13 u17_14 u17_15 u17_16 u17_17 u17_18 u17_19 u17_20 u17_21 u17_22 u17_23 u17_24 u17_25 u17_26 u17_27 u17_28 u17_29 u17_30 H18 => ?_)
    have j19 := H18.1
    have j20 := H18.2.1
    have j21 := H18.2.2.1
    have j22 := H18.2.2.2.1
    have j23 := H18.2.2.2.2.1
    have j24 := H18.2.2.2.2.2.1
    have j25 := H18.2.2.2.2.2.2.1
    have j26 := H18.2.2.2.2.2.2.2.1
    have j27 := H18.2.2.2.2.2.2.2.2.1
    have j28 := H18.2.2.2.2.2.2.2.2.2.1
    have j29 := H18.2.2.2.2.2.2.2.2.2.2.1
    have j30 := H18.2.2.2.2.2.2.2.2.2.2.2.1
    have j31 := H18.2.2.2.2.2.2.2.2.2.2.2.2.1
    have j32 := H18.2.2.2.2.2.2.2.2.2.2.2.2.2.1
    have j33 := H18.2.2.2.2.2.2.2.2.2.2.2.2.2.2.1
    have j34 := H18.2.2.2.2.2.2.2.2.2.2.2.2.2.2.2.1
    have j35 := H18.2.2.2.2.2.2.2.2.2.2.2.2.2.2.2.2.1
    have j36 := H18.2.2.2.2.2.2.2.2.2.2.2.2.2.2.2.2.2.1
    have j37 := H18.2.2.2.2.2.2.2.2.2.2.2.2.2.2.2.2.2.2.1
    have j38 := H18.2.2.2.2.2.2.2.2.2.2.2.2.2.2.2.2.2.2.2.1
    have j39 := H18.2.2.2.2.2.2.2.2.2.2.2.2.2.2.2.2.2.2.2.2.1
    have j40 := H18.2.2.2.2.2.2.2.2.2.2.2.2.2.2.2.2.2.2.2.2.2.1
    have j41 := H18.2.2.2.2.2.2.2.2.2.2.2.2.2.2.2.2.2.2.2.2.2.2.1
    have j42 := H18.2.2.2.2.2.2.2.2.2.2.2.2.2.2.2.2.2.2.2.2.2.2.2.1
    have j43 := H18.2.2.2.2.2.2.2.2.2.2.2.2.2.2.2.2.2.2.2.2.2.2.2.2
    refine un31_i ?_
    have zu17_1 : (u17_1).toInt = (h0_site_world_force).toInt := congrArg Int32.toInt j42
    have zu17_0 : (u17_0).toInt = (h0_site_world_lawCount).toInt := congrArg Int32.toInt j41
    have wu17_1 : u17_23 (Int32.toNatClampNeg u17_1) = some t := by rw [j42, j40 _ (by have q9 := tnz (i := h0_site_world_force) (x := h0_site_world_force.toInt) rfl (by omega); omega)]; assumption
    have lw44 := fun k hk v (hv : u17_23 k = some v) => e_1 k hk v ((j40 k hk).symm.trans hv)
    refine s_X7_runOrders_T h0_paper_world u2_8 u2_9 60 (u2_10) h0_asker_world h0_asker_law h0_asker_cell h0_asker_shaft h0_asker_kind h0_asker_done h0_asker_latest h0_asker_value 400 (u2_11) (f_h0_asker_stack) u17_0 u17_1 u17_9 u17_10 u17_11 (u17_14) u17_2 (u17_4) (u17_5) (u17_22) u17_6 (u17_7) (u17_8) (u17_3) (u17_23) t t_clauses t_length n_t_heads (f_t_heads) n_t_code (f_t_code) u17_24 u17_25 (u17_26) (u17_27) (u17_28) (u17_29) (u17_30) (u17_16) (u17_17) ⟨by omega, by omega⟩ ⟨by omega, by omega⟩ j10 ⟨by omega, by omega⟩ j11 ⟨by omega, by omega⟩ ⟨by omega, by omega⟩ ⟨by omega, by omega⟩ ⟨by omega, by omega⟩ j31 j22 j23 j37 ⟨by omega, by omega⟩ j25 j26 j21 ⟨by omega, by omega⟩ ⟨by omega, by omega⟩ h_f_t_code ⟨by omega, by omega⟩ ⟨by omega, by omega⟩ j33 j34 (by omega) (by omega) (by omega) (by omega) (by omega) (by assumption) j43 (fun r45 u46_0 u46_1 u46_2 u46_3 u46_4 u46_5 u46_6 u46_7 u46_8 u46_9 u46_10 u46_11 u46_12 u46_13 u46_14 u46_15 u46_16 u46_17 u46_18 u46_19 u46_20 u46_21 u46_22 u46_23 u46_24 H47 => ?_)
    have j48 := H47.1
    have j49 := H47.2.1
    have j50 := H47.2.2.1
    have j51 := H47.2.2.2.1
    have j52 := H47.2.2.2.2.1
    have j53 := H47.2.2.2.2.2.1
    have j54 := H47.2.2.2.2.2.2.1
    have j55 := H47.2.2.2.2.2.2.2.1
    have j56 := H47.2.2.2.2.2.2.2.2.1
    have j57 := H47.2.2.2.2.2.2.2.2.2
    refine un25_i ?_
    by_cases c58 : r45 = (-1)
    · refine br1 c58 ?_
      have d59 := eq_z (a := r45) (b := (-1)) (x := (Int32.toInt r45)) (y := (-1)) rfl (by decide) c58
      refine s_X7_copyFrom u17_0 u17_1 u46_13 (u17_3) (f_h0_site_world_rock_kind) (u17_4) (f_h0_site_world_rock_hard) (u46_14) (f_h0_site_world_rock_water) u17_6 (u46_16) (f_h0_site_world_crew_cell) (u46_17) (f_h0_site_world_crew_buckets) u17_9 u17_10 u46_11 u17_12 u17_13 (u46_12) (f_h0_site_world_folk_column) (u17_15) (f_h0_site_world_folk_ear) (u17_16) (f_h0_site_world_folk_noiseColumn) (u17_17) (f_h0_site_world_folk_noiseLoud) (u17_18) (f_h0_site_world_folk_hearsayColumn) (u17_19) (f_h0_site_world_folk_hearsayLoud) (u17_20) (f_h0_site_world_folk_sounds) (u17_21) (f_h0_site_world_folk_wet) (f_h0_site_world_term) (u46_15) (u17_23) (f_h0_site_world_laws) u46_18 u46_19 (u46_20) (f_h0_site_diary_deed) (u46_21) (f_h0_site_diary_whose) (u46_22) (f_h0_site_diary_before) (u46_23) (f_h0_site_diary_bucketsBefore) (u46_24) (f_h0_site_diary_dayBefore) (fun v => TT v ∨ v = t) ⟨by omega, by omega⟩ ⟨by omega, by omega⟩ j21 h_f_h0_site_world_rock_kind j22 h_f_h0_site_world_rock_hard j51 h_f_h0_site_world_rock_water ⟨by omega, by omega⟩ j53 h_f_h0_site_world_crew_cell j54 h_f_h0_site_world_crew_buckets ⟨by omega, by omega⟩ ⟨by omega, by omega⟩ ⟨by omega, by omega⟩ ⟨by omega, by omega⟩ j50 h_f_h0_site_world_folk_column j32 h_f_h0_site_world_folk_ear j33 h_f_h0_site_world_folk_noiseColumn j34 h_f_h0_site_world_folk_noiseLoud j35 h_f_h0_site_world_folk_hearsayColumn j36 h_f_h0_site_world_folk_hearsayLoud h_f_h0_site_world_term j52 ⟨by omega, by omega⟩ ⟨by omega, by omega⟩ lw44 j57 (fun u60_0 u60_1 u60_2 u60_3 u60_4 u60_5 u60_6 u60_7 u60_8 u60_9 u60_10 u60_11 u60_12 u60_13 u60_14 u60_15 u60_16 u60_17 u60_18 u60_19 u60_20 u60_21 u60_22 u60_23 u60_24 u60_25 u60_26 u60_27 u60_28 u60_29 u60_30 H61 => ?_)
      have j62 := H61.1
      have j63 := H61.2.1
      have j64 := H61.2.2.1
      have j65 := H61.2.2.2.1
      have j66 := H61.2.2.2.2.1
      have j67 := H61.2.2.2.2.2.1
      have j68 := H61.2.2.2.2.2.2.1
      have j69 := H61.2.2.2.2.2.2.2.1
      have j70 := H61.2.2.2.2.2.2.2.2.1
      have j71 := H61.2.2.2.2.2.2.2.2.2.1
      have j72 := H61.2.2.2.2.2.2.2.2.2.2.1
      have j73 := H61.2.2.2.2.2.2.2.2.2.2.2.1
      have j74 := H61.2.2.2.2.2.2.2.2.2.2.2.2.1
      have j75 := H61.2.2.2.2.2.2.2.2.2.2.2.2.2.1
      have j76 := H61.2.2.2.2.2.2.2.2.2.2.2.2.2.2.1
      have j77 := H61.2.2.2.2.2.2.2.2.2.2.2.2.2.2.2.1
      have j78 := H61.2.2.2.2.2.2.2.2.2.2.2.2.2.2.2.2.1
      have j79 := H61.2.2.2.2.2.2.2.2.2.2.2.2.2.2.2.2.2.1
      have j80 := H61.2.2.2.2.2.2.2.2.2.2.2.2.2.2.2.2.2.2.1
      have j81 := H61.2.2.2.2.2.2.2.2.2.2.2.2.2.2.2.2.2.2.2.1
      have j82 := H61.2.2.2.2.2.2.2.2.2.2.2.2.2.2.2.2.2.2.2.2.1
      have j83 := H61.2.2.2.2.2.2.2.2.2.2.2.2.2.2.2.2.2.2.2.2.2.1
      have j84 := H61.2.2.2.2.2.2.2.2.2.2.2.2.2.2.2.2.2.2.2.2.2.2.1
      have j85 := H61.2.2.2.2.2.2.2.2.2.2.2.2.2.2.2.2.2.2.2.2.2.2.2.1
      have j86 := H61.2.2.2.2.2.2.2.2.2.2.2.2.2.2.2.2.2.2.2.2.2.2.2.2
      refine un31_i ?_
      have zu60_1 : (u60_1).toInt = (u17_1).toInt := congrArg Int32.toInt j85
      have zu60_0 : (u60_0).toInt = (u17_0).toInt := congrArg Int32.toInt j84
      refine o_X11_settle _ _ _ ?_
      refine jn_s ?_
      refine br1 (z_le (x := 0) (y := (Int32.toInt u46_0)) rfl rfl (by omega)) ?_
      refine br1 (z_le (x := 0) (y := (Int32.toInt u46_0)) rfl rfl (by omega)) ?_
      refine un2_i ?_
      have k87 : Int32.toInt (-1) = (-1) := (by decide)
      have k88 : Int32.toInt 0 = 0 := rfl
      exact hq _ _ _ _ _ _ _ _ _ _ _ _ _ _ _ _ _ _ _ _ _ _ _ _ _ _ _ _ _ _ _ _ _ _ _ _ _ _ _ _ _ _ _ _ _ _ _ _ _ _ _ _ _ _ _ _ _ _ _ _ _ _ _ _ _ _ _ _ _ _ _ _ _ _ _ _ _ _ _ _ _ _ _ _ _ _ _ _ _ ⟨⟨by omega, by omega⟩, ⟨by omega, by omega⟩, ⟨by omega, by omega⟩, ⟨by omega, by omega⟩, ⟨by omega, by omega⟩, j10, j11, ⟨by omega, by omega⟩, ⟨by omega, by omega⟩, ⟨by omega, by omega⟩, ⟨by omega, by omega⟩, j64, j21, j65, j22, j66, j51, ⟨by omega, by omega⟩, ⟨by omega, by omega⟩, j68, j53, j69, j54, ⟨by omega, by omega⟩, ⟨by omega, by omega⟩, ⟨by omega, by omega⟩, ⟨by omega, by omega⟩, ⟨by omega, by omega⟩, ⟨by omega, by omega⟩, ⟨by omega, by omega⟩, ⟨by omega, by omega⟩, j74, j50, j75, j32, j76, j33, j77, j34, j78, j35, j79, j36, j52, j80, ⟨by omega, by omega⟩, ⟨by omega, by omega⟩, ⟨by omega, by omega⟩, ⟨by omega, by omega⟩, ⟨by omega, by omega⟩, (fun k hk => (j83 k hk).trans (j40 k hk)), (j84.trans j41), (j85.trans j42), j86⟩
    · refine br0 c58 ?_
      have d89 := ne_z (a := r45) (b := (-1)) (x := (Int32.toInt r45)) (y := (-1)) rfl (by decide) c58
      refine o_X11_settle _ _ _ ?_
      refine jn_s ?_
      refine br0 (by decide) ?_
      refine br0 (by decide) ?_
      refine br0 (by decide) ?_
      refine ⟨by unfold vp_in; decide, ?_⟩
      refine ⟨by unfold vp_in; decide, ?_⟩
      refine un2_i ?_
      have k90 : Int32.toInt (-3) = (-3) := (by decide)
      exact hq _ _ _ _ _ _ _ _ _ _ _ _ _ _ _ _ _ _ _ _ _ _ _ _ _ _ _ _ _ _ _ _ _ _ _ _ _ _ _ _ _ _ _ _ _ _ _ _ _ _ _ _ _ _ _ _ _ _ _ _ _ _ _ _ _ _ _ _ _ _ _ _ _ _ _ _ _ _ _ _ _ _ _ _ _ _ _ _ _ ⟨⟨by omega, by omega⟩, ⟨by omega, by omega⟩, ⟨by omega, by omega⟩, ⟨by omega, by omega⟩, ⟨by omega, by omega⟩, j10, j11, ⟨by omega, by omega⟩, ⟨by omega, by omega⟩, ⟨by omega, by omega⟩, ⟨by omega, by omega⟩, h_f_h0_site_world_rock_kind, j21, h_f_h0_site_world_rock_hard, j22, h_f_h0_site_world_rock_water, j51, ⟨by omega, by omega⟩, ⟨by omega, by omega⟩, h_f_h0_site_world_crew_cell, j53, h_f_h0_site_world_crew_buckets, j54, ⟨by omega, by omega⟩, ⟨by omega, by omega⟩, ⟨by omega, by omega⟩, ⟨by omega, by omega⟩, ⟨by omega, by omega⟩, ⟨by omega, by omega⟩, ⟨by omega, by omega⟩, ⟨by omega, by omega⟩, h_f_h0_site_world_folk_column, j50, h_f_h0_site_world_folk_ear, j32, h_f_h0_site_world_folk_noiseColumn, j33, h_f_h0_site_world_folk_noiseLoud, j34, h_f_h0_site_world_folk_hearsayColumn, j35, h_f_h0_site_world_folk_hearsayLoud, j36, j52, h_f_h0_site_world_term, ⟨by omega, by omega⟩, ⟨by omega, by omega⟩, ⟨by omega, by omega⟩, ⟨by omega, by omega⟩, ⟨by omega, by omega⟩, (fun k hk => rfl), rfl, rfl, e_2⟩


set_option maxRecDepth 100000 in
theorem s_X11_image (a : Int32) (w0_lawCount : Int32) (w0_force : Int32) (h0_site_world_lawCount : Int32) (h0_site_world_force : Int32) (w0_rock_dug : Int64) (h0_site_world_rock_dug : Int64) (f_h0_site_world_rock_kind : Nat → Int32) (f_w0_rock_kind : Nat → Int32) (f_h0_site_world_rock_hard : Nat → Int32) (f_w0_rock_hard : Nat → Int32) (f_h0_site_world_rock_water : Nat → Int32) (f_w0_rock_water : Nat → Int32) (w0_crew_count : Int32) (h0_site_world_crew_count : Int32) (f_h0_site_world_crew_cell : Nat → Int32) (f_w0_crew_cell : Nat → Int32) (f_h0_site_world_crew_buckets : Nat → Int32) (f_w0_crew_buckets : Nat → Int32) (w0_folk_listeners : Int32) (w0_folk_noises : Int32) (w0_folk_hushed : Int32) (w0_folk_hearsay : Int32) (w0_folk_wells : Int32) (h0_site_world_folk_listeners : Int32) (h0_site_world_folk_noises : Int32) (h0_site_world_folk_hushed : Int32) (h0_site_world_folk_hearsay : Int32) (h0_site_world_folk_wells : Int32) (f_h0_site_world_folk_column : Nat → Int32) (f_w0_folk_column : Nat → Int32) (f_h0_site_world_folk_ear : Nat → Int32) (f_w0_folk_ear : Nat → Int32) (f_h0_site_world_folk_noiseColumn : Nat → Int32) (f_w0_folk_noiseColumn : Nat → Int32) (f_h0_site_world_folk_noiseLoud : Nat → Int32) (f_w0_folk_noiseLoud : Nat → Int32) (f_h0_site_world_folk_hearsayColumn : Nat → Int32) (f_w0_folk_hearsayColumn : Nat → Int32) (f_h0_site_world_folk_hearsayLoud : Nat → Int32) (f_w0_folk_hearsayLoud : Nat → Int32) (f_h0_site_world_folk_sounds : Nat → Int32) (f_w0_folk_sounds : Nat → Int32) (f_h0_site_world_folk_wet : Nat → Int32) (f_w0_folk_wet : Nat → Int32) (f_w0_term : Nat → Int32) (f_h0_site_world_term : Nat → Int32) (f_h0_site_world_laws : Nat → Option Nat) (f_w0_laws : Nat → Option Nat) (f_h0_kept : Nat → Int32) (f_h0_refusals : Nat → Int32) (w1_lawCount : Int32) (w1_force : Int32) (w1_rock_dug : Int64) (f_w1_rock_kind : Nat → Int32) (f_w1_rock_hard : Nat → Int32) (f_w1_rock_water : Nat → Int32) (w1_crew_count : Int32) (f_w1_crew_cell : Nat → Int32) (f_w1_crew_buckets : Nat → Int32) (w1_folk_listeners : Int32) (w1_folk_noises : Int32) (w1_folk_hushed : Int32) (w1_folk_hearsay : Int32) (w1_folk_wells : Int32) (f_w1_folk_column : Nat → Int32) (f_w1_folk_ear : Nat → Int32) (f_w1_folk_noiseColumn : Nat → Int32) (f_w1_folk_noiseLoud : Nat → Int32) (f_w1_folk_hearsayColumn : Nat → Int32) (f_w1_folk_hearsayLoud : Nat → Int32) (f_w1_folk_sounds : Nat → Int32) (f_w1_folk_wet : Nat → Int32) (f_w1_term : Nat → Int32) (f_w1_laws : Nat → Option Nat) (TT : Nat → Prop) (h_w0_lawCount : 0 ≤ w0_lawCount.toInt ∧ w0_lawCount.toInt ≤ 6) (h_w0_force : (-1) ≤ w0_force.toInt ∧ w0_force.toInt ≤ 5) (h_h0_site_world_lawCount : 0 ≤ h0_site_world_lawCount.toInt ∧ h0_site_world_lawCount.toInt ≤ 6) (h_h0_site_world_force : (-1) ≤ h0_site_world_force.toInt ∧ h0_site_world_force.toInt ≤ 5) (h_f_h0_site_world_rock_kind : KI f_h0_site_world_rock_kind) (h_f_w0_rock_kind : KI f_w0_rock_kind) (h_f_h0_site_world_rock_hard : HA f_h0_site_world_rock_hard) (h_f_w0_rock_hard : HA f_w0_rock_hard) (h_f_h0_site_world_rock_water : WA f_h0_site_world_rock_water) (h_f_w0_rock_water : WA f_w0_rock_water) (h_w0_crew_count : 0 ≤ w0_crew_count.toInt ∧ w0_crew_count.toInt ≤ 6) (h_h0_site_world_crew_count : 0 ≤ h0_site_world_crew_count.toInt ∧ h0_site_world_crew_count.toInt ≤ 6) (h_f_h0_site_world_crew_cell : CE f_h0_site_world_crew_cell) (h_f_w0_crew_cell : CE f_w0_crew_cell) (h_f_h0_site_world_crew_buckets : BU f_h0_site_world_crew_buckets) (h_f_w0_crew_buckets : BU f_w0_crew_buckets) (h_w0_folk_listeners : 0 ≤ w0_folk_listeners.toInt ∧ w0_folk_listeners.toInt ≤ 5) (h_w0_folk_noises : 0 ≤ w0_folk_noises.toInt ∧ w0_folk_noises.toInt ≤ 6) (h_w0_folk_hearsay : 0 ≤ w0_folk_hearsay.toInt ∧ w0_folk_hearsay.toInt ≤ 8) (h_w0_folk_wells : 0 ≤ w0_folk_wells.toInt ∧ w0_folk_wells.toInt ≤ 10) (h_h0_site_world_folk_listeners : 0 ≤ h0_site_world_folk_listeners.toInt ∧ h0_site_world_folk_listeners.toInt ≤ 5) (h_h0_site_world_folk_noises : 0 ≤ h0_site_world_folk_noises.toInt ∧ h0_site_world_folk_noises.toInt ≤ 6) (h_h0_site_world_folk_hearsay : 0 ≤ h0_site_world_folk_hearsay.toInt ∧ h0_site_world_folk_hearsay.toInt ≤ 8) (h_h0_site_world_folk_wells : 0 ≤ h0_site_world_folk_wells.toInt ∧ h0_site_world_folk_wells.toInt ≤ 10) (h_f_h0_site_world_folk_column : CO f_h0_site_world_folk_column) (h_f_w0_folk_column : CO f_w0_folk_column) (h_f_h0_site_world_folk_ear : EA f_h0_site_world_folk_ear) (h_f_w0_folk_ear : EA f_w0_folk_ear) (h_f_h0_site_world_folk_noiseColumn : NC f_h0_site_world_folk_noiseColumn) (h_f_w0_folk_noiseColumn : NC f_w0_folk_noiseColumn) (h_f_h0_site_world_folk_noiseLoud : NL f_h0_site_world_folk_noiseLoud) (h_f_w0_folk_noiseLoud : NL f_w0_folk_noiseLoud) (h_f_h0_site_world_folk_hearsayColumn : HC f_h0_site_world_folk_hearsayColumn) (h_f_w0_folk_hearsayColumn : HC f_w0_folk_hearsayColumn) (h_f_h0_site_world_folk_hearsayLoud : HL f_h0_site_world_folk_hearsayLoud) (h_f_w0_folk_hearsayLoud : HL f_w0_folk_hearsayLoud) (h_f_w0_term : TE f_w0_term) (h_f_h0_site_world_term : TE f_h0_site_world_term) (h_w1_lawCount : 0 ≤ w1_lawCount.toInt ∧ w1_lawCount.toInt ≤ 6) (h_w1_force : (-1) ≤ w1_force.toInt ∧ w1_force.toInt ≤ 5) (h_f_w1_rock_kind : KI f_w1_rock_kind) (h_f_w1_rock_hard : HA f_w1_rock_hard) (h_f_w1_rock_water : WA f_w1_rock_water) (h_w1_crew_count : 0 ≤ w1_crew_count.toInt ∧ w1_crew_count.toInt ≤ 6) (h_f_w1_crew_cell : CE f_w1_crew_cell) (h_f_w1_crew_buckets : BU f_w1_crew_buckets) (h_w1_folk_listeners : 0 ≤ w1_folk_listeners.toInt ∧ w1_folk_listeners.toInt ≤ 5) (h_w1_folk_noises : 0 ≤ w1_folk_noises.toInt ∧ w1_folk_noises.toInt ≤ 6) (h_w1_folk_hearsay : 0 ≤ w1_folk_hearsay.toInt ∧ w1_folk_hearsay.toInt ≤ 8) (h_w1_folk_wells : 0 ≤ w1_folk_wells.toInt ∧ w1_folk_wells.toInt ≤ 10) (h_f_w1_folk_column : CO f_w1_folk_column) (h_f_w1_folk_ear : EA f_w1_folk_ear) (h_f_w1_folk_noiseColumn : NC f_w1_folk_noiseColumn) (h_f_w1_folk_noiseLoud : NL f_w1_folk_noiseLoud) (h_f_w1_folk_hearsayColumn : HC f_w1_folk_hearsayColumn) (h_f_w1_folk_hearsayLoud : HL f_w1_folk_hearsayLoud) (h_f_w1_term : TE f_w1_term) (e_0 : ∀ k, k < 6 → ∀ v, f_h0_site_world_laws k = some v → TT v) {Q : Int32 → (Int32 × Int32 × Int32 × Int64 × (Nat → Int32) × (Nat → Int32) × (Nat → Int32) × Int32 × (Nat → Int32) × (Nat → Int32) × Int32 × Int32 × Int32 × Int32 × Int32 × (Nat → Int32) × (Nat → Int32) × (Nat → Int32) × (Nat → Int32) × (Nat → Int32) × (Nat → Int32) × (Nat → Int32) × (Nat → Int32) × (Nat → Int32) × (Nat → Option Nat) × (Nat → Int32) × (Nat → Int32) × Int32 × Int32 × Int64 × (Nat → Int32) × (Nat → Int32) × (Nat → Int32) × Int32 × (Nat → Int32) × (Nat → Int32) × Int32 × Int32 × Int32 × Int32 × Int32 × (Nat → Int32) × (Nat → Int32) × (Nat → Int32) × (Nat → Int32) × (Nat → Int32) × (Nat → Int32) × (Nat → Int32) × (Nat → Int32) × (Nat → Int32) × (Nat → Option Nat)) → Prop} (hq : ∀ (r : Int32) (u_0 : Int32) (u_1 : Int32) (u_2 : Int32) (u_3 : Int64) (u_4 : Nat → Int32) (u_5 : Nat → Int32) (u_6 : Nat → Int32) (u_7 : Int32) (u_8 : Nat → Int32) (u_9 : Nat → Int32) (u_10 : Int32) (u_11 : Int32) (u_12 : Int32) (u_13 : Int32) (u_14 : Int32) (u_15 : Nat → Int32) (u_16 : Nat → Int32) (u_17 : Nat → Int32) (u_18 : Nat → Int32) (u_19 : Nat → Int32) (u_20 : Nat → Int32) (u_21 : Nat → Int32) (u_22 : Nat → Int32) (u_23 : Nat → Int32) (u_24 : Nat → Option Nat) (u_25 : Nat → Int32) (u_26 : Nat → Int32) (u_27 : Int32) (u_28 : Int32) (u_29 : Int64) (u_30 : Nat → Int32) (u_31 : Nat → Int32) (u_32 : Nat → Int32) (u_33 : Int32) (u_34 : Nat → Int32) (u_35 : Nat → Int32) (u_36 : Int32) (u_37 : Int32) (u_38 : Int32) (u_39 : Int32) (u_40 : Int32) (u_41 : Nat → Int32) (u_42 : Nat → Int32) (u_43 : Nat → Int32) (u_44 : Nat → Int32) (u_45 : Nat → Int32) (u_46 : Nat → Int32) (u_47 : Nat → Int32) (u_48 : Nat → Int32) (u_49 : Nat → Int32) (u_50 : Nat → Option Nat), (0 ≤ u_1.toInt ∧ u_1.toInt ≤ 6) ∧ ((-1) ≤ u_2.toInt ∧ u_2.toInt ≤ 5) ∧ (KI u_4) ∧ (HA u_5) ∧ (WA u_6) ∧ (0 ≤ u_7.toInt ∧ u_7.toInt ≤ 6) ∧ (CE u_8) ∧ (BU u_9) ∧ (0 ≤ u_10.toInt ∧ u_10.toInt ≤ 5) ∧ (0 ≤ u_11.toInt ∧ u_11.toInt ≤ 6) ∧ (0 ≤ u_13.toInt ∧ u_13.toInt ≤ 8) ∧ (0 ≤ u_14.toInt ∧ u_14.toInt ≤ 10) ∧ (CO u_15) ∧ (EA u_16) ∧ (NC u_17) ∧ (NL u_18) ∧ (HC u_19) ∧ (HL u_20) ∧ (TE u_23) ∧ (0 ≤ u_27.toInt ∧ u_27.toInt ≤ 6) ∧ ((-1) ≤ u_28.toInt ∧ u_28.toInt ≤ 5) ∧ (KI u_30) ∧ (HA u_31) ∧ (WA u_32) ∧ (0 ≤ u_33.toInt ∧ u_33.toInt ≤ 6) ∧ (CE u_34) ∧ (BU u_35) ∧ (0 ≤ u_36.toInt ∧ u_36.toInt ≤ 5) ∧ (0 ≤ u_37.toInt ∧ u_37.toInt ≤ 6) ∧ (0 ≤ u_39.toInt ∧ u_39.toInt ≤ 8) ∧ (0 ≤ u_40.toInt ∧ u_40.toInt ≤ 10) ∧ (CO u_41) ∧ (EA u_42) ∧ (NC u_43) ∧ (NL u_44) ∧ (HC u_45) ∧ (HL u_46) ∧ (TE u_49) ∧ ((0 ≤ a.toInt ∧ a.toInt ≤ 1 ∧ r.toInt = 0) ∨ ((a.toInt < 0 ∨ 2 ≤ a.toInt) ∧ r.toInt = -1)) ∧ (((∀ k, k < 6 → u_24 k = f_w0_laws k) ∧ u_1 = w0_lawCount ∧ u_2 = w0_force) ∨ ((∀ k, k < 6 → u_24 k = f_h0_site_world_laws k) ∧ u_1 = h0_site_world_lawCount ∧ u_2 = h0_site_world_force)) ∧ (((∀ k, k < 6 → u_50 k = f_w1_laws k) ∧ u_27 = w1_lawCount ∧ u_28 = w1_force) ∨ ((∀ k, k < 6 → u_50 k = f_h0_site_world_laws k) ∧ u_27 = h0_site_world_lawCount ∧ u_28 = h0_site_world_force)) → Q r (u_0, u_1, u_2, u_3, u_4, u_5, u_6, u_7, u_8, u_9, u_10, u_11, u_12, u_13, u_14, u_15, u_16, u_17, u_18, u_19, u_20, u_21, u_22, u_23, u_24, u_25, u_26, u_27, u_28, u_29, u_30, u_31, u_32, u_33, u_34, u_35, u_36, u_37, u_38, u_39, u_40, u_41, u_42, u_43, u_44, u_45, u_46, u_47, u_48, u_49, u_50)) : wp_X11_image a w0_lawCount w0_force h0_site_world_lawCount h0_site_world_force w0_rock_dug h0_site_world_rock_dug f_h0_site_world_rock_kind f_w0_rock_kind f_h0_site_world_rock_hard f_w0_rock_hard f_h0_site_world_rock_water f_w0_rock_water w0_crew_count h0_site_world_crew_count f_h0_site_world_crew_cell f_w0_crew_cell f_h0_site_world_crew_buckets f_w0_crew_buckets w0_folk_listeners w0_folk_noises w0_folk_hushed w0_folk_hearsay w0_folk_wells h0_site_world_folk_listeners h0_site_world_folk_noises h0_site_world_folk_hushed h0_site_world_folk_hearsay h0_site_world_folk_wells f_h0_site_world_folk_column f_w0_folk_column f_h0_site_world_folk_ear f_w0_folk_ear f_h0_site_world_folk_noiseColumn f_w0_folk_noiseColumn f_h0_site_world_folk_noiseLoud f_w0_folk_noiseLoud f_h0_site_world_folk_hearsayColumn f_w0_folk_hearsayColumn f_h0_site_world_folk_hearsayLoud f_w0_folk_hearsayLoud f_h0_site_world_folk_sounds f_w0_folk_sounds f_h0_site_world_folk_wet f_w0_folk_wet f_w0_term f_h0_site_world_term f_h0_site_world_laws f_w0_laws f_h0_kept f_h0_refusals w1_lawCount w1_force w1_rock_dug f_w1_rock_kind f_w1_rock_hard f_w1_rock_water w1_crew_count f_w1_crew_cell f_w1_crew_buckets w1_folk_listeners w1_folk_noises w1_folk_hushed w1_folk_hearsay w1_folk_wells f_w1_folk_column f_w1_folk_ear f_w1_folk_noiseColumn f_w1_folk_noiseLoud f_w1_folk_hearsayColumn f_w1_folk_hearsayLoud f_w1_folk_sounds f_w1_folk_wet f_w1_term f_w1_laws TT Q := by
  unfold wp_X11_image
  refine o_X11_isWithin _ _ _ ?_
  by_cases c1 : a < 0
  · refine br1 c1 ?_
    have d2 := lt_z (a := a) (b := 0) (x := (Int32.toInt a)) (y := 0) rfl rfl c1
    refine br1 (by decide) ?_
    refine o_X11_settle _ _ _ ?_
    refine jn_s ?_
    refine br0 (by decide) ?_
    refine br0 (by decide) ?_
    refine br0 (by decide) ?_
    refine ⟨by unfold vp_in; decide, ?_⟩
    refine ⟨by unfold vp_in; decide, ?_⟩
    refine un2_i ?_
    have k3 : Int32.toInt (-1) = (-1) := (by decide)
    exact hq _ _ _ _ _ _ _ _ _ _ _ _ _ _ _ _ _ _ _ _ _ _ _ _ _ _ _ _ _ _ _ _ _ _ _ _ _ _ _ _ _ _ _ _ _ _ _ _ _ _ _ _ ⟨⟨by omega, by omega⟩, ⟨by omega, by omega⟩, h_f_w0_rock_kind, h_f_w0_rock_hard, h_f_w0_rock_water, ⟨by omega, by omega⟩, h_f_w0_crew_cell, h_f_w0_crew_buckets, ⟨by omega, by omega⟩, ⟨by omega, by omega⟩, ⟨by omega, by omega⟩, ⟨by omega, by omega⟩, h_f_w0_folk_column, h_f_w0_folk_ear, h_f_w0_folk_noiseColumn, h_f_w0_folk_noiseLoud, h_f_w0_folk_hearsayColumn, h_f_w0_folk_hearsayLoud, h_f_w0_term, ⟨by omega, by omega⟩, ⟨by omega, by omega⟩, h_f_w1_rock_kind, h_f_w1_rock_hard, h_f_w1_rock_water, ⟨by omega, by omega⟩, h_f_w1_crew_cell, h_f_w1_crew_buckets, ⟨by omega, by omega⟩, ⟨by omega, by omega⟩, ⟨by omega, by omega⟩, ⟨by omega, by omega⟩, h_f_w1_folk_column, h_f_w1_folk_ear, h_f_w1_folk_noiseColumn, h_f_w1_folk_noiseLoud, h_f_w1_folk_hearsayColumn, h_f_w1_folk_hearsayLoud, h_f_w1_term, (by omega), (Or.inl ⟨fun k hk => rfl, rfl, rfl⟩), (Or.inl ⟨fun k hk => rfl, rfl, rfl⟩)⟩
  · refine br0 c1 ?_
    have d4 := nlt_z (a := a) (b := 0) (x := (Int32.toInt a)) (y := 0) rfl rfl c1
    by_cases c5 : 2 ≤ a
    · refine br1 c5 ?_
      have d6 := le_z (a := 2) (b := a) (x := 2) (y := (Int32.toInt a)) rfl rfl c5
      refine br1 (by decide) ?_
      refine o_X11_settle _ _ _ ?_
      refine jn_s ?_
      refine br0 (by decide) ?_
      refine br0 (by decide) ?_
      refine br0 (by decide) ?_
      refine ⟨by unfold vp_in; decide, ?_⟩
      refine ⟨by unfold vp_in; decide, ?_⟩
      refine un2_i ?_
      have k7 : Int32.toInt (-1) = (-1) := (by decide)
      exact hq _ _ _ _ _ _ _ _ _ _ _ _ _ _ _ _ _ _ _ _ _ _ _ _ _ _ _ _ _ _ _ _ _ _ _ _ _ _ _ _ _ _ _ _ _ _ _ _ _ _ _ _ ⟨⟨by omega, by omega⟩, ⟨by omega, by omega⟩, h_f_w0_rock_kind, h_f_w0_rock_hard, h_f_w0_rock_water, ⟨by omega, by omega⟩, h_f_w0_crew_cell, h_f_w0_crew_buckets, ⟨by omega, by omega⟩, ⟨by omega, by omega⟩, ⟨by omega, by omega⟩, ⟨by omega, by omega⟩, h_f_w0_folk_column, h_f_w0_folk_ear, h_f_w0_folk_noiseColumn, h_f_w0_folk_noiseLoud, h_f_w0_folk_hearsayColumn, h_f_w0_folk_hearsayLoud, h_f_w0_term, ⟨by omega, by omega⟩, ⟨by omega, by omega⟩, h_f_w1_rock_kind, h_f_w1_rock_hard, h_f_w1_rock_water, ⟨by omega, by omega⟩, h_f_w1_crew_cell, h_f_w1_crew_buckets, ⟨by omega, by omega⟩, ⟨by omega, by omega⟩, ⟨by omega, by omega⟩, ⟨by omega, by omega⟩, h_f_w1_folk_column, h_f_w1_folk_ear, h_f_w1_folk_noiseColumn, h_f_w1_folk_noiseLoud, h_f_w1_folk_hearsayColumn, h_f_w1_folk_hearsayLoud, h_f_w1_term, (by omega), (Or.inl ⟨fun k hk => rfl, rfl, rfl⟩), (Or.inl ⟨fun k hk => rfl, rfl, rfl⟩)⟩
    · refine br0 c5 ?_
      have d8 := nle_z (a := 2) (b := a) (x := 2) (y := (Int32.toInt a)) rfl rfl c5
      refine br0 (by decide) ?_
      refine ⟨vpi (x := (Int32.toInt a)) rfl (by omega) (by omega), ?_⟩
      by_cases c9 : a = 0
      · refine br1 c9 ?_
        have d10 := eq_z (a := a) (b := 0) (x := (Int32.toInt a)) (y := 0) rfl rfl c9
        refine s_X10_copyFrom h0_site_world_lawCount h0_site_world_force h0_site_world_rock_dug (f_h0_site_world_rock_kind) (f_w0_rock_kind) (f_h0_site_world_rock_hard) (f_w0_rock_hard) (f_h0_site_world_rock_water) (f_w0_rock_water) h0_site_world_crew_count (f_h0_site_world_crew_cell) (f_w0_crew_cell) (f_h0_site_world_crew_buckets) (f_w0_crew_buckets) h0_site_world_folk_listeners h0_site_world_folk_noises h0_site_world_folk_hushed h0_site_world_folk_hearsay h0_site_world_folk_wells (f_h0_site_world_folk_column) (f_w0_folk_column) (f_h0_site_world_folk_ear) (f_w0_folk_ear) (f_h0_site_world_folk_noiseColumn) (f_w0_folk_noiseColumn) (f_h0_site_world_folk_noiseLoud) (f_w0_folk_noiseLoud) (f_h0_site_world_folk_hearsayColumn) (f_w0_folk_hearsayColumn) (f_h0_site_world_folk_hearsayLoud) (f_w0_folk_hearsayLoud) (f_h0_site_world_folk_sounds) (f_w0_folk_sounds) (f_h0_site_world_folk_wet) (f_w0_folk_wet) (f_w0_term) (f_h0_site_world_term) (f_h0_site_world_laws) (f_w0_laws) TT ⟨by omega, by omega⟩ ⟨by omega, by omega⟩ h_f_h0_site_world_rock_kind h_f_w0_rock_kind h_f_h0_site_world_rock_hard h_f_w0_rock_hard h_f_h0_site_world_rock_water h_f_w0_rock_water ⟨by omega, by omega⟩ h_f_h0_site_world_crew_cell h_f_w0_crew_cell h_f_h0_site_world_crew_buckets h_f_w0_crew_buckets ⟨by omega, by omega⟩ ⟨by omega, by omega⟩ ⟨by omega, by omega⟩ ⟨by omega, by omega⟩ h_f_h0_site_world_folk_column h_f_w0_folk_column h_f_h0_site_world_folk_ear h_f_w0_folk_ear h_f_h0_site_world_folk_noiseColumn h_f_w0_folk_noiseColumn h_f_h0_site_world_folk_noiseLoud h_f_w0_folk_noiseLoud h_f_h0_site_world_folk_hearsayColumn h_f_w0_folk_hearsayColumn h_f_h0_site_world_folk_hearsayLoud h_f_w0_folk_hearsayLoud h_f_w0_term h_f_h0_site_world_term e_0 (fun u11_0 u11_1 u11_2 u11_3 u11_4 u11_5 u11_6 u11_7 u11_8 u11_9 u11_10 u11_11 u11_12 u11_13 u11_14 u11_15 u11_16 u11_17 u11_18 u11_19 u11_20 u11_21 u11_22 u11_23 H12 => ?_)
        have j13 := H12.1
        have j14 := H12.2.1
        have j15 := H12.2.2.1
        have j16 := H12.2.2.2.1
        have j17 := H12.2.2.2.2.1
        have j18 := H12.2.2.2.2.2.1
        have j19 := H12.2.2.2.2.2.2.1
        have j20 := H12.2.2.2.2.2.2.2.1
        have j21 := H12.2.2.2.2.2.2.2.2.1
        have j22 := H12.2.2.2.2.2.2.2.2.2.1
        have j23 := H12.2.2.2.2.2.2.2.2.2.2.1
        have j24 := H12.2.2.2.2.2.2.2.2.2.2.2.1
        have j25 := H12.2.2.2.2.2.2.2.2.2.2.2.2.1
        have j26 := H12.2.2.2.2.2.2.2.2.2.2.2.2.2.1
        have j27 := H12.2.2.2.2.2.2.2.2.2.2.2.2.2.2.1
        have j28 := H12.2.2.2.2.2.2.2.2.2.2.2.2.2.2.2.1
        have j29 := H12.2.2.2.2.2.2.2.2.2.2.2.2.2.2.2.2.1
        have j30 := H12.2.2.2.2.2.2.2.2.2.2.2.2.2.2.2.2.2.1
        have j31 := H12.2.2.2.2.2.2.2.2.2.2.2.2.2.2.2.2.2.2.1
        have j32 := H12.2.2.2.2.2.2.2.2.2.2.2.2.2.2.2.2.2.2.2.1
        have j33 := H12.2.2.2.2.2.2.2.2.2.2.2.2.2.2.2.2.2.2.2.2.1
        have j34 := H12.2.2.2.2.2.2.2.2.2.2.2.2.2.2.2.2.2.2.2.2.2
        refine un24_i ?_
        refine ⟨vpi (x := (Int32.toInt a)) rfl (by omega) (by omega), ?_⟩
        refine o_X11_settle _ _ _ ?_
        refine jn_s ?_
        refine br1 (by decide) ?_
        refine br1 (by decide) ?_
        refine un2_i ?_
        have k35 : Int32.toInt 0 = 0 := rfl
        exact hq _ _ _ _ _ _ _ _ _ _ _ _ _ _ _ _ _ _ _ _ _ _ _ _ _ _ _ _ _ _ _ _ _ _ _ _ _ _ _ _ _ _ _ _ _ _ _ _ _ _ _ _ ⟨⟨by omega, by omega⟩, ⟨by omega, by omega⟩, j15, j16, j17, ⟨by omega, by omega⟩, j19, j20, ⟨by omega, by omega⟩, ⟨by omega, by omega⟩, ⟨by omega, by omega⟩, ⟨by omega, by omega⟩, j25, j26, j27, j28, j29, j30, j31, ⟨by omega, by omega⟩, ⟨by omega, by omega⟩, h_f_w1_rock_kind, h_f_w1_rock_hard, h_f_w1_rock_water, ⟨by omega, by omega⟩, h_f_w1_crew_cell, h_f_w1_crew_buckets, ⟨by omega, by omega⟩, ⟨by omega, by omega⟩, ⟨by omega, by omega⟩, ⟨by omega, by omega⟩, h_f_w1_folk_column, h_f_w1_folk_ear, h_f_w1_folk_noiseColumn, h_f_w1_folk_noiseLoud, h_f_w1_folk_hearsayColumn, h_f_w1_folk_hearsayLoud, h_f_w1_term, (by omega), (Or.inr ⟨j32, j33, j34⟩), (Or.inl ⟨fun k hk => rfl, rfl, rfl⟩)⟩
      · refine br0 c9 ?_
        have d36 := ne_z (a := a) (b := 0) (x := (Int32.toInt a)) (y := 0) rfl rfl c9
        refine s_X10_copyFrom h0_site_world_lawCount h0_site_world_force h0_site_world_rock_dug (f_h0_site_world_rock_kind) (f_w1_rock_kind) (f_h0_site_world_rock_hard) (f_w1_rock_hard) (f_h0_site_world_rock_water) (f_w1_rock_water) h0_site_world_crew_count (f_h0_site_world_crew_cell) (f_w1_crew_cell) (f_h0_site_world_crew_buckets) (f_w1_crew_buckets) h0_site_world_folk_listeners h0_site_world_folk_noises h0_site_world_folk_hushed h0_site_world_folk_hearsay h0_site_world_folk_wells (f_h0_site_world_folk_column) (f_w1_folk_column) (f_h0_site_world_folk_ear) (f_w1_folk_ear) (f_h0_site_world_folk_noiseColumn) (f_w1_folk_noiseColumn) (f_h0_site_world_folk_noiseLoud) (f_w1_folk_noiseLoud) (f_h0_site_world_folk_hearsayColumn) (f_w1_folk_hearsayColumn) (f_h0_site_world_folk_hearsayLoud) (f_w1_folk_hearsayLoud) (f_h0_site_world_folk_sounds) (f_w1_folk_sounds) (f_h0_site_world_folk_wet) (f_w1_folk_wet) (f_w1_term) (f_h0_site_world_term) (f_h0_site_world_laws) (f_w1_laws) TT ⟨by omega, by omega⟩ ⟨by omega, by omega⟩ h_f_h0_site_world_rock_kind h_f_w1_rock_kind h_f_h0_site_world_rock_hard h_f_w1_rock_hard h_f_h0_site_world_rock_water h_f_w1_rock_water ⟨by omega, by omega⟩ h_f_h0_site_world_crew_cell h_f_w1_crew_cell h_f_h0_site_world_crew_buckets h_f_w1_crew_buckets ⟨by omega, by omega⟩ ⟨by omega, by omega⟩ ⟨by omega, by omega⟩ ⟨by omega, by omega⟩ h_f_h0_site_world_folk_column h_f_w1_folk_column h_f_h0_site_world_folk_ear h_f_w1_folk_ear h_f_h0_site_world_folk_noiseColumn h_f_w1_folk_noiseColumn h_f_h0_site_world_folk_noiseLoud h_f_w1_folk_noiseLoud h_f_h0_site_world_folk_hearsayColumn h_f_w1_folk_hearsayColumn h_f_h0_site_world_folk_hearsayLoud h_f_w1_folk_hearsayLoud h_f_w1_term h_f_h0_site_world_term e_0 (fun u37_0 u37_1 u37_2 u37_3 u37_4 u37_5 u37_6 u37_7 u37_8 u37_9 u37_10 u37_11 u37_12 u37_13 u37_14 u37_15 u37_16 u37_17 u37_18 u37_19 u37_20 u37_21 u37_22 u37_23 H38 => ?_)
        have j39 := H38.1
        have j40 := H38.2.1
        have j41 := H38.2.2.1
        have j42 := H38.2.2.2.1
        have j43 := H38.2.2.2.2.1
        have j44 := H38.2.2.2.2.2.1
        have j45 := H38.2.2.2.2.2.2.1
        have j46 := H38.2.2.2.2.2.2.2.1
        have j47 := H38.2.2.2.2.2.2.2.2.1
        have j48 := H38.2.2.2.2.2.2.2.2.2.1
        have j49 := H38.2.2.2.2.2.2.2.2.2.2.1
        have j50 := H38.2.2.2.2.2.2.2.2.2.2.2.1
        have j51 := H38.2.2.2.2.2.2.2.2.2.2.2.2.1
        have j52 := H38.2.2.2.2.2.2.2.2.2.2.2.2.2.1
        have j53 := H38.2.2.2.2.2.2.2.2.2.2.2.2.2.2.1
        have j54 := H38.2.2.2.2.2.2.2.2.2.2.2.2.2.2.2.1
        have j55 := H38.2.2.2.2.2.2.2.2.2.2.2.2.2.2.2.2.1
        have j56 := H38.2.2.2.2.2.2.2.2.2.2.2.2.2.2.2.2.2.1
        have j57 := H38.2.2.2.2.2.2.2.2.2.2.2.2.2.2.2.2.2.2.1
        have j58 := H38.2.2.2.2.2.2.2.2.2.2.2.2.2.2.2.2.2.2.2.1
        have j59 := H38.2.2.2.2.2.2.2.2.2.2.2.2.2.2.2.2.2.2.2.2.1
        have j60 := H38.2.2.2.2.2.2.2.2.2.2.2.2.2.2.2.2.2.2.2.2.2
        refine un24_i ?_
        refine ⟨vpi (x := (Int32.toInt a)) rfl (by omega) (by omega), ?_⟩
        refine o_X11_settle _ _ _ ?_
        refine jn_s ?_
        refine br1 (by decide) ?_
        refine br1 (by decide) ?_
        refine un2_i ?_
        have k61 : Int32.toInt 0 = 0 := rfl
        exact hq _ _ _ _ _ _ _ _ _ _ _ _ _ _ _ _ _ _ _ _ _ _ _ _ _ _ _ _ _ _ _ _ _ _ _ _ _ _ _ _ _ _ _ _ _ _ _ _ _ _ _ _ ⟨⟨by omega, by omega⟩, ⟨by omega, by omega⟩, h_f_w0_rock_kind, h_f_w0_rock_hard, h_f_w0_rock_water, ⟨by omega, by omega⟩, h_f_w0_crew_cell, h_f_w0_crew_buckets, ⟨by omega, by omega⟩, ⟨by omega, by omega⟩, ⟨by omega, by omega⟩, ⟨by omega, by omega⟩, h_f_w0_folk_column, h_f_w0_folk_ear, h_f_w0_folk_noiseColumn, h_f_w0_folk_noiseLoud, h_f_w0_folk_hearsayColumn, h_f_w0_folk_hearsayLoud, h_f_w0_term, ⟨by omega, by omega⟩, ⟨by omega, by omega⟩, j41, j42, j43, ⟨by omega, by omega⟩, j45, j46, ⟨by omega, by omega⟩, ⟨by omega, by omega⟩, ⟨by omega, by omega⟩, ⟨by omega, by omega⟩, j51, j52, j53, j54, j55, j56, j57, (by omega), (Or.inl ⟨fun k hk => rfl, rfl, rfl⟩), (Or.inr ⟨j58, j59, j60⟩)⟩


set_option maxRecDepth 100000 in
theorem s_X11_back (a : Int32) (f_h0_kept : Nat → Int32) (h0_site_world_lawCount : Int32) (h0_site_world_force : Int32) (w0_lawCount : Int32) (w0_force : Int32) (h0_site_world_rock_dug : Int64) (w0_rock_dug : Int64) (f_w0_rock_kind : Nat → Int32) (f_h0_site_world_rock_kind : Nat → Int32) (f_w0_rock_hard : Nat → Int32) (f_h0_site_world_rock_hard : Nat → Int32) (f_w0_rock_water : Nat → Int32) (f_h0_site_world_rock_water : Nat → Int32) (h0_site_world_crew_count : Int32) (w0_crew_count : Int32) (f_w0_crew_cell : Nat → Int32) (f_h0_site_world_crew_cell : Nat → Int32) (f_w0_crew_buckets : Nat → Int32) (f_h0_site_world_crew_buckets : Nat → Int32) (h0_site_world_folk_listeners : Int32) (h0_site_world_folk_noises : Int32) (h0_site_world_folk_hushed : Int32) (h0_site_world_folk_hearsay : Int32) (h0_site_world_folk_wells : Int32) (w0_folk_listeners : Int32) (w0_folk_noises : Int32) (w0_folk_hushed : Int32) (w0_folk_hearsay : Int32) (w0_folk_wells : Int32) (f_w0_folk_column : Nat → Int32) (f_h0_site_world_folk_column : Nat → Int32) (f_w0_folk_ear : Nat → Int32) (f_h0_site_world_folk_ear : Nat → Int32) (f_w0_folk_noiseColumn : Nat → Int32) (f_h0_site_world_folk_noiseColumn : Nat → Int32) (f_w0_folk_noiseLoud : Nat → Int32) (f_h0_site_world_folk_noiseLoud : Nat → Int32) (f_w0_folk_hearsayColumn : Nat → Int32) (f_h0_site_world_folk_hearsayColumn : Nat → Int32) (f_w0_folk_hearsayLoud : Nat → Int32) (f_h0_site_world_folk_hearsayLoud : Nat → Int32) (f_w0_folk_sounds : Nat → Int32) (f_h0_site_world_folk_sounds : Nat → Int32) (f_w0_folk_wet : Nat → Int32) (f_h0_site_world_folk_wet : Nat → Int32) (f_h0_site_world_term : Nat → Int32) (f_w0_term : Nat → Int32) (f_w0_laws : Nat → Option Nat) (f_h0_site_world_laws : Nat → Option Nat) (h0_site_diary_kept : Int32) (f_h0_refusals : Nat → Int32) (w1_lawCount : Int32) (w1_force : Int32) (w1_rock_dug : Int64) (f_w1_rock_kind : Nat → Int32) (f_w1_rock_hard : Nat → Int32) (f_w1_rock_water : Nat → Int32) (w1_crew_count : Int32) (f_w1_crew_cell : Nat → Int32) (f_w1_crew_buckets : Nat → Int32) (w1_folk_listeners : Int32) (w1_folk_noises : Int32) (w1_folk_hushed : Int32) (w1_folk_hearsay : Int32) (w1_folk_wells : Int32) (f_w1_folk_column : Nat → Int32) (f_w1_folk_ear : Nat → Int32) (f_w1_folk_noiseColumn : Nat → Int32) (f_w1_folk_noiseLoud : Nat → Int32) (f_w1_folk_hearsayColumn : Nat → Int32) (f_w1_folk_hearsayLoud : Nat → Int32) (f_w1_folk_sounds : Nat → Int32) (f_w1_folk_wet : Nat → Int32) (f_w1_term : Nat → Int32) (f_w1_laws : Nat → Option Nat) (TT : Nat → Prop) (h_h0_site_world_lawCount : 0 ≤ h0_site_world_lawCount.toInt ∧ h0_site_world_lawCount.toInt ≤ 6) (h_h0_site_world_force : (-1) ≤ h0_site_world_force.toInt ∧ h0_site_world_force.toInt ≤ 5) (h_w0_lawCount : 0 ≤ w0_lawCount.toInt ∧ w0_lawCount.toInt ≤ 6) (h_w0_force : (-1) ≤ w0_force.toInt ∧ w0_force.toInt ≤ 5) (h_f_w0_rock_kind : KI f_w0_rock_kind) (h_f_h0_site_world_rock_kind : KI f_h0_site_world_rock_kind) (h_f_w0_rock_hard : HA f_w0_rock_hard) (h_f_h0_site_world_rock_hard : HA f_h0_site_world_rock_hard) (h_f_w0_rock_water : WA f_w0_rock_water) (h_f_h0_site_world_rock_water : WA f_h0_site_world_rock_water) (h_h0_site_world_crew_count : 0 ≤ h0_site_world_crew_count.toInt ∧ h0_site_world_crew_count.toInt ≤ 6) (h_w0_crew_count : 0 ≤ w0_crew_count.toInt ∧ w0_crew_count.toInt ≤ 6) (h_f_w0_crew_cell : CE f_w0_crew_cell) (h_f_h0_site_world_crew_cell : CE f_h0_site_world_crew_cell) (h_f_w0_crew_buckets : BU f_w0_crew_buckets) (h_f_h0_site_world_crew_buckets : BU f_h0_site_world_crew_buckets) (h_h0_site_world_folk_listeners : 0 ≤ h0_site_world_folk_listeners.toInt ∧ h0_site_world_folk_listeners.toInt ≤ 5) (h_h0_site_world_folk_noises : 0 ≤ h0_site_world_folk_noises.toInt ∧ h0_site_world_folk_noises.toInt ≤ 6) (h_h0_site_world_folk_hearsay : 0 ≤ h0_site_world_folk_hearsay.toInt ∧ h0_site_world_folk_hearsay.toInt ≤ 8) (h_h0_site_world_folk_wells : 0 ≤ h0_site_world_folk_wells.toInt ∧ h0_site_world_folk_wells.toInt ≤ 10) (h_w0_folk_listeners : 0 ≤ w0_folk_listeners.toInt ∧ w0_folk_listeners.toInt ≤ 5) (h_w0_folk_noises : 0 ≤ w0_folk_noises.toInt ∧ w0_folk_noises.toInt ≤ 6) (h_w0_folk_hearsay : 0 ≤ w0_folk_hearsay.toInt ∧ w0_folk_hearsay.toInt ≤ 8) (h_w0_folk_wells : 0 ≤ w0_folk_wells.toInt ∧ w0_folk_wells.toInt ≤ 10) (h_f_w0_folk_column : CO f_w0_folk_column) (h_f_h0_site_world_folk_column : CO f_h0_site_world_folk_column) (h_f_w0_folk_ear : EA f_w0_folk_ear) (h_f_h0_site_world_folk_ear : EA f_h0_site_world_folk_ear) (h_f_w0_folk_noiseColumn : NC f_w0_folk_noiseColumn) (h_f_h0_site_world_folk_noiseColumn : NC f_h0_site_world_folk_noiseColumn) (h_f_w0_folk_noiseLoud : NL f_w0_folk_noiseLoud) (h_f_h0_site_world_folk_noiseLoud : NL f_h0_site_world_folk_noiseLoud) (h_f_w0_folk_hearsayColumn : HC f_w0_folk_hearsayColumn) (h_f_h0_site_world_folk_hearsayColumn : HC f_h0_site_world_folk_hearsayColumn) (h_f_w0_folk_hearsayLoud : HL f_w0_folk_hearsayLoud) (h_f_h0_site_world_folk_hearsayLoud : HL f_h0_site_world_folk_hearsayLoud) (h_f_h0_site_world_term : TE f_h0_site_world_term) (h_f_w0_term : TE f_w0_term) (h_h0_site_diary_kept : 0 ≤ h0_site_diary_kept.toInt ∧ h0_site_diary_kept.toInt ≤ 16) (h_w1_lawCount : 0 ≤ w1_lawCount.toInt ∧ w1_lawCount.toInt ≤ 6) (h_w1_force : (-1) ≤ w1_force.toInt ∧ w1_force.toInt ≤ 5) (h_f_w1_rock_kind : KI f_w1_rock_kind) (h_f_w1_rock_hard : HA f_w1_rock_hard) (h_f_w1_rock_water : WA f_w1_rock_water) (h_w1_crew_count : 0 ≤ w1_crew_count.toInt ∧ w1_crew_count.toInt ≤ 6) (h_f_w1_crew_cell : CE f_w1_crew_cell) (h_f_w1_crew_buckets : BU f_w1_crew_buckets) (h_w1_folk_listeners : 0 ≤ w1_folk_listeners.toInt ∧ w1_folk_listeners.toInt ≤ 5) (h_w1_folk_noises : 0 ≤ w1_folk_noises.toInt ∧ w1_folk_noises.toInt ≤ 6) (h_w1_folk_hearsay : 0 ≤ w1_folk_hearsay.toInt ∧ w1_folk_hearsay.toInt ≤ 8) (h_w1_folk_wells : 0 ≤ w1_folk_wells.toInt ∧ w1_folk_wells.toInt ≤ 10) (h_f_w1_folk_column : CO f_w1_folk_column) (h_f_w1_folk_ear : EA f_w1_folk_ear) (h_f_w1_folk_noiseColumn : NC f_w1_folk_noiseColumn) (h_f_w1_folk_noiseLoud : NL f_w1_folk_noiseLoud) (h_f_w1_folk_hearsayColumn : HC f_w1_folk_hearsayColumn) (h_f_w1_folk_hearsayLoud : HL f_w1_folk_hearsayLoud) (h_f_w1_term : TE f_w1_term) (e_0 : ∀ k, k < 6 → ∀ v, f_w0_laws k = some v → TT v) (e_1 : ∀ k, k < 6 → ∀ v, f_w1_laws k = some v → TT v) {Q : Int32 → (Int32 × Int32 × Int32 × Int64 × (Nat → Int32) × (Nat → Int32) × (Nat → Int32) × Int32 × (Nat → Int32) × (Nat → Int32) × Int32 × Int32 × Int32 × Int32 × Int32 × (Nat → Int32) × (Nat → Int32) × (Nat → Int32) × (Nat → Int32) × (Nat → Int32) × (Nat → Int32) × (Nat → Int32) × (Nat → Int32) × (Nat → Int32) × (Nat → Option Nat) × Int32 × (Nat → Int32)) → Prop} (hq : ∀ (r : Int32) (u_0 : Int32) (u_1 : Int32) (u_2 : Int32) (u_3 : Int64) (u_4 : Nat → Int32) (u_5 : Nat → Int32) (u_6 : Nat → Int32) (u_7 : Int32) (u_8 : Nat → Int32) (u_9 : Nat → Int32) (u_10 : Int32) (u_11 : Int32) (u_12 : Int32) (u_13 : Int32) (u_14 : Int32) (u_15 : Nat → Int32) (u_16 : Nat → Int32) (u_17 : Nat → Int32) (u_18 : Nat → Int32) (u_19 : Nat → Int32) (u_20 : Nat → Int32) (u_21 : Nat → Int32) (u_22 : Nat → Int32) (u_23 : Nat → Int32) (u_24 : Nat → Option Nat) (u_25 : Int32) (u_26 : Nat → Int32), (0 ≤ u_1.toInt ∧ u_1.toInt ≤ 6) ∧ ((-1) ≤ u_2.toInt ∧ u_2.toInt ≤ 5) ∧ (KI u_4) ∧ (HA u_5) ∧ (WA u_6) ∧ (0 ≤ u_7.toInt ∧ u_7.toInt ≤ 6) ∧ (CE u_8) ∧ (BU u_9) ∧ (0 ≤ u_10.toInt ∧ u_10.toInt ≤ 5) ∧ (0 ≤ u_11.toInt ∧ u_11.toInt ≤ 6) ∧ (0 ≤ u_13.toInt ∧ u_13.toInt ≤ 8) ∧ (0 ≤ u_14.toInt ∧ u_14.toInt ≤ 10) ∧ (CO u_15) ∧ (EA u_16) ∧ (NC u_17) ∧ (NL u_18) ∧ (HC u_19) ∧ (HL u_20) ∧ (TE u_23) ∧ (0 ≤ u_25.toInt ∧ u_25.toInt ≤ 16) ∧ (((∀ k, k < 6 → u_24 k = f_h0_site_world_laws k) ∧ u_1 = h0_site_world_lawCount ∧ u_2 = h0_site_world_force) ∨ ((∀ k, k < 6 → u_24 k = f_w0_laws k) ∧ u_1 = w0_lawCount ∧ u_2 = w0_force) ∨ ((∀ k, k < 6 → u_24 k = f_w1_laws k) ∧ u_1 = w1_lawCount ∧ u_2 = w1_force)) → Q r (u_0, u_1, u_2, u_3, u_4, u_5, u_6, u_7, u_8, u_9, u_10, u_11, u_12, u_13, u_14, u_15, u_16, u_17, u_18, u_19, u_20, u_21, u_22, u_23, u_24, u_25, u_26)) : wp_X11_back a f_h0_kept h0_site_world_lawCount h0_site_world_force w0_lawCount w0_force h0_site_world_rock_dug w0_rock_dug f_w0_rock_kind f_h0_site_world_rock_kind f_w0_rock_hard f_h0_site_world_rock_hard f_w0_rock_water f_h0_site_world_rock_water h0_site_world_crew_count w0_crew_count f_w0_crew_cell f_h0_site_world_crew_cell f_w0_crew_buckets f_h0_site_world_crew_buckets h0_site_world_folk_listeners h0_site_world_folk_noises h0_site_world_folk_hushed h0_site_world_folk_hearsay h0_site_world_folk_wells w0_folk_listeners w0_folk_noises w0_folk_hushed w0_folk_hearsay w0_folk_wells f_w0_folk_column f_h0_site_world_folk_column f_w0_folk_ear f_h0_site_world_folk_ear f_w0_folk_noiseColumn f_h0_site_world_folk_noiseColumn f_w0_folk_noiseLoud f_h0_site_world_folk_noiseLoud f_w0_folk_hearsayColumn f_h0_site_world_folk_hearsayColumn f_w0_folk_hearsayLoud f_h0_site_world_folk_hearsayLoud f_w0_folk_sounds f_h0_site_world_folk_sounds f_w0_folk_wet f_h0_site_world_folk_wet f_h0_site_world_term f_w0_term f_w0_laws f_h0_site_world_laws h0_site_diary_kept f_h0_refusals w1_lawCount w1_force w1_rock_dug f_w1_rock_kind f_w1_rock_hard f_w1_rock_water w1_crew_count f_w1_crew_cell f_w1_crew_buckets w1_folk_listeners w1_folk_noises w1_folk_hushed w1_folk_hearsay w1_folk_wells f_w1_folk_column f_w1_folk_ear f_w1_folk_noiseColumn f_w1_folk_noiseLoud f_w1_folk_hearsayColumn f_w1_folk_hearsayLoud f_w1_folk_sounds f_w1_folk_wet f_w1_term f_w1_laws TT Q := by
  unfold wp_X11_back
  refine o_X11_isWithin _ _ _ ?_
  by_cases c1 : a < 0
  · refine br1 c1 ?_
    have d2 := lt_z (a := a) (b := 0) (x := (Int32.toInt a)) (y := 0) rfl rfl c1
    refine br1 (by decide) ?_
    refine o_X11_settle _ _ _ ?_
    refine jn_s ?_
    refine br0 (by decide) ?_
    refine br0 (by decide) ?_
    refine br0 (by decide) ?_
    refine ⟨by unfold vp_in; decide, ?_⟩
    refine ⟨by unfold vp_in; decide, ?_⟩
    refine un2_i ?_
    have k3 : Int32.toInt (-1) = (-1) := (by decide)
    exact hq _ _ _ _ _ _ _ _ _ _ _ _ _ _ _ _ _ _ _ _ _ _ _ _ _ _ _ _ ⟨⟨by omega, by omega⟩, ⟨by omega, by omega⟩, h_f_h0_site_world_rock_kind, h_f_h0_site_world_rock_hard, h_f_h0_site_world_rock_water, ⟨by omega, by omega⟩, h_f_h0_site_world_crew_cell, h_f_h0_site_world_crew_buckets, ⟨by omega, by omega⟩, ⟨by omega, by omega⟩, ⟨by omega, by omega⟩, ⟨by omega, by omega⟩, h_f_h0_site_world_folk_column, h_f_h0_site_world_folk_ear, h_f_h0_site_world_folk_noiseColumn, h_f_h0_site_world_folk_noiseLoud, h_f_h0_site_world_folk_hearsayColumn, h_f_h0_site_world_folk_hearsayLoud, h_f_h0_site_world_term, ⟨by omega, by omega⟩, (Or.inl ⟨fun k hk => rfl, rfl, rfl⟩)⟩
  · refine br0 c1 ?_
    have d4 := nlt_z (a := a) (b := 0) (x := (Int32.toInt a)) (y := 0) rfl rfl c1
    by_cases c5 : 2 ≤ a
    · refine br1 c5 ?_
      have d6 := le_z (a := 2) (b := a) (x := 2) (y := (Int32.toInt a)) rfl rfl c5
      refine br1 (by decide) ?_
      refine o_X11_settle _ _ _ ?_
      refine jn_s ?_
      refine br0 (by decide) ?_
      refine br0 (by decide) ?_
      refine br0 (by decide) ?_
      refine ⟨by unfold vp_in; decide, ?_⟩
      refine ⟨by unfold vp_in; decide, ?_⟩
      refine un2_i ?_
      have k7 : Int32.toInt (-1) = (-1) := (by decide)
      exact hq _ _ _ _ _ _ _ _ _ _ _ _ _ _ _ _ _ _ _ _ _ _ _ _ _ _ _ _ ⟨⟨by omega, by omega⟩, ⟨by omega, by omega⟩, h_f_h0_site_world_rock_kind, h_f_h0_site_world_rock_hard, h_f_h0_site_world_rock_water, ⟨by omega, by omega⟩, h_f_h0_site_world_crew_cell, h_f_h0_site_world_crew_buckets, ⟨by omega, by omega⟩, ⟨by omega, by omega⟩, ⟨by omega, by omega⟩, ⟨by omega, by omega⟩, h_f_h0_site_world_folk_column, h_f_h0_site_world_folk_ear, h_f_h0_site_world_folk_noiseColumn, h_f_h0_site_world_folk_noiseLoud, h_f_h0_site_world_folk_hearsayColumn, h_f_h0_site_world_folk_hearsayLoud, h_f_h0_site_world_term, ⟨by omega, by omega⟩, (Or.inl ⟨fun k hk => rfl, rfl, rfl⟩)⟩
    · refine br0 c5 ?_
      have d8 := nle_z (a := 2) (b := a) (x := 2) (y := (Int32.toInt a)) rfl rfl c5
      refine br0 (by decide) ?_
      refine ⟨vpi (x := (Int32.toInt a)) rfl (by omega) (by omega), ?_⟩
      by_cases c9 : (f_h0_kept a.toNatClampNeg) = 0
      · refine br1 c9 ?_
        have d10 := eq_z (a := (f_h0_kept a.toNatClampNeg)) (b := 0) (x := (Int32.toInt (f_h0_kept a.toNatClampNeg))) (y := 0) rfl rfl c9
        refine o_X11_settle _ _ _ ?_
        refine jn_s ?_
        refine br0 (by decide) ?_
        refine br0 (by decide) ?_
        refine br0 (by decide) ?_
        refine ⟨by unfold vp_in; decide, ?_⟩
        refine ⟨by unfold vp_in; decide, ?_⟩
        refine un2_i ?_
        have k11 : Int32.toInt (-2) = (-2) := (by decide)
        exact hq _ _ _ _ _ _ _ _ _ _ _ _ _ _ _ _ _ _ _ _ _ _ _ _ _ _ _ _ ⟨⟨by omega, by omega⟩, ⟨by omega, by omega⟩, h_f_h0_site_world_rock_kind, h_f_h0_site_world_rock_hard, h_f_h0_site_world_rock_water, ⟨by omega, by omega⟩, h_f_h0_site_world_crew_cell, h_f_h0_site_world_crew_buckets, ⟨by omega, by omega⟩, ⟨by omega, by omega⟩, ⟨by omega, by omega⟩, ⟨by omega, by omega⟩, h_f_h0_site_world_folk_column, h_f_h0_site_world_folk_ear, h_f_h0_site_world_folk_noiseColumn, h_f_h0_site_world_folk_noiseLoud, h_f_h0_site_world_folk_hearsayColumn, h_f_h0_site_world_folk_hearsayLoud, h_f_h0_site_world_term, ⟨by omega, by omega⟩, (Or.inl ⟨fun k hk => rfl, rfl, rfl⟩)⟩
      · refine br0 c9 ?_
        have d12 := ne_z (a := (f_h0_kept a.toNatClampNeg)) (b := 0) (x := (Int32.toInt (f_h0_kept a.toNatClampNeg))) (y := 0) rfl rfl c9
        refine ⟨vpi (x := (Int32.toInt a)) rfl (by omega) (by omega), ?_⟩
        by_cases c13 : a = 0
        · refine br1 c13 ?_
          have d14 := eq_z (a := a) (b := 0) (x := (Int32.toInt a)) (y := 0) rfl rfl c13
          refine s_X10_copyFrom w0_lawCount w0_force w0_rock_dug (f_w0_rock_kind) (f_h0_site_world_rock_kind) (f_w0_rock_hard) (f_h0_site_world_rock_hard) (f_w0_rock_water) (f_h0_site_world_rock_water) w0_crew_count (f_w0_crew_cell) (f_h0_site_world_crew_cell) (f_w0_crew_buckets) (f_h0_site_world_crew_buckets) w0_folk_listeners w0_folk_noises w0_folk_hushed w0_folk_hearsay w0_folk_wells (f_w0_folk_column) (f_h0_site_world_folk_column) (f_w0_folk_ear) (f_h0_site_world_folk_ear) (f_w0_folk_noiseColumn) (f_h0_site_world_folk_noiseColumn) (f_w0_folk_noiseLoud) (f_h0_site_world_folk_noiseLoud) (f_w0_folk_hearsayColumn) (f_h0_site_world_folk_hearsayColumn) (f_w0_folk_hearsayLoud) (f_h0_site_world_folk_hearsayLoud) (f_w0_folk_sounds) (f_h0_site_world_folk_sounds) (f_w0_folk_wet) (f_h0_site_world_folk_wet) (f_h0_site_world_term) (f_w0_term) (f_w0_laws) (f_h0_site_world_laws) TT ⟨by omega, by omega⟩ ⟨by omega, by omega⟩ h_f_w0_rock_kind h_f_h0_site_world_rock_kind h_f_w0_rock_hard h_f_h0_site_world_rock_hard h_f_w0_rock_water h_f_h0_site_world_rock_water ⟨by omega, by omega⟩ h_f_w0_crew_cell h_f_h0_site_world_crew_cell h_f_w0_crew_buckets h_f_h0_site_world_crew_buckets ⟨by omega, by omega⟩ ⟨by omega, by omega⟩ ⟨by omega, by omega⟩ ⟨by omega, by omega⟩ h_f_w0_folk_column h_f_h0_site_world_folk_column h_f_w0_folk_ear h_f_h0_site_world_folk_ear h_f_w0_folk_noiseColumn h_f_h0_site_world_folk_noiseColumn h_f_w0_folk_noiseLoud h_f_h0_site_world_folk_noiseLoud h_f_w0_folk_hearsayColumn h_f_h0_site_world_folk_hearsayColumn h_f_w0_folk_hearsayLoud h_f_h0_site_world_folk_hearsayLoud h_f_h0_site_world_term h_f_w0_term e_0 (fun u15_0 u15_1 u15_2 u15_3 u15_4 u15_5 u15_6 u15_7 u15_8 u15_9 u15_10 u15_11 u15_12 u15_13 u15_14 u15_15 u15_16 u15_17 u15_18 u15_19 u15_20 u15_21 u15_22 u15_23 H16 => ?_)
          have j17 := H16.1
          have j18 := H16.2.1
          have j19 := H16.2.2.1
          have j20 := H16.2.2.2.1
          have j21 := H16.2.2.2.2.1
          have j22 := H16.2.2.2.2.2.1
          have j23 := H16.2.2.2.2.2.2.1
          have j24 := H16.2.2.2.2.2.2.2.1
          have j25 := H16.2.2.2.2.2.2.2.2.1
          have j26 := H16.2.2.2.2.2.2.2.2.2.1
          have j27 := H16.2.2.2.2.2.2.2.2.2.2.1
          have j28 := H16.2.2.2.2.2.2.2.2.2.2.2.1
          have j29 := H16.2.2.2.2.2.2.2.2.2.2.2.2.1
          have j30 := H16.2.2.2.2.2.2.2.2.2.2.2.2.2.1
          have j31 := H16.2.2.2.2.2.2.2.2.2.2.2.2.2.2.1
          have j32 := H16.2.2.2.2.2.2.2.2.2.2.2.2.2.2.2.1
          have j33 := H16.2.2.2.2.2.2.2.2.2.2.2.2.2.2.2.2.1
          have j34 := H16.2.2.2.2.2.2.2.2.2.2.2.2.2.2.2.2.2.1
          have j35 := H16.2.2.2.2.2.2.2.2.2.2.2.2.2.2.2.2.2.2.1
          have j36 := H16.2.2.2.2.2.2.2.2.2.2.2.2.2.2.2.2.2.2.2.1
          have j37 := H16.2.2.2.2.2.2.2.2.2.2.2.2.2.2.2.2.2.2.2.2.1
          have j38 := H16.2.2.2.2.2.2.2.2.2.2.2.2.2.2.2.2.2.2.2.2.2
          refine un24_i ?_
          refine o_X2_clear _ ?_
          refine o_X11_settle _ _ _ ?_
          refine jn_s ?_
          refine br1 (by decide) ?_
          refine br1 (by decide) ?_
          refine un2_i ?_
          have k39 : Int32.toInt 0 = 0 := rfl
          exact hq _ _ _ _ _ _ _ _ _ _ _ _ _ _ _ _ _ _ _ _ _ _ _ _ _ _ _ _ ⟨⟨by omega, by omega⟩, ⟨by omega, by omega⟩, j19, j20, j21, ⟨by omega, by omega⟩, j23, j24, ⟨by omega, by omega⟩, ⟨by omega, by omega⟩, ⟨by omega, by omega⟩, ⟨by omega, by omega⟩, j29, j30, j31, j32, j33, j34, j35, (by decide), (Or.inr (Or.inl ⟨j36, j37, j38⟩))⟩
        · refine br0 c13 ?_
          have d40 := ne_z (a := a) (b := 0) (x := (Int32.toInt a)) (y := 0) rfl rfl c13
          refine s_X10_copyFrom w1_lawCount w1_force w1_rock_dug (f_w1_rock_kind) (f_h0_site_world_rock_kind) (f_w1_rock_hard) (f_h0_site_world_rock_hard) (f_w1_rock_water) (f_h0_site_world_rock_water) w1_crew_count (f_w1_crew_cell) (f_h0_site_world_crew_cell) (f_w1_crew_buckets) (f_h0_site_world_crew_buckets) w1_folk_listeners w1_folk_noises w1_folk_hushed w1_folk_hearsay w1_folk_wells (f_w1_folk_column) (f_h0_site_world_folk_column) (f_w1_folk_ear) (f_h0_site_world_folk_ear) (f_w1_folk_noiseColumn) (f_h0_site_world_folk_noiseColumn) (f_w1_folk_noiseLoud) (f_h0_site_world_folk_noiseLoud) (f_w1_folk_hearsayColumn) (f_h0_site_world_folk_hearsayColumn) (f_w1_folk_hearsayLoud) (f_h0_site_world_folk_hearsayLoud) (f_w1_folk_sounds) (f_h0_site_world_folk_sounds) (f_w1_folk_wet) (f_h0_site_world_folk_wet) (f_h0_site_world_term) (f_w1_term) (f_w1_laws) (f_h0_site_world_laws) TT ⟨by omega, by omega⟩ ⟨by omega, by omega⟩ h_f_w1_rock_kind h_f_h0_site_world_rock_kind h_f_w1_rock_hard h_f_h0_site_world_rock_hard h_f_w1_rock_water h_f_h0_site_world_rock_water ⟨by omega, by omega⟩ h_f_w1_crew_cell h_f_h0_site_world_crew_cell h_f_w1_crew_buckets h_f_h0_site_world_crew_buckets ⟨by omega, by omega⟩ ⟨by omega, by omega⟩ ⟨by omega, by omega⟩ ⟨by omega, by omega⟩ h_f_w1_folk_column h_f_h0_site_world_folk_column h_f_w1_folk_ear h_f_h0_site_world_folk_ear h_f_w1_folk_noiseColumn h_f_h0_site_world_folk_noiseColumn h_f_w1_folk_noiseLoud h_f_h0_site_world_folk_noiseLoud h_f_w1_folk_hearsayColumn h_f_h0_site_world_folk_hearsayColumn h_f_w1_folk_hearsayLoud h_f_h0_site_world_folk_hearsayLoud h_f_h0_site_world_term h_f_w1_term e_1 (fun u41_0 u41_1 u41_2 u41_3 u41_4 u41_5 u41_6 u41_7 u41_8 u41_9 u41_10 u41_11 u41_12 u41_13 u41_14 u41_15 u41_16 u41_17 u41_18 u41_19 u41_20 u41_21 u41_22 u41_23 H42 => ?_)
          have j43 := H42.1
          have j44 := H42.2.1
          have j45 := H42.2.2.1
          have j46 := H42.2.2.2.1
          have j47 := H42.2.2.2.2.1
          have j48 := H42.2.2.2.2.2.1
          have j49 := H42.2.2.2.2.2.2.1
          have j50 := H42.2.2.2.2.2.2.2.1
          have j51 := H42.2.2.2.2.2.2.2.2.1
          have j52 := H42.2.2.2.2.2.2.2.2.2.1
          have j53 := H42.2.2.2.2.2.2.2.2.2.2.1
          have j54 := H42.2.2.2.2.2.2.2.2.2.2.2.1
          have j55 := H42.2.2.2.2.2.2.2.2.2.2.2.2.1
          have j56 := H42.2.2.2.2.2.2.2.2.2.2.2.2.2.1
          have j57 := H42.2.2.2.2.2.2.2.2.2.2.2.2.2.2.1
          have j58 := H42.2.2.2.2.2.2.2.2.2.2.2.2.2.2.2.1
          have j59 := H42.2.2.2.2.2.2.2.2.2.2.2.2.2.2.2.2.1
          have j60 := H42.2.2.2.2.2.2.2.2.2.2.2.2.2.2.2.2.2.1
          have j61 := H42.2.2.2.2.2.2.2.2.2.2.2.2.2.2.2.2.2.2.1
          have j62 := H42.2.2.2.2.2.2.2.2.2.2.2.2.2.2.2.2.2.2.2.1
          have j63 := H42.2.2.2.2.2.2.2.2.2.2.2.2.2.2.2.2.2.2.2.2.1
          have j64 := H42.2.2.2.2.2.2.2.2.2.2.2.2.2.2.2.2.2.2.2.2.2
          refine un24_i ?_
          refine o_X2_clear _ ?_
          refine o_X11_settle _ _ _ ?_
          refine jn_s ?_
          refine br1 (by decide) ?_
          refine br1 (by decide) ?_
          refine un2_i ?_
          have k65 : Int32.toInt 0 = 0 := rfl
          exact hq _ _ _ _ _ _ _ _ _ _ _ _ _ _ _ _ _ _ _ _ _ _ _ _ _ _ _ _ ⟨⟨by omega, by omega⟩, ⟨by omega, by omega⟩, j45, j46, j47, ⟨by omega, by omega⟩, j49, j50, ⟨by omega, by omega⟩, ⟨by omega, by omega⟩, ⟨by omega, by omega⟩, ⟨by omega, by omega⟩, j55, j56, j57, j58, j59, j60, j61, (by decide), (Or.inr (Or.inr ⟨j62, j63, j64⟩))⟩


set_option maxRecDepth 100000 in
theorem s_X11_forceb (a : Int32) (h0_site_world_lawCount : Int32) (h0_site_world_force : Int32) (f_h0_refusals : Nat → Int32) (h_h0_site_world_lawCount : 0 ≤ h0_site_world_lawCount.toInt ∧ h0_site_world_lawCount.toInt ≤ 6) (h_h0_site_world_force : (-1) ≤ h0_site_world_force.toInt ∧ h0_site_world_force.toInt ≤ 5) (e_0 : h0_site_world_force.toInt < h0_site_world_lawCount.toInt) {Q : Int32 → (Int32 × Int32 × (Nat → Int32)) → Prop} (hq : ∀ (r : Int32) (u_0 : Int32) (u_1 : Int32) (u_2 : Nat → Int32), ((-1) ≤ u_1.toInt ∧ u_1.toInt ≤ 5) ∧ (u_1.toInt < h0_site_world_lawCount.toInt) → Q r (u_0, u_1, u_2)) : wp_X11_force a h0_site_world_lawCount h0_site_world_force f_h0_refusals Q := by
  unfold wp_X11_force
  refine o_X10_hasLaw _ _ _ ?_
  by_cases c1 : a < (-1)
  · refine br1 c1 ?_
    have d2 := lt_z (a := a) (b := (-1)) (x := (Int32.toInt a)) (y := (-1)) rfl (by decide) c1
    refine br1 (by decide) ?_
    refine o_X11_settle _ _ _ ?_
    refine jn_s ?_
    refine br0 (by decide) ?_
    refine br0 (by decide) ?_
    refine br0 (by decide) ?_
    refine ⟨by unfold vp_in; decide, ?_⟩
    refine ⟨by unfold vp_in; decide, ?_⟩
    refine un2_i ?_
    have k3 : Int32.toInt (-2) = (-2) := (by decide)
    exact hq _ _ _ _ ⟨⟨by omega, by omega⟩, (by omega)⟩
  · refine br0 c1 ?_
    have d4 := nlt_z (a := a) (b := (-1)) (x := (Int32.toInt a)) (y := (-1)) rfl (by decide) c1
    by_cases c5 : h0_site_world_lawCount ≤ a
    · refine br1 c5 ?_
      have d6 := le_z (a := h0_site_world_lawCount) (b := a) (x := (Int32.toInt h0_site_world_lawCount)) (y := (Int32.toInt a)) rfl rfl c5
      refine br1 (by decide) ?_
      refine o_X11_settle _ _ _ ?_
      refine jn_s ?_
      refine br0 (by decide) ?_
      refine br0 (by decide) ?_
      refine br0 (by decide) ?_
      refine ⟨by unfold vp_in; decide, ?_⟩
      refine ⟨by unfold vp_in; decide, ?_⟩
      refine un2_i ?_
      have k7 : Int32.toInt (-2) = (-2) := (by decide)
      exact hq _ _ _ _ ⟨⟨by omega, by omega⟩, (by omega)⟩
    · refine br0 c5 ?_
      have d8 := nle_z (a := h0_site_world_lawCount) (b := a) (x := (Int32.toInt h0_site_world_lawCount)) (y := (Int32.toInt a)) rfl rfl c5
      refine br0 (by decide) ?_
      have k9 : Int32.toInt 0 = 0 := rfl
      exact hq _ _ _ _ ⟨⟨by omega, by omega⟩, (by omega)⟩

