theorem o_X1_copyFrom (p0_count : Int32) (f_p0_cell : Nat → Int32) (f_h0_cell : Nat → Int32) (f_p0_buckets : Nat → Int32) (f_h0_buckets : Nat → Int32) (Q : (Int32 × (Nat → Int32) × (Nat → Int32)) → Prop) (h : (Q (p0_count, (va_cpy f_p0_cell f_h0_cell 0 0 6), (va_cpy f_p0_buckets f_h0_buckets 0 0 6)))) : wp_X1_copyFrom p0_count f_p0_cell f_h0_cell f_p0_buckets f_h0_buckets Q := h
theorem o_X2_copyFrom (p0_kept : Int32) (p0_latest : Int32) (f_p0_deed : Nat → Int32) (f_h0_deed : Nat → Int32) (f_p0_whose : Nat → Int32) (f_h0_whose : Nat → Int32) (f_p0_before : Nat → Int32) (f_h0_before : Nat → Int32) (f_p0_bucketsBefore : Nat → Int32) (f_h0_bucketsBefore : Nat → Int32) (f_p0_dayBefore : Nat → Int32) (f_h0_dayBefore : Nat → Int32) (Q : (Int32 × Int32 × (Nat → Int32) × (Nat → Int32) × (Nat → Int32) × (Nat → Int32) × (Nat → Int32)) → Prop) (h : (Q (p0_kept, p0_latest, (va_cpy f_p0_deed f_h0_deed 0 0 16), (va_cpy f_p0_whose f_h0_whose 0 0 16), (va_cpy f_p0_before f_h0_before 0 0 16), (va_cpy f_p0_bucketsBefore f_h0_bucketsBefore 0 0 16), (va_cpy f_p0_dayBefore f_h0_dayBefore 0 0 16)))) : wp_X2_copyFrom p0_kept p0_latest f_p0_deed f_h0_deed f_p0_whose f_h0_whose f_p0_before f_h0_before f_p0_bucketsBefore f_h0_bucketsBefore f_p0_dayBefore f_h0_dayBefore Q := h
theorem o_X4_copyFrom (p0_listeners : Int32) (p0_noises : Int32) (p0_hushed : Int32) (p0_hearsay : Int32) (p0_wells : Int32) (f_p0_column : Nat → Int32) (f_h0_column : Nat → Int32) (f_p0_ear : Nat → Int32) (f_h0_ear : Nat → Int32) (f_p0_noiseColumn : Nat → Int32) (f_h0_noiseColumn : Nat → Int32) (f_p0_noiseLoud : Nat → Int32) (f_h0_noiseLoud : Nat → Int32) (f_p0_hearsayColumn : Nat → Int32) (f_h0_hearsayColumn : Nat → Int32) (f_p0_hearsayLoud : Nat → Int32) (f_h0_hearsayLoud : Nat → Int32) (f_p0_sounds : Nat → Int32) (f_h0_sounds : Nat → Int32) (f_p0_wet : Nat → Int32) (f_h0_wet : Nat → Int32) (Q : (Int32 × Int32 × Int32 × Int32 × Int32 × (Nat → Int32) × (Nat → Int32) × (Nat → Int32) × (Nat → Int32) × (Nat → Int32) × (Nat → Int32) × (Nat → Int32) × (Nat → Int32)) → Prop) (h : (Q (p0_listeners, p0_noises, p0_hushed, p0_hearsay, p0_wells, (va_cpy f_p0_column f_h0_column 0 0 5), (va_cpy f_p0_ear f_h0_ear 0 0 5), (va_cpy f_p0_noiseColumn f_h0_noiseColumn 0 0 6), (va_cpy f_p0_noiseLoud f_h0_noiseLoud 0 0 6), (va_cpy f_p0_hearsayColumn f_h0_hearsayColumn 0 0 8), (va_cpy f_p0_hearsayLoud f_h0_hearsayLoud 0 0 8), (va_cpy f_p0_sounds f_h0_sounds 0 0 10), (va_cpy f_p0_wet f_h0_wet 0 0 10)))) : wp_X4_copyFrom p0_listeners p0_noises p0_hushed p0_hearsay p0_wells f_p0_column f_h0_column f_p0_ear f_h0_ear f_p0_noiseColumn f_h0_noiseColumn f_p0_noiseLoud f_h0_noiseLoud f_p0_hearsayColumn f_h0_hearsayColumn f_p0_hearsayLoud f_h0_hearsayLoud f_p0_sounds f_h0_sounds f_p0_wet f_h0_wet Q := h
theorem o_X6_copyFrom (p0_dug : Int64) (f_p0_kind : Nat → Int32) (f_h0_kind : Nat → Int32) (f_p0_hard : Nat → Int32) (f_h0_hard : Nat → Int32) (f_p0_water : Nat → Int32) (f_h0_water : Nat → Int32) (Q : (Int64 × (Nat → Int32) × (Nat → Int32) × (Nat → Int32)) → Prop) (h : (Q (p0_dug, (va_cpy f_p0_kind f_h0_kind 0 0 40), (va_cpy f_p0_hard f_h0_hard 0 0 40), (va_cpy f_p0_water f_h0_water 0 0 40)))) : wp_X6_copyFrom p0_dug f_p0_kind f_h0_kind f_p0_hard f_h0_hard f_p0_water f_h0_water Q := h
set_option maxRecDepth 100000 in
theorem s_X10_copyFromz (p0_lawCount : Int32) (p0_force : Int32) (p0_rock_dug : Int64) (f_p0_rock_kind : Nat → Int32) (f_h0_rock_kind : Nat → Int32) (f_p0_rock_hard : Nat → Int32) (f_h0_rock_hard : Nat → Int32) (f_p0_rock_water : Nat → Int32) (f_h0_rock_water : Nat → Int32) (p0_crew_count : Int32) (f_p0_crew_cell : Nat → Int32) (f_h0_crew_cell : Nat → Int32) (f_p0_crew_buckets : Nat → Int32) (f_h0_crew_buckets : Nat → Int32) (p0_folk_listeners : Int32) (p0_folk_noises : Int32) (p0_folk_hushed : Int32) (p0_folk_hearsay : Int32) (p0_folk_wells : Int32) (f_p0_folk_column : Nat → Int32) (f_h0_folk_column : Nat → Int32) (f_p0_folk_ear : Nat → Int32) (f_h0_folk_ear : Nat → Int32) (f_p0_folk_noiseColumn : Nat → Int32) (f_h0_folk_noiseColumn : Nat → Int32) (f_p0_folk_noiseLoud : Nat → Int32) (f_h0_folk_noiseLoud : Nat → Int32) (f_p0_folk_hearsayColumn : Nat → Int32) (f_h0_folk_hearsayColumn : Nat → Int32) (f_p0_folk_hearsayLoud : Nat → Int32) (f_h0_folk_hearsayLoud : Nat → Int32) (f_p0_folk_sounds : Nat → Int32) (f_h0_folk_sounds : Nat → Int32) (f_p0_folk_wet : Nat → Int32) (f_h0_folk_wet : Nat → Int32) (f_h0_term : Nat → Int32) (f_p0_term : Nat → Int32) (f_p0_laws : Nat → Option Nat) (f_h0_laws : Nat → Option Nat) (TT : Nat → Prop) {w : Nat → Int} (h_p0_lawCount : 0 ≤ p0_lawCount.toInt ∧ p0_lawCount.toInt ≤ 6) (h_p0_force : (-1) ≤ p0_force.toInt ∧ p0_force.toInt ≤ 5) (h_f_p0_rock_kind : KI f_p0_rock_kind) (h_f_h0_rock_kind : KI f_h0_rock_kind) (h_f_p0_rock_hard : HA f_p0_rock_hard) (h_f_h0_rock_hard : HA f_h0_rock_hard) (h_f_p0_rock_water : WA f_p0_rock_water) (h_f_h0_rock_water : WA f_h0_rock_water) (h_p0_crew_count : 0 ≤ p0_crew_count.toInt ∧ p0_crew_count.toInt ≤ 6) (h_f_p0_crew_cell : CE f_p0_crew_cell) (h_f_h0_crew_cell : CE f_h0_crew_cell) (h_f_p0_crew_buckets : BU f_p0_crew_buckets) (h_f_h0_crew_buckets : BU f_h0_crew_buckets) (h_p0_folk_listeners : 0 ≤ p0_folk_listeners.toInt ∧ p0_folk_listeners.toInt ≤ 5) (h_p0_folk_noises : 0 ≤ p0_folk_noises.toInt ∧ p0_folk_noises.toInt ≤ 6) (h_p0_folk_hearsay : 0 ≤ p0_folk_hearsay.toInt ∧ p0_folk_hearsay.toInt ≤ 8) (h_p0_folk_wells : 0 ≤ p0_folk_wells.toInt ∧ p0_folk_wells.toInt ≤ 10) (h_f_p0_folk_column : CO f_p0_folk_column) (h_f_h0_folk_column : CO f_h0_folk_column) (h_f_p0_folk_ear : EA f_p0_folk_ear) (h_f_h0_folk_ear : EA f_h0_folk_ear) (h_f_p0_folk_noiseColumn : NC f_p0_folk_noiseColumn) (h_f_h0_folk_noiseColumn : NC f_h0_folk_noiseColumn) (h_f_p0_folk_noiseLoud : NL f_p0_folk_noiseLoud) (h_f_h0_folk_noiseLoud : NL f_h0_folk_noiseLoud) (h_f_p0_folk_hearsayColumn : HC f_p0_folk_hearsayColumn) (h_f_h0_folk_hearsayColumn : HC f_h0_folk_hearsayColumn) (h_f_p0_folk_hearsayLoud : HL f_p0_folk_hearsayLoud) (h_f_h0_folk_hearsayLoud : HL f_h0_folk_hearsayLoud) (h_f_h0_term : TE f_h0_term) (h_f_p0_term : TE f_p0_term) (e_0 : ∀ k, k < 6 → ∀ v, f_p0_laws k = some v → TT v) (e_1 : RXw f_p0_rock_kind f_p0_rock_hard f_p0_rock_water p0_rock_dug f_p0_crew_cell f_p0_crew_buckets p0_crew_count f_p0_folk_column f_p0_folk_ear p0_folk_listeners f_p0_folk_noiseColumn f_p0_folk_noiseLoud p0_folk_noises p0_folk_hushed f_p0_folk_hearsayColumn f_p0_folk_hearsayLoud p0_folk_hearsay f_p0_folk_sounds f_p0_folk_wet p0_folk_wells f_p0_term p0_lawCount p0_force w) {Q : (Int32 × Int32 × Int64 × (Nat → Int32) × (Nat → Int32) × (Nat → Int32) × Int32 × (Nat → Int32) × (Nat → Int32) × Int32 × Int32 × Int32 × Int32 × Int32 × (Nat → Int32) × (Nat → Int32) × (Nat → Int32) × (Nat → Int32) × (Nat → Int32) × (Nat → Int32) × (Nat → Int32) × (Nat → Int32) × (Nat → Int32) × (Nat → Option Nat)) → Prop} (hq : ∀ (u_0 : Int32) (u_1 : Int32) (u_2 : Int64) (u_3 : Nat → Int32) (u_4 : Nat → Int32) (u_5 : Nat → Int32) (u_6 : Int32) (u_7 : Nat → Int32) (u_8 : Nat → Int32) (u_9 : Int32) (u_10 : Int32) (u_11 : Int32) (u_12 : Int32) (u_13 : Int32) (u_14 : Nat → Int32) (u_15 : Nat → Int32) (u_16 : Nat → Int32) (u_17 : Nat → Int32) (u_18 : Nat → Int32) (u_19 : Nat → Int32) (u_20 : Nat → Int32) (u_21 : Nat → Int32) (u_22 : Nat → Int32) (u_23 : Nat → Option Nat), (0 ≤ u_0.toInt ∧ u_0.toInt ≤ 6) ∧ ((-1) ≤ u_1.toInt ∧ u_1.toInt ≤ 5) ∧ (KI u_3) ∧ (HA u_4) ∧ (WA u_5) ∧ (0 ≤ u_6.toInt ∧ u_6.toInt ≤ 6) ∧ (CE u_7) ∧ (BU u_8) ∧ (0 ≤ u_9.toInt ∧ u_9.toInt ≤ 5) ∧ (0 ≤ u_10.toInt ∧ u_10.toInt ≤ 6) ∧ (0 ≤ u_12.toInt ∧ u_12.toInt ≤ 8) ∧ (0 ≤ u_13.toInt ∧ u_13.toInt ≤ 10) ∧ (CO u_14) ∧ (EA u_15) ∧ (NC u_16) ∧ (NL u_17) ∧ (HC u_18) ∧ (HL u_19) ∧ (TE u_22) ∧ (∀ k, k < 6 → u_23 k = f_p0_laws k) ∧ (u_0 = p0_lawCount) ∧ (u_1 = p0_force) ∧ (RXw u_3 u_4 u_5 u_2 u_7 u_8 u_6 u_14 u_15 u_9 u_16 u_17 u_10 u_11 u_18 u_19 u_12 u_20 u_21 u_13 u_22 u_0 u_1 w) → Q (u_0, u_1, u_2, u_3, u_4, u_5, u_6, u_7, u_8, u_9, u_10, u_11, u_12, u_13, u_14, u_15, u_16, u_17, u_18, u_19, u_20, u_21, u_22, u_23)) : wp_X10_copyFrom p0_lawCount p0_force p0_rock_dug f_p0_rock_kind f_h0_rock_kind f_p0_rock_hard f_h0_rock_hard f_p0_rock_water f_h0_rock_water p0_crew_count f_p0_crew_cell f_h0_crew_cell f_p0_crew_buckets f_h0_crew_buckets p0_folk_listeners p0_folk_noises p0_folk_hushed p0_folk_hearsay p0_folk_wells f_p0_folk_column f_h0_folk_column f_p0_folk_ear f_h0_folk_ear f_p0_folk_noiseColumn f_h0_folk_noiseColumn f_p0_folk_noiseLoud f_h0_folk_noiseLoud f_p0_folk_hearsayColumn f_h0_folk_hearsayColumn f_p0_folk_hearsayLoud f_h0_folk_hearsayLoud f_p0_folk_sounds f_h0_folk_sounds f_p0_folk_wet f_h0_folk_wet f_h0_term f_p0_term f_p0_laws f_h0_laws TT Q := by
  unfold wp_X10_copyFrom
  refine o_X6_copyFrom _ _ _ _ _ _ _ _ ?_
  refine un4_i ?_
  refine o_X1_copyFrom _ _ _ _ _ _ ?_
  refine un3_i ?_
  refine o_X4_copyFrom _ _ _ _ _ _ _ _ _ _ _ _ _ _ _ _ _ _ _ _ _ _ ?_
  refine un13_i ?_
  refine sl_laws e_0 (fun x1 f2 hl3 => ?_) 1000000000000 0 _ _ rfl (by decide) (by decide) (fun k hk => absurd hk (by omega))
  exact hq _ _ _ _ _ _ _ _ _ _ _ _ _ _ _ _ _ _ _ _ _ _ _ _ ⟨⟨by omega, by omega⟩, ⟨by omega, by omega⟩, (KI.cp h_f_p0_rock_kind), (HA.cp h_f_p0_rock_hard), (WA.cp h_f_p0_rock_water), ⟨by omega, by omega⟩, (CE.cp h_f_p0_crew_cell), (BU.cp h_f_p0_crew_buckets), ⟨by omega, by omega⟩, ⟨by omega, by omega⟩, ⟨by omega, by omega⟩, ⟨by omega, by omega⟩, (CO.cp h_f_p0_folk_column), (EA.cp h_f_p0_folk_ear), (NC.cp h_f_p0_folk_noiseColumn), (NL.cp h_f_p0_folk_noiseLoud), (HC.cp h_f_p0_folk_hearsayColumn), (HL.cp h_f_p0_folk_hearsayLoud), (TE.cp h_f_p0_term), hl3, rfl, rfl, (RXw.cp e_1)⟩


set_option maxRecDepth 100000 in
theorem s_X7_copyFromz (p0_world_lawCount : Int32) (p0_world_force : Int32) (p0_world_rock_dug : Int64) (f_p0_world_rock_kind : Nat → Int32) (f_h0_world_rock_kind : Nat → Int32) (f_p0_world_rock_hard : Nat → Int32) (f_h0_world_rock_hard : Nat → Int32) (f_p0_world_rock_water : Nat → Int32) (f_h0_world_rock_water : Nat → Int32) (p0_world_crew_count : Int32) (f_p0_world_crew_cell : Nat → Int32) (f_h0_world_crew_cell : Nat → Int32) (f_p0_world_crew_buckets : Nat → Int32) (f_h0_world_crew_buckets : Nat → Int32) (p0_world_folk_listeners : Int32) (p0_world_folk_noises : Int32) (p0_world_folk_hushed : Int32) (p0_world_folk_hearsay : Int32) (p0_world_folk_wells : Int32) (f_p0_world_folk_column : Nat → Int32) (f_h0_world_folk_column : Nat → Int32) (f_p0_world_folk_ear : Nat → Int32) (f_h0_world_folk_ear : Nat → Int32) (f_p0_world_folk_noiseColumn : Nat → Int32) (f_h0_world_folk_noiseColumn : Nat → Int32) (f_p0_world_folk_noiseLoud : Nat → Int32) (f_h0_world_folk_noiseLoud : Nat → Int32) (f_p0_world_folk_hearsayColumn : Nat → Int32) (f_h0_world_folk_hearsayColumn : Nat → Int32) (f_p0_world_folk_hearsayLoud : Nat → Int32) (f_h0_world_folk_hearsayLoud : Nat → Int32) (f_p0_world_folk_sounds : Nat → Int32) (f_h0_world_folk_sounds : Nat → Int32) (f_p0_world_folk_wet : Nat → Int32) (f_h0_world_folk_wet : Nat → Int32) (f_h0_world_term : Nat → Int32) (f_p0_world_term : Nat → Int32) (f_p0_world_laws : Nat → Option Nat) (f_h0_world_laws : Nat → Option Nat) (p0_diary_kept : Int32) (p0_diary_latest : Int32) (f_p0_diary_deed : Nat → Int32) (f_h0_diary_deed : Nat → Int32) (f_p0_diary_whose : Nat → Int32) (f_h0_diary_whose : Nat → Int32) (f_p0_diary_before : Nat → Int32) (f_h0_diary_before : Nat → Int32) (f_p0_diary_bucketsBefore : Nat → Int32) (f_h0_diary_bucketsBefore : Nat → Int32) (f_p0_diary_dayBefore : Nat → Int32) (f_h0_diary_dayBefore : Nat → Int32) (TT : Nat → Prop) {w : Nat → Int} {U : UL} (h_p0_world_lawCount : 0 ≤ p0_world_lawCount.toInt ∧ p0_world_lawCount.toInt ≤ 6) (h_p0_world_force : (-1) ≤ p0_world_force.toInt ∧ p0_world_force.toInt ≤ 5) (h_f_p0_world_rock_kind : KI f_p0_world_rock_kind) (h_f_h0_world_rock_kind : KI f_h0_world_rock_kind) (h_f_p0_world_rock_hard : HA f_p0_world_rock_hard) (h_f_h0_world_rock_hard : HA f_h0_world_rock_hard) (h_f_p0_world_rock_water : WA f_p0_world_rock_water) (h_f_h0_world_rock_water : WA f_h0_world_rock_water) (h_p0_world_crew_count : 0 ≤ p0_world_crew_count.toInt ∧ p0_world_crew_count.toInt ≤ 6) (h_f_p0_world_crew_cell : CE f_p0_world_crew_cell) (h_f_h0_world_crew_cell : CE f_h0_world_crew_cell) (h_f_p0_world_crew_buckets : BU f_p0_world_crew_buckets) (h_f_h0_world_crew_buckets : BU f_h0_world_crew_buckets) (h_p0_world_folk_listeners : 0 ≤ p0_world_folk_listeners.toInt ∧ p0_world_folk_listeners.toInt ≤ 5) (h_p0_world_folk_noises : 0 ≤ p0_world_folk_noises.toInt ∧ p0_world_folk_noises.toInt ≤ 6) (h_p0_world_folk_hearsay : 0 ≤ p0_world_folk_hearsay.toInt ∧ p0_world_folk_hearsay.toInt ≤ 8) (h_p0_world_folk_wells : 0 ≤ p0_world_folk_wells.toInt ∧ p0_world_folk_wells.toInt ≤ 10) (h_f_p0_world_folk_column : CO f_p0_world_folk_column) (h_f_h0_world_folk_column : CO f_h0_world_folk_column) (h_f_p0_world_folk_ear : EA f_p0_world_folk_ear) (h_f_h0_world_folk_ear : EA f_h0_world_folk_ear) (h_f_p0_world_folk_noiseColumn : NC f_p0_world_folk_noiseColumn) (h_f_h0_world_folk_noiseColumn : NC f_h0_world_folk_noiseColumn) (h_f_p0_world_folk_noiseLoud : NL f_p0_world_folk_noiseLoud) (h_f_h0_world_folk_noiseLoud : NL f_h0_world_folk_noiseLoud) (h_f_p0_world_folk_hearsayColumn : HC f_p0_world_folk_hearsayColumn) (h_f_h0_world_folk_hearsayColumn : HC f_h0_world_folk_hearsayColumn) (h_f_p0_world_folk_hearsayLoud : HL f_p0_world_folk_hearsayLoud) (h_f_h0_world_folk_hearsayLoud : HL f_h0_world_folk_hearsayLoud) (h_f_h0_world_term : TE f_h0_world_term) (h_f_p0_world_term : TE f_p0_world_term) (h_p0_diary_kept : 0 ≤ p0_diary_kept.toInt ∧ p0_diary_kept.toInt ≤ 16) (h_p0_diary_latest : 0 ≤ p0_diary_latest.toInt ∧ p0_diary_latest.toInt ≤ 15) (e_0 : ∀ k, k < 6 → ∀ v, f_p0_world_laws k = some v → TT v) (e_1 : DI f_p0_diary_deed f_p0_diary_whose f_p0_diary_before f_p0_diary_bucketsBefore f_p0_diary_dayBefore) (e_2 : RXw f_p0_world_rock_kind f_p0_world_rock_hard f_p0_world_rock_water p0_world_rock_dug f_p0_world_crew_cell f_p0_world_crew_buckets p0_world_crew_count f_p0_world_folk_column f_p0_world_folk_ear p0_world_folk_listeners f_p0_world_folk_noiseColumn f_p0_world_folk_noiseLoud p0_world_folk_noises p0_world_folk_hushed f_p0_world_folk_hearsayColumn f_p0_world_folk_hearsayLoud p0_world_folk_hearsay f_p0_world_folk_sounds f_p0_world_folk_wet p0_world_folk_wells f_p0_world_term p0_world_lawCount p0_world_force w) (e_3 : RXu f_p0_diary_deed f_p0_diary_whose f_p0_diary_before f_p0_diary_bucketsBefore f_p0_diary_dayBefore p0_diary_kept p0_diary_latest w U) {Q : (Int32 × Int32 × Int64 × (Nat → Int32) × (Nat → Int32) × (Nat → Int32) × Int32 × (Nat → Int32) × (Nat → Int32) × Int32 × Int32 × Int32 × Int32 × Int32 × (Nat → Int32) × (Nat → Int32) × (Nat → Int32) × (Nat → Int32) × (Nat → Int32) × (Nat → Int32) × (Nat → Int32) × (Nat → Int32) × (Nat → Int32) × (Nat → Option Nat) × Int32 × Int32 × (Nat → Int32) × (Nat → Int32) × (Nat → Int32) × (Nat → Int32) × (Nat → Int32)) → Prop} (hq : ∀ (u_0 : Int32) (u_1 : Int32) (u_2 : Int64) (u_3 : Nat → Int32) (u_4 : Nat → Int32) (u_5 : Nat → Int32) (u_6 : Int32) (u_7 : Nat → Int32) (u_8 : Nat → Int32) (u_9 : Int32) (u_10 : Int32) (u_11 : Int32) (u_12 : Int32) (u_13 : Int32) (u_14 : Nat → Int32) (u_15 : Nat → Int32) (u_16 : Nat → Int32) (u_17 : Nat → Int32) (u_18 : Nat → Int32) (u_19 : Nat → Int32) (u_20 : Nat → Int32) (u_21 : Nat → Int32) (u_22 : Nat → Int32) (u_23 : Nat → Option Nat) (u_24 : Int32) (u_25 : Int32) (u_26 : Nat → Int32) (u_27 : Nat → Int32) (u_28 : Nat → Int32) (u_29 : Nat → Int32) (u_30 : Nat → Int32), (0 ≤ u_0.toInt ∧ u_0.toInt ≤ 6) ∧ ((-1) ≤ u_1.toInt ∧ u_1.toInt ≤ 5) ∧ (KI u_3) ∧ (HA u_4) ∧ (WA u_5) ∧ (0 ≤ u_6.toInt ∧ u_6.toInt ≤ 6) ∧ (CE u_7) ∧ (BU u_8) ∧ (0 ≤ u_9.toInt ∧ u_9.toInt ≤ 5) ∧ (0 ≤ u_10.toInt ∧ u_10.toInt ≤ 6) ∧ (0 ≤ u_12.toInt ∧ u_12.toInt ≤ 8) ∧ (0 ≤ u_13.toInt ∧ u_13.toInt ≤ 10) ∧ (CO u_14) ∧ (EA u_15) ∧ (NC u_16) ∧ (NL u_17) ∧ (HC u_18) ∧ (HL u_19) ∧ (TE u_22) ∧ (0 ≤ u_24.toInt ∧ u_24.toInt ≤ 16) ∧ (0 ≤ u_25.toInt ∧ u_25.toInt ≤ 15) ∧ (∀ k, k < 6 → u_23 k = f_p0_world_laws k) ∧ (u_0 = p0_world_lawCount) ∧ (u_1 = p0_world_force) ∧ (DI u_26 u_27 u_28 u_29 u_30) ∧ (RXw u_3 u_4 u_5 u_2 u_7 u_8 u_6 u_14 u_15 u_9 u_16 u_17 u_10 u_11 u_18 u_19 u_12 u_20 u_21 u_13 u_22 u_0 u_1 w) ∧ (RXu u_26 u_27 u_28 u_29 u_30 u_24 u_25 w U) → Q (u_0, u_1, u_2, u_3, u_4, u_5, u_6, u_7, u_8, u_9, u_10, u_11, u_12, u_13, u_14, u_15, u_16, u_17, u_18, u_19, u_20, u_21, u_22, u_23, u_24, u_25, u_26, u_27, u_28, u_29, u_30)) : wp_X7_copyFrom p0_world_lawCount p0_world_force p0_world_rock_dug f_p0_world_rock_kind f_h0_world_rock_kind f_p0_world_rock_hard f_h0_world_rock_hard f_p0_world_rock_water f_h0_world_rock_water p0_world_crew_count f_p0_world_crew_cell f_h0_world_crew_cell f_p0_world_crew_buckets f_h0_world_crew_buckets p0_world_folk_listeners p0_world_folk_noises p0_world_folk_hushed p0_world_folk_hearsay p0_world_folk_wells f_p0_world_folk_column f_h0_world_folk_column f_p0_world_folk_ear f_h0_world_folk_ear f_p0_world_folk_noiseColumn f_h0_world_folk_noiseColumn f_p0_world_folk_noiseLoud f_h0_world_folk_noiseLoud f_p0_world_folk_hearsayColumn f_h0_world_folk_hearsayColumn f_p0_world_folk_hearsayLoud f_h0_world_folk_hearsayLoud f_p0_world_folk_sounds f_h0_world_folk_sounds f_p0_world_folk_wet f_h0_world_folk_wet f_h0_world_term f_p0_world_term f_p0_world_laws f_h0_world_laws p0_diary_kept p0_diary_latest f_p0_diary_deed f_h0_diary_deed f_p0_diary_whose f_h0_diary_whose f_p0_diary_before f_h0_diary_before f_p0_diary_bucketsBefore f_h0_diary_bucketsBefore f_p0_diary_dayBefore f_h0_diary_dayBefore TT Q := by
  unfold wp_X7_copyFrom
  refine s_X10_copyFromz p0_world_lawCount p0_world_force p0_world_rock_dug (f_p0_world_rock_kind) (f_h0_world_rock_kind) (f_p0_world_rock_hard) (f_h0_world_rock_hard) (f_p0_world_rock_water) (f_h0_world_rock_water) p0_world_crew_count (f_p0_world_crew_cell) (f_h0_world_crew_cell) (f_p0_world_crew_buckets) (f_h0_world_crew_buckets) p0_world_folk_listeners p0_world_folk_noises p0_world_folk_hushed p0_world_folk_hearsay p0_world_folk_wells (f_p0_world_folk_column) (f_h0_world_folk_column) (f_p0_world_folk_ear) (f_h0_world_folk_ear) (f_p0_world_folk_noiseColumn) (f_h0_world_folk_noiseColumn) (f_p0_world_folk_noiseLoud) (f_h0_world_folk_noiseLoud) (f_p0_world_folk_hearsayColumn) (f_h0_world_folk_hearsayColumn) (f_p0_world_folk_hearsayLoud) (f_h0_world_folk_hearsayLoud) (f_p0_world_folk_sounds) (f_h0_world_folk_sounds) (f_p0_world_folk_wet) (f_h0_world_folk_wet) (f_h0_world_term) (f_p0_world_term) (f_p0_world_laws) (f_h0_world_laws) TT ⟨by omega, by omega⟩ ⟨by omega, by omega⟩ h_f_p0_world_rock_kind h_f_h0_world_rock_kind h_f_p0_world_rock_hard h_f_h0_world_rock_hard h_f_p0_world_rock_water h_f_h0_world_rock_water ⟨by omega, by omega⟩ h_f_p0_world_crew_cell h_f_h0_world_crew_cell h_f_p0_world_crew_buckets h_f_h0_world_crew_buckets ⟨by omega, by omega⟩ ⟨by omega, by omega⟩ ⟨by omega, by omega⟩ ⟨by omega, by omega⟩ h_f_p0_world_folk_column h_f_h0_world_folk_column h_f_p0_world_folk_ear h_f_h0_world_folk_ear h_f_p0_world_folk_noiseColumn h_f_h0_world_folk_noiseColumn h_f_p0_world_folk_noiseLoud h_f_h0_world_folk_noiseLoud h_f_p0_world_folk_hearsayColumn h_f_h0_world_folk_hearsayColumn h_f_p0_world_folk_hearsayLoud h_f_h0_world_folk_hearsayLoud h_f_h0_world_term h_f_p0_world_term e_0 e_2 (fun u1_0 u1_1 u1_2 u1_3 u1_4 u1_5 u1_6 u1_7 u1_8 u1_9 u1_10 u1_11 u1_12 u1_13 u1_14 u1_15 u1_16 u1_17 u1_18 u1_19 u1_20 u1_21 u1_22 u1_23 H2 => ?_)
  have j3 := H2.1
  have j4 := H2.2.1
  have j5 := H2.2.2.1
  have j6 := H2.2.2.2.1
  have j7 := H2.2.2.2.2.1
  have j8 := H2.2.2.2.2.2.1
  have j9 := H2.2.2.2.2.2.2.1
  have j10 := H2.2.2.2.2.2.2.2.1
  have j11 := H2.2.2.2.2.2.2.2.2.1
  have j12 := H2.2.2.2.2.2.2.2.2.2.1
  have j13 := H2.2.2.2.2.2.2.2.2.2.2.1
  have j14 := H2.2.2.2.2.2.2.2.2.2.2.2.1
  have j15 := H2.2.2.2.2.2.2.2.2.2.2.2.2.1
  have j16 := H2.2.2.2.2.2.2.2.2.2.2.2.2.2.1
  have j17 := H2.2.2.2.2.2.2.2.2.2.2.2.2.2.2.1
  have j18 := H2.2.2.2.2.2.2.2.2.2.2.2.2.2.2.2.1
  have j19 := H2.2.2.2.2.2.2.2.2.2.2.2.2.2.2.2.2.1
  have j20 := H2.2.2.2.2.2.2.2.2.2.2.2.2.2.2.2.2.2.1
  have j21 := H2.2.2.2.2.2.2.2.2.2.2.2.2.2.2.2.2.2.2.1
  have j22 := H2.2.2.2.2.2.2.2.2.2.2.2.2.2.2.2.2.2.2.2.1
  have j23 := H2.2.2.2.2.2.2.2.2.2.2.2.2.2.2.2.2.2.2.2.2.1
  have j24 := H2.2.2.2.2.2.2.2.2.2.2.2.2.2.2.2.2.2.2.2.2.2.1
  have j25 := H2.2.2.2.2.2.2.2.2.2.2.2.2.2.2.2.2.2.2.2.2.2.2
  refine un24_i ?_
  refine o_X2_copyFrom _ _ _ _ _ _ _ _ _ _ _ _ _ ?_
  refine un7_i ?_
  exact hq _ _ _ _ _ _ _ _ _ _ _ _ _ _ _ _ _ _ _ _ _ _ _ _ _ _ _ _ _ _ _ ⟨⟨by omega, by omega⟩, ⟨by omega, by omega⟩, j5, j6, j7, ⟨by omega, by omega⟩, j9, j10, ⟨by omega, by omega⟩, ⟨by omega, by omega⟩, ⟨by omega, by omega⟩, ⟨by omega, by omega⟩, j15, j16, j17, j18, j19, j20, j21, ⟨by omega, by omega⟩, ⟨by omega, by omega⟩, j22, j23, j24, (DI.cp e_1), j25, (RXu.cp e_3)⟩


set_option maxRecDepth 100000 in
theorem sl_X7_runSeasons_N_22z (b : Int32) (h0_world : Nat) (h0_world_lawCount : Int32) (h0_world_force : Int32) (h0_world_crew_count : Int32) (f_h0_world_rock_kind : Nat → Int32) (f_h0_world_laws : Nat → Option Nat) (f_h0_world_rock_hard : Nat → Int32) (w : Nat → Int) (U : UL) (ls : Nat → List Cls) (a0 : Int) (g_co : Nat → Int32) (g_ea : Nat → Int32) (g_ls : Int32) (g_nc : Nat → Int32) (g_nl : Nat → Int32) (g_ns : Int32) (g_hu : Int32) (g_hc : Nat → Int32) (g_hl : Nat → Int32) (g_hs : Int32) (g_so : Nat → Int32) (g_we : Nat → Int32) (g_wl : Int32) (h_b : 1 ≤ b.toInt ∧ b.toInt ≤ 60) (h_h0_world_lawCount : 0 ≤ h0_world_lawCount.toInt ∧ h0_world_lawCount.toInt ≤ 6) (h_h0_world_force : (-1) ≤ h0_world_force.toInt ∧ h0_world_force.toInt ≤ (-1)) (h_h0_world_crew_count : 1 ≤ h0_world_crew_count.toInt ∧ h0_world_crew_count.toInt ≤ 6) (h_f_h0_world_rock_kind : KI f_h0_world_rock_kind) (h_f_h0_world_rock_hard : HA f_h0_world_rock_hard) (Qb : Int32 → Int32 → (Nat → Int32) → (Nat → Int32) → Int64 → Value → Value → Int32 → Int32 → Int32 → (Nat → Int32) → (Nat → Int32) → Int32 → Int32 → (Nat → Int32) → (Nat → Int32) → (Nat → Int32) → (Nat → Int32) → (Nat → Int32) → Prop) (KX : ∀ (x_22_0 : Int32) (x_22_1 : Int32) (x_22_2 : Nat → Int32) (x_22_3 : Nat → Int32) (x_22_4 : Int64) (x_22_5 : Value) (x_22_6 : Value) (x_22_7 : Int32) (x_22_8 : Int32) (x_22_9 : Int32) (x_22_10 : Nat → Int32) (x_22_11 : Nat → Int32) (x_22_12 : Int32) (x_22_13 : Int32) (x_22_14 : Nat → Int32) (x_22_15 : Nat → Int32) (x_22_16 : Nat → Int32) (x_22_17 : Nat → Int32) (x_22_18 : Nat → Int32), (1 ≤ x_22_0.toInt ∧ x_22_0.toInt ≤ 60) ∧ (0 ≤ x_22_1.toInt ∧ x_22_1.toInt ≤ 1000002) ∧ (CE x_22_2) ∧ (TE x_22_3) ∧ (0 ≤ x_22_7.toInt ∧ x_22_7.toInt ≤ 39) ∧ (WA x_22_10) ∧ (BU x_22_11) ∧ (0 ≤ x_22_12.toInt ∧ x_22_12.toInt ≤ 16) ∧ (0 ≤ x_22_13.toInt ∧ x_22_13.toInt ≤ 15) ∧ (DI x_22_14 x_22_15 x_22_16 x_22_17 x_22_18) ∧ (∃ s : (Nat → Int) × UL, seF ls b.toInt.toNat a0 w = seF ls (b.toInt.toNat - (x_22_0.toInt).toNat) x_22_1.toInt s.1 ∧ (∀ i, i < 6 → w (16 + i) ≤ s.1 (16 + i)) ∧ RXw f_h0_world_rock_kind f_h0_world_rock_hard x_22_10 x_22_4 x_22_2 x_22_11 h0_world_crew_count g_co g_ea g_ls g_nc g_nl g_ns g_hu g_hc g_hl g_hs g_so g_we g_wl x_22_3 h0_world_lawCount h0_world_force s.1 ∧ RXu x_22_14 x_22_15 x_22_16 x_22_17 x_22_18 x_22_12 x_22_13 s.1 s.2) ∧ (∃ s : (Nat → Int) × UL, seF ls b.toInt.toNat a0 w = s.1 ∧ (∀ i, i < 6 → w (16 + i) ≤ s.1 (16 + i)) ∧ RXw f_h0_world_rock_kind f_h0_world_rock_hard x_22_10 x_22_4 x_22_2 x_22_11 h0_world_crew_count g_co g_ea g_ls g_nc g_nl g_ns g_hu g_hc g_hl g_hs g_so g_we g_wl x_22_3 h0_world_lawCount h0_world_force s.1 ∧ RXu x_22_14 x_22_15 x_22_16 x_22_17 x_22_18 x_22_12 x_22_13 s.1 s.2) → Qb x_22_0 x_22_1 x_22_2 x_22_3 x_22_4 x_22_5 x_22_6 x_22_7 x_22_8 x_22_9 x_22_10 x_22_11 x_22_12 x_22_13 x_22_14 x_22_15 x_22_16 x_22_17 x_22_18) : ∀ (n : Nat) (x_22_0 : Int32) (x_22_1 : Int32) (x_22_2 : Nat → Int32) (x_22_3 : Nat → Int32) (x_22_4 : Int64) (x_22_5 : Value) (x_22_6 : Value) (x_22_7 : Int32) (x_22_8 : Int32) (x_22_9 : Int32) (x_22_10 : Nat → Int32) (x_22_11 : Nat → Int32) (x_22_12 : Int32) (x_22_13 : Int32) (x_22_14 : Nat → Int32) (x_22_15 : Nat → Int32) (x_22_16 : Nat → Int32) (x_22_17 : Nat → Int32) (x_22_18 : Nat → Int32), (0 ≤ x_22_0.toInt ∧ x_22_0.toInt ≤ 60) ∧ (0 ≤ x_22_1.toInt ∧ x_22_1.toInt ≤ 1000002) ∧ (CE x_22_2) ∧ (TE x_22_3) ∧ (0 ≤ x_22_7.toInt ∧ x_22_7.toInt ≤ 39) ∧ (WA x_22_10) ∧ (BU x_22_11) ∧ (0 ≤ x_22_12.toInt ∧ x_22_12.toInt ≤ 16) ∧ (0 ≤ x_22_13.toInt ∧ x_22_13.toInt ≤ 15) ∧ (DI x_22_14 x_22_15 x_22_16 x_22_17 x_22_18) ∧ (∃ s : (Nat → Int) × UL, seF ls b.toInt.toNat a0 w = seF ls (b.toInt.toNat - (x_22_0.toInt).toNat) x_22_1.toInt s.1 ∧ (∀ i, i < 6 → w (16 + i) ≤ s.1 (16 + i)) ∧ RXw f_h0_world_rock_kind f_h0_world_rock_hard x_22_10 x_22_4 x_22_2 x_22_11 h0_world_crew_count g_co g_ea g_ls g_nc g_nl g_ns g_hu g_hc g_hl g_hs g_so g_we g_wl x_22_3 h0_world_lawCount h0_world_force s.1 ∧ RXu x_22_14 x_22_15 x_22_16 x_22_17 x_22_18 x_22_12 x_22_13 s.1 s.2) → 61 - x_22_0.toInt < (n : Int) → wl_X7_runSeasons_N_22 b h0_world h0_world_lawCount h0_world_force h0_world_crew_count f_h0_world_rock_kind f_h0_world_laws f_h0_world_rock_hard Qb n x_22_0 x_22_1 x_22_2 x_22_3 x_22_4 x_22_5 x_22_6 x_22_7 x_22_8 x_22_9 x_22_10 x_22_11 x_22_12 x_22_13 x_22_14 x_22_15 x_22_16 x_22_17 x_22_18 := by
  intro n
  induction n with
  | zero =>
    intro x_22_0 x_22_1 x_22_2 x_22_3 x_22_4 x_22_5 x_22_6 x_22_7 x_22_8 x_22_9 x_22_10 x_22_11 x_22_12 x_22_13 x_22_14 x_22_15 x_22_16 x_22_17 x_22_18 hI hm
    exfalso; have hm : 61 - x_22_0.toInt < 0 := hm; omega
  | succ n ih =>
    intro x_22_0 x_22_1 x_22_2 x_22_3 x_22_4 x_22_5 x_22_6 x_22_7 x_22_8 x_22_9 x_22_10 x_22_11 x_22_12 x_22_13 x_22_14 x_22_15 x_22_16 x_22_17 x_22_18 hI hm
    have hm : 61 - x_22_0.toInt < (n : Int) + 1 := by simpa using hm
    have h_x_22_0 := hI.1
    have h_x_22_1 := hI.2.1
    have h_x_22_2 := hI.2.2.1
    have h_x_22_3 := hI.2.2.2.1
    have h_x_22_7 := hI.2.2.2.2.1
    have h_x_22_10 := hI.2.2.2.2.2.1
    have h_x_22_11 := hI.2.2.2.2.2.2.1
    have h_x_22_12 := hI.2.2.2.2.2.2.2.1
    have h_x_22_13 := hI.2.2.2.2.2.2.2.2.1
    have h_rel0 := hI.2.2.2.2.2.2.2.2.2.1
    have h_rel1 := hI.2.2.2.2.2.2.2.2.2.2
    unfold wl_X7_runSeasons_N_22
    obtain ⟨⟨w1, U1⟩, hI, hmo, hX, hU⟩ := h_rel1
    have hI : seF ls b.toInt.toNat a0 w = seF ls (b.toInt.toNat - x_22_0.toInt.toNat) x_22_1.toInt w1 := hI
    have hmo : ∀ i, i < 6 → w (16 + i) ≤ w1 (16 + i) := hmo
    have l_kd := RXw.kd hX
    have l_hd := RXw.hd hX
    have l_wt := RXw.wt hX
    have l_ce := RXw.ce hX
    have l_bu := RXw.bu hX
    have l_cc : h0_world_crew_count.toInt = w1 0 := RXw.cc hX
    have l_te := RXw.te hX
    have l_lc : h0_world_lawCount.toInt = w1 5 := RXw.lc hX
    have l_fo : h0_world_force.toInt = w1 6 := RXw.fo hX
    have hbu : ∀ i, i < 6 → w1 (16 + i) ≤ 9999 := fun i hi => by have q : (Int32.toInt (x_22_11 i)) = w1 (16 + i) := RXw.bu hX i hi; rw [← q]; exact (BU.at_0 h_x_22_11 (n := i) rfl (by omega) (by omega)).2
    by_cases c1 : b ≤ x_22_0
    · refine br1 c1 ?_
      have d2 := le_z (x := (Int32.toInt b)) (y := (Int32.toInt x_22_0)) rfl rfl c1
      exact KX _ _ _ _ _ _ _ _ _ _ _ _ _ _ _ _ _ _ _ ⟨⟨by omega, by omega⟩, ⟨by omega, by omega⟩, h_x_22_2, h_x_22_3, ⟨by omega, by omega⟩, h_x_22_10, h_x_22_11, ⟨by omega, by omega⟩, ⟨by omega, by omega⟩, h_rel0, ⟨(w1, U1), hI, hmo, hX, hU⟩, ⟨(w1, U1), by rw [hI, show b.toInt.toNat - x_22_0.toInt.toNat = 0 by omega]; rfl, hmo, hX, hU⟩⟩
    · refine br0 c1 ?_
      have d3 := nle_z (x := (Int32.toInt b)) (y := (Int32.toInt x_22_0)) rfl rfl c1
      refine bnd_dw (x := x_22_1) (by omega) (by omega) (fun zb4 hz5 hz6 => ?_)
      refine ⟨z_ne (x := (Int32.toInt h0_world_crew_count)) (y := 0) rfl rfl (by omega), ?_⟩
      refine bnd_md (a := zb4) (b := h0_world_crew_count) (by omega) (by omega) (fun zb7 hz8 hz9 => ?_)
      have t10 : zb7.toInt ≤ 5 := by omega
      refine bnd_dw (x := zb4) (by omega) (by omega) (fun zb11 hz12 hz13 => ?_)
      have k17 : Int32.toInt 3 = 3 := rfl
      refine bnd_md (a := zb11) (b := 3) (by omega) (by omega) (fun zb14 hz15 hz16 => ?_)
      refine s_X7_tryHaul_Nz (ls := ls) zb7 h0_world h0_world_lawCount h0_world_force h0_world_crew_count (x_22_2) (x_22_3) (f_h0_world_rock_kind) (f_h0_world_laws) x_22_5 x_22_6 x_22_7 x_22_8 x_22_9 (x_22_10) (x_22_11) x_22_12 x_22_13 (x_22_14) (x_22_15) (x_22_16) (x_22_17) (x_22_18) ⟨by omega, by omega⟩ ⟨by omega, by omega⟩ ⟨by omega, by omega⟩ h_x_22_2 h_x_22_3 h_f_h0_world_rock_kind ⟨by omega, by omega⟩ h_x_22_10 h_x_22_11 ⟨by omega, by omega⟩ ⟨by omega, by omega⟩ hX hU h_rel0 (fun r18 u19_0 u19_1 u19_2 u19_3 u19_4 u19_5 u19_6 u19_7 u19_8 u19_9 u19_10 u19_11 u19_12 u19_13 u19_14 H20 => ?_)
      have j21 := H20.1
      have j22 := H20.2.1
      have j23 := H20.2.2.1
      have j24 := H20.2.2.2.1
      have j25 := H20.2.2.2.2.1
      have j26 := H20.2.2.2.2.2.1
      have j27 := H20.2.2.2.2.2.2.1
      have j28 := H20.2.2.2.2.2.2.2.1
      have j29 := H20.2.2.2.2.2.2.2.2.1
      have j30 := H20.2.2.2.2.2.2.2.2.2.1
      have j31 := H20.2.2.2.2.2.2.2.2.2.2
      refine un15_i ?_
      by_cases c32 : 0 ≤ r18
      · refine br1 c32 ?_
        have d33 := le_z (x := 0) (y := (Int32.toInt r18)) rfl rfl c32
        have hp34 : 0 ≤ haulR (lawW w1 ls) w1 zb7.toInt := by rw [← j28]; omega
        have t35 : (Int32.toInt (x_22_0 + 1)) = (Int32.toInt x_22_0) + 1 := add_z rfl rfl (by omega) (by omega)
        exact ih _ _ _ _ _ _ _ _ _ _ _ _ _ _ _ _ _ _ _ ⟨⟨by omega, by omega⟩, ⟨by omega, by omega⟩, h_x_22_2, j22, ⟨by omega, by omega⟩, j24, j25, ⟨by omega, by omega⟩, ⟨by omega, by omega⟩, j31, ⟨(haulW (lawW w1 ls) w1 zb7.toInt, _), hI.trans (seF_h (show b.toInt.toNat - x_22_0.toInt.toNat = (b.toInt.toNat - (x_22_0 + 1).toInt.toNat) + 1 by omega) hz6 hz9 hz13 hz16 hp34 l_cc), fun i hi => Int.le_trans (hmo i hi) (haulW_mo hbu i hi), j29, (by have q := j30; exact q)⟩⟩ (by omega)
      · refine br0 c32 ?_
        have d36 := nle_z (x := 0) (y := (Int32.toInt r18)) rfl rfl c32
        have hn37 : haulR (lawW w1 ls) w1 zb7.toInt < 0 := by rw [← j28]; omega
        have hw38 := j29
        rw [haulW_n hn37] at hw38
        have hu39 := j30
        rw [haulW_n hn37, rmU_n hn37] at hu39
        refine s_X7_tryDig_Nz (ls := ls) zb7 zb14 h0_world h0_world_lawCount h0_world_force h0_world_crew_count (x_22_2) x_22_4 (f_h0_world_rock_kind) (f_h0_world_laws) u19_1 u19_2 u19_3 u19_4 u19_5 (u19_0) (f_h0_world_rock_hard) u19_8 u19_9 (u19_10) (u19_11) (u19_12) (u19_13) (u19_14) ⟨by omega, by omega⟩ ⟨by omega, by omega⟩ ⟨by omega, by omega⟩ h_x_22_2 h_f_h0_world_rock_kind ⟨by omega, by omega⟩ j22 h_f_h0_world_rock_hard ⟨by omega, by omega⟩ ⟨by omega, by omega⟩ hw38 hu39 j31 (fun r40 u41_0 u41_1 u41_2 u41_3 u41_4 u41_5 u41_6 u41_7 u41_8 u41_9 u41_10 u41_11 u41_12 u41_13 u41_14 H42 => ?_)
        have j43 := H42.1
        have j44 := H42.2.1
        have j45 := H42.2.2.1
        have j46 := H42.2.2.2.1
        have j47 := H42.2.2.2.2.1
        have j48 := H42.2.2.2.2.2.1
        have j49 := H42.2.2.2.2.2.2.1
        have j50 := H42.2.2.2.2.2.2.2.1
        have j51 := H42.2.2.2.2.2.2.2.2.1
        have j52 := H42.2.2.2.2.2.2.2.2.2
        refine un15_i ?_
        by_cases c53 : r40 < 0
        · refine br1 c53 ?_
          have d54 := lt_z (x := (Int32.toInt r40)) (y := 0) rfl rfl c53
          have hd55 : digR (lawW w1 ls) w1 zb7.toInt zb14.toInt < 0 := by rw [← j49]; omega
          have hw56 := j50
          rw [digW_n hd55] at hw56
          have hu57 := j51
          rw [digW_n hd55, rmU_n hd55] at hu57
          have l58 := RXw.te hw56 0 (by decide)
          by_cases c59 : 9999 ≤ (u41_7 (0 : Int32).toNatClampNeg)
          · refine br1 c59 ?_
            have g60 : 0 ≤ (Int32.toInt (u41_7 (0 : Int32).toNatClampNeg)) ∧ (Int32.toInt (u41_7 (0 : Int32).toNatClampNeg)) ≤ 9999 := TE.at_0 j46 (rfl : ((0 : Nat) : Int) = 0) (by omega) (by omega)
            have d61 := le_z (x := 9999) (y := (Int32.toInt (u41_7 (0 : Int32).toNatClampNeg))) rfl rfl c59
            have h962 : ¬ w1 7 < 9999 := by have q := l58; have q : (Int32.toInt (u41_7 (0 : Int32).toNatClampNeg)) = w1 7 := q; omega
            have t63 : (Int32.toInt (x_22_0 + 1)) = (Int32.toInt x_22_0) + 1 := add_z rfl rfl (by omega) (by omega)
            exact ih _ _ _ _ _ _ _ _ _ _ _ _ _ _ _ _ _ _ _ ⟨⟨by omega, by omega⟩, ⟨by omega, by omega⟩, j44, j46, ⟨by omega, by omega⟩, j24, j25, ⟨by omega, by omega⟩, ⟨by omega, by omega⟩, j52, ⟨(w1, U1), hI.trans (seF_n (show b.toInt.toNat - x_22_0.toInt.toNat = (b.toInt.toNat - (x_22_0 + 1).toInt.toNat) + 1 by omega) hz6 hz9 hz13 hz16 hn37 hd55 h962 l_cc), hmo, hw56, hu57⟩⟩ (by omega)
          · refine br0 c59 ?_
            have g64 : 0 ≤ (Int32.toInt (u41_7 (0 : Int32).toNatClampNeg)) ∧ (Int32.toInt (u41_7 (0 : Int32).toNatClampNeg)) ≤ 9999 := TE.at_0 j46 (rfl : ((0 : Nat) : Int) = 0) (by omega) (by omega)
            have d65 := nle_z (x := 9999) (y := (Int32.toInt (u41_7 (0 : Int32).toNatClampNeg))) rfl rfl c59
            have h966 : w1 7 < 9999 := by have q := l58; have q : (Int32.toInt (u41_7 (0 : Int32).toNatClampNeg)) = w1 7 := q; omega
            obtain ⟨U9, hU9⟩ := RXu.re hu57 (uI w1 7 (w1 7 + 1))
            have t67 : (Int32.toInt (x_22_0 + 1)) = (Int32.toInt x_22_0) + 1 := add_z rfl rfl (by omega) (by omega)
            have t68 : (Int32.toInt ((u41_7 (0 : Int32).toNatClampNeg) + 1)) = (Int32.toInt (u41_7 (0 : Int32).toNatClampNeg)) + 1 := add_z rfl rfl (by omega) (by omega)
            have R69 : TE (upd u41_7 0 ((u41_7 (0 : Int32).toNatClampNeg) + 1)) := TE.up_0 j46 (rfl : ((0 : Nat) : Int) = 0) (by omega) (by omega) (w := (Int32.toInt ((u41_7 (0 : Int32).toNatClampNeg) + 1))) rfl (by omega) (by omega)
            exact ih _ _ _ _ _ _ _ _ _ _ _ _ _ _ _ _ _ _ _ ⟨⟨by omega, by omega⟩, ⟨by omega, by omega⟩, j44, R69, ⟨by omega, by omega⟩, j24, j25, ⟨by omega, by omega⟩, ⟨by omega, by omega⟩, j52, ⟨(uI w1 7 (w1 7 + 1), U9), hI.trans (seF_y (show b.toInt.toNat - x_22_0.toInt.toNat = (b.toInt.toNat - (x_22_0 + 1).toInt.toNat) + 1 by omega) hz6 hz9 hz13 hz16 hn37 hd55 h966 l_cc), fun i hi => by show _ ≤ uI w1 7 (w1 7 + 1) (16 + i); rw [uI_n (by omega)]; exact hmo i hi, (RXw.u_te hw56 (k := 0) (i := 0) rfl (by decide) (by have q := l58; have q : (Int32.toInt (u41_7 (0 : Int32).toNatClampNeg)) = w1 7 := q; omega)), hU9⟩⟩ (by omega)
        · refine br0 c53 ?_
          have d70 := nlt_z (x := (Int32.toInt r40)) (y := 0) rfl rfl c53
          have hd71 : 0 ≤ digR (lawW w1 ls) w1 zb7.toInt zb14.toInt := by rw [← j49]; omega
          have t72 : (Int32.toInt (x_22_0 + 1)) = (Int32.toInt x_22_0) + 1 := add_z rfl rfl (by omega) (by omega)
          exact ih _ _ _ _ _ _ _ _ _ _ _ _ _ _ _ _ _ _ _ ⟨⟨by omega, by omega⟩, ⟨by omega, by omega⟩, j44, j46, ⟨by omega, by omega⟩, j24, j25, ⟨by omega, by omega⟩, ⟨by omega, by omega⟩, j52, ⟨(digW (lawW w1 ls) w1 zb7.toInt zb14.toInt, _), hI.trans (seF_d (show b.toInt.toNat - x_22_0.toInt.toNat = (b.toInt.toNat - (x_22_0 + 1).toInt.toNat) + 1 by omega) hz6 hz9 hz13 hz16 hn37 hd71 l_cc), fun i hi => Int.le_trans (hmo i hi) (digW_mo (by omega) i hi), j50, j51⟩⟩ (by omega)
set_option maxRecDepth 100000 in
theorem s_X7_runSeasons_Nz (a : Int32) (b : Int32) (h0_world : Nat) (h0_world_lawCount : Int32) (h0_world_force : Int32) (h0_world_crew_count : Int32) (f_h0_world_crew_cell : Nat → Int32) (f_h0_world_term : Nat → Int32) (h0_world_rock_dug : Int64) (f_h0_world_rock_kind : Nat → Int32) (f_h0_world_laws : Nat → Option Nat) (h0_asker_world : Value) (h0_asker_law : Value) (h0_asker_cell : Int32) (h0_asker_shaft : Int32) (h0_asker_kind : Int32) (f_h0_world_rock_water : Nat → Int32) (f_h0_world_crew_buckets : Nat → Int32) (h0_diary_kept : Int32) (h0_diary_latest : Int32) (f_h0_diary_deed : Nat → Int32) (f_h0_diary_whose : Nat → Int32) (f_h0_diary_before : Nat → Int32) (f_h0_diary_bucketsBefore : Nat → Int32) (f_h0_diary_dayBefore : Nat → Int32) (f_h0_world_rock_hard : Nat → Int32) {w : Nat → Int} {U : UL} {ls : Nat → List Cls} {g_co : Nat → Int32} {g_ea : Nat → Int32} {g_ls : Int32} {g_nc : Nat → Int32} {g_nl : Nat → Int32} {g_ns : Int32} {g_hu : Int32} {g_hc : Nat → Int32} {g_hl : Nat → Int32} {g_hs : Int32} {g_so : Nat → Int32} {g_we : Nat → Int32} {g_wl : Int32} (h_a : 0 ≤ a.toInt ∧ a.toInt ≤ 1000000) (h_b : 1 ≤ b.toInt ∧ b.toInt ≤ 60) (h_h0_world_lawCount : 0 ≤ h0_world_lawCount.toInt ∧ h0_world_lawCount.toInt ≤ 6) (h_h0_world_force : (-1) ≤ h0_world_force.toInt ∧ h0_world_force.toInt ≤ (-1)) (h_h0_world_crew_count : 1 ≤ h0_world_crew_count.toInt ∧ h0_world_crew_count.toInt ≤ 6) (h_f_h0_world_crew_cell : CE f_h0_world_crew_cell) (h_f_h0_world_term : TE f_h0_world_term) (h_f_h0_world_rock_kind : KI f_h0_world_rock_kind) (h_h0_asker_cell : 0 ≤ h0_asker_cell.toInt ∧ h0_asker_cell.toInt ≤ 39) (h_f_h0_world_rock_water : WA f_h0_world_rock_water) (h_f_h0_world_crew_buckets : BU f_h0_world_crew_buckets) (h_h0_diary_kept : 0 ≤ h0_diary_kept.toInt ∧ h0_diary_kept.toInt ≤ 16) (h_h0_diary_latest : 0 ≤ h0_diary_latest.toInt ∧ h0_diary_latest.toInt ≤ 15) (h_f_h0_world_rock_hard : HA f_h0_world_rock_hard) (e_0 : RXw f_h0_world_rock_kind f_h0_world_rock_hard f_h0_world_rock_water h0_world_rock_dug f_h0_world_crew_cell f_h0_world_crew_buckets h0_world_crew_count g_co g_ea g_ls g_nc g_nl g_ns g_hu g_hc g_hl g_hs g_so g_we g_wl f_h0_world_term h0_world_lawCount h0_world_force w) (e_1 : RXu f_h0_diary_deed f_h0_diary_whose f_h0_diary_before f_h0_diary_bucketsBefore f_h0_diary_dayBefore h0_diary_kept h0_diary_latest w U) (e_2 : DI f_h0_diary_deed f_h0_diary_whose f_h0_diary_before f_h0_diary_bucketsBefore f_h0_diary_dayBefore) {Q : ((Nat → Int32) × (Nat → Int32) × Int64 × Value × Value × Int32 × Int32 × Int32 × (Nat → Int32) × (Nat → Int32) × Int32 × Int32 × (Nat → Int32) × (Nat → Int32) × (Nat → Int32) × (Nat → Int32) × (Nat → Int32)) → Prop} (hq : ∀ (u_0 : Nat → Int32) (u_1 : Nat → Int32) (u_2 : Int64) (u_3 : Value) (u_4 : Value) (u_5 : Int32) (u_6 : Int32) (u_7 : Int32) (u_8 : Nat → Int32) (u_9 : Nat → Int32) (u_10 : Int32) (u_11 : Int32) (u_12 : Nat → Int32) (u_13 : Nat → Int32) (u_14 : Nat → Int32) (u_15 : Nat → Int32) (u_16 : Nat → Int32), (CE u_0) ∧ (TE u_1) ∧ (0 ≤ u_5.toInt ∧ u_5.toInt ≤ 39) ∧ (WA u_8) ∧ (BU u_9) ∧ (0 ≤ u_10.toInt ∧ u_10.toInt ≤ 16) ∧ (0 ≤ u_11.toInt ∧ u_11.toInt ≤ 15) ∧ (∃ U1, RXw f_h0_world_rock_kind f_h0_world_rock_hard u_8 u_2 u_0 u_9 h0_world_crew_count g_co g_ea g_ls g_nc g_nl g_ns g_hu g_hc g_hl g_hs g_so g_we g_wl u_1 h0_world_lawCount h0_world_force (seF ls b.toInt.toNat a.toInt w) ∧ RXu u_12 u_13 u_14 u_15 u_16 u_10 u_11 (seF ls b.toInt.toNat a.toInt w) U1 ∧ ∀ i, i < 6 → w (16 + i) ≤ seF ls b.toInt.toNat a.toInt w (16 + i)) ∧ (DI u_12 u_13 u_14 u_15 u_16) → Q (u_0, u_1, u_2, u_3, u_4, u_5, u_6, u_7, u_8, u_9, u_10, u_11, u_12, u_13, u_14, u_15, u_16)) : wp_X7_runSeasons_N a b h0_world h0_world_lawCount h0_world_force h0_world_crew_count f_h0_world_crew_cell f_h0_world_term h0_world_rock_dug f_h0_world_rock_kind f_h0_world_laws h0_asker_world h0_asker_law h0_asker_cell h0_asker_shaft h0_asker_kind f_h0_world_rock_water f_h0_world_crew_buckets h0_diary_kept h0_diary_latest f_h0_diary_deed f_h0_diary_whose f_h0_diary_before f_h0_diary_bucketsBefore f_h0_diary_dayBefore f_h0_world_rock_hard Q := by
  unfold wp_X7_runSeasons_N
  refine br0 (z_ne (x := (Int32.toInt h0_world_crew_count)) (y := 0) rfl rfl (by omega)) ?_
  have k3 : Int32.toInt 0 = 0 := rfl
  refine sl_X7_runSeasons_N_22z b h0_world h0_world_lawCount h0_world_force h0_world_crew_count (f_h0_world_rock_kind) f_h0_world_laws (f_h0_world_rock_hard) w U ls a.toInt g_co g_ea g_ls g_nc g_nl g_ns g_hu g_hc g_hl g_hs g_so g_we g_wl ⟨by omega, by omega⟩ ⟨by omega, by omega⟩ ⟨by omega, by omega⟩ ⟨by omega, by omega⟩ h_f_h0_world_rock_kind h_f_h0_world_rock_hard _ (fun x1_0 x1_1 x1_2 x1_3 x1_4 x1_5 x1_6 x1_7 x1_8 x1_9 x1_10 x1_11 x1_12 x1_13 x1_14 x1_15 x1_16 x1_17 x1_18 X2 => ?_) 1000000000000 0 a (f_h0_world_crew_cell) (f_h0_world_term) h0_world_rock_dug h0_asker_world h0_asker_law h0_asker_cell h0_asker_shaft h0_asker_kind (f_h0_world_rock_water) (f_h0_world_crew_buckets) h0_diary_kept h0_diary_latest (f_h0_diary_deed) (f_h0_diary_whose) (f_h0_diary_before) (f_h0_diary_bucketsBefore) (f_h0_diary_dayBefore) ⟨(by decide), ⟨by omega, by omega⟩, h_f_h0_world_crew_cell, h_f_h0_world_term, ⟨by omega, by omega⟩, h_f_h0_world_rock_water, h_f_h0_world_crew_buckets, ⟨by omega, by omega⟩, ⟨by omega, by omega⟩, e_2, ⟨(w, U), rfl, fun i _ => Int.le_refl _, e_0, e_1⟩⟩ (by omega)
  have j4 := X2.1
  have j5 := X2.2.1
  have j6 := X2.2.2.1
  have j7 := X2.2.2.2.1
  have j8 := X2.2.2.2.2.1
  have j9 := X2.2.2.2.2.2.1
  have j10 := X2.2.2.2.2.2.2.1
  have j11 := X2.2.2.2.2.2.2.2.1
  have j12 := X2.2.2.2.2.2.2.2.2.1
  have j13 := X2.2.2.2.2.2.2.2.2.2.1
  have j14 := X2.2.2.2.2.2.2.2.2.2.2.1
  have j15 := X2.2.2.2.2.2.2.2.2.2.2.2
  obtain ⟨⟨w8, U8⟩, k8, hm8, hX8, hU8⟩ := j15
  have k8 : seF ls b.toInt.toNat a.toInt w = w8 := k8
  exact hq _ _ _ _ _ _ _ _ _ _ _ _ _ _ _ _ _ ⟨j6, j7, ⟨by omega, by omega⟩, j9, j10, ⟨by omega, by omega⟩, ⟨by omega, by omega⟩, ⟨_, by rw [k8]; exact hX8, by rw [k8]; exact hU8, fun i hi => by rw [k8]; exact hm8 i hi⟩, j13⟩


set_option maxRecDepth 100000 in
theorem sl_X7_runSeasons_T_22z (b : Int32) (h0_world : Nat) (h0_world_lawCount : Int32) (h0_world_force : Int32) (h0_world_crew_count : Int32) (f_h0_world_rock_kind : Nat → Int32) (f_h0_world_laws : Nat → Option Nat) (h0_asker_done : Int32) (h0_asker_latest : Int32) (t : Nat) (t_clauses : Int32) (t_length : Int32) (n_t_heads : Nat) (f_t_heads : Nat → Int32) (n_t_code : Nat) (f_t_code : Nat → Int32) (h0_world_folk_listeners : Int32) (f_h0_world_folk_column : Nat → Int32) (f_h0_world_rock_hard : Nat → Int32) (w : Nat → Int) (U : UL) (ls : Nat → List Cls) (a0 : Int) (g_ea : Nat → Int32) (g_nc : Nat → Int32) (g_nl : Nat → Int32) (g_ns : Int32) (g_hu : Int32) (g_hc : Nat → Int32) (g_hl : Nat → Int32) (g_hs : Int32) (g_so : Nat → Int32) (g_we : Nat → Int32) (g_wl : Int32) (h_b : 1 ≤ b.toInt ∧ b.toInt ≤ 60) (h_h0_world_lawCount : 0 ≤ h0_world_lawCount.toInt ∧ h0_world_lawCount.toInt ≤ 6) (h_h0_world_force : 0 ≤ h0_world_force.toInt ∧ h0_world_force.toInt ≤ 5) (h_h0_world_crew_count : 1 ≤ h0_world_crew_count.toInt ∧ h0_world_crew_count.toInt ≤ 6) (h_f_h0_world_rock_kind : KI f_h0_world_rock_kind) (h_t_clauses : 0 ≤ t_clauses.toInt ∧ t_clauses.toInt ≤ 12) (h_t_length : 0 ≤ t_length.toInt ∧ t_length.toInt ≤ 400) (h_f_t_code : CD f_t_code) (h_h0_world_folk_listeners : 0 ≤ h0_world_folk_listeners.toInt ∧ h0_world_folk_listeners.toInt ≤ 5) (h_f_h0_world_folk_column : CO f_h0_world_folk_column) (h_f_h0_world_rock_hard : HA f_h0_world_rock_hard) (zlaw : f_h0_world_laws (Int32.toNatClampNeg h0_world_force) = some t) (zfo : h0_world_force.toInt < h0_world_lawCount.toInt) (htx : XTx t_clauses t_length n_t_heads f_t_heads n_t_code f_t_code (ls h0_world_force.toInt.toNat)) (hok : ∀ q ∈ ls h0_world_force.toInt.toNat, okC q) (z_n_t_heads : n_t_heads < 100000) (z_n_t_code : t_length.toInt ≤ (n_t_code : Int)) (Qb : Int32 → Int32 → (Nat → Int32) → (Nat → Int32) → Int64 → Value → Value → Int32 → Int32 → Int32 → Int32 → (Nat → Int64) → (Nat → Int32) → (Nat → Int32) → Int32 → Int32 → (Nat → Int32) → (Nat → Int32) → (Nat → Int32) → (Nat → Int32) → (Nat → Int32) → Prop) (KX : ∀ (x_22_0 : Int32) (x_22_1 : Int32) (x_22_2 : Nat → Int32) (x_22_3 : Nat → Int32) (x_22_4 : Int64) (x_22_5 : Value) (x_22_6 : Value) (x_22_7 : Int32) (x_22_8 : Int32) (x_22_9 : Int32) (x_22_10 : Int32) (x_22_11 : Nat → Int64) (x_22_12 : Nat → Int32) (x_22_13 : Nat → Int32) (x_22_14 : Int32) (x_22_15 : Int32) (x_22_16 : Nat → Int32) (x_22_17 : Nat → Int32) (x_22_18 : Nat → Int32) (x_22_19 : Nat → Int32) (x_22_20 : Nat → Int32), (1 ≤ x_22_0.toInt ∧ x_22_0.toInt ≤ 60) ∧ (0 ≤ x_22_1.toInt ∧ x_22_1.toInt ≤ 1000002) ∧ (CE x_22_2) ∧ (TE x_22_3) ∧ (0 ≤ x_22_7.toInt ∧ x_22_7.toInt ≤ 39) ∧ (WA x_22_12) ∧ (BU x_22_13) ∧ (0 ≤ x_22_14.toInt ∧ x_22_14.toInt ≤ 16) ∧ (0 ≤ x_22_15.toInt ∧ x_22_15.toInt ≤ 15) ∧ (DI x_22_16 x_22_17 x_22_18 x_22_19 x_22_20) ∧ (∃ s : (Nat → Int) × UL, seF ls b.toInt.toNat a0 w = seF ls (b.toInt.toNat - (x_22_0.toInt).toNat) x_22_1.toInt s.1 ∧ (∀ i, i < 6 → w (16 + i) ≤ s.1 (16 + i)) ∧ RXw f_h0_world_rock_kind f_h0_world_rock_hard x_22_12 x_22_4 x_22_2 x_22_13 h0_world_crew_count f_h0_world_folk_column g_ea h0_world_folk_listeners g_nc g_nl g_ns g_hu g_hc g_hl g_hs g_so g_we g_wl x_22_3 h0_world_lawCount h0_world_force s.1 ∧ RXu x_22_16 x_22_17 x_22_18 x_22_19 x_22_20 x_22_14 x_22_15 s.1 s.2) ∧ (∃ s : (Nat → Int) × UL, seF ls b.toInt.toNat a0 w = s.1 ∧ (∀ i, i < 6 → w (16 + i) ≤ s.1 (16 + i)) ∧ RXw f_h0_world_rock_kind f_h0_world_rock_hard x_22_12 x_22_4 x_22_2 x_22_13 h0_world_crew_count f_h0_world_folk_column g_ea h0_world_folk_listeners g_nc g_nl g_ns g_hu g_hc g_hl g_hs g_so g_we g_wl x_22_3 h0_world_lawCount h0_world_force s.1 ∧ RXu x_22_16 x_22_17 x_22_18 x_22_19 x_22_20 x_22_14 x_22_15 s.1 s.2) → Qb x_22_0 x_22_1 x_22_2 x_22_3 x_22_4 x_22_5 x_22_6 x_22_7 x_22_8 x_22_9 x_22_10 x_22_11 x_22_12 x_22_13 x_22_14 x_22_15 x_22_16 x_22_17 x_22_18 x_22_19 x_22_20) : ∀ (n : Nat) (x_22_0 : Int32) (x_22_1 : Int32) (x_22_2 : Nat → Int32) (x_22_3 : Nat → Int32) (x_22_4 : Int64) (x_22_5 : Value) (x_22_6 : Value) (x_22_7 : Int32) (x_22_8 : Int32) (x_22_9 : Int32) (x_22_10 : Int32) (x_22_11 : Nat → Int64) (x_22_12 : Nat → Int32) (x_22_13 : Nat → Int32) (x_22_14 : Int32) (x_22_15 : Int32) (x_22_16 : Nat → Int32) (x_22_17 : Nat → Int32) (x_22_18 : Nat → Int32) (x_22_19 : Nat → Int32) (x_22_20 : Nat → Int32), (0 ≤ x_22_0.toInt ∧ x_22_0.toInt ≤ 60) ∧ (0 ≤ x_22_1.toInt ∧ x_22_1.toInt ≤ 1000002) ∧ (CE x_22_2) ∧ (TE x_22_3) ∧ (0 ≤ x_22_7.toInt ∧ x_22_7.toInt ≤ 39) ∧ (WA x_22_12) ∧ (BU x_22_13) ∧ (0 ≤ x_22_14.toInt ∧ x_22_14.toInt ≤ 16) ∧ (0 ≤ x_22_15.toInt ∧ x_22_15.toInt ≤ 15) ∧ (DI x_22_16 x_22_17 x_22_18 x_22_19 x_22_20) ∧ (∃ s : (Nat → Int) × UL, seF ls b.toInt.toNat a0 w = seF ls (b.toInt.toNat - (x_22_0.toInt).toNat) x_22_1.toInt s.1 ∧ (∀ i, i < 6 → w (16 + i) ≤ s.1 (16 + i)) ∧ RXw f_h0_world_rock_kind f_h0_world_rock_hard x_22_12 x_22_4 x_22_2 x_22_13 h0_world_crew_count f_h0_world_folk_column g_ea h0_world_folk_listeners g_nc g_nl g_ns g_hu g_hc g_hl g_hs g_so g_we g_wl x_22_3 h0_world_lawCount h0_world_force s.1 ∧ RXu x_22_16 x_22_17 x_22_18 x_22_19 x_22_20 x_22_14 x_22_15 s.1 s.2) → 61 - x_22_0.toInt < (n : Int) → wl_X7_runSeasons_T_22 b h0_world h0_world_lawCount h0_world_force h0_world_crew_count f_h0_world_rock_kind f_h0_world_laws h0_asker_done h0_asker_latest t t_clauses t_length n_t_heads f_t_heads n_t_code f_t_code h0_world_folk_listeners f_h0_world_folk_column f_h0_world_rock_hard Qb n x_22_0 x_22_1 x_22_2 x_22_3 x_22_4 x_22_5 x_22_6 x_22_7 x_22_8 x_22_9 x_22_10 x_22_11 x_22_12 x_22_13 x_22_14 x_22_15 x_22_16 x_22_17 x_22_18 x_22_19 x_22_20 := by
  intro n
  induction n with
  | zero =>
    intro x_22_0 x_22_1 x_22_2 x_22_3 x_22_4 x_22_5 x_22_6 x_22_7 x_22_8 x_22_9 x_22_10 x_22_11 x_22_12 x_22_13 x_22_14 x_22_15 x_22_16 x_22_17 x_22_18 x_22_19 x_22_20 hI hm
    exfalso; have hm : 61 - x_22_0.toInt < 0 := hm; omega
  | succ n ih =>
    intro x_22_0 x_22_1 x_22_2 x_22_3 x_22_4 x_22_5 x_22_6 x_22_7 x_22_8 x_22_9 x_22_10 x_22_11 x_22_12 x_22_13 x_22_14 x_22_15 x_22_16 x_22_17 x_22_18 x_22_19 x_22_20 hI hm
    have hm : 61 - x_22_0.toInt < (n : Int) + 1 := by simpa using hm
    have h_x_22_0 := hI.1
    have h_x_22_1 := hI.2.1
    have h_x_22_2 := hI.2.2.1
    have h_x_22_3 := hI.2.2.2.1
    have h_x_22_7 := hI.2.2.2.2.1
    have h_x_22_12 := hI.2.2.2.2.2.1
    have h_x_22_13 := hI.2.2.2.2.2.2.1
    have h_x_22_14 := hI.2.2.2.2.2.2.2.1
    have h_x_22_15 := hI.2.2.2.2.2.2.2.2.1
    have h_rel0 := hI.2.2.2.2.2.2.2.2.2.1
    have h_rel1 := hI.2.2.2.2.2.2.2.2.2.2
    unfold wl_X7_runSeasons_T_22
    obtain ⟨⟨w1, U1⟩, hI, hmo, hX, hU⟩ := h_rel1
    have hI : seF ls b.toInt.toNat a0 w = seF ls (b.toInt.toNat - x_22_0.toInt.toNat) x_22_1.toInt w1 := hI
    have hmo : ∀ i, i < 6 → w (16 + i) ≤ w1 (16 + i) := hmo
    have l_kd := RXw.kd hX
    have l_hd := RXw.hd hX
    have l_wt := RXw.wt hX
    have l_ce := RXw.ce hX
    have l_bu := RXw.bu hX
    have l_cc : h0_world_crew_count.toInt = w1 0 := RXw.cc hX
    have l_co := RXw.co hX
    have l_ls : h0_world_folk_listeners.toInt = w1 1 := RXw.ls hX
    have l_te := RXw.te hX
    have l_lc : h0_world_lawCount.toInt = w1 5 := RXw.lc hX
    have l_fo : h0_world_force.toInt = w1 6 := RXw.fo hX
    have hbu : ∀ i, i < 6 → w1 (16 + i) ≤ 9999 := fun i hi => by have q : (Int32.toInt (x_22_13 i)) = w1 (16 + i) := RXw.bu hX i hi; rw [← q]; exact (BU.at_0 h_x_22_13 (n := i) rfl (by omega) (by omega)).2
    have htx1 : XTx t_clauses t_length n_t_heads f_t_heads n_t_code f_t_code (ls (w1 6).toNat) := by rw [show w1 6 = h0_world_force.toInt from (RXw.fo hX).symm]; exact htx
    have hok1 : ∀ q ∈ ls (w1 6).toNat, okC q := by rw [show w1 6 = h0_world_force.toInt from (RXw.fo hX).symm]; exact hok
    by_cases c1 : b ≤ x_22_0
    · refine br1 c1 ?_
      have d2 := le_z (x := (Int32.toInt b)) (y := (Int32.toInt x_22_0)) rfl rfl c1
      exact KX _ _ _ _ _ _ _ _ _ _ _ _ _ _ _ _ _ _ _ _ _ ⟨⟨by omega, by omega⟩, ⟨by omega, by omega⟩, h_x_22_2, h_x_22_3, ⟨by omega, by omega⟩, h_x_22_12, h_x_22_13, ⟨by omega, by omega⟩, ⟨by omega, by omega⟩, h_rel0, ⟨(w1, U1), hI, hmo, hX, hU⟩, ⟨(w1, U1), by rw [hI, show b.toInt.toNat - x_22_0.toInt.toNat = 0 by omega]; rfl, hmo, hX, hU⟩⟩
    · refine br0 c1 ?_
      have d3 := nle_z (x := (Int32.toInt b)) (y := (Int32.toInt x_22_0)) rfl rfl c1
      refine bnd_dw (x := x_22_1) (by omega) (by omega) (fun zb4 hz5 hz6 => ?_)
      refine ⟨z_ne (x := (Int32.toInt h0_world_crew_count)) (y := 0) rfl rfl (by omega), ?_⟩
      refine bnd_md (a := zb4) (b := h0_world_crew_count) (by omega) (by omega) (fun zb7 hz8 hz9 => ?_)
      have t10 : zb7.toInt ≤ 5 := by omega
      refine bnd_dw (x := zb4) (by omega) (by omega) (fun zb11 hz12 hz13 => ?_)
      have k17 : Int32.toInt 3 = 3 := rfl
      refine bnd_md (a := zb11) (b := 3) (by omega) (by omega) (fun zb14 hz15 hz16 => ?_)
      refine s_X7_tryHaul_Tz (ls := ls) zb7 h0_world h0_world_lawCount h0_world_force h0_world_crew_count (x_22_2) (x_22_3) (f_h0_world_rock_kind) (f_h0_world_laws) x_22_5 x_22_6 x_22_7 x_22_8 x_22_9 h0_asker_done h0_asker_latest x_22_10 t t_clauses t_length n_t_heads (f_t_heads) n_t_code (f_t_code) (x_22_11) h0_world_folk_listeners (f_h0_world_folk_column) (f_h0_world_rock_hard) (x_22_12) (x_22_13) x_22_14 x_22_15 (x_22_16) (x_22_17) (x_22_18) (x_22_19) (x_22_20) ⟨by omega, by omega⟩ ⟨by omega, by omega⟩ ⟨by omega, by omega⟩ h_x_22_2 h_x_22_3 h_f_h0_world_rock_kind ⟨by omega, by omega⟩ ⟨by omega, by omega⟩ ⟨by omega, by omega⟩ h_f_t_code ⟨by omega, by omega⟩ h_f_h0_world_folk_column h_f_h0_world_rock_hard h_x_22_12 h_x_22_13 ⟨by omega, by omega⟩ ⟨by omega, by omega⟩ hX hU h_rel0 htx1 hok1 (by omega) (by omega) (by omega) (by assumption) (fun r18 u19_0 u19_1 u19_2 u19_3 u19_4 u19_5 u19_6 u19_7 u19_8 u19_9 u19_10 u19_11 u19_12 u19_13 u19_14 u19_15 u19_16 H20 => ?_)
      have j21 := H20.1
      have j22 := H20.2.1
      have j23 := H20.2.2.1
      have j24 := H20.2.2.2.1
      have j25 := H20.2.2.2.2.1
      have j26 := H20.2.2.2.2.2.1
      have j27 := H20.2.2.2.2.2.2.1
      have j28 := H20.2.2.2.2.2.2.2.1
      have j29 := H20.2.2.2.2.2.2.2.2.1
      have j30 := H20.2.2.2.2.2.2.2.2.2.1
      have j31 := H20.2.2.2.2.2.2.2.2.2.2
      refine un17_i ?_
      by_cases c32 : 0 ≤ r18
      · refine br1 c32 ?_
        have d33 := le_z (x := 0) (y := (Int32.toInt r18)) rfl rfl c32
        have hp34 : 0 ≤ haulR (lawW w1 ls) w1 zb7.toInt := by rw [← j28]; omega
        have t35 : (Int32.toInt (x_22_0 + 1)) = (Int32.toInt x_22_0) + 1 := add_z rfl rfl (by omega) (by omega)
        exact ih _ _ _ _ _ _ _ _ _ _ _ _ _ _ _ _ _ _ _ _ _ ⟨⟨by omega, by omega⟩, ⟨by omega, by omega⟩, h_x_22_2, j22, ⟨by omega, by omega⟩, j24, j25, ⟨by omega, by omega⟩, ⟨by omega, by omega⟩, j31, ⟨(haulW (lawW w1 ls) w1 zb7.toInt, _), hI.trans (seF_h (show b.toInt.toNat - x_22_0.toInt.toNat = (b.toInt.toNat - (x_22_0 + 1).toInt.toNat) + 1 by omega) hz6 hz9 hz13 hz16 hp34 l_cc), fun i hi => Int.le_trans (hmo i hi) (haulW_mo hbu i hi), j29, (by have q := j30; exact q)⟩⟩ (by omega)
      · refine br0 c32 ?_
        have d36 := nle_z (x := 0) (y := (Int32.toInt r18)) rfl rfl c32
        have hn37 : haulR (lawW w1 ls) w1 zb7.toInt < 0 := by rw [← j28]; omega
        have hw38 := j29
        rw [haulW_n hn37] at hw38
        have hu39 := j30
        rw [haulW_n hn37, rmU_n hn37] at hu39
        refine s_X7_tryDig_Tz (ls := ls) zb7 zb14 h0_world h0_world_lawCount h0_world_force h0_world_crew_count (x_22_2) x_22_4 (f_h0_world_rock_kind) (f_h0_world_laws) u19_1 u19_2 u19_3 u19_4 u19_5 h0_asker_done h0_asker_latest u19_6 (u19_0) (f_h0_world_rock_hard) t t_clauses t_length n_t_heads (f_t_heads) n_t_code (f_t_code) (u19_7) h0_world_folk_listeners (f_h0_world_folk_column) (u19_8) (u19_9) u19_10 u19_11 (u19_12) (u19_13) (u19_14) (u19_15) (u19_16) ⟨by omega, by omega⟩ ⟨by omega, by omega⟩ ⟨by omega, by omega⟩ h_x_22_2 h_f_h0_world_rock_kind ⟨by omega, by omega⟩ j22 h_f_h0_world_rock_hard ⟨by omega, by omega⟩ ⟨by omega, by omega⟩ h_f_t_code ⟨by omega, by omega⟩ h_f_h0_world_folk_column j24 j25 ⟨by omega, by omega⟩ ⟨by omega, by omega⟩ hw38 hu39 j31 htx1 hok1 (by omega) (by omega) (by omega) (by assumption) (fun r40 u41_0 u41_1 u41_2 u41_3 u41_4 u41_5 u41_6 u41_7 u41_8 u41_9 u41_10 u41_11 u41_12 u41_13 u41_14 u41_15 u41_16 H42 => ?_)
        have j43 := H42.1
        have j44 := H42.2.1
        have j45 := H42.2.2.1
        have j46 := H42.2.2.2.1
        have j47 := H42.2.2.2.2.1
        have j48 := H42.2.2.2.2.2.1
        have j49 := H42.2.2.2.2.2.2.1
        have j50 := H42.2.2.2.2.2.2.2.1
        have j51 := H42.2.2.2.2.2.2.2.2.1
        have j52 := H42.2.2.2.2.2.2.2.2.2
        refine un17_i ?_
        by_cases c53 : r40 < 0
        · refine br1 c53 ?_
          have d54 := lt_z (x := (Int32.toInt r40)) (y := 0) rfl rfl c53
          have hd55 : digR (lawW w1 ls) w1 zb7.toInt zb14.toInt < 0 := by rw [← j49]; omega
          have hw56 := j50
          rw [digW_n hd55] at hw56
          have hu57 := j51
          rw [digW_n hd55, rmU_n hd55] at hu57
          have l58 := RXw.te hw56 0 (by decide)
          by_cases c59 : 9999 ≤ (u41_8 (0 : Int32).toNatClampNeg)
          · refine br1 c59 ?_
            have g60 : 0 ≤ (Int32.toInt (u41_8 (0 : Int32).toNatClampNeg)) ∧ (Int32.toInt (u41_8 (0 : Int32).toNatClampNeg)) ≤ 9999 := TE.at_0 j46 (rfl : ((0 : Nat) : Int) = 0) (by omega) (by omega)
            have d61 := le_z (x := 9999) (y := (Int32.toInt (u41_8 (0 : Int32).toNatClampNeg))) rfl rfl c59
            have h962 : ¬ w1 7 < 9999 := by have q := l58; have q : (Int32.toInt (u41_8 (0 : Int32).toNatClampNeg)) = w1 7 := q; omega
            have t63 : (Int32.toInt (x_22_0 + 1)) = (Int32.toInt x_22_0) + 1 := add_z rfl rfl (by omega) (by omega)
            exact ih _ _ _ _ _ _ _ _ _ _ _ _ _ _ _ _ _ _ _ _ _ ⟨⟨by omega, by omega⟩, ⟨by omega, by omega⟩, j44, j46, ⟨by omega, by omega⟩, j24, j25, ⟨by omega, by omega⟩, ⟨by omega, by omega⟩, j52, ⟨(w1, U1), hI.trans (seF_n (show b.toInt.toNat - x_22_0.toInt.toNat = (b.toInt.toNat - (x_22_0 + 1).toInt.toNat) + 1 by omega) hz6 hz9 hz13 hz16 hn37 hd55 h962 l_cc), hmo, hw56, hu57⟩⟩ (by omega)
          · refine br0 c59 ?_
            have g64 : 0 ≤ (Int32.toInt (u41_8 (0 : Int32).toNatClampNeg)) ∧ (Int32.toInt (u41_8 (0 : Int32).toNatClampNeg)) ≤ 9999 := TE.at_0 j46 (rfl : ((0 : Nat) : Int) = 0) (by omega) (by omega)
            have d65 := nle_z (x := 9999) (y := (Int32.toInt (u41_8 (0 : Int32).toNatClampNeg))) rfl rfl c59
            have h966 : w1 7 < 9999 := by have q := l58; have q : (Int32.toInt (u41_8 (0 : Int32).toNatClampNeg)) = w1 7 := q; omega
            obtain ⟨U9, hU9⟩ := RXu.re hu57 (uI w1 7 (w1 7 + 1))
            have t67 : (Int32.toInt (x_22_0 + 1)) = (Int32.toInt x_22_0) + 1 := add_z rfl rfl (by omega) (by omega)
            have t68 : (Int32.toInt ((u41_8 (0 : Int32).toNatClampNeg) + 1)) = (Int32.toInt (u41_8 (0 : Int32).toNatClampNeg)) + 1 := add_z rfl rfl (by omega) (by omega)
            have R69 : TE (upd u41_8 0 ((u41_8 (0 : Int32).toNatClampNeg) + 1)) := TE.up_0 j46 (rfl : ((0 : Nat) : Int) = 0) (by omega) (by omega) (w := (Int32.toInt ((u41_8 (0 : Int32).toNatClampNeg) + 1))) rfl (by omega) (by omega)
            exact ih _ _ _ _ _ _ _ _ _ _ _ _ _ _ _ _ _ _ _ _ _ ⟨⟨by omega, by omega⟩, ⟨by omega, by omega⟩, j44, R69, ⟨by omega, by omega⟩, j24, j25, ⟨by omega, by omega⟩, ⟨by omega, by omega⟩, j52, ⟨(uI w1 7 (w1 7 + 1), U9), hI.trans (seF_y (show b.toInt.toNat - x_22_0.toInt.toNat = (b.toInt.toNat - (x_22_0 + 1).toInt.toNat) + 1 by omega) hz6 hz9 hz13 hz16 hn37 hd55 h966 l_cc), fun i hi => by show _ ≤ uI w1 7 (w1 7 + 1) (16 + i); rw [uI_n (by omega)]; exact hmo i hi, (RXw.u_te hw56 (k := 0) (i := 0) rfl (by decide) (by have q := l58; have q : (Int32.toInt (u41_8 (0 : Int32).toNatClampNeg)) = w1 7 := q; omega)), hU9⟩⟩ (by omega)
        · refine br0 c53 ?_
          have d70 := nlt_z (x := (Int32.toInt r40)) (y := 0) rfl rfl c53
          have hd71 : 0 ≤ digR (lawW w1 ls) w1 zb7.toInt zb14.toInt := by rw [← j49]; omega
          have t72 : (Int32.toInt (x_22_0 + 1)) = (Int32.toInt x_22_0) + 1 := add_z rfl rfl (by omega) (by omega)
          exact ih _ _ _ _ _ _ _ _ _ _ _ _ _ _ _ _ _ _ _ _ _ ⟨⟨by omega, by omega⟩, ⟨by omega, by omega⟩, j44, j46, ⟨by omega, by omega⟩, j24, j25, ⟨by omega, by omega⟩, ⟨by omega, by omega⟩, j52, ⟨(digW (lawW w1 ls) w1 zb7.toInt zb14.toInt, _), hI.trans (seF_d (show b.toInt.toNat - x_22_0.toInt.toNat = (b.toInt.toNat - (x_22_0 + 1).toInt.toNat) + 1 by omega) hz6 hz9 hz13 hz16 hn37 hd71 l_cc), fun i hi => Int.le_trans (hmo i hi) (digW_mo (by omega) i hi), j50, j51⟩⟩ (by omega)
set_option maxRecDepth 100000 in
theorem s_X7_runSeasons_Tz (a : Int32) (b : Int32) (h0_world : Nat) (h0_world_lawCount : Int32) (h0_world_force : Int32) (h0_world_crew_count : Int32) (f_h0_world_crew_cell : Nat → Int32) (f_h0_world_term : Nat → Int32) (h0_world_rock_dug : Int64) (f_h0_world_rock_kind : Nat → Int32) (f_h0_world_laws : Nat → Option Nat) (h0_asker_world : Value) (h0_asker_law : Value) (h0_asker_cell : Int32) (h0_asker_shaft : Int32) (h0_asker_kind : Int32) (h0_asker_done : Int32) (h0_asker_latest : Int32) (h0_asker_value : Int32) (t : Nat) (t_clauses : Int32) (t_length : Int32) (n_t_heads : Nat) (f_t_heads : Nat → Int32) (n_t_code : Nat) (f_t_code : Nat → Int32) (f_h0_asker_stack : Nat → Int64) (h0_world_folk_listeners : Int32) (f_h0_world_folk_column : Nat → Int32) (f_h0_world_rock_hard : Nat → Int32) (f_h0_world_rock_water : Nat → Int32) (f_h0_world_crew_buckets : Nat → Int32) (h0_diary_kept : Int32) (h0_diary_latest : Int32) (f_h0_diary_deed : Nat → Int32) (f_h0_diary_whose : Nat → Int32) (f_h0_diary_before : Nat → Int32) (f_h0_diary_bucketsBefore : Nat → Int32) (f_h0_diary_dayBefore : Nat → Int32) {w : Nat → Int} {U : UL} {ls : Nat → List Cls} {g_ea : Nat → Int32} {g_nc : Nat → Int32} {g_nl : Nat → Int32} {g_ns : Int32} {g_hu : Int32} {g_hc : Nat → Int32} {g_hl : Nat → Int32} {g_hs : Int32} {g_so : Nat → Int32} {g_we : Nat → Int32} {g_wl : Int32} (h_a : 0 ≤ a.toInt ∧ a.toInt ≤ 1000000) (h_b : 1 ≤ b.toInt ∧ b.toInt ≤ 60) (h_h0_world_lawCount : 0 ≤ h0_world_lawCount.toInt ∧ h0_world_lawCount.toInt ≤ 6) (h_h0_world_force : 0 ≤ h0_world_force.toInt ∧ h0_world_force.toInt ≤ 5) (h_h0_world_crew_count : 1 ≤ h0_world_crew_count.toInt ∧ h0_world_crew_count.toInt ≤ 6) (h_f_h0_world_crew_cell : CE f_h0_world_crew_cell) (h_f_h0_world_term : TE f_h0_world_term) (h_f_h0_world_rock_kind : KI f_h0_world_rock_kind) (h_h0_asker_cell : 0 ≤ h0_asker_cell.toInt ∧ h0_asker_cell.toInt ≤ 39) (h_t_clauses : 0 ≤ t_clauses.toInt ∧ t_clauses.toInt ≤ 12) (h_t_length : 0 ≤ t_length.toInt ∧ t_length.toInt ≤ 400) (h_f_t_code : CD f_t_code) (h_h0_world_folk_listeners : 0 ≤ h0_world_folk_listeners.toInt ∧ h0_world_folk_listeners.toInt ≤ 5) (h_f_h0_world_folk_column : CO f_h0_world_folk_column) (h_f_h0_world_rock_hard : HA f_h0_world_rock_hard) (h_f_h0_world_rock_water : WA f_h0_world_rock_water) (h_f_h0_world_crew_buckets : BU f_h0_world_crew_buckets) (h_h0_diary_kept : 0 ≤ h0_diary_kept.toInt ∧ h0_diary_kept.toInt ≤ 16) (h_h0_diary_latest : 0 ≤ h0_diary_latest.toInt ∧ h0_diary_latest.toInt ≤ 15) (e_0 : RXw f_h0_world_rock_kind f_h0_world_rock_hard f_h0_world_rock_water h0_world_rock_dug f_h0_world_crew_cell f_h0_world_crew_buckets h0_world_crew_count f_h0_world_folk_column g_ea h0_world_folk_listeners g_nc g_nl g_ns g_hu g_hc g_hl g_hs g_so g_we g_wl f_h0_world_term h0_world_lawCount h0_world_force w) (e_1 : RXu f_h0_diary_deed f_h0_diary_whose f_h0_diary_before f_h0_diary_bucketsBefore f_h0_diary_dayBefore h0_diary_kept h0_diary_latest w U) (e_2 : DI f_h0_diary_deed f_h0_diary_whose f_h0_diary_before f_h0_diary_bucketsBefore f_h0_diary_dayBefore) (e_3 : XTx t_clauses t_length n_t_heads f_t_heads n_t_code f_t_code (ls (h0_world_force.toInt).toNat)) (e_4 : ∀ q ∈ ls (h0_world_force.toInt).toNat, okC q) (e_5 : n_t_heads < 100000) (e_6 : t_length.toInt ≤ (n_t_code : Int)) (e_7 : h0_world_force.toInt < h0_world_lawCount.toInt) (e_8 : f_h0_world_laws (Int32.toNatClampNeg h0_world_force) = some t) {Q : ((Nat → Int32) × (Nat → Int32) × Int64 × Value × Value × Int32 × Int32 × Int32 × Int32 × (Nat → Int64) × (Nat → Int32) × (Nat → Int32) × Int32 × Int32 × (Nat → Int32) × (Nat → Int32) × (Nat → Int32) × (Nat → Int32) × (Nat → Int32)) → Prop} (hq : ∀ (u_0 : Nat → Int32) (u_1 : Nat → Int32) (u_2 : Int64) (u_3 : Value) (u_4 : Value) (u_5 : Int32) (u_6 : Int32) (u_7 : Int32) (u_8 : Int32) (u_9 : Nat → Int64) (u_10 : Nat → Int32) (u_11 : Nat → Int32) (u_12 : Int32) (u_13 : Int32) (u_14 : Nat → Int32) (u_15 : Nat → Int32) (u_16 : Nat → Int32) (u_17 : Nat → Int32) (u_18 : Nat → Int32), (CE u_0) ∧ (TE u_1) ∧ (0 ≤ u_5.toInt ∧ u_5.toInt ≤ 39) ∧ (WA u_10) ∧ (BU u_11) ∧ (0 ≤ u_12.toInt ∧ u_12.toInt ≤ 16) ∧ (0 ≤ u_13.toInt ∧ u_13.toInt ≤ 15) ∧ (∃ U1, RXw f_h0_world_rock_kind f_h0_world_rock_hard u_10 u_2 u_0 u_11 h0_world_crew_count f_h0_world_folk_column g_ea h0_world_folk_listeners g_nc g_nl g_ns g_hu g_hc g_hl g_hs g_so g_we g_wl u_1 h0_world_lawCount h0_world_force (seF ls b.toInt.toNat a.toInt w) ∧ RXu u_14 u_15 u_16 u_17 u_18 u_12 u_13 (seF ls b.toInt.toNat a.toInt w) U1 ∧ ∀ i, i < 6 → w (16 + i) ≤ seF ls b.toInt.toNat a.toInt w (16 + i)) ∧ (DI u_14 u_15 u_16 u_17 u_18) → Q (u_0, u_1, u_2, u_3, u_4, u_5, u_6, u_7, u_8, u_9, u_10, u_11, u_12, u_13, u_14, u_15, u_16, u_17, u_18)) : wp_X7_runSeasons_T a b h0_world h0_world_lawCount h0_world_force h0_world_crew_count f_h0_world_crew_cell f_h0_world_term h0_world_rock_dug f_h0_world_rock_kind f_h0_world_laws h0_asker_world h0_asker_law h0_asker_cell h0_asker_shaft h0_asker_kind h0_asker_done h0_asker_latest h0_asker_value t t_clauses t_length n_t_heads f_t_heads n_t_code f_t_code f_h0_asker_stack h0_world_folk_listeners f_h0_world_folk_column f_h0_world_rock_hard f_h0_world_rock_water f_h0_world_crew_buckets h0_diary_kept h0_diary_latest f_h0_diary_deed f_h0_diary_whose f_h0_diary_before f_h0_diary_bucketsBefore f_h0_diary_dayBefore Q := by
  unfold wp_X7_runSeasons_T
  refine br0 (z_ne (x := (Int32.toInt h0_world_crew_count)) (y := 0) rfl rfl (by omega)) ?_
  have k3 : Int32.toInt 0 = 0 := rfl
  refine sl_X7_runSeasons_T_22z b h0_world h0_world_lawCount h0_world_force h0_world_crew_count (f_h0_world_rock_kind) f_h0_world_laws h0_asker_done h0_asker_latest t t_clauses t_length n_t_heads (f_t_heads) n_t_code (f_t_code) h0_world_folk_listeners (f_h0_world_folk_column) (f_h0_world_rock_hard) w U ls a.toInt g_ea g_nc g_nl g_ns g_hu g_hc g_hl g_hs g_so g_we g_wl ⟨by omega, by omega⟩ ⟨by omega, by omega⟩ ⟨by omega, by omega⟩ ⟨by omega, by omega⟩ h_f_h0_world_rock_kind ⟨by omega, by omega⟩ ⟨by omega, by omega⟩ h_f_t_code ⟨by omega, by omega⟩ h_f_h0_world_folk_column h_f_h0_world_rock_hard (by assumption) (by omega) e_3 e_4 (by omega) (by omega) _ (fun x1_0 x1_1 x1_2 x1_3 x1_4 x1_5 x1_6 x1_7 x1_8 x1_9 x1_10 x1_11 x1_12 x1_13 x1_14 x1_15 x1_16 x1_17 x1_18 x1_19 x1_20 X2 => ?_) 1000000000000 0 a (f_h0_world_crew_cell) (f_h0_world_term) h0_world_rock_dug h0_asker_world h0_asker_law h0_asker_cell h0_asker_shaft h0_asker_kind h0_asker_value (f_h0_asker_stack) (f_h0_world_rock_water) (f_h0_world_crew_buckets) h0_diary_kept h0_diary_latest (f_h0_diary_deed) (f_h0_diary_whose) (f_h0_diary_before) (f_h0_diary_bucketsBefore) (f_h0_diary_dayBefore) ⟨(by decide), ⟨by omega, by omega⟩, h_f_h0_world_crew_cell, h_f_h0_world_term, ⟨by omega, by omega⟩, h_f_h0_world_rock_water, h_f_h0_world_crew_buckets, ⟨by omega, by omega⟩, ⟨by omega, by omega⟩, e_2, ⟨(w, U), rfl, fun i _ => Int.le_refl _, e_0, e_1⟩⟩ (by omega)
  have j4 := X2.1
  have j5 := X2.2.1
  have j6 := X2.2.2.1
  have j7 := X2.2.2.2.1
  have j8 := X2.2.2.2.2.1
  have j9 := X2.2.2.2.2.2.1
  have j10 := X2.2.2.2.2.2.2.1
  have j11 := X2.2.2.2.2.2.2.2.1
  have j12 := X2.2.2.2.2.2.2.2.2.1
  have j13 := X2.2.2.2.2.2.2.2.2.2.1
  have j14 := X2.2.2.2.2.2.2.2.2.2.2.1
  have j15 := X2.2.2.2.2.2.2.2.2.2.2.2
  obtain ⟨⟨w8, U8⟩, k8, hm8, hX8, hU8⟩ := j15
  have k8 : seF ls b.toInt.toNat a.toInt w = w8 := k8
  exact hq _ _ _ _ _ _ _ _ _ _ _ _ _ _ _ _ _ _ _ ⟨j6, j7, ⟨by omega, by omega⟩, j9, j10, ⟨by omega, by omega⟩, ⟨by omega, by omega⟩, ⟨_, by rw [k8]; exact hX8, by rw [k8]; exact hU8, fun i hi => by rw [k8]; exact hm8 i hi⟩, j13⟩

