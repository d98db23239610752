/-! the laws' row is copied -/
theorem vu_s {α : Type} {f : Nat → α} {k : Nat} {v : α} : va_up f k v k = v := if_pos rfl
theorem vu_n {α : Type} {f : Nat → α} {k j : Nat} {v : α} (h : ¬ j = k) : va_up f k v j = f j := if_neg h
theorem sl_laws {fp : Nat → Option Nat} {TT : Nat → Prop} (hT : ∀ k, k < 6 → ∀ v, fp k = some v → TT v) {Qb : Int32 → (Nat → Option Nat) → Prop} (KX : ∀ (x : Int32) (f : Nat → Option Nat), (∀ k, k < 6 → f k = fp k) → Qb x f) : ∀ (n i : Nat) (x : Int32) (f : Nat → Option Nat), x.toInt = (i : Int) → i ≤ 6 → 6 - i < n → (∀ k, k < i → f k = fp k) → wl_X10_copyFrom_53 fp TT Qb n x f := by
  intro n
  induction n with
  | zero => intro i x f _ _ h; omega
  | succ n ih =>
    intro i x f hx hi hm hf
    unfold wl_X10_copyFrom_53
    by_cases c : 6 ≤ x
    · have c' := le_z (a := 6) (b := x) (x := 6) rfl hx c
      exact br1 c (KX _ _ (fun k hk => hf k (by omega)))
    · have c' := nle_z (a := 6) (b := x) (x := 6) rfl hx c
      have hv : vp_in x 6 := vpi hx (by omega) (by omega)
      refine br0 c ⟨hv, hv, ?_⟩
      rw [tnN hx]
      refine ⟨hT i (by omega), ?_⟩
      refine ih (i + 1) _ _ (add1 hx (by omega)) (by omega) (by omega) (fun j hj => ?_)
      by_cases q : j = i
      · rw [q, vu_s]
      · rw [vu_n q]; exact hf j (by omega)
theorem o_X0_reckoned (h0_value : Int32) (Q : Int32 → Prop) (h : (Q h0_value)) : wp_X0_reckoned h0_value Q := h

theorem o_X0_turnToOrders (b : Int32) (d : Int32) (Q : (Int32 × Int32) → Prop) (h : (Q (b, d))) : wp_X0_turnToOrders b d Q := h

set_option maxRecDepth 100000 in
theorem s_X2_copyFrom (p0_kept : Int32) (p0_latest : Int32) (f_p0_deed : Nat → Int32) (f_h0_deed : Nat → Int32) (f_p0_whose : Nat → Int32) (f_h0_whose : Nat → Int32) (f_p0_before : Nat → Int32) (f_h0_before : Nat → Int32) (f_p0_bucketsBefore : Nat → Int32) (f_h0_bucketsBefore : Nat → Int32) (f_p0_dayBefore : Nat → Int32) (f_h0_dayBefore : Nat → Int32) (h_p0_kept : 0 ≤ p0_kept.toInt ∧ p0_kept.toInt ≤ 16) (h_p0_latest : 0 ≤ p0_latest.toInt ∧ p0_latest.toInt ≤ 15) (e_0 : DI f_p0_deed f_p0_whose f_p0_before f_p0_bucketsBefore f_p0_dayBefore) {Q : (Int32 × Int32 × (Nat → Int32) × (Nat → Int32) × (Nat → Int32) × (Nat → Int32) × (Nat → Int32)) → Prop} (hq : ∀ (u_0 : Int32) (u_1 : Int32) (u_2 : Nat → Int32) (u_3 : Nat → Int32) (u_4 : Nat → Int32) (u_5 : Nat → Int32) (u_6 : Nat → Int32), (0 ≤ u_0.toInt ∧ u_0.toInt ≤ 16) ∧ (0 ≤ u_1.toInt ∧ u_1.toInt ≤ 15) ∧ (DI u_2 u_3 u_4 u_5 u_6) → Q (u_0, u_1, u_2, u_3, u_4, u_5, u_6)) : wp_X2_copyFrom p0_kept p0_latest f_p0_deed f_h0_deed f_p0_whose f_h0_whose f_p0_before f_h0_before f_p0_bucketsBefore f_h0_bucketsBefore f_p0_dayBefore f_h0_dayBefore Q := by
  unfold wp_X2_copyFrom
  exact hq _ _ _ _ _ _ _ ⟨⟨by omega, by omega⟩, ⟨by omega, by omega⟩, (DI.cp e_0)⟩


set_option maxRecDepth 100000 in
theorem s_X10_copyFrom (p0_lawCount : Int32) (p0_force : Int32) (p0_rock_dug : Int64) (f_p0_rock_kind : Nat → Int32) (f_h0_rock_kind : Nat → Int32) (f_p0_rock_hard : Nat → Int32) (f_h0_rock_hard : Nat → Int32) (f_p0_rock_water : Nat → Int32) (f_h0_rock_water : Nat → Int32) (p0_crew_count : Int32) (f_p0_crew_cell : Nat → Int32) (f_h0_crew_cell : Nat → Int32) (f_p0_crew_buckets : Nat → Int32) (f_h0_crew_buckets : Nat → Int32) (p0_folk_listeners : Int32) (p0_folk_noises : Int32) (p0_folk_hushed : Int32) (p0_folk_hearsay : Int32) (p0_folk_wells : Int32) (f_p0_folk_column : Nat → Int32) (f_h0_folk_column : Nat → Int32) (f_p0_folk_ear : Nat → Int32) (f_h0_folk_ear : Nat → Int32) (f_p0_folk_noiseColumn : Nat → Int32) (f_h0_folk_noiseColumn : Nat → Int32) (f_p0_folk_noiseLoud : Nat → Int32) (f_h0_folk_noiseLoud : Nat → Int32) (f_p0_folk_hearsayColumn : Nat → Int32) (f_h0_folk_hearsayColumn : Nat → Int32) (f_p0_folk_hearsayLoud : Nat → Int32) (f_h0_folk_hearsayLoud : Nat → Int32) (f_p0_folk_sounds : Nat → Int32) (f_h0_folk_sounds : Nat → Int32) (f_p0_folk_wet : Nat → Int32) (f_h0_folk_wet : Nat → Int32) (f_h0_term : Nat → Int32) (f_p0_term : Nat → Int32) (f_p0_laws : Nat → Option Nat) (f_h0_laws : Nat → Option Nat) (TT : Nat → Prop) (h_p0_lawCount : 0 ≤ p0_lawCount.toInt ∧ p0_lawCount.toInt ≤ 6) (h_p0_force : (-1) ≤ p0_force.toInt ∧ p0_force.toInt ≤ 5) (h_f_p0_rock_kind : KI f_p0_rock_kind) (h_f_h0_rock_kind : KI f_h0_rock_kind) (h_f_p0_rock_hard : HA f_p0_rock_hard) (h_f_h0_rock_hard : HA f_h0_rock_hard) (h_f_p0_rock_water : WA f_p0_rock_water) (h_f_h0_rock_water : WA f_h0_rock_water) (h_p0_crew_count : 0 ≤ p0_crew_count.toInt ∧ p0_crew_count.toInt ≤ 6) (h_f_p0_crew_cell : CE f_p0_crew_cell) (h_f_h0_crew_cell : CE f_h0_crew_cell) (h_f_p0_crew_buckets : BU f_p0_crew_buckets) (h_f_h0_crew_buckets : BU f_h0_crew_buckets) (h_p0_folk_listeners : 0 ≤ p0_folk_listeners.toInt ∧ p0_folk_listeners.toInt ≤ 5) (h_p0_folk_noises : 0 ≤ p0_folk_noises.toInt ∧ p0_folk_noises.toInt ≤ 6) (h_p0_folk_hearsay : 0 ≤ p0_folk_hearsay.toInt ∧ p0_folk_hearsay.toInt ≤ 8) (h_p0_folk_wells : 0 ≤ p0_folk_wells.toInt ∧ p0_folk_wells.toInt ≤ 10) (h_f_p0_folk_column : CO f_p0_folk_column) (h_f_h0_folk_column : CO f_h0_folk_column) (h_f_p0_folk_ear : EA f_p0_folk_ear) (h_f_h0_folk_ear : EA f_h0_folk_ear) (h_f_p0_folk_noiseColumn : NC f_p0_folk_noiseColumn) (h_f_h0_folk_noiseColumn : NC f_h0_folk_noiseColumn) (h_f_p0_folk_noiseLoud : NL f_p0_folk_noiseLoud) (h_f_h0_folk_noiseLoud : NL f_h0_folk_noiseLoud) (h_f_p0_folk_hearsayColumn : HC f_p0_folk_hearsayColumn) (h_f_h0_folk_hearsayColumn : HC f_h0_folk_hearsayColumn) (h_f_p0_folk_hearsayLoud : HL f_p0_folk_hearsayLoud) (h_f_h0_folk_hearsayLoud : HL f_h0_folk_hearsayLoud) (h_f_h0_term : TE f_h0_term) (h_f_p0_term : TE f_p0_term) (e_0 : ∀ k, k < 6 → ∀ v, f_p0_laws k = some v → TT v) {Q : (Int32 × Int32 × Int64 × (Nat → Int32) × (Nat → Int32) × (Nat → Int32) × Int32 × (Nat → Int32) × (Nat → Int32) × Int32 × Int32 × Int32 × Int32 × Int32 × (Nat → Int32) × (Nat → Int32) × (Nat → Int32) × (Nat → Int32) × (Nat → Int32) × (Nat → Int32) × (Nat → Int32) × (Nat → Int32) × (Nat → Int32) × (Nat → Option Nat)) → Prop} (hq : ∀ (u_0 : Int32) (u_1 : Int32) (u_2 : Int64) (u_3 : Nat → Int32) (u_4 : Nat → Int32) (u_5 : Nat → Int32) (u_6 : Int32) (u_7 : Nat → Int32) (u_8 : Nat → Int32) (u_9 : Int32) (u_10 : Int32) (u_11 : Int32) (u_12 : Int32) (u_13 : Int32) (u_14 : Nat → Int32) (u_15 : Nat → Int32) (u_16 : Nat → Int32) (u_17 : Nat → Int32) (u_18 : Nat → Int32) (u_19 : Nat → Int32) (u_20 : Nat → Int32) (u_21 : Nat → Int32) (u_22 : Nat → Int32) (u_23 : Nat → Option Nat), (0 ≤ u_0.toInt ∧ u_0.toInt ≤ 6) ∧ ((-1) ≤ u_1.toInt ∧ u_1.toInt ≤ 5) ∧ (KI u_3) ∧ (HA u_4) ∧ (WA u_5) ∧ (0 ≤ u_6.toInt ∧ u_6.toInt ≤ 6) ∧ (CE u_7) ∧ (BU u_8) ∧ (0 ≤ u_9.toInt ∧ u_9.toInt ≤ 5) ∧ (0 ≤ u_10.toInt ∧ u_10.toInt ≤ 6) ∧ (0 ≤ u_12.toInt ∧ u_12.toInt ≤ 8) ∧ (0 ≤ u_13.toInt ∧ u_13.toInt ≤ 10) ∧ (CO u_14) ∧ (EA u_15) ∧ (NC u_16) ∧ (NL u_17) ∧ (HC u_18) ∧ (HL u_19) ∧ (TE u_22) ∧ (∀ k, k < 6 → u_23 k = f_p0_laws k) ∧ (u_0 = p0_lawCount) ∧ (u_1 = p0_force) → Q (u_0, u_1, u_2, u_3, u_4, u_5, u_6, u_7, u_8, u_9, u_10, u_11, u_12, u_13, u_14, u_15, u_16, u_17, u_18, u_19, u_20, u_21, u_22, u_23)) : wp_X10_copyFrom p0_lawCount p0_force p0_rock_dug f_p0_rock_kind f_h0_rock_kind f_p0_rock_hard f_h0_rock_hard f_p0_rock_water f_h0_rock_water p0_crew_count f_p0_crew_cell f_h0_crew_cell f_p0_crew_buckets f_h0_crew_buckets p0_folk_listeners p0_folk_noises p0_folk_hushed p0_folk_hearsay p0_folk_wells f_p0_folk_column f_h0_folk_column f_p0_folk_ear f_h0_folk_ear f_p0_folk_noiseColumn f_h0_folk_noiseColumn f_p0_folk_noiseLoud f_h0_folk_noiseLoud f_p0_folk_hearsayColumn f_h0_folk_hearsayColumn f_p0_folk_hearsayLoud f_h0_folk_hearsayLoud f_p0_folk_sounds f_h0_folk_sounds f_p0_folk_wet f_h0_folk_wet f_h0_term f_p0_term f_p0_laws f_h0_laws TT Q := by
  unfold wp_X10_copyFrom
  refine s_X6_copyFrom p0_rock_dug (f_p0_rock_kind) (f_h0_rock_kind) (f_p0_rock_hard) (f_h0_rock_hard) (f_p0_rock_water) (f_h0_rock_water) h_f_p0_rock_kind h_f_h0_rock_kind h_f_p0_rock_hard h_f_h0_rock_hard h_f_p0_rock_water h_f_h0_rock_water (fun u1_0 u1_1 u1_2 u1_3 H2 => ?_)
  have j3 := H2.1
  have j4 := H2.2.1
  have j5 := H2.2.2
  refine un4_i ?_
  refine s_X1_copyFrom p0_crew_count (f_p0_crew_cell) (f_h0_crew_cell) (f_p0_crew_buckets) (f_h0_crew_buckets) ⟨by omega, by omega⟩ h_f_p0_crew_cell h_f_h0_crew_cell h_f_p0_crew_buckets h_f_h0_crew_buckets (fun u6_0 u6_1 u6_2 H7 => ?_)
  have j8 := H7.1
  have j9 := H7.2.1
  have j10 := H7.2.2
  refine un3_i ?_
  refine s_X4_copyFrom p0_folk_listeners p0_folk_noises p0_folk_hushed p0_folk_hearsay p0_folk_wells (f_p0_folk_column) (f_h0_folk_column) (f_p0_folk_ear) (f_h0_folk_ear) (f_p0_folk_noiseColumn) (f_h0_folk_noiseColumn) (f_p0_folk_noiseLoud) (f_h0_folk_noiseLoud) (f_p0_folk_hearsayColumn) (f_h0_folk_hearsayColumn) (f_p0_folk_hearsayLoud) (f_h0_folk_hearsayLoud) (f_p0_folk_sounds) (f_h0_folk_sounds) (f_p0_folk_wet) (f_h0_folk_wet) ⟨by omega, by omega⟩ ⟨by omega, by omega⟩ ⟨by omega, by omega⟩ ⟨by omega, by omega⟩ h_f_p0_folk_column h_f_h0_folk_column h_f_p0_folk_ear h_f_h0_folk_ear h_f_p0_folk_noiseColumn h_f_h0_folk_noiseColumn h_f_p0_folk_noiseLoud h_f_h0_folk_noiseLoud h_f_p0_folk_hearsayColumn h_f_h0_folk_hearsayColumn h_f_p0_folk_hearsayLoud h_f_h0_folk_hearsayLoud (fun u11_0 u11_1 u11_2 u11_3 u11_4 u11_5 u11_6 u11_7 u11_8 u11_9 u11_10 u11_11 u11_12 H12 => ?_)
  have j13 := H12.1
  have j14 := H12.2.1
  have j15 := H12.2.2.1
  have j16 := H12.2.2.2.1
  have j17 := H12.2.2.2.2.1
  have j18 := H12.2.2.2.2.2.1
  have j19 := H12.2.2.2.2.2.2.1
  have j20 := H12.2.2.2.2.2.2.2.1
  have j21 := H12.2.2.2.2.2.2.2.2.1
  have j22 := H12.2.2.2.2.2.2.2.2.2
  refine un13_i ?_
  refine sl_laws e_0 (fun x23 f24 hl25 => ?_) 1000000000000 0 _ _ rfl (by decide) (by decide) (fun k hk => absurd hk (by omega))
  exact hq _ _ _ _ _ _ _ _ _ _ _ _ _ _ _ _ _ _ _ _ _ _ _ _ ⟨⟨by omega, by omega⟩, ⟨by omega, by omega⟩, j3, j4, j5, ⟨by omega, by omega⟩, j9, j10, ⟨by omega, by omega⟩, ⟨by omega, by omega⟩, ⟨by omega, by omega⟩, ⟨by omega, by omega⟩, j17, j18, j19, j20, j21, j22, (TE.cp h_f_p0_term), hl25, rfl, rfl⟩


set_option maxRecDepth 100000 in
theorem s_X7_copyFrom (p0_world_lawCount : Int32) (p0_world_force : Int32) (p0_world_rock_dug : Int64) (f_p0_world_rock_kind : Nat → Int32) (f_h0_world_rock_kind : Nat → Int32) (f_p0_world_rock_hard : Nat → Int32) (f_h0_world_rock_hard : Nat → Int32) (f_p0_world_rock_water : Nat → Int32) (f_h0_world_rock_water : Nat → Int32) (p0_world_crew_count : Int32) (f_p0_world_crew_cell : Nat → Int32) (f_h0_world_crew_cell : Nat → Int32) (f_p0_world_crew_buckets : Nat → Int32) (f_h0_world_crew_buckets : Nat → Int32) (p0_world_folk_listeners : Int32) (p0_world_folk_noises : Int32) (p0_world_folk_hushed : Int32) (p0_world_folk_hearsay : Int32) (p0_world_folk_wells : Int32) (f_p0_world_folk_column : Nat → Int32) (f_h0_world_folk_column : Nat → Int32) (f_p0_world_folk_ear : Nat → Int32) (f_h0_world_folk_ear : Nat → Int32) (f_p0_world_folk_noiseColumn : Nat → Int32) (f_h0_world_folk_noiseColumn : Nat → Int32) (f_p0_world_folk_noiseLoud : Nat → Int32) (f_h0_world_folk_noiseLoud : Nat → Int32) (f_p0_world_folk_hearsayColumn : Nat → Int32) (f_h0_world_folk_hearsayColumn : Nat → Int32) (f_p0_world_folk_hearsayLoud : Nat → Int32) (f_h0_world_folk_hearsayLoud : Nat → Int32) (f_p0_world_folk_sounds : Nat → Int32) (f_h0_world_folk_sounds : Nat → Int32) (f_p0_world_folk_wet : Nat → Int32) (f_h0_world_folk_wet : Nat → Int32) (f_h0_world_term : Nat → Int32) (f_p0_world_term : Nat → Int32) (f_p0_world_laws : Nat → Option Nat) (f_h0_world_laws : Nat → Option Nat) (p0_diary_kept : Int32) (p0_diary_latest : Int32) (f_p0_diary_deed : Nat → Int32) (f_h0_diary_deed : Nat → Int32) (f_p0_diary_whose : Nat → Int32) (f_h0_diary_whose : Nat → Int32) (f_p0_diary_before : Nat → Int32) (f_h0_diary_before : Nat → Int32) (f_p0_diary_bucketsBefore : Nat → Int32) (f_h0_diary_bucketsBefore : Nat → Int32) (f_p0_diary_dayBefore : Nat → Int32) (f_h0_diary_dayBefore : Nat → Int32) (TT : Nat → Prop) (h_p0_world_lawCount : 0 ≤ p0_world_lawCount.toInt ∧ p0_world_lawCount.toInt ≤ 6) (h_p0_world_force : (-1) ≤ p0_world_force.toInt ∧ p0_world_force.toInt ≤ 5) (h_f_p0_world_rock_kind : KI f_p0_world_rock_kind) (h_f_h0_world_rock_kind : KI f_h0_world_rock_kind) (h_f_p0_world_rock_hard : HA f_p0_world_rock_hard) (h_f_h0_world_rock_hard : HA f_h0_world_rock_hard) (h_f_p0_world_rock_water : WA f_p0_world_rock_water) (h_f_h0_world_rock_water : WA f_h0_world_rock_water) (h_p0_world_crew_count : 0 ≤ p0_world_crew_count.toInt ∧ p0_world_crew_count.toInt ≤ 6) (h_f_p0_world_crew_cell : CE f_p0_world_crew_cell) (h_f_h0_world_crew_cell : CE f_h0_world_crew_cell) (h_f_p0_world_crew_buckets : BU f_p0_world_crew_buckets) (h_f_h0_world_crew_buckets : BU f_h0_world_crew_buckets) (h_p0_world_folk_listeners : 0 ≤ p0_world_folk_listeners.toInt ∧ p0_world_folk_listeners.toInt ≤ 5) (h_p0_world_folk_noises : 0 ≤ p0_world_folk_noises.toInt ∧ p0_world_folk_noises.toInt ≤ 6) (h_p0_world_folk_hearsay : 0 ≤ p0_world_folk_hearsay.toInt ∧ p0_world_folk_hearsay.toInt ≤ 8) (h_p0_world_folk_wells : 0 ≤ p0_world_folk_wells.toInt ∧ p0_world_folk_wells.toInt ≤ 10) (h_f_p0_world_folk_column : CO f_p0_world_folk_column) (h_f_h0_world_folk_column : CO f_h0_world_folk_column) (h_f_p0_world_folk_ear : EA f_p0_world_folk_ear) (h_f_h0_world_folk_ear : EA f_h0_world_folk_ear) (h_f_p0_world_folk_noiseColumn : NC f_p0_world_folk_noiseColumn) (h_f_h0_world_folk_noiseColumn : NC f_h0_world_folk_noiseColumn) (h_f_p0_world_folk_noiseLoud : NL f_p0_world_folk_noiseLoud) (h_f_h0_world_folk_noiseLoud : NL f_h0_world_folk_noiseLoud) (h_f_p0_world_folk_hearsayColumn : HC f_p0_world_folk_hearsayColumn) (h_f_h0_world_folk_hearsayColumn : HC f_h0_world_folk_hearsayColumn) (h_f_p0_world_folk_hearsayLoud : HL f_p0_world_folk_hearsayLoud) (h_f_h0_world_folk_hearsayLoud : HL f_h0_world_folk_hearsayLoud) (h_f_h0_world_term : TE f_h0_world_term) (h_f_p0_world_term : TE f_p0_world_term) (h_p0_diary_kept : 0 ≤ p0_diary_kept.toInt ∧ p0_diary_kept.toInt ≤ 16) (h_p0_diary_latest : 0 ≤ p0_diary_latest.toInt ∧ p0_diary_latest.toInt ≤ 15) (e_0 : ∀ k, k < 6 → ∀ v, f_p0_world_laws k = some v → TT v) (e_1 : DI f_p0_diary_deed f_p0_diary_whose f_p0_diary_before f_p0_diary_bucketsBefore f_p0_diary_dayBefore) {Q : (Int32 × Int32 × Int64 × (Nat → Int32) × (Nat → Int32) × (Nat → Int32) × Int32 × (Nat → Int32) × (Nat → Int32) × Int32 × Int32 × Int32 × Int32 × Int32 × (Nat → Int32) × (Nat → Int32) × (Nat → Int32) × (Nat → Int32) × (Nat → Int32) × (Nat → Int32) × (Nat → Int32) × (Nat → Int32) × (Nat → Int32) × (Nat → Option Nat) × Int32 × Int32 × (Nat → Int32) × (Nat → Int32) × (Nat → Int32) × (Nat → Int32) × (Nat → Int32)) → Prop} (hq : ∀ (u_0 : Int32) (u_1 : Int32) (u_2 : Int64) (u_3 : Nat → Int32) (u_4 : Nat → Int32) (u_5 : Nat → Int32) (u_6 : Int32) (u_7 : Nat → Int32) (u_8 : Nat → Int32) (u_9 : Int32) (u_10 : Int32) (u_11 : Int32) (u_12 : Int32) (u_13 : Int32) (u_14 : Nat → Int32) (u_15 : Nat → Int32) (u_16 : Nat → Int32) (u_17 : Nat → Int32) (u_18 : Nat → Int32) (u_19 : Nat → Int32) (u_20 : Nat → Int32) (u_21 : Nat → Int32) (u_22 : Nat → Int32) (u_23 : Nat → Option Nat) (u_24 : Int32) (u_25 : Int32) (u_26 : Nat → Int32) (u_27 : Nat → Int32) (u_28 : Nat → Int32) (u_29 : Nat → Int32) (u_30 : Nat → Int32), (0 ≤ u_0.toInt ∧ u_0.toInt ≤ 6) ∧ ((-1) ≤ u_1.toInt ∧ u_1.toInt ≤ 5) ∧ (KI u_3) ∧ (HA u_4) ∧ (WA u_5) ∧ (0 ≤ u_6.toInt ∧ u_6.toInt ≤ 6) ∧ (CE u_7) ∧ (BU u_8) ∧ (0 ≤ u_9.toInt ∧ u_9.toInt ≤ 5) ∧ (0 ≤ u_10.toInt ∧ u_10.toInt ≤ 6) ∧ (0 ≤ u_12.toInt ∧ u_12.toInt ≤ 8) ∧ (0 ≤ u_13.toInt ∧ u_13.toInt ≤ 10) ∧ (CO u_14) ∧ (EA u_15) ∧ (NC u_16) ∧ (NL u_17) ∧ (HC u_18) ∧ (HL u_19) ∧ (TE u_22) ∧ (0 ≤ u_24.toInt ∧ u_24.toInt ≤ 16) ∧ (0 ≤ u_25.toInt ∧ u_25.toInt ≤ 15) ∧ (∀ k, k < 6 → u_23 k = f_p0_world_laws k) ∧ (u_0 = p0_world_lawCount) ∧ (u_1 = p0_world_force) ∧ (DI u_26 u_27 u_28 u_29 u_30) → Q (u_0, u_1, u_2, u_3, u_4, u_5, u_6, u_7, u_8, u_9, u_10, u_11, u_12, u_13, u_14, u_15, u_16, u_17, u_18, u_19, u_20, u_21, u_22, u_23, u_24, u_25, u_26, u_27, u_28, u_29, u_30)) : wp_X7_copyFrom p0_world_lawCount p0_world_force p0_world_rock_dug f_p0_world_rock_kind f_h0_world_rock_kind f_p0_world_rock_hard f_h0_world_rock_hard f_p0_world_rock_water f_h0_world_rock_water p0_world_crew_count f_p0_world_crew_cell f_h0_world_crew_cell f_p0_world_crew_buckets f_h0_world_crew_buckets p0_world_folk_listeners p0_world_folk_noises p0_world_folk_hushed p0_world_folk_hearsay p0_world_folk_wells f_p0_world_folk_column f_h0_world_folk_column f_p0_world_folk_ear f_h0_world_folk_ear f_p0_world_folk_noiseColumn f_h0_world_folk_noiseColumn f_p0_world_folk_noiseLoud f_h0_world_folk_noiseLoud f_p0_world_folk_hearsayColumn f_h0_world_folk_hearsayColumn f_p0_world_folk_hearsayLoud f_h0_world_folk_hearsayLoud f_p0_world_folk_sounds f_h0_world_folk_sounds f_p0_world_folk_wet f_h0_world_folk_wet f_h0_world_term f_p0_world_term f_p0_world_laws f_h0_world_laws p0_diary_kept p0_diary_latest f_p0_diary_deed f_h0_diary_deed f_p0_diary_whose f_h0_diary_whose f_p0_diary_before f_h0_diary_before f_p0_diary_bucketsBefore f_h0_diary_bucketsBefore f_p0_diary_dayBefore f_h0_diary_dayBefore TT Q := by
  unfold wp_X7_copyFrom
  refine s_X10_copyFrom p0_world_lawCount p0_world_force p0_world_rock_dug (f_p0_world_rock_kind) (f_h0_world_rock_kind) (f_p0_world_rock_hard) (f_h0_world_rock_hard) (f_p0_world_rock_water) (f_h0_world_rock_water) p0_world_crew_count (f_p0_world_crew_cell) (f_h0_world_crew_cell) (f_p0_world_crew_buckets) (f_h0_world_crew_buckets) p0_world_folk_listeners p0_world_folk_noises p0_world_folk_hushed p0_world_folk_hearsay p0_world_folk_wells (f_p0_world_folk_column) (f_h0_world_folk_column) (f_p0_world_folk_ear) (f_h0_world_folk_ear) (f_p0_world_folk_noiseColumn) (f_h0_world_folk_noiseColumn) (f_p0_world_folk_noiseLoud) (f_h0_world_folk_noiseLoud) (f_p0_world_folk_hearsayColumn) (f_h0_world_folk_hearsayColumn) (f_p0_world_folk_hearsayLoud) (f_h0_world_folk_hearsayLoud) (f_p0_world_folk_sounds) (f_h0_world_folk_sounds) (f_p0_world_folk_wet) (f_h0_world_folk_wet) (f_h0_world_term) (f_p0_world_term) (f_p0_world_laws) (f_h0_world_laws) TT ⟨by omega, by omega⟩ ⟨by omega, by omega⟩ h_f_p0_world_rock_kind h_f_h0_world_rock_kind h_f_p0_world_rock_hard h_f_h0_world_rock_hard h_f_p0_world_rock_water h_f_h0_world_rock_water ⟨by omega, by omega⟩ h_f_p0_world_crew_cell h_f_h0_world_crew_cell h_f_p0_world_crew_buckets h_f_h0_world_crew_buckets ⟨by omega, by omega⟩ ⟨by omega, by omega⟩ ⟨by omega, by omega⟩ ⟨by omega, by omega⟩ h_f_p0_world_folk_column h_f_h0_world_folk_column h_f_p0_world_folk_ear h_f_h0_world_folk_ear h_f_p0_world_folk_noiseColumn h_f_h0_world_folk_noiseColumn h_f_p0_world_folk_noiseLoud h_f_h0_world_folk_noiseLoud h_f_p0_world_folk_hearsayColumn h_f_h0_world_folk_hearsayColumn h_f_p0_world_folk_hearsayLoud h_f_h0_world_folk_hearsayLoud h_f_h0_world_term h_f_p0_world_term e_0 (fun u1_0 u1_1 u1_2 u1_3 u1_4 u1_5 u1_6 u1_7 u1_8 u1_9 u1_10 u1_11 u1_12 u1_13 u1_14 u1_15 u1_16 u1_17 u1_18 u1_19 u1_20 u1_21 u1_22 u1_23 H2 => ?_)
  have j3 := H2.1
  have j4 := H2.2.1
  have j5 := H2.2.2.1
  have j6 := H2.2.2.2.1
  have j7 := H2.2.2.2.2.1
  have j8 := H2.2.2.2.2.2.1
  have j9 := H2.2.2.2.2.2.2.1
  have j10 := H2.2.2.2.2.2.2.2.1
  have j11 := H2.2.2.2.2.2.2.2.2.1
  have j12 := H2.2.2.2.2.2.2.2.2.2.1
  have j13 := H2.2.2.2.2.2.2.2.2.2.2.1
  have j14 := H2.2.2.2.2.2.2.2.2.2.2.2.1
  have j15 := H2.2.2.2.2.2.2.2.2.2.2.2.2.1
  have j16 := H2.2.2.2.2.2.2.2.2.2.2.2.2.2.1
  have j17 := H2.2.2.2.2.2.2.2.2.2.2.2.2.2.2.1
  have j18 := H2.2.2.2.2.2.2.2.2.2.2.2.2.2.2.2.1
  have j19 := H2.2.2.2.2.2.2.2.2.2.2.2.2.2.2.2.2.1
  have j20 := H2.2.2.2.2.2.2.2.2.2.2.2.2.2.2.2.2.2.1
  have j21 := H2.2.2.2.2.2.2.2.2.2.2.2.2.2.2.2.2.2.2.1
  have j22 := H2.2.2.2.2.2.2.2.2.2.2.2.2.2.2.2.2.2.2.2.1
  have j23 := H2.2.2.2.2.2.2.2.2.2.2.2.2.2.2.2.2.2.2.2.2.1
  have j24 := H2.2.2.2.2.2.2.2.2.2.2.2.2.2.2.2.2.2.2.2.2.2
  refine un24_i ?_
  refine s_X2_copyFrom p0_diary_kept p0_diary_latest (f_p0_diary_deed) (f_h0_diary_deed) (f_p0_diary_whose) (f_h0_diary_whose) (f_p0_diary_before) (f_h0_diary_before) (f_p0_diary_bucketsBefore) (f_h0_diary_bucketsBefore) (f_p0_diary_dayBefore) (f_h0_diary_dayBefore) ⟨by omega, by omega⟩ ⟨by omega, by omega⟩ e_1 (fun u25_0 u25_1 u25_2 u25_3 u25_4 u25_5 u25_6 H26 => ?_)
  have j27 := H26.1
  have j28 := H26.2.1
  have j29 := H26.2.2
  refine un7_i ?_
  exact hq _ _ _ _ _ _ _ _ _ _ _ _ _ _ _ _ _ _ _ _ _ _ _ _ _ _ _ _ _ _ _ ⟨⟨by omega, by omega⟩, ⟨by omega, by omega⟩, j5, j6, j7, ⟨by omega, by omega⟩, j9, j10, ⟨by omega, by omega⟩, ⟨by omega, by omega⟩, ⟨by omega, by omega⟩, ⟨by omega, by omega⟩, j15, j16, j17, j18, j19, j20, j21, ⟨by omega, by omega⟩, ⟨by omega, by omega⟩, j22, j23, j24, j29⟩


set_option maxRecDepth 100000 in
theorem s_X7_runOrder_N (b : Int32) (h0_world : Nat) (h0_latest : Int32) (p0_length : Int32) (n_p0_heads : Nat) (f_p0_heads : Nat → Int32) (h0_asker_law : Value) (h0_asker_cell : Int32) (h0_asker_shaft : Int32) (h0_asker_kind : Int32) (h0_asker_done : Int32) (h0_asker_latest : Int32) (h0_asker_value : Int32) (n_p0_code : Nat) (f_p0_code : Nat → Int32) (f_h0_asker_stack : Nat → Int64) (h0_world_lawCount : Int32) (h0_world_force : Int32) (h0_world_folk_listeners : Int32) (h0_world_folk_noises : Int32) (h0_world_folk_hushed : Int32) (f_h0_world_folk_column : Nat → Int32) (h0_world_rock_dug : Int64) (f_h0_world_rock_hard : Nat → Int32) (f_h0_world_rock_water : Nat → Int32) (f_h0_world_term : Nat → Int32) (h0_world_crew_count : Int32) (f_h0_world_crew_cell : Nat → Int32) (f_h0_world_crew_buckets : Nat → Int32) (f_h0_world_rock_kind : Nat → Int32) (f_h0_world_laws : Nat → Option Nat) (h0_diary_kept : Int32) (h0_diary_latest : Int32) (f_h0_diary_deed : Nat → Int32) (f_h0_diary_whose : Nat → Int32) (f_h0_diary_before : Nat → Int32) (f_h0_diary_bucketsBefore : Nat → Int32) (f_h0_diary_dayBefore : Nat → Int32) (f_h0_world_folk_noiseColumn : Nat → Int32) (f_h0_world_folk_noiseLoud : Nat → Int32) (h_b : 0 ≤ b.toInt ∧ b.toInt ≤ 12) (h_p0_length : 0 ≤ p0_length.toInt ∧ p0_length.toInt ≤ 400) (h_f_p0_heads : HD f_p0_heads) (h_h0_asker_cell : 0 ≤ h0_asker_cell.toInt ∧ h0_asker_cell.toInt ≤ 39) (h_f_p0_code : CD f_p0_code) (h_h0_world_lawCount : 0 ≤ h0_world_lawCount.toInt ∧ h0_world_lawCount.toInt ≤ 6) (h_h0_world_force : (-1) ≤ h0_world_force.toInt ∧ h0_world_force.toInt ≤ (-1)) (h_h0_world_folk_listeners : 0 ≤ h0_world_folk_listeners.toInt ∧ h0_world_folk_listeners.toInt ≤ 5) (h_h0_world_folk_noises : 0 ≤ h0_world_folk_noises.toInt ∧ h0_world_folk_noises.toInt ≤ 6) (h_f_h0_world_folk_column : CO f_h0_world_folk_column) (h_f_h0_world_rock_hard : HA f_h0_world_rock_hard) (h_f_h0_world_rock_water : WA f_h0_world_rock_water) (h_f_h0_world_term : TE f_h0_world_term) (h_h0_world_crew_count : 0 ≤ h0_world_crew_count.toInt ∧ h0_world_crew_count.toInt ≤ 6) (h_f_h0_world_crew_cell : CE f_h0_world_crew_cell) (h_f_h0_world_crew_buckets : BU f_h0_world_crew_buckets) (h_f_h0_world_rock_kind : KI f_h0_world_rock_kind) (h_h0_diary_kept : 0 ≤ h0_diary_kept.toInt ∧ h0_diary_kept.toInt ≤ 16) (h_h0_diary_latest : 0 ≤ h0_diary_latest.toInt ∧ h0_diary_latest.toInt ≤ 15) (h_f_h0_world_folk_noiseColumn : NC f_h0_world_folk_noiseColumn) (h_f_h0_world_folk_noiseLoud : NL f_h0_world_folk_noiseLoud) (e_0 : n_p0_heads < 100000) (e_1 : p0_length.toInt ≤ (n_p0_code : Int)) (e_2 : DI f_h0_diary_deed f_h0_diary_whose f_h0_diary_before f_h0_diary_bucketsBefore f_h0_diary_dayBefore) {Q : Int32 → (Int32 × Value × Value × Int32 × Int32 × Int32 × Int32 × (Nat → Int64) × Int32 × (Nat → Int32) × Int64 × (Nat → Int32) × (Nat → Int32) × (Nat → Int32) × (Nat → Int32) × Int32 × Int32 × (Nat → Int32) × (Nat → Int32) × (Nat → Int32) × (Nat → Int32) × (Nat → Int32)) → Prop} (hq : ∀ (r : Int32) (u_0 : Int32) (u_1 : Value) (u_2 : Value) (u_3 : Int32) (u_4 : Int32) (u_5 : Int32) (u_6 : Int32) (u_7 : Nat → Int64) (u_8 : Int32) (u_9 : Nat → Int32) (u_10 : Int64) (u_11 : Nat → Int32) (u_12 : Nat → Int32) (u_13 : Nat → Int32) (u_14 : Nat → Int32) (u_15 : Int32) (u_16 : Int32) (u_17 : Nat → Int32) (u_18 : Nat → Int32) (u_19 : Nat → Int32) (u_20 : Nat → Int32) (u_21 : Nat → Int32), (0 ≤ u_3.toInt ∧ u_3.toInt ≤ 39) ∧ (CO u_9) ∧ (WA u_11) ∧ (TE u_12) ∧ (CE u_13) ∧ (BU u_14) ∧ (0 ≤ u_15.toInt ∧ u_15.toInt ≤ 16) ∧ (0 ≤ u_16.toInt ∧ u_16.toInt ≤ 15) ∧ (DI u_17 u_18 u_19 u_20 u_21) → Q r (u_0, u_1, u_2, u_3, u_4, u_5, u_6, u_7, u_8, u_9, u_10, u_11, u_12, u_13, u_14, u_15, u_16, u_17, u_18, u_19, u_20, u_21)) : wp_X7_runOrder_N b h0_world h0_latest p0_length n_p0_heads f_p0_heads h0_asker_law h0_asker_cell h0_asker_shaft h0_asker_kind h0_asker_done h0_asker_latest h0_asker_value n_p0_code f_p0_code f_h0_asker_stack h0_world_lawCount h0_world_force h0_world_folk_listeners h0_world_folk_noises h0_world_folk_hushed f_h0_world_folk_column h0_world_rock_dug f_h0_world_rock_hard f_h0_world_rock_water f_h0_world_term h0_world_crew_count f_h0_world_crew_cell f_h0_world_crew_buckets f_h0_world_rock_kind f_h0_world_laws h0_diary_kept h0_diary_latest f_h0_diary_deed f_h0_diary_whose f_h0_diary_before f_h0_diary_bucketsBefore f_h0_diary_dayBefore f_h0_world_folk_noiseColumn f_h0_world_folk_noiseLoud Q := by
  unfold wp_X7_runOrder_N
  have k1 : Int32.toInt 1 = 1 := rfl
  refine s_X8_headOfh b 1 n_p0_heads (f_p0_heads) ⟨by omega, by omega⟩ (by decide) h_f_p0_heads (by omega) (fun r2 H3 => ?_)
  have j4 := H3
  refine s_X0_reckon r2 h0_asker_cell h0_asker_shaft h0_asker_kind h0_asker_done h0_asker_latest h0_asker_value p0_length n_p0_code (f_p0_code) (f_h0_asker_stack) h0_world_folk_listeners (f_h0_world_folk_column) (f_h0_world_rock_hard) (f_h0_world_rock_water) (f_h0_world_term) h0_world_crew_count (f_h0_world_crew_cell) (f_h0_world_crew_buckets) ⟨by omega, by omega⟩ ⟨by omega, by omega⟩ h_f_p0_code ⟨by omega, by omega⟩ h_f_h0_world_folk_column h_f_h0_world_rock_hard h_f_h0_world_rock_water h_f_h0_world_term ⟨by omega, by omega⟩ h_f_h0_world_crew_cell h_f_h0_world_crew_buckets (by omega) (fun r5 u6_0 u6_1 H7 => ?_)
  have j8 := H7
  refine un2_i ?_
  by_cases c9 : r5 = 0
  · refine br1 c9 ?_
    have d10 := eq_z (a := r5) (b := 0) (x := (Int32.toInt r5)) (y := 0) rfl rfl c9
    have k11 : Int32.toInt 0 = 0 := rfl
    exact hq _ _ _ _ _ _ _ _ _ _ _ _ _ _ _ _ _ _ _ _ _ _ _ ⟨⟨by omega, by omega⟩, h_f_h0_world_folk_column, h_f_h0_world_rock_water, h_f_h0_world_term, h_f_h0_world_crew_cell, h_f_h0_world_crew_buckets, ⟨by omega, by omega⟩, ⟨by omega, by omega⟩, e_2⟩
  · refine br0 c9 ?_
    have d12 := ne_z (a := r5) (b := 0) (x := (Int32.toInt r5)) (y := 0) rfl rfl c9
    refine o_X0_reckoned _ _ ?_
    have k13 : Int32.toInt 0 = 0 := rfl
    refine s_X8_headOfh b 0 n_p0_heads (f_p0_heads) ⟨by omega, by omega⟩ (by decide) h_f_p0_heads (by omega) (fun r14 H15 => ?_)
    have j16 := H15
    by_cases c17 : r14 = 21
    · refine br1 c17 ?_
      have d18 := eq_z (a := r14) (b := 21) (x := (Int32.toInt r14)) (y := 21) rfl rfl c17
      refine s_X7_tryHush u6_0 h0_world_folk_noises h0_world_folk_hushed h0_diary_kept h0_diary_latest (f_h0_diary_deed) (f_h0_diary_whose) (f_h0_diary_before) (f_h0_diary_bucketsBefore) (f_h0_diary_dayBefore) (f_h0_world_folk_noiseColumn) (f_h0_world_folk_noiseLoud) ⟨by omega, by omega⟩ ⟨by omega, by omega⟩ ⟨by omega, by omega⟩ h_f_h0_world_folk_noiseColumn h_f_h0_world_folk_noiseLoud e_2 (fun r19 u20_0 u20_1 u20_2 u20_3 u20_4 u20_5 u20_6 u20_7 H21 => ?_)
      have j22 := H21.1
      have j23 := H21.2.1
      have j24 := H21.2.2.1
      have j25 := H21.2.2.2
      refine un8_i ?_
      by_cases c26 : r19 < 0
      · refine br1 c26 ?_
        have d27 := lt_z (a := r19) (b := 0) (x := (Int32.toInt r19)) (y := 0) rfl rfl c26
        exact hq _ _ _ _ _ _ _ _ _ _ _ _ _ _ _ _ _ _ _ _ _ _ _ ⟨⟨by omega, by omega⟩, h_f_h0_world_folk_column, h_f_h0_world_rock_water, h_f_h0_world_term, h_f_h0_world_crew_cell, h_f_h0_world_crew_buckets, ⟨by omega, by omega⟩, ⟨by omega, by omega⟩, j25⟩
      · refine br0 c26 ?_
        have d28 := nlt_z (a := r19) (b := 0) (x := (Int32.toInt r19)) (y := 0) rfl rfl c26
        exact hq _ _ _ _ _ _ _ _ _ _ _ _ _ _ _ _ _ _ _ _ _ _ _ ⟨⟨by omega, by omega⟩, h_f_h0_world_folk_column, h_f_h0_world_rock_water, h_f_h0_world_term, h_f_h0_world_crew_cell, h_f_h0_world_crew_buckets, ⟨by omega, by omega⟩, ⟨by omega, by omega⟩, j25⟩
    · refine br0 c17 ?_
      have d29 := ne_z (a := r14) (b := 21) (x := (Int32.toInt r14)) (y := 21) rfl rfl c17
      by_cases c30 : r14 = 20
      · refine br1 c30 ?_
        have d31 := eq_z (a := r14) (b := 20) (x := (Int32.toInt r14)) (y := 20) rfl rfl c30
        refine s_X7_tryHaul_N u6_0 h0_world h0_world_lawCount h0_world_force h0_world_crew_count (f_h0_world_crew_cell) (f_h0_world_term) (f_h0_world_rock_kind) (f_h0_world_laws) (.ref h0_world) h0_asker_law h0_asker_cell h0_asker_shaft h0_asker_kind (f_h0_world_rock_water) (f_h0_world_crew_buckets) h0_diary_kept h0_diary_latest (f_h0_diary_deed) (f_h0_diary_whose) (f_h0_diary_before) (f_h0_diary_bucketsBefore) (f_h0_diary_dayBefore) ⟨by omega, by omega⟩ ⟨by omega, by omega⟩ ⟨by omega, by omega⟩ h_f_h0_world_crew_cell h_f_h0_world_term h_f_h0_world_rock_kind ⟨by omega, by omega⟩ h_f_h0_world_rock_water h_f_h0_world_crew_buckets ⟨by omega, by omega⟩ ⟨by omega, by omega⟩ e_2 (fun r32 u33_0 u33_1 u33_2 u33_3 u33_4 u33_5 u33_6 u33_7 u33_8 u33_9 u33_10 u33_11 u33_12 u33_13 u33_14 H34 => ?_)
        have j35 := H34.1
        have j36 := H34.2.1
        have j37 := H34.2.2.1
        have j38 := H34.2.2.2.1
        have j39 := H34.2.2.2.2.1
        have j40 := H34.2.2.2.2.2.1
        have j41 := H34.2.2.2.2.2.2.1
        have j42 := H34.2.2.2.2.2.2.2
        refine un15_i ?_
        by_cases c43 : r32 < 0
        · refine br1 c43 ?_
          have d44 := lt_z (a := r32) (b := 0) (x := (Int32.toInt r32)) (y := 0) rfl rfl c43
          exact hq _ _ _ _ _ _ _ _ _ _ _ _ _ _ _ _ _ _ _ _ _ _ _ ⟨⟨by omega, by omega⟩, h_f_h0_world_folk_column, j38, j36, h_f_h0_world_crew_cell, j39, ⟨by omega, by omega⟩, ⟨by omega, by omega⟩, j42⟩
        · refine br0 c43 ?_
          have d45 := nlt_z (a := r32) (b := 0) (x := (Int32.toInt r32)) (y := 0) rfl rfl c43
          exact hq _ _ _ _ _ _ _ _ _ _ _ _ _ _ _ _ _ _ _ _ _ _ _ ⟨⟨by omega, by omega⟩, h_f_h0_world_folk_column, j38, j36, h_f_h0_world_crew_cell, j39, ⟨by omega, by omega⟩, ⟨by omega, by omega⟩, j42⟩
      · refine br0 c30 ?_
        have d46 := ne_z (a := r14) (b := 20) (x := (Int32.toInt r14)) (y := 20) rfl rfl c30
        have k47 : Int32.toInt 2 = 2 := rfl
        refine s_X8_headOfh b 2 n_p0_heads (f_p0_heads) ⟨by omega, by omega⟩ (by decide) h_f_p0_heads (by omega) (fun r48 H49 => ?_)
        have j50 := H49
        refine s_X0_reckon r48 h0_asker_cell h0_asker_shaft h0_asker_kind h0_asker_done h0_asker_latest u6_0 p0_length n_p0_code (f_p0_code) (u6_1) h0_world_folk_listeners (f_h0_world_folk_column) (f_h0_world_rock_hard) (f_h0_world_rock_water) (f_h0_world_term) h0_world_crew_count (f_h0_world_crew_cell) (f_h0_world_crew_buckets) ⟨by omega, by omega⟩ ⟨by omega, by omega⟩ h_f_p0_code ⟨by omega, by omega⟩ h_f_h0_world_folk_column h_f_h0_world_rock_hard h_f_h0_world_rock_water h_f_h0_world_term ⟨by omega, by omega⟩ h_f_h0_world_crew_cell h_f_h0_world_crew_buckets (by omega) (fun r51 u52_0 u52_1 H53 => ?_)
        have j54 := H53
        refine un2_i ?_
        by_cases c55 : r51 = 0
        · refine br1 c55 ?_
          have d56 := eq_z (a := r51) (b := 0) (x := (Int32.toInt r51)) (y := 0) rfl rfl c55
          exact hq _ _ _ _ _ _ _ _ _ _ _ _ _ _ _ _ _ _ _ _ _ _ _ ⟨⟨by omega, by omega⟩, h_f_h0_world_folk_column, h_f_h0_world_rock_water, h_f_h0_world_term, h_f_h0_world_crew_cell, h_f_h0_world_crew_buckets, ⟨by omega, by omega⟩, ⟨by omega, by omega⟩, e_2⟩
        · refine br0 c55 ?_
          have d57 := ne_z (a := r51) (b := 0) (x := (Int32.toInt r51)) (y := 0) rfl rfl c55
          refine o_X0_reckoned _ _ ?_
          by_cases c58 : r14 = 22
          · refine br1 c58 ?_
            have d59 := eq_z (a := r14) (b := 22) (x := (Int32.toInt r14)) (y := 22) rfl rfl c58
            refine s_X7_tryLie u6_0 u52_0 h0_world_folk_listeners (f_h0_world_folk_column) h0_diary_kept h0_diary_latest (f_h0_diary_deed) (f_h0_diary_whose) (f_h0_diary_before) (f_h0_diary_bucketsBefore) (f_h0_diary_dayBefore) ⟨by omega, by omega⟩ h_f_h0_world_folk_column ⟨by omega, by omega⟩ ⟨by omega, by omega⟩ e_2 (fun r60 u61_0 u61_1 u61_2 u61_3 u61_4 u61_5 u61_6 u61_7 H62 => ?_)
            have j63 := H62.1
            have j64 := H62.2.1
            have j65 := H62.2.2.1
            have j66 := H62.2.2.2.1
            have j67 := H62.2.2.2.2
            refine un8_i ?_
            by_cases c68 : r60 < 0
            · refine br1 c68 ?_
              have d69 := lt_z (a := r60) (b := 0) (x := (Int32.toInt r60)) (y := 0) rfl rfl c68
              exact hq _ _ _ _ _ _ _ _ _ _ _ _ _ _ _ _ _ _ _ _ _ _ _ ⟨⟨by omega, by omega⟩, j64, h_f_h0_world_rock_water, h_f_h0_world_term, h_f_h0_world_crew_cell, h_f_h0_world_crew_buckets, ⟨by omega, by omega⟩, ⟨by omega, by omega⟩, j67⟩
            · refine br0 c68 ?_
              have d70 := nlt_z (a := r60) (b := 0) (x := (Int32.toInt r60)) (y := 0) rfl rfl c68
              exact hq _ _ _ _ _ _ _ _ _ _ _ _ _ _ _ _ _ _ _ _ _ _ _ ⟨⟨by omega, by omega⟩, j64, h_f_h0_world_rock_water, h_f_h0_world_term, h_f_h0_world_crew_cell, h_f_h0_world_crew_buckets, ⟨by omega, by omega⟩, ⟨by omega, by omega⟩, j67⟩
          · refine br0 c58 ?_
            have d71 := ne_z (a := r14) (b := 22) (x := (Int32.toInt r14)) (y := 22) rfl rfl c58
            refine s_X7_tryDig_N u6_0 u52_0 h0_world h0_world_lawCount h0_world_force h0_world_crew_count (f_h0_world_crew_cell) h0_world_rock_dug (f_h0_world_rock_kind) (f_h0_world_laws) (.ref h0_world) h0_asker_law h0_asker_cell h0_asker_shaft h0_asker_kind (f_h0_world_term) (f_h0_world_rock_hard) h0_diary_kept h0_diary_latest (f_h0_diary_deed) (f_h0_diary_whose) (f_h0_diary_before) (f_h0_diary_bucketsBefore) (f_h0_diary_dayBefore) ⟨by omega, by omega⟩ ⟨by omega, by omega⟩ ⟨by omega, by omega⟩ h_f_h0_world_crew_cell h_f_h0_world_rock_kind ⟨by omega, by omega⟩ h_f_h0_world_term h_f_h0_world_rock_hard ⟨by omega, by omega⟩ ⟨by omega, by omega⟩ e_2 (fun r72 u73_0 u73_1 u73_2 u73_3 u73_4 u73_5 u73_6 u73_7 u73_8 u73_9 u73_10 u73_11 u73_12 u73_13 u73_14 H74 => ?_)
            have j75 := H74.1
            have j76 := H74.2.1
            have j77 := H74.2.2.1
            have j78 := H74.2.2.2.1
            have j79 := H74.2.2.2.2.1
            have j80 := H74.2.2.2.2.2.1
            have j81 := H74.2.2.2.2.2.2
            refine un15_i ?_
            by_cases c82 : r72 < 0
            · refine br1 c82 ?_
              have d83 := lt_z (a := r72) (b := 0) (x := (Int32.toInt r72)) (y := 0) rfl rfl c82
              exact hq _ _ _ _ _ _ _ _ _ _ _ _ _ _ _ _ _ _ _ _ _ _ _ ⟨⟨by omega, by omega⟩, h_f_h0_world_folk_column, h_f_h0_world_rock_water, j78, j76, h_f_h0_world_crew_buckets, ⟨by omega, by omega⟩, ⟨by omega, by omega⟩, j81⟩
            · refine br0 c82 ?_
              have d84 := nlt_z (a := r72) (b := 0) (x := (Int32.toInt r72)) (y := 0) rfl rfl c82
              exact hq _ _ _ _ _ _ _ _ _ _ _ _ _ _ _ _ _ _ _ _ _ _ _ ⟨⟨by omega, by omega⟩, h_f_h0_world_folk_column, h_f_h0_world_rock_water, j78, j76, h_f_h0_world_crew_buckets, ⟨by omega, by omega⟩, ⟨by omega, by omega⟩, j81⟩


set_option maxRecDepth 100000 in
theorem s_X7_runOrder_T (b : Int32) (h0_world : Nat) (h0_latest : Int32) (p0_length : Int32) (n_p0_heads : Nat) (f_p0_heads : Nat → Int32) (h0_asker_law : Value) (h0_asker_cell : Int32) (h0_asker_shaft : Int32) (h0_asker_kind : Int32) (h0_asker_done : Int32) (h0_asker_latest : Int32) (h0_asker_value : Int32) (n_p0_code : Nat) (f_p0_code : Nat → Int32) (f_h0_asker_stack : Nat → Int64) (h0_world_lawCount : Int32) (h0_world_force : Int32) (h0_world_folk_listeners : Int32) (h0_world_folk_noises : Int32) (h0_world_folk_hushed : Int32) (f_h0_world_folk_column : Nat → Int32) (h0_world_rock_dug : Int64) (f_h0_world_rock_hard : Nat → Int32) (f_h0_world_rock_water : Nat → Int32) (f_h0_world_term : Nat → Int32) (h0_world_crew_count : Int32) (f_h0_world_crew_cell : Nat → Int32) (f_h0_world_crew_buckets : Nat → Int32) (f_h0_world_rock_kind : Nat → Int32) (f_h0_world_laws : Nat → Option Nat) (t : Nat) (t_clauses : Int32) (t_length : Int32) (n_t_heads : Nat) (f_t_heads : Nat → Int32) (n_t_code : Nat) (f_t_code : Nat → Int32) (h0_diary_kept : Int32) (h0_diary_latest : Int32) (f_h0_diary_deed : Nat → Int32) (f_h0_diary_whose : Nat → Int32) (f_h0_diary_before : Nat → Int32) (f_h0_diary_bucketsBefore : Nat → Int32) (f_h0_diary_dayBefore : Nat → Int32) (f_h0_world_folk_noiseColumn : Nat → Int32) (f_h0_world_folk_noiseLoud : Nat → Int32) (h_b : 0 ≤ b.toInt ∧ b.toInt ≤ 12) (h_p0_length : 0 ≤ p0_length.toInt ∧ p0_length.toInt ≤ 400) (h_f_p0_heads : HD f_p0_heads) (h_h0_asker_cell : 0 ≤ h0_asker_cell.toInt ∧ h0_asker_cell.toInt ≤ 39) (h_f_p0_code : CD f_p0_code) (h_h0_world_lawCount : 0 ≤ h0_world_lawCount.toInt ∧ h0_world_lawCount.toInt ≤ 6) (h_h0_world_force : 0 ≤ h0_world_force.toInt ∧ h0_world_force.toInt ≤ 5) (h_h0_world_folk_listeners : 0 ≤ h0_world_folk_listeners.toInt ∧ h0_world_folk_listeners.toInt ≤ 5) (h_h0_world_folk_noises : 0 ≤ h0_world_folk_noises.toInt ∧ h0_world_folk_noises.toInt ≤ 6) (h_f_h0_world_folk_column : CO f_h0_world_folk_column) (h_f_h0_world_rock_hard : HA f_h0_world_rock_hard) (h_f_h0_world_rock_water : WA f_h0_world_rock_water) (h_f_h0_world_term : TE f_h0_world_term) (h_h0_world_crew_count : 0 ≤ h0_world_crew_count.toInt ∧ h0_world_crew_count.toInt ≤ 6) (h_f_h0_world_crew_cell : CE f_h0_world_crew_cell) (h_f_h0_world_crew_buckets : BU f_h0_world_crew_buckets) (h_f_h0_world_rock_kind : KI f_h0_world_rock_kind) (h_t_clauses : 0 ≤ t_clauses.toInt ∧ t_clauses.toInt ≤ 12) (h_t_length : 0 ≤ t_length.toInt ∧ t_length.toInt ≤ 400) (h_f_t_code : CD f_t_code) (h_h0_diary_kept : 0 ≤ h0_diary_kept.toInt ∧ h0_diary_kept.toInt ≤ 16) (h_h0_diary_latest : 0 ≤ h0_diary_latest.toInt ∧ h0_diary_latest.toInt ≤ 15) (h_f_h0_world_folk_noiseColumn : NC f_h0_world_folk_noiseColumn) (h_f_h0_world_folk_noiseLoud : NL f_h0_world_folk_noiseLoud) (e_0 : n_p0_heads < 100000) (e_1 : p0_length.toInt ≤ (n_p0_code : Int)) (e_2 : n_t_heads < 100000) (e_3 : t_length.toInt ≤ (n_t_code : Int)) (e_4 : h0_world_force.toInt < h0_world_lawCount.toInt) (e_5 : f_h0_world_laws (Int32.toNatClampNeg h0_world_force) = some t) (e_6 : DI f_h0_diary_deed f_h0_diary_whose f_h0_diary_before f_h0_diary_bucketsBefore f_h0_diary_dayBefore) {Q : Int32 → (Int32 × Value × Value × Int32 × Int32 × Int32 × Int32 × (Nat → Int64) × Int32 × (Nat → Int32) × Int64 × (Nat → Int32) × (Nat → Int32) × (Nat → Int32) × (Nat → Int32) × Int32 × Int32 × (Nat → Int32) × (Nat → Int32) × (Nat → Int32) × (Nat → Int32) × (Nat → Int32)) → Prop} (hq : ∀ (r : Int32) (u_0 : Int32) (u_1 : Value) (u_2 : Value) (u_3 : Int32) (u_4 : Int32) (u_5 : Int32) (u_6 : Int32) (u_7 : Nat → Int64) (u_8 : Int32) (u_9 : Nat → Int32) (u_10 : Int64) (u_11 : Nat → Int32) (u_12 : Nat → Int32) (u_13 : Nat → Int32) (u_14 : Nat → Int32) (u_15 : Int32) (u_16 : Int32) (u_17 : Nat → Int32) (u_18 : Nat → Int32) (u_19 : Nat → Int32) (u_20 : Nat → Int32) (u_21 : Nat → Int32), (0 ≤ u_3.toInt ∧ u_3.toInt ≤ 39) ∧ (CO u_9) ∧ (WA u_11) ∧ (TE u_12) ∧ (CE u_13) ∧ (BU u_14) ∧ (0 ≤ u_15.toInt ∧ u_15.toInt ≤ 16) ∧ (0 ≤ u_16.toInt ∧ u_16.toInt ≤ 15) ∧ (DI u_17 u_18 u_19 u_20 u_21) → Q r (u_0, u_1, u_2, u_3, u_4, u_5, u_6, u_7, u_8, u_9, u_10, u_11, u_12, u_13, u_14, u_15, u_16, u_17, u_18, u_19, u_20, u_21)) : wp_X7_runOrder_T b h0_world h0_latest p0_length n_p0_heads f_p0_heads h0_asker_law h0_asker_cell h0_asker_shaft h0_asker_kind h0_asker_done h0_asker_latest h0_asker_value n_p0_code f_p0_code f_h0_asker_stack h0_world_lawCount h0_world_force h0_world_folk_listeners h0_world_folk_noises h0_world_folk_hushed f_h0_world_folk_column h0_world_rock_dug f_h0_world_rock_hard f_h0_world_rock_water f_h0_world_term h0_world_crew_count f_h0_world_crew_cell f_h0_world_crew_buckets f_h0_world_rock_kind f_h0_world_laws t t_clauses t_length n_t_heads f_t_heads n_t_code f_t_code h0_diary_kept h0_diary_latest f_h0_diary_deed f_h0_diary_whose f_h0_diary_before f_h0_diary_bucketsBefore f_h0_diary_dayBefore f_h0_world_folk_noiseColumn f_h0_world_folk_noiseLoud Q := by
  unfold wp_X7_runOrder_T
  have k1 : Int32.toInt 1 = 1 := rfl
  refine s_X8_headOfh b 1 n_p0_heads (f_p0_heads) ⟨by omega, by omega⟩ (by decide) h_f_p0_heads (by omega) (fun r2 H3 => ?_)
  have j4 := H3
  refine s_X0_reckon r2 h0_asker_cell h0_asker_shaft h0_asker_kind h0_asker_done h0_asker_latest h0_asker_value p0_length n_p0_code (f_p0_code) (f_h0_asker_stack) h0_world_folk_listeners (f_h0_world_folk_column) (f_h0_world_rock_hard) (f_h0_world_rock_water) (f_h0_world_term) h0_world_crew_count (f_h0_world_crew_cell) (f_h0_world_crew_buckets) ⟨by omega, by omega⟩ ⟨by omega, by omega⟩ h_f_p0_code ⟨by omega, by omega⟩ h_f_h0_world_folk_column h_f_h0_world_rock_hard h_f_h0_world_rock_water h_f_h0_world_term ⟨by omega, by omega⟩ h_f_h0_world_crew_cell h_f_h0_world_crew_buckets (by omega) (fun r5 u6_0 u6_1 H7 => ?_)
  have j8 := H7
  refine un2_i ?_
  by_cases c9 : r5 = 0
  · refine br1 c9 ?_
    have d10 := eq_z (a := r5) (b := 0) (x := (Int32.toInt r5)) (y := 0) rfl rfl c9
    have k11 : Int32.toInt 0 = 0 := rfl
    exact hq _ _ _ _ _ _ _ _ _ _ _ _ _ _ _ _ _ _ _ _ _ _ _ ⟨⟨by omega, by omega⟩, h_f_h0_world_folk_column, h_f_h0_world_rock_water, h_f_h0_world_term, h_f_h0_world_crew_cell, h_f_h0_world_crew_buckets, ⟨by omega, by omega⟩, ⟨by omega, by omega⟩, e_6⟩
  · refine br0 c9 ?_
    have d12 := ne_z (a := r5) (b := 0) (x := (Int32.toInt r5)) (y := 0) rfl rfl c9
    refine o_X0_reckoned _ _ ?_
    have k13 : Int32.toInt 0 = 0 := rfl
    refine s_X8_headOfh b 0 n_p0_heads (f_p0_heads) ⟨by omega, by omega⟩ (by decide) h_f_p0_heads (by omega) (fun r14 H15 => ?_)
    have j16 := H15
    by_cases c17 : r14 = 21
    · refine br1 c17 ?_
      have d18 := eq_z (a := r14) (b := 21) (x := (Int32.toInt r14)) (y := 21) rfl rfl c17
      refine s_X7_tryHush u6_0 h0_world_folk_noises h0_world_folk_hushed h0_diary_kept h0_diary_latest (f_h0_diary_deed) (f_h0_diary_whose) (f_h0_diary_before) (f_h0_diary_bucketsBefore) (f_h0_diary_dayBefore) (f_h0_world_folk_noiseColumn) (f_h0_world_folk_noiseLoud) ⟨by omega, by omega⟩ ⟨by omega, by omega⟩ ⟨by omega, by omega⟩ h_f_h0_world_folk_noiseColumn h_f_h0_world_folk_noiseLoud e_6 (fun r19 u20_0 u20_1 u20_2 u20_3 u20_4 u20_5 u20_6 u20_7 H21 => ?_)
      have j22 := H21.1
      have j23 := H21.2.1
      have j24 := H21.2.2.1
      have j25 := H21.2.2.2
      refine un8_i ?_
      by_cases c26 : r19 < 0
      · refine br1 c26 ?_
        have d27 := lt_z (a := r19) (b := 0) (x := (Int32.toInt r19)) (y := 0) rfl rfl c26
        exact hq _ _ _ _ _ _ _ _ _ _ _ _ _ _ _ _ _ _ _ _ _ _ _ ⟨⟨by omega, by omega⟩, h_f_h0_world_folk_column, h_f_h0_world_rock_water, h_f_h0_world_term, h_f_h0_world_crew_cell, h_f_h0_world_crew_buckets, ⟨by omega, by omega⟩, ⟨by omega, by omega⟩, j25⟩
      · refine br0 c26 ?_
        have d28 := nlt_z (a := r19) (b := 0) (x := (Int32.toInt r19)) (y := 0) rfl rfl c26
        exact hq _ _ _ _ _ _ _ _ _ _ _ _ _ _ _ _ _ _ _ _ _ _ _ ⟨⟨by omega, by omega⟩, h_f_h0_world_folk_column, h_f_h0_world_rock_water, h_f_h0_world_term, h_f_h0_world_crew_cell, h_f_h0_world_crew_buckets, ⟨by omega, by omega⟩, ⟨by omega, by omega⟩, j25⟩
    · refine br0 c17 ?_
      have d29 := ne_z (a := r14) (b := 21) (x := (Int32.toInt r14)) (y := 21) rfl rfl c17
      by_cases c30 : r14 = 20
      · refine br1 c30 ?_
        have d31 := eq_z (a := r14) (b := 20) (x := (Int32.toInt r14)) (y := 20) rfl rfl c30
        refine s_X7_tryHaul_T u6_0 h0_world h0_world_lawCount h0_world_force h0_world_crew_count (f_h0_world_crew_cell) (f_h0_world_term) (f_h0_world_rock_kind) (f_h0_world_laws) (.ref h0_world) h0_asker_law h0_asker_cell h0_asker_shaft h0_asker_kind h0_asker_done h0_asker_latest u6_0 t t_clauses t_length n_t_heads (f_t_heads) n_t_code (f_t_code) (u6_1) h0_world_folk_listeners (f_h0_world_folk_column) (f_h0_world_rock_hard) (f_h0_world_rock_water) (f_h0_world_crew_buckets) h0_diary_kept h0_diary_latest (f_h0_diary_deed) (f_h0_diary_whose) (f_h0_diary_before) (f_h0_diary_bucketsBefore) (f_h0_diary_dayBefore) ⟨by omega, by omega⟩ ⟨by omega, by omega⟩ ⟨by omega, by omega⟩ h_f_h0_world_crew_cell h_f_h0_world_term h_f_h0_world_rock_kind ⟨by omega, by omega⟩ ⟨by omega, by omega⟩ ⟨by omega, by omega⟩ h_f_t_code ⟨by omega, by omega⟩ h_f_h0_world_folk_column h_f_h0_world_rock_hard h_f_h0_world_rock_water h_f_h0_world_crew_buckets ⟨by omega, by omega⟩ ⟨by omega, by omega⟩ (by omega) (by omega) (by omega) (by assumption) e_6 (fun r32 u33_0 u33_1 u33_2 u33_3 u33_4 u33_5 u33_6 u33_7 u33_8 u33_9 u33_10 u33_11 u33_12 u33_13 u33_14 u33_15 u33_16 H34 => ?_)
        have j35 := H34.1
        have j36 := H34.2.1
        have j37 := H34.2.2.1
        have j38 := H34.2.2.2.1
        have j39 := H34.2.2.2.2.1
        have j40 := H34.2.2.2.2.2.1
        have j41 := H34.2.2.2.2.2.2.1
        have j42 := H34.2.2.2.2.2.2.2
        refine un17_i ?_
        by_cases c43 : r32 < 0
        · refine br1 c43 ?_
          have d44 := lt_z (a := r32) (b := 0) (x := (Int32.toInt r32)) (y := 0) rfl rfl c43
          exact hq _ _ _ _ _ _ _ _ _ _ _ _ _ _ _ _ _ _ _ _ _ _ _ ⟨⟨by omega, by omega⟩, h_f_h0_world_folk_column, j38, j36, h_f_h0_world_crew_cell, j39, ⟨by omega, by omega⟩, ⟨by omega, by omega⟩, j42⟩
        · refine br0 c43 ?_
          have d45 := nlt_z (a := r32) (b := 0) (x := (Int32.toInt r32)) (y := 0) rfl rfl c43
          exact hq _ _ _ _ _ _ _ _ _ _ _ _ _ _ _ _ _ _ _ _ _ _ _ ⟨⟨by omega, by omega⟩, h_f_h0_world_folk_column, j38, j36, h_f_h0_world_crew_cell, j39, ⟨by omega, by omega⟩, ⟨by omega, by omega⟩, j42⟩
      · refine br0 c30 ?_
        have d46 := ne_z (a := r14) (b := 20) (x := (Int32.toInt r14)) (y := 20) rfl rfl c30
        have k47 : Int32.toInt 2 = 2 := rfl
        refine s_X8_headOfh b 2 n_p0_heads (f_p0_heads) ⟨by omega, by omega⟩ (by decide) h_f_p0_heads (by omega) (fun r48 H49 => ?_)
        have j50 := H49
        refine s_X0_reckon r48 h0_asker_cell h0_asker_shaft h0_asker_kind h0_asker_done h0_asker_latest u6_0 p0_length n_p0_code (f_p0_code) (u6_1) h0_world_folk_listeners (f_h0_world_folk_column) (f_h0_world_rock_hard) (f_h0_world_rock_water) (f_h0_world_term) h0_world_crew_count (f_h0_world_crew_cell) (f_h0_world_crew_buckets) ⟨by omega, by omega⟩ ⟨by omega, by omega⟩ h_f_p0_code ⟨by omega, by omega⟩ h_f_h0_world_folk_column h_f_h0_world_rock_hard h_f_h0_world_rock_water h_f_h0_world_term ⟨by omega, by omega⟩ h_f_h0_world_crew_cell h_f_h0_world_crew_buckets (by omega) (fun r51 u52_0 u52_1 H53 => ?_)
        have j54 := H53
        refine un2_i ?_
        by_cases c55 : r51 = 0
        · refine br1 c55 ?_
          have d56 := eq_z (a := r51) (b := 0) (x := (Int32.toInt r51)) (y := 0) rfl rfl c55
          exact hq _ _ _ _ _ _ _ _ _ _ _ _ _ _ _ _ _ _ _ _ _ _ _ ⟨⟨by omega, by omega⟩, h_f_h0_world_folk_column, h_f_h0_world_rock_water, h_f_h0_world_term, h_f_h0_world_crew_cell, h_f_h0_world_crew_buckets, ⟨by omega, by omega⟩, ⟨by omega, by omega⟩, e_6⟩
        · refine br0 c55 ?_
          have d57 := ne_z (a := r51) (b := 0) (x := (Int32.toInt r51)) (y := 0) rfl rfl c55
          refine o_X0_reckoned _ _ ?_
          by_cases c58 : r14 = 22
          · refine br1 c58 ?_
            have d59 := eq_z (a := r14) (b := 22) (x := (Int32.toInt r14)) (y := 22) rfl rfl c58
            refine s_X7_tryLie u6_0 u52_0 h0_world_folk_listeners (f_h0_world_folk_column) h0_diary_kept h0_diary_latest (f_h0_diary_deed) (f_h0_diary_whose) (f_h0_diary_before) (f_h0_diary_bucketsBefore) (f_h0_diary_dayBefore) ⟨by omega, by omega⟩ h_f_h0_world_folk_column ⟨by omega, by omega⟩ ⟨by omega, by omega⟩ e_6 (fun r60 u61_0 u61_1 u61_2 u61_3 u61_4 u61_5 u61_6 u61_7 H62 => ?_)
            have j63 := H62.1
            have j64 := H62.2.1
            have j65 := H62.2.2.1
            have j66 := H62.2.2.2.1
            have j67 := H62.2.2.2.2
            refine un8_i ?_
            by_cases c68 : r60 < 0
            · refine br1 c68 ?_
              have d69 := lt_z (a := r60) (b := 0) (x := (Int32.toInt r60)) (y := 0) rfl rfl c68
              exact hq _ _ _ _ _ _ _ _ _ _ _ _ _ _ _ _ _ _ _ _ _ _ _ ⟨⟨by omega, by omega⟩, j64, h_f_h0_world_rock_water, h_f_h0_world_term, h_f_h0_world_crew_cell, h_f_h0_world_crew_buckets, ⟨by omega, by omega⟩, ⟨by omega, by omega⟩, j67⟩
            · refine br0 c68 ?_
              have d70 := nlt_z (a := r60) (b := 0) (x := (Int32.toInt r60)) (y := 0) rfl rfl c68
              exact hq _ _ _ _ _ _ _ _ _ _ _ _ _ _ _ _ _ _ _ _ _ _ _ ⟨⟨by omega, by omega⟩, j64, h_f_h0_world_rock_water, h_f_h0_world_term, h_f_h0_world_crew_cell, h_f_h0_world_crew_buckets, ⟨by omega, by omega⟩, ⟨by omega, by omega⟩, j67⟩
          · refine br0 c58 ?_
            have d71 := ne_z (a := r14) (b := 22) (x := (Int32.toInt r14)) (y := 22) rfl rfl c58
            refine s_X7_tryDig_T u6_0 u52_0 h0_world h0_world_lawCount h0_world_force h0_world_crew_count (f_h0_world_crew_cell) h0_world_rock_dug (f_h0_world_rock_kind) (f_h0_world_laws) (.ref h0_world) h0_asker_law h0_asker_cell h0_asker_shaft h0_asker_kind h0_asker_done h0_asker_latest u52_0 (f_h0_world_term) (f_h0_world_rock_hard) t t_clauses t_length n_t_heads (f_t_heads) n_t_code (f_t_code) (u52_1) h0_world_folk_listeners (f_h0_world_folk_column) (f_h0_world_rock_water) (f_h0_world_crew_buckets) h0_diary_kept h0_diary_latest (f_h0_diary_deed) (f_h0_diary_whose) (f_h0_diary_before) (f_h0_diary_bucketsBefore) (f_h0_diary_dayBefore) ⟨by omega, by omega⟩ ⟨by omega, by omega⟩ ⟨by omega, by omega⟩ h_f_h0_world_crew_cell h_f_h0_world_rock_kind ⟨by omega, by omega⟩ h_f_h0_world_term h_f_h0_world_rock_hard ⟨by omega, by omega⟩ ⟨by omega, by omega⟩ h_f_t_code ⟨by omega, by omega⟩ h_f_h0_world_folk_column h_f_h0_world_rock_water h_f_h0_world_crew_buckets ⟨by omega, by omega⟩ ⟨by omega, by omega⟩ (by omega) (by omega) (by omega) (by assumption) e_6 (fun r72 u73_0 u73_1 u73_2 u73_3 u73_4 u73_5 u73_6 u73_7 u73_8 u73_9 u73_10 u73_11 u73_12 u73_13 u73_14 u73_15 u73_16 H74 => ?_)
            have j75 := H74.1
            have j76 := H74.2.1
            have j77 := H74.2.2.1
            have j78 := H74.2.2.2.1
            have j79 := H74.2.2.2.2.1
            have j80 := H74.2.2.2.2.2.1
            have j81 := H74.2.2.2.2.2.2
            refine un17_i ?_
            by_cases c82 : r72 < 0
            · refine br1 c82 ?_
              have d83 := lt_z (a := r72) (b := 0) (x := (Int32.toInt r72)) (y := 0) rfl rfl c82
              exact hq _ _ _ _ _ _ _ _ _ _ _ _ _ _ _ _ _ _ _ _ _ _ _ ⟨⟨by omega, by omega⟩, h_f_h0_world_folk_column, h_f_h0_world_rock_water, j78, j76, h_f_h0_world_crew_buckets, ⟨by omega, by omega⟩, ⟨by omega, by omega⟩, j81⟩
            · refine br0 c82 ?_
              have d84 := nlt_z (a := r72) (b := 0) (x := (Int32.toInt r72)) (y := 0) rfl rfl c82
              exact hq _ _ _ _ _ _ _ _ _ _ _ _ _ _ _ _ _ _ _ _ _ _ _ ⟨⟨by omega, by omega⟩, h_f_h0_world_folk_column, h_f_h0_world_rock_water, j78, j76, h_f_h0_world_crew_buckets, ⟨by omega, by omega⟩, ⟨by omega, by omega⟩, j81⟩


set_option maxRecDepth 100000 in
theorem sl_X7_runOrders_N_38 (h0_world : Nat) (p0_length : Int32) (n_p0_heads : Nat) (f_p0_heads : Nat → Int32) (n_p0_code : Nat) (f_p0_code : Nat → Int32) (h0_world_lawCount : Int32) (h0_world_force : Int32) (h0_world_folk_listeners : Int32) (h0_world_folk_noises : Int32) (f_h0_world_rock_hard : Nat → Int32) (h0_world_crew_count : Int32) (f_h0_world_rock_kind : Nat → Int32) (f_h0_world_laws : Nat → Option Nat) (f_h0_world_folk_noiseColumn : Nat → Int32) (f_h0_world_folk_noiseLoud : Nat → Int32) (x_12_0 : Int32) (r_23 : Int32) (r_30 : Int32) (h_p0_length : 0 ≤ p0_length.toInt ∧ p0_length.toInt ≤ 400) (h_f_p0_heads : HD f_p0_heads) (h_f_p0_code : CD f_p0_code) (h_h0_world_lawCount : 0 ≤ h0_world_lawCount.toInt ∧ h0_world_lawCount.toInt ≤ 6) (h_h0_world_force : (-1) ≤ h0_world_force.toInt ∧ h0_world_force.toInt ≤ (-1)) (h_h0_world_folk_listeners : 0 ≤ h0_world_folk_listeners.toInt ∧ h0_world_folk_listeners.toInt ≤ 5) (h_h0_world_folk_noises : 0 ≤ h0_world_folk_noises.toInt ∧ h0_world_folk_noises.toInt ≤ 6) (h_f_h0_world_rock_hard : HA f_h0_world_rock_hard) (h_h0_world_crew_count : 0 ≤ h0_world_crew_count.toInt ∧ h0_world_crew_count.toInt ≤ 6) (h_f_h0_world_rock_kind : KI f_h0_world_rock_kind) (h_f_h0_world_folk_noiseColumn : NC f_h0_world_folk_noiseColumn) (h_f_h0_world_folk_noiseLoud : NL f_h0_world_folk_noiseLoud) (h_x_12_0 : 0 ≤ x_12_0.toInt ∧ x_12_0.toInt ≤ 11) (z23 : r_23.toInt ≤ 20) (z_n_p0_heads : n_p0_heads < 100000) (z_n_p0_code : p0_length.toInt ≤ (n_p0_code : Int)) {Q : Int32 → (Int32 × Int32 × Value × Value × Int32 × Int32 × Int32 × Int32 × Int32 × Int32 × (Nat → Int64) × Int32 × (Nat → Int32) × Int64 × (Nat → Int32) × (Nat → Int32) × (Nat → Int32) × (Nat → Int32) × Int32 × Int32 × (Nat → Int32) × (Nat → Int32) × (Nat → Int32) × (Nat → Int32) × (Nat → Int32)) → Prop} (hq : ∀ (r : Int32) (u_0 : Int32) (u_1 : Int32) (u_2 : Value) (u_3 : Value) (u_4 : Int32) (u_5 : Int32) (u_6 : Int32) (u_7 : Int32) (u_8 : Int32) (u_9 : Int32) (u_10 : Nat → Int64) (u_11 : Int32) (u_12 : Nat → Int32) (u_13 : Int64) (u_14 : Nat → Int32) (u_15 : Nat → Int32) (u_16 : Nat → Int32) (u_17 : Nat → Int32) (u_18 : Int32) (u_19 : Int32) (u_20 : Nat → Int32) (u_21 : Nat → Int32) (u_22 : Nat → Int32) (u_23 : Nat → Int32) (u_24 : Nat → Int32), (0 ≤ u_0.toInt ∧ u_0.toInt ≤ 240) ∧ (0 ≤ u_4.toInt ∧ u_4.toInt ≤ 39) ∧ (CO u_12) ∧ (WA u_14) ∧ (TE u_15) ∧ (CE u_16) ∧ (BU u_17) ∧ (0 ≤ u_18.toInt ∧ u_18.toInt ≤ 16) ∧ (0 ≤ u_19.toInt ∧ u_19.toInt ≤ 15) ∧ (DI u_20 u_21 u_22 u_23 u_24) → Q r (u_0, u_1, u_2, u_3, u_4, u_5, u_6, u_7, u_8, u_9, u_10, u_11, u_12, u_13, u_14, u_15, u_16, u_17, u_18, u_19, u_20, u_21, u_22, u_23, u_24)) (Qb : Int32 → Int32 → Int32 → Value → Value → Int32 → Int32 → Int32 → Int32 → Int32 → Int32 → (Nat → Int64) → Int32 → (Nat → Int32) → Int64 → (Nat → Int32) → (Nat → Int32) → (Nat → Int32) → (Nat → Int32) → Int32 → Int32 → (Nat → Int32) → (Nat → Int32) → (Nat → Int32) → (Nat → Int32) → (Nat → Int32) → Prop) (KX : ∀ (x_38_0 : Int32) (x_38_1 : Int32) (x_38_2 : Int32) (x_38_3 : Value) (x_38_4 : Value) (x_38_5 : Int32) (x_38_6 : Int32) (x_38_7 : Int32) (x_38_8 : Int32) (x_38_9 : Int32) (x_38_10 : Int32) (x_38_11 : Nat → Int64) (x_38_12 : Int32) (x_38_13 : Nat → Int32) (x_38_14 : Int64) (x_38_15 : Nat → Int32) (x_38_16 : Nat → Int32) (x_38_17 : Nat → Int32) (x_38_18 : Nat → Int32) (x_38_19 : Int32) (x_38_20 : Int32) (x_38_21 : Nat → Int32) (x_38_22 : Nat → Int32) (x_38_23 : Nat → Int32) (x_38_24 : Nat → Int32) (x_38_25 : Nat → Int32), (0 ≤ x_38_0.toInt ∧ x_38_0.toInt ≤ 20) ∧ (0 ≤ x_38_1.toInt ∧ x_38_1.toInt ≤ 240) ∧ (0 ≤ x_38_5.toInt ∧ x_38_5.toInt ≤ 39) ∧ (CO x_38_13) ∧ (WA x_38_15) ∧ (TE x_38_16) ∧ (CE x_38_17) ∧ (BU x_38_18) ∧ (0 ≤ x_38_19.toInt ∧ x_38_19.toInt ≤ 16) ∧ (0 ≤ x_38_20.toInt ∧ x_38_20.toInt ≤ 15) ∧ (DI x_38_21 x_38_22 x_38_23 x_38_24 x_38_25) ∧ (x_38_1.toInt ≤ 20 * x_12_0.toInt + x_38_0.toInt) → Qb x_38_0 x_38_1 x_38_2 x_38_3 x_38_4 x_38_5 x_38_6 x_38_7 x_38_8 x_38_9 x_38_10 x_38_11 x_38_12 x_38_13 x_38_14 x_38_15 x_38_16 x_38_17 x_38_18 x_38_19 x_38_20 x_38_21 x_38_22 x_38_23 x_38_24 x_38_25) : ∀ (n : Nat) (x_38_0 : Int32) (x_38_1 : Int32) (x_38_2 : Int32) (x_38_3 : Value) (x_38_4 : Value) (x_38_5 : Int32) (x_38_6 : Int32) (x_38_7 : Int32) (x_38_8 : Int32) (x_38_9 : Int32) (x_38_10 : Int32) (x_38_11 : Nat → Int64) (x_38_12 : Int32) (x_38_13 : Nat → Int32) (x_38_14 : Int64) (x_38_15 : Nat → Int32) (x_38_16 : Nat → Int32) (x_38_17 : Nat → Int32) (x_38_18 : Nat → Int32) (x_38_19 : Int32) (x_38_20 : Int32) (x_38_21 : Nat → Int32) (x_38_22 : Nat → Int32) (x_38_23 : Nat → Int32) (x_38_24 : Nat → Int32) (x_38_25 : Nat → Int32), (0 ≤ x_38_0.toInt ∧ x_38_0.toInt ≤ 20) ∧ (0 ≤ x_38_1.toInt ∧ x_38_1.toInt ≤ 240) ∧ (0 ≤ x_38_5.toInt ∧ x_38_5.toInt ≤ 39) ∧ (CO x_38_13) ∧ (WA x_38_15) ∧ (TE x_38_16) ∧ (CE x_38_17) ∧ (BU x_38_18) ∧ (0 ≤ x_38_19.toInt ∧ x_38_19.toInt ≤ 16) ∧ (0 ≤ x_38_20.toInt ∧ x_38_20.toInt ≤ 15) ∧ (DI x_38_21 x_38_22 x_38_23 x_38_24 x_38_25) ∧ (x_38_1.toInt ≤ 20 * x_12_0.toInt + x_38_0.toInt) → 21 - x_38_0.toInt < (n : Int) → wl_X7_runOrders_N_38 h0_world p0_length n_p0_heads f_p0_heads n_p0_code f_p0_code h0_world_lawCount h0_world_force h0_world_folk_listeners h0_world_folk_noises f_h0_world_rock_hard h0_world_crew_count f_h0_world_rock_kind f_h0_world_laws f_h0_world_folk_noiseColumn f_h0_world_folk_noiseLoud x_12_0 r_23 r_30 Q Qb n x_38_0 x_38_1 x_38_2 x_38_3 x_38_4 x_38_5 x_38_6 x_38_7 x_38_8 x_38_9 x_38_10 x_38_11 x_38_12 x_38_13 x_38_14 x_38_15 x_38_16 x_38_17 x_38_18 x_38_19 x_38_20 x_38_21 x_38_22 x_38_23 x_38_24 x_38_25 := by
  intro n
  induction n with
  | zero =>
    intro x_38_0 x_38_1 x_38_2 x_38_3 x_38_4 x_38_5 x_38_6 x_38_7 x_38_8 x_38_9 x_38_10 x_38_11 x_38_12 x_38_13 x_38_14 x_38_15 x_38_16 x_38_17 x_38_18 x_38_19 x_38_20 x_38_21 x_38_22 x_38_23 x_38_24 x_38_25 hI hm
    exfalso; have hm : 21 - x_38_0.toInt < 0 := hm; omega
  | succ n ih =>
    intro x_38_0 x_38_1 x_38_2 x_38_3 x_38_4 x_38_5 x_38_6 x_38_7 x_38_8 x_38_9 x_38_10 x_38_11 x_38_12 x_38_13 x_38_14 x_38_15 x_38_16 x_38_17 x_38_18 x_38_19 x_38_20 x_38_21 x_38_22 x_38_23 x_38_24 x_38_25 hI hm
    have hm : 21 - x_38_0.toInt < (n : Int) + 1 := by simpa using hm
    have h_x_38_0 := hI.1
    have h_x_38_1 := hI.2.1
    have h_x_38_5 := hI.2.2.1
    have h_x_38_13 := hI.2.2.2.1
    have h_x_38_15 := hI.2.2.2.2.1
    have h_x_38_16 := hI.2.2.2.2.2.1
    have h_x_38_17 := hI.2.2.2.2.2.2.1
    have h_x_38_18 := hI.2.2.2.2.2.2.2.1
    have h_x_38_19 := hI.2.2.2.2.2.2.2.2.1
    have h_x_38_20 := hI.2.2.2.2.2.2.2.2.2.1
    have h_rel0 := hI.2.2.2.2.2.2.2.2.2.2.1
    have h_rel1 := hI.2.2.2.2.2.2.2.2.2.2.2
    unfold wl_X7_runOrders_N_38
    by_cases c12 : r_23 ≤ x_38_0
    · refine br1 c12 ?_
      have d13 := le_z (a := r_23) (b := x_38_0) (x := (Int32.toInt r_23)) (y := (Int32.toInt x_38_0)) rfl rfl c12
      exact KX _ _ _ _ _ _ _ _ _ _ _ _ _ _ _ _ _ _ _ _ _ _ _ _ _ _ ⟨⟨by omega, by omega⟩, ⟨by omega, by omega⟩, ⟨by omega, by omega⟩, h_x_38_13, h_x_38_15, h_x_38_16, h_x_38_17, h_x_38_18, ⟨by omega, by omega⟩, ⟨by omega, by omega⟩, h_rel0, (by omega)⟩
    · refine br0 c12 ?_
      have d14 := nle_z (a := r_23) (b := x_38_0) (x := (Int32.toInt r_23)) (y := (Int32.toInt x_38_0)) rfl rfl c12
      refine o_X0_turnToOrders _ _ _ ?_
      refine un2_i ?_
      refine jn_s ?_
      by_cases c15 : r_30 = (-1)
      · refine br1 c15 ?_
        have d16 := eq_z (a := r_30) (b := (-1)) (x := (Int32.toInt r_30)) (y := (-1)) rfl (by decide) c15
        refine un2_i ?_
        refine s_X7_runOrder_N x_12_0 h0_world x_38_2 p0_length n_p0_heads (f_p0_heads) x_38_4 x_38_5 x_38_6 x_38_7 x_38_1 x_38_2 x_38_10 n_p0_code (f_p0_code) (x_38_11) h0_world_lawCount h0_world_force h0_world_folk_listeners h0_world_folk_noises x_38_12 (x_38_13) x_38_14 (f_h0_world_rock_hard) (x_38_15) (x_38_16) h0_world_crew_count (x_38_17) (x_38_18) (f_h0_world_rock_kind) (f_h0_world_laws) x_38_19 x_38_20 (x_38_21) (x_38_22) (x_38_23) (x_38_24) (x_38_25) (f_h0_world_folk_noiseColumn) (f_h0_world_folk_noiseLoud) ⟨by omega, by omega⟩ ⟨by omega, by omega⟩ h_f_p0_heads ⟨by omega, by omega⟩ h_f_p0_code ⟨by omega, by omega⟩ ⟨by omega, by omega⟩ ⟨by omega, by omega⟩ ⟨by omega, by omega⟩ h_x_38_13 h_f_h0_world_rock_hard h_x_38_15 h_x_38_16 ⟨by omega, by omega⟩ h_x_38_17 h_x_38_18 h_f_h0_world_rock_kind ⟨by omega, by omega⟩ ⟨by omega, by omega⟩ h_f_h0_world_folk_noiseColumn h_f_h0_world_folk_noiseLoud (by omega) (by omega) h_rel0 (fun r17 u18_0 u18_1 u18_2 u18_3 u18_4 u18_5 u18_6 u18_7 u18_8 u18_9 u18_10 u18_11 u18_12 u18_13 u18_14 u18_15 u18_16 u18_17 u18_18 u18_19 u18_20 u18_21 H19 => ?_)
        have j20 := H19.1
        have j21 := H19.2.1
        have j22 := H19.2.2.1
        have j23 := H19.2.2.2.1
        have j24 := H19.2.2.2.2.1
        have j25 := H19.2.2.2.2.2.1
        have j26 := H19.2.2.2.2.2.2.1
        have j27 := H19.2.2.2.2.2.2.2.1
        have j28 := H19.2.2.2.2.2.2.2.2
        refine un22_i ?_
        by_cases c29 : r17 = 0
        · refine br1 c29 ?_
          have d30 := eq_z (a := r17) (b := 0) (x := (Int32.toInt r17)) (y := 0) rfl rfl c29
          exact hq _ _ _ _ _ _ _ _ _ _ _ _ _ _ _ _ _ _ _ _ _ _ _ _ _ _ ⟨⟨by omega, by omega⟩, ⟨by omega, by omega⟩, j21, j22, j23, j24, j25, ⟨by omega, by omega⟩, ⟨by omega, by omega⟩, j28⟩
        · refine br0 c29 ?_
          have d31 := ne_z (a := r17) (b := 0) (x := (Int32.toInt r17)) (y := 0) rfl rfl c29
          have t32 : (Int32.toInt (x_38_0 + 1)) = (Int32.toInt x_38_0) + 1 := add_z rfl rfl (by omega) (by omega)
          have t33 : (Int32.toInt (x_38_1 + 1)) = (Int32.toInt x_38_1) + 1 := add_z rfl rfl (by omega) (by omega)
          exact ih _ _ _ _ _ _ _ _ _ _ _ _ _ _ _ _ _ _ _ _ _ _ _ _ _ _ ⟨⟨by omega, by omega⟩, ⟨by omega, by omega⟩, ⟨by omega, by omega⟩, j21, j22, j23, j24, j25, ⟨by omega, by omega⟩, ⟨by omega, by omega⟩, j28, (by omega)⟩ (by omega)
      · refine br0 c15 ?_
        have d34 := ne_z (a := r_30) (b := (-1)) (x := (Int32.toInt r_30)) (y := (-1)) rfl (by decide) c15
        refine s_X0_reckon r_30 x_38_5 x_38_6 x_38_7 x_38_1 x_38_2 x_38_10 p0_length n_p0_code (f_p0_code) (x_38_11) h0_world_folk_listeners (x_38_13) (f_h0_world_rock_hard) (x_38_15) (x_38_16) h0_world_crew_count (x_38_17) (x_38_18) ⟨by omega, by omega⟩ ⟨by omega, by omega⟩ h_f_p0_code ⟨by omega, by omega⟩ h_x_38_13 h_f_h0_world_rock_hard h_x_38_15 h_x_38_16 ⟨by omega, by omega⟩ h_x_38_17 h_x_38_18 (by omega) (fun r35 u36_0 u36_1 H37 => ?_)
        have j38 := H37
        refine un2_i ?_
        by_cases c39 : r35 = 0
        · refine br1 c39 ?_
          have d40 := eq_z (a := r35) (b := 0) (x := (Int32.toInt r35)) (y := 0) rfl rfl c39
          have t41 : (Int32.toInt (x_38_0 + 1)) = (Int32.toInt x_38_0) + 1 := add_z rfl rfl (by omega) (by omega)
          exact ih _ _ _ _ _ _ _ _ _ _ _ _ _ _ _ _ _ _ _ _ _ _ _ _ _ _ ⟨⟨by omega, by omega⟩, ⟨by omega, by omega⟩, ⟨by omega, by omega⟩, h_x_38_13, h_x_38_15, h_x_38_16, h_x_38_17, h_x_38_18, ⟨by omega, by omega⟩, ⟨by omega, by omega⟩, h_rel0, (by omega)⟩ (by omega)
        · refine br0 c39 ?_
          have d42 := ne_z (a := r35) (b := 0) (x := (Int32.toInt r35)) (y := 0) rfl rfl c39
          refine o_X0_reckoned _ _ ?_
          by_cases c43 : u36_0 = 1
          · refine br1 c43 ?_
            have d44 := eq_z (a := u36_0) (b := 1) (x := (Int32.toInt u36_0)) (y := 1) rfl rfl c43
            refine un2_i ?_
            refine s_X7_runOrder_N x_12_0 h0_world x_38_2 p0_length n_p0_heads (f_p0_heads) x_38_4 x_38_5 x_38_6 x_38_7 x_38_1 x_38_2 u36_0 n_p0_code (f_p0_code) (u36_1) h0_world_lawCount h0_world_force h0_world_folk_listeners h0_world_folk_noises x_38_12 (x_38_13) x_38_14 (f_h0_world_rock_hard) (x_38_15) (x_38_16) h0_world_crew_count (x_38_17) (x_38_18) (f_h0_world_rock_kind) (f_h0_world_laws) x_38_19 x_38_20 (x_38_21) (x_38_22) (x_38_23) (x_38_24) (x_38_25) (f_h0_world_folk_noiseColumn) (f_h0_world_folk_noiseLoud) ⟨by omega, by omega⟩ ⟨by omega, by omega⟩ h_f_p0_heads ⟨by omega, by omega⟩ h_f_p0_code ⟨by omega, by omega⟩ ⟨by omega, by omega⟩ ⟨by omega, by omega⟩ ⟨by omega, by omega⟩ h_x_38_13 h_f_h0_world_rock_hard h_x_38_15 h_x_38_16 ⟨by omega, by omega⟩ h_x_38_17 h_x_38_18 h_f_h0_world_rock_kind ⟨by omega, by omega⟩ ⟨by omega, by omega⟩ h_f_h0_world_folk_noiseColumn h_f_h0_world_folk_noiseLoud (by omega) (by omega) h_rel0 (fun r45 u46_0 u46_1 u46_2 u46_3 u46_4 u46_5 u46_6 u46_7 u46_8 u46_9 u46_10 u46_11 u46_12 u46_13 u46_14 u46_15 u46_16 u46_17 u46_18 u46_19 u46_20 u46_21 H47 => ?_)
            have j48 := H47.1
            have j49 := H47.2.1
            have j50 := H47.2.2.1
            have j51 := H47.2.2.2.1
            have j52 := H47.2.2.2.2.1
            have j53 := H47.2.2.2.2.2.1
            have j54 := H47.2.2.2.2.2.2.1
            have j55 := H47.2.2.2.2.2.2.2.1
            have j56 := H47.2.2.2.2.2.2.2.2
            refine un22_i ?_
            by_cases c57 : r45 = 0
            · refine br1 c57 ?_
              have d58 := eq_z (a := r45) (b := 0) (x := (Int32.toInt r45)) (y := 0) rfl rfl c57
              exact hq _ _ _ _ _ _ _ _ _ _ _ _ _ _ _ _ _ _ _ _ _ _ _ _ _ _ ⟨⟨by omega, by omega⟩, ⟨by omega, by omega⟩, j49, j50, j51, j52, j53, ⟨by omega, by omega⟩, ⟨by omega, by omega⟩, j56⟩
            · refine br0 c57 ?_
              have d59 := ne_z (a := r45) (b := 0) (x := (Int32.toInt r45)) (y := 0) rfl rfl c57
              have t60 : (Int32.toInt (x_38_0 + 1)) = (Int32.toInt x_38_0) + 1 := add_z rfl rfl (by omega) (by omega)
              have t61 : (Int32.toInt (x_38_1 + 1)) = (Int32.toInt x_38_1) + 1 := add_z rfl rfl (by omega) (by omega)
              exact ih _ _ _ _ _ _ _ _ _ _ _ _ _ _ _ _ _ _ _ _ _ _ _ _ _ _ ⟨⟨by omega, by omega⟩, ⟨by omega, by omega⟩, ⟨by omega, by omega⟩, j49, j50, j51, j52, j53, ⟨by omega, by omega⟩, ⟨by omega, by omega⟩, j56, (by omega)⟩ (by omega)
          · refine br0 c43 ?_
            have d62 := ne_z (a := u36_0) (b := 1) (x := (Int32.toInt u36_0)) (y := 1) rfl rfl c43
            have t63 : (Int32.toInt (x_38_0 + 1)) = (Int32.toInt x_38_0) + 1 := add_z rfl rfl (by omega) (by omega)
            exact ih _ _ _ _ _ _ _ _ _ _ _ _ _ _ _ _ _ _ _ _ _ _ _ _ _ _ ⟨⟨by omega, by omega⟩, ⟨by omega, by omega⟩, ⟨by omega, by omega⟩, h_x_38_13, h_x_38_15, h_x_38_16, h_x_38_17, h_x_38_18, ⟨by omega, by omega⟩, ⟨by omega, by omega⟩, h_rel0, (by omega)⟩ (by omega)
set_option maxRecDepth 100000 in
theorem sl_X7_runOrders_N_12 (h0_world : Nat) (p0_clauses : Int32) (p0_length : Int32) (n_p0_heads : Nat) (f_p0_heads : Nat → Int32) (n_p0_code : Nat) (f_p0_code : Nat → Int32) (h0_world_lawCount : Int32) (h0_world_force : Int32) (h0_world_folk_listeners : Int32) (h0_world_folk_noises : Int32) (f_h0_world_rock_hard : Nat → Int32) (h0_world_crew_count : Int32) (f_h0_world_rock_kind : Nat → Int32) (f_h0_world_laws : Nat → Option Nat) (f_h0_world_folk_noiseColumn : Nat → Int32) (f_h0_world_folk_noiseLoud : Nat → Int32) (h_p0_clauses : 0 ≤ p0_clauses.toInt ∧ p0_clauses.toInt ≤ 12) (h_p0_length : 0 ≤ p0_length.toInt ∧ p0_length.toInt ≤ 400) (h_f_p0_heads : HD f_p0_heads) (h_f_p0_code : CD f_p0_code) (h_h0_world_lawCount : 0 ≤ h0_world_lawCount.toInt ∧ h0_world_lawCount.toInt ≤ 6) (h_h0_world_force : (-1) ≤ h0_world_force.toInt ∧ h0_world_force.toInt ≤ (-1)) (h_h0_world_folk_listeners : 0 ≤ h0_world_folk_listeners.toInt ∧ h0_world_folk_listeners.toInt ≤ 5) (h_h0_world_folk_noises : 0 ≤ h0_world_folk_noises.toInt ∧ h0_world_folk_noises.toInt ≤ 6) (h_f_h0_world_rock_hard : HA f_h0_world_rock_hard) (h_h0_world_crew_count : 0 ≤ h0_world_crew_count.toInt ∧ h0_world_crew_count.toInt ≤ 6) (h_f_h0_world_rock_kind : KI f_h0_world_rock_kind) (h_f_h0_world_folk_noiseColumn : NC f_h0_world_folk_noiseColumn) (h_f_h0_world_folk_noiseLoud : NL f_h0_world_folk_noiseLoud) (z_n_p0_heads : n_p0_heads < 100000) (z_n_p0_code : p0_length.toInt ≤ (n_p0_code : Int)) {Q : Int32 → (Int32 × Int32 × Value × Value × Int32 × Int32 × Int32 × Int32 × Int32 × Int32 × (Nat → Int64) × Int32 × (Nat → Int32) × Int64 × (Nat → Int32) × (Nat → Int32) × (Nat → Int32) × (Nat → Int32) × Int32 × Int32 × (Nat → Int32) × (Nat → Int32) × (Nat → Int32) × (Nat → Int32) × (Nat → Int32)) → Prop} (hq : ∀ (r : Int32) (u_0 : Int32) (u_1 : Int32) (u_2 : Value) (u_3 : Value) (u_4 : Int32) (u_5 : Int32) (u_6 : Int32) (u_7 : Int32) (u_8 : Int32) (u_9 : Int32) (u_10 : Nat → Int64) (u_11 : Int32) (u_12 : Nat → Int32) (u_13 : Int64) (u_14 : Nat → Int32) (u_15 : Nat → Int32) (u_16 : Nat → Int32) (u_17 : Nat → Int32) (u_18 : Int32) (u_19 : Int32) (u_20 : Nat → Int32) (u_21 : Nat → Int32) (u_22 : Nat → Int32) (u_23 : Nat → Int32) (u_24 : Nat → Int32), (0 ≤ u_0.toInt ∧ u_0.toInt ≤ 240) ∧ (0 ≤ u_4.toInt ∧ u_4.toInt ≤ 39) ∧ (CO u_12) ∧ (WA u_14) ∧ (TE u_15) ∧ (CE u_16) ∧ (BU u_17) ∧ (0 ≤ u_18.toInt ∧ u_18.toInt ≤ 16) ∧ (0 ≤ u_19.toInt ∧ u_19.toInt ≤ 15) ∧ (DI u_20 u_21 u_22 u_23 u_24) → Q r (u_0, u_1, u_2, u_3, u_4, u_5, u_6, u_7, u_8, u_9, u_10, u_11, u_12, u_13, u_14, u_15, u_16, u_17, u_18, u_19, u_20, u_21, u_22, u_23, u_24)) (Qb : Int32 → Int32 → Int32 → Value → Value → Int32 → Int32 → Int32 → Int32 → Int32 → Int32 → (Nat → Int64) → Int32 → (Nat → Int32) → Int64 → (Nat → Int32) → (Nat → Int32) → (Nat → Int32) → (Nat → Int32) → Int32 → Int32 → (Nat → Int32) → (Nat → Int32) → (Nat → Int32) → (Nat → Int32) → (Nat → Int32) → Prop) (KX : ∀ (x_12_0 : Int32) (x_12_1 : Int32) (x_12_2 : Int32) (x_12_3 : Value) (x_12_4 : Value) (x_12_5 : Int32) (x_12_6 : Int32) (x_12_7 : Int32) (x_12_8 : Int32) (x_12_9 : Int32) (x_12_10 : Int32) (x_12_11 : Nat → Int64) (x_12_12 : Int32) (x_12_13 : Nat → Int32) (x_12_14 : Int64) (x_12_15 : Nat → Int32) (x_12_16 : Nat → Int32) (x_12_17 : Nat → Int32) (x_12_18 : Nat → Int32) (x_12_19 : Int32) (x_12_20 : Int32) (x_12_21 : Nat → Int32) (x_12_22 : Nat → Int32) (x_12_23 : Nat → Int32) (x_12_24 : Nat → Int32) (x_12_25 : Nat → Int32), (0 ≤ x_12_0.toInt ∧ x_12_0.toInt ≤ 12) ∧ (0 ≤ x_12_1.toInt ∧ x_12_1.toInt ≤ 240) ∧ (0 ≤ x_12_5.toInt ∧ x_12_5.toInt ≤ 39) ∧ (CO x_12_13) ∧ (WA x_12_15) ∧ (TE x_12_16) ∧ (CE x_12_17) ∧ (BU x_12_18) ∧ (0 ≤ x_12_19.toInt ∧ x_12_19.toInt ≤ 16) ∧ (0 ≤ x_12_20.toInt ∧ x_12_20.toInt ≤ 15) ∧ (DI x_12_21 x_12_22 x_12_23 x_12_24 x_12_25) ∧ (x_12_1.toInt ≤ 20 * x_12_0.toInt) → Qb x_12_0 x_12_1 x_12_2 x_12_3 x_12_4 x_12_5 x_12_6 x_12_7 x_12_8 x_12_9 x_12_10 x_12_11 x_12_12 x_12_13 x_12_14 x_12_15 x_12_16 x_12_17 x_12_18 x_12_19 x_12_20 x_12_21 x_12_22 x_12_23 x_12_24 x_12_25) : ∀ (n : Nat) (x_12_0 : Int32) (x_12_1 : Int32) (x_12_2 : Int32) (x_12_3 : Value) (x_12_4 : Value) (x_12_5 : Int32) (x_12_6 : Int32) (x_12_7 : Int32) (x_12_8 : Int32) (x_12_9 : Int32) (x_12_10 : Int32) (x_12_11 : Nat → Int64) (x_12_12 : Int32) (x_12_13 : Nat → Int32) (x_12_14 : Int64) (x_12_15 : Nat → Int32) (x_12_16 : Nat → Int32) (x_12_17 : Nat → Int32) (x_12_18 : Nat → Int32) (x_12_19 : Int32) (x_12_20 : Int32) (x_12_21 : Nat → Int32) (x_12_22 : Nat → Int32) (x_12_23 : Nat → Int32) (x_12_24 : Nat → Int32) (x_12_25 : Nat → Int32), (0 ≤ x_12_0.toInt ∧ x_12_0.toInt ≤ 12) ∧ (0 ≤ x_12_1.toInt ∧ x_12_1.toInt ≤ 240) ∧ (0 ≤ x_12_5.toInt ∧ x_12_5.toInt ≤ 39) ∧ (CO x_12_13) ∧ (WA x_12_15) ∧ (TE x_12_16) ∧ (CE x_12_17) ∧ (BU x_12_18) ∧ (0 ≤ x_12_19.toInt ∧ x_12_19.toInt ≤ 16) ∧ (0 ≤ x_12_20.toInt ∧ x_12_20.toInt ≤ 15) ∧ (DI x_12_21 x_12_22 x_12_23 x_12_24 x_12_25) ∧ (x_12_1.toInt ≤ 20 * x_12_0.toInt) → 13 - x_12_0.toInt < (n : Int) → wl_X7_runOrders_N_12 h0_world p0_clauses p0_length n_p0_heads f_p0_heads n_p0_code f_p0_code h0_world_lawCount h0_world_force h0_world_folk_listeners h0_world_folk_noises f_h0_world_rock_hard h0_world_crew_count f_h0_world_rock_kind f_h0_world_laws f_h0_world_folk_noiseColumn f_h0_world_folk_noiseLoud Q Qb n x_12_0 x_12_1 x_12_2 x_12_3 x_12_4 x_12_5 x_12_6 x_12_7 x_12_8 x_12_9 x_12_10 x_12_11 x_12_12 x_12_13 x_12_14 x_12_15 x_12_16 x_12_17 x_12_18 x_12_19 x_12_20 x_12_21 x_12_22 x_12_23 x_12_24 x_12_25 := by
  intro n
  induction n with
  | zero =>
    intro x_12_0 x_12_1 x_12_2 x_12_3 x_12_4 x_12_5 x_12_6 x_12_7 x_12_8 x_12_9 x_12_10 x_12_11 x_12_12 x_12_13 x_12_14 x_12_15 x_12_16 x_12_17 x_12_18 x_12_19 x_12_20 x_12_21 x_12_22 x_12_23 x_12_24 x_12_25 hI hm
    exfalso; have hm : 13 - x_12_0.toInt < 0 := hm; omega
  | succ n ih =>
    intro x_12_0 x_12_1 x_12_2 x_12_3 x_12_4 x_12_5 x_12_6 x_12_7 x_12_8 x_12_9 x_12_10 x_12_11 x_12_12 x_12_13 x_12_14 x_12_15 x_12_16 x_12_17 x_12_18 x_12_19 x_12_20 x_12_21 x_12_22 x_12_23 x_12_24 x_12_25 hI hm
    have hm : 13 - x_12_0.toInt < (n : Int) + 1 := by simpa using hm
    have h_x_12_0 := hI.1
    have h_x_12_1 := hI.2.1
    have h_x_12_5 := hI.2.2.1
    have h_x_12_13 := hI.2.2.2.1
    have h_x_12_15 := hI.2.2.2.2.1
    have h_x_12_16 := hI.2.2.2.2.2.1
    have h_x_12_17 := hI.2.2.2.2.2.2.1
    have h_x_12_18 := hI.2.2.2.2.2.2.2.1
    have h_x_12_19 := hI.2.2.2.2.2.2.2.2.1
    have h_x_12_20 := hI.2.2.2.2.2.2.2.2.2.1
    have h_rel0 := hI.2.2.2.2.2.2.2.2.2.2.1
    have h_rel1 := hI.2.2.2.2.2.2.2.2.2.2.2
    unfold wl_X7_runOrders_N_12
    by_cases c1 : p0_clauses ≤ x_12_0
    · refine br1 c1 ?_
      have d2 := le_z (a := p0_clauses) (b := x_12_0) (x := (Int32.toInt p0_clauses)) (y := (Int32.toInt x_12_0)) rfl rfl c1
      exact KX _ _ _ _ _ _ _ _ _ _ _ _ _ _ _ _ _ _ _ _ _ _ _ _ _ _ ⟨⟨by omega, by omega⟩, ⟨by omega, by omega⟩, ⟨by omega, by omega⟩, h_x_12_13, h_x_12_15, h_x_12_16, h_x_12_17, h_x_12_18, ⟨by omega, by omega⟩, ⟨by omega, by omega⟩, h_rel0, (by omega)⟩
    · refine br0 c1 ?_
      have d3 := nle_z (a := p0_clauses) (b := x_12_0) (x := (Int32.toInt p0_clauses)) (y := (Int32.toInt x_12_0)) rfl rfl c1
      have k4 : Int32.toInt 4 = 4 := rfl
      refine s_X8_headOfh x_12_0 4 n_p0_heads (f_p0_heads) ⟨by omega, by omega⟩ (by decide) h_f_p0_heads (by omega) (fun r5 H6 => ?_)
      have j7 := H6
      have k8 : Int32.toInt 3 = 3 := rfl
      refine s_X8_headOfh x_12_0 3 n_p0_heads (f_p0_heads) ⟨by omega, by omega⟩ (by decide) h_f_p0_heads (by omega) (fun r9 H10 => ?_)
      have j11 := H10
      have k14 : Int32.toInt 0 = 0 := rfl
      refine sl_X7_runOrders_N_38 h0_world p0_length n_p0_heads (f_p0_heads) n_p0_code (f_p0_code) h0_world_lawCount h0_world_force h0_world_folk_listeners h0_world_folk_noises (f_h0_world_rock_hard) h0_world_crew_count (f_h0_world_rock_kind) f_h0_world_laws (f_h0_world_folk_noiseColumn) (f_h0_world_folk_noiseLoud) x_12_0 r5 r9 ⟨by omega, by omega⟩ h_f_p0_heads h_f_p0_code ⟨by omega, by omega⟩ ⟨by omega, by omega⟩ ⟨by omega, by omega⟩ ⟨by omega, by omega⟩ h_f_h0_world_rock_hard ⟨by omega, by omega⟩ h_f_h0_world_rock_kind h_f_h0_world_folk_noiseColumn h_f_h0_world_folk_noiseLoud ⟨by omega, by omega⟩ (by omega) (by omega) (by omega) hq _ (fun x12_0 x12_1 x12_2 x12_3 x12_4 x12_5 x12_6 x12_7 x12_8 x12_9 x12_10 x12_11 x12_12 x12_13 x12_14 x12_15 x12_16 x12_17 x12_18 x12_19 x12_20 x12_21 x12_22 x12_23 x12_24 x12_25 X13 => ?_) 1000000000000 0 x_12_1 x_12_2 x_12_3 x_12_4 x_12_5 x_12_6 x_12_7 x_12_8 x_12_9 x_12_10 (x_12_11) x_12_12 (x_12_13) x_12_14 (x_12_15) (x_12_16) (x_12_17) (x_12_18) x_12_19 x_12_20 (x_12_21) (x_12_22) (x_12_23) (x_12_24) (x_12_25) ⟨(by decide), ⟨by omega, by omega⟩, ⟨by omega, by omega⟩, h_x_12_13, h_x_12_15, h_x_12_16, h_x_12_17, h_x_12_18, ⟨by omega, by omega⟩, ⟨by omega, by omega⟩, h_rel0, (by omega)⟩ (by omega)
      have j15 := X13.1
      have j16 := X13.2.1
      have j17 := X13.2.2.1
      have j18 := X13.2.2.2.1
      have j19 := X13.2.2.2.2.1
      have j20 := X13.2.2.2.2.2.1
      have j21 := X13.2.2.2.2.2.2.1
      have j22 := X13.2.2.2.2.2.2.2.1
      have j23 := X13.2.2.2.2.2.2.2.2.1
      have j24 := X13.2.2.2.2.2.2.2.2.2.1
      have j25 := X13.2.2.2.2.2.2.2.2.2.2.1
      have j26 := X13.2.2.2.2.2.2.2.2.2.2.2
      have t27 : (Int32.toInt (x_12_0 + 1)) = (Int32.toInt x_12_0) + 1 := add_z rfl rfl (by omega) (by omega)
      exact ih _ _ _ _ _ _ _ _ _ _ _ _ _ _ _ _ _ _ _ _ _ _ _ _ _ _ ⟨⟨by omega, by omega⟩, ⟨by omega, by omega⟩, ⟨by omega, by omega⟩, j18, j19, j20, j21, j22, ⟨by omega, by omega⟩, ⟨by omega, by omega⟩, j25, (by omega)⟩ (by omega)
set_option maxRecDepth 100000 in
theorem s_X7_runOrders_N (h0_world : Nat) (p0_clauses : Int32) (p0_length : Int32) (n_p0_heads : Nat) (f_p0_heads : Nat → Int32) (h0_asker_world : Value) (h0_asker_law : Value) (h0_asker_cell : Int32) (h0_asker_shaft : Int32) (h0_asker_kind : Int32) (h0_asker_done : Int32) (h0_asker_latest : Int32) (h0_asker_value : Int32) (n_p0_code : Nat) (f_p0_code : Nat → Int32) (f_h0_asker_stack : Nat → Int64) (h0_world_lawCount : Int32) (h0_world_force : Int32) (h0_world_folk_listeners : Int32) (h0_world_folk_noises : Int32) (h0_world_folk_hushed : Int32) (f_h0_world_folk_column : Nat → Int32) (h0_world_rock_dug : Int64) (f_h0_world_rock_hard : Nat → Int32) (f_h0_world_rock_water : Nat → Int32) (f_h0_world_term : Nat → Int32) (h0_world_crew_count : Int32) (f_h0_world_crew_cell : Nat → Int32) (f_h0_world_crew_buckets : Nat → Int32) (f_h0_world_rock_kind : Nat → Int32) (f_h0_world_laws : Nat → Option Nat) (h0_diary_kept : Int32) (h0_diary_latest : Int32) (f_h0_diary_deed : Nat → Int32) (f_h0_diary_whose : Nat → Int32) (f_h0_diary_before : Nat → Int32) (f_h0_diary_bucketsBefore : Nat → Int32) (f_h0_diary_dayBefore : Nat → Int32) (f_h0_world_folk_noiseColumn : Nat → Int32) (f_h0_world_folk_noiseLoud : Nat → Int32) (h_p0_clauses : 0 ≤ p0_clauses.toInt ∧ p0_clauses.toInt ≤ 12) (h_p0_length : 0 ≤ p0_length.toInt ∧ p0_length.toInt ≤ 400) (h_f_p0_heads : HD f_p0_heads) (h_h0_asker_cell : 0 ≤ h0_asker_cell.toInt ∧ h0_asker_cell.toInt ≤ 39) (h_f_p0_code : CD f_p0_code) (h_h0_world_lawCount : 0 ≤ h0_world_lawCount.toInt ∧ h0_world_lawCount.toInt ≤ 6) (h_h0_world_force : (-1) ≤ h0_world_force.toInt ∧ h0_world_force.toInt ≤ (-1)) (h_h0_world_folk_listeners : 0 ≤ h0_world_folk_listeners.toInt ∧ h0_world_folk_listeners.toInt ≤ 5) (h_h0_world_folk_noises : 0 ≤ h0_world_folk_noises.toInt ∧ h0_world_folk_noises.toInt ≤ 6) (h_f_h0_world_folk_column : CO f_h0_world_folk_column) (h_f_h0_world_rock_hard : HA f_h0_world_rock_hard) (h_f_h0_world_rock_water : WA f_h0_world_rock_water) (h_f_h0_world_term : TE f_h0_world_term) (h_h0_world_crew_count : 0 ≤ h0_world_crew_count.toInt ∧ h0_world_crew_count.toInt ≤ 6) (h_f_h0_world_crew_cell : CE f_h0_world_crew_cell) (h_f_h0_world_crew_buckets : BU f_h0_world_crew_buckets) (h_f_h0_world_rock_kind : KI f_h0_world_rock_kind) (h_h0_diary_kept : 0 ≤ h0_diary_kept.toInt ∧ h0_diary_kept.toInt ≤ 16) (h_h0_diary_latest : 0 ≤ h0_diary_latest.toInt ∧ h0_diary_latest.toInt ≤ 15) (h_f_h0_world_folk_noiseColumn : NC f_h0_world_folk_noiseColumn) (h_f_h0_world_folk_noiseLoud : NL f_h0_world_folk_noiseLoud) (e_0 : n_p0_heads < 100000) (e_1 : p0_length.toInt ≤ (n_p0_code : Int)) (e_2 : DI f_h0_diary_deed f_h0_diary_whose f_h0_diary_before f_h0_diary_bucketsBefore f_h0_diary_dayBefore) {Q : Int32 → (Int32 × Int32 × Value × Value × Int32 × Int32 × Int32 × Int32 × Int32 × Int32 × (Nat → Int64) × Int32 × (Nat → Int32) × Int64 × (Nat → Int32) × (Nat → Int32) × (Nat → Int32) × (Nat → Int32) × Int32 × Int32 × (Nat → Int32) × (Nat → Int32) × (Nat → Int32) × (Nat → Int32) × (Nat → Int32)) → Prop} (hq : ∀ (r : Int32) (u_0 : Int32) (u_1 : Int32) (u_2 : Value) (u_3 : Value) (u_4 : Int32) (u_5 : Int32) (u_6 : Int32) (u_7 : Int32) (u_8 : Int32) (u_9 : Int32) (u_10 : Nat → Int64) (u_11 : Int32) (u_12 : Nat → Int32) (u_13 : Int64) (u_14 : Nat → Int32) (u_15 : Nat → Int32) (u_16 : Nat → Int32) (u_17 : Nat → Int32) (u_18 : Int32) (u_19 : Int32) (u_20 : Nat → Int32) (u_21 : Nat → Int32) (u_22 : Nat → Int32) (u_23 : Nat → Int32) (u_24 : Nat → Int32), (0 ≤ u_0.toInt ∧ u_0.toInt ≤ 240) ∧ (0 ≤ u_4.toInt ∧ u_4.toInt ≤ 39) ∧ (CO u_12) ∧ (WA u_14) ∧ (TE u_15) ∧ (CE u_16) ∧ (BU u_17) ∧ (0 ≤ u_18.toInt ∧ u_18.toInt ≤ 16) ∧ (0 ≤ u_19.toInt ∧ u_19.toInt ≤ 15) ∧ (DI u_20 u_21 u_22 u_23 u_24) → Q r (u_0, u_1, u_2, u_3, u_4, u_5, u_6, u_7, u_8, u_9, u_10, u_11, u_12, u_13, u_14, u_15, u_16, u_17, u_18, u_19, u_20, u_21, u_22, u_23, u_24)) : wp_X7_runOrders_N h0_world p0_clauses p0_length n_p0_heads f_p0_heads h0_asker_world h0_asker_law h0_asker_cell h0_asker_shaft h0_asker_kind h0_asker_done h0_asker_latest h0_asker_value n_p0_code f_p0_code f_h0_asker_stack h0_world_lawCount h0_world_force h0_world_folk_listeners h0_world_folk_noises h0_world_folk_hushed f_h0_world_folk_column h0_world_rock_dug f_h0_world_rock_hard f_h0_world_rock_water f_h0_world_term h0_world_crew_count f_h0_world_crew_cell f_h0_world_crew_buckets f_h0_world_rock_kind f_h0_world_laws h0_diary_kept h0_diary_latest f_h0_diary_deed f_h0_diary_whose f_h0_diary_before f_h0_diary_bucketsBefore f_h0_diary_dayBefore f_h0_world_folk_noiseColumn f_h0_world_folk_noiseLoud Q := by
  unfold wp_X7_runOrders_N
  have k3 : Int32.toInt 0 = 0 := rfl
  have k4 : Int32.toInt (-1) = (-1) := (by decide)
  refine sl_X7_runOrders_N_12 h0_world p0_clauses p0_length n_p0_heads (f_p0_heads) n_p0_code (f_p0_code) h0_world_lawCount h0_world_force h0_world_folk_listeners h0_world_folk_noises (f_h0_world_rock_hard) h0_world_crew_count (f_h0_world_rock_kind) f_h0_world_laws (f_h0_world_folk_noiseColumn) (f_h0_world_folk_noiseLoud) ⟨by omega, by omega⟩ ⟨by omega, by omega⟩ h_f_p0_heads h_f_p0_code ⟨by omega, by omega⟩ ⟨by omega, by omega⟩ ⟨by omega, by omega⟩ ⟨by omega, by omega⟩ h_f_h0_world_rock_hard ⟨by omega, by omega⟩ h_f_h0_world_rock_kind h_f_h0_world_folk_noiseColumn h_f_h0_world_folk_noiseLoud (by omega) (by omega) hq _ (fun x1_0 x1_1 x1_2 x1_3 x1_4 x1_5 x1_6 x1_7 x1_8 x1_9 x1_10 x1_11 x1_12 x1_13 x1_14 x1_15 x1_16 x1_17 x1_18 x1_19 x1_20 x1_21 x1_22 x1_23 x1_24 x1_25 X2 => ?_) 1000000000000 0 0 (-1) h0_asker_world h0_asker_law h0_asker_cell h0_asker_shaft h0_asker_kind h0_asker_done h0_asker_latest h0_asker_value (f_h0_asker_stack) h0_world_folk_hushed (f_h0_world_folk_column) h0_world_rock_dug (f_h0_world_rock_water) (f_h0_world_term) (f_h0_world_crew_cell) (f_h0_world_crew_buckets) h0_diary_kept h0_diary_latest (f_h0_diary_deed) (f_h0_diary_whose) (f_h0_diary_before) (f_h0_diary_bucketsBefore) (f_h0_diary_dayBefore) ⟨(by decide), (by decide), ⟨by omega, by omega⟩, h_f_h0_world_folk_column, h_f_h0_world_rock_water, h_f_h0_world_term, h_f_h0_world_crew_cell, h_f_h0_world_crew_buckets, ⟨by omega, by omega⟩, ⟨by omega, by omega⟩, e_2, (by omega)⟩ (by omega)
  have j5 := X2.1
  have j6 := X2.2.1
  have j7 := X2.2.2.1
  have j8 := X2.2.2.2.1
  have j9 := X2.2.2.2.2.1
  have j10 := X2.2.2.2.2.2.1
  have j11 := X2.2.2.2.2.2.2.1
  have j12 := X2.2.2.2.2.2.2.2.1
  have j13 := X2.2.2.2.2.2.2.2.2.1
  have j14 := X2.2.2.2.2.2.2.2.2.2.1
  have j15 := X2.2.2.2.2.2.2.2.2.2.2.1
  have j16 := X2.2.2.2.2.2.2.2.2.2.2.2
  exact hq _ _ _ _ _ _ _ _ _ _ _ _ _ _ _ _ _ _ _ _ _ _ _ _ _ _ ⟨⟨by omega, by omega⟩, ⟨by omega, by omega⟩, j8, j9, j10, j11, j12, ⟨by omega, by omega⟩, ⟨by omega, by omega⟩, j15⟩


set_option maxRecDepth 100000 in
theorem sl_X7_runOrders_T_38 (h0_world : Nat) (p0_length : Int32) (n_p0_heads : Nat) (f_p0_heads : Nat → Int32) (n_p0_code : Nat) (f_p0_code : Nat → Int32) (h0_world_lawCount : Int32) (h0_world_force : Int32) (h0_world_folk_listeners : Int32) (h0_world_folk_noises : Int32) (f_h0_world_rock_hard : Nat → Int32) (h0_world_crew_count : Int32) (f_h0_world_rock_kind : Nat → Int32) (f_h0_world_laws : Nat → Option Nat) (t : Nat) (t_clauses : Int32) (t_length : Int32) (n_t_heads : Nat) (f_t_heads : Nat → Int32) (n_t_code : Nat) (f_t_code : Nat → Int32) (f_h0_world_folk_noiseColumn : Nat → Int32) (f_h0_world_folk_noiseLoud : Nat → Int32) (x_12_0 : Int32) (r_23 : Int32) (r_30 : Int32) (h_p0_length : 0 ≤ p0_length.toInt ∧ p0_length.toInt ≤ 400) (h_f_p0_heads : HD f_p0_heads) (h_f_p0_code : CD f_p0_code) (h_h0_world_lawCount : 0 ≤ h0_world_lawCount.toInt ∧ h0_world_lawCount.toInt ≤ 6) (h_h0_world_force : 0 ≤ h0_world_force.toInt ∧ h0_world_force.toInt ≤ 5) (h_h0_world_folk_listeners : 0 ≤ h0_world_folk_listeners.toInt ∧ h0_world_folk_listeners.toInt ≤ 5) (h_h0_world_folk_noises : 0 ≤ h0_world_folk_noises.toInt ∧ h0_world_folk_noises.toInt ≤ 6) (h_f_h0_world_rock_hard : HA f_h0_world_rock_hard) (h_h0_world_crew_count : 0 ≤ h0_world_crew_count.toInt ∧ h0_world_crew_count.toInt ≤ 6) (h_f_h0_world_rock_kind : KI f_h0_world_rock_kind) (h_t_clauses : 0 ≤ t_clauses.toInt ∧ t_clauses.toInt ≤ 12) (h_t_length : 0 ≤ t_length.toInt ∧ t_length.toInt ≤ 400) (h_f_t_code : CD f_t_code) (h_f_h0_world_folk_noiseColumn : NC f_h0_world_folk_noiseColumn) (h_f_h0_world_folk_noiseLoud : NL f_h0_world_folk_noiseLoud) (h_x_12_0 : 0 ≤ x_12_0.toInt ∧ x_12_0.toInt ≤ 11) (zlaw : f_h0_world_laws (Int32.toNatClampNeg h0_world_force) = some t) (zfo : h0_world_force.toInt < h0_world_lawCount.toInt) (z23 : r_23.toInt ≤ 20) (z_n_p0_heads : n_p0_heads < 100000) (z_n_p0_code : p0_length.toInt ≤ (n_p0_code : Int)) (z_n_t_heads : n_t_heads < 100000) (z_n_t_code : t_length.toInt ≤ (n_t_code : Int)) {Q : Int32 → (Int32 × Int32 × Value × Value × Int32 × Int32 × Int32 × Int32 × Int32 × Int32 × (Nat → Int64) × Int32 × (Nat → Int32) × Int64 × (Nat → Int32) × (Nat → Int32) × (Nat → Int32) × (Nat → Int32) × Int32 × Int32 × (Nat → Int32) × (Nat → Int32) × (Nat → Int32) × (Nat → Int32) × (Nat → Int32)) → Prop} (hq : ∀ (r : Int32) (u_0 : Int32) (u_1 : Int32) (u_2 : Value) (u_3 : Value) (u_4 : Int32) (u_5 : Int32) (u_6 : Int32) (u_7 : Int32) (u_8 : Int32) (u_9 : Int32) (u_10 : Nat → Int64) (u_11 : Int32) (u_12 : Nat → Int32) (u_13 : Int64) (u_14 : Nat → Int32) (u_15 : Nat → Int32) (u_16 : Nat → Int32) (u_17 : Nat → Int32) (u_18 : Int32) (u_19 : Int32) (u_20 : Nat → Int32) (u_21 : Nat → Int32) (u_22 : Nat → Int32) (u_23 : Nat → Int32) (u_24 : Nat → Int32), (0 ≤ u_0.toInt ∧ u_0.toInt ≤ 240) ∧ (0 ≤ u_4.toInt ∧ u_4.toInt ≤ 39) ∧ (CO u_12) ∧ (WA u_14) ∧ (TE u_15) ∧ (CE u_16) ∧ (BU u_17) ∧ (0 ≤ u_18.toInt ∧ u_18.toInt ≤ 16) ∧ (0 ≤ u_19.toInt ∧ u_19.toInt ≤ 15) ∧ (DI u_20 u_21 u_22 u_23 u_24) → Q r (u_0, u_1, u_2, u_3, u_4, u_5, u_6, u_7, u_8, u_9, u_10, u_11, u_12, u_13, u_14, u_15, u_16, u_17, u_18, u_19, u_20, u_21, u_22, u_23, u_24)) (Qb : Int32 → Int32 → Int32 → Value → Value → Int32 → Int32 → Int32 → Int32 → Int32 → Int32 → (Nat → Int64) → Int32 → (Nat → Int32) → Int64 → (Nat → Int32) → (Nat → Int32) → (Nat → Int32) → (Nat → Int32) → Int32 → Int32 → (Nat → Int32) → (Nat → Int32) → (Nat → Int32) → (Nat → Int32) → (Nat → Int32) → Prop) (KX : ∀ (x_38_0 : Int32) (x_38_1 : Int32) (x_38_2 : Int32) (x_38_3 : Value) (x_38_4 : Value) (x_38_5 : Int32) (x_38_6 : Int32) (x_38_7 : Int32) (x_38_8 : Int32) (x_38_9 : Int32) (x_38_10 : Int32) (x_38_11 : Nat → Int64) (x_38_12 : Int32) (x_38_13 : Nat → Int32) (x_38_14 : Int64) (x_38_15 : Nat → Int32) (x_38_16 : Nat → Int32) (x_38_17 : Nat → Int32) (x_38_18 : Nat → Int32) (x_38_19 : Int32) (x_38_20 : Int32) (x_38_21 : Nat → Int32) (x_38_22 : Nat → Int32) (x_38_23 : Nat → Int32) (x_38_24 : Nat → Int32) (x_38_25 : Nat → Int32), (0 ≤ x_38_0.toInt ∧ x_38_0.toInt ≤ 20) ∧ (0 ≤ x_38_1.toInt ∧ x_38_1.toInt ≤ 240) ∧ (0 ≤ x_38_5.toInt ∧ x_38_5.toInt ≤ 39) ∧ (CO x_38_13) ∧ (WA x_38_15) ∧ (TE x_38_16) ∧ (CE x_38_17) ∧ (BU x_38_18) ∧ (0 ≤ x_38_19.toInt ∧ x_38_19.toInt ≤ 16) ∧ (0 ≤ x_38_20.toInt ∧ x_38_20.toInt ≤ 15) ∧ (DI x_38_21 x_38_22 x_38_23 x_38_24 x_38_25) ∧ (x_38_1.toInt ≤ 20 * x_12_0.toInt + x_38_0.toInt) → Qb x_38_0 x_38_1 x_38_2 x_38_3 x_38_4 x_38_5 x_38_6 x_38_7 x_38_8 x_38_9 x_38_10 x_38_11 x_38_12 x_38_13 x_38_14 x_38_15 x_38_16 x_38_17 x_38_18 x_38_19 x_38_20 x_38_21 x_38_22 x_38_23 x_38_24 x_38_25) : ∀ (n : Nat) (x_38_0 : Int32) (x_38_1 : Int32) (x_38_2 : Int32) (x_38_3 : Value) (x_38_4 : Value) (x_38_5 : Int32) (x_38_6 : Int32) (x_38_7 : Int32) (x_38_8 : Int32) (x_38_9 : Int32) (x_38_10 : Int32) (x_38_11 : Nat → Int64) (x_38_12 : Int32) (x_38_13 : Nat → Int32) (x_38_14 : Int64) (x_38_15 : Nat → Int32) (x_38_16 : Nat → Int32) (x_38_17 : Nat → Int32) (x_38_18 : Nat → Int32) (x_38_19 : Int32) (x_38_20 : Int32) (x_38_21 : Nat → Int32) (x_38_22 : Nat → Int32) (x_38_23 : Nat → Int32) (x_38_24 : Nat → Int32) (x_38_25 : Nat → Int32), (0 ≤ x_38_0.toInt ∧ x_38_0.toInt ≤ 20) ∧ (0 ≤ x_38_1.toInt ∧ x_38_1.toInt ≤ 240) ∧ (0 ≤ x_38_5.toInt ∧ x_38_5.toInt ≤ 39) ∧ (CO x_38_13) ∧ (WA x_38_15) ∧ (TE x_38_16) ∧ (CE x_38_17) ∧ (BU x_38_18) ∧ (0 ≤ x_38_19.toInt ∧ x_38_19.toInt ≤ 16) ∧ (0 ≤ x_38_20.toInt ∧ x_38_20.toInt ≤ 15) ∧ (DI x_38_21 x_38_22 x_38_23 x_38_24 x_38_25) ∧ (x_38_1.toInt ≤ 20 * x_12_0.toInt + x_38_0.toInt) → 21 - x_38_0.toInt < (n : Int) → wl_X7_runOrders_T_38 h0_world p0_length n_p0_heads f_p0_heads n_p0_code f_p0_code h0_world_lawCount h0_world_force h0_world_folk_listeners h0_world_folk_noises f_h0_world_rock_hard h0_world_crew_count f_h0_world_rock_kind f_h0_world_laws t t_clauses t_length n_t_heads f_t_heads n_t_code f_t_code f_h0_world_folk_noiseColumn f_h0_world_folk_noiseLoud x_12_0 r_23 r_30 Q Qb n x_38_0 x_38_1 x_38_2 x_38_3 x_38_4 x_38_5 x_38_6 x_38_7 x_38_8 x_38_9 x_38_10 x_38_11 x_38_12 x_38_13 x_38_14 x_38_15 x_38_16 x_38_17 x_38_18 x_38_19 x_38_20 x_38_21 x_38_22 x_38_23 x_38_24 x_38_25 := by
  intro n
  induction n with
  | zero =>
    intro x_38_0 x_38_1 x_38_2 x_38_3 x_38_4 x_38_5 x_38_6 x_38_7 x_38_8 x_38_9 x_38_10 x_38_11 x_38_12 x_38_13 x_38_14 x_38_15 x_38_16 x_38_17 x_38_18 x_38_19 x_38_20 x_38_21 x_38_22 x_38_23 x_38_24 x_38_25 hI hm
    exfalso; have hm : 21 - x_38_0.toInt < 0 := hm; omega
  | succ n ih =>
    intro x_38_0 x_38_1 x_38_2 x_38_3 x_38_4 x_38_5 x_38_6 x_38_7 x_38_8 x_38_9 x_38_10 x_38_11 x_38_12 x_38_13 x_38_14 x_38_15 x_38_16 x_38_17 x_38_18 x_38_19 x_38_20 x_38_21 x_38_22 x_38_23 x_38_24 x_38_25 hI hm
    have hm : 21 - x_38_0.toInt < (n : Int) + 1 := by simpa using hm
    have h_x_38_0 := hI.1
    have h_x_38_1 := hI.2.1
    have h_x_38_5 := hI.2.2.1
    have h_x_38_13 := hI.2.2.2.1
    have h_x_38_15 := hI.2.2.2.2.1
    have h_x_38_16 := hI.2.2.2.2.2.1
    have h_x_38_17 := hI.2.2.2.2.2.2.1
    have h_x_38_18 := hI.2.2.2.2.2.2.2.1
    have h_x_38_19 := hI.2.2.2.2.2.2.2.2.1
    have h_x_38_20 := hI.2.2.2.2.2.2.2.2.2.1
    have h_rel0 := hI.2.2.2.2.2.2.2.2.2.2.1
    have h_rel1 := hI.2.2.2.2.2.2.2.2.2.2.2
    unfold wl_X7_runOrders_T_38
    by_cases c12 : r_23 ≤ x_38_0
    · refine br1 c12 ?_
      have d13 := le_z (a := r_23) (b := x_38_0) (x := (Int32.toInt r_23)) (y := (Int32.toInt x_38_0)) rfl rfl c12
      exact KX _ _ _ _ _ _ _ _ _ _ _ _ _ _ _ _ _ _ _ _ _ _ _ _ _ _ ⟨⟨by omega, by omega⟩, ⟨by omega, by omega⟩, ⟨by omega, by omega⟩, h_x_38_13, h_x_38_15, h_x_38_16, h_x_38_17, h_x_38_18, ⟨by omega, by omega⟩, ⟨by omega, by omega⟩, h_rel0, (by omega)⟩
    · refine br0 c12 ?_
      have d14 := nle_z (a := r_23) (b := x_38_0) (x := (Int32.toInt r_23)) (y := (Int32.toInt x_38_0)) rfl rfl c12
      refine o_X0_turnToOrders _ _ _ ?_
      refine un2_i ?_
      refine jn_s ?_
      by_cases c15 : r_30 = (-1)
      · refine br1 c15 ?_
        have d16 := eq_z (a := r_30) (b := (-1)) (x := (Int32.toInt r_30)) (y := (-1)) rfl (by decide) c15
        refine un2_i ?_
        refine s_X7_runOrder_T x_12_0 h0_world x_38_2 p0_length n_p0_heads (f_p0_heads) x_38_4 x_38_5 x_38_6 x_38_7 x_38_1 x_38_2 x_38_10 n_p0_code (f_p0_code) (x_38_11) h0_world_lawCount h0_world_force h0_world_folk_listeners h0_world_folk_noises x_38_12 (x_38_13) x_38_14 (f_h0_world_rock_hard) (x_38_15) (x_38_16) h0_world_crew_count (x_38_17) (x_38_18) (f_h0_world_rock_kind) (f_h0_world_laws) t t_clauses t_length n_t_heads (f_t_heads) n_t_code (f_t_code) x_38_19 x_38_20 (x_38_21) (x_38_22) (x_38_23) (x_38_24) (x_38_25) (f_h0_world_folk_noiseColumn) (f_h0_world_folk_noiseLoud) ⟨by omega, by omega⟩ ⟨by omega, by omega⟩ h_f_p0_heads ⟨by omega, by omega⟩ h_f_p0_code ⟨by omega, by omega⟩ ⟨by omega, by omega⟩ ⟨by omega, by omega⟩ ⟨by omega, by omega⟩ h_x_38_13 h_f_h0_world_rock_hard h_x_38_15 h_x_38_16 ⟨by omega, by omega⟩ h_x_38_17 h_x_38_18 h_f_h0_world_rock_kind ⟨by omega, by omega⟩ ⟨by omega, by omega⟩ h_f_t_code ⟨by omega, by omega⟩ ⟨by omega, by omega⟩ h_f_h0_world_folk_noiseColumn h_f_h0_world_folk_noiseLoud (by omega) (by omega) (by omega) (by omega) (by omega) (by assumption) h_rel0 (fun r17 u18_0 u18_1 u18_2 u18_3 u18_4 u18_5 u18_6 u18_7 u18_8 u18_9 u18_10 u18_11 u18_12 u18_13 u18_14 u18_15 u18_16 u18_17 u18_18 u18_19 u18_20 u18_21 H19 => ?_)
        have j20 := H19.1
        have j21 := H19.2.1
        have j22 := H19.2.2.1
        have j23 := H19.2.2.2.1
        have j24 := H19.2.2.2.2.1
        have j25 := H19.2.2.2.2.2.1
        have j26 := H19.2.2.2.2.2.2.1
        have j27 := H19.2.2.2.2.2.2.2.1
        have j28 := H19.2.2.2.2.2.2.2.2
        refine un22_i ?_
        by_cases c29 : r17 = 0
        · refine br1 c29 ?_
          have d30 := eq_z (a := r17) (b := 0) (x := (Int32.toInt r17)) (y := 0) rfl rfl c29
          exact hq _ _ _ _ _ _ _ _ _ _ _ _ _ _ _ _ _ _ _ _ _ _ _ _ _ _ ⟨⟨by omega, by omega⟩, ⟨by omega, by omega⟩, j21, j22, j23, j24, j25, ⟨by omega, by omega⟩, ⟨by omega, by omega⟩, j28⟩
        · refine br0 c29 ?_
          have d31 := ne_z (a := r17) (b := 0) (x := (Int32.toInt r17)) (y := 0) rfl rfl c29
          have t32 : (Int32.toInt (x_38_0 + 1)) = (Int32.toInt x_38_0) + 1 := add_z rfl rfl (by omega) (by omega)
          have t33 : (Int32.toInt (x_38_1 + 1)) = (Int32.toInt x_38_1) + 1 := add_z rfl rfl (by omega) (by omega)
          exact ih _ _ _ _ _ _ _ _ _ _ _ _ _ _ _ _ _ _ _ _ _ _ _ _ _ _ ⟨⟨by omega, by omega⟩, ⟨by omega, by omega⟩, ⟨by omega, by omega⟩, j21, j22, j23, j24, j25, ⟨by omega, by omega⟩, ⟨by omega, by omega⟩, j28, (by omega)⟩ (by omega)
      · refine br0 c15 ?_
        have d34 := ne_z (a := r_30) (b := (-1)) (x := (Int32.toInt r_30)) (y := (-1)) rfl (by decide) c15
        refine s_X0_reckon r_30 x_38_5 x_38_6 x_38_7 x_38_1 x_38_2 x_38_10 p0_length n_p0_code (f_p0_code) (x_38_11) h0_world_folk_listeners (x_38_13) (f_h0_world_rock_hard) (x_38_15) (x_38_16) h0_world_crew_count (x_38_17) (x_38_18) ⟨by omega, by omega⟩ ⟨by omega, by omega⟩ h_f_p0_code ⟨by omega, by omega⟩ h_x_38_13 h_f_h0_world_rock_hard h_x_38_15 h_x_38_16 ⟨by omega, by omega⟩ h_x_38_17 h_x_38_18 (by omega) (fun r35 u36_0 u36_1 H37 => ?_)
        have j38 := H37
        refine un2_i ?_
        by_cases c39 : r35 = 0
        · refine br1 c39 ?_
          have d40 := eq_z (a := r35) (b := 0) (x := (Int32.toInt r35)) (y := 0) rfl rfl c39
          have t41 : (Int32.toInt (x_38_0 + 1)) = (Int32.toInt x_38_0) + 1 := add_z rfl rfl (by omega) (by omega)
          exact ih _ _ _ _ _ _ _ _ _ _ _ _ _ _ _ _ _ _ _ _ _ _ _ _ _ _ ⟨⟨by omega, by omega⟩, ⟨by omega, by omega⟩, ⟨by omega, by omega⟩, h_x_38_13, h_x_38_15, h_x_38_16, h_x_38_17, h_x_38_18, ⟨by omega, by omega⟩, ⟨by omega, by omega⟩, h_rel0, (by omega)⟩ (by omega)
        · refine br0 c39 ?_
          have d42 := ne_z (a := r35) (b := 0) (x := (Int32.toInt r35)) (y := 0) rfl rfl c39
          refine o_X0_reckoned _ _ ?_
          by_cases c43 : u36_0 = 1
          · refine br1 c43 ?_
            have d44 := eq_z (a := u36_0) (b := 1) (x := (Int32.toInt u36_0)) (y := 1) rfl rfl c43
            refine un2_i ?_
            refine s_X7_runOrder_T x_12_0 h0_world x_38_2 p0_length n_p0_heads (f_p0_heads) x_38_4 x_38_5 x_38_6 x_38_7 x_38_1 x_38_2 u36_0 n_p0_code (f_p0_code) (u36_1) h0_world_lawCount h0_world_force h0_world_folk_listeners h0_world_folk_noises x_38_12 (x_38_13) x_38_14 (f_h0_world_rock_hard) (x_38_15) (x_38_16) h0_world_crew_count (x_38_17) (x_38_18) (f_h0_world_rock_kind) (f_h0_world_laws) t t_clauses t_length n_t_heads (f_t_heads) n_t_code (f_t_code) x_38_19 x_38_20 (x_38_21) (x_38_22) (x_38_23) (x_38_24) (x_38_25) (f_h0_world_folk_noiseColumn) (f_h0_world_folk_noiseLoud) ⟨by omega, by omega⟩ ⟨by omega, by omega⟩ h_f_p0_heads ⟨by omega, by omega⟩ h_f_p0_code ⟨by omega, by omega⟩ ⟨by omega, by omega⟩ ⟨by omega, by omega⟩ ⟨by omega, by omega⟩ h_x_38_13 h_f_h0_world_rock_hard h_x_38_15 h_x_38_16 ⟨by omega, by omega⟩ h_x_38_17 h_x_38_18 h_f_h0_world_rock_kind ⟨by omega, by omega⟩ ⟨by omega, by omega⟩ h_f_t_code ⟨by omega, by omega⟩ ⟨by omega, by omega⟩ h_f_h0_world_folk_noiseColumn h_f_h0_world_folk_noiseLoud (by omega) (by omega) (by omega) (by omega) (by omega) (by assumption) h_rel0 (fun r45 u46_0 u46_1 u46_2 u46_3 u46_4 u46_5 u46_6 u46_7 u46_8 u46_9 u46_10 u46_11 u46_12 u46_13 u46_14 u46_15 u46_16 u46_17 u46_18 u46_19 u46_20 u46_21 H47 => ?_)
            have j48 := H47.1
            have j49 := H47.2.1
            have j50 := H47.2.2.1
            have j51 := H47.2.2.2.1
            have j52 := H47.2.2.2.2.1
            have j53 := H47.2.2.2.2.2.1
            have j54 := H47.2.2.2.2.2.2.1
            have j55 := H47.2.2.2.2.2.2.2.1
            have j56 := H47.2.2.2.2.2.2.2.2
            refine un22_i ?_
            by_cases c57 : r45 = 0
            · refine br1 c57 ?_
              have d58 := eq_z (a := r45) (b := 0) (x := (Int32.toInt r45)) (y := 0) rfl rfl c57
              exact hq _ _ _ _ _ _ _ _ _ _ _ _ _ _ _ _ _ _ _ _ _ _ _ _ _ _ ⟨⟨by omega, by omega⟩, ⟨by omega, by omega⟩, j49, j50, j51, j52, j53, ⟨by omega, by omega⟩, ⟨by omega, by omega⟩, j56⟩
            · refine br0 c57 ?_
              have d59 := ne_z (a := r45) (b := 0) (x := (Int32.toInt r45)) (y := 0) rfl rfl c57
              have t60 : (Int32.toInt (x_38_0 + 1)) = (Int32.toInt x_38_0) + 1 := add_z rfl rfl (by omega) (by omega)
              have t61 : (Int32.toInt (x_38_1 + 1)) = (Int32.toInt x_38_1) + 1 := add_z rfl rfl (by omega) (by omega)
              exact ih _ _ _ _ _ _ _ _ _ _ _ _ _ _ _ _ _ _ _ _ _ _ _ _ _ _ ⟨⟨by omega, by omega⟩, ⟨by omega, by omega⟩, ⟨by omega, by omega⟩, j49, j50, j51, j52, j53, ⟨by omega, by omega⟩, ⟨by omega, by omega⟩, j56, (by omega)⟩ (by omega)
          · refine br0 c43 ?_
            have d62 := ne_z (a := u36_0) (b := 1) (x := (Int32.toInt u36_0)) (y := 1) rfl rfl c43
            have t63 : (Int32.toInt (x_38_0 + 1)) = (Int32.toInt x_38_0) + 1 := add_z rfl rfl (by omega) (by omega)
            exact ih _ _ _ _ _ _ _ _ _ _ _ _ _ _ _ _ _ _ _ _ _ _ _ _ _ _ ⟨⟨by omega, by omega⟩, ⟨by omega, by omega⟩, ⟨by omega, by omega⟩, h_x_38_13, h_x_38_15, h_x_38_16, h_x_38_17, h_x_38_18, ⟨by omega, by omega⟩, ⟨by omega, by omega⟩, h_rel0, (by omega)⟩ (by omega)
set_option maxRecDepth 100000 in
theorem sl_X7_runOrders_T_12 (h0_world : Nat) (p0_clauses : Int32) (p0_length : Int32) (n_p0_heads : Nat) (f_p0_heads : Nat → Int32) (n_p0_code : Nat) (f_p0_code : Nat → Int32) (h0_world_lawCount : Int32) (h0_world_force : Int32) (h0_world_folk_listeners : Int32) (h0_world_folk_noises : Int32) (f_h0_world_rock_hard : Nat → Int32) (h0_world_crew_count : Int32) (f_h0_world_rock_kind : Nat → Int32) (f_h0_world_laws : Nat → Option Nat) (t : Nat) (t_clauses : Int32) (t_length : Int32) (n_t_heads : Nat) (f_t_heads : Nat → Int32) (n_t_code : Nat) (f_t_code : Nat → Int32) (f_h0_world_folk_noiseColumn : Nat → Int32) (f_h0_world_folk_noiseLoud : Nat → Int32) (h_p0_clauses : 0 ≤ p0_clauses.toInt ∧ p0_clauses.toInt ≤ 12) (h_p0_length : 0 ≤ p0_length.toInt ∧ p0_length.toInt ≤ 400) (h_f_p0_heads : HD f_p0_heads) (h_f_p0_code : CD f_p0_code) (h_h0_world_lawCount : 0 ≤ h0_world_lawCount.toInt ∧ h0_world_lawCount.toInt ≤ 6) (h_h0_world_force : 0 ≤ h0_world_force.toInt ∧ h0_world_force.toInt ≤ 5) (h_h0_world_folk_listeners : 0 ≤ h0_world_folk_listeners.toInt ∧ h0_world_folk_listeners.toInt ≤ 5) (h_h0_world_folk_noises : 0 ≤ h0_world_folk_noises.toInt ∧ h0_world_folk_noises.toInt ≤ 6) (h_f_h0_world_rock_hard : HA f_h0_world_rock_hard) (h_h0_world_crew_count : 0 ≤ h0_world_crew_count.toInt ∧ h0_world_crew_count.toInt ≤ 6) (h_f_h0_world_rock_kind : KI f_h0_world_rock_kind) (h_t_clauses : 0 ≤ t_clauses.toInt ∧ t_clauses.toInt ≤ 12) (h_t_length : 0 ≤ t_length.toInt ∧ t_length.toInt ≤ 400) (h_f_t_code : CD f_t_code) (h_f_h0_world_folk_noiseColumn : NC f_h0_world_folk_noiseColumn) (h_f_h0_world_folk_noiseLoud : NL f_h0_world_folk_noiseLoud) (zlaw : f_h0_world_laws (Int32.toNatClampNeg h0_world_force) = some t) (zfo : h0_world_force.toInt < h0_world_lawCount.toInt) (z_n_p0_heads : n_p0_heads < 100000) (z_n_p0_code : p0_length.toInt ≤ (n_p0_code : Int)) (z_n_t_heads : n_t_heads < 100000) (z_n_t_code : t_length.toInt ≤ (n_t_code : Int)) {Q : Int32 → (Int32 × Int32 × Value × Value × Int32 × Int32 × Int32 × Int32 × Int32 × Int32 × (Nat → Int64) × Int32 × (Nat → Int32) × Int64 × (Nat → Int32) × (Nat → Int32) × (Nat → Int32) × (Nat → Int32) × Int32 × Int32 × (Nat → Int32) × (Nat → Int32) × (Nat → Int32) × (Nat → Int32) × (Nat → Int32)) → Prop} (hq : ∀ (r : Int32) (u_0 : Int32) (u_1 : Int32) (u_2 : Value) (u_3 : Value) (u_4 : Int32) (u_5 : Int32) (u_6 : Int32) (u_7 : Int32) (u_8 : Int32) (u_9 : Int32) (u_10 : Nat → Int64) (u_11 : Int32) (u_12 : Nat → Int32) (u_13 : Int64) (u_14 : Nat → Int32) (u_15 : Nat → Int32) (u_16 : Nat → Int32) (u_17 : Nat → Int32) (u_18 : Int32) (u_19 : Int32) (u_20 : Nat → Int32) (u_21 : Nat → Int32) (u_22 : Nat → Int32) (u_23 : Nat → Int32) (u_24 : Nat → Int32), (0 ≤ u_0.toInt ∧ u_0.toInt ≤ 240) ∧ (0 ≤ u_4.toInt ∧ u_4.toInt ≤ 39) ∧ (CO u_12) ∧ (WA u_14) ∧ (TE u_15) ∧ (CE u_16) ∧ (BU u_17) ∧ (0 ≤ u_18.toInt ∧ u_18.toInt ≤ 16) ∧ (0 ≤ u_19.toInt ∧ u_19.toInt ≤ 15) ∧ (DI u_20 u_21 u_22 u_23 u_24) → Q r (u_0, u_1, u_2, u_3, u_4, u_5, u_6, u_7, u_8, u_9, u_10, u_11, u_12, u_13, u_14, u_15, u_16, u_17, u_18, u_19, u_20, u_21, u_22, u_23, u_24)) (Qb : Int32 → Int32 → Int32 → Value → Value → Int32 → Int32 → Int32 → Int32 → Int32 → Int32 → (Nat → Int64) → Int32 → (Nat → Int32) → Int64 → (Nat → Int32) → (Nat → Int32) → (Nat → Int32) → (Nat → Int32) → Int32 → Int32 → (Nat → Int32) → (Nat → Int32) → (Nat → Int32) → (Nat → Int32) → (Nat → Int32) → Prop) (KX : ∀ (x_12_0 : Int32) (x_12_1 : Int32) (x_12_2 : Int32) (x_12_3 : Value) (x_12_4 : Value) (x_12_5 : Int32) (x_12_6 : Int32) (x_12_7 : Int32) (x_12_8 : Int32) (x_12_9 : Int32) (x_12_10 : Int32) (x_12_11 : Nat → Int64) (x_12_12 : Int32) (x_12_13 : Nat → Int32) (x_12_14 : Int64) (x_12_15 : Nat → Int32) (x_12_16 : Nat → Int32) (x_12_17 : Nat → Int32) (x_12_18 : Nat → Int32) (x_12_19 : Int32) (x_12_20 : Int32) (x_12_21 : Nat → Int32) (x_12_22 : Nat → Int32) (x_12_23 : Nat → Int32) (x_12_24 : Nat → Int32) (x_12_25 : Nat → Int32), (0 ≤ x_12_0.toInt ∧ x_12_0.toInt ≤ 12) ∧ (0 ≤ x_12_1.toInt ∧ x_12_1.toInt ≤ 240) ∧ (0 ≤ x_12_5.toInt ∧ x_12_5.toInt ≤ 39) ∧ (CO x_12_13) ∧ (WA x_12_15) ∧ (TE x_12_16) ∧ (CE x_12_17) ∧ (BU x_12_18) ∧ (0 ≤ x_12_19.toInt ∧ x_12_19.toInt ≤ 16) ∧ (0 ≤ x_12_20.toInt ∧ x_12_20.toInt ≤ 15) ∧ (DI x_12_21 x_12_22 x_12_23 x_12_24 x_12_25) ∧ (x_12_1.toInt ≤ 20 * x_12_0.toInt) → Qb x_12_0 x_12_1 x_12_2 x_12_3 x_12_4 x_12_5 x_12_6 x_12_7 x_12_8 x_12_9 x_12_10 x_12_11 x_12_12 x_12_13 x_12_14 x_12_15 x_12_16 x_12_17 x_12_18 x_12_19 x_12_20 x_12_21 x_12_22 x_12_23 x_12_24 x_12_25) : ∀ (n : Nat) (x_12_0 : Int32) (x_12_1 : Int32) (x_12_2 : Int32) (x_12_3 : Value) (x_12_4 : Value) (x_12_5 : Int32) (x_12_6 : Int32) (x_12_7 : Int32) (x_12_8 : Int32) (x_12_9 : Int32) (x_12_10 : Int32) (x_12_11 : Nat → Int64) (x_12_12 : Int32) (x_12_13 : Nat → Int32) (x_12_14 : Int64) (x_12_15 : Nat → Int32) (x_12_16 : Nat → Int32) (x_12_17 : Nat → Int32) (x_12_18 : Nat → Int32) (x_12_19 : Int32) (x_12_20 : Int32) (x_12_21 : Nat → Int32) (x_12_22 : Nat → Int32) (x_12_23 : Nat → Int32) (x_12_24 : Nat → Int32) (x_12_25 : Nat → Int32), (0 ≤ x_12_0.toInt ∧ x_12_0.toInt ≤ 12) ∧ (0 ≤ x_12_1.toInt ∧ x_12_1.toInt ≤ 240) ∧ (0 ≤ x_12_5.toInt ∧ x_12_5.toInt ≤ 39) ∧ (CO x_12_13) ∧ (WA x_12_15) ∧ (TE x_12_16) ∧ (CE x_12_17) ∧ (BU x_12_18) ∧ (0 ≤ x_12_19.toInt ∧ x_12_19.toInt ≤ 16) ∧ (0 ≤ x_12_20.toInt ∧ x_12_20.toInt ≤ 15) ∧ (DI x_12_21 x_12_22 x_12_23 x_12_24 x_12_25) ∧ (x_12_1.toInt ≤ 20 * x_12_0.toInt) → 13 - x_12_0.toInt < (n : Int) → wl_X7_runOrders_T_12 h0_world p0_clauses p0_length n_p0_heads f_p0_heads n_p0_code f_p0_code h0_world_lawCount h0_world_force h0_world_folk_listeners h0_world_folk_noises f_h0_world_rock_hard h0_world_crew_count f_h0_world_rock_kind f_h0_world_laws t t_clauses t_length n_t_heads f_t_heads n_t_code f_t_code f_h0_world_folk_noiseColumn f_h0_world_folk_noiseLoud Q Qb n x_12_0 x_12_1 x_12_2 x_12_3 x_12_4 x_12_5 x_12_6 x_12_7 x_12_8 x_12_9 x_12_10 x_12_11 x_12_12 x_12_13 x_12_14 x_12_15 x_12_16 x_12_17 x_12_18 x_12_19 x_12_20 x_12_21 x_12_22 x_12_23 x_12_24 x_12_25 := by
  intro n
  induction n with
  | zero =>
    intro x_12_0 x_12_1 x_12_2 x_12_3 x_12_4 x_12_5 x_12_6 x_12_7 x_12_8 x_12_9 x_12_10 x_12_11 x_12_12 x_12_13 x_12_14 x_12_15 x_12_16 x_12_17 x_12_18 x_12_19 x_12_20 x_12_21 x_12_22 x_12_23 x_12_24 x_12_25 hI hm
    exfalso; have hm : 13 - x_12_0.toInt < 0 := hm; omega
  | succ n ih =>
    intro x_12_0 x_12_1 x_12_2 x_12_3 x_12_4 x_12_5 x_12_6 x_12_7 x_12_8 x_12_9 x_12_10 x_12_11 x_12_12 x_12_13 x_12_14 x_12_15 x_12_16 x_12_17 x_12_18 x_12_19 x_12_20 x_12_21 x_12_22 x_12_23 x_12_24 x_12_25 hI hm
    have hm : 13 - x_12_0.toInt < (n : Int) + 1 := by simpa using hm
    have h_x_12_0 := hI.1
    have h_x_12_1 := hI.2.1
    have h_x_12_5 := hI.2.2.1
    have h_x_12_13 := hI.2.2.2.1
    have h_x_12_15 := hI.2.2.2.2.1
    have h_x_12_16 := hI.2.2.2.2.2.1
    have h_x_12_17 := hI.2.2.2.2.2.2.1
    have h_x_12_18 := hI.2.2.2.2.2.2.2.1
    have h_x_12_19 := hI.2.2.2.2.2.2.2.2.1
    have h_x_12_20 := hI.2.2.2.2.2.2.2.2.2.1
    have h_rel0 := hI.2.2.2.2.2.2.2.2.2.2.1
    have h_rel1 := hI.2.2.2.2.2.2.2.2.2.2.2
    unfold wl_X7_runOrders_T_12
    by_cases c1 : p0_clauses ≤ x_12_0
    · refine br1 c1 ?_
      have d2 := le_z (a := p0_clauses) (b := x_12_0) (x := (Int32.toInt p0_clauses)) (y := (Int32.toInt x_12_0)) rfl rfl c1
      exact KX _ _ _ _ _ _ _ _ _ _ _ _ _ _ _ _ _ _ _ _ _ _ _ _ _ _ ⟨⟨by omega, by omega⟩, ⟨by omega, by omega⟩, ⟨by omega, by omega⟩, h_x_12_13, h_x_12_15, h_x_12_16, h_x_12_17, h_x_12_18, ⟨by omega, by omega⟩, ⟨by omega, by omega⟩, h_rel0, (by omega)⟩
    · refine br0 c1 ?_
      have d3 := nle_z (a := p0_clauses) (b := x_12_0) (x := (Int32.toInt p0_clauses)) (y := (Int32.toInt x_12_0)) rfl rfl c1
      have k4 : Int32.toInt 4 = 4 := rfl
      refine s_X8_headOfh x_12_0 4 n_p0_heads (f_p0_heads) ⟨by omega, by omega⟩ (by decide) h_f_p0_heads (by omega) (fun r5 H6 => ?_)
      have j7 := H6
      have k8 : Int32.toInt 3 = 3 := rfl
      refine s_X8_headOfh x_12_0 3 n_p0_heads (f_p0_heads) ⟨by omega, by omega⟩ (by decide) h_f_p0_heads (by omega) (fun r9 H10 => ?_)
      have j11 := H10
      have k14 : Int32.toInt 0 = 0 := rfl
      refine sl_X7_runOrders_T_38 h0_world p0_length n_p0_heads (f_p0_heads) n_p0_code (f_p0_code) h0_world_lawCount h0_world_force h0_world_folk_listeners h0_world_folk_noises (f_h0_world_rock_hard) h0_world_crew_count (f_h0_world_rock_kind) f_h0_world_laws t t_clauses t_length n_t_heads (f_t_heads) n_t_code (f_t_code) (f_h0_world_folk_noiseColumn) (f_h0_world_folk_noiseLoud) x_12_0 r5 r9 ⟨by omega, by omega⟩ h_f_p0_heads h_f_p0_code ⟨by omega, by omega⟩ ⟨by omega, by omega⟩ ⟨by omega, by omega⟩ ⟨by omega, by omega⟩ h_f_h0_world_rock_hard ⟨by omega, by omega⟩ h_f_h0_world_rock_kind ⟨by omega, by omega⟩ ⟨by omega, by omega⟩ h_f_t_code h_f_h0_world_folk_noiseColumn h_f_h0_world_folk_noiseLoud ⟨by omega, by omega⟩ (by assumption) (by omega) (by omega) (by omega) (by omega) (by omega) (by omega) hq _ (fun x12_0 x12_1 x12_2 x12_3 x12_4 x12_5 x12_6 x12_7 x12_8 x12_9 x12_10 x12_11 x12_12 x12_13 x12_14 x12_15 x12_16 x12_17 x12_18 x12_19 x12_20 x12_21 x12_22 x12_23 x12_24 x12_25 X13 => ?_) 1000000000000 0 x_12_1 x_12_2 x_12_3 x_12_4 x_12_5 x_12_6 x_12_7 x_12_8 x_12_9 x_12_10 (x_12_11) x_12_12 (x_12_13) x_12_14 (x_12_15) (x_12_16) (x_12_17) (x_12_18) x_12_19 x_12_20 (x_12_21) (x_12_22) (x_12_23) (x_12_24) (x_12_25) ⟨(by decide), ⟨by omega, by omega⟩, ⟨by omega, by omega⟩, h_x_12_13, h_x_12_15, h_x_12_16, h_x_12_17, h_x_12_18, ⟨by omega, by omega⟩, ⟨by omega, by omega⟩, h_rel0, (by omega)⟩ (by omega)
      have j15 := X13.1
      have j16 := X13.2.1
      have j17 := X13.2.2.1
      have j18 := X13.2.2.2.1
      have j19 := X13.2.2.2.2.1
      have j20 := X13.2.2.2.2.2.1
      have j21 := X13.2.2.2.2.2.2.1
      have j22 := X13.2.2.2.2.2.2.2.1
      have j23 := X13.2.2.2.2.2.2.2.2.1
      have j24 := X13.2.2.2.2.2.2.2.2.2.1
      have j25 := X13.2.2.2.2.2.2.2.2.2.2.1
      have j26 := X13.2.2.2.2.2.2.2.2.2.2.2
      have t27 : (Int32.toInt (x_12_0 + 1)) = (Int32.toInt x_12_0) + 1 := add_z rfl rfl (by omega) (by omega)
      exact ih _ _ _ _ _ _ _ _ _ _ _ _ _ _ _ _ _ _ _ _ _ _ _ _ _ _ ⟨⟨by omega, by omega⟩, ⟨by omega, by omega⟩, ⟨by omega, by omega⟩, j18, j19, j20, j21, j22, ⟨by omega, by omega⟩, ⟨by omega, by omega⟩, j25, (by omega)⟩ (by omega)
set_option maxRecDepth 100000 in
theorem s_X7_runOrders_T (h0_world : Nat) (p0_clauses : Int32) (p0_length : Int32) (n_p0_heads : Nat) (f_p0_heads : Nat → Int32) (h0_asker_world : Value) (h0_asker_law : Value) (h0_asker_cell : Int32) (h0_asker_shaft : Int32) (h0_asker_kind : Int32) (h0_asker_done : Int32) (h0_asker_latest : Int32) (h0_asker_value : Int32) (n_p0_code : Nat) (f_p0_code : Nat → Int32) (f_h0_asker_stack : Nat → Int64) (h0_world_lawCount : Int32) (h0_world_force : Int32) (h0_world_folk_listeners : Int32) (h0_world_folk_noises : Int32) (h0_world_folk_hushed : Int32) (f_h0_world_folk_column : Nat → Int32) (h0_world_rock_dug : Int64) (f_h0_world_rock_hard : Nat → Int32) (f_h0_world_rock_water : Nat → Int32) (f_h0_world_term : Nat → Int32) (h0_world_crew_count : Int32) (f_h0_world_crew_cell : Nat → Int32) (f_h0_world_crew_buckets : Nat → Int32) (f_h0_world_rock_kind : Nat → Int32) (f_h0_world_laws : Nat → Option Nat) (t : Nat) (t_clauses : Int32) (t_length : Int32) (n_t_heads : Nat) (f_t_heads : Nat → Int32) (n_t_code : Nat) (f_t_code : Nat → Int32) (h0_diary_kept : Int32) (h0_diary_latest : Int32) (f_h0_diary_deed : Nat → Int32) (f_h0_diary_whose : Nat → Int32) (f_h0_diary_before : Nat → Int32) (f_h0_diary_bucketsBefore : Nat → Int32) (f_h0_diary_dayBefore : Nat → Int32) (f_h0_world_folk_noiseColumn : Nat → Int32) (f_h0_world_folk_noiseLoud : Nat → Int32) (h_p0_clauses : 0 ≤ p0_clauses.toInt ∧ p0_clauses.toInt ≤ 12) (h_p0_length : 0 ≤ p0_length.toInt ∧ p0_length.toInt ≤ 400) (h_f_p0_heads : HD f_p0_heads) (h_h0_asker_cell : 0 ≤ h0_asker_cell.toInt ∧ h0_asker_cell.toInt ≤ 39) (h_f_p0_code : CD f_p0_code) (h_h0_world_lawCount : 0 ≤ h0_world_lawCount.toInt ∧ h0_world_lawCount.toInt ≤ 6) (h_h0_world_force : 0 ≤ h0_world_force.toInt ∧ h0_world_force.toInt ≤ 5) (h_h0_world_folk_listeners : 0 ≤ h0_world_folk_listeners.toInt ∧ h0_world_folk_listeners.toInt ≤ 5) (h_h0_world_folk_noises : 0 ≤ h0_world_folk_noises.toInt ∧ h0_world_folk_noises.toInt ≤ 6) (h_f_h0_world_folk_column : CO f_h0_world_folk_column) (h_f_h0_world_rock_hard : HA f_h0_world_rock_hard) (h_f_h0_world_rock_water : WA f_h0_world_rock_water) (h_f_h0_world_term : TE f_h0_world_term) (h_h0_world_crew_count : 0 ≤ h0_world_crew_count.toInt ∧ h0_world_crew_count.toInt ≤ 6) (h_f_h0_world_crew_cell : CE f_h0_world_crew_cell) (h_f_h0_world_crew_buckets : BU f_h0_world_crew_buckets) (h_f_h0_world_rock_kind : KI f_h0_world_rock_kind) (h_t_clauses : 0 ≤ t_clauses.toInt ∧ t_clauses.toInt ≤ 12) (h_t_length : 0 ≤ t_length.toInt ∧ t_length.toInt ≤ 400) (h_f_t_code : CD f_t_code) (h_h0_diary_kept : 0 ≤ h0_diary_kept.toInt ∧ h0_diary_kept.toInt ≤ 16) (h_h0_diary_latest : 0 ≤ h0_diary_latest.toInt ∧ h0_diary_latest.toInt ≤ 15) (h_f_h0_world_folk_noiseColumn : NC f_h0_world_folk_noiseColumn) (h_f_h0_world_folk_noiseLoud : NL f_h0_world_folk_noiseLoud) (e_0 : n_p0_heads < 100000) (e_1 : p0_length.toInt ≤ (n_p0_code : Int)) (e_2 : n_t_heads < 100000) (e_3 : t_length.toInt ≤ (n_t_code : Int)) (e_4 : h0_world_force.toInt < h0_world_lawCount.toInt) (e_5 : f_h0_world_laws (Int32.toNatClampNeg h0_world_force) = some t) (e_6 : DI f_h0_diary_deed f_h0_diary_whose f_h0_diary_before f_h0_diary_bucketsBefore f_h0_diary_dayBefore) {Q : Int32 → (Int32 × Int32 × Value × Value × Int32 × Int32 × Int32 × Int32 × Int32 × Int32 × (Nat → Int64) × Int32 × (Nat → Int32) × Int64 × (Nat → Int32) × (Nat → Int32) × (Nat → Int32) × (Nat → Int32) × Int32 × Int32 × (Nat → Int32) × (Nat → Int32) × (Nat → Int32) × (Nat → Int32) × (Nat → Int32)) → Prop} (hq : ∀ (r : Int32) (u_0 : Int32) (u_1 : Int32) (u_2 : Value) (u_3 : Value) (u_4 : Int32) (u_5 : Int32) (u_6 : Int32) (u_7 : Int32) (u_8 : Int32) (u_9 : Int32) (u_10 : Nat → Int64) (u_11 : Int32) (u_12 : Nat → Int32) (u_13 : Int64) (u_14 : Nat → Int32) (u_15 : Nat → Int32) (u_16 : Nat → Int32) (u_17 : Nat → Int32) (u_18 : Int32) (u_19 : Int32) (u_20 : Nat → Int32) (u_21 : Nat → Int32) (u_22 : Nat → Int32) (u_23 : Nat → Int32) (u_24 : Nat → Int32), (0 ≤ u_0.toInt ∧ u_0.toInt ≤ 240) ∧ (0 ≤ u_4.toInt ∧ u_4.toInt ≤ 39) ∧ (CO u_12) ∧ (WA u_14) ∧ (TE u_15) ∧ (CE u_16) ∧ (BU u_17) ∧ (0 ≤ u_18.toInt ∧ u_18.toInt ≤ 16) ∧ (0 ≤ u_19.toInt ∧ u_19.toInt ≤ 15) ∧ (DI u_20 u_21 u_22 u_23 u_24) → Q r (u_0, u_1, u_2, u_3, u_4, u_5, u_6, u_7, u_8, u_9, u_10, u_11, u_12, u_13, u_14, u_15, u_16, u_17, u_18, u_19, u_20, u_21, u_22, u_23, u_24)) : wp_X7_runOrders_T h0_world p0_clauses p0_length n_p0_heads f_p0_heads h0_asker_world h0_asker_law h0_asker_cell h0_asker_shaft h0_asker_kind h0_asker_done h0_asker_latest h0_asker_value n_p0_code f_p0_code f_h0_asker_stack h0_world_lawCount h0_world_force h0_world_folk_listeners h0_world_folk_noises h0_world_folk_hushed f_h0_world_folk_column h0_world_rock_dug f_h0_world_rock_hard f_h0_world_rock_water f_h0_world_term h0_world_crew_count f_h0_world_crew_cell f_h0_world_crew_buckets f_h0_world_rock_kind f_h0_world_laws t t_clauses t_length n_t_heads f_t_heads n_t_code f_t_code h0_diary_kept h0_diary_latest f_h0_diary_deed f_h0_diary_whose f_h0_diary_before f_h0_diary_bucketsBefore f_h0_diary_dayBefore f_h0_world_folk_noiseColumn f_h0_world_folk_noiseLoud Q := by
  unfold wp_X7_runOrders_T
  have k3 : Int32.toInt 0 = 0 := rfl
  have k4 : Int32.toInt (-1) = (-1) := (by decide)
  refine sl_X7_runOrders_T_12 h0_world p0_clauses p0_length n_p0_heads (f_p0_heads) n_p0_code (f_p0_code) h0_world_lawCount h0_world_force h0_world_folk_listeners h0_world_folk_noises (f_h0_world_rock_hard) h0_world_crew_count (f_h0_world_rock_kind) f_h0_world_laws t t_clauses t_length n_t_heads (f_t_heads) n_t_code (f_t_code) (f_h0_world_folk_noiseColumn) (f_h0_world_folk_noiseLoud) ⟨by omega, by omega⟩ ⟨by omega, by omega⟩ h_f_p0_heads h_f_p0_code ⟨by omega, by omega⟩ ⟨by omega, by omega⟩ ⟨by omega, by omega⟩ ⟨by omega, by omega⟩ h_f_h0_world_rock_hard ⟨by omega, by omega⟩ h_f_h0_world_rock_kind ⟨by omega, by omega⟩ ⟨by omega, by omega⟩ h_f_t_code h_f_h0_world_folk_noiseColumn h_f_h0_world_folk_noiseLoud (by assumption) (by omega) (by omega) (by omega) (by omega) (by omega) hq _ (fun x1_0 x1_1 x1_2 x1_3 x1_4 x1_5 x1_6 x1_7 x1_8 x1_9 x1_10 x1_11 x1_12 x1_13 x1_14 x1_15 x1_16 x1_17 x1_18 x1_19 x1_20 x1_21 x1_22 x1_23 x1_24 x1_25 X2 => ?_) 1000000000000 0 0 (-1) h0_asker_world h0_asker_law h0_asker_cell h0_asker_shaft h0_asker_kind h0_asker_done h0_asker_latest h0_asker_value (f_h0_asker_stack) h0_world_folk_hushed (f_h0_world_folk_column) h0_world_rock_dug (f_h0_world_rock_water) (f_h0_world_term) (f_h0_world_crew_cell) (f_h0_world_crew_buckets) h0_diary_kept h0_diary_latest (f_h0_diary_deed) (f_h0_diary_whose) (f_h0_diary_before) (f_h0_diary_bucketsBefore) (f_h0_diary_dayBefore) ⟨(by decide), (by decide), ⟨by omega, by omega⟩, h_f_h0_world_folk_column, h_f_h0_world_rock_water, h_f_h0_world_term, h_f_h0_world_crew_cell, h_f_h0_world_crew_buckets, ⟨by omega, by omega⟩, ⟨by omega, by omega⟩, e_6, (by omega)⟩ (by omega)
  have j5 := X2.1
  have j6 := X2.2.1
  have j7 := X2.2.2.1
  have j8 := X2.2.2.2.1
  have j9 := X2.2.2.2.2.1
  have j10 := X2.2.2.2.2.2.1
  have j11 := X2.2.2.2.2.2.2.1
  have j12 := X2.2.2.2.2.2.2.2.1
  have j13 := X2.2.2.2.2.2.2.2.2.1
  have j14 := X2.2.2.2.2.2.2.2.2.2.1
  have j15 := X2.2.2.2.2.2.2.2.2.2.2.1
  have j16 := X2.2.2.2.2.2.2.2.2.2.2.2
  exact hq _ _ _ _ _ _ _ _ _ _ _ _ _ _ _ _ _ _ _ _ _ _ _ _ _ _ ⟨⟨by omega, by omega⟩, ⟨by omega, by omega⟩, j8, j9, j10, j11, j12, ⟨by omega, by omega⟩, ⟨by omega, by omega⟩, j15⟩

