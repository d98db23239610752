/-! the laws' row is copied -/
theorem vu_s {α : Type} {f : Nat → α} {k : Nat} {v : α} : va_up f k v k = v := if_pos rfl
theorem vu_n {α : Type} {f : Nat → α} {k j : Nat} {v : α} (h : ¬ j = k) : va_up f k v j = f j := if_neg h
theorem sl_laws {fp : Nat → Option Nat} {TT : Nat → Prop} (hT : ∀ k, k < 6 → ∀ v, fp k = some v → TT v) {Qb : Int32 → (Nat → Option Nat) → Prop} (KX : ∀ (x : Int32) (f : Nat → Option Nat), (∀ k, k < 6 → f k = fp k) → Qb x f) : ∀ (n i : Nat) (x : Int32) (f : Nat → Option Nat), x.toInt = (i : Int) → i ≤ 6 → 6 - i < n → (∀ k, k < i → f k = fp k) → wl_X10_copyFrom_53 fp TT Qb n x f := by
  intro n
  induction n with
  | zero => intro i x f _ _ h; omega
  | succ n ih =>
    intro i x f hx hi hm hf
    unfold wl_X10_copyFrom_53
    by_cases c : 6 ≤ x
    · have c' := le_z (a := 6) (b := x) (x := 6) rfl hx c
      exact br1 c (KX _ _ (fun k hk => hf k (by omega)))
    · have c' := nle_z (a := 6) (b := x) (x := 6) rfl hx c
      have hv : vp_in x 6 := vpi hx (by omega) (by omega)
      refine br0 c ⟨hv, hv, ?_⟩
      rw [tnN hx]
      refine ⟨hT i (by omega), ?_⟩
      refine ih (i + 1) _ _ (add1 hx (by omega)) (by omega) (by omega) (fun j hj => ?_)
      by_cases q : j = i
      · rw [q, vu_s]
      · rw [vu_n q]; exact hf j (by omega)
theorem o_X0_reckoned (h0_value : Int32) (Q : Int32 → Prop) (h : (Q h0_value)) : wp_X0_reckoned h0_value Q := h

theorem o_X0_turnToOrders (b : Int32) (d : Int32) (Q : (Int32 × Int32) → Prop) (h : (Q (b, d))) : wp_X0_turnToOrders b d Q := h

set_option maxRecDepth 100000 in
theorem s_X2_copyFrom (p0_kept : Int32) (p0_latest : Int32) (f_p0_deed : Nat → Int32) (f_h0_deed : Nat → Int32) (f_p0_whose : Nat → Int32) (f_h0_whose : Nat → Int32) (f_p0_before : Nat → Int32) (f_h0_before : Nat → Int32) (f_p0_bucketsBefore : Nat → Int32) (f_h0_bucketsBefore : Nat → Int32) (f_p0_dayBefore : Nat → Int32) (f_h0_dayBefore : Nat → Int32) (h_p0_kept : 0 ≤ p0_kept.toInt ∧ p0_kept.toInt ≤ 16) (h_p0_latest : 0 ≤ p0_latest.toInt ∧ p0_latest.toInt ≤ 15) (e_0 : DI f_p0_deed f_p0_whose f_p0_before f_p0_bucketsBefore f_p0_dayBefore) {Q : (Int32 × Int32 × (Nat → Int32) × (Nat → Int32) × (Nat → Int32) × (Nat → Int32) × (Nat → Int32)) → Prop} (hq : ∀ (u_0 : Int32) (u_1 : Int32) (u_2 : Nat → Int32) (u_3 : Nat → Int32) (u_4 : Nat → Int32) (u_5 : Nat → Int32) (u_6 : Nat → Int32), (0 ≤ u_0.toInt ∧ u_0.toInt ≤ 16) ∧ (0 ≤ u_1.toInt ∧ u_1.toInt ≤ 15) ∧ (DI u_2 u_3 u_4 u_5 u_6) → Q (u_0, u_1, u_2, u_3, u_4, u_5, u_6)) : wp_X2_copyFrom p0_kept p0_latest f_p0_deed f_h0_deed f_p0_whose f_h0_whose f_p0_before f_h0_before f_p0_bucketsBefore f_h0_bucketsBefore f_p0_dayBefore f_h0_dayBefore Q := by
  unfold wp_X2_copyFrom
  exact hq _ _ _ _ _ _ _ ⟨⟨by omega, by omega⟩, ⟨by omega, by omega⟩, (DI.cp e_0)⟩


set_option maxRecDepth 100000 in
theorem s_X10_copyFrom (p0_lawCount : Int32) (p0_force : Int32) (p0_rock_dug : Int64) (f_p0_rock_kind : Nat → Int32) (f_h0_rock_kind : Nat → Int32) (f_p0_rock_hard : Nat → Int32) (f_h0_rock_hard : Nat → Int32) (f_p0_rock_water : Nat → Int32) (f_h0_rock_water : Nat → Int32) (p0_crew_count : Int32) (f_p0_crew_cell : Nat → Int32) (f_h0_crew_cell : Nat → Int32) (f_p0_crew_buckets : Nat → Int32) (f_h0_crew_buckets : Nat → Int32) (p0_folk_listeners : Int32) (p0_folk_noises : Int32) (p0_folk_hushed : Int32) (p0_folk_hearsay : Int32) (p0_folk_wells : Int32) (f_p0_folk_column : Nat → Int32) (f_h0_folk_column : Nat → Int32) (f_p0_folk_ear : Nat → Int32) (f_h0_folk_ear : Nat → Int32) (f_p0_folk_noiseColumn : Nat → Int32) (f_h0_folk_noiseColumn : Nat → Int32) (f_p0_folk_noiseLoud : Nat → Int32) (f_h0_folk_noiseLoud : Nat → Int32) (f_p0_folk_hearsayColumn : Nat → Int32) (f_h0_folk_hearsayColumn : Nat → Int32) (f_p0_folk_hearsayLoud : Nat → Int32) (f_h0_folk_hearsayLoud : Nat → Int32) (f_p0_folk_sounds : Nat → Int32) (f_h0_folk_sounds : Nat → Int32) (f_p0_folk_wet : Nat → Int32) (f_h0_folk_wet : Nat → Int32) (f_h0_term : Nat → Int32) (f_p0_term : Nat → Int32) (f_p0_laws : Nat → Option Nat) (f_h0_laws : Nat → Option Nat) (TT : Nat → Prop) (h_p0_lawCount : 0 ≤ p0_lawCount.toInt ∧ p0_lawCount.toInt ≤ 6) (h_p0_force : (-1) ≤ p0_force.toInt ∧ p0_force.toInt ≤ 5) (h_f_p0_rock_kind : KI f_p0_rock_kind) (h_f_h0_rock_kind : KI f_h0_rock_kind) (h_f_p0_rock_hard : HA f_p0_rock_hard) (h_f_h0_rock_hard : HA f_h0_rock_hard) (h_f_p0_rock_water : WA f_p0_rock_water) (h_f_h0_rock_water : WA f_h0_rock_water) (h_p0_crew_count : 0 ≤ p0_crew_count.toInt ∧ p0_crew_count.toInt ≤ 6) (h_f_p0_crew_cell : CE f_p0_crew_cell) (h_f_h0_crew_cell : CE f_h0_crew_cell) (h_f_p0_crew_buckets : BU f_p0_crew_buckets) (h_f_h0_crew_buckets : BU f_h0_crew_buckets) (h_p0_folk_listeners : 0 ≤ p0_folk_listeners.toInt ∧ p0_folk_listeners.toInt ≤ 5) (h_p0_folk_noises : 0 ≤ p0_folk_noises.toInt ∧ p0_folk_noises.toInt ≤ 6) (h_p0_folk_hearsay : 0 ≤ p0_folk_hearsay.toInt ∧ p0_folk_hearsay.toInt ≤ 8) (h_p0_folk_wells : 0 ≤ p0_folk_wells.toInt ∧ p0_folk_wells.toInt ≤ 10) (h_f_p0_folk_column : CO f_p0_folk_column) (h_f_h0_folk_column : CO f_h0_folk_column) (h_f_p0_folk_ear : EA f_p0_folk_ear) (h_f_h0_folk_ear : EA f_h0_folk_ear) (h_f_p0_folk_noiseColumn : NC f_p0_folk_noiseColumn) (h_f_h0_folk_noiseColumn : NC f_h0_folk_noiseColumn) (h_f_p0_folk_noiseLoud : NL f_p0_folk_noiseLoud) (h_f_h0_folk_noiseLoud : NL f_h0_folk_noiseLoud) (h_f_p0_folk_hearsayColumn : HC f_p0_folk_hearsayColumn) (h_f_h0_folk_hearsayColumn : HC f_h0_folk_hearsayColumn) (h_f_p0_folk_hearsayLoud : HL f_p0_folk_hearsayLoud) (h_f_h0_folk_hearsayLoud : HL f_h0_folk_hearsayLoud) (h_f_h0_term : TE f_h0_term) (h_f_p0_term : TE f_p0_term) (e_0 : ∀ k, k < 6 → ∀ v, f_p0_laws k = some v → TT v) {Q : (Int32 × Int32 × Int64 × (Nat → Int32) × (Nat → Int32) × (Nat → Int32) × Int32 × (Nat → Int32) × (Nat → Int32) × Int32 × Int32 × Int32 × Int32 × Int32 × (Nat → Int32) × (Nat → Int32) × (Nat → Int32) × (Nat → Int32) × (Nat → Int32) × (Nat → Int32) × (Nat → Int32) × (Nat → Int32) × (Nat → Int32) × (Nat → Option Nat)) → Prop} (hq : ∀ (u_0 : Int32) (u_1 : Int32) (u_2 : Int64) (u_3 : Nat → Int32) (u_4 : Nat → Int32) (u_5 : Nat → Int32) (u_6 : Int32) (u_7 : Nat → Int32) (u_8 : Nat → Int32) (u_9 : Int32) (u_10 : Int32) (u_11 : Int32) (u_12 : Int32) (u_13 : Int32) (u_14 : Nat → Int32) (u_15 : Nat → Int32) (u_16 : Nat → Int32) (u_17 : Nat → Int32) (u_18 : Nat → Int32) (u_19 : Nat → Int32) (u_20 : Nat → Int32) (u_21 : Nat → Int32) (u_22 : Nat → Int32) (u_23 : Nat → Option Nat), (0 ≤ u_0.toInt ∧ u_0.toInt ≤ 6) ∧ ((-1) ≤ u_1.toInt ∧ u_1.toInt ≤ 5) ∧ (KI u_3) ∧ (HA u_4) ∧ (WA u_5) ∧ (0 ≤ u_6.toInt ∧ u_6.toInt ≤ 6) ∧ (CE u_7) ∧ (BU u_8) ∧ (0 ≤ u_9.toInt ∧ u_9.toInt ≤ 5) ∧ (0 ≤ u_10.toInt ∧ u_10.toInt ≤ 6) ∧ (0 ≤ u_12.toInt ∧ u_12.toInt ≤ 8) ∧ (0 ≤ u_13.toInt ∧ u_13.toInt ≤ 10) ∧ (CO u_14) ∧ (EA u_15) ∧ (NC u_16) ∧ (NL u_17) ∧ (HC u_18) ∧ (HL u_19) ∧ (TE u_22) ∧ (∀ k, k < 6 → u_23 k = f_p0_laws k) ∧ (u_0 = p0_lawCount) ∧ (u_1 = p0_force) → Q (u_0, u_1, u_2, u_3, u_4, u_5, u_6, u_7, u_8, u_9, u_10, u_11, u_12, u_13, u_14, u_15, u_16, u_17, u_18, u_19, u_20, u_21, u_22, u_23)) : wp_X10_copyFrom p0_lawCount p0_force p0_rock_dug f_p0_rock_kind f_h0_rock_kind f_p0_rock_hard f_h0_rock_hard f_p0_rock_water f_h0_rock_water p0_crew_count f_p0_crew_cell f_h0_crew_cell f_p0_crew_buckets f_h0_crew_buckets p0_folk_listeners p0_folk_noises p0_folk_hushed p0_folk_hearsay p0_folk_wells f_p0_folk_column f_h0_folk_column f_p0_folk_ear f_h0_folk_ear f_p0_folk_noiseColumn f_h0_folk_noiseColumn f_p0_folk_noiseLoud f_h0_folk_noiseLoud f_p0_folk_hearsayColumn f_h0_folk_hearsayColumn f_p0_folk_hearsayLoud f_h0_folk_hearsayLoud f_p0_folk_sounds f_h0_folk_sounds f_p0_folk_wet f_h0_folk_wet f_h0_term f_p0_term f_p0_laws f_h0_laws TT Q := by
  unfold wp_X10_copyFrom
  refine s_X6_copyFrom p0_rock_dug (f_p0_rock_kind) (f_h0_rock_kind) (f_p0_rock_hard) (f_h0_rock_hard) (f_p0_rock_water) (f_h0_rock_water) h_f_p0_rock_kind h_f_h0_rock_kind h_f_p0_rock_hard h_f_h0_rock_hard h_f_p0_rock_water h_f_h0_rock_water (fun u1_0 u1_1 u1_2 u1_3 H2 => ?_)
  have j3 := H2.1
  have j4 := H2.2.1
  have j5 := H2.2.2
  refine un4_i ?_
  refine s_X1_copyFrom p0_crew_count (f_p0_crew_cell) (f_h0_crew_cell) (f_p0_crew_buckets) (f_h0_crew_buckets) ⟨by omega, by omega⟩ h_f_p0_crew_cell h_f_h0_crew_cell h_f_p0_crew_buckets h_f_h0_crew_buckets (fun u6_0 u6_1 u6_2 H7 => ?_)
  have j8 := H7.1
  have j9 := H7.2.1
  have j10 := H7.2.2
  refine un3_i ?_
  refine s_X4_copyFrom p0_folk_listeners p0_folk_noises p0_folk_hushed p0_folk_hearsay p0_folk_wells (f_p0_folk_column) (f_h0_folk_column) (f_p0_folk_ear) (f_h0_folk_ear) (f_p0_folk_noiseColumn) (f_h0_folk_noiseColumn) (f_p0_folk_noiseLoud) (f_h0_folk_noiseLoud) (f_p0_folk_hearsayColumn) (f_h0_folk_hearsayColumn) (f_p0_folk_hearsayLoud) (f_h0_folk_hearsayLoud) (f_p0_folk_sounds) (f_h0_folk_sounds) (f_p0_folk_wet) (f_h0_folk_wet) ⟨by omega, by omega⟩ ⟨by omega, by omega⟩ ⟨by omega, by omega⟩ ⟨by omega, by omega⟩ h_f_p0_folk_column h_f_h0_folk_column h_f_p0_folk_ear h_f_h0_folk_ear h_f_p0_folk_noiseColumn h_f_h0_folk_noiseColumn h_f_p0_folk_noiseLoud h_f_h0_folk_noiseLoud h_f_p0_folk_hearsayColumn h_f_h0_folk_hearsayColumn h_f_p0_folk_hearsayLoud h_f_h0_folk_hearsayLoud (fun u11_0 u11_1 u11_2 u11_3 u11_4 u11_5 u11_6 u11_7 u11_8 u11_9 u11_10 u11_11 u11_12 H12 => ?_)
  have j13 := H12.1
  have j14 := H12.2.1
  have j15 := H12.2.2.1
  have j16 := H12.2.2.2.1
  have j17 := H12.2.2.2.2.1
  have j18 := H12.2.2.2.2.2.1
  have j19 := H12.2.2.2.2.2.2.1
  have j20 := H12.2.2.2.2.2.2.2.1
  have j21 := H12.2.2.2.2.2.2.2.2.1
  have j22 := H12.2.2.2.2.2.2.2.2.2
  refine un13_i ?_
  refine sl_laws e_0 (fun x23 f24 hl25 => ?_) 1000000000000 0 _ _ rfl (by decide) (by decide) (fun k hk => absurd hk (by omega))
  exact hq _ _ _ _ _ _ _ _ _ _ _ _ _ _ _ _ _ _ _ _ _ _ _ _ ⟨⟨by omega, by omega⟩, ⟨by omega, by omega⟩, j3, j4, j5, ⟨by omega, by omega⟩, j9, j10, ⟨by omega, by omega⟩, ⟨by omega, by omega⟩, ⟨by omega, by omega⟩, ⟨by omega, by omega⟩, j17, j18, j19, j20, j21, j22, (TE.cp h_f_p0_term), hl25, rfl, rfl⟩


set_option maxRecDepth 100000 in
theorem s_X7_copyFrom (p0_world_lawCount : Int32) (p0_world_force : Int32) (p0_world_rock_dug : Int64) (f_p0_world_rock_kind : Nat → Int32) (f_h0_world_rock_kind : Nat → Int32) (f_p0_world_rock_hard : Nat → Int32) (f_h0_world_rock_hard : Nat → Int32) (f_p0_world_rock_water : Nat → Int32) (f_h0_world_rock_water : Nat → Int32) (p0_world_crew_count : Int32) (f_p0_world_crew_cell : Nat → Int32) (f_h0_world_crew_cell : Nat → Int32) (f_p0_world_crew_buckets : Nat → Int32) (f_h0_world_crew_buckets : Nat → Int32) (p0_world_folk_listeners : Int32) (p0_world_folk_noises : Int32) (p0_world_folk_hushed : Int32) (p0_world_folk_hearsay : Int32) (p0_world_folk_wells : Int32) (f_p0_world_folk_column : Nat → Int32) (f_h0_world_folk_column : Nat → Int32) (f_p0_world_folk_ear : Nat → Int32) (f_h0_world_folk_ear : Nat → Int32) (f_p0_world_folk_noiseColumn : Nat → Int32) (f_h0_world_folk_noiseColumn : Nat → Int32) (f_p0_world_folk_noiseLoud : Nat → Int32) (f_h0_world_folk_noiseLoud : Nat → Int32) (f_p0_world_folk_hearsayColumn : Nat → Int32) (f_h0_world_folk_hearsayColumn : Nat → Int32) (f_p0_world_folk_hearsayLoud : Nat → Int32) (f_h0_world_folk_hearsayLoud : Nat → Int32) (f_p0_world_folk_sounds : Nat → Int32) (f_h0_world_folk_sounds : Nat → Int32) (f_p0_world_folk_wet : Nat → Int32) (f_h0_world_folk_wet : Nat → Int32) (f_h0_world_term : Nat → Int32) (f_p0_world_term : Nat → Int32) (f_p0_world_laws : Nat → Option Nat) (f_h0_world_laws : Nat → Option Nat) (p0_diary_kept : Int32) (p0_diary_latest : Int32) (f_p0_diary_deed : Nat → Int32) (f_h0_diary_deed : Nat → Int32) (f_p0_diary_whose : Nat → Int32) (f_h0_diary_whose : Nat → Int32) (f_p0_diary_before : Nat → Int32) (f_h0_diary_before : Nat → Int32) (f_p0_diary_bucketsBefore : Nat → Int32) (f_h0_diary_bucketsBefore : Nat → Int32) (f_p0_diary_dayBefore : Nat → Int32) (f_h0_diary_dayBefore : Nat → Int32) (TT : Nat → Prop) (h_p0_world_lawCount : 0 ≤ p0_world_lawCount.toInt ∧ p0_world_lawCount.toInt ≤ 6) (h_p0_world_force : (-1) ≤ p0_world_force.toInt ∧ p0_world_force.toInt ≤ 5) (h_f_p0_world_rock_kind : KI f_p0_world_rock_kind) (h_f_h0_world_rock_kind : KI f_h0_world_rock_kind) (h_f_p0_world_rock_hard : HA f_p0_world_rock_hard) (h_f_h0_world_rock_hard : HA f_h0_world_rock_hard) (h_f_p0_world_rock_water : WA f_p0_world_rock_water) (h_f_h0_world_rock_water : WA f_h0_world_rock_water) (h_p0_world_crew_count : 0 ≤ p0_world_crew_count.toInt ∧ p0_world_crew_count.toInt ≤ 6) (h_f_p0_world_crew_cell : CE f_p0_world_crew_cell) (h_f_h0_world_crew_cell : CE f_h0_world_crew_cell) (h_f_p0_world_crew_buckets : BU f_p0_world_crew_buckets) (h_f_h0_world_crew_buckets : BU f_h0_world_crew_buckets) (h_p0_world_folk_listeners : 0 ≤ p0_world_folk_listeners.toInt ∧ p0_world_folk_listeners.toInt ≤ 5) (h_p0_world_folk_noises : 0 ≤ p0_world_folk_noises.toInt ∧ p0_world_folk_noises.toInt ≤ 6) (h_p0_world_folk_hearsay : 0 ≤ p0_world_folk_hearsay.toInt ∧ p0_world_folk_hearsay.toInt ≤ 8) (h_p0_world_folk_wells : 0 ≤ p0_world_folk_wells.toInt ∧ p0_world_folk_wells.toInt ≤ 10) (h_f_p0_world_folk_column : CO f_p0_world_folk_column) (h_f_h0_world_folk_column : CO f_h0_world_folk_column) (h_f_p0_world_folk_ear : EA f_p0_world_folk_ear) (h_f_h0_world_folk_ear : EA f_h0_world_folk_ear) (h_f_p0_world_folk_noiseColumn : NC f_p0_world_folk_noiseColumn) (h_f_h0_world_folk_noiseColumn : NC f_h0_world_folk_noiseColumn) (h_f_p0_world_folk_noiseLoud : NL f_p0_world_folk_noiseLoud) (h_f_h0_world_folk_noiseLoud : NL f_h0_world_folk_noiseLoud) (h_f_p0_world_folk_hearsayColumn : HC f_p0_world_folk_hearsayColumn) (h_f_h0_world_folk_hearsayColumn : HC f_h0_world_folk_hearsayColumn) (h_f_p0_world_folk_hearsayLoud : HL f_p0_world_folk_hearsayLoud) (h_f_h0_world_folk_hearsayLoud : HL f_h0_world_folk_hearsayLoud) (h_f_h0_world_term : TE f_h0_world_term) (h_f_p0_world_term : TE f_p0_world_term) (h_p0_diary_kept : 0 ≤ p0_diary_kept.toInt ∧ p0_diary_kept.toInt ≤ 16) (h_p0_diary_latest : 0 ≤ p0_diary_latest.toInt ∧ p0_diary_latest.toInt ≤ 15) (e_0 : ∀ k, k < 6 → ∀ v, f_p0_world_laws k = some v → TT v) (e_1 : DI f_p0_diary_deed f_p0_diary_whose f_p0_diary_before f_p0_diary_bucketsBefore f_p0_diary_dayBefore) {Q : (Int32 × Int32 × Int64 × (Nat → Int32) × (Nat → Int32) × (Nat → Int32) × Int32 × (Nat → Int32) × (Nat → Int32) × Int32 × Int32 × Int32 × Int32 × Int32 × (Nat → Int32) × (Nat → Int32) × (Nat → Int32) × (Nat → Int32) × (Nat → Int32) × (Nat → Int32) × (Nat → Int32) × (Nat → Int32) × (Nat → Int32) × (Nat → Option Nat) × Int32 × Int32 × (Nat → Int32) × (Nat → Int32) × (Nat → Int32) × (Nat → Int32) × (Nat → Int32)) → Prop} (hq : ∀ (u_0 : Int32) (u_1 : Int32) (u_2 : Int64) (u_3 : Nat → Int32) (u_4 : Nat → Int32) (u_5 : Nat → Int32) (u_6 : Int32) (u_7 : Nat → Int32) (u_8 : Nat → Int32) (u_9 : Int32) (u_10 : Int32) (u_11 : Int32) (u_12 : Int32) (u_13 : Int32) (u_14 : Nat → Int32) (u_15 : Nat → Int32) (u_16 : Nat → Int32) (u_17 : Nat → Int32) (u_18 : Nat → Int32) (u_19 : Nat → Int32) (u_20 : Nat → Int32) (u_21 : Nat → Int32) (u_22 : Nat → Int32) (u_23 : Nat → Option Nat) (u_24 : Int32) (u_25 : Int32) (u_26 : Nat → Int32) (u_27 : Nat → Int32) (u_28 : Nat → Int32) (u_29 : Nat → Int32) (u_30 : Nat → Int32), (0 ≤ u_0.toInt ∧ u_0.toInt ≤ 6) ∧ ((-1) ≤ u_1.toInt ∧ u_1.toInt ≤ 5) ∧ (KI u_3) ∧ (HA u_4) ∧ (WA u_5) ∧ (0 ≤ u_6.toInt ∧ u_6.toInt ≤ 6) ∧ (CE u_7) ∧ (BU u_8) ∧ (0 ≤ u_9.toInt ∧ u_9.toInt ≤ 5) ∧ (0 ≤ u_10.toInt ∧ u_10.toInt ≤ 6) ∧ (0 ≤ u_12.toInt ∧ u_12.toInt ≤ 8) ∧ (0 ≤ u_13.toInt ∧ u_13.toInt ≤ 10) ∧ (CO u_14) ∧ (EA u_15) ∧ (NC u_16) ∧ (NL u_17) ∧ (HC u_18) ∧ (HL u_19) ∧ (TE u_22) ∧ (0 ≤ u_24.toInt ∧ u_24.toInt ≤ 16) ∧ (0 ≤ u_25.toInt ∧ u_25.toInt ≤ 15) ∧ (∀ k, k < 6 → u_23 k = f_p0_world_laws k) ∧ (u_0 = p0_world_lawCount) ∧ (u_1 = p0_world_force) ∧ (DI u_26 u_27 u_28 u_29 u_30) → Q (u_0, u_1, u_2, u_3, u_4, u_5, u_6, u_7, u_8, u_9, u_10, u_11, u_12, u_13, u_14, u_15, u_16, u_17, u_18, u_19, u_20, u_21, u_22, u_23, u_24, u_25, u_26, u_27, u_28, u_29, u_30)) : wp_X7_copyFrom p0_world_lawCount p0_world_force p0_world_rock_dug f_p0_world_rock_kind f_h0_world_rock_kind f_p0_world_rock_hard f_h0_world_rock_hard f_p0_world_rock_water f_h0_world_rock_water p0_world_crew_count f_p0_world_crew_cell f_h0_world_crew_cell f_p0_world_crew_buckets f_h0_world_crew_buckets p0_world_folk_listeners p0_world_folk_noises p0_world_folk_hushed p0_world_folk_hearsay p0_world_folk_wells f_p0_world_folk_column f_h0_world_folk_column f_p0_world_folk_ear f_h0_world_folk_ear f_p0_world_folk_noiseColumn f_h0_world_folk_noiseColumn f_p0_world_folk_noiseLoud f_h0_world_folk_noiseLoud f_p0_world_folk_hearsayColumn f_h0_world_folk_hearsayColumn f_p0_world_folk_hearsayLoud f_h0_world_folk_hearsayLoud f_p0_world_folk_sounds f_h0_world_folk_sounds f_p0_world_folk_wet f_h0_world_folk_wet f_h0_world_term f_p0_world_term f_p0_world_laws f_h0_world_laws p0_diary_kept p0_diary_latest f_p0_diary_deed f_h0_diary_deed f_p0_diary_whose f_h0_diary_whose f_p0_diary_before f_h0_diary_before f_p0_diary_bucketsBefore f_h0_diary_bucketsBefore f_p0_diary_dayBefore f_h0_diary_dayBefore TT Q := by
  unfold wp_X7_copyFrom
  refine s_X10_copyFrom p0_world_lawCount p0_world_force p0_world_rock_dug (f_p0_world_rock_kind) (f_h0_world_rock_kind) (f_p0_world_rock_hard) (f_h0_world_rock_hard) (f_p0_world_rock_water) (f_h0_world_rock_water) p0_world_crew_count (f_p0_world_crew_cell) (f_h0_world_crew_cell) (f_p0_world_crew_buckets) (f_h0_world_crew_buckets) p0_world_folk_listeners p0_world_folk_noises p0_world_folk_hushed p0_world_folk_hearsay p0_world_folk_wells (f_p0_world_folk_column) (f_h0_world_folk_column) (f_p0_world_folk_ear) (f_h0_world_folk_ear) (f_p0_world_folk_noiseColumn) (f_h0_world_folk_noiseColumn) (f_p0_world_folk_noiseLoud) (f_h0_world_folk_noiseLoud) (f_p0_world_folk_hearsayColumn) (f_h0_world_folk_hearsayColumn) (f_p0_world_folk_hearsayLoud) (f_h0_world_folk_hearsayLoud) (f_p0_world_folk_sounds) (f_h0_world_folk_sounds) (f_p0_world_folk_wet) (f_h0_world_folk_wet) (f_h0_world_term) (f_p0_world_term) (f_p0_world_laws) (f_h0_world_laws) TT ⟨by omega, by omega⟩ ⟨by omega, by omega⟩ h_f_p0_world_rock_kind h_f_h0_world_rock_kind h_f_p0_world_rock_hard h_f_h0_world_rock_hard h_f_p0_world_rock_water h_f_h0_world_rock_water ⟨by omega, by omega⟩ h_f_p0_world_crew_cell h_f_h0_world_crew_cell h_f_p0_world_crew_buckets h_f_h0_world_crew_buckets ⟨by omega, by omega⟩ ⟨by omega, by omega⟩ ⟨by omega, by omega⟩ ⟨by omega, by omega⟩ h_f_p0_world_folk_column h_f_h0_world_folk_column h_f_p0_world_folk_ear h_f_h0_world_folk_ear h_f_p0_world_folk_noiseColumn h_f_h0_world_folk_noiseColumn h_f_p0_world_folk_noiseLoud h_f_h0_world_folk_noiseLoud h_f_p0_world_folk_hearsayColumn h_f_h0_world_folk_hearsayColumn h_f_p0_world_folk_hearsayLoud h_f_h0_world_folk_hearsayLoud h_f_h0_world_term h_f_p0_world_term e_0 (fun u1_0 u1_1 u1_2 u1_3 u1_4 u1_5 u1_6 u1_7 u1_8 u1_9 u1_10 u1_11 u1_12 u1_13 u1_14 u1_15 u1_16 u1_17 u1_18 u1_19 u1_20 u1_21 u1_22 u1_23 H2 => ?_)
  have j3 := H2.1
  have j4 := H2.2.1
  have j5 := H2.2.2.1
  have j6 := H2.2.2.2.1
  have j7 := H2.2.2.2.2.1
  have j8 := H2.2.2.2.2.2.1
  have j9 := H2.2.2.2.2.2.2.1
  have j10 := H2.2.2.2.2.2.2.2.1
  have j11 := H2.2.2.2.2.2.2.2.2.1
  have j12 := H2.2.2.2.2.2.2.2.2.2.1
  have j13 := H2.2.2.2.2.2.2.2.2.2.2.1
  have j14 := H2.2.2.2.2.2.2.2.2.2.2.2.1
  have j15 := H2.2.2.2.2.2.2.2.2.2.2.2.2.1
  have j16 := H2.2.2.2.2.2.2.2.2.2.2.2.2.2.1
  have j17 := H2.2.2.2.2.2.2.2.2.2.2.2.2.2.2.1
  have j18 := H2.2.2.2.2.2.2.2.2.2.2.2.2.2.2.2.1
  have j19 := H2.2.2.2.2.2.2.2.2.2.2.2.2.2.2.2.2.1
  have j20 := H2.2.2.2.2.2.2.2.2.2.2.2.2.2.2.2.2.2.1
  have j21 := H2.2.2.2.2.2.2.2.2.2.2.2.2.2.2.2.2.2.2.1
  have j22 := H2.2.2.2.2.2.2.2.2.2.2.2.2.2.2.2.2.2.2.2.1
  have j23 := H2.2.2.2.2.2.2.2.2.2.2.2.2.2.2.2.2.2.2.2.2.1
  have j24 := H2.2.2.2.2.2.2.2.2.2.2.2.2.2.2.2.2.2.2.2.2.2
  refine un24_i ?_
  refine s_X2_copyFrom p0_diary_kept p0_diary_latest (f_p0_diary_deed) (f_h0_diary_deed) (f_p0_diary_whose) (f_h0_diary_whose) (f_p0_diary_before) (f_h0_diary_before) (f_p0_diary_bucketsBefore) (f_h0_diary_bucketsBefore) (f_p0_diary_dayBefore) (f_h0_diary_dayBefore) ⟨by omega, by omega⟩ ⟨by omega, by omega⟩ e_1 (fun u25_0 u25_1 u25_2 u25_3 u25_4 u25_5 u25_6 H26 => ?_)
  have j27 := H26.1
  have j28 := H26.2.1
  have j29 := H26.2.2
  refine un7_i ?_
  exact hq _ _ _ _ _ _ _ _ _ _ _ _ _ _ _ _ _ _ _ _ _ _ _ _ _ _ _ _ _ _ _ ⟨⟨by omega, by omega⟩, ⟨by omega, by omega⟩, j5, j6, j7, ⟨by omega, by omega⟩, j9, j10, ⟨by omega, by omega⟩, ⟨by omega, by omega⟩, ⟨by omega, by omega⟩, ⟨by omega, by omega⟩, j15, j16, j17, j18, j19, j20, j21, ⟨by omega, by omega⟩, ⟨by omega, by omega⟩, j22, j23, j24, j29⟩


set_option maxRecDepth 100000 in
theorem s_X7_runOrder_N (b : Int32) (h0_world : Nat) (h0_latest : Int32) (p0_length : Int32) (n_p0_heads : Nat) (f_p0_heads : Nat → Int32) (h0_asker_law : Value) (h0_asker_cell : Int32) (h0_asker_shaft : Int32) (h0_asker_kind : Int32) (h0_asker_done : Int32) (h0_asker_latest : Int32) (h0_asker_value : Int32) (n_p0_code : Nat) (f_p0_code : Nat → Int32) (f_h0_asker_stack : Nat → Int64) (h0_world_lawCount : Int32) (h0_world_force : Int32) (h0_world_folk_listeners : Int32) (h0_world_folk_noises : Int32) (h0_world_folk_hushed : Int32) (f_h0_world_folk_column : Nat → Int32) (h0_world_rock_dug : Int64) (f_h0_world_rock_hard : Nat → Int32) (f_h0_world_rock_water : Nat → Int32) (f_h0_world_term : Nat → Int32) (h0_world_crew_count : Int32) (f_h0_world_crew_cell : Nat → Int32) (f_h0_world_crew_buckets : Nat → Int32) (f_h0_world_rock_kind : Nat → Int32) (f_h0_world_laws : Nat → Option Nat) (h0_diary_kept : Int32) (h0_diary_latest : Int32) (f_h0_diary_deed : Nat → Int32) (f_h0_diary_whose : Nat → Int32) (f_h0_diary_before : Nat → Int32) (f_h0_diary_bucketsBefore : Nat → Int32) (f_h0_diary_dayBefore : Nat → Int32) (f_h0_world_folk_noiseColumn : Nat → Int32) (f_h0_world_folk_noiseLoud : Nat → Int32) (h_p0_length : 0 ≤ p0_length.toInt ∧ p0_length.toInt ≤ 400) (h_h0_asker_cell : 0 ≤ h0_asker_cell.toInt ∧ h0_asker_cell.toInt ≤ 39) (h_f_p0_code : CD f_p0_code) (h_h0_world_lawCount : 0 ≤ h0_world_lawCount.toInt ∧ h0_world_lawCount.toInt ≤ 6) (h_h0_world_force : (-1) ≤ h0_world_force.toInt ∧ h0_world_force.toInt ≤ (-1)) (h_h0_world_folk_listeners : 0 ≤ h0_world_folk_listeners.toInt ∧ h0_world_folk_listeners.toInt ≤ 5) (h_h0_world_folk_noises : 0 ≤ h0_world_folk_noises.toInt ∧ h0_world_folk_noises.toInt ≤ 6) (h_f_h0_world_folk_column : CO f_h0_world_folk_column) (h_f_h0_world_rock_hard : HA f_h0_world_rock_hard) (h_f_h0_world_rock_water : WA f_h0_world_rock_water) (h_f_h0_world_term : TE f_h0_world_term) (h_h0_world_crew_count : 0 ≤ h0_world_crew_count.toInt ∧ h0_world_crew_count.toInt ≤ 6) (h_f_h0_world_crew_cell : CE f_h0_world_crew_cell) (h_f_h0_world_crew_buckets : BU f_h0_world_crew_buckets) (h_f_h0_world_rock_kind : KI f_h0_world_rock_kind) (h_h0_diary_kept : 0 ≤ h0_diary_kept.toInt ∧ h0_diary_kept.toInt ≤ 16) (h_h0_diary_latest : 0 ≤ h0_diary_latest.toInt ∧ h0_diary_latest.toInt ≤ 15) (h_f_h0_world_folk_noiseColumn : NC f_h0_world_folk_noiseColumn) (h_f_h0_world_folk_noiseLoud : NL f_h0_world_folk_noiseLoud) (e_0 : n_p0_heads < 100000) (e_1 : p0_length.toInt ≤ (n_p0_code : Int)) (e_2 : DI f_h0_diary_deed f_h0_diary_whose f_h0_diary_before f_h0_diary_bucketsBefore f_h0_diary_dayBefore) {Q : Int32 → (Int32 × Value × Value × Int32 × Int32 × Int32 × Int32 × (Nat → Int64) × Int32 × (Nat → Int32) × Int64 × (Nat → Int32) × (Nat → Int32) × (Nat → Int32) × (Nat → Int32) × Int32 × Int32 × (Nat → Int32) × (Nat → Int32) × (Nat → Int32) × (Nat → Int32) × (Nat → Int32)) → Prop} (hq : ∀ (r : Int32) (u_0 : Int32) (u_1 : Value) (u_2 : Value) (u_3 : Int32) (u_4 : Int32) (u_5 : Int32) (u_6 : Int32) (u_7 : Nat → Int64) (u_8 : Int32) (u_9 : Nat → Int32) (u_10 : Int64) (u_11 : Nat → Int32) (u_12 : Nat → Int32) (u_13 : Nat → Int32) (u_14 : Nat → Int32) (u_15 : Int32) (u_16 : Int32) (u_17 : Nat → Int32) (u_18 : Nat → Int32) (u_19 : Nat → Int32) (u_20 : Nat → Int32) (u_21 : Nat → Int32), (0 ≤ u_3.toInt ∧ u_3.toInt ≤ 39) ∧ (CO u_9) ∧ (WA u_11) ∧ (TE u_12) ∧ (CE u_13) ∧ (BU u_14) ∧ (0 ≤ u_15.toInt ∧ u_15.toInt ≤ 16) ∧ (0 ≤ u_16.toInt ∧ u_16.toInt ≤ 15) ∧ (DI u_17 u_18 u_19 u_20 u_21) → Q r (u_0, u_1, u_2, u_3, u_4, u_5, u_6, u_7, u_8, u_9, u_10, u_11, u_12, u_13, u_14, u_15, u_16, u_17, u_18, u_19, u_20, u_21)) : wp_X7_runOrder_N b h0_world h0_latest p0_length n_p0_heads f_p0_heads h0_asker_law h0_asker_cell h0_asker_shaft h0_asker_kind h0_asker_done h0_asker_latest h0_asker_value n_p0_code f_p0_code f_h0_asker_stack h0_world_lawCount h0_world_force h0_world_folk_listeners h0_world_folk_noises h0_world_folk_hushed f_h0_world_folk_column h0_world_rock_dug f_h0_world_rock_hard f_h0_world_rock_water f_h0_world_term h0_world_crew_count f_h0_world_crew_cell f_h0_world_crew_buckets f_h0_world_rock_kind f_h0_world_laws h0_diary_kept h0_diary_latest f_h0_diary_deed f_h0_diary_whose f_h0_diary_before f_h0_diary_bucketsBefore f_h0_diary_dayBefore f_h0_world_folk_noiseColumn f_h0_world_folk_noiseLoud Q := by
  unfold wp_X7_runOrder_N
  refine s_X8_headOf b 1 n_p0_heads (f_p0_heads) (by omega) (fun r1 H2 => ?_)
  refine s_X0_reckon r1 h0_asker_cell h0_asker_shaft h0_asker_kind h0_asker_done h0_asker_latest h0_asker_value p0_length n_p0_code (f_p0_code) (f_h0_asker_stack) h0_world_folk_listeners (f_h0_world_folk_column) (f_h0_world_rock_hard) (f_h0_world_rock_water) (f_h0_world_term) h0_world_crew_count (f_h0_world_crew_cell) (f_h0_world_crew_buckets) ⟨by omega, by omega⟩ ⟨by omega, by omega⟩ h_f_p0_code ⟨by omega, by omega⟩ h_f_h0_world_folk_column h_f_h0_world_rock_hard h_f_h0_world_rock_water h_f_h0_world_term ⟨by omega, by omega⟩ h_f_h0_world_crew_cell h_f_h0_world_crew_buckets (by omega) (fun r3 u4_0 u4_1 H5 => ?_)
  have j6 := H5
  refine un2_i ?_
  by_cases c7 : r3 = 0
  · refine br1 c7 ?_
    have d8 := eq_z (a := r3) (b := 0) (x := (Int32.toInt r3)) (y := 0) rfl rfl c7
    have k9 : Int32.toInt 0 = 0 := rfl
    exact hq _ _ _ _ _ _ _ _ _ _ _ _ _ _ _ _ _ _ _ _ _ _ _ ⟨⟨by omega, by omega⟩, h_f_h0_world_folk_column, h_f_h0_world_rock_water, h_f_h0_world_term, h_f_h0_world_crew_cell, h_f_h0_world_crew_buckets, ⟨by omega, by omega⟩, ⟨by omega, by omega⟩, e_2⟩
  · refine br0 c7 ?_
    have d10 := ne_z (a := r3) (b := 0) (x := (Int32.toInt r3)) (y := 0) rfl rfl c7
    refine o_X0_reckoned _ _ ?_
    refine s_X8_headOf b 0 n_p0_heads (f_p0_heads) (by omega) (fun r11 H12 => ?_)
    by_cases c13 : r11 = 21
    · refine br1 c13 ?_
      have d14 := eq_z (a := r11) (b := 21) (x := (Int32.toInt r11)) (y := 21) rfl rfl c13
      refine s_X7_tryHush u4_0 h0_world_folk_noises h0_world_folk_hushed h0_diary_kept h0_diary_latest (f_h0_diary_deed) (f_h0_diary_whose) (f_h0_diary_before) (f_h0_diary_bucketsBefore) (f_h0_diary_dayBefore) (f_h0_world_folk_noiseColumn) (f_h0_world_folk_noiseLoud) ⟨by omega, by omega⟩ ⟨by omega, by omega⟩ ⟨by omega, by omega⟩ h_f_h0_world_folk_noiseColumn h_f_h0_world_folk_noiseLoud e_2 (fun r15 u16_0 u16_1 u16_2 u16_3 u16_4 u16_5 u16_6 u16_7 H17 => ?_)
      have j18 := H17.1
      have j19 := H17.2.1
      have j20 := H17.2.2.1
      have j21 := H17.2.2.2
      refine un8_i ?_
      by_cases c22 : r15 < 0
      · refine br1 c22 ?_
        have d23 := lt_z (a := r15) (b := 0) (x := (Int32.toInt r15)) (y := 0) rfl rfl c22
        have k24 : Int32.toInt 0 = 0 := rfl
        exact hq _ _ _ _ _ _ _ _ _ _ _ _ _ _ _ _ _ _ _ _ _ _ _ ⟨⟨by omega, by omega⟩, h_f_h0_world_folk_column, h_f_h0_world_rock_water, h_f_h0_world_term, h_f_h0_world_crew_cell, h_f_h0_world_crew_buckets, ⟨by omega, by omega⟩, ⟨by omega, by omega⟩, j21⟩
      · refine br0 c22 ?_
        have d25 := nlt_z (a := r15) (b := 0) (x := (Int32.toInt r15)) (y := 0) rfl rfl c22
        have k26 : Int32.toInt 1 = 1 := rfl
        exact hq _ _ _ _ _ _ _ _ _ _ _ _ _ _ _ _ _ _ _ _ _ _ _ ⟨⟨by omega, by omega⟩, h_f_h0_world_folk_column, h_f_h0_world_rock_water, h_f_h0_world_term, h_f_h0_world_crew_cell, h_f_h0_world_crew_buckets, ⟨by omega, by omega⟩, ⟨by omega, by omega⟩, j21⟩
    · refine br0 c13 ?_
      have d27 := ne_z (a := r11) (b := 21) (x := (Int32.toInt r11)) (y := 21) rfl rfl c13
      by_cases c28 : r11 = 20
      · refine br1 c28 ?_
        have d29 := eq_z (a := r11) (b := 20) (x := (Int32.toInt r11)) (y := 20) rfl rfl c28
        refine s_X7_tryHaul_N u4_0 h0_world h0_world_lawCount h0_world_force h0_world_crew_count (f_h0_world_crew_cell) (f_h0_world_term) (f_h0_world_rock_kind) (f_h0_world_laws) (.ref h0_world) h0_asker_law h0_asker_cell h0_asker_shaft h0_asker_kind (f_h0_world_rock_water) (f_h0_world_crew_buckets) h0_diary_kept h0_diary_latest (f_h0_diary_deed) (f_h0_diary_whose) (f_h0_diary_before) (f_h0_diary_bucketsBefore) (f_h0_diary_dayBefore) ⟨by omega, by omega⟩ ⟨by omega, by omega⟩ ⟨by omega, by omega⟩ h_f_h0_world_crew_cell h_f_h0_world_term h_f_h0_world_rock_kind ⟨by omega, by omega⟩ h_f_h0_world_rock_water h_f_h0_world_crew_buckets ⟨by omega, by omega⟩ ⟨by omega, by omega⟩ e_2 (fun r30 u31_0 u31_1 u31_2 u31_3 u31_4 u31_5 u31_6 u31_7 u31_8 u31_9 u31_10 u31_11 u31_12 u31_13 u31_14 H32 => ?_)
        have j33 := H32.1
        have j34 := H32.2.1
        have j35 := H32.2.2.1
        have j36 := H32.2.2.2.1
        have j37 := H32.2.2.2.2.1
        have j38 := H32.2.2.2.2.2.1
        have j39 := H32.2.2.2.2.2.2.1
        have j40 := H32.2.2.2.2.2.2.2
        refine un15_i ?_
        by_cases c41 : r30 < 0
        · refine br1 c41 ?_
          have d42 := lt_z (a := r30) (b := 0) (x := (Int32.toInt r30)) (y := 0) rfl rfl c41
          have k43 : Int32.toInt 0 = 0 := rfl
          exact hq _ _ _ _ _ _ _ _ _ _ _ _ _ _ _ _ _ _ _ _ _ _ _ ⟨⟨by omega, by omega⟩, h_f_h0_world_folk_column, j36, j34, h_f_h0_world_crew_cell, j37, ⟨by omega, by omega⟩, ⟨by omega, by omega⟩, j40⟩
        · refine br0 c41 ?_
          have d44 := nlt_z (a := r30) (b := 0) (x := (Int32.toInt r30)) (y := 0) rfl rfl c41
          have k45 : Int32.toInt 1 = 1 := rfl
          exact hq _ _ _ _ _ _ _ _ _ _ _ _ _ _ _ _ _ _ _ _ _ _ _ ⟨⟨by omega, by omega⟩, h_f_h0_world_folk_column, j36, j34, h_f_h0_world_crew_cell, j37, ⟨by omega, by omega⟩, ⟨by omega, by omega⟩, j40⟩
      · refine br0 c28 ?_
        have d46 := ne_z (a := r11) (b := 20) (x := (Int32.toInt r11)) (y := 20) rfl rfl c28
        refine s_X8_headOf b 2 n_p0_heads (f_p0_heads) (by omega) (fun r47 H48 => ?_)
        refine s_X0_reckon r47 h0_asker_cell h0_asker_shaft h0_asker_kind h0_asker_done h0_asker_latest u4_0 p0_length n_p0_code (f_p0_code) (u4_1) h0_world_folk_listeners (f_h0_world_folk_column) (f_h0_world_rock_hard) (f_h0_world_rock_water) (f_h0_world_term) h0_world_crew_count (f_h0_world_crew_cell) (f_h0_world_crew_buckets) ⟨by omega, by omega⟩ ⟨by omega, by omega⟩ h_f_p0_code ⟨by omega, by omega⟩ h_f_h0_world_folk_column h_f_h0_world_rock_hard h_f_h0_world_rock_water h_f_h0_world_term ⟨by omega, by omega⟩ h_f_h0_world_crew_cell h_f_h0_world_crew_buckets (by omega) (fun r49 u50_0 u50_1 H51 => ?_)
        have j52 := H51
        refine un2_i ?_
        by_cases c53 : r49 = 0
        · refine br1 c53 ?_
          have d54 := eq_z (a := r49) (b := 0) (x := (Int32.toInt r49)) (y := 0) rfl rfl c53
          have k55 : Int32.toInt 0 = 0 := rfl
          exact hq _ _ _ _ _ _ _ _ _ _ _ _ _ _ _ _ _ _ _ _ _ _ _ ⟨⟨by omega, by omega⟩, h_f_h0_world_folk_column, h_f_h0_world_rock_water, h_f_h0_world_term, h_f_h0_world_crew_cell, h_f_h0_world_crew_buckets, ⟨by omega, by omega⟩, ⟨by omega, by omega⟩, e_2⟩
        · refine br0 c53 ?_
          have d56 := ne_z (a := r49) (b := 0) (x := (Int32.toInt r49)) (y := 0) rfl rfl c53
          refine o_X0_reckoned _ _ ?_
          by_cases c57 : r11 = 22
          · refine br1 c57 ?_
            have d58 := eq_z (a := r11) (b := 22) (x := (Int32.toInt r11)) (y := 22) rfl rfl c57
            refine s_X7_tryLie u4_0 u50_0 h0_world_folk_listeners (f_h0_world_folk_column) h0_diary_kept h0_diary_latest (f_h0_diary_deed) (f_h0_diary_whose) (f_h0_diary_before) (f_h0_diary_bucketsBefore) (f_h0_diary_dayBefore) ⟨by omega, by omega⟩ h_f_h0_world_folk_column ⟨by omega, by omega⟩ ⟨by omega, by omega⟩ e_2 (fun r59 u60_0 u60_1 u60_2 u60_3 u60_4 u60_5 u60_6 u60_7 H61 => ?_)
            have j62 := H61.1
            have j63 := H61.2.1
            have j64 := H61.2.2.1
            have j65 := H61.2.2.2.1
            have j66 := H61.2.2.2.2
            refine un8_i ?_
            by_cases c67 : r59 < 0
            · refine br1 c67 ?_
              have d68 := lt_z (a := r59) (b := 0) (x := (Int32.toInt r59)) (y := 0) rfl rfl c67
              have k69 : Int32.toInt 0 = 0 := rfl
              exact hq _ _ _ _ _ _ _ _ _ _ _ _ _ _ _ _ _ _ _ _ _ _ _ ⟨⟨by omega, by omega⟩, j63, h_f_h0_world_rock_water, h_f_h0_world_term, h_f_h0_world_crew_cell, h_f_h0_world_crew_buckets, ⟨by omega, by omega⟩, ⟨by omega, by omega⟩, j66⟩
            · refine br0 c67 ?_
              have d70 := nlt_z (a := r59) (b := 0) (x := (Int32.toInt r59)) (y := 0) rfl rfl c67
              have k71 : Int32.toInt 1 = 1 := rfl
              exact hq _ _ _ _ _ _ _ _ _ _ _ _ _ _ _ _ _ _ _ _ _ _ _ ⟨⟨by omega, by omega⟩, j63, h_f_h0_world_rock_water, h_f_h0_world_term, h_f_h0_world_crew_cell, h_f_h0_world_crew_buckets, ⟨by omega, by omega⟩, ⟨by omega, by omega⟩, j66⟩
          · refine br0 c57 ?_
            have d72 := ne_z (a := r11) (b := 22) (x := (Int32.toInt r11)) (y := 22) rfl rfl c57
            refine s_X7_tryDig_N u4_0 u50_0 h0_world h0_world_lawCount h0_world_force h0_world_crew_count (f_h0_world_crew_cell) h0_world_rock_dug (f_h0_world_rock_kind) (f_h0_world_laws) (.ref h0_world) h0_asker_law h0_asker_cell h0_asker_shaft h0_asker_kind (f_h0_world_term) (f_h0_world_rock_hard) h0_diary_kept h0_diary_latest (f_h0_diary_deed) (f_h0_diary_whose) (f_h0_diary_before) (f_h0_diary_bucketsBefore) (f_h0_diary_dayBefore) ⟨by omega, by omega⟩ ⟨by omega, by omega⟩ ⟨by omega, by omega⟩ h_f_h0_world_crew_cell h_f_h0_world_rock_kind ⟨by omega, by omega⟩ h_f_h0_world_term h_f_h0_world_rock_hard ⟨by omega, by omega⟩ ⟨by omega, by omega⟩ e_2 (fun r73 u74_0 u74_1 u74_2 u74_3 u74_4 u74_5 u74_6 u74_7 u74_8 u74_9 u74_10 u74_11 u74_12 u74_13 u74_14 H75 => ?_)
            have j76 := H75.1
            have j77 := H75.2.1
            have j78 := H75.2.2.1
            have j79 := H75.2.2.2.1
            have j80 := H75.2.2.2.2.1
            have j81 := H75.2.2.2.2.2.1
            have j82 := H75.2.2.2.2.2.2
            refine un15_i ?_
            by_cases c83 : r73 < 0
            · refine br1 c83 ?_
              have d84 := lt_z (a := r73) (b := 0) (x := (Int32.toInt r73)) (y := 0) rfl rfl c83
              have k85 : Int32.toInt 0 = 0 := rfl
              exact hq _ _ _ _ _ _ _ _ _ _ _ _ _ _ _ _ _ _ _ _ _ _ _ ⟨⟨by omega, by omega⟩, h_f_h0_world_folk_column, h_f_h0_world_rock_water, j79, j77, h_f_h0_world_crew_buckets, ⟨by omega, by omega⟩, ⟨by omega, by omega⟩, j82⟩
            · refine br0 c83 ?_
              have d86 := nlt_z (a := r73) (b := 0) (x := (Int32.toInt r73)) (y := 0) rfl rfl c83
              have k87 : Int32.toInt 1 = 1 := rfl
              exact hq _ _ _ _ _ _ _ _ _ _ _ _ _ _ _ _ _ _ _ _ _ _ _ ⟨⟨by omega, by omega⟩, h_f_h0_world_folk_column, h_f_h0_world_rock_water, j79, j77, h_f_h0_world_crew_buckets, ⟨by omega, by omega⟩, ⟨by omega, by omega⟩, j82⟩


set_option maxRecDepth 100000 in
theorem s_X7_runOrder_T (b : Int32) (h0_world : Nat) (h0_latest : Int32) (p0_length : Int32) (n_p0_heads : Nat) (f_p0_heads : Nat → Int32) (h0_asker_law : Value) (h0_asker_cell : Int32) (h0_asker_shaft : Int32) (h0_asker_kind : Int32) (h0_asker_done : Int32) (h0_asker_latest : Int32) (h0_asker_value : Int32) (n_p0_code : Nat) (f_p0_code : Nat → Int32) (f_h0_asker_stack : Nat → Int64) (h0_world_lawCount : Int32) (h0_world_force : Int32) (h0_world_folk_listeners : Int32) (h0_world_folk_noises : Int32) (h0_world_folk_hushed : Int32) (f_h0_world_folk_column : Nat → Int32) (h0_world_rock_dug : Int64) (f_h0_world_rock_hard : Nat → Int32) (f_h0_world_rock_water : Nat → Int32) (f_h0_world_term : Nat → Int32) (h0_world_crew_count : Int32) (f_h0_world_crew_cell : Nat → Int32) (f_h0_world_crew_buckets : Nat → Int32) (f_h0_world_rock_kind : Nat → Int32) (f_h0_world_laws : Nat → Option Nat) (t : Nat) (t_clauses : Int32) (t_length : Int32) (n_t_heads : Nat) (f_t_heads : Nat → Int32) (n_t_code : Nat) (f_t_code : Nat → Int32) (h0_diary_kept : Int32) (h0_diary_latest : Int32) (f_h0_diary_deed : Nat → Int32) (f_h0_diary_whose : Nat → Int32) (f_h0_diary_before : Nat → Int32) (f_h0_diary_bucketsBefore : Nat → Int32) (f_h0_diary_dayBefore : Nat → Int32) (f_h0_world_folk_noiseColumn : Nat → Int32) (f_h0_world_folk_noiseLoud : Nat → Int32) (h_p0_length : 0 ≤ p0_length.toInt ∧ p0_length.toInt ≤ 400) (h_h0_asker_cell : 0 ≤ h0_asker_cell.toInt ∧ h0_asker_cell.toInt ≤ 39) (h_f_p0_code : CD f_p0_code) (h_h0_world_lawCount : 0 ≤ h0_world_lawCount.toInt ∧ h0_world_lawCount.toInt ≤ 6) (h_h0_world_force : 0 ≤ h0_world_force.toInt ∧ h0_world_force.toInt ≤ 5) (h_h0_world_folk_listeners : 0 ≤ h0_world_folk_listeners.toInt ∧ h0_world_folk_listeners.toInt ≤ 5) (h_h0_world_folk_noises : 0 ≤ h0_world_folk_noises.toInt ∧ h0_world_folk_noises.toInt ≤ 6) (h_f_h0_world_folk_column : CO f_h0_world_folk_column) (h_f_h0_world_rock_hard : HA f_h0_world_rock_hard) (h_f_h0_world_rock_water : WA f_h0_world_rock_water) (h_f_h0_world_term : TE f_h0_world_term) (h_h0_world_crew_count : 0 ≤ h0_world_crew_count.toInt ∧ h0_world_crew_count.toInt ≤ 6) (h_f_h0_world_crew_cell : CE f_h0_world_crew_cell) (h_f_h0_world_crew_buckets : BU f_h0_world_crew_buckets) (h_f_h0_world_rock_kind : KI f_h0_world_rock_kind) (h_t_clauses : 0 ≤ t_clauses.toInt ∧ t_clauses.toInt ≤ 12) (h_t_length : 0 ≤ t_length.toInt ∧ t_length.toInt ≤ 400) (h_f_t_code : CD f_t_code) (h_h0_diary_kept : 0 ≤ h0_diary_kept.toInt ∧ h0_diary_kept.toInt ≤ 16) (h_h0_diary_latest : 0 ≤ h0_diary_latest.toInt ∧ h0_diary_latest.toInt ≤ 15) (h_f_h0_world_folk_noiseColumn : NC f_h0_world_folk_noiseColumn) (h_f_h0_world_folk_noiseLoud : NL f_h0_world_folk_noiseLoud) (e_0 : n_p0_heads < 100000) (e_1 : p0_length.toInt ≤ (n_p0_code : Int)) (e_2 : n_t_heads < 100000) (e_3 : t_length.toInt ≤ (n_t_code : Int)) (e_4 : h0_world_force.toInt < h0_world_lawCount.toInt) (e_5 : f_h0_world_laws (Int32.toNatClampNeg h0_world_force) = some t) (e_6 : DI f_h0_diary_deed f_h0_diary_whose f_h0_diary_before f_h0_diary_bucketsBefore f_h0_diary_dayBefore) {Q : Int32 → (Int32 × Value × Value × Int32 × Int32 × Int32 × Int32 × (Nat → Int64) × Int32 × (Nat → Int32) × Int64 × (Nat → Int32) × (Nat → Int32) × (Nat → Int32) × (Nat → Int32) × Int32 × Int32 × (Nat → Int32) × (Nat → Int32) × (Nat → Int32) × (Nat → Int32) × (Nat → Int32)) → Prop} (hq : ∀ (r : Int32) (u_0 : Int32) (u_1 : Value) (u_2 : Value) (u_3 : Int32) (u_4 : Int32) (u_5 : Int32) (u_6 : Int32) (u_7 : Nat → Int64) (u_8 : Int32) (u_9 : Nat → Int32) (u_10 : Int64) (u_11 : Nat → Int32) (u_12 : Nat → Int32) (u_13 : Nat → Int32) (u_14 : Nat → Int32) (u_15 : Int32) (u_16 : Int32) (u_17 : Nat → Int32) (u_18 : Nat → Int32) (u_19 : Nat → Int32) (u_20 : Nat → Int32) (u_21 : Nat → Int32), (0 ≤ u_3.toInt ∧ u_3.toInt ≤ 39) ∧ (CO u_9) ∧ (WA u_11) ∧ (TE u_12) ∧ (CE u_13) ∧ (BU u_14) ∧ (0 ≤ u_15.toInt ∧ u_15.toInt ≤ 16) ∧ (0 ≤ u_16.toInt ∧ u_16.toInt ≤ 15) ∧ (DI u_17 u_18 u_19 u_20 u_21) → Q r (u_0, u_1, u_2, u_3, u_4, u_5, u_6, u_7, u_8, u_9, u_10, u_11, u_12, u_13, u_14, u_15, u_16, u_17, u_18, u_19, u_20, u_21)) : wp_X7_runOrder_T b h0_world h0_latest p0_length n_p0_heads f_p0_heads h0_asker_law h0_asker_cell h0_asker_shaft h0_asker_kind h0_asker_done h0_asker_latest h0_asker_value n_p0_code f_p0_code f_h0_asker_stack h0_world_lawCount h0_world_force h0_world_folk_listeners h0_world_folk_noises h0_world_folk_hushed f_h0_world_folk_column h0_world_rock_dug f_h0_world_rock_hard f_h0_world_rock_water f_h0_world_term h0_world_crew_count f_h0_world_crew_cell f_h0_world_crew_buckets f_h0_world_rock_kind f_h0_world_laws t t_clauses t_length n_t_heads f_t_heads n_t_code f_t_code h0_diary_kept h0_diary_latest f_h0_diary_deed f_h0_diary_whose f_h0_diary_before f_h0_diary_bucketsBefore f_h0_diary_dayBefore f_h0_world_folk_noiseColumn f_h0_world_folk_noiseLoud Q := by
  unfold wp_X7_runOrder_T
  refine s_X8_headOf b 1 n_p0_heads (f_p0_heads) (by omega) (fun r1 H2 => ?_)
  refine s_X0_reckon r1 h0_asker_cell h0_asker_shaft h0_asker_kind h0_asker_done h0_asker_latest h0_asker_value p0_length n_p0_code (f_p0_code) (f_h0_asker_stack) h0_world_folk_listeners (f_h0_world_folk_column) (f_h0_world_rock_hard) (f_h0_world_rock_water) (f_h0_world_term) h0_world_crew_count (f_h0_world_crew_cell) (f_h0_world_crew_buckets) ⟨by omega, by omega⟩ ⟨by omega, by omega⟩ h_f_p0_code ⟨by omega, by omega⟩ h_f_h0_world_folk_column h_f_h0_world_rock_hard h_f_h0_world_rock_water h_f_h0_world_term ⟨by omega, by omega⟩ h_f_h0_world_crew_cell h_f_h0_world_crew_buckets (by omega) (fun r3 u4_0 u4_1 H5 => ?_)
  have j6 := H5
  refine un2_i ?_
  by_cases c7 : r3 = 0
  · refine br1 c7 ?_
    have d8 := eq_z (a := r3) (b := 0) (x := (Int32.toInt r3)) (y := 0) rfl rfl c7
    have k9 : Int32.toInt 0 = 0 := rfl
    exact hq _ _ _ _ _ _ _ _ _ _ _ _ _ _ _ _ _ _ _ _ _ _ _ ⟨⟨by omega, by omega⟩, h_f_h0_world_folk_column, h_f_h0_world_rock_water, h_f_h0_world_term, h_f_h0_world_crew_cell, h_f_h0_world_crew_buckets, ⟨by omega, by omega⟩, ⟨by omega, by omega⟩, e_6⟩
  · refine br0 c7 ?_
    have d10 := ne_z (a := r3) (b := 0) (x := (Int32.toInt r3)) (y := 0) rfl rfl c7
    refine o_X0_reckoned _ _ ?_
    refine s_X8_headOf b 0 n_p0_heads (f_p0_heads) (by omega) (fun r11 H12 => ?_)
    by_cases c13 : r11 = 21
    · refine br1 c13 ?_
      have d14 := eq_z (a := r11) (b := 21) (x := (Int32.toInt r11)) (y := 21) rfl rfl c13
      refine s_X7_tryHush u4_0 h0_world_folk_noises h0_world_folk_hushed h0_diary_kept h0_diary_latest (f_h0_diary_deed) (f_h0_diary_whose) (f_h0_diary_before) (f_h0_diary_bucketsBefore) (f_h0_diary_dayBefore) (f_h0_world_folk_noiseColumn) (f_h0_world_folk_noiseLoud) ⟨by omega, by omega⟩ ⟨by omega, by omega⟩ ⟨by omega, by omega⟩ h_f_h0_world_folk_noiseColumn h_f_h0_world_folk_noiseLoud e_6 (fun r15 u16_0 u16_1 u16_2 u16_3 u16_4 u16_5 u16_6 u16_7 H17 => ?_)
      have j18 := H17.1
      have j19 := H17.2.1
      have j20 := H17.2.2.1
      have j21 := H17.2.2.2
      refine un8_i ?_
      by_cases c22 : r15 < 0
      · refine br1 c22 ?_
        have d23 := lt_z (a := r15) (b := 0) (x := (Int32.toInt r15)) (y := 0) rfl rfl c22
        have k24 : Int32.toInt 0 = 0 := rfl
        exact hq _ _ _ _ _ _ _ _ _ _ _ _ _ _ _ _ _ _ _ _ _ _ _ ⟨⟨by omega, by omega⟩, h_f_h0_world_folk_column, h_f_h0_world_rock_water, h_f_h0_world_term, h_f_h0_world_crew_cell, h_f_h0_world_crew_buckets, ⟨by omega, by omega⟩, ⟨by omega, by omega⟩, j21⟩
      · refine br0 c22 ?_
        have d25 := nlt_z (a := r15) (b := 0) (x := (Int32.toInt r15)) (y := 0) rfl rfl c22
        have k26 : Int32.toInt 1 = 1 := rfl
        exact hq _ _ _ _ _ _ _ _ _ _ _ _ _ _ _ _ _ _ _ _ _ _ _ ⟨⟨by omega, by omega⟩, h_f_h0_world_folk_column, h_f_h0_world_rock_water, h_f_h0_world_term, h_f_h0_world_crew_cell, h_f_h0_world_crew_buckets, ⟨by omega, by omega⟩, ⟨by omega, by omega⟩, j21⟩
    · refine br0 c13 ?_
      have d27 := ne_z (a := r11) (b := 21) (x := (Int32.toInt r11)) (y := 21) rfl rfl c13
      by_cases c28 : r11 = 20
      · refine br1 c28 ?_
        have d29 := eq_z (a := r11) (b := 20) (x := (Int32.toInt r11)) (y := 20) rfl rfl c28
        refine s_X7_tryHaul_T u4_0 h0_world h0_world_lawCount h0_world_force h0_world_crew_count (f_h0_world_crew_cell) (f_h0_world_term) (f_h0_world_rock_kind) (f_h0_world_laws) (.ref h0_world) h0_asker_law h0_asker_cell h0_asker_shaft h0_asker_kind h0_asker_done h0_asker_latest u4_0 t t_clauses t_length n_t_heads (f_t_heads) n_t_code (f_t_code) (u4_1) h0_world_folk_listeners (f_h0_world_folk_column) (f_h0_world_rock_hard) (f_h0_world_rock_water) (f_h0_world_crew_buckets) h0_diary_kept h0_diary_latest (f_h0_diary_deed) (f_h0_diary_whose) (f_h0_diary_before) (f_h0_diary_bucketsBefore) (f_h0_diary_dayBefore) ⟨by omega, by omega⟩ ⟨by omega, by omega⟩ ⟨by omega, by omega⟩ h_f_h0_world_crew_cell h_f_h0_world_term h_f_h0_world_rock_kind ⟨by omega, by omega⟩ ⟨by omega, by omega⟩ ⟨by omega, by omega⟩ h_f_t_code ⟨by omega, by omega⟩ h_f_h0_world_folk_column h_f_h0_world_rock_hard h_f_h0_world_rock_water h_f_h0_world_crew_buckets ⟨by omega, by omega⟩ ⟨by omega, by omega⟩ (by omega) (by omega) (by omega) (by assumption) e_6 (fun r30 u31_0 u31_1 u31_2 u31_3 u31_4 u31_5 u31_6 u31_7 u31_8 u31_9 u31_10 u31_11 u31_12 u31_13 u31_14 u31_15 u31_16 H32 => ?_)
        have j33 := H32.1
        have j34 := H32.2.1
        have j35 := H32.2.2.1
        have j36 := H32.2.2.2.1
        have j37 := H32.2.2.2.2.1
        have j38 := H32.2.2.2.2.2.1
        have j39 := H32.2.2.2.2.2.2.1
        have j40 := H32.2.2.2.2.2.2.2
        refine un17_i ?_
        by_cases c41 : r30 < 0
        · refine br1 c41 ?_
          have d42 := lt_z (a := r30) (b := 0) (x := (Int32.toInt r30)) (y := 0) rfl rfl c41
          have k43 : Int32.toInt 0 = 0 := rfl
          exact hq _ _ _ _ _ _ _ _ _ _ _ _ _ _ _ _ _ _ _ _ _ _ _ ⟨⟨by omega, by omega⟩, h_f_h0_world_folk_column, j36, j34, h_f_h0_world_crew_cell, j37, ⟨by omega, by omega⟩, ⟨by omega, by omega⟩, j40⟩
        · refine br0 c41 ?_
          have d44 := nlt_z (a := r30) (b := 0) (x := (Int32.toInt r30)) (y := 0) rfl rfl c41
          have k45 : Int32.toInt 1 = 1 := rfl
          exact hq _ _ _ _ _ _ _ _ _ _ _ _ _ _ _ _ _ _ _ _ _ _ _ ⟨⟨by omega, by omega⟩, h_f_h0_world_folk_column, j36, j34, h_f_h0_world_crew_cell, j37, ⟨by omega, by omega⟩, ⟨by omega, by omega⟩, j40⟩
      · refine br0 c28 ?_
        have d46 := ne_z (a := r11) (b := 20) (x := (Int32.toInt r11)) (y := 20) rfl rfl c28
        refine s_X8_headOf b 2 n_p0_heads (f_p0_heads) (by omega) (fun r47 H48 => ?_)
        refine s_X0_reckon r47 h0_asker_cell h0_asker_shaft h0_asker_kind h0_asker_done h0_asker_latest u4_0 p0_length n_p0_code (f_p0_code) (u4_1) h0_world_folk_listeners (f_h0_world_folk_column) (f_h0_world_rock_hard) (f_h0_world_rock_water) (f_h0_world_term) h0_world_crew_count (f_h0_world_crew_cell) (f_h0_world_crew_buckets) ⟨by omega, by omega⟩ ⟨by omega, by omega⟩ h_f_p0_code ⟨by omega, by omega⟩ h_f_h0_world_folk_column h_f_h0_world_rock_hard h_f_h0_world_rock_water h_f_h0_world_term ⟨by omega, by omega⟩ h_f_h0_world_crew_cell h_f_h0_world_crew_buckets (by omega) (fun r49 u50_0 u50_1 H51 => ?_)
        have j52 := H51
        refine un2_i ?_
        by_cases c53 : r49 = 0
        · refine br1 c53 ?_
          have d54 := eq_z (a := r49) (b := 0) (x := (Int32.toInt r49)) (y := 0) rfl rfl c53
          have k55 : Int32.toInt 0 = 0 := rfl
          exact hq _ _ _ _ _ _ _ _ _ _ _ _ _ _ _ _ _ _ _ _ _ _ _ ⟨⟨by omega, by omega⟩, h_f_h0_world_folk_column, h_f_h0_world_rock_water, h_f_h0_world_term, h_f_h0_world_crew_cell, h_f_h0_world_crew_buckets, ⟨by omega, by omega⟩, ⟨by omega, by omega⟩, e_6⟩
        · refine br0 c53 ?_
          have d56 := ne_z (a := r49) (b := 0) (x := (Int32.toInt r49)) (y := 0) rfl rfl c53
          refine o_X0_reckoned _ _ ?_
          by_cases c57 : r11 = 22
          · refine br1 c57 ?_
            have d58 := eq_z (a := r11) (b := 22) (x := (Int32.toInt r11)) (y := 22) rfl rfl c57
            refine s_X7_tryLie u4_0 u50_0 h0_world_folk_listeners (f_h0_world_folk_column) h0_diary_kept h0_diary_latest (f_h0_diary_deed) (f_h0_diary_whose) (f_h0_diary_before) (f_h0_diary_bucketsBefore) (f_h0_diary_dayBefore) ⟨by omega, by omega⟩ h_f_h0_world_folk_column ⟨by omega, by omega⟩ ⟨by omega, by omega⟩ e_6 (fun r59 u60_0 u60_1 u60_2 u60_3 u60_4 u60_5 u60_6 u60_7 H61 => ?_)
            have j62 := H61.1
            have j63 := H61.2.1
            have j64 := H61.2.2.1
            have j65 := H61.2.2.2.1
            have j66 := H61.2.2.2.2
            refine un8_i ?_
            by_cases c67 : r59 < 0
            · refine br1 c67 ?_
              have d68 := lt_z (a := r59) (b := 0) (x := (Int32.toInt r59)) (y := 0) rfl rfl c67
              have k69 : Int32.toInt 0 = 0 := rfl
              exact hq _ _ _ _ _ _ _ _ _ _ _ _ _ _ _ _ _ _ _ _ _ _ _ ⟨⟨by omega, by omega⟩, j63, h_f_h0_world_rock_water, h_f_h0_world_term, h_f_h0_world_crew_cell, h_f_h0_world_crew_buckets, ⟨by omega, by omega⟩, ⟨by omega, by omega⟩, j66⟩
            · refine br0 c67 ?_
              have d70 := nlt_z (a := r59) (b := 0) (x := (Int32.toInt r59)) (y := 0) rfl rfl c67
              have k71 : Int32.toInt 1 = 1 := rfl
              exact hq _ _ _ _ _ _ _ _ _ _ _ _ _ _ _ _ _ _ _ _ _ _ _ ⟨⟨by omega, by omega⟩, j63, h_f_h0_world_rock_water, h_f_h0_world_term, h_f_h0_world_crew_cell, h_f_h0_world_crew_buckets, ⟨by omega, by omega⟩, ⟨by omega, by omega⟩, j66⟩
          · refine br0 c57 ?_
            have d72 := ne_z (a := r11) (b := 22) (x := (Int32.toInt r11)) (y := 22) rfl rfl c57
            refine s_X7_tryDig_T u4_0 u50_0 h0_world h0_world_lawCount h0_world_force h0_world_crew_count (f_h0_world_crew_cell) h0_world_rock_dug (f_h0_world_rock_kind) (f_h0_world_laws) (.ref h0_world) h0_asker_law h0_asker_cell h0_asker_shaft h0_asker_kind h0_asker_done h0_asker_latest u50_0 (f_h0_world_term) (f_h0_world_rock_hard) t t_clauses t_length n_t_heads (f_t_heads) n_t_code (f_t_code) (u50_1) h0_world_folk_listeners (f_h0_world_folk_column) (f_h0_world_rock_water) (f_h0_world_crew_buckets) h0_diary_kept h0_diary_latest (f_h0_diary_deed) (f_h0_diary_whose) (f_h0_diary_before) (f_h0_diary_bucketsBefore) (f_h0_diary_dayBefore) ⟨by omega, by omega⟩ ⟨by omega, by omega⟩ ⟨by omega, by omega⟩ h_f_h0_world_crew_cell h_f_h0_world_rock_kind ⟨by omega, by omega⟩ h_f_h0_world_term h_f_h0_world_rock_hard ⟨by omega, by omega⟩ ⟨by omega, by omega⟩ h_f_t_code ⟨by omega, by omega⟩ h_f_h0_world_folk_column h_f_h0_world_rock_water h_f_h0_world_crew_buckets ⟨by omega, by omega⟩ ⟨by omega, by omega⟩ (by omega) (by omega) (by omega) (by assumption) e_6 (fun r73 u74_0 u74_1 u74_2 u74_3 u74_4 u74_5 u74_6 u74_7 u74_8 u74_9 u74_10 u74_11 u74_12 u74_13 u74_14 u74_15 u74_16 H75 => ?_)
            have j76 := H75.1
            have j77 := H75.2.1
            have j78 := H75.2.2.1
            have j79 := H75.2.2.2.1
            have j80 := H75.2.2.2.2.1
            have j81 := H75.2.2.2.2.2.1
            have j82 := H75.2.2.2.2.2.2
            refine un17_i ?_
            by_cases c83 : r73 < 0
            · refine br1 c83 ?_
              have d84 := lt_z (a := r73) (b := 0) (x := (Int32.toInt r73)) (y := 0) rfl rfl c83
              have k85 : Int32.toInt 0 = 0 := rfl
              exact hq _ _ _ _ _ _ _ _ _ _ _ _ _ _ _ _ _ _ _ _ _ _ _ ⟨⟨by omega, by omega⟩, h_f_h0_world_folk_column, h_f_h0_world_rock_water, j79, j77, h_f_h0_world_crew_buckets, ⟨by omega, by omega⟩, ⟨by omega, by omega⟩, j82⟩
            · refine br0 c83 ?_
              have d86 := nlt_z (a := r73) (b := 0) (x := (Int32.toInt r73)) (y := 0) rfl rfl c83
              have k87 : Int32.toInt 1 = 1 := rfl
              exact hq _ _ _ _ _ _ _ _ _ _ _ _ _ _ _ _ _ _ _ _ _ _ _ ⟨⟨by omega, by omega⟩, h_f_h0_world_folk_column, h_f_h0_world_rock_water, j79, j77, h_f_h0_world_crew_buckets, ⟨by omega, by omega⟩, ⟨by omega, by omega⟩, j82⟩


set_option maxRecDepth 100000 in
theorem sl_X7_runOrders_N_38 (h0_world : Nat) (p0_length : Int32) (n_p0_heads : Nat) (f_p0_heads : Nat → Int32) (n_p0_code : Nat) (f_p0_code : Nat → Int32) (h0_world_lawCount : Int32) (h0_world_force : Int32) (h0_world_folk_listeners : Int32) (h0_world_folk_noises : Int32) (f_h0_world_rock_hard : Nat → Int32) (h0_world_crew_count : Int32) (f_h0_world_rock_kind : Nat → Int32) (f_h0_world_laws : Nat → Option Nat) (f_h0_world_folk_noiseColumn : Nat → Int32) (f_h0_world_folk_noiseLoud : Nat → Int32) (x_12_0 : Int32) (r_23 : Int32) (r_30 : Int32) (h_p0_length : 0 ≤ p0_length.toInt ∧ p0_length.toInt ≤ 400) (h_f_p0_code : CD f_p0_code) (h_h0_world_lawCount : 0 ≤ h0_world_lawCount.toInt ∧ h0_world_lawCount.toInt ≤ 6) (h_h0_world_force : (-1) ≤ h0_world_force.toInt ∧ h0_world_force.toInt ≤ (-1)) (h_h0_world_folk_listeners : 0 ≤ h0_world_folk_listeners.toInt ∧ h0_world_folk_listeners.toInt ≤ 5) (h_h0_world_folk_noises : 0 ≤ h0_world_folk_noises.toInt ∧ h0_world_folk_noises.toInt ≤ 6) (h_f_h0_world_rock_hard : HA f_h0_world_rock_hard) (h_h0_world_crew_count : 0 ≤ h0_world_crew_count.toInt ∧ h0_world_crew_count.toInt ≤ 6) (h_f_h0_world_rock_kind : KI f_h0_world_rock_kind) (h_f_h0_world_folk_noiseColumn : NC f_h0_world_folk_noiseColumn) (h_f_h0_world_folk_noiseLoud : NL f_h0_world_folk_noiseLoud) (h_x_12_0 : 0 ≤ x_12_0.toInt ∧ x_12_0.toInt ≤ 11) (z_n_p0_heads : n_p0_heads < 100000) (z_n_p0_code : p0_length.toInt ≤ (n_p0_code : Int)) {Q : Int32 → (Int32 × Int32 × Value × Value × Int32 × Int32 × Int32 × Int32 × Int32 × Int32 × (Nat → Int64) × Int32 × (Nat → Int32) × Int64 × (Nat → Int32) × (Nat → Int32) × (Nat → Int32) × (Nat → Int32) × Int32 × Int32 × (Nat → Int32) × (Nat → Int32) × (Nat → Int32) × (Nat → Int32) × (Nat → Int32)) → Prop} (hq : ∀ (r : Int32) (u_0 : Int32) (u_1 : Int32) (u_2 : Value) (u_3 : Value) (u_4 : Int32) (u_5 : Int32) (u_6 : Int32) (u_7 : Int32) (u_8 : Int32) (u_9 : Int32) (u_10 : Nat → Int64) (u_11 : Int32) (u_12 : Nat → Int32) (u_13 : Int64) (u_14 : Nat → Int32) (u_15 : Nat → Int32) (u_16 : Nat → Int32) (u_17 : Nat → Int32) (u_18 : Int32) (u_19 : Int32) (u_20 : Nat → Int32) (u_21 : Nat → Int32) (u_22 : Nat → Int32) (u_23 : Nat → Int32) (u_24 : Nat → Int32), (0 ≤ u_4.toInt ∧ u_4.toInt ≤ 39) ∧ (CO u_12) ∧ (WA u_14) ∧ (TE u_15) ∧ (CE u_16) ∧ (BU u_17) ∧ (0 ≤ u_18.toInt ∧ u_18.toInt ≤ 16) ∧ (0 ≤ u_19.toInt ∧ u_19.toInt ≤ 15) ∧ (DI u_20 u_21 u_22 u_23 u_24) → Q r (u_0, u_1, u_2, u_3, u_4, u_5, u_6, u_7, u_8, u_9, u_10, u_11, u_12, u_13, u_14, u_15, u_16, u_17, u_18, u_19, u_20, u_21, u_22, u_23, u_24)) (Qb : Int32 → Int32 → Int32 → Value → Value → Int32 → Int32 → Int32 → Int32 → Int32 → Int32 → (Nat → Int64) → Int32 → (Nat → Int32) → Int64 → (Nat → Int32) → (Nat → Int32) → (Nat → Int32) → (Nat → Int32) → Int32 → Int32 → (Nat → Int32) → (Nat → Int32) → (Nat → Int32) → (Nat → Int32) → (Nat → Int32) → Prop) (KX : ∀ (x_38_0 : Int32) (x_38_1 : Int32) (x_38_2 : Int32) (x_38_3 : Value) (x_38_4 : Value) (x_38_5 : Int32) (x_38_6 : Int32) (x_38_7 : Int32) (x_38_8 : Int32) (x_38_9 : Int32) (x_38_10 : Int32) (x_38_11 : Nat → Int64) (x_38_12 : Int32) (x_38_13 : Nat → Int32) (x_38_14 : Int64) (x_38_15 : Nat → Int32) (x_38_16 : Nat → Int32) (x_38_17 : Nat → Int32) (x_38_18 : Nat → Int32) (x_38_19 : Int32) (x_38_20 : Int32) (x_38_21 : Nat → Int32) (x_38_22 : Nat → Int32) (x_38_23 : Nat → Int32) (x_38_24 : Nat → Int32) (x_38_25 : Nat → Int32), (0 ≤ x_38_0.toInt ∧ x_38_0.toInt ≤ 2147483647) ∧ (0 ≤ x_38_5.toInt ∧ x_38_5.toInt ≤ 39) ∧ (CO x_38_13) ∧ (WA x_38_15) ∧ (TE x_38_16) ∧ (CE x_38_17) ∧ (BU x_38_18) ∧ (0 ≤ x_38_19.toInt ∧ x_38_19.toInt ≤ 16) ∧ (0 ≤ x_38_20.toInt ∧ x_38_20.toInt ≤ 15) ∧ (DI x_38_21 x_38_22 x_38_23 x_38_24 x_38_25) → Qb x_38_0 x_38_1 x_38_2 x_38_3 x_38_4 x_38_5 x_38_6 x_38_7 x_38_8 x_38_9 x_38_10 x_38_11 x_38_12 x_38_13 x_38_14 x_38_15 x_38_16 x_38_17 x_38_18 x_38_19 x_38_20 x_38_21 x_38_22 x_38_23 x_38_24 x_38_25) : ∀ (n : Nat) (x_38_0 : Int32) (x_38_1 : Int32) (x_38_2 : Int32) (x_38_3 : Value) (x_38_4 : Value) (x_38_5 : Int32) (x_38_6 : Int32) (x_38_7 : Int32) (x_38_8 : Int32) (x_38_9 : Int32) (x_38_10 : Int32) (x_38_11 : Nat → Int64) (x_38_12 : Int32) (x_38_13 : Nat → Int32) (x_38_14 : Int64) (x_38_15 : Nat → Int32) (x_38_16 : Nat → Int32) (x_38_17 : Nat → Int32) (x_38_18 : Nat → Int32) (x_38_19 : Int32) (x_38_20 : Int32) (x_38_21 : Nat → Int32) (x_38_22 : Nat → Int32) (x_38_23 : Nat → Int32) (x_38_24 : Nat → Int32) (x_38_25 : Nat → Int32), (0 ≤ x_38_0.toInt ∧ x_38_0.toInt ≤ 2147483647) ∧ (0 ≤ x_38_5.toInt ∧ x_38_5.toInt ≤ 39) ∧ (CO x_38_13) ∧ (WA x_38_15) ∧ (TE x_38_16) ∧ (CE x_38_17) ∧ (BU x_38_18) ∧ (0 ≤ x_38_19.toInt ∧ x_38_19.toInt ≤ 16) ∧ (0 ≤ x_38_20.toInt ∧ x_38_20.toInt ≤ 15) ∧ (DI x_38_21 x_38_22 x_38_23 x_38_24 x_38_25) → 2147483648 - x_38_0.toInt < (n : Int) → wl_X7_runOrders_N_38 h0_world p0_length n_p0_heads f_p0_heads n_p0_code f_p0_code h0_world_lawCount h0_world_force h0_world_folk_listeners h0_world_folk_noises f_h0_world_rock_hard h0_world_crew_count f_h0_world_rock_kind f_h0_world_laws f_h0_world_folk_noiseColumn f_h0_world_folk_noiseLoud x_12_0 r_23 r_30 Q Qb n x_38_0 x_38_1 x_38_2 x_38_3 x_38_4 x_38_5 x_38_6 x_38_7 x_38_8 x_38_9 x_38_10 x_38_11 x_38_12 x_38_13 x_38_14 x_38_15 x_38_16 x_38_17 x_38_18 x_38_19 x_38_20 x_38_21 x_38_22 x_38_23 x_38_24 x_38_25 := by
  intro n
  induction n with
  | zero =>
    intro x_38_0 x_38_1 x_38_2 x_38_3 x_38_4 x_38_5 x_38_6 x_38_7 x_38_8 x_38_9 x_38_10 x_38_11 x_38_12 x_38_13 x_38_14 x_38_15 x_38_16 x_38_17 x_38_18 x_38_19 x_38_20 x_38_21 x_38_22 x_38_23 x_38_24 x_38_25 hI hm
    exfalso; have hm : 2147483648 - x_38_0.toInt < 0 := hm; omega
  | succ n ih =>
    intro x_38_0 x_38_1 x_38_2 x_38_3 x_38_4 x_38_5 x_38_6 x_38_7 x_38_8 x_38_9 x_38_10 x_38_11 x_38_12 x_38_13 x_38_14 x_38_15 x_38_16 x_38_17 x_38_18 x_38_19 x_38_20 x_38_21 x_38_22 x_38_23 x_38_24 x_38_25 hI hm
    have hm : 2147483648 - x_38_0.toInt < (n : Int) + 1 := by simpa using hm
    have h_x_38_0 := hI.1
    have h_x_38_5 := hI.2.1
    have h_x_38_13 := hI.2.2.1
    have h_x_38_15 := hI.2.2.2.1
    have h_x_38_16 := hI.2.2.2.2.1
    have h_x_38_17 := hI.2.2.2.2.2.1
    have h_x_38_18 := hI.2.2.2.2.2.2.1
    have h_x_38_19 := hI.2.2.2.2.2.2.2.1
    have h_x_38_20 := hI.2.2.2.2.2.2.2.2.1
    have h_rel0 := hI.2.2.2.2.2.2.2.2.2
    unfold wl_X7_runOrders_N_38
    have i38 := i32_hi r_23
    by_cases c8 : r_23 ≤ x_38_0
    · refine br1 c8 ?_
      have d9 := le_z (a := r_23) (b := x_38_0) (x := (Int32.toInt r_23)) (y := (Int32.toInt x_38_0)) rfl rfl c8
      have t10 := i32_hi x_38_0
      exact KX _ _ _ _ _ _ _ _ _ _ _ _ _ _ _ _ _ _ _ _ _ _ _ _ _ _ ⟨⟨by omega, by omega⟩, ⟨by omega, by omega⟩, h_x_38_13, h_x_38_15, h_x_38_16, h_x_38_17, h_x_38_18, ⟨by omega, by omega⟩, ⟨by omega, by omega⟩, h_rel0⟩
    · refine br0 c8 ?_
      have d11 := nle_z (a := r_23) (b := x_38_0) (x := (Int32.toInt r_23)) (y := (Int32.toInt x_38_0)) rfl rfl c8
      refine o_X0_turnToOrders _ _ _ ?_
      refine un2_i ?_
      refine jn_s ?_
      by_cases c12 : r_30 = (-1)
      · refine br1 c12 ?_
        have d13 := eq_z (a := r_30) (b := (-1)) (x := (Int32.toInt r_30)) (y := (-1)) rfl (by decide) c12
        refine un2_i ?_
        refine s_X7_runOrder_N x_12_0 h0_world x_38_2 p0_length n_p0_heads (f_p0_heads) x_38_4 x_38_5 x_38_6 x_38_7 x_38_1 x_38_2 x_38_10 n_p0_code (f_p0_code) (x_38_11) h0_world_lawCount h0_world_force h0_world_folk_listeners h0_world_folk_noises x_38_12 (x_38_13) x_38_14 (f_h0_world_rock_hard) (x_38_15) (x_38_16) h0_world_crew_count (x_38_17) (x_38_18) (f_h0_world_rock_kind) (f_h0_world_laws) x_38_19 x_38_20 (x_38_21) (x_38_22) (x_38_23) (x_38_24) (x_38_25) (f_h0_world_folk_noiseColumn) (f_h0_world_folk_noiseLoud) ⟨by omega, by omega⟩ ⟨by omega, by omega⟩ h_f_p0_code ⟨by omega, by omega⟩ ⟨by omega, by omega⟩ ⟨by omega, by omega⟩ ⟨by omega, by omega⟩ h_x_38_13 h_f_h0_world_rock_hard h_x_38_15 h_x_38_16 ⟨by omega, by omega⟩ h_x_38_17 h_x_38_18 h_f_h0_world_rock_kind ⟨by omega, by omega⟩ ⟨by omega, by omega⟩ h_f_h0_world_folk_noiseColumn h_f_h0_world_folk_noiseLoud (by omega) (by omega) h_rel0 (fun r14 u15_0 u15_1 u15_2 u15_3 u15_4 u15_5 u15_6 u15_7 u15_8 u15_9 u15_10 u15_11 u15_12 u15_13 u15_14 u15_15 u15_16 u15_17 u15_18 u15_19 u15_20 u15_21 H16 => ?_)
        have j17 := H16.1
        have j18 := H16.2.1
        have j19 := H16.2.2.1
        have j20 := H16.2.2.2.1
        have j21 := H16.2.2.2.2.1
        have j22 := H16.2.2.2.2.2.1
        have j23 := H16.2.2.2.2.2.2.1
        have j24 := H16.2.2.2.2.2.2.2.1
        have j25 := H16.2.2.2.2.2.2.2.2
        refine un22_i ?_
        by_cases c26 : r14 = 0
        · refine br1 c26 ?_
          have d27 := eq_z (a := r14) (b := 0) (x := (Int32.toInt r14)) (y := 0) rfl rfl c26
          exact hq _ _ _ _ _ _ _ _ _ _ _ _ _ _ _ _ _ _ _ _ _ _ _ _ _ _ ⟨⟨by omega, by omega⟩, j18, j19, j20, j21, j22, ⟨by omega, by omega⟩, ⟨by omega, by omega⟩, j25⟩
        · refine br0 c26 ?_
          have d28 := ne_z (a := r14) (b := 0) (x := (Int32.toInt r14)) (y := 0) rfl rfl c26
          have t29 : (Int32.toInt (x_38_0 + 1)) = (Int32.toInt x_38_0) + 1 := add_z rfl rfl (by omega) (by omega)
          have t30 := i32_hi (x_38_0 + 1)
          exact ih _ _ _ _ _ _ _ _ _ _ _ _ _ _ _ _ _ _ _ _ _ _ _ _ _ _ ⟨⟨by omega, by omega⟩, ⟨by omega, by omega⟩, j18, j19, j20, j21, j22, ⟨by omega, by omega⟩, ⟨by omega, by omega⟩, j25⟩ (by omega)
      · refine br0 c12 ?_
        have d31 := ne_z (a := r_30) (b := (-1)) (x := (Int32.toInt r_30)) (y := (-1)) rfl (by decide) c12
        refine s_X0_reckon r_30 x_38_5 x_38_6 x_38_7 x_38_1 x_38_2 x_38_10 p0_length n_p0_code (f_p0_code) (x_38_11) h0_world_folk_listeners (x_38_13) (f_h0_world_rock_hard) (x_38_15) (x_38_16) h0_world_crew_count (x_38_17) (x_38_18) ⟨by omega, by omega⟩ ⟨by omega, by omega⟩ h_f_p0_code ⟨by omega, by omega⟩ h_x_38_13 h_f_h0_world_rock_hard h_x_38_15 h_x_38_16 ⟨by omega, by omega⟩ h_x_38_17 h_x_38_18 (by omega) (fun r32 u33_0 u33_1 H34 => ?_)
        have j35 := H34
        refine un2_i ?_
        by_cases c36 : r32 = 0
        · refine br1 c36 ?_
          have d37 := eq_z (a := r32) (b := 0) (x := (Int32.toInt r32)) (y := 0) rfl rfl c36
          have t38 : (Int32.toInt (x_38_0 + 1)) = (Int32.toInt x_38_0) + 1 := add_z rfl rfl (by omega) (by omega)
          have t39 := i32_hi (x_38_0 + 1)
          exact ih _ _ _ _ _ _ _ _ _ _ _ _ _ _ _ _ _ _ _ _ _ _ _ _ _ _ ⟨⟨by omega, by omega⟩, ⟨by omega, by omega⟩, h_x_38_13, h_x_38_15, h_x_38_16, h_x_38_17, h_x_38_18, ⟨by omega, by omega⟩, ⟨by omega, by omega⟩, h_rel0⟩ (by omega)
        · refine br0 c36 ?_
          have d40 := ne_z (a := r32) (b := 0) (x := (Int32.toInt r32)) (y := 0) rfl rfl c36
          refine o_X0_reckoned _ _ ?_
          by_cases c41 : u33_0 = 1
          · refine br1 c41 ?_
            have d42 := eq_z (a := u33_0) (b := 1) (x := (Int32.toInt u33_0)) (y := 1) rfl rfl c41
            refine un2_i ?_
            refine s_X7_runOrder_N x_12_0 h0_world x_38_2 p0_length n_p0_heads (f_p0_heads) x_38_4 x_38_5 x_38_6 x_38_7 x_38_1 x_38_2 u33_0 n_p0_code (f_p0_code) (u33_1) h0_world_lawCount h0_world_force h0_world_folk_listeners h0_world_folk_noises x_38_12 (x_38_13) x_38_14 (f_h0_world_rock_hard) (x_38_15) (x_38_16) h0_world_crew_count (x_38_17) (x_38_18) (f_h0_world_rock_kind) (f_h0_world_laws) x_38_19 x_38_20 (x_38_21) (x_38_22) (x_38_23) (x_38_24) (x_38_25) (f_h0_world_folk_noiseColumn) (f_h0_world_folk_noiseLoud) ⟨by omega, by omega⟩ ⟨by omega, by omega⟩ h_f_p0_code ⟨by omega, by omega⟩ ⟨by omega, by omega⟩ ⟨by omega, by omega⟩ ⟨by omega, by omega⟩ h_x_38_13 h_f_h0_world_rock_hard h_x_38_15 h_x_38_16 ⟨by omega, by omega⟩ h_x_38_17 h_x_38_18 h_f_h0_world_rock_kind ⟨by omega, by omega⟩ ⟨by omega, by omega⟩ h_f_h0_world_folk_noiseColumn h_f_h0_world_folk_noiseLoud (by omega) (by omega) h_rel0 (fun r43 u44_0 u44_1 u44_2 u44_3 u44_4 u44_5 u44_6 u44_7 u44_8 u44_9 u44_10 u44_11 u44_12 u44_13 u44_14 u44_15 u44_16 u44_17 u44_18 u44_19 u44_20 u44_21 H45 => ?_)
            have j46 := H45.1
            have j47 := H45.2.1
            have j48 := H45.2.2.1
            have j49 := H45.2.2.2.1
            have j50 := H45.2.2.2.2.1
            have j51 := H45.2.2.2.2.2.1
            have j52 := H45.2.2.2.2.2.2.1
            have j53 := H45.2.2.2.2.2.2.2.1
            have j54 := H45.2.2.2.2.2.2.2.2
            refine un22_i ?_
            by_cases c55 : r43 = 0
            · refine br1 c55 ?_
              have d56 := eq_z (a := r43) (b := 0) (x := (Int32.toInt r43)) (y := 0) rfl rfl c55
              exact hq _ _ _ _ _ _ _ _ _ _ _ _ _ _ _ _ _ _ _ _ _ _ _ _ _ _ ⟨⟨by omega, by omega⟩, j47, j48, j49, j50, j51, ⟨by omega, by omega⟩, ⟨by omega, by omega⟩, j54⟩
            · refine br0 c55 ?_
              have d57 := ne_z (a := r43) (b := 0) (x := (Int32.toInt r43)) (y := 0) rfl rfl c55
              have t58 : (Int32.toInt (x_38_0 + 1)) = (Int32.toInt x_38_0) + 1 := add_z rfl rfl (by omega) (by omega)
              have t59 := i32_hi (x_38_0 + 1)
              exact ih _ _ _ _ _ _ _ _ _ _ _ _ _ _ _ _ _ _ _ _ _ _ _ _ _ _ ⟨⟨by omega, by omega⟩, ⟨by omega, by omega⟩, j47, j48, j49, j50, j51, ⟨by omega, by omega⟩, ⟨by omega, by omega⟩, j54⟩ (by omega)
          · refine br0 c41 ?_
            have d60 := ne_z (a := u33_0) (b := 1) (x := (Int32.toInt u33_0)) (y := 1) rfl rfl c41
            have t61 : (Int32.toInt (x_38_0 + 1)) = (Int32.toInt x_38_0) + 1 := add_z rfl rfl (by omega) (by omega)
            have t62 := i32_hi (x_38_0 + 1)
            exact ih _ _ _ _ _ _ _ _ _ _ _ _ _ _ _ _ _ _ _ _ _ _ _ _ _ _ ⟨⟨by omega, by omega⟩, ⟨by omega, by omega⟩, h_x_38_13, h_x_38_15, h_x_38_16, h_x_38_17, h_x_38_18, ⟨by omega, by omega⟩, ⟨by omega, by omega⟩, h_rel0⟩ (by omega)
set_option maxRecDepth 100000 in
theorem sl_X7_runOrders_N_12 (h0_world : Nat) (p0_clauses : Int32) (p0_length : Int32) (n_p0_heads : Nat) (f_p0_heads : Nat → Int32) (n_p0_code : Nat) (f_p0_code : Nat → Int32) (h0_world_lawCount : Int32) (h0_world_force : Int32) (h0_world_folk_listeners : Int32) (h0_world_folk_noises : Int32) (f_h0_world_rock_hard : Nat → Int32) (h0_world_crew_count : Int32) (f_h0_world_rock_kind : Nat → Int32) (f_h0_world_laws : Nat → Option Nat) (f_h0_world_folk_noiseColumn : Nat → Int32) (f_h0_world_folk_noiseLoud : Nat → Int32) (h_p0_clauses : 0 ≤ p0_clauses.toInt ∧ p0_clauses.toInt ≤ 12) (h_p0_length : 0 ≤ p0_length.toInt ∧ p0_length.toInt ≤ 400) (h_f_p0_code : CD f_p0_code) (h_h0_world_lawCount : 0 ≤ h0_world_lawCount.toInt ∧ h0_world_lawCount.toInt ≤ 6) (h_h0_world_force : (-1) ≤ h0_world_force.toInt ∧ h0_world_force.toInt ≤ (-1)) (h_h0_world_folk_listeners : 0 ≤ h0_world_folk_listeners.toInt ∧ h0_world_folk_listeners.toInt ≤ 5) (h_h0_world_folk_noises : 0 ≤ h0_world_folk_noises.toInt ∧ h0_world_folk_noises.toInt ≤ 6) (h_f_h0_world_rock_hard : HA f_h0_world_rock_hard) (h_h0_world_crew_count : 0 ≤ h0_world_crew_count.toInt ∧ h0_world_crew_count.toInt ≤ 6) (h_f_h0_world_rock_kind : KI f_h0_world_rock_kind) (h_f_h0_world_folk_noiseColumn : NC f_h0_world_folk_noiseColumn) (h_f_h0_world_folk_noiseLoud : NL f_h0_world_folk_noiseLoud) (z_n_p0_heads : n_p0_heads < 100000) (z_n_p0_code : p0_length.toInt ≤ (n_p0_code : Int)) {Q : Int32 → (Int32 × Int32 × Value × Value × Int32 × Int32 × Int32 × Int32 × Int32 × Int32 × (Nat → Int64) × Int32 × (Nat → Int32) × Int64 × (Nat → Int32) × (Nat → Int32) × (Nat → Int32) × (Nat → Int32) × Int32 × Int32 × (Nat → Int32) × (Nat → Int32) × (Nat → Int32) × (Nat → Int32) × (Nat → Int32)) → Prop} (hq : ∀ (r : Int32) (u_0 : Int32) (u_1 : Int32) (u_2 : Value) (u_3 : Value) (u_4 : Int32) (u_5 : Int32) (u_6 : Int32) (u_7 : Int32) (u_8 : Int32) (u_9 : Int32) (u_10 : Nat → Int64) (u_11 : Int32) (u_12 : Nat → Int32) (u_13 : Int64) (u_14 : Nat → Int32) (u_15 : Nat → Int32) (u_16 : Nat → Int32) (u_17 : Nat → Int32) (u_18 : Int32) (u_19 : Int32) (u_20 : Nat → Int32) (u_21 : Nat → Int32) (u_22 : Nat → Int32) (u_23 : Nat → Int32) (u_24 : Nat → Int32), (0 ≤ u_4.toInt ∧ u_4.toInt ≤ 39) ∧ (CO u_12) ∧ (WA u_14) ∧ (TE u_15) ∧ (CE u_16) ∧ (BU u_17) ∧ (0 ≤ u_18.toInt ∧ u_18.toInt ≤ 16) ∧ (0 ≤ u_19.toInt ∧ u_19.toInt ≤ 15) ∧ (DI u_20 u_21 u_22 u_23 u_24) → Q r (u_0, u_1, u_2, u_3, u_4, u_5, u_6, u_7, u_8, u_9, u_10, u_11, u_12, u_13, u_14, u_15, u_16, u_17, u_18, u_19, u_20, u_21, u_22, u_23, u_24)) (Qb : Int32 → Int32 → Int32 → Value → Value → Int32 → Int32 → Int32 → Int32 → Int32 → Int32 → (Nat → Int64) → Int32 → (Nat → Int32) → Int64 → (Nat → Int32) → (Nat → Int32) → (Nat → Int32) → (Nat → Int32) → Int32 → Int32 → (Nat → Int32) → (Nat → Int32) → (Nat → Int32) → (Nat → Int32) → (Nat → Int32) → Prop) (KX : ∀ (x_12_0 : Int32) (x_12_1 : Int32) (x_12_2 : Int32) (x_12_3 : Value) (x_12_4 : Value) (x_12_5 : Int32) (x_12_6 : Int32) (x_12_7 : Int32) (x_12_8 : Int32) (x_12_9 : Int32) (x_12_10 : Int32) (x_12_11 : Nat → Int64) (x_12_12 : Int32) (x_12_13 : Nat → Int32) (x_12_14 : Int64) (x_12_15 : Nat → Int32) (x_12_16 : Nat → Int32) (x_12_17 : Nat → Int32) (x_12_18 : Nat → Int32) (x_12_19 : Int32) (x_12_20 : Int32) (x_12_21 : Nat → Int32) (x_12_22 : Nat → Int32) (x_12_23 : Nat → Int32) (x_12_24 : Nat → Int32) (x_12_25 : Nat → Int32), (0 ≤ x_12_0.toInt ∧ x_12_0.toInt ≤ 12) ∧ (0 ≤ x_12_5.toInt ∧ x_12_5.toInt ≤ 39) ∧ (CO x_12_13) ∧ (WA x_12_15) ∧ (TE x_12_16) ∧ (CE x_12_17) ∧ (BU x_12_18) ∧ (0 ≤ x_12_19.toInt ∧ x_12_19.toInt ≤ 16) ∧ (0 ≤ x_12_20.toInt ∧ x_12_20.toInt ≤ 15) ∧ (DI x_12_21 x_12_22 x_12_23 x_12_24 x_12_25) → Qb x_12_0 x_12_1 x_12_2 x_12_3 x_12_4 x_12_5 x_12_6 x_12_7 x_12_8 x_12_9 x_12_10 x_12_11 x_12_12 x_12_13 x_12_14 x_12_15 x_12_16 x_12_17 x_12_18 x_12_19 x_12_20 x_12_21 x_12_22 x_12_23 x_12_24 x_12_25) : ∀ (n : Nat) (x_12_0 : Int32) (x_12_1 : Int32) (x_12_2 : Int32) (x_12_3 : Value) (x_12_4 : Value) (x_12_5 : Int32) (x_12_6 : Int32) (x_12_7 : Int32) (x_12_8 : Int32) (x_12_9 : Int32) (x_12_10 : Int32) (x_12_11 : Nat → Int64) (x_12_12 : Int32) (x_12_13 : Nat → Int32) (x_12_14 : Int64) (x_12_15 : Nat → Int32) (x_12_16 : Nat → Int32) (x_12_17 : Nat → Int32) (x_12_18 : Nat → Int32) (x_12_19 : Int32) (x_12_20 : Int32) (x_12_21 : Nat → Int32) (x_12_22 : Nat → Int32) (x_12_23 : Nat → Int32) (x_12_24 : Nat → Int32) (x_12_25 : Nat → Int32), (0 ≤ x_12_0.toInt ∧ x_12_0.toInt ≤ 12) ∧ (0 ≤ x_12_5.toInt ∧ x_12_5.toInt ≤ 39) ∧ (CO x_12_13) ∧ (WA x_12_15) ∧ (TE x_12_16) ∧ (CE x_12_17) ∧ (BU x_12_18) ∧ (0 ≤ x_12_19.toInt ∧ x_12_19.toInt ≤ 16) ∧ (0 ≤ x_12_20.toInt ∧ x_12_20.toInt ≤ 15) ∧ (DI x_12_21 x_12_22 x_12_23 x_12_24 x_12_25) → 13 - x_12_0.toInt < (n : Int) → wl_X7_runOrders_N_12 h0_world p0_clauses p0_length n_p0_heads f_p0_heads n_p0_code f_p0_code h0_world_lawCount h0_world_force h0_world_folk_listeners h0_world_folk_noises f_h0_world_rock_hard h0_world_crew_count f_h0_world_rock_kind f_h0_world_laws f_h0_world_folk_noiseColumn f_h0_world_folk_noiseLoud Q Qb n x_12_0 x_12_1 x_12_2 x_12_3 x_12_4 x_12_5 x_12_6 x_12_7 x_12_8 x_12_9 x_12_10 x_12_11 x_12_12 x_12_13 x_12_14 x_12_15 x_12_16 x_12_17 x_12_18 x_12_19 x_12_20 x_12_21 x_12_22 x_12_23 x_12_24 x_12_25 := by
  intro n
  induction n with
  | zero =>
    intro x_12_0 x_12_1 x_12_2 x_12_3 x_12_4 x_12_5 x_12_6 x_12_7 x_12_8 x_12_9 x_12_10 x_12_11 x_12_12 x_12_13 x_12_14 x_12_15 x_12_16 x_12_17 x_12_18 x_12_19 x_12_20 x_12_21 x_12_22 x_12_23 x_12_24 x_12_25 hI hm
    exfalso; have hm : 13 - x_12_0.toInt < 0 := hm; omega
  | succ n ih =>
    intro x_12_0 x_12_1 x_12_2 x_12_3 x_12_4 x_12_5 x_12_6 x_12_7 x_12_8 x_12_9 x_12_10 x_12_11 x_12_12 x_12_13 x_12_14 x_12_15 x_12_16 x_12_17 x_12_18 x_12_19 x_12_20 x_12_21 x_12_22 x_12_23 x_12_24 x_12_25 hI hm
    have hm : 13 - x_12_0.toInt < (n : Int) + 1 := by simpa using hm
    have h_x_12_0 := hI.1
    have h_x_12_5 := hI.2.1
    have h_x_12_13 := hI.2.2.1
    have h_x_12_15 := hI.2.2.2.1
    have h_x_12_16 := hI.2.2.2.2.1
    have h_x_12_17 := hI.2.2.2.2.2.1
    have h_x_12_18 := hI.2.2.2.2.2.2.1
    have h_x_12_19 := hI.2.2.2.2.2.2.2.1
    have h_x_12_20 := hI.2.2.2.2.2.2.2.2.1
    have h_rel0 := hI.2.2.2.2.2.2.2.2.2
    unfold wl_X7_runOrders_N_12
    by_cases c1 : p0_clauses ≤ x_12_0
    · refine br1 c1 ?_
      have d2 := le_z (a := p0_clauses) (b := x_12_0) (x := (Int32.toInt p0_clauses)) (y := (Int32.toInt x_12_0)) rfl rfl c1
      exact KX _ _ _ _ _ _ _ _ _ _ _ _ _ _ _ _ _ _ _ _ _ _ _ _ _ _ ⟨⟨by omega, by omega⟩, ⟨by omega, by omega⟩, h_x_12_13, h_x_12_15, h_x_12_16, h_x_12_17, h_x_12_18, ⟨by omega, by omega⟩, ⟨by omega, by omega⟩, h_rel0⟩
    · refine br0 c1 ?_
      have d3 := nle_z (a := p0_clauses) (b := x_12_0) (x := (Int32.toInt p0_clauses)) (y := (Int32.toInt x_12_0)) rfl rfl c1
      refine s_X8_headOf x_12_0 4 n_p0_heads (f_p0_heads) (by omega) (fun r4 H5 => ?_)
      refine s_X8_headOf x_12_0 3 n_p0_heads (f_p0_heads) (by omega) (fun r6 H7 => ?_)
      have k10 : Int32.toInt 0 = 0 := rfl
      refine sl_X7_runOrders_N_38 h0_world p0_length n_p0_heads (f_p0_heads) n_p0_code (f_p0_code) h0_world_lawCount h0_world_force h0_world_folk_listeners h0_world_folk_noises (f_h0_world_rock_hard) h0_world_crew_count (f_h0_world_rock_kind) f_h0_world_laws (f_h0_world_folk_noiseColumn) (f_h0_world_folk_noiseLoud) x_12_0 r4 r6 ⟨by omega, by omega⟩ h_f_p0_code ⟨by omega, by omega⟩ ⟨by omega, by omega⟩ ⟨by omega, by omega⟩ ⟨by omega, by omega⟩ h_f_h0_world_rock_hard ⟨by omega, by omega⟩ h_f_h0_world_rock_kind h_f_h0_world_folk_noiseColumn h_f_h0_world_folk_noiseLoud ⟨by omega, by omega⟩ (by omega) (by omega) hq _ (fun x8_0 x8_1 x8_2 x8_3 x8_4 x8_5 x8_6 x8_7 x8_8 x8_9 x8_10 x8_11 x8_12 x8_13 x8_14 x8_15 x8_16 x8_17 x8_18 x8_19 x8_20 x8_21 x8_22 x8_23 x8_24 x8_25 X9 => ?_) 1000000000000 0 x_12_1 x_12_2 x_12_3 x_12_4 x_12_5 x_12_6 x_12_7 x_12_8 x_12_9 x_12_10 (x_12_11) x_12_12 (x_12_13) x_12_14 (x_12_15) (x_12_16) (x_12_17) (x_12_18) x_12_19 x_12_20 (x_12_21) (x_12_22) (x_12_23) (x_12_24) (x_12_25) ⟨(by decide), ⟨by omega, by omega⟩, h_x_12_13, h_x_12_15, h_x_12_16, h_x_12_17, h_x_12_18, ⟨by omega, by omega⟩, ⟨by omega, by omega⟩, h_rel0⟩ (by omega)
      have j11 := X9.1
      have j12 := X9.2.1
      have j13 := X9.2.2.1
      have j14 := X9.2.2.2.1
      have j15 := X9.2.2.2.2.1
      have j16 := X9.2.2.2.2.2.1
      have j17 := X9.2.2.2.2.2.2.1
      have j18 := X9.2.2.2.2.2.2.2.1
      have j19 := X9.2.2.2.2.2.2.2.2.1
      have j20 := X9.2.2.2.2.2.2.2.2.2
      have t21 : (Int32.toInt (x_12_0 + 1)) = (Int32.toInt x_12_0) + 1 := add_z rfl rfl (by omega) (by omega)
      exact ih _ _ _ _ _ _ _ _ _ _ _ _ _ _ _ _ _ _ _ _ _ _ _ _ _ _ ⟨⟨by omega, by omega⟩, ⟨by omega, by omega⟩, j13, j14, j15, j16, j17, ⟨by omega, by omega⟩, ⟨by omega, by omega⟩, j20⟩ (by omega)
set_option maxRecDepth 100000 in
theorem s_X7_runOrders_N (h0_world : Nat) (p0_clauses : Int32) (p0_length : Int32) (n_p0_heads : Nat) (f_p0_heads : Nat → Int32) (h0_asker_world : Value) (h0_asker_law : Value) (h0_asker_cell : Int32) (h0_asker_shaft : Int32) (h0_asker_kind : Int32) (h0_asker_done : Int32) (h0_asker_latest : Int32) (h0_asker_value : Int32) (n_p0_code : Nat) (f_p0_code : Nat → Int32) (f_h0_asker_stack : Nat → Int64) (h0_world_lawCount : Int32) (h0_world_force : Int32) (h0_world_folk_listeners : Int32) (h0_world_folk_noises : Int32) (h0_world_folk_hushed : Int32) (f_h0_world_folk_column : Nat → Int32) (h0_world_rock_dug : Int64) (f_h0_world_rock_hard : Nat → Int32) (f_h0_world_rock_water : Nat → Int32) (f_h0_world_term : Nat → Int32) (h0_world_crew_count : Int32) (f_h0_world_crew_cell : Nat → Int32) (f_h0_world_crew_buckets : Nat → Int32) (f_h0_world_rock_kind : Nat → Int32) (f_h0_world_laws : Nat → Option Nat) (h0_diary_kept : Int32) (h0_diary_latest : Int32) (f_h0_diary_deed : Nat → Int32) (f_h0_diary_whose : Nat → Int32) (f_h0_diary_before : Nat → Int32) (f_h0_diary_bucketsBefore : Nat → Int32) (f_h0_diary_dayBefore : Nat → Int32) (f_h0_world_folk_noiseColumn : Nat → Int32) (f_h0_world_folk_noiseLoud : Nat → Int32) (h_p0_clauses : 0 ≤ p0_clauses.toInt ∧ p0_clauses.toInt ≤ 12) (h_p0_length : 0 ≤ p0_length.toInt ∧ p0_length.toInt ≤ 400) (h_h0_asker_cell : 0 ≤ h0_asker_cell.toInt ∧ h0_asker_cell.toInt ≤ 39) (h_f_p0_code : CD f_p0_code) (h_h0_world_lawCount : 0 ≤ h0_world_lawCount.toInt ∧ h0_world_lawCount.toInt ≤ 6) (h_h0_world_force : (-1) ≤ h0_world_force.toInt ∧ h0_world_force.toInt ≤ (-1)) (h_h0_world_folk_listeners : 0 ≤ h0_world_folk_listeners.toInt ∧ h0_world_folk_listeners.toInt ≤ 5) (h_h0_world_folk_noises : 0 ≤ h0_world_folk_noises.toInt ∧ h0_world_folk_noises.toInt ≤ 6) (h_f_h0_world_folk_column : CO f_h0_world_folk_column) (h_f_h0_world_rock_hard : HA f_h0_world_rock_hard) (h_f_h0_world_rock_water : WA f_h0_world_rock_water) (h_f_h0_world_term : TE f_h0_world_term) (h_h0_world_crew_count : 0 ≤ h0_world_crew_count.toInt ∧ h0_world_crew_count.toInt ≤ 6) (h_f_h0_world_crew_cell : CE f_h0_world_crew_cell) (h_f_h0_world_crew_buckets : BU f_h0_world_crew_buckets) (h_f_h0_world_rock_kind : KI f_h0_world_rock_kind) (h_h0_diary_kept : 0 ≤ h0_diary_kept.toInt ∧ h0_diary_kept.toInt ≤ 16) (h_h0_diary_latest : 0 ≤ h0_diary_latest.toInt ∧ h0_diary_latest.toInt ≤ 15) (h_f_h0_world_folk_noiseColumn : NC f_h0_world_folk_noiseColumn) (h_f_h0_world_folk_noiseLoud : NL f_h0_world_folk_noiseLoud) (e_0 : n_p0_heads < 100000) (e_1 : p0_length.toInt ≤ (n_p0_code : Int)) (e_2 : DI f_h0_diary_deed f_h0_diary_whose f_h0_diary_before f_h0_diary_bucketsBefore f_h0_diary_dayBefore) {Q : Int32 → (Int32 × Int32 × Value × Value × Int32 × Int32 × Int32 × Int32 × Int32 × Int32 × (Nat → Int64) × Int32 × (Nat → Int32) × Int64 × (Nat → Int32) × (Nat → Int32) × (Nat → Int32) × (Nat → Int32) × Int32 × Int32 × (Nat → Int32) × (Nat → Int32) × (Nat → Int32) × (Nat → Int32) × (Nat → Int32)) → Prop} (hq : ∀ (r : Int32) (u_0 : Int32) (u_1 : Int32) (u_2 : Value) (u_3 : Value) (u_4 : Int32) (u_5 : Int32) (u_6 : Int32) (u_7 : Int32) (u_8 : Int32) (u_9 : Int32) (u_10 : Nat → Int64) (u_11 : Int32) (u_12 : Nat → Int32) (u_13 : Int64) (u_14 : Nat → Int32) (u_15 : Nat → Int32) (u_16 : Nat → Int32) (u_17 : Nat → Int32) (u_18 : Int32) (u_19 : Int32) (u_20 : Nat → Int32) (u_21 : Nat → Int32) (u_22 : Nat → Int32) (u_23 : Nat → Int32) (u_24 : Nat → Int32), (0 ≤ u_4.toInt ∧ u_4.toInt ≤ 39) ∧ (CO u_12) ∧ (WA u_14) ∧ (TE u_15) ∧ (CE u_16) ∧ (BU u_17) ∧ (0 ≤ u_18.toInt ∧ u_18.toInt ≤ 16) ∧ (0 ≤ u_19.toInt ∧ u_19.toInt ≤ 15) ∧ (DI u_20 u_21 u_22 u_23 u_24) → Q r (u_0, u_1, u_2, u_3, u_4, u_5, u_6, u_7, u_8, u_9, u_10, u_11, u_12, u_13, u_14, u_15, u_16, u_17, u_18, u_19, u_20, u_21, u_22, u_23, u_24)) : wp_X7_runOrders_N h0_world p0_clauses p0_length n_p0_heads f_p0_heads h0_asker_world h0_asker_law h0_asker_cell h0_asker_shaft h0_asker_kind h0_asker_done h0_asker_latest h0_asker_value n_p0_code f_p0_code f_h0_asker_stack h0_world_lawCount h0_world_force h0_world_folk_listeners h0_world_folk_noises h0_world_folk_hushed f_h0_world_folk_column h0_world_rock_dug f_h0_world_rock_hard f_h0_world_rock_water f_h0_world_term h0_world_crew_count f_h0_world_crew_cell f_h0_world_crew_buckets f_h0_world_rock_kind f_h0_world_laws h0_diary_kept h0_diary_latest f_h0_diary_deed f_h0_diary_whose f_h0_diary_before f_h0_diary_bucketsBefore f_h0_diary_dayBefore f_h0_world_folk_noiseColumn f_h0_world_folk_noiseLoud Q := by
  unfold wp_X7_runOrders_N
  have k3 : Int32.toInt 0 = 0 := rfl
  have k4 : Int32.toInt (-1) = (-1) := (by decide)
  refine sl_X7_runOrders_N_12 h0_world p0_clauses p0_length n_p0_heads (f_p0_heads) n_p0_code (f_p0_code) h0_world_lawCount h0_world_force h0_world_folk_listeners h0_world_folk_noises (f_h0_world_rock_hard) h0_world_crew_count (f_h0_world_rock_kind) f_h0_world_laws (f_h0_world_folk_noiseColumn) (f_h0_world_folk_noiseLoud) ⟨by omega, by omega⟩ ⟨by omega, by omega⟩ h_f_p0_code ⟨by omega, by omega⟩ ⟨by omega, by omega⟩ ⟨by omega, by omega⟩ ⟨by omega, by omega⟩ h_f_h0_world_rock_hard ⟨by omega, by omega⟩ h_f_h0_world_rock_kind h_f_h0_world_folk_noiseColumn h_f_h0_world_folk_noiseLoud (by omega) (by omega) hq _ (fun x1_0 x1_1 x1_2 x1_3 x1_4 x1_5 x1_6 x1_7 x1_8 x1_9 x1_10 x1_11 x1_12 x1_13 x1_14 x1_15 x1_16 x1_17 x1_18 x1_19 x1_20 x1_21 x1_22 x1_23 x1_24 x1_25 X2 => ?_) 1000000000000 0 0 (-1) h0_asker_world h0_asker_law h0_asker_cell h0_asker_shaft h0_asker_kind h0_asker_done h0_asker_latest h0_asker_value (f_h0_asker_stack) h0_world_folk_hushed (f_h0_world_folk_column) h0_world_rock_dug (f_h0_world_rock_water) (f_h0_world_term) (f_h0_world_crew_cell) (f_h0_world_crew_buckets) h0_diary_kept h0_diary_latest (f_h0_diary_deed) (f_h0_diary_whose) (f_h0_diary_before) (f_h0_diary_bucketsBefore) (f_h0_diary_dayBefore) ⟨(by decide), ⟨by omega, by omega⟩, h_f_h0_world_folk_column, h_f_h0_world_rock_water, h_f_h0_world_term, h_f_h0_world_crew_cell, h_f_h0_world_crew_buckets, ⟨by omega, by omega⟩, ⟨by omega, by omega⟩, e_2⟩ (by omega)
  have j5 := X2.1
  have j6 := X2.2.1
  have j7 := X2.2.2.1
  have j8 := X2.2.2.2.1
  have j9 := X2.2.2.2.2.1
  have j10 := X2.2.2.2.2.2.1
  have j11 := X2.2.2.2.2.2.2.1
  have j12 := X2.2.2.2.2.2.2.2.1
  have j13 := X2.2.2.2.2.2.2.2.2.1
  have j14 := X2.2.2.2.2.2.2.2.2.2
  exact hq _ _ _ _ _ _ _ _ _ _ _ _ _ _ _ _ _ _ _ _ _ _ _ _ _ _ ⟨⟨by omega, by omega⟩, j7, j8, j9, j10, j11, ⟨by omega, by omega⟩, ⟨by omega, by omega⟩, j14⟩


set_option maxRecDepth 100000 in
theorem sl_X7_runOrders_T_38 (h0_world : Nat) (p0_length : Int32) (n_p0_heads : Nat) (f_p0_heads : Nat → Int32) (n_p0_code : Nat) (f_p0_code : Nat → Int32) (h0_world_lawCount : Int32) (h0_world_force : Int32) (h0_world_folk_listeners : Int32) (h0_world_folk_noises : Int32) (f_h0_world_rock_hard : Nat → Int32) (h0_world_crew_count : Int32) (f_h0_world_rock_kind : Nat → Int32) (f_h0_world_laws : Nat → Option Nat) (t : Nat) (t_clauses : Int32) (t_length : Int32) (n_t_heads : Nat) (f_t_heads : Nat → Int32) (n_t_code : Nat) (f_t_code : Nat → Int32) (f_h0_world_folk_noiseColumn : Nat → Int32) (f_h0_world_folk_noiseLoud : Nat → Int32) (x_12_0 : Int32) (r_23 : Int32) (r_30 : Int32) (h_p0_length : 0 ≤ p0_length.toInt ∧ p0_length.toInt ≤ 400) (h_f_p0_code : CD f_p0_code) (h_h0_world_lawCount : 0 ≤ h0_world_lawCount.toInt ∧ h0_world_lawCount.toInt ≤ 6) (h_h0_world_force : 0 ≤ h0_world_force.toInt ∧ h0_world_force.toInt ≤ 5) (h_h0_world_folk_listeners : 0 ≤ h0_world_folk_listeners.toInt ∧ h0_world_folk_listeners.toInt ≤ 5) (h_h0_world_folk_noises : 0 ≤ h0_world_folk_noises.toInt ∧ h0_world_folk_noises.toInt ≤ 6) (h_f_h0_world_rock_hard : HA f_h0_world_rock_hard) (h_h0_world_crew_count : 0 ≤ h0_world_crew_count.toInt ∧ h0_world_crew_count.toInt ≤ 6) (h_f_h0_world_rock_kind : KI f_h0_world_rock_kind) (h_t_clauses : 0 ≤ t_clauses.toInt ∧ t_clauses.toInt ≤ 12) (h_t_length : 0 ≤ t_length.toInt ∧ t_length.toInt ≤ 400) (h_f_t_code : CD f_t_code) (h_f_h0_world_folk_noiseColumn : NC f_h0_world_folk_noiseColumn) (h_f_h0_world_folk_noiseLoud : NL f_h0_world_folk_noiseLoud) (h_x_12_0 : 0 ≤ x_12_0.toInt ∧ x_12_0.toInt ≤ 11) (zlaw : f_h0_world_laws (Int32.toNatClampNeg h0_world_force) = some t) (zfo : h0_world_force.toInt < h0_world_lawCount.toInt) (z_n_p0_heads : n_p0_heads < 100000) (z_n_p0_code : p0_length.toInt ≤ (n_p0_code : Int)) (z_n_t_heads : n_t_heads < 100000) (z_n_t_code : t_length.toInt ≤ (n_t_code : Int)) {Q : Int32 → (Int32 × Int32 × Value × Value × Int32 × Int32 × Int32 × Int32 × Int32 × Int32 × (Nat → Int64) × Int32 × (Nat → Int32) × Int64 × (Nat → Int32) × (Nat → Int32) × (Nat → Int32) × (Nat → Int32) × Int32 × Int32 × (Nat → Int32) × (Nat → Int32) × (Nat → Int32) × (Nat → Int32) × (Nat → Int32)) → Prop} (hq : ∀ (r : Int32) (u_0 : Int32) (u_1 : Int32) (u_2 : Value) (u_3 : Value) (u_4 : Int32) (u_5 : Int32) (u_6 : Int32) (u_7 : Int32) (u_8 : Int32) (u_9 : Int32) (u_10 : Nat → Int64) (u_11 : Int32) (u_12 : Nat → Int32) (u_13 : Int64) (u_14 : Nat → Int32) (u_15 : Nat → Int32) (u_16 : Nat → Int32) (u_17 : Nat → Int32) (u_18 : Int32) (u_19 : Int32) (u_20 : Nat → Int32) (u_21 : Nat → Int32) (u_22 : Nat → Int32) (u_23 : Nat → Int32) (u_24 : Nat → Int32), (0 ≤ u_4.toInt ∧ u_4.toInt ≤ 39) ∧ (CO u_12) ∧ (WA u_14) ∧ (TE u_15) ∧ (CE u_16) ∧ (BU u_17) ∧ (0 ≤ u_18.toInt ∧ u_18.toInt ≤ 16) ∧ (0 ≤ u_19.toInt ∧ u_19.toInt ≤ 15) ∧ (DI u_20 u_21 u_22 u_23 u_24) → Q r (u_0, u_1, u_2, u_3, u_4, u_5, u_6, u_7, u_8, u_9, u_10, u_11, u_12, u_13, u_14, u_15, u_16, u_17, u_18, u_19, u_20, u_21, u_22, u_23, u_24)) (Qb : Int32 → Int32 → Int32 → Value → Value → Int32 → Int32 → Int32 → Int32 → Int32 → Int32 → (Nat → Int64) → Int32 → (Nat → Int32) → Int64 → (Nat → Int32) → (Nat → Int32) → (Nat → Int32) → (Nat → Int32) → Int32 → Int32 → (Nat → Int32) → (Nat → Int32) → (Nat → Int32) → (Nat → Int32) → (Nat → Int32) → Prop) (KX : ∀ (x_38_0 : Int32) (x_38_1 : Int32) (x_38_2 : Int32) (x_38_3 : Value) (x_38_4 : Value) (x_38_5 : Int32) (x_38_6 : Int32) (x_38_7 : Int32) (x_38_8 : Int32) (x_38_9 : Int32) (x_38_10 : Int32) (x_38_11 : Nat → Int64) (x_38_12 : Int32) (x_38_13 : Nat → Int32) (x_38_14 : Int64) (x_38_15 : Nat → Int32) (x_38_16 : Nat → Int32) (x_38_17 : Nat → Int32) (x_38_18 : Nat → Int32) (x_38_19 : Int32) (x_38_20 : Int32) (x_38_21 : Nat → Int32) (x_38_22 : Nat → Int32) (x_38_23 : Nat → Int32) (x_38_24 : Nat → Int32) (x_38_25 : Nat → Int32), (0 ≤ x_38_0.toInt ∧ x_38_0.toInt ≤ 2147483647) ∧ (0 ≤ x_38_5.toInt ∧ x_38_5.toInt ≤ 39) ∧ (CO x_38_13) ∧ (WA x_38_15) ∧ (TE x_38_16) ∧ (CE x_38_17) ∧ (BU x_38_18) ∧ (0 ≤ x_38_19.toInt ∧ x_38_19.toInt ≤ 16) ∧ (0 ≤ x_38_20.toInt ∧ x_38_20.toInt ≤ 15) ∧ (DI x_38_21 x_38_22 x_38_23 x_38_24 x_38_25) → Qb x_38_0 x_38_1 x_38_2 x_38_3 x_38_4 x_38_5 x_38_6 x_38_7 x_38_8 x_38_9 x_38_10 x_38_11 x_38_12 x_38_13 x_38_14 x_38_15 x_38_16 x_38_17 x_38_18 x_38_19 x_38_20 x_38_21 x_38_22 x_38_23 x_38_24 x_38_25) : ∀ (n : Nat) (x_38_0 : Int32) (x_38_1 : Int32) (x_38_2 : Int32) (x_38_3 : Value) (x_38_4 : Value) (x_38_5 : Int32) (x_38_6 : Int32) (x_38_7 : Int32) (x_38_8 : Int32) (x_38_9 : Int32) (x_38_10 : Int32) (x_38_11 : Nat → Int64) (x_38_12 : Int32) (x_38_13 : Nat → Int32) (x_38_14 : Int64) (x_38_15 : Nat → Int32) (x_38_16 : Nat → Int32) (x_38_17 : Nat → Int32) (x_38_18 : Nat → Int32) (x_38_19 : Int32) (x_38_20 : Int32) (x_38_21 : Nat → Int32) (x_38_22 : Nat → Int32) (x_38_23 : Nat → Int32) (x_38_24 : Nat → Int32) (x_38_25 : Nat → Int32), (0 ≤ x_38_0.toInt ∧ x_38_0.toInt ≤ 2147483647) ∧ (0 ≤ x_38_5.toInt ∧ x_38_5.toInt ≤ 39) ∧ (CO x_38_13) ∧ (WA x_38_15) ∧ (TE x_38_16) ∧ (CE x_38_17) ∧ (BU x_38_18) ∧ (0 ≤ x_38_19.toInt ∧ x_38_19.toInt ≤ 16) ∧ (0 ≤ x_38_20.toInt ∧ x_38_20.toInt ≤ 15) ∧ (DI x_38_21 x_38_22 x_38_23 x_38_24 x_38_25) → 2147483648 - x_38_0.toInt < (n : Int) → wl_X7_runOrders_T_38 h0_world p0_length n_p0_heads f_p0_heads n_p0_code f_p0_code h0_world_lawCount h0_world_force h0_world_folk_listeners h0_world_folk_noises f_h0_world_rock_hard h0_world_crew_count f_h0_world_rock_kind f_h0_world_laws t t_clauses t_length n_t_heads f_t_heads n_t_code f_t_code f_h0_world_folk_noiseColumn f_h0_world_folk_noiseLoud x_12_0 r_23 r_30 Q Qb n x_38_0 x_38_1 x_38_2 x_38_3 x_38_4 x_38_5 x_38_6 x_38_7 x_38_8 x_38_9 x_38_10 x_38_11 x_38_12 x_38_13 x_38_14 x_38_15 x_38_16 x_38_17 x_38_18 x_38_19 x_38_20 x_38_21 x_38_22 x_38_23 x_38_24 x_38_25 := by
  intro n
  induction n with
  | zero =>
    intro x_38_0 x_38_1 x_38_2 x_38_3 x_38_4 x_38_5 x_38_6 x_38_7 x_38_8 x_38_9 x_38_10 x_38_11 x_38_12 x_38_13 x_38_14 x_38_15 x_38_16 x_38_17 x_38_18 x_38_19 x_38_20 x_38_21 x_38_22 x_38_23 x_38_24 x_38_25 hI hm
    exfalso; have hm : 2147483648 - x_38_0.toInt < 0 := hm; omega
  | succ n ih =>
    intro x_38_0 x_38_1 x_38_2 x_38_3 x_38_4 x_38_5 x_38_6 x_38_7 x_38_8 x_38_9 x_38_10 x_38_11 x_38_12 x_38_13 x_38_14 x_38_15 x_38_16 x_38_17 x_38_18 x_38_19 x_38_20 x_38_21 x_38_22 x_38_23 x_38_24 x_38_25 hI hm
    have hm : 2147483648 - x_38_0.toInt < (n : Int) + 1 := by simpa using hm
    have h_x_38_0 := hI.1
    have h_x_38_5 := hI.2.1
    have h_x_38_13 := hI.2.2.1
    have h_x_38_15 := hI.2.2.2.1
    have h_x_38_16 := hI.2.2.2.2.1
    have h_x_38_17 := hI.2.2.2.2.2.1
    have h_x_38_18 := hI.2.2.2.2.2.2.1
    have h_x_38_19 := hI.2.2.2.2.2.2.2.1
    have h_x_38_20 := hI.2.2.2.2.2.2.2.2.1
    have h_rel0 := hI.2.2.2.2.2.2.2.2.2
    unfold wl_X7_runOrders_T_38
    have i38 := i32_hi r_23
    by_cases c8 : r_23 ≤ x_38_0
    · refine br1 c8 ?_
      have d9 := le_z (a := r_23) (b := x_38_0) (x := (Int32.toInt r_23)) (y := (Int32.toInt x_38_0)) rfl rfl c8
      have t10 := i32_hi x_38_0
      exact KX _ _ _ _ _ _ _ _ _ _ _ _ _ _ _ _ _ _ _ _ _ _ _ _ _ _ ⟨⟨by omega, by omega⟩, ⟨by omega, by omega⟩, h_x_38_13, h_x_38_15, h_x_38_16, h_x_38_17, h_x_38_18, ⟨by omega, by omega⟩, ⟨by omega, by omega⟩, h_rel0⟩
    · refine br0 c8 ?_
      have d11 := nle_z (a := r_23) (b := x_38_0) (x := (Int32.toInt r_23)) (y := (Int32.toInt x_38_0)) rfl rfl c8
      refine o_X0_turnToOrders _ _ _ ?_
      refine un2_i ?_
      refine jn_s ?_
      by_cases c12 : r_30 = (-1)
      · refine br1 c12 ?_
        have d13 := eq_z (a := r_30) (b := (-1)) (x := (Int32.toInt r_30)) (y := (-1)) rfl (by decide) c12
        refine un2_i ?_
        refine s_X7_runOrder_T x_12_0 h0_world x_38_2 p0_length n_p0_heads (f_p0_heads) x_38_4 x_38_5 x_38_6 x_38_7 x_38_1 x_38_2 x_38_10 n_p0_code (f_p0_code) (x_38_11) h0_world_lawCount h0_world_force h0_world_folk_listeners h0_world_folk_noises x_38_12 (x_38_13) x_38_14 (f_h0_world_rock_hard) (x_38_15) (x_38_16) h0_world_crew_count (x_38_17) (x_38_18) (f_h0_world_rock_kind) (f_h0_world_laws) t t_clauses t_length n_t_heads (f_t_heads) n_t_code (f_t_code) x_38_19 x_38_20 (x_38_21) (x_38_22) (x_38_23) (x_38_24) (x_38_25) (f_h0_world_folk_noiseColumn) (f_h0_world_folk_noiseLoud) ⟨by omega, by omega⟩ ⟨by omega, by omega⟩ h_f_p0_code ⟨by omega, by omega⟩ ⟨by omega, by omega⟩ ⟨by omega, by omega⟩ ⟨by omega, by omega⟩ h_x_38_13 h_f_h0_world_rock_hard h_x_38_15 h_x_38_16 ⟨by omega, by omega⟩ h_x_38_17 h_x_38_18 h_f_h0_world_rock_kind ⟨by omega, by omega⟩ ⟨by omega, by omega⟩ h_f_t_code ⟨by omega, by omega⟩ ⟨by omega, by omega⟩ h_f_h0_world_folk_noiseColumn h_f_h0_world_folk_noiseLoud (by omega) (by omega) (by omega) (by omega) (by omega) (by assumption) h_rel0 (fun r14 u15_0 u15_1 u15_2 u15_3 u15_4 u15_5 u15_6 u15_7 u15_8 u15_9 u15_10 u15_11 u15_12 u15_13 u15_14 u15_15 u15_16 u15_17 u15_18 u15_19 u15_20 u15_21 H16 => ?_)
        have j17 := H16.1
        have j18 := H16.2.1
        have j19 := H16.2.2.1
        have j20 := H16.2.2.2.1
        have j21 := H16.2.2.2.2.1
        have j22 := H16.2.2.2.2.2.1
        have j23 := H16.2.2.2.2.2.2.1
        have j24 := H16.2.2.2.2.2.2.2.1
        have j25 := H16.2.2.2.2.2.2.2.2
        refine un22_i ?_
        by_cases c26 : r14 = 0
        · refine br1 c26 ?_
          have d27 := eq_z (a := r14) (b := 0) (x := (Int32.toInt r14)) (y := 0) rfl rfl c26
          exact hq _ _ _ _ _ _ _ _ _ _ _ _ _ _ _ _ _ _ _ _ _ _ _ _ _ _ ⟨⟨by omega, by omega⟩, j18, j19, j20, j21, j22, ⟨by omega, by omega⟩, ⟨by omega, by omega⟩, j25⟩
        · refine br0 c26 ?_
          have d28 := ne_z (a := r14) (b := 0) (x := (Int32.toInt r14)) (y := 0) rfl rfl c26
          have t29 : (Int32.toInt (x_38_0 + 1)) = (Int32.toInt x_38_0) + 1 := add_z rfl rfl (by omega) (by omega)
          have t30 := i32_hi (x_38_0 + 1)
          exact ih _ _ _ _ _ _ _ _ _ _ _ _ _ _ _ _ _ _ _ _ _ _ _ _ _ _ ⟨⟨by omega, by omega⟩, ⟨by omega, by omega⟩, j18, j19, j20, j21, j22, ⟨by omega, by omega⟩, ⟨by omega, by omega⟩, j25⟩ (by omega)
      · refine br0 c12 ?_
        have d31 := ne_z (a := r_30) (b := (-1)) (x := (Int32.toInt r_30)) (y := (-1)) rfl (by decide) c12
        refine s_X0_reckon r_30 x_38_5 x_38_6 x_38_7 x_38_1 x_38_2 x_38_10 p0_length n_p0_code (f_p0_code) (x_38_11) h0_world_folk_listeners (x_38_13) (f_h0_world_rock_hard) (x_38_15) (x_38_16) h0_world_crew_count (x_38_17) (x_38_18) ⟨by omega, by omega⟩ ⟨by omega, by omega⟩ h_f_p0_code ⟨by omega, by omega⟩ h_x_38_13 h_f_h0_world_rock_hard h_x_38_15 h_x_38_16 ⟨by omega, by omega⟩ h_x_38_17 h_x_38_18 (by omega) (fun r32 u33_0 u33_1 H34 => ?_)
        have j35 := H34
        refine un2_i ?_
        by_cases c36 : r32 = 0
        · refine br1 c36 ?_
          have d37 := eq_z (a := r32) (b := 0) (x := (Int32.toInt r32)) (y := 0) rfl rfl c36
          have t38 : (Int32.toInt (x_38_0 + 1)) = (Int32.toInt x_38_0) + 1 := add_z rfl rfl (by omega) (by omega)
          have t39 := i32_hi (x_38_0 + 1)
          exact ih _ _ _ _ _ _ _ _ _ _ _ _ _ _ _ _ _ _ _ _ _ _ _ _ _ _ ⟨⟨by omega, by omega⟩, ⟨by omega, by omega⟩, h_x_38_13, h_x_38_15, h_x_38_16, h_x_38_17, h_x_38_18, ⟨by omega, by omega⟩, ⟨by omega, by omega⟩, h_rel0⟩ (by omega)
        · refine br0 c36 ?_
          have d40 := ne_z (a := r32) (b := 0) (x := (Int32.toInt r32)) (y := 0) rfl rfl c36
          refine o_X0_reckoned _ _ ?_
          by_cases c41 : u33_0 = 1
          · refine br1 c41 ?_
            have d42 := eq_z (a := u33_0) (b := 1) (x := (Int32.toInt u33_0)) (y := 1) rfl rfl c41
            refine un2_i ?_
            refine s_X7_runOrder_T x_12_0 h0_world x_38_2 p0_length n_p0_heads (f_p0_heads) x_38_4 x_38_5 x_38_6 x_38_7 x_38_1 x_38_2 u33_0 n_p0_code (f_p0_code) (u33_1) h0_world_lawCount h0_world_force h0_world_folk_listeners h0_world_folk_noises x_38_12 (x_38_13) x_38_14 (f_h0_world_rock_hard) (x_38_15) (x_38_16) h0_world_crew_count (x_38_17) (x_38_18) (f_h0_world_rock_kind) (f_h0_world_laws) t t_clauses t_length n_t_heads (f_t_heads) n_t_code (f_t_code) x_38_19 x_38_20 (x_38_21) (x_38_22) (x_38_23) (x_38_24) (x_38_25) (f_h0_world_folk_noiseColumn) (f_h0_world_folk_noiseLoud) ⟨by omega, by omega⟩ ⟨by omega, by omega⟩ h_f_p0_code ⟨by omega, by omega⟩ ⟨by omega, by omega⟩ ⟨by omega, by omega⟩ ⟨by omega, by omega⟩ h_x_38_13 h_f_h0_world_rock_hard h_x_38_15 h_x_38_16 ⟨by omega, by omega⟩ h_x_38_17 h_x_38_18 h_f_h0_world_rock_kind ⟨by omega, by omega⟩ ⟨by omega, by omega⟩ h_f_t_code ⟨by omega, by omega⟩ ⟨by omega, by omega⟩ h_f_h0_world_folk_noiseColumn h_f_h0_world_folk_noiseLoud (by omega) (by omega) (by omega) (by omega) (by omega) (by assumption) h_rel0 (fun r43 u44_0 u44_1 u44_2 u44_3 u44_4 u44_5 u44_6 u44_7 u44_8 u44_9 u44_10 u44_11 u44_12 u44_13 u44_14 u44_15 u44_16 u44_17 u44_18 u44_19 u44_20 u44_21 H45 => ?_)
            have j46 := H45.1
            have j47 := H45.2.1
            have j48 := H45.2.2.1
            have j49 := H45.2.2.2.1
            have j50 := H45.2.2.2.2.1
            have j51 := H45.2.2.2.2.2.1
            have j52 := H45.2.2.2.2.2.2.1
            have j53 := H45.2.2.2.2.2.2.2.1
            have j54 := H45.2.2.2.2.2.2.2.2
            refine un22_i ?_
            by_cases c55 : r43 = 0
            · refine br1 c55 ?_
              have d56 := eq_z (a := r43) (b := 0) (x := (Int32.toInt r43)) (y := 0) rfl rfl c55
              exact hq _ _ _ _ _ _ _ _ _ _ _ _ _ _ _ _ _ _ _ _ _ _ _ _ _ _ ⟨⟨by omega, by omega⟩, j47, j48, j49, j50, j51, ⟨by omega, by omega⟩, ⟨by omega, by omega⟩, j54⟩
            · refine br0 c55 ?_
              have d57 := ne_z (a := r43) (b := 0) (x := (Int32.toInt r43)) (y := 0) rfl rfl c55
              have t58 : (Int32.toInt (x_38_0 + 1)) = (Int32.toInt x_38_0) + 1 := add_z rfl rfl (by omega) (by omega)
              have t59 := i32_hi (x_38_0 + 1)
              exact ih _ _ _ _ _ _ _ _ _ _ _ _ _ _ _ _ _ _ _ _ _ _ _ _ _ _ ⟨⟨by omega, by omega⟩, ⟨by omega, by omega⟩, j47, j48, j49, j50, j51, ⟨by omega, by omega⟩, ⟨by omega, by omega⟩, j54⟩ (by omega)
          · refine br0 c41 ?_
            have d60 := ne_z (a := u33_0) (b := 1) (x := (Int32.toInt u33_0)) (y := 1) rfl rfl c41
            have t61 : (Int32.toInt (x_38_0 + 1)) = (Int32.toInt x_38_0) + 1 := add_z rfl rfl (by omega) (by omega)
            have t62 := i32_hi (x_38_0 + 1)
            exact ih _ _ _ _ _ _ _ _ _ _ _ _ _ _ _ _ _ _ _ _ _ _ _ _ _ _ ⟨⟨by omega, by omega⟩, ⟨by omega, by omega⟩, h_x_38_13, h_x_38_15, h_x_38_16, h_x_38_17, h_x_38_18, ⟨by omega, by omega⟩, ⟨by omega, by omega⟩, h_rel0⟩ (by omega)
set_option maxRecDepth 100000 in
theorem sl_X7_runOrders_T_12 (h0_world : Nat) (p0_clauses : Int32) (p0_length : Int32) (n_p0_heads : Nat) (f_p0_heads : Nat → Int32) (n_p0_code : Nat) (f_p0_code : Nat → Int32) (h0_world_lawCount : Int32) (h0_world_force : Int32) (h0_world_folk_listeners : Int32) (h0_world_folk_noises : Int32) (f_h0_world_rock_hard : Nat → Int32) (h0_world_crew_count : Int32) (f_h0_world_rock_kind : Nat → Int32) (f_h0_world_laws : Nat → Option Nat) (t : Nat) (t_clauses : Int32) (t_length : Int32) (n_t_heads : Nat) (f_t_heads : Nat → Int32) (n_t_code : Nat) (f_t_code : Nat → Int32) (f_h0_world_folk_noiseColumn : Nat → Int32) (f_h0_world_folk_noiseLoud : Nat → Int32) (h_p0_clauses : 0 ≤ p0_clauses.toInt ∧ p0_clauses.toInt ≤ 12) (h_p0_length : 0 ≤ p0_length.toInt ∧ p0_length.toInt ≤ 400) (h_f_p0_code : CD f_p0_code) (h_h0_world_lawCount : 0 ≤ h0_world_lawCount.toInt ∧ h0_world_lawCount.toInt ≤ 6) (h_h0_world_force : 0 ≤ h0_world_force.toInt ∧ h0_world_force.toInt ≤ 5) (h_h0_world_folk_listeners : 0 ≤ h0_world_folk_listeners.toInt ∧ h0_world_folk_listeners.toInt ≤ 5) (h_h0_world_folk_noises : 0 ≤ h0_world_folk_noises.toInt ∧ h0_world_folk_noises.toInt ≤ 6) (h_f_h0_world_rock_hard : HA f_h0_world_rock_hard) (h_h0_world_crew_count : 0 ≤ h0_world_crew_count.toInt ∧ h0_world_crew_count.toInt ≤ 6) (h_f_h0_world_rock_kind : KI f_h0_world_rock_kind) (h_t_clauses : 0 ≤ t_clauses.toInt ∧ t_clauses.toInt ≤ 12) (h_t_length : 0 ≤ t_length.toInt ∧ t_length.toInt ≤ 400) (h_f_t_code : CD f_t_code) (h_f_h0_world_folk_noiseColumn : NC f_h0_world_folk_noiseColumn) (h_f_h0_world_folk_noiseLoud : NL f_h0_world_folk_noiseLoud) (zlaw : f_h0_world_laws (Int32.toNatClampNeg h0_world_force) = some t) (zfo : h0_world_force.toInt < h0_world_lawCount.toInt) (z_n_p0_heads : n_p0_heads < 100000) (z_n_p0_code : p0_length.toInt ≤ (n_p0_code : Int)) (z_n_t_heads : n_t_heads < 100000) (z_n_t_code : t_length.toInt ≤ (n_t_code : Int)) {Q : Int32 → (Int32 × Int32 × Value × Value × Int32 × Int32 × Int32 × Int32 × Int32 × Int32 × (Nat → Int64) × Int32 × (Nat → Int32) × Int64 × (Nat → Int32) × (Nat → Int32) × (Nat → Int32) × (Nat → Int32) × Int32 × Int32 × (Nat → Int32) × (Nat → Int32) × (Nat → Int32) × (Nat → Int32) × (Nat → Int32)) → Prop} (hq : ∀ (r : Int32) (u_0 : Int32) (u_1 : Int32) (u_2 : Value) (u_3 : Value) (u_4 : Int32) (u_5 : Int32) (u_6 : Int32) (u_7 : Int32) (u_8 : Int32) (u_9 : Int32) (u_10 : Nat → Int64) (u_11 : Int32) (u_12 : Nat → Int32) (u_13 : Int64) (u_14 : Nat → Int32) (u_15 : Nat → Int32) (u_16 : Nat → Int32) (u_17 : Nat → Int32) (u_18 : Int32) (u_19 : Int32) (u_20 : Nat → Int32) (u_21 : Nat → Int32) (u_22 : Nat → Int32) (u_23 : Nat → Int32) (u_24 : Nat → Int32), (0 ≤ u_4.toInt ∧ u_4.toInt ≤ 39) ∧ (CO u_12) ∧ (WA u_14) ∧ (TE u_15) ∧ (CE u_16) ∧ (BU u_17) ∧ (0 ≤ u_18.toInt ∧ u_18.toInt ≤ 16) ∧ (0 ≤ u_19.toInt ∧ u_19.toInt ≤ 15) ∧ (DI u_20 u_21 u_22 u_23 u_24) → Q r (u_0, u_1, u_2, u_3, u_4, u_5, u_6, u_7, u_8, u_9, u_10, u_11, u_12, u_13, u_14, u_15, u_16, u_17, u_18, u_19, u_20, u_21, u_22, u_23, u_24)) (Qb : Int32 → Int32 → Int32 → Value → Value → Int32 → Int32 → Int32 → Int32 → Int32 → Int32 → (Nat → Int64) → Int32 → (Nat → Int32) → Int64 → (Nat → Int32) → (Nat → Int32) → (Nat → Int32) → (Nat → Int32) → Int32 → Int32 → (Nat → Int32) → (Nat → Int32) → (Nat → Int32) → (Nat → Int32) → (Nat → Int32) → Prop) (KX : ∀ (x_12_0 : Int32) (x_12_1 : Int32) (x_12_2 : Int32) (x_12_3 : Value) (x_12_4 : Value) (x_12_5 : Int32) (x_12_6 : Int32) (x_12_7 : Int32) (x_12_8 : Int32) (x_12_9 : Int32) (x_12_10 : Int32) (x_12_11 : Nat → Int64) (x_12_12 : Int32) (x_12_13 : Nat → Int32) (x_12_14 : Int64) (x_12_15 : Nat → Int32) (x_12_16 : Nat → Int32) (x_12_17 : Nat → Int32) (x_12_18 : Nat → Int32) (x_12_19 : Int32) (x_12_20 : Int32) (x_12_21 : Nat → Int32) (x_12_22 : Nat → Int32) (x_12_23 : Nat → Int32) (x_12_24 : Nat → Int32) (x_12_25 : Nat → Int32), (0 ≤ x_12_0.toInt ∧ x_12_0.toInt ≤ 12) ∧ (0 ≤ x_12_5.toInt ∧ x_12_5.toInt ≤ 39) ∧ (CO x_12_13) ∧ (WA x_12_15) ∧ (TE x_12_16) ∧ (CE x_12_17) ∧ (BU x_12_18) ∧ (0 ≤ x_12_19.toInt ∧ x_12_19.toInt ≤ 16) ∧ (0 ≤ x_12_20.toInt ∧ x_12_20.toInt ≤ 15) ∧ (DI x_12_21 x_12_22 x_12_23 x_12_24 x_12_25) → Qb x_12_0 x_12_1 x_12_2 x_12_3 x_12_4 x_12_5 x_12_6 x_12_7 x_12_8 x_12_9 x_12_10 x_12_11 x_12_12 x_12_13 x_12_14 x_12_15 x_12_16 x_12_17 x_12_18 x_12_19 x_12_20 x_12_21 x_12_22 x_12_23 x_12_24 x_12_25) : ∀ (n : Nat) (x_12_0 : Int32) (x_12_1 : Int32) (x_12_2 : Int32) (x_12_3 : Value) (x_12_4 : Value) (x_12_5 : Int32) (x_12_6 : Int32) (x_12_7 : Int32) (x_12_8 : Int32) (x_12_9 : Int32) (x_12_10 : Int32) (x_12_11 : Nat → Int64) (x_12_12 : Int32) (x_12_13 : Nat → Int32) (x_12_14 : Int64) (x_12_15 : Nat → Int32) (x_12_16 : Nat → Int32) (x_12_17 : Nat → Int32) (x_12_18 : Nat → Int32) (x_12_19 : Int32) (x_12_20 : Int32) (x_12_21 : Nat → Int32) (x_12_22 : Nat → Int32) (x_12_23 : Nat → Int32) (x_12_24 : Nat → Int32) (x_12_25 : Nat → Int32), (0 ≤ x_12_0.toInt ∧ x_12_0.toInt ≤ 12) ∧ (0 ≤ x_12_5.toInt ∧ x_12_5.toInt ≤ 39) ∧ (CO x_12_13) ∧ (WA x_12_15) ∧ (TE x_12_16) ∧ (CE x_12_17) ∧ (BU x_12_18) ∧ (0 ≤ x_12_19.toInt ∧ x_12_19.toInt ≤ 16) ∧ (0 ≤ x_12_20.toInt ∧ x_12_20.toInt ≤ 15) ∧ (DI x_12_21 x_12_22 x_12_23 x_12_24 x_12_25) → 13 - x_12_0.toInt < (n : Int) → wl_X7_runOrders_T_12 h0_world p0_clauses p0_length n_p0_heads f_p0_heads n_p0_code f_p0_code h0_world_lawCount h0_world_force h0_world_folk_listeners h0_world_folk_noises f_h0_world_rock_hard h0_world_crew_count f_h0_world_rock_kind f_h0_world_laws t t_clauses t_length n_t_heads f_t_heads n_t_code f_t_code f_h0_world_folk_noiseColumn f_h0_world_folk_noiseLoud Q Qb n x_12_0 x_12_1 x_12_2 x_12_3 x_12_4 x_12_5 x_12_6 x_12_7 x_12_8 x_12_9 x_12_10 x_12_11 x_12_12 x_12_13 x_12_14 x_12_15 x_12_16 x_12_17 x_12_18 x_12_19 x_12_20 x_12_21 x_12_22 x_12_23 x_12_24 x_12_25 := by
  intro n
  induction n with
  | zero =>
    intro x_12_0 x_12_1 x_12_2 x_12_3 x_12_4 x_12_5 x_12_6 x_12_7 x_12_8 x_12_9 x_12_10 x_12_11 x_12_12 x_12_13 x_12_14 x_12_15 x_12_16 x_12_17 x_12_18 x_12_19 x_12_20 x_12_21 x_12_22 x_12_23 x_12_24 x_12_25 hI hm
    exfalso; have hm : 13 - x_12_0.toInt < 0 := hm; omega
  | succ n ih =>
    intro x_12_0 x_12_1 x_12_2 x_12_3 x_12_4 x_12_5 x_12_6 x_12_7 x_12_8 x_12_9 x_12_10 x_12_11 x_12_12 x_12_13 x_12_14 x_12_15 x_12_16 x_12_17 x_12_18 x_12_19 x_12_20 x_12_21 x_12_22 x_12_23 x_12_24 x_12_25 hI hm
    have hm : 13 - x_12_0.toInt < (n : Int) + 1 := by simpa using hm
    have h_x_12_0 := hI.1
    have h_x_12_5 := hI.2.1
    have h_x_12_13 := hI.2.2.1
    have h_x_12_15 := hI.2.2.2.1
    have h_x_12_16 := hI.2.2.2.2.1
    have h_x_12_17 := hI.2.2.2.2.2.1
    have h_x_12_18 := hI.2.2.2.2.2.2.1
    have h_x_12_19 := hI.2.2.2.2.2.2.2.1
    have h_x_12_20 := hI.2.2.2.2.2.2.2.2.1
    have h_rel0 := hI.2.2.2.2.2.2.2.2.2
    unfold wl_X7_runOrders_T_12
    by_cases c1 : p0_clauses ≤ x_12_0
    · refine br1 c1 ?_
      have d2 := le_z (a := p0_clauses) (b := x_12_0) (x := (Int32.toInt p0_clauses)) (y := (Int32.toInt x_12_0)) rfl rfl c1
      exact KX _ _ _ _ _ _ _ _ _ _ _ _ _ _ _ _ _ _ _ _ _ _ _ _ _ _ ⟨⟨by omega, by omega⟩, ⟨by omega, by omega⟩, h_x_12_13, h_x_12_15, h_x_12_16, h_x_12_17, h_x_12_18, ⟨by omega, by omega⟩, ⟨by omega, by omega⟩, h_rel0⟩
    · refine br0 c1 ?_
      have d3 := nle_z (a := p0_clauses) (b := x_12_0) (x := (Int32.toInt p0_clauses)) (y := (Int32.toInt x_12_0)) rfl rfl c1
      refine s_X8_headOf x_12_0 4 n_p0_heads (f_p0_heads) (by omega) (fun r4 H5 => ?_)
      refine s_X8_headOf x_12_0 3 n_p0_heads (f_p0_heads) (by omega) (fun r6 H7 => ?_)
      have k10 : Int32.toInt 0 = 0 := rfl
      refine sl_X7_runOrders_T_38 h0_world p0_length n_p0_heads (f_p0_heads) n_p0_code (f_p0_code) h0_world_lawCount h0_world_force h0_world_folk_listeners h0_world_folk_noises (f_h0_world_rock_hard) h0_world_crew_count (f_h0_world_rock_kind) f_h0_world_laws t t_clauses t_length n_t_heads (f_t_heads) n_t_code (f_t_code) (f_h0_world_folk_noiseColumn) (f_h0_world_folk_noiseLoud) x_12_0 r4 r6 ⟨by omega, by omega⟩ h_f_p0_code ⟨by omega, by omega⟩ ⟨by omega, by omega⟩ ⟨by omega, by omega⟩ ⟨by omega, by omega⟩ h_f_h0_world_rock_hard ⟨by omega, by omega⟩ h_f_h0_world_rock_kind ⟨by omega, by omega⟩ ⟨by omega, by omega⟩ h_f_t_code h_f_h0_world_folk_noiseColumn h_f_h0_world_folk_noiseLoud ⟨by omega, by omega⟩ (by assumption) (by omega) (by omega) (by omega) (by omega) (by omega) hq _ (fun x8_0 x8_1 x8_2 x8_3 x8_4 x8_5 x8_6 x8_7 x8_8 x8_9 x8_10 x8_11 x8_12 x8_13 x8_14 x8_15 x8_16 x8_17 x8_18 x8_19 x8_20 x8_21 x8_22 x8_23 x8_24 x8_25 X9 => ?_) 1000000000000 0 x_12_1 x_12_2 x_12_3 x_12_4 x_12_5 x_12_6 x_12_7 x_12_8 x_12_9 x_12_10 (x_12_11) x_12_12 (x_12_13) x_12_14 (x_12_15) (x_12_16) (x_12_17) (x_12_18) x_12_19 x_12_20 (x_12_21) (x_12_22) (x_12_23) (x_12_24) (x_12_25) ⟨(by decide), ⟨by omega, by omega⟩, h_x_12_13, h_x_12_15, h_x_12_16, h_x_12_17, h_x_12_18, ⟨by omega, by omega⟩, ⟨by omega, by omega⟩, h_rel0⟩ (by omega)
      have j11 := X9.1
      have j12 := X9.2.1
      have j13 := X9.2.2.1
      have j14 := X9.2.2.2.1
      have j15 := X9.2.2.2.2.1
      have j16 := X9.2.2.2.2.2.1
      have j17 := X9.2.2.2.2.2.2.1
      have j18 := X9.2.2.2.2.2.2.2.1
      have j19 := X9.2.2.2.2.2.2.2.2.1
      have j20 := X9.2.2.2.2.2.2.2.2.2
      have t21 : (Int32.toInt (x_12_0 + 1)) = (Int32.toInt x_12_0) + 1 := add_z rfl rfl (by omega) (by omega)
      exact ih _ _ _ _ _ _ _ _ _ _ _ _ _ _ _ _ _ _ _ _ _ _ _ _ _ _ ⟨⟨by omega, by omega⟩, ⟨by omega, by omega⟩, j13, j14, j15, j16, j17, ⟨by omega, by omega⟩, ⟨by omega, by omega⟩, j20⟩ (by omega)
set_option maxRecDepth 100000 in
theorem s_X7_runOrders_T (h0_world : Nat) (p0_clauses : Int32) (p0_length : Int32) (n_p0_heads : Nat) (f_p0_heads : Nat → Int32) (h0_asker_world : Value) (h0_asker_law : Value) (h0_asker_cell : Int32) (h0_asker_shaft : Int32) (h0_asker_kind : Int32) (h0_asker_done : Int32) (h0_asker_latest : Int32) (h0_asker_value : Int32) (n_p0_code : Nat) (f_p0_code : Nat → Int32) (f_h0_asker_stack : Nat → Int64) (h0_world_lawCount : Int32) (h0_world_force : Int32) (h0_world_folk_listeners : Int32) (h0_world_folk_noises : Int32) (h0_world_folk_hushed : Int32) (f_h0_world_folk_column : Nat → Int32) (h0_world_rock_dug : Int64) (f_h0_world_rock_hard : Nat → Int32) (f_h0_world_rock_water : Nat → Int32) (f_h0_world_term : Nat → Int32) (h0_world_crew_count : Int32) (f_h0_world_crew_cell : Nat → Int32) (f_h0_world_crew_buckets : Nat → Int32) (f_h0_world_rock_kind : Nat → Int32) (f_h0_world_laws : Nat → Option Nat) (t : Nat) (t_clauses : Int32) (t_length : Int32) (n_t_heads : Nat) (f_t_heads : Nat → Int32) (n_t_code : Nat) (f_t_code : Nat → Int32) (h0_diary_kept : Int32) (h0_diary_latest : Int32) (f_h0_diary_deed : Nat → Int32) (f_h0_diary_whose : Nat → Int32) (f_h0_diary_before : Nat → Int32) (f_h0_diary_bucketsBefore : Nat → Int32) (f_h0_diary_dayBefore : Nat → Int32) (f_h0_world_folk_noiseColumn : Nat → Int32) (f_h0_world_folk_noiseLoud : Nat → Int32) (h_p0_clauses : 0 ≤ p0_clauses.toInt ∧ p0_clauses.toInt ≤ 12) (h_p0_length : 0 ≤ p0_length.toInt ∧ p0_length.toInt ≤ 400) (h_h0_asker_cell : 0 ≤ h0_asker_cell.toInt ∧ h0_asker_cell.toInt ≤ 39) (h_f_p0_code : CD f_p0_code) (h_h0_world_lawCount : 0 ≤ h0_world_lawCount.toInt ∧ h0_world_lawCount.toInt ≤ 6) (h_h0_world_force : 0 ≤ h0_world_force.toInt ∧ h0_world_force.toInt ≤ 5) (h_h0_world_folk_listeners : 0 ≤ h0_world_folk_listeners.toInt ∧ h0_world_folk_listeners.toInt ≤ 5) (h_h0_world_folk_noises : 0 ≤ h0_world_folk_noises.toInt ∧ h0_world_folk_noises.toInt ≤ 6) (h_f_h0_world_folk_column : CO f_h0_world_folk_column) (h_f_h0_world_rock_hard : HA f_h0_world_rock_hard) (h_f_h0_world_rock_water : WA f_h0_world_rock_water) (h_f_h0_world_term : TE f_h0_world_term) (h_h0_world_crew_count : 0 ≤ h0_world_crew_count.toInt ∧ h0_world_crew_count.toInt ≤ 6) (h_f_h0_world_crew_cell : CE f_h0_world_crew_cell) (h_f_h0_world_crew_buckets : BU f_h0_world_crew_buckets) (h_f_h0_world_rock_kind : KI f_h0_world_rock_kind) (h_t_clauses : 0 ≤ t_clauses.toInt ∧ t_clauses.toInt ≤ 12) (h_t_length : 0 ≤ t_length.toInt ∧ t_length.toInt ≤ 400) (h_f_t_code : CD f_t_code) (h_h0_diary_kept : 0 ≤ h0_diary_kept.toInt ∧ h0_diary_kept.toInt ≤ 16) (h_h0_diary_latest : 0 ≤ h0_diary_latest.toInt ∧ h0_diary_latest.toInt ≤ 15) (h_f_h0_world_folk_noiseColumn : NC f_h0_world_folk_noiseColumn) (h_f_h0_world_folk_noiseLoud : NL f_h0_world_folk_noiseLoud) (e_0 : n_p0_heads < 100000) (e_1 : p0_length.toInt ≤ (n_p0_code : Int)) (e_2 : n_t_heads < 100000) (e_3 : t_length.toInt ≤ (n_t_code : Int)) (e_4 : h0_world_force.toInt < h0_world_lawCount.toInt) (e_5 : f_h0_world_laws (Int32.toNatClampNeg h0_world_force) = some t) (e_6 : DI f_h0_diary_deed f_h0_diary_whose f_h0_diary_before f_h0_diary_bucketsBefore f_h0_diary_dayBefore) {Q : Int32 → (Int32 × Int32 × Value × Value × Int32 × Int32 × Int32 × Int32 × Int32 × Int32 × (Nat → Int64) × Int32 × (Nat → Int32) × Int64 × (Nat → Int32) × (Nat → Int32) × (Nat → Int32) × (Nat → Int32) × Int32 × Int32 × (Nat → Int32) × (Nat → Int32) × (Nat → Int32) × (Nat → Int32) × (Nat → Int32)) → Prop} (hq : ∀ (r : Int32) (u_0 : Int32) (u_1 : Int32) (u_2 : Value) (u_3 : Value) (u_4 : Int32) (u_5 : Int32) (u_6 : Int32) (u_7 : Int32) (u_8 : Int32) (u_9 : Int32) (u_10 : Nat → Int64) (u_11 : Int32) (u_12 : Nat → Int32) (u_13 : Int64) (u_14 : Nat → Int32) (u_15 : Nat → Int32) (u_16 : Nat → Int32) (u_17 : Nat → Int32) (u_18 : Int32) (u_19 : Int32) (u_20 : Nat → Int32) (u_21 : Nat → Int32) (u_22 : Nat → Int32) (u_23 : Nat → Int32) (u_24 : Nat → Int32), (0 ≤ u_4.toInt ∧ u_4.toInt ≤ 39) ∧ (CO u_12) ∧ (WA u_14) ∧ (TE u_15) ∧ (CE u_16) ∧ (BU u_17) ∧ (0 ≤ u_18.toInt ∧ u_18.toInt ≤ 16) ∧ (0 ≤ u_19.toInt ∧ u_19.toInt ≤ 15) ∧ (DI u_20 u_21 u_22 u_23 u_24) → Q r (u_0, u_1, u_2, u_3, u_4, u_5, u_6, u_7, u_8, u_9, u_10, u_11, u_12, u_13, u_14, u_15, u_16, u_17, u_18, u_19, u_20, u_21, u_22, u_23, u_24)) : wp_X7_runOrders_T h0_world p0_clauses p0_length n_p0_heads f_p0_heads h0_asker_world h0_asker_law h0_asker_cell h0_asker_shaft h0_asker_kind h0_asker_done h0_asker_latest h0_asker_value n_p0_code f_p0_code f_h0_asker_stack h0_world_lawCount h0_world_force h0_world_folk_listeners h0_world_folk_noises h0_world_folk_hushed f_h0_world_folk_column h0_world_rock_dug f_h0_world_rock_hard f_h0_world_rock_water f_h0_world_term h0_world_crew_count f_h0_world_crew_cell f_h0_world_crew_buckets f_h0_world_rock_kind f_h0_world_laws t t_clauses t_length n_t_heads f_t_heads n_t_code f_t_code h0_diary_kept h0_diary_latest f_h0_diary_deed f_h0_diary_whose f_h0_diary_before f_h0_diary_bucketsBefore f_h0_diary_dayBefore f_h0_world_folk_noiseColumn f_h0_world_folk_noiseLoud Q := by
  unfold wp_X7_runOrders_T
  have k3 : Int32.toInt 0 = 0 := rfl
  have k4 : Int32.toInt (-1) = (-1) := (by decide)
  refine sl_X7_runOrders_T_12 h0_world p0_clauses p0_length n_p0_heads (f_p0_heads) n_p0_code (f_p0_code) h0_world_lawCount h0_world_force h0_world_folk_listeners h0_world_folk_noises (f_h0_world_rock_hard) h0_world_crew_count (f_h0_world_rock_kind) f_h0_world_laws t t_clauses t_length n_t_heads (f_t_heads) n_t_code (f_t_code) (f_h0_world_folk_noiseColumn) (f_h0_world_folk_noiseLoud) ⟨by omega, by omega⟩ ⟨by omega, by omega⟩ h_f_p0_code ⟨by omega, by omega⟩ ⟨by omega, by omega⟩ ⟨by omega, by omega⟩ ⟨by omega, by omega⟩ h_f_h0_world_rock_hard ⟨by omega, by omega⟩ h_f_h0_world_rock_kind ⟨by omega, by omega⟩ ⟨by omega, by omega⟩ h_f_t_code h_f_h0_world_folk_noiseColumn h_f_h0_world_folk_noiseLoud (by assumption) (by omega) (by omega) (by omega) (by omega) (by omega) hq _ (fun x1_0 x1_1 x1_2 x1_3 x1_4 x1_5 x1_6 x1_7 x1_8 x1_9 x1_10 x1_11 x1_12 x1_13 x1_14 x1_15 x1_16 x1_17 x1_18 x1_19 x1_20 x1_21 x1_22 x1_23 x1_24 x1_25 X2 => ?_) 1000000000000 0 0 (-1) h0_asker_world h0_asker_law h0_asker_cell h0_asker_shaft h0_asker_kind h0_asker_done h0_asker_latest h0_asker_value (f_h0_asker_stack) h0_world_folk_hushed (f_h0_world_folk_column) h0_world_rock_dug (f_h0_world_rock_water) (f_h0_world_term) (f_h0_world_crew_cell) (f_h0_world_crew_buckets) h0_diary_kept h0_diary_latest (f_h0_diary_deed) (f_h0_diary_whose) (f_h0_diary_before) (f_h0_diary_bucketsBefore) (f_h0_diary_dayBefore) ⟨(by decide), ⟨by omega, by omega⟩, h_f_h0_world_folk_column, h_f_h0_world_rock_water, h_f_h0_world_term, h_f_h0_world_crew_cell, h_f_h0_world_crew_buckets, ⟨by omega, by omega⟩, ⟨by omega, by omega⟩, e_6⟩ (by omega)
  have j5 := X2.1
  have j6 := X2.2.1
  have j7 := X2.2.2.1
  have j8 := X2.2.2.2.1
  have j9 := X2.2.2.2.2.1
  have j10 := X2.2.2.2.2.2.1
  have j11 := X2.2.2.2.2.2.2.1
  have j12 := X2.2.2.2.2.2.2.2.1
  have j13 := X2.2.2.2.2.2.2.2.2.1
  have j14 := X2.2.2.2.2.2.2.2.2.2
  exact hq _ _ _ _ _ _ _ _ _ _ _ _ _ _ _ _ _ _ _ _ _ _ _ _ _ _ ⟨⟨by omega, by omega⟩, j7, j8, j9, j10, j11, ⟨by omega, by omega⟩, ⟨by omega, by omega⟩, j14⟩

