set_option maxRecDepth 100000 in
theorem sl_X4_noiseIn_13r (a : Int32) (b : Int32) (h0_noises : Int32) (h0_hushed : Int32) (h0noisnf : Nat → Int32) (h0noisdf : Nat → Int32) (h_a : 0 ≤ a.toInt ∧ a.toInt ≤ 7) (h_h0_noises : 0 ≤ h0_noises.toInt ∧ h0_noises.toInt ≤ 6) (h_h0noisnf : NC h0noisnf) (h_h0noisdf : NL h0noisdf) (Qb : Int32 → Int32 → Prop) (KX : ∀ (x_13_0 : Int32) (x_13_1 : Int32), (0 ≤ x_13_0.toInt ∧ x_13_0.toInt ≤ 6) ∧ (0 ≤ x_13_1.toInt ∧ x_13_1.toInt ≤ 120) ∧ (x_13_1.toInt ≤ 20 * x_13_0.toInt) → Qb x_13_0 x_13_1) : ∀ (n : Nat) (x_13_0 : Int32) (x_13_1 : Int32), (0 ≤ x_13_0.toInt ∧ x_13_0.toInt ≤ 6) ∧ (0 ≤ x_13_1.toInt ∧ x_13_1.toInt ≤ 120) ∧ (x_13_1.toInt ≤ 20 * x_13_0.toInt) → 7 - x_13_0.toInt < (n : Int) → wl_X4_noiseIn_13 a b h0_noises h0_hushed h0noisnf h0noisdf Qb n x_13_0 x_13_1 := by
  intro n
  induction n with
  | zero =>
    intro x_13_0 x_13_1 hI hm
    exfalso; have hm : 7 - x_13_0.toInt < 0 := hm; omega
  | succ n ih =>
    intro x_13_0 x_13_1 hI hm
    have hm : 7 - x_13_0.toInt < (n : Int) + 1 := by simpa using hm
    have h_x_13_0 := hI.1
    have h_x_13_1 := hI.2.1
    have h_rel0 := hI.2.2
    unfold wl_X4_noiseIn_13
    by_cases c1 : h0_noises ≤ x_13_0
    · refine br1 c1 ?_
      have d2 := le_z (a := h0_noises) (b := x_13_0) (x := (Int32.toInt h0_noises)) (y := (Int32.toInt x_13_0)) rfl rfl c1
      exact KX _ _ ⟨⟨by omega, by omega⟩, ⟨by omega, by omega⟩, (by omega)⟩
    · refine br0 c1 ?_
      have d3 := nle_z (a := h0_noises) (b := x_13_0) (x := (Int32.toInt h0_noises)) (y := (Int32.toInt x_13_0)) rfl rfl c1
      by_cases c4 : (((h0_hushed ||| b) >>> (x_13_0 &&& 31)) &&& 1) = 0
      · refine br1 c4 ?_
        have t5 : 0 ≤ (Int32.toInt (((h0_hushed ||| b) >>> (x_13_0 &&& 31)) &&& 1)) ∧ (Int32.toInt (((h0_hushed ||| b) >>> (x_13_0 &&& 31)) &&& 1)) ≤ 1 := and_z (by decide)
        have d6 := eq_z (a := (((h0_hushed ||| b) >>> (x_13_0 &&& 31)) &&& 1)) (b := 0) (x := (Int32.toInt (((h0_hushed ||| b) >>> (x_13_0 &&& 31)) &&& 1))) (y := 0) rfl rfl c4
        refine ⟨vpi (x := (Int32.toInt x_13_0)) rfl (by omega) (by omega), ?_⟩
        refine ⟨vpi (x := (Int32.toInt x_13_0)) rfl (by omega) (by omega), ?_⟩
        have t7 : (Int32.toInt (x_13_0 + 1)) = (Int32.toInt x_13_0) + 1 := add_z rfl rfl (by omega) (by omega)
        have g8 : 0 ≤ (Int32.toInt (h0noisdf x_13_0.toNatClampNeg)) ∧ (Int32.toInt (h0noisdf x_13_0.toNatClampNeg)) ≤ 20 := NL.at_0 h_h0noisdf (tnz (x := (Int32.toInt x_13_0)) rfl (by omega)) (by omega) (by omega)
        have g9 : 0 ≤ (Int32.toInt (h0noisnf x_13_0.toNatClampNeg)) ∧ (Int32.toInt (h0noisnf x_13_0.toNatClampNeg)) ≤ 7 := NC.at_0 h_h0noisnf (tnz (x := (Int32.toInt x_13_0)) rfl (by omega)) (by omega) (by omega)
        have t10 : (Int32.toInt ((h0noisnf x_13_0.toNatClampNeg) - a)) = (Int32.toInt (h0noisnf x_13_0.toNatClampNeg)) - (Int32.toInt a) := sub_z rfl rfl (by omega) (by omega)
        have t11 := ab_z (a := ((h0noisnf x_13_0.toNatClampNeg) - a)) (by omega)
        have t12 : (Int32.toInt ((h0noisdf x_13_0.toNatClampNeg) - (if 0 ≤ ((h0noisnf x_13_0.toNatClampNeg) - a) then ((h0noisnf x_13_0.toNatClampNeg) - a) else 0 - ((h0noisnf x_13_0.toNatClampNeg) - a)))) = (Int32.toInt (h0noisdf x_13_0.toNatClampNeg)) - (Int32.toInt (if 0 ≤ ((h0noisnf x_13_0.toNatClampNeg) - a) then ((h0noisnf x_13_0.toNatClampNeg) - a) else 0 - ((h0noisnf x_13_0.toNatClampNeg) - a))) := sub_z rfl rfl (by omega) (by omega)
        have t13 := mx_z (a := 0) (b := ((h0noisdf x_13_0.toNatClampNeg) - (if 0 ≤ ((h0noisnf x_13_0.toNatClampNeg) - a) then ((h0noisnf x_13_0.toNatClampNeg) - a) else 0 - ((h0noisnf x_13_0.toNatClampNeg) - a))))
        have k14 : Int32.toInt 0 = 0 := rfl
        have t15 : (Int32.toInt (x_13_1 + (if 0 < ((h0noisdf x_13_0.toNatClampNeg) - (if 0 ≤ ((h0noisnf x_13_0.toNatClampNeg) - a) then ((h0noisnf x_13_0.toNatClampNeg) - a) else 0 - ((h0noisnf x_13_0.toNatClampNeg) - a))) then ((h0noisdf x_13_0.toNatClampNeg) - (if 0 ≤ ((h0noisnf x_13_0.toNatClampNeg) - a) then ((h0noisnf x_13_0.toNatClampNeg) - a) else 0 - ((h0noisnf x_13_0.toNatClampNeg) - a))) else 0))) = (Int32.toInt x_13_1) + (Int32.toInt (if 0 < ((h0noisdf x_13_0.toNatClampNeg) - (if 0 ≤ ((h0noisnf x_13_0.toNatClampNeg) - a) then ((h0noisnf x_13_0.toNatClampNeg) - a) else 0 - ((h0noisnf x_13_0.toNatClampNeg) - a))) then ((h0noisdf x_13_0.toNatClampNeg) - (if 0 ≤ ((h0noisnf x_13_0.toNatClampNeg) - a) then ((h0noisnf x_13_0.toNatClampNeg) - a) else 0 - ((h0noisnf x_13_0.toNatClampNeg) - a))) else 0)) := add_z rfl rfl (by omega) (by omega)
        exact ih _ _ ⟨⟨by omega, by omega⟩, ⟨by omega, by omega⟩, (by omega)⟩ (by omega)
      · refine br0 c4 ?_
        have t16 : 0 ≤ (Int32.toInt (((h0_hushed ||| b) >>> (x_13_0 &&& 31)) &&& 1)) ∧ (Int32.toInt (((h0_hushed ||| b) >>> (x_13_0 &&& 31)) &&& 1)) ≤ 1 := and_z (by decide)
        have d17 := ne_z (a := (((h0_hushed ||| b) >>> (x_13_0 &&& 31)) &&& 1)) (b := 0) (x := (Int32.toInt (((h0_hushed ||| b) >>> (x_13_0 &&& 31)) &&& 1))) (y := 0) rfl rfl c4
        have t18 : (Int32.toInt (x_13_0 + 1)) = (Int32.toInt x_13_0) + 1 := add_z rfl rfl (by omega) (by omega)
        exact ih _ _ ⟨⟨by omega, by omega⟩, ⟨by omega, by omega⟩, (by omega)⟩ (by omega)
set_option maxRecDepth 100000 in
theorem s_X4_noiseInr (a : Int32) (b : Int32) (h0_noises : Int32) (h0_hushed : Int32) (h0noisnf : Nat → Int32) (h0noisdf : Nat → Int32) (h_a : 0 ≤ a.toInt ∧ a.toInt ≤ 7) (h_h0_noises : 0 ≤ h0_noises.toInt ∧ h0_noises.toInt ≤ 6) (h_h0noisnf : NC h0noisnf) (h_h0noisdf : NL h0noisdf) {Q : Int32 → Prop} (hq : ∀ (r : Int32), (0 ≤ r.toInt ∧ r.toInt ≤ 120) → Q r) : wp_X4_noiseIn a b h0_noises h0_hushed h0noisnf h0noisdf Q := by
  unfold wp_X4_noiseIn
  have k3 : Int32.toInt 0 = 0 := rfl
  refine sl_X4_noiseIn_13r a b h0_noises h0_hushed (h0noisnf) (h0noisdf) ⟨by omega, by omega⟩ ⟨by omega, by omega⟩ h_h0noisnf h_h0noisdf _ (fun x1_0 x1_1 X2 => ?_) 1000000000000 0 0 ⟨(by decide), (by decide), (by omega)⟩ (by omega)
  have j4 := X2.1
  have j5 := X2.2.1
  have j6 := X2.2.2
  exact hq _ ⟨by omega, by omega⟩


set_option maxRecDepth 100000 in
theorem s_X0_givesOf_Nr (a : Int32) (b : Int32) (f_h0_world_rock_kind : Nat → Int32) (f_h0_world_rock_water : Nat → Int32) (h_b : 0 ≤ b.toInt ∧ b.toInt ≤ 39) (h_f_h0_world_rock_kind : KI f_h0_world_rock_kind) (h_f_h0_world_rock_water : WA f_h0_world_rock_water) {Q : Int32 → (Int32 × Int32 × Int32) → Prop} (hq : ∀ (r : Int32) (u_0 : Int32) (u_1 : Int32) (u_2 : Int32), (0 ≤ r.toInt ∧ r.toInt ≤ 99) ∧ (0 ≤ u_0.toInt ∧ u_0.toInt ≤ 39) ∧ (r.toInt ≤ Int32.toInt (f_h0_world_rock_water (Int32.toNatClampNeg b))) → Q r (u_0, u_1, u_2)) : wp_X0_givesOf_N a b f_h0_world_rock_kind f_h0_world_rock_water Q := by
  unfold wp_X0_givesOf_N
  refine ⟨vpi (x := (Int32.toInt b)) rfl (by omega) (by omega), ?_⟩
  refine o_X0_askOf_N _ _ _ _ ?_
  refine un3_i ?_
  refine s_X0_tells_N 5  (fun r1 H2 => ?_)
  refine o_X11_nearest _ _ _ _ ?_
  refine ⟨vpi (x := (Int32.toInt b)) rfl (by omega) (by omega), ?_⟩
  have t3 := mn_z (a := 99) (b := r1)
  have k4 : Int32.toInt 99 = 99 := rfl
  have t5 := mx_z (a := 0) (b := (if r1 < 99 then r1 else 99))
  have k6 : Int32.toInt 0 = 0 := rfl
  have g7 : 0 ≤ (Int32.toInt (f_h0_world_rock_water b.toNatClampNeg)) ∧ (Int32.toInt (f_h0_world_rock_water b.toNatClampNeg)) ≤ 99 := WA.at_0 h_f_h0_world_rock_water (tnz (x := (Int32.toInt b)) rfl (by omega)) (by omega) (by omega)
  have t8 := mn_z (a := (if 0 < (if r1 < 99 then r1 else 99) then (if r1 < 99 then r1 else 99) else 0)) (b := (f_h0_world_rock_water b.toNatClampNeg))
  have g9 : 0 ≤ (Int32.toInt (f_h0_world_rock_kind b.toNatClampNeg)) ∧ (Int32.toInt (f_h0_world_rock_kind b.toNatClampNeg)) ≤ 3 := KI.at_0 h_f_h0_world_rock_kind (tnz (x := (Int32.toInt b)) rfl (by omega)) (by omega) (by omega)
  exact hq _ _ _ _ ⟨⟨by omega, by omega⟩, ⟨by omega, by omega⟩, (by omega)⟩


set_option maxRecDepth 100000 in
theorem s_X0_givesOf_Tr (a : Int32) (b : Int32) (h0_done : Int32) (h0_latest : Int32) (h0_value : Int32) (f_h0_world_rock_kind : Nat → Int32) (h0_law_clauses : Int32) (h0_law_length : Int32) (n_h0_law_heads : Nat) (f_h0_law_heads : Nat → Int32) (n_h0_law_code : Nat) (f_h0_law_code : Nat → Int32) (f_h0_stack : Nat → Int64) (h0_world_folk_listeners : Int32) (f_h0_world_folk_column : Nat → Int32) (f_h0_world_rock_hard : Nat → Int32) (f_h0_world_rock_water : Nat → Int32) (f_h0_world_term : Nat → Int32) (h0_world_crew_count : Int32) (f_h0_world_crew_cell : Nat → Int32) (f_h0_world_crew_buckets : Nat → Int32) (h_b : 0 ≤ b.toInt ∧ b.toInt ≤ 39) (h_f_h0_world_rock_kind : KI f_h0_world_rock_kind) (h_h0_law_clauses : 0 ≤ h0_law_clauses.toInt ∧ h0_law_clauses.toInt ≤ 12) (h_h0_law_length : 0 ≤ h0_law_length.toInt ∧ h0_law_length.toInt ≤ 400) (h_f_h0_law_code : CD f_h0_law_code) (h_h0_world_folk_listeners : 0 ≤ h0_world_folk_listeners.toInt ∧ h0_world_folk_listeners.toInt ≤ 5) (h_f_h0_world_folk_column : CO f_h0_world_folk_column) (h_f_h0_world_rock_hard : HA f_h0_world_rock_hard) (h_f_h0_world_rock_water : WA f_h0_world_rock_water) (h_f_h0_world_term : TE f_h0_world_term) (h_h0_world_crew_count : 0 ≤ h0_world_crew_count.toInt ∧ h0_world_crew_count.toInt ≤ 6) (h_f_h0_world_crew_cell : CE f_h0_world_crew_cell) (h_f_h0_world_crew_buckets : BU f_h0_world_crew_buckets) (e_0 : n_h0_law_heads < 100000) (e_1 : h0_law_length.toInt ≤ (n_h0_law_code : Int)) {Q : Int32 → (Int32 × Int32 × Int32 × Int32 × (Nat → Int64)) → Prop} (hq : ∀ (r : Int32) (u_0 : Int32) (u_1 : Int32) (u_2 : Int32) (u_3 : Int32) (u_4 : Nat → Int64), (0 ≤ r.toInt ∧ r.toInt ≤ 99) ∧ (0 ≤ u_0.toInt ∧ u_0.toInt ≤ 39) ∧ (r.toInt ≤ Int32.toInt (f_h0_world_rock_water (Int32.toNatClampNeg b))) → Q r (u_0, u_1, u_2, u_3, u_4)) : wp_X0_givesOf_T a b h0_done h0_latest h0_value f_h0_world_rock_kind h0_law_clauses h0_law_length n_h0_law_heads f_h0_law_heads n_h0_law_code f_h0_law_code f_h0_stack h0_world_folk_listeners f_h0_world_folk_column f_h0_world_rock_hard f_h0_world_rock_water f_h0_world_term h0_world_crew_count f_h0_world_crew_cell f_h0_world_crew_buckets Q := by
  unfold wp_X0_givesOf_T
  refine ⟨vpi (x := (Int32.toInt b)) rfl (by omega) (by omega), ?_⟩
  refine o_X0_askOf_T _ _ _ _ ?_
  refine un3_i ?_
  refine s_X0_tells_T 3 5 b a (f_h0_world_rock_kind b.toNatClampNeg) h0_done h0_latest h0_value h0_law_clauses h0_law_length n_h0_law_heads (f_h0_law_heads) n_h0_law_code (f_h0_law_code) (f_h0_stack) h0_world_folk_listeners (f_h0_world_folk_column) (f_h0_world_rock_hard) (f_h0_world_rock_water) (f_h0_world_term) h0_world_crew_count (f_h0_world_crew_cell) (f_h0_world_crew_buckets) ⟨by omega, by omega⟩ ⟨by omega, by omega⟩ ⟨by omega, by omega⟩ h_f_h0_law_code ⟨by omega, by omega⟩ h_f_h0_world_folk_column h_f_h0_world_rock_hard h_f_h0_world_rock_water h_f_h0_world_term ⟨by omega, by omega⟩ h_f_h0_world_crew_cell h_f_h0_world_crew_buckets (by omega) (by omega) (fun r1 u2_0 u2_1 H3 => ?_)
  refine un2_i ?_
  refine o_X11_nearest _ _ _ _ ?_
  refine ⟨vpi (x := (Int32.toInt b)) rfl (by omega) (by omega), ?_⟩
  have t4 := mn_z (a := 99) (b := r1)
  have k5 : Int32.toInt 99 = 99 := rfl
  have t6 := mx_z (a := 0) (b := (if r1 < 99 then r1 else 99))
  have k7 : Int32.toInt 0 = 0 := rfl
  have g8 : 0 ≤ (Int32.toInt (f_h0_world_rock_water b.toNatClampNeg)) ∧ (Int32.toInt (f_h0_world_rock_water b.toNatClampNeg)) ≤ 99 := WA.at_0 h_f_h0_world_rock_water (tnz (x := (Int32.toInt b)) rfl (by omega)) (by omega) (by omega)
  have t9 := mn_z (a := (if 0 < (if r1 < 99 then r1 else 99) then (if r1 < 99 then r1 else 99) else 0)) (b := (f_h0_world_rock_water b.toNatClampNeg))
  have g10 : 0 ≤ (Int32.toInt (f_h0_world_rock_kind b.toNatClampNeg)) ∧ (Int32.toInt (f_h0_world_rock_kind b.toNatClampNeg)) ≤ 3 := KI.at_0 h_f_h0_world_rock_kind (tnz (x := (Int32.toInt b)) rfl (by omega)) (by omega) (by omega)
  exact hq _ _ _ _ _ _ ⟨⟨by omega, by omega⟩, ⟨by omega, by omega⟩, (by omega)⟩


set_option maxRecDepth 100000 in
theorem s_X2_add (a : Int32) (b : Int32) (d : Int32) (g : Int32) (k : Int32) (h0_kept : Int32) (h0_latest : Int32) (h0deedf : Nat → Int32) (h0whoef : Nat → Int32) (h0befef : Nat → Int32) (h0bucef : Nat → Int32) (h0dayef : Nat → Int32) (h_h0_kept : 0 ≤ h0_kept.toInt ∧ h0_kept.toInt ≤ 16) (h_h0_latest : 0 ≤ h0_latest.toInt ∧ h0_latest.toInt ≤ 15) (e_0 : DI h0deedf h0whoef h0befef h0bucef h0dayef) (e_1 : DR a.toInt b.toInt d.toInt g.toInt k.toInt) {Q : (Int32 × Int32 × (Nat → Int32) × (Nat → Int32) × (Nat → Int32) × (Nat → Int32) × (Nat → Int32)) → Prop} (hq : ∀ (u_0 : Int32) (u_1 : Int32) (u_2 : Nat → Int32) (u_3 : Nat → Int32) (u_4 : Nat → Int32) (u_5 : Nat → Int32) (u_6 : Nat → Int32), (0 ≤ u_0.toInt ∧ u_0.toInt ≤ 16) ∧ (0 ≤ u_1.toInt ∧ u_1.toInt ≤ 15) ∧ (DI u_2 u_3 u_4 u_5 u_6) → Q (u_0, u_1, u_2, u_3, u_4, u_5, u_6)) : wp_X2_add a b d g k h0_kept h0_latest h0deedf h0whoef h0befef h0bucef h0dayef Q := by
  unfold wp_X2_add
  have t1 : (Int32.toInt (h0_latest + 1)) = (Int32.toInt h0_latest) + 1 := add_z rfl rfl (by omega) (by omega)
  have t2 : (Int32.toInt ((h0_latest + 1) - (h0_latest + 1) / 16 * 16)) = (Int32.toInt (h0_latest + 1)) % 16 := rem_z rfl rfl (by omega) (by omega)
  refine ⟨vpi (x := (Int32.toInt ((h0_latest + 1) - (h0_latest + 1) / 16 * 16))) rfl (by omega) (by omega), ?_⟩
  refine ⟨vpi (x := (Int32.toInt ((h0_latest + 1) - (h0_latest + 1) / 16 * 16))) rfl (by omega) (by omega), ?_⟩
  refine ⟨vpi (x := (Int32.toInt ((h0_latest + 1) - (h0_latest + 1) / 16 * 16))) rfl (by omega) (by omega), ?_⟩
  refine ⟨vpi (x := (Int32.toInt ((h0_latest + 1) - (h0_latest + 1) / 16 * 16))) rfl (by omega) (by omega), ?_⟩
  refine ⟨vpi (x := (Int32.toInt ((h0_latest + 1) - (h0_latest + 1) / 16 * 16))) rfl (by omega) (by omega), ?_⟩
  have t3 : (Int32.toInt (h0_kept + 1)) = (Int32.toInt h0_kept) + 1 := add_z rfl rfl (by omega) (by omega)
  have t4 := mn_z (a := 16) (b := (h0_kept + 1))
  have k5 : Int32.toInt 16 = 16 := rfl
  exact hq _ _ _ _ _ _ _ ⟨⟨by omega, by omega⟩, ⟨by omega, by omega⟩, (DI.up e_0 e_1)⟩


set_option maxRecDepth 100000 in
theorem s_X7_tryHush (a : Int32) (h0_world_folk_noises : Int32) (h0_world_folk_hushed : Int32) (h0_diary_kept : Int32) (h0_diary_latest : Int32) (f_h0_diary_deed : Nat → Int32) (f_h0_diary_whose : Nat → Int32) (f_h0_diary_before : Nat → Int32) (f_h0_diary_bucketsBefore : Nat → Int32) (f_h0_diary_dayBefore : Nat → Int32) (f_h0_world_folk_noiseColumn : Nat → Int32) (f_h0_world_folk_noiseLoud : Nat → Int32) (h_h0_world_folk_noises : 0 ≤ h0_world_folk_noises.toInt ∧ h0_world_folk_noises.toInt ≤ 6) (h_h0_diary_kept : 0 ≤ h0_diary_kept.toInt ∧ h0_diary_kept.toInt ≤ 16) (h_h0_diary_latest : 0 ≤ h0_diary_latest.toInt ∧ h0_diary_latest.toInt ≤ 15) (h_f_h0_world_folk_noiseColumn : NC f_h0_world_folk_noiseColumn) (h_f_h0_world_folk_noiseLoud : NL f_h0_world_folk_noiseLoud) (e_0 : DI f_h0_diary_deed f_h0_diary_whose f_h0_diary_before f_h0_diary_bucketsBefore f_h0_diary_dayBefore) {Q : Int32 → (Int32 × Int32 × Int32 × (Nat → Int32) × (Nat → Int32) × (Nat → Int32) × (Nat → Int32) × (Nat → Int32)) → Prop} (hq : ∀ (r : Int32) (u_0 : Int32) (u_1 : Int32) (u_2 : Int32) (u_3 : Nat → Int32) (u_4 : Nat → Int32) (u_5 : Nat → Int32) (u_6 : Nat → Int32) (u_7 : Nat → Int32), ((-3) ≤ r.toInt ∧ r.toInt ≤ 2147483647) ∧ (0 ≤ u_1.toInt ∧ u_1.toInt ≤ 16) ∧ (0 ≤ u_2.toInt ∧ u_2.toInt ≤ 15) ∧ (DI u_3 u_4 u_5 u_6 u_7) → Q r (u_0, u_1, u_2, u_3, u_4, u_5, u_6, u_7)) : wp_X7_tryHush a h0_world_folk_noises h0_world_folk_hushed h0_diary_kept h0_diary_latest f_h0_diary_deed f_h0_diary_whose f_h0_diary_before f_h0_diary_bucketsBefore f_h0_diary_dayBefore f_h0_world_folk_noiseColumn f_h0_world_folk_noiseLoud Q := by
  unfold wp_X7_tryHush
  refine o_X11_isWithin _ _ _ ?_
  by_cases c1 : a < 0
  · refine br1 c1 ?_
    have d2 := lt_z (a := a) (b := 0) (x := (Int32.toInt a)) (y := 0) rfl rfl c1
    refine br1 (by decide) ?_
    have k3 : Int32.toInt (-2) = (-2) := (by decide)
    exact hq _ _ _ _ _ _ _ _ _ ⟨(by decide), ⟨by omega, by omega⟩, ⟨by omega, by omega⟩, e_0⟩
  · refine br0 c1 ?_
    have d4 := nlt_z (a := a) (b := 0) (x := (Int32.toInt a)) (y := 0) rfl rfl c1
    by_cases c5 : h0_world_folk_noises ≤ a
    · refine br1 c5 ?_
      have d6 := le_z (a := h0_world_folk_noises) (b := a) (x := (Int32.toInt h0_world_folk_noises)) (y := (Int32.toInt a)) rfl rfl c5
      refine br1 (by decide) ?_
      have k7 : Int32.toInt (-2) = (-2) := (by decide)
      exact hq _ _ _ _ _ _ _ _ _ ⟨(by decide), ⟨by omega, by omega⟩, ⟨by omega, by omega⟩, e_0⟩
    · refine br0 c5 ?_
      have d8 := nle_z (a := h0_world_folk_noises) (b := a) (x := (Int32.toInt h0_world_folk_noises)) (y := (Int32.toInt a)) rfl rfl c5
      refine br0 (by decide) ?_
      by_cases c9 : ((h0_world_folk_hushed >>> (a &&& 31)) &&& 1) = 0
      · refine br1 c9 ?_
        have t10 : 0 ≤ (Int32.toInt ((h0_world_folk_hushed >>> (a &&& 31)) &&& 1)) ∧ (Int32.toInt ((h0_world_folk_hushed >>> (a &&& 31)) &&& 1)) ≤ 1 := and_z (by decide)
        have d11 := eq_z (a := ((h0_world_folk_hushed >>> (a &&& 31)) &&& 1)) (b := 0) (x := (Int32.toInt ((h0_world_folk_hushed >>> (a &&& 31)) &&& 1))) (y := 0) rfl rfl c9
        have k12 : Int32.toInt 2 = 2 := rfl
        have k13 : Int32.toInt 0 = 0 := rfl
        refine s_X2_add 2 a 0 0 0 h0_diary_kept h0_diary_latest (f_h0_diary_deed) (f_h0_diary_whose) (f_h0_diary_before) (f_h0_diary_bucketsBefore) (f_h0_diary_dayBefore) ⟨by omega, by omega⟩ ⟨by omega, by omega⟩ e_0 (by unfold DR; omega) (fun u14_0 u14_1 u14_2 u14_3 u14_4 u14_5 u14_6 H15 => ?_)
        have j16 := H15.1
        have j17 := H15.2.1
        have j18 := H15.2.2
        refine un7_i ?_
        refine ⟨vpi (x := (Int32.toInt a)) rfl (by omega) (by omega), ?_⟩
        have g19 : 0 ≤ (Int32.toInt (f_h0_world_folk_noiseColumn a.toNatClampNeg)) ∧ (Int32.toInt (f_h0_world_folk_noiseColumn a.toNatClampNeg)) ≤ 7 := NC.at_0 h_f_h0_world_folk_noiseColumn (tnz (x := (Int32.toInt a)) rfl (by omega)) (by omega) (by omega)
        refine s_X4_noiseInr (f_h0_world_folk_noiseColumn a.toNatClampNeg) 0 h0_world_folk_noises (h0_world_folk_hushed ||| ((1 : Int32) <<< (a &&& 31))) (f_h0_world_folk_noiseColumn) (f_h0_world_folk_noiseLoud) ⟨by omega, by omega⟩ ⟨by omega, by omega⟩ h_f_h0_world_folk_noiseColumn h_f_h0_world_folk_noiseLoud (fun r20 H21 => ?_)
        have j22 := H21
        have t23 := i32_hi r20
        have t24 : 1 ≤ (Int32.toInt ((1 : Int32) <<< (a &&& 31))) ∧ (Int32.toInt ((1 : Int32) <<< (a &&& 31))) ≤ 32 := shl1_c (by omega) (by omega)
        exact hq _ _ _ _ _ _ _ _ _ ⟨⟨by omega, by omega⟩, ⟨by omega, by omega⟩, ⟨by omega, by omega⟩, j18⟩
      · refine br0 c9 ?_
        have t25 : 0 ≤ (Int32.toInt ((h0_world_folk_hushed >>> (a &&& 31)) &&& 1)) ∧ (Int32.toInt ((h0_world_folk_hushed >>> (a &&& 31)) &&& 1)) ≤ 1 := and_z (by decide)
        have d26 := ne_z (a := ((h0_world_folk_hushed >>> (a &&& 31)) &&& 1)) (b := 0) (x := (Int32.toInt ((h0_world_folk_hushed >>> (a &&& 31)) &&& 1))) (y := 0) rfl rfl c9
        have k27 : Int32.toInt (-3) = (-3) := (by decide)
        exact hq _ _ _ _ _ _ _ _ _ ⟨(by decide), ⟨by omega, by omega⟩, ⟨by omega, by omega⟩, e_0⟩


set_option maxRecDepth 100000 in
theorem s_X7_tryLie (a : Int32) (b : Int32) (h0_world_folk_listeners : Int32) (f_h0_world_folk_column : Nat → Int32) (h0_diary_kept : Int32) (h0_diary_latest : Int32) (f_h0_diary_deed : Nat → Int32) (f_h0_diary_whose : Nat → Int32) (f_h0_diary_before : Nat → Int32) (f_h0_diary_bucketsBefore : Nat → Int32) (f_h0_diary_dayBefore : Nat → Int32) (h_h0_world_folk_listeners : 0 ≤ h0_world_folk_listeners.toInt ∧ h0_world_folk_listeners.toInt ≤ 5) (h_f_h0_world_folk_column : CO f_h0_world_folk_column) (h_h0_diary_kept : 0 ≤ h0_diary_kept.toInt ∧ h0_diary_kept.toInt ≤ 16) (h_h0_diary_latest : 0 ≤ h0_diary_latest.toInt ∧ h0_diary_latest.toInt ≤ 15) (e_0 : DI f_h0_diary_deed f_h0_diary_whose f_h0_diary_before f_h0_diary_bucketsBefore f_h0_diary_dayBefore) {Q : Int32 → ((Nat → Int32) × Int32 × Int32 × (Nat → Int32) × (Nat → Int32) × (Nat → Int32) × (Nat → Int32) × (Nat → Int32)) → Prop} (hq : ∀ (r : Int32) (u_0 : Nat → Int32) (u_1 : Int32) (u_2 : Int32) (u_3 : Nat → Int32) (u_4 : Nat → Int32) (u_5 : Nat → Int32) (u_6 : Nat → Int32) (u_7 : Nat → Int32), ((-3) ≤ r.toInt ∧ r.toInt ≤ 2147483647) ∧ (CO u_0) ∧ (0 ≤ u_1.toInt ∧ u_1.toInt ≤ 16) ∧ (0 ≤ u_2.toInt ∧ u_2.toInt ≤ 15) ∧ (DI u_3 u_4 u_5 u_6 u_7) → Q r (u_0, u_1, u_2, u_3, u_4, u_5, u_6, u_7)) : wp_X7_tryLie a b h0_world_folk_listeners f_h0_world_folk_column h0_diary_kept h0_diary_latest f_h0_diary_deed f_h0_diary_whose f_h0_diary_before f_h0_diary_bucketsBefore f_h0_diary_dayBefore Q := by
  unfold wp_X7_tryLie
  refine o_X11_isWithin _ _ _ ?_
  by_cases c1 : b < 0
  · refine br1 c1 ?_
    have d2 := lt_z (a := b) (b := 0) (x := (Int32.toInt b)) (y := 0) rfl rfl c1
    refine br1 (by decide) ?_
    have k3 : Int32.toInt (-1) = (-1) := (by decide)
    exact hq _ _ _ _ _ _ _ _ _ ⟨(by decide), h_f_h0_world_folk_column, ⟨by omega, by omega⟩, ⟨by omega, by omega⟩, e_0⟩
  · refine br0 c1 ?_
    have d4 := nlt_z (a := b) (b := 0) (x := (Int32.toInt b)) (y := 0) rfl rfl c1
    by_cases c5 : 8 ≤ b
    · refine br1 c5 ?_
      have d6 := le_z (a := 8) (b := b) (x := 8) (y := (Int32.toInt b)) rfl rfl c5
      refine br1 (by decide) ?_
      have k7 : Int32.toInt (-1) = (-1) := (by decide)
      exact hq _ _ _ _ _ _ _ _ _ ⟨(by decide), h_f_h0_world_folk_column, ⟨by omega, by omega⟩, ⟨by omega, by omega⟩, e_0⟩
    · refine br0 c5 ?_
      have d8 := nle_z (a := 8) (b := b) (x := 8) (y := (Int32.toInt b)) rfl rfl c5
      refine br0 (by decide) ?_
      refine o_X11_isWithin _ _ _ ?_
      by_cases c9 : a < 0
      · refine br1 c9 ?_
        have d10 := lt_z (a := a) (b := 0) (x := (Int32.toInt a)) (y := 0) rfl rfl c9
        refine br1 (by decide) ?_
        have k11 : Int32.toInt (-2) = (-2) := (by decide)
        exact hq _ _ _ _ _ _ _ _ _ ⟨(by decide), h_f_h0_world_folk_column, ⟨by omega, by omega⟩, ⟨by omega, by omega⟩, e_0⟩
      · refine br0 c9 ?_
        have d12 := nlt_z (a := a) (b := 0) (x := (Int32.toInt a)) (y := 0) rfl rfl c9
        by_cases c13 : h0_world_folk_listeners ≤ a
        · refine br1 c13 ?_
          have d14 := le_z (a := h0_world_folk_listeners) (b := a) (x := (Int32.toInt h0_world_folk_listeners)) (y := (Int32.toInt a)) rfl rfl c13
          refine br1 (by decide) ?_
          have k15 : Int32.toInt (-2) = (-2) := (by decide)
          exact hq _ _ _ _ _ _ _ _ _ ⟨(by decide), h_f_h0_world_folk_column, ⟨by omega, by omega⟩, ⟨by omega, by omega⟩, e_0⟩
        · refine br0 c13 ?_
          have d16 := nle_z (a := h0_world_folk_listeners) (b := a) (x := (Int32.toInt h0_world_folk_listeners)) (y := (Int32.toInt a)) rfl rfl c13
          refine br0 (by decide) ?_
          refine ⟨vpi (x := (Int32.toInt a)) rfl (by omega) (by omega), ?_⟩
          have k17 : Int32.toInt 3 = 3 := rfl
          have g18 : 0 ≤ (Int32.toInt (f_h0_world_folk_column a.toNatClampNeg)) ∧ (Int32.toInt (f_h0_world_folk_column a.toNatClampNeg)) ≤ 7 := CO.at_0 h_f_h0_world_folk_column (tnz (x := (Int32.toInt a)) rfl (by omega)) (by omega) (by omega)
          have k19 : Int32.toInt 0 = 0 := rfl
          refine s_X2_add 3 a (f_h0_world_folk_column a.toNatClampNeg) 0 0 h0_diary_kept h0_diary_latest (f_h0_diary_deed) (f_h0_diary_whose) (f_h0_diary_before) (f_h0_diary_bucketsBefore) (f_h0_diary_dayBefore) ⟨by omega, by omega⟩ ⟨by omega, by omega⟩ e_0 (by unfold DR; omega) (fun u20_0 u20_1 u20_2 u20_3 u20_4 u20_5 u20_6 H21 => ?_)
          have j22 := H21.1
          have j23 := H21.2.1
          have j24 := H21.2.2
          refine un7_i ?_
          refine ⟨vpi (x := (Int32.toInt a)) rfl (by omega) (by omega), ?_⟩
          have t25 := i32_hi (f_h0_world_folk_column a.toNatClampNeg)
          have R26 : CO (upd f_h0_world_folk_column a.toNatClampNeg b) := CO.up_0 h_f_h0_world_folk_column (tnz (x := (Int32.toInt a)) rfl (by omega)) (by omega) (by omega) (w := (Int32.toInt b)) rfl (by omega) (by omega)
          exact hq _ _ _ _ _ _ _ _ _ ⟨⟨by omega, by omega⟩, R26, ⟨by omega, by omega⟩, ⟨by omega, by omega⟩, j24⟩


set_option maxRecDepth 100000 in
theorem s_X7_takeBack (h0_diary_kept : Int32) (h0_diary_latest : Int32) (f_h0_diary_whose : Nat → Int32) (f_h0_diary_deed : Nat → Int32) (f_h0_world_crew_cell : Nat → Int32) (h0_world_rock_dug : Int64) (f_h0_diary_before : Nat → Int32) (f_h0_diary_dayBefore : Nat → Int32) (f_h0_world_term : Nat → Int32) (f_h0_world_rock_water : Nat → Int32) (f_h0_diary_bucketsBefore : Nat → Int32) (f_h0_world_crew_buckets : Nat → Int32) (h0_world_folk_hushed : Int32) (f_h0_world_folk_column : Nat → Int32) (h_h0_diary_kept : 0 ≤ h0_diary_kept.toInt ∧ h0_diary_kept.toInt ≤ 16) (h_h0_diary_latest : 0 ≤ h0_diary_latest.toInt ∧ h0_diary_latest.toInt ≤ 15) (h_f_h0_world_crew_cell : CE f_h0_world_crew_cell) (h_f_h0_world_term : TE f_h0_world_term) (h_f_h0_world_rock_water : WA f_h0_world_rock_water) (h_f_h0_world_crew_buckets : BU f_h0_world_crew_buckets) (h_f_h0_world_folk_column : CO f_h0_world_folk_column) (e_0 : DI f_h0_diary_deed f_h0_diary_whose f_h0_diary_before f_h0_diary_bucketsBefore f_h0_diary_dayBefore) {Q : Int32 → (Int32 × Int32 × (Nat → Int32) × Int64 × (Nat → Int32) × (Nat → Int32) × (Nat → Int32) × Int32 × (Nat → Int32)) → Prop} (hq : ∀ (r : Int32) (u_0 : Int32) (u_1 : Int32) (u_2 : Nat → Int32) (u_3 : Int64) (u_4 : Nat → Int32) (u_5 : Nat → Int32) (u_6 : Nat → Int32) (u_7 : Int32) (u_8 : Nat → Int32), ((-3) ≤ r.toInt ∧ r.toInt ≤ 3) ∧ (0 ≤ u_0.toInt ∧ u_0.toInt ≤ 16) ∧ (0 ≤ u_1.toInt ∧ u_1.toInt ≤ 15) ∧ (CE u_2) ∧ (TE u_4) ∧ (WA u_5) ∧ (BU u_6) ∧ (CO u_8) → Q r (u_0, u_1, u_2, u_3, u_4, u_5, u_6, u_7, u_8)) : wp_X7_takeBack h0_diary_kept h0_diary_latest f_h0_diary_whose f_h0_diary_deed f_h0_world_crew_cell h0_world_rock_dug f_h0_diary_before f_h0_diary_dayBefore f_h0_world_term f_h0_world_rock_water f_h0_diary_bucketsBefore f_h0_world_crew_buckets h0_world_folk_hushed f_h0_world_folk_column Q := by
  unfold wp_X7_takeBack
  have q0 := DI.at e_0 (n := (h0_diary_latest).toNatClampNeg) (tnz (x := h0_diary_latest.toInt) rfl (by omega)) (by omega) (by omega)
  by_cases c1 : h0_diary_kept = 0
  · refine br1 c1 ?_
    have d2 := eq_z (a := h0_diary_kept) (b := 0) (x := (Int32.toInt h0_diary_kept)) (y := 0) rfl rfl c1
    exact hq _ _ _ _ _ _ _ _ _ _ ⟨(by decide), ⟨by omega, by omega⟩, ⟨by omega, by omega⟩, h_f_h0_world_crew_cell, h_f_h0_world_term, h_f_h0_world_rock_water, h_f_h0_world_crew_buckets, h_f_h0_world_folk_column⟩
  · refine br0 c1 ?_
    have d3 := ne_z (a := h0_diary_kept) (b := 0) (x := (Int32.toInt h0_diary_kept)) (y := 0) rfl rfl c1
    refine ⟨vpi (x := (Int32.toInt h0_diary_latest)) rfl (by omega) (by omega), ?_⟩
    refine ⟨vpi (x := (Int32.toInt h0_diary_latest)) rfl (by omega) (by omega), ?_⟩
    refine o_X2_dropLatest _ _ _ ?_
    refine un2_i ?_
    by_cases c4 : (f_h0_diary_deed h0_diary_latest.toNatClampNeg) = 0
    · refine br1 c4 ?_
      have d5 := eq_z (a := (f_h0_diary_deed h0_diary_latest.toNatClampNeg)) (b := 0) (x := (Int32.toInt (f_h0_diary_deed h0_diary_latest.toNatClampNeg))) (y := 0) rfl rfl c4
      refine ⟨vpi (x := (Int32.toInt (f_h0_diary_whose h0_diary_latest.toNatClampNeg))) rfl (by omega) (by omega), ?_⟩
      refine o_X6_unmark _ _ _ ?_
      refine ⟨vpi (x := (Int32.toInt h0_diary_latest)) rfl (by omega) (by omega), ?_⟩
      refine ⟨vpi (x := (Int32.toInt (f_h0_diary_whose h0_diary_latest.toNatClampNeg))) rfl (by omega) (by omega), ?_⟩
      refine ⟨vpi (x := (Int32.toInt h0_diary_latest)) rfl (by omega) (by omega), ?_⟩
      have t6 : (Int32.toInt (h0_diary_kept - 1)) = (Int32.toInt h0_diary_kept) - 1 := sub_z rfl rfl (by omega) (by omega)
      have t7 := mx_z (a := 0) (b := (h0_diary_kept - 1))
      have k8 : Int32.toInt 0 = 0 := rfl
      have t9 : (Int32.toInt (h0_diary_latest + 16)) = (Int32.toInt h0_diary_latest) + 16 := add_z rfl rfl (by omega) (by omega)
      have t10 : (Int32.toInt ((h0_diary_latest + 16) - 1)) = (Int32.toInt (h0_diary_latest + 16)) - 1 := sub_z rfl rfl (by omega) (by omega)
      have t11 : (Int32.toInt (((h0_diary_latest + 16) - 1) - ((h0_diary_latest + 16) - 1) / 16 * 16)) = (Int32.toInt ((h0_diary_latest + 16) - 1)) % 16 := rem_z rfl rfl (by omega) (by omega)
      have R12 : CE (upd f_h0_world_crew_cell (f_h0_diary_whose h0_diary_latest.toNatClampNeg).toNatClampNeg (f_h0_diary_before h0_diary_latest.toNatClampNeg)) := CE.up_0 h_f_h0_world_crew_cell (tnz (x := (Int32.toInt (f_h0_diary_whose h0_diary_latest.toNatClampNeg))) rfl (by omega)) (by omega) (by omega) (w := (Int32.toInt (f_h0_diary_before h0_diary_latest.toNatClampNeg))) rfl (by omega) (by omega)
      have g13 : 0 ≤ (Int32.toInt (f_h0_world_crew_cell (f_h0_diary_whose h0_diary_latest.toNatClampNeg).toNatClampNeg)) ∧ (Int32.toInt (f_h0_world_crew_cell (f_h0_diary_whose h0_diary_latest.toNatClampNeg).toNatClampNeg)) ≤ 39 := CE.at_0 h_f_h0_world_crew_cell (tnz (x := (Int32.toInt (f_h0_diary_whose h0_diary_latest.toNatClampNeg))) rfl (by omega)) (by omega) (by omega)
      have R14 : TE (upd f_h0_world_term 0 (f_h0_diary_dayBefore h0_diary_latest.toNatClampNeg)) := TE.up_0 h_f_h0_world_term (rfl : ((0 : Nat) : Int) = 0) (by omega) (by omega) (w := (Int32.toInt (f_h0_diary_dayBefore h0_diary_latest.toNatClampNeg))) rfl (by omega) (by omega)
      exact hq _ _ _ _ _ _ _ _ _ _ ⟨⟨by omega, by omega⟩, ⟨by omega, by omega⟩, ⟨by omega, by omega⟩, R12, R14, h_f_h0_world_rock_water, h_f_h0_world_crew_buckets, h_f_h0_world_folk_column⟩
    · refine br0 c4 ?_
      have d15 := ne_z (a := (f_h0_diary_deed h0_diary_latest.toNatClampNeg)) (b := 0) (x := (Int32.toInt (f_h0_diary_deed h0_diary_latest.toNatClampNeg))) (y := 0) rfl rfl c4
      by_cases c16 : (f_h0_diary_deed h0_diary_latest.toNatClampNeg) = 1
      · refine br1 c16 ?_
        have d17 := eq_z (a := (f_h0_diary_deed h0_diary_latest.toNatClampNeg)) (b := 1) (x := (Int32.toInt (f_h0_diary_deed h0_diary_latest.toNatClampNeg))) (y := 1) rfl rfl c16
        refine ⟨vpi (x := (Int32.toInt (f_h0_diary_whose h0_diary_latest.toNatClampNeg))) rfl (by omega) (by omega), ?_⟩
        refine ⟨vpi (x := (Int32.toInt h0_diary_latest)) rfl (by omega) (by omega), ?_⟩
        have g18 : 0 ≤ (Int32.toInt (f_h0_world_crew_cell (f_h0_diary_whose h0_diary_latest.toNatClampNeg).toNatClampNeg)) ∧ (Int32.toInt (f_h0_world_crew_cell (f_h0_diary_whose h0_diary_latest.toNatClampNeg).toNatClampNeg)) ≤ 39 := CE.at_0 h_f_h0_world_crew_cell (tnz (x := (Int32.toInt (f_h0_diary_whose h0_diary_latest.toNatClampNeg))) rfl (by omega)) (by omega) (by omega)
        refine ⟨vpi (x := (Int32.toInt (f_h0_world_crew_cell (f_h0_diary_whose h0_diary_latest.toNatClampNeg).toNatClampNeg))) rfl (by omega) (by omega), ?_⟩
        refine ⟨vpi (x := (Int32.toInt h0_diary_latest)) rfl (by omega) (by omega), ?_⟩
        refine ⟨vpi (x := (Int32.toInt (f_h0_diary_whose h0_diary_latest.toNatClampNeg))) rfl (by omega) (by omega), ?_⟩
        refine ⟨vpi (x := (Int32.toInt h0_diary_latest)) rfl (by omega) (by omega), ?_⟩
        have t19 : (Int32.toInt (h0_diary_kept - 1)) = (Int32.toInt h0_diary_kept) - 1 := sub_z rfl rfl (by omega) (by omega)
        have t20 := mx_z (a := 0) (b := (h0_diary_kept - 1))
        have k21 : Int32.toInt 0 = 0 := rfl
        have t22 : (Int32.toInt (h0_diary_latest + 16)) = (Int32.toInt h0_diary_latest) + 16 := add_z rfl rfl (by omega) (by omega)
        have t23 : (Int32.toInt ((h0_diary_latest + 16) - 1)) = (Int32.toInt (h0_diary_latest + 16)) - 1 := sub_z rfl rfl (by omega) (by omega)
        have t24 : (Int32.toInt (((h0_diary_latest + 16) - 1) - ((h0_diary_latest + 16) - 1) / 16 * 16)) = (Int32.toInt ((h0_diary_latest + 16) - 1)) % 16 := rem_z rfl rfl (by omega) (by omega)
        have R25 : TE (upd f_h0_world_term 0 (f_h0_diary_dayBefore h0_diary_latest.toNatClampNeg)) := TE.up_0 h_f_h0_world_term (rfl : ((0 : Nat) : Int) = 0) (by omega) (by omega) (w := (Int32.toInt (f_h0_diary_dayBefore h0_diary_latest.toNatClampNeg))) rfl (by omega) (by omega)
        have R26 : WA (upd f_h0_world_rock_water (f_h0_world_crew_cell (f_h0_diary_whose h0_diary_latest.toNatClampNeg).toNatClampNeg).toNatClampNeg (f_h0_diary_before h0_diary_latest.toNatClampNeg)) := WA.up_0 h_f_h0_world_rock_water (tnz (x := (Int32.toInt (f_h0_world_crew_cell (f_h0_diary_whose h0_diary_latest.toNatClampNeg).toNatClampNeg))) rfl (by omega)) (by omega) (by omega) (w := (Int32.toInt (f_h0_diary_before h0_diary_latest.toNatClampNeg))) rfl (by omega) (by omega)
        have R27 : BU (upd f_h0_world_crew_buckets (f_h0_diary_whose h0_diary_latest.toNatClampNeg).toNatClampNeg (f_h0_diary_bucketsBefore h0_diary_latest.toNatClampNeg)) := BU.up_0 h_f_h0_world_crew_buckets (tnz (x := (Int32.toInt (f_h0_diary_whose h0_diary_latest.toNatClampNeg))) rfl (by omega)) (by omega) (by omega) (w := (Int32.toInt (f_h0_diary_bucketsBefore h0_diary_latest.toNatClampNeg))) rfl (by omega) (by omega)
        exact hq _ _ _ _ _ _ _ _ _ _ ⟨⟨by omega, by omega⟩, ⟨by omega, by omega⟩, ⟨by omega, by omega⟩, h_f_h0_world_crew_cell, R25, R26, R27, h_f_h0_world_folk_column⟩
      · refine br0 c16 ?_
        have d28 := ne_z (a := (f_h0_diary_deed h0_diary_latest.toNatClampNeg)) (b := 1) (x := (Int32.toInt (f_h0_diary_deed h0_diary_latest.toNatClampNeg))) (y := 1) rfl rfl c16
        by_cases c29 : (f_h0_diary_deed h0_diary_latest.toNatClampNeg) = 2
        · refine br1 c29 ?_
          have d30 := eq_z (a := (f_h0_diary_deed h0_diary_latest.toNatClampNeg)) (b := 2) (x := (Int32.toInt (f_h0_diary_deed h0_diary_latest.toNatClampNeg))) (y := 2) rfl rfl c29
          have t31 : (Int32.toInt (h0_diary_kept - 1)) = (Int32.toInt h0_diary_kept) - 1 := sub_z rfl rfl (by omega) (by omega)
          have t32 := mx_z (a := 0) (b := (h0_diary_kept - 1))
          have k33 : Int32.toInt 0 = 0 := rfl
          have t34 : (Int32.toInt (h0_diary_latest + 16)) = (Int32.toInt h0_diary_latest) + 16 := add_z rfl rfl (by omega) (by omega)
          have t35 : (Int32.toInt ((h0_diary_latest + 16) - 1)) = (Int32.toInt (h0_diary_latest + 16)) - 1 := sub_z rfl rfl (by omega) (by omega)
          have t36 : (Int32.toInt (((h0_diary_latest + 16) - 1) - ((h0_diary_latest + 16) - 1) / 16 * 16)) = (Int32.toInt ((h0_diary_latest + 16) - 1)) % 16 := rem_z rfl rfl (by omega) (by omega)
          exact hq _ _ _ _ _ _ _ _ _ _ ⟨⟨by omega, by omega⟩, ⟨by omega, by omega⟩, ⟨by omega, by omega⟩, h_f_h0_world_crew_cell, h_f_h0_world_term, h_f_h0_world_rock_water, h_f_h0_world_crew_buckets, h_f_h0_world_folk_column⟩
        · refine br0 c29 ?_
          have d37 := ne_z (a := (f_h0_diary_deed h0_diary_latest.toNatClampNeg)) (b := 2) (x := (Int32.toInt (f_h0_diary_deed h0_diary_latest.toNatClampNeg))) (y := 2) rfl rfl c29
          refine ⟨vpi (x := (Int32.toInt h0_diary_latest)) rfl (by omega) (by omega), ?_⟩
          refine ⟨vpi (x := (Int32.toInt (f_h0_diary_whose h0_diary_latest.toNatClampNeg))) rfl (by omega) (by omega), ?_⟩
          have t38 : (Int32.toInt (h0_diary_kept - 1)) = (Int32.toInt h0_diary_kept) - 1 := sub_z rfl rfl (by omega) (by omega)
          have t39 := mx_z (a := 0) (b := (h0_diary_kept - 1))
          have k40 : Int32.toInt 0 = 0 := rfl
          have t41 : (Int32.toInt (h0_diary_latest + 16)) = (Int32.toInt h0_diary_latest) + 16 := add_z rfl rfl (by omega) (by omega)
          have t42 : (Int32.toInt ((h0_diary_latest + 16) - 1)) = (Int32.toInt (h0_diary_latest + 16)) - 1 := sub_z rfl rfl (by omega) (by omega)
          have t43 : (Int32.toInt (((h0_diary_latest + 16) - 1) - ((h0_diary_latest + 16) - 1) / 16 * 16)) = (Int32.toInt ((h0_diary_latest + 16) - 1)) % 16 := rem_z rfl rfl (by omega) (by omega)
          have R44 : CO (upd f_h0_world_folk_column (f_h0_diary_whose h0_diary_latest.toNatClampNeg).toNatClampNeg (f_h0_diary_before h0_diary_latest.toNatClampNeg)) := CO.up_0 h_f_h0_world_folk_column (tnz (x := (Int32.toInt (f_h0_diary_whose h0_diary_latest.toNatClampNeg))) rfl (by omega)) (by omega) (by omega) (w := (Int32.toInt (f_h0_diary_before h0_diary_latest.toNatClampNeg))) rfl (by omega) (by omega)
          exact hq _ _ _ _ _ _ _ _ _ _ ⟨⟨by omega, by omega⟩, ⟨by omega, by omega⟩, ⟨by omega, by omega⟩, h_f_h0_world_crew_cell, h_f_h0_world_term, h_f_h0_world_rock_water, h_f_h0_world_crew_buckets, R44⟩


set_option maxRecDepth 100000 in
theorem s_X11_hush (a : Int32) (h0_site_world_folk_noises : Int32) (h0_site_world_folk_hushed : Int32) (h0_site_diary_kept : Int32) (h0_site_diary_latest : Int32) (f_h0_site_diary_deed : Nat → Int32) (f_h0_site_diary_whose : Nat → Int32) (f_h0_site_diary_before : Nat → Int32) (f_h0_site_diary_bucketsBefore : Nat → Int32) (f_h0_site_diary_dayBefore : Nat → Int32) (f_h0_site_world_folk_noiseColumn : Nat → Int32) (f_h0_site_world_folk_noiseLoud : Nat → Int32) (f_h0_refusals : Nat → Int32) (h_h0_site_world_folk_noises : 0 ≤ h0_site_world_folk_noises.toInt ∧ h0_site_world_folk_noises.toInt ≤ 6) (h_h0_site_diary_kept : 0 ≤ h0_site_diary_kept.toInt ∧ h0_site_diary_kept.toInt ≤ 16) (h_h0_site_diary_latest : 0 ≤ h0_site_diary_latest.toInt ∧ h0_site_diary_latest.toInt ≤ 15) (h_f_h0_site_world_folk_noiseColumn : NC f_h0_site_world_folk_noiseColumn) (h_f_h0_site_world_folk_noiseLoud : NL f_h0_site_world_folk_noiseLoud) (e_0 : DI f_h0_site_diary_deed f_h0_site_diary_whose f_h0_site_diary_before f_h0_site_diary_bucketsBefore f_h0_site_diary_dayBefore) {Q : Int32 → (Int32 × Int32 × Int32 × Int32 × (Nat → Int32) × (Nat → Int32) × (Nat → Int32) × (Nat → Int32) × (Nat → Int32) × (Nat → Int32)) → Prop} (hq : ∀ (r : Int32) (u_0 : Int32) (u_1 : Int32) (u_2 : Int32) (u_3 : Int32) (u_4 : Nat → Int32) (u_5 : Nat → Int32) (u_6 : Nat → Int32) (u_7 : Nat → Int32) (u_8 : Nat → Int32) (u_9 : Nat → Int32), (0 ≤ u_2.toInt ∧ u_2.toInt ≤ 16) ∧ (0 ≤ u_3.toInt ∧ u_3.toInt ≤ 15) ∧ (DI u_4 u_5 u_6 u_7 u_8) → Q r (u_0, u_1, u_2, u_3, u_4, u_5, u_6, u_7, u_8, u_9)) : wp_X11_hush a h0_site_world_folk_noises h0_site_world_folk_hushed h0_site_diary_kept h0_site_diary_latest f_h0_site_diary_deed f_h0_site_diary_whose f_h0_site_diary_before f_h0_site_diary_bucketsBefore f_h0_site_diary_dayBefore f_h0_site_world_folk_noiseColumn f_h0_site_world_folk_noiseLoud f_h0_refusals Q := by
  unfold wp_X11_hush
  refine s_X7_tryHush a h0_site_world_folk_noises h0_site_world_folk_hushed h0_site_diary_kept h0_site_diary_latest (f_h0_site_diary_deed) (f_h0_site_diary_whose) (f_h0_site_diary_before) (f_h0_site_diary_bucketsBefore) (f_h0_site_diary_dayBefore) (f_h0_site_world_folk_noiseColumn) (f_h0_site_world_folk_noiseLoud) ⟨by omega, by omega⟩ ⟨by omega, by omega⟩ ⟨by omega, by omega⟩ h_f_h0_site_world_folk_noiseColumn h_f_h0_site_world_folk_noiseLoud e_0 (fun r1 u2_0 u2_1 u2_2 u2_3 u2_4 u2_5 u2_6 u2_7 H3 => ?_)
  have j4 := H3.1
  have j5 := H3.2.1
  have j6 := H3.2.2.1
  have j7 := H3.2.2.2
  refine un8_i ?_
  refine o_X11_settle _ _ _ ?_
  refine jn_s ?_
  by_cases c8 : 0 ≤ r1
  · refine br1 c8 ?_
    have d9 := le_z (a := 0) (b := r1) (x := 0) (y := (Int32.toInt r1)) rfl rfl c8
    refine br1 (z_le (x := 0) (y := (Int32.toInt r1)) rfl rfl (by omega)) ?_
    refine un2_i ?_
    have k10 : Int32.toInt 0 = 0 := rfl
    exact hq _ _ _ _ _ _ _ _ _ _ _ ⟨⟨by omega, by omega⟩, ⟨by omega, by omega⟩, j7⟩
  · refine br0 c8 ?_
    have d11 := nle_z (a := 0) (b := r1) (x := 0) (y := (Int32.toInt r1)) rfl rfl c8
    refine br0 (z_nle (x := 0) (y := (Int32.toInt r1)) rfl rfl (by omega)) ?_
    have t12 : (Int32.toInt (-r1)) = - (Int32.toInt r1) := neg_z rfl (by omega) (by omega)
    refine br0 (z_nle (x := 7) (y := (Int32.toInt (-r1))) rfl rfl (by omega)) ?_
    refine ⟨vpi (x := (Int32.toInt (-r1))) rfl (by omega) (by omega), ?_⟩
    refine ⟨vpi (x := (Int32.toInt (-r1))) rfl (by omega) (by omega), ?_⟩
    refine un2_i ?_
    exact hq _ _ _ _ _ _ _ _ _ _ _ ⟨⟨by omega, by omega⟩, ⟨by omega, by omega⟩, j7⟩


set_option maxRecDepth 100000 in
theorem s_X11_lie (a : Int32) (b : Int32) (h0_site_world_folk_listeners : Int32) (f_h0_site_world_folk_column : Nat → Int32) (h0_site_diary_kept : Int32) (h0_site_diary_latest : Int32) (f_h0_site_diary_deed : Nat → Int32) (f_h0_site_diary_whose : Nat → Int32) (f_h0_site_diary_before : Nat → Int32) (f_h0_site_diary_bucketsBefore : Nat → Int32) (f_h0_site_diary_dayBefore : Nat → Int32) (f_h0_refusals : Nat → Int32) (h_h0_site_world_folk_listeners : 0 ≤ h0_site_world_folk_listeners.toInt ∧ h0_site_world_folk_listeners.toInt ≤ 5) (h_f_h0_site_world_folk_column : CO f_h0_site_world_folk_column) (h_h0_site_diary_kept : 0 ≤ h0_site_diary_kept.toInt ∧ h0_site_diary_kept.toInt ≤ 16) (h_h0_site_diary_latest : 0 ≤ h0_site_diary_latest.toInt ∧ h0_site_diary_latest.toInt ≤ 15) (e_0 : DI f_h0_site_diary_deed f_h0_site_diary_whose f_h0_site_diary_before f_h0_site_diary_bucketsBefore f_h0_site_diary_dayBefore) {Q : Int32 → (Int32 × (Nat → Int32) × Int32 × Int32 × (Nat → Int32) × (Nat → Int32) × (Nat → Int32) × (Nat → Int32) × (Nat → Int32) × (Nat → Int32)) → Prop} (hq : ∀ (r : Int32) (u_0 : Int32) (u_1 : Nat → Int32) (u_2 : Int32) (u_3 : Int32) (u_4 : Nat → Int32) (u_5 : Nat → Int32) (u_6 : Nat → Int32) (u_7 : Nat → Int32) (u_8 : Nat → Int32) (u_9 : Nat → Int32), (CO u_1) ∧ (0 ≤ u_2.toInt ∧ u_2.toInt ≤ 16) ∧ (0 ≤ u_3.toInt ∧ u_3.toInt ≤ 15) ∧ (DI u_4 u_5 u_6 u_7 u_8) → Q r (u_0, u_1, u_2, u_3, u_4, u_5, u_6, u_7, u_8, u_9)) : wp_X11_lie a b h0_site_world_folk_listeners f_h0_site_world_folk_column h0_site_diary_kept h0_site_diary_latest f_h0_site_diary_deed f_h0_site_diary_whose f_h0_site_diary_before f_h0_site_diary_bucketsBefore f_h0_site_diary_dayBefore f_h0_refusals Q := by
  unfold wp_X11_lie
  refine s_X7_tryLie a b h0_site_world_folk_listeners (f_h0_site_world_folk_column) h0_site_diary_kept h0_site_diary_latest (f_h0_site_diary_deed) (f_h0_site_diary_whose) (f_h0_site_diary_before) (f_h0_site_diary_bucketsBefore) (f_h0_site_diary_dayBefore) ⟨by omega, by omega⟩ h_f_h0_site_world_folk_column ⟨by omega, by omega⟩ ⟨by omega, by omega⟩ e_0 (fun r1 u2_0 u2_1 u2_2 u2_3 u2_4 u2_5 u2_6 u2_7 H3 => ?_)
  have j4 := H3.1
  have j5 := H3.2.1
  have j6 := H3.2.2.1
  have j7 := H3.2.2.2.1
  have j8 := H3.2.2.2.2
  refine un8_i ?_
  refine o_X11_settle _ _ _ ?_
  refine jn_s ?_
  by_cases c9 : 0 ≤ r1
  · refine br1 c9 ?_
    have d10 := le_z (a := 0) (b := r1) (x := 0) (y := (Int32.toInt r1)) rfl rfl c9
    refine br1 (z_le (x := 0) (y := (Int32.toInt r1)) rfl rfl (by omega)) ?_
    refine un2_i ?_
    have k11 : Int32.toInt 0 = 0 := rfl
    exact hq _ _ _ _ _ _ _ _ _ _ _ ⟨j5, ⟨by omega, by omega⟩, ⟨by omega, by omega⟩, j8⟩
  · refine br0 c9 ?_
    have d12 := nle_z (a := 0) (b := r1) (x := 0) (y := (Int32.toInt r1)) rfl rfl c9
    refine br0 (z_nle (x := 0) (y := (Int32.toInt r1)) rfl rfl (by omega)) ?_
    have t13 : (Int32.toInt (-r1)) = - (Int32.toInt r1) := neg_z rfl (by omega) (by omega)
    refine br0 (z_nle (x := 7) (y := (Int32.toInt (-r1))) rfl rfl (by omega)) ?_
    refine ⟨vpi (x := (Int32.toInt (-r1))) rfl (by omega) (by omega), ?_⟩
    refine ⟨vpi (x := (Int32.toInt (-r1))) rfl (by omega) (by omega), ?_⟩
    refine un2_i ?_
    exact hq _ _ _ _ _ _ _ _ _ _ _ ⟨j5, ⟨by omega, by omega⟩, ⟨by omega, by omega⟩, j8⟩


set_option maxRecDepth 100000 in
theorem s_X11_undo (h0_site_diary_kept : Int32) (h0_site_diary_latest : Int32) (f_h0_site_diary_whose : Nat → Int32) (f_h0_site_diary_deed : Nat → Int32) (f_h0_site_world_crew_cell : Nat → Int32) (h0_site_world_rock_dug : Int64) (f_h0_site_diary_before : Nat → Int32) (f_h0_site_diary_dayBefore : Nat → Int32) (f_h0_site_world_term : Nat → Int32) (f_h0_site_world_rock_water : Nat → Int32) (f_h0_site_diary_bucketsBefore : Nat → Int32) (f_h0_site_world_crew_buckets : Nat → Int32) (h0_site_world_folk_hushed : Int32) (f_h0_site_world_folk_column : Nat → Int32) (f_h0_refusals : Nat → Int32) (h_h0_site_diary_kept : 0 ≤ h0_site_diary_kept.toInt ∧ h0_site_diary_kept.toInt ≤ 16) (h_h0_site_diary_latest : 0 ≤ h0_site_diary_latest.toInt ∧ h0_site_diary_latest.toInt ≤ 15) (h_f_h0_site_world_crew_cell : CE f_h0_site_world_crew_cell) (h_f_h0_site_world_term : TE f_h0_site_world_term) (h_f_h0_site_world_rock_water : WA f_h0_site_world_rock_water) (h_f_h0_site_world_crew_buckets : BU f_h0_site_world_crew_buckets) (h_f_h0_site_world_folk_column : CO f_h0_site_world_folk_column) (e_0 : DI f_h0_site_diary_deed f_h0_site_diary_whose f_h0_site_diary_before f_h0_site_diary_bucketsBefore f_h0_site_diary_dayBefore) {Q : Int32 → (Int32 × Int32 × Int32 × (Nat → Int32) × Int64 × (Nat → Int32) × (Nat → Int32) × (Nat → Int32) × Int32 × (Nat → Int32) × (Nat → Int32)) → Prop} (hq : ∀ (r : Int32) (u_0 : Int32) (u_1 : Int32) (u_2 : Int32) (u_3 : Nat → Int32) (u_4 : Int64) (u_5 : Nat → Int32) (u_6 : Nat → Int32) (u_7 : Nat → Int32) (u_8 : Int32) (u_9 : Nat → Int32) (u_10 : Nat → Int32), (0 ≤ u_1.toInt ∧ u_1.toInt ≤ 16) ∧ (0 ≤ u_2.toInt ∧ u_2.toInt ≤ 15) ∧ (CE u_3) ∧ (TE u_5) ∧ (WA u_6) ∧ (BU u_7) ∧ (CO u_9) → Q r (u_0, u_1, u_2, u_3, u_4, u_5, u_6, u_7, u_8, u_9, u_10)) : wp_X11_undo h0_site_diary_kept h0_site_diary_latest f_h0_site_diary_whose f_h0_site_diary_deed f_h0_site_world_crew_cell h0_site_world_rock_dug f_h0_site_diary_before f_h0_site_diary_dayBefore f_h0_site_world_term f_h0_site_world_rock_water f_h0_site_diary_bucketsBefore f_h0_site_world_crew_buckets h0_site_world_folk_hushed f_h0_site_world_folk_column f_h0_refusals Q := by
  unfold wp_X11_undo
  refine s_X7_takeBack h0_site_diary_kept h0_site_diary_latest (f_h0_site_diary_whose) (f_h0_site_diary_deed) (f_h0_site_world_crew_cell) h0_site_world_rock_dug (f_h0_site_diary_before) (f_h0_site_diary_dayBefore) (f_h0_site_world_term) (f_h0_site_world_rock_water) (f_h0_site_diary_bucketsBefore) (f_h0_site_world_crew_buckets) h0_site_world_folk_hushed (f_h0_site_world_folk_column) ⟨by omega, by omega⟩ ⟨by omega, by omega⟩ h_f_h0_site_world_crew_cell h_f_h0_site_world_term h_f_h0_site_world_rock_water h_f_h0_site_world_crew_buckets h_f_h0_site_world_folk_column e_0 (fun r1 u2_0 u2_1 u2_2 u2_3 u2_4 u2_5 u2_6 u2_7 u2_8 H3 => ?_)
  have j4 := H3.1
  have j5 := H3.2.1
  have j6 := H3.2.2.1
  have j7 := H3.2.2.2.1
  have j8 := H3.2.2.2.2.1
  have j9 := H3.2.2.2.2.2.1
  have j10 := H3.2.2.2.2.2.2.1
  have j11 := H3.2.2.2.2.2.2.2
  refine un9_i ?_
  refine o_X11_settle _ _ _ ?_
  refine jn_s ?_
  by_cases c12 : 0 ≤ r1
  · refine br1 c12 ?_
    have d13 := le_z (a := 0) (b := r1) (x := 0) (y := (Int32.toInt r1)) rfl rfl c12
    refine br1 (z_le (x := 0) (y := (Int32.toInt r1)) rfl rfl (by omega)) ?_
    refine un2_i ?_
    exact hq _ _ _ _ _ _ _ _ _ _ _ _ ⟨⟨by omega, by omega⟩, ⟨by omega, by omega⟩, j7, j8, j9, j10, j11⟩
  · refine br0 c12 ?_
    have d14 := nle_z (a := 0) (b := r1) (x := 0) (y := (Int32.toInt r1)) rfl rfl c12
    refine br0 (z_nle (x := 0) (y := (Int32.toInt r1)) rfl rfl (by omega)) ?_
    have t15 : (Int32.toInt (-r1)) = - (Int32.toInt r1) := neg_z rfl (by omega) (by omega)
    refine br0 (z_nle (x := 7) (y := (Int32.toInt (-r1))) rfl rfl (by omega)) ?_
    refine ⟨vpi (x := (Int32.toInt (-r1))) rfl (by omega) (by omega), ?_⟩
    refine ⟨vpi (x := (Int32.toInt (-r1))) rfl (by omega) (by omega), ?_⟩
    refine un2_i ?_
    exact hq _ _ _ _ _ _ _ _ _ _ _ _ ⟨⟨by omega, by omega⟩, ⟨by omega, by omega⟩, j7, j8, j9, j10, j11⟩


set_option maxRecDepth 100000 in
theorem s_X7_tryDig_N (a : Int32) (b : Int32) (h0_world : Nat) (h0_world_lawCount : Int32) (h0_world_force : Int32) (h0_world_crew_count : Int32) (f_h0_world_crew_cell : Nat → Int32) (h0_world_rock_dug : Int64) (f_h0_world_rock_kind : Nat → Int32) (f_h0_world_laws : Nat → Option Nat) (h0_asker_world : Value) (h0_asker_law : Value) (h0_asker_cell : Int32) (h0_asker_shaft : Int32) (h0_asker_kind : Int32) (f_h0_world_term : Nat → Int32) (f_h0_world_rock_hard : Nat → Int32) (h0_diary_kept : Int32) (h0_diary_latest : Int32) (f_h0_diary_deed : Nat → Int32) (f_h0_diary_whose : Nat → Int32) (f_h0_diary_before : Nat → Int32) (f_h0_diary_bucketsBefore : Nat → Int32) (f_h0_diary_dayBefore : Nat → Int32) (h_h0_world_lawCount : 0 ≤ h0_world_lawCount.toInt ∧ h0_world_lawCount.toInt ≤ 6) (h_h0_world_force : (-1) ≤ h0_world_force.toInt ∧ h0_world_force.toInt ≤ (-1)) (h_h0_world_crew_count : 0 ≤ h0_world_crew_count.toInt ∧ h0_world_crew_count.toInt ≤ 6) (h_f_h0_world_crew_cell : CE f_h0_world_crew_cell) (h_f_h0_world_rock_kind : KI f_h0_world_rock_kind) (h_h0_asker_cell : 0 ≤ h0_asker_cell.toInt ∧ h0_asker_cell.toInt ≤ 39) (h_f_h0_world_term : TE f_h0_world_term) (h_f_h0_world_rock_hard : HA f_h0_world_rock_hard) (h_h0_diary_kept : 0 ≤ h0_diary_kept.toInt ∧ h0_diary_kept.toInt ≤ 16) (h_h0_diary_latest : 0 ≤ h0_diary_latest.toInt ∧ h0_diary_latest.toInt ≤ 15) (e_0 : DI f_h0_diary_deed f_h0_diary_whose f_h0_diary_before f_h0_diary_bucketsBefore f_h0_diary_dayBefore) {Q : Int32 → ((Nat → Int32) × Int64 × Value × Value × Int32 × Int32 × Int32 × (Nat → Int32) × Int32 × Int32 × (Nat → Int32) × (Nat → Int32) × (Nat → Int32) × (Nat → Int32) × (Nat → Int32)) → Prop} (hq : ∀ (r : Int32) (u_0 : Nat → Int32) (u_1 : Int64) (u_2 : Value) (u_3 : Value) (u_4 : Int32) (u_5 : Int32) (u_6 : Int32) (u_7 : Nat → Int32) (u_8 : Int32) (u_9 : Int32) (u_10 : Nat → Int32) (u_11 : Nat → Int32) (u_12 : Nat → Int32) (u_13 : Nat → Int32) (u_14 : Nat → Int32), ((-3) ≤ r.toInt ∧ r.toInt ≤ 2147483647) ∧ (CE u_0) ∧ (0 ≤ u_4.toInt ∧ u_4.toInt ≤ 39) ∧ (TE u_7) ∧ (0 ≤ u_8.toInt ∧ u_8.toInt ≤ 16) ∧ (0 ≤ u_9.toInt ∧ u_9.toInt ≤ 15) ∧ (DI u_10 u_11 u_12 u_13 u_14) → Q r (u_0, u_1, u_2, u_3, u_4, u_5, u_6, u_7, u_8, u_9, u_10, u_11, u_12, u_13, u_14)) : wp_X7_tryDig_N a b h0_world h0_world_lawCount h0_world_force h0_world_crew_count f_h0_world_crew_cell h0_world_rock_dug f_h0_world_rock_kind f_h0_world_laws h0_asker_world h0_asker_law h0_asker_cell h0_asker_shaft h0_asker_kind f_h0_world_term f_h0_world_rock_hard h0_diary_kept h0_diary_latest f_h0_diary_deed f_h0_diary_whose f_h0_diary_before f_h0_diary_bucketsBefore f_h0_diary_dayBefore Q := by
  unfold wp_X7_tryDig_N
  by_cases c1 : b < 0
  · refine br1 c1 ?_
    have d2 := lt_z (a := b) (b := 0) (x := (Int32.toInt b)) (y := 0) rfl rfl c1
    have k3 : Int32.toInt (-1) = (-1) := (by decide)
    exact hq _ _ _ _ _ _ _ _ _ _ _ _ _ _ _ _ ⟨(by decide), h_f_h0_world_crew_cell, ⟨by omega, by omega⟩, h_f_h0_world_term, ⟨by omega, by omega⟩, ⟨by omega, by omega⟩, e_0⟩
  · refine br0 c1 ?_
    have d4 := nlt_z (a := b) (b := 0) (x := (Int32.toInt b)) (y := 0) rfl rfl c1
    by_cases c5 : b ≤ 2
    · refine br1 c5 ?_
      have d6 := le_z (a := b) (b := 2) (x := (Int32.toInt b)) (y := 2) rfl rfl c5
      refine o_X11_isWithin _ _ _ ?_
      by_cases c7 : a < 0
      · refine br1 c7 ?_
        have d8 := lt_z (a := a) (b := 0) (x := (Int32.toInt a)) (y := 0) rfl rfl c7
        refine br1 (by decide) ?_
        have k9 : Int32.toInt (-2) = (-2) := (by decide)
        exact hq _ _ _ _ _ _ _ _ _ _ _ _ _ _ _ _ ⟨(by decide), h_f_h0_world_crew_cell, ⟨by omega, by omega⟩, h_f_h0_world_term, ⟨by omega, by omega⟩, ⟨by omega, by omega⟩, e_0⟩
      · refine br0 c7 ?_
        have d10 := nlt_z (a := a) (b := 0) (x := (Int32.toInt a)) (y := 0) rfl rfl c7
        by_cases c11 : h0_world_crew_count ≤ a
        · refine br1 c11 ?_
          have d12 := le_z (a := h0_world_crew_count) (b := a) (x := (Int32.toInt h0_world_crew_count)) (y := (Int32.toInt a)) rfl rfl c11
          refine br1 (by decide) ?_
          have k13 : Int32.toInt (-2) = (-2) := (by decide)
          exact hq _ _ _ _ _ _ _ _ _ _ _ _ _ _ _ _ ⟨(by decide), h_f_h0_world_crew_cell, ⟨by omega, by omega⟩, h_f_h0_world_term, ⟨by omega, by omega⟩, ⟨by omega, by omega⟩, e_0⟩
        · refine br0 c11 ?_
          have d14 := nle_z (a := h0_world_crew_count) (b := a) (x := (Int32.toInt h0_world_crew_count)) (y := (Int32.toInt a)) rfl rfl c11
          refine br0 (by decide) ?_
          refine ⟨vpi (x := (Int32.toInt a)) rfl (by omega) (by omega), ?_⟩
          have g15 : 0 ≤ (Int32.toInt (f_h0_world_crew_cell a.toNatClampNeg)) ∧ (Int32.toInt (f_h0_world_crew_cell a.toNatClampNeg)) ≤ 39 := CE.at_0 h_f_h0_world_crew_cell (tnz (x := (Int32.toInt a)) rfl (by omega)) (by omega) (by omega)
          refine s_X7_neighbour (f_h0_world_crew_cell a.toNatClampNeg) b ⟨by omega, by omega⟩ (fun r16 H17 => ?_)
          have j18 := H17
          refine s_X10_mayBeDugOn a (f_h0_world_crew_cell) (f_h0_world_rock_kind) ⟨by omega, by omega⟩ h_f_h0_world_crew_cell h_f_h0_world_rock_kind (fun r19 H20 => ?_)
          have j21 := H20
          by_cases c22 : r19 = 0
          · refine br1 c22 ?_
            have d23 := eq_z (a := r19) (b := 0) (x := (Int32.toInt r19)) (y := 0) rfl rfl c22
            have k24 : Int32.toInt (-3) = (-3) := (by decide)
            exact hq _ _ _ _ _ _ _ _ _ _ _ _ _ _ _ _ ⟨(by decide), h_f_h0_world_crew_cell, ⟨by omega, by omega⟩, h_f_h0_world_term, ⟨by omega, by omega⟩, ⟨by omega, by omega⟩, e_0⟩
          · refine br0 c22 ?_
            have d25 := ne_z (a := r19) (b := 0) (x := (Int32.toInt r19)) (y := 0) rfl rfl c22
            by_cases c26 : r16 = (-1)
            · refine br1 c26 ?_
              have d27 := eq_z (a := r16) (b := (-1)) (x := (Int32.toInt r16)) (y := (-1)) rfl (by decide) c26
              have k28 : Int32.toInt (-3) = (-3) := (by decide)
              exact hq _ _ _ _ _ _ _ _ _ _ _ _ _ _ _ _ ⟨(by decide), h_f_h0_world_crew_cell, ⟨by omega, by omega⟩, h_f_h0_world_term, ⟨by omega, by omega⟩, ⟨by omega, by omega⟩, e_0⟩
            · refine br0 c26 ?_
              have d29 := ne_z (a := r16) (b := (-1)) (x := (Int32.toInt r16)) (y := (-1)) rfl (by decide) c26
              refine o_X6_isDug _ _ _ ?_
              by_cases c30 : (lg_cmp ((h0_world_rock_dug >>> (r16.toInt64 &&& 63)) &&& 1) 0) = 0
              · refine br1 c30 ?_
                have d31 := c_eq (a := ((h0_world_rock_dug >>> (r16.toInt64 &&& 63)) &&& 1)) (b := 0) (x := (Int64.toInt ((h0_world_rock_dug >>> (r16.toInt64 &&& 63)) &&& 1))) (y := 0) rfl rfl c30
                refine br1 (by decide) ?_
                refine o_X10_lawInForce_N _ _ _ _ ?_
                refine o_X10_lawOf_N _ _ _ _ ?_
                refine br1 (z_lt (x := (Int32.toInt h0_world_force)) (y := 0) rfl rfl (by omega)) ?_
                refine o_X0_turnTo_N _ ?_
                refine s_X0_digsOf_N a r16 (f_h0_world_rock_kind) (f_h0_world_rock_hard) ⟨by omega, by omega⟩ h_f_h0_world_rock_kind h_f_h0_world_rock_hard (fun r32 u33_0 u33_1 u33_2 H34 => ?_)
                have j35 := H34.1
                have j36 := H34.2
                refine un3_i ?_
                by_cases c37 : 9999 < ((f_h0_world_term (0 : Int32).toNatClampNeg) + r32)
                · refine br1 c37 ?_
                  have g38 : 0 ≤ (Int32.toInt (f_h0_world_term (0 : Int32).toNatClampNeg)) ∧ (Int32.toInt (f_h0_world_term (0 : Int32).toNatClampNeg)) ≤ 9999 := TE.at_0 h_f_h0_world_term (rfl : ((0 : Nat) : Int) = 0) (by omega) (by omega)
                  have t39 : (Int32.toInt ((f_h0_world_term (0 : Int32).toNatClampNeg) + r32)) = (Int32.toInt (f_h0_world_term (0 : Int32).toNatClampNeg)) + (Int32.toInt r32) := add_z rfl rfl (by omega) (by omega)
                  have d40 := lt_z (a := 9999) (b := ((f_h0_world_term (0 : Int32).toNatClampNeg) + r32)) (x := 9999) (y := (Int32.toInt ((f_h0_world_term (0 : Int32).toNatClampNeg) + r32))) rfl rfl c37
                  have k41 : Int32.toInt (-3) = (-3) := (by decide)
                  exact hq _ _ _ _ _ _ _ _ _ _ _ _ _ _ _ _ ⟨(by decide), h_f_h0_world_crew_cell, ⟨by omega, by omega⟩, h_f_h0_world_term, ⟨by omega, by omega⟩, ⟨by omega, by omega⟩, e_0⟩
                · refine br0 c37 ?_
                  have g42 : 0 ≤ (Int32.toInt (f_h0_world_term (0 : Int32).toNatClampNeg)) ∧ (Int32.toInt (f_h0_world_term (0 : Int32).toNatClampNeg)) ≤ 9999 := TE.at_0 h_f_h0_world_term (rfl : ((0 : Nat) : Int) = 0) (by omega) (by omega)
                  have t43 : (Int32.toInt ((f_h0_world_term (0 : Int32).toNatClampNeg) + r32)) = (Int32.toInt (f_h0_world_term (0 : Int32).toNatClampNeg)) + (Int32.toInt r32) := add_z rfl rfl (by omega) (by omega)
                  have d44 := nlt_z (a := 9999) (b := ((f_h0_world_term (0 : Int32).toNatClampNeg) + r32)) (x := 9999) (y := (Int32.toInt ((f_h0_world_term (0 : Int32).toNatClampNeg) + r32))) rfl rfl c37
                  refine s_X0_passesOf_N a r16 u33_0 u33_1 u33_2 (f_h0_world_rock_kind) ⟨by omega, by omega⟩ ⟨by omega, by omega⟩ h_f_h0_world_rock_kind (fun r45 u46_0 u46_1 u46_2 H47 => ?_)
                  have j48 := H47.1
                  have j49 := H47.2
                  refine un3_i ?_
                  by_cases c50 : r45 = 0
                  · refine br1 c50 ?_
                    have d51 := eq_z (a := r45) (b := 0) (x := (Int32.toInt r45)) (y := 0) rfl rfl c50
                    have k52 : Int32.toInt (-3) = (-3) := (by decide)
                    exact hq _ _ _ _ _ _ _ _ _ _ _ _ _ _ _ _ ⟨(by decide), h_f_h0_world_crew_cell, ⟨by omega, by omega⟩, h_f_h0_world_term, ⟨by omega, by omega⟩, ⟨by omega, by omega⟩, e_0⟩
                  · refine br0 c50 ?_
                    have d53 := ne_z (a := r45) (b := 0) (x := (Int32.toInt r45)) (y := 0) rfl rfl c50
                    have k54 : Int32.toInt 0 = 0 := rfl
                    refine s_X2_add 0 a (f_h0_world_crew_cell a.toNatClampNeg) 0 (f_h0_world_term (0 : Int32).toNatClampNeg) h0_diary_kept h0_diary_latest (f_h0_diary_deed) (f_h0_diary_whose) (f_h0_diary_before) (f_h0_diary_bucketsBefore) (f_h0_diary_dayBefore) ⟨by omega, by omega⟩ ⟨by omega, by omega⟩ e_0 (by unfold DR; omega) (fun u55_0 u55_1 u55_2 u55_3 u55_4 u55_5 u55_6 H56 => ?_)
                    have j57 := H56.1
                    have j58 := H56.2.1
                    have j59 := H56.2.2
                    refine un7_i ?_
                    refine o_X6_mark _ _ _ ?_
                    refine ⟨vpi (x := (Int32.toInt a)) rfl (by omega) (by omega), ?_⟩
                    have t60 := i32_hi r16
                    have R61 : CE (upd f_h0_world_crew_cell a.toNatClampNeg r16) := CE.up_0 h_f_h0_world_crew_cell (tnz (x := (Int32.toInt a)) rfl (by omega)) (by omega) (by omega) (w := (Int32.toInt r16)) rfl (by omega) (by omega)
                    have R62 : TE (upd f_h0_world_term 0 ((f_h0_world_term (0 : Int32).toNatClampNeg) + r32)) := TE.up_0 h_f_h0_world_term (rfl : ((0 : Nat) : Int) = 0) (by omega) (by omega) (w := (Int32.toInt ((f_h0_world_term (0 : Int32).toNatClampNeg) + r32))) rfl (by omega) (by omega)
                    exact hq _ _ _ _ _ _ _ _ _ _ _ _ _ _ _ _ ⟨⟨by omega, by omega⟩, R61, ⟨by omega, by omega⟩, R62, ⟨by omega, by omega⟩, ⟨by omega, by omega⟩, j59⟩
              · refine br0 c30 ?_
                have d63 := c_ne (a := ((h0_world_rock_dug >>> (r16.toInt64 &&& 63)) &&& 1)) (b := 0) (x := (Int64.toInt ((h0_world_rock_dug >>> (r16.toInt64 &&& 63)) &&& 1))) (y := 0) rfl rfl c30
                refine br0 (by decide) ?_
                have k64 : Int32.toInt (-3) = (-3) := (by decide)
                exact hq _ _ _ _ _ _ _ _ _ _ _ _ _ _ _ _ ⟨(by decide), h_f_h0_world_crew_cell, ⟨by omega, by omega⟩, h_f_h0_world_term, ⟨by omega, by omega⟩, ⟨by omega, by omega⟩, e_0⟩
    · refine br0 c5 ?_
      have d65 := nle_z (a := b) (b := 2) (x := (Int32.toInt b)) (y := 2) rfl rfl c5
      have k66 : Int32.toInt (-1) = (-1) := (by decide)
      exact hq _ _ _ _ _ _ _ _ _ _ _ _ _ _ _ _ ⟨(by decide), h_f_h0_world_crew_cell, ⟨by omega, by omega⟩, h_f_h0_world_term, ⟨by omega, by omega⟩, ⟨by omega, by omega⟩, e_0⟩


set_option maxRecDepth 100000 in
theorem s_X7_tryHaul_N (a : Int32) (h0_world : Nat) (h0_world_lawCount : Int32) (h0_world_force : Int32) (h0_world_crew_count : Int32) (f_h0_world_crew_cell : Nat → Int32) (f_h0_world_term : Nat → Int32) (f_h0_world_rock_kind : Nat → Int32) (f_h0_world_laws : Nat → Option Nat) (h0_asker_world : Value) (h0_asker_law : Value) (h0_asker_cell : Int32) (h0_asker_shaft : Int32) (h0_asker_kind : Int32) (f_h0_world_rock_water : Nat → Int32) (f_h0_world_crew_buckets : Nat → Int32) (h0_diary_kept : Int32) (h0_diary_latest : Int32) (f_h0_diary_deed : Nat → Int32) (f_h0_diary_whose : Nat → Int32) (f_h0_diary_before : Nat → Int32) (f_h0_diary_bucketsBefore : Nat → Int32) (f_h0_diary_dayBefore : Nat → Int32) (h_h0_world_lawCount : 0 ≤ h0_world_lawCount.toInt ∧ h0_world_lawCount.toInt ≤ 6) (h_h0_world_force : (-1) ≤ h0_world_force.toInt ∧ h0_world_force.toInt ≤ (-1)) (h_h0_world_crew_count : 0 ≤ h0_world_crew_count.toInt ∧ h0_world_crew_count.toInt ≤ 6) (h_f_h0_world_crew_cell : CE f_h0_world_crew_cell) (h_f_h0_world_term : TE f_h0_world_term) (h_f_h0_world_rock_kind : KI f_h0_world_rock_kind) (h_h0_asker_cell : 0 ≤ h0_asker_cell.toInt ∧ h0_asker_cell.toInt ≤ 39) (h_f_h0_world_rock_water : WA f_h0_world_rock_water) (h_f_h0_world_crew_buckets : BU f_h0_world_crew_buckets) (h_h0_diary_kept : 0 ≤ h0_diary_kept.toInt ∧ h0_diary_kept.toInt ≤ 16) (h_h0_diary_latest : 0 ≤ h0_diary_latest.toInt ∧ h0_diary_latest.toInt ≤ 15) (e_0 : DI f_h0_diary_deed f_h0_diary_whose f_h0_diary_before f_h0_diary_bucketsBefore f_h0_diary_dayBefore) {Q : Int32 → ((Nat → Int32) × Value × Value × Int32 × Int32 × Int32 × (Nat → Int32) × (Nat → Int32) × Int32 × Int32 × (Nat → Int32) × (Nat → Int32) × (Nat → Int32) × (Nat → Int32) × (Nat → Int32)) → Prop} (hq : ∀ (r : Int32) (u_0 : Nat → Int32) (u_1 : Value) (u_2 : Value) (u_3 : Int32) (u_4 : Int32) (u_5 : Int32) (u_6 : Nat → Int32) (u_7 : Nat → Int32) (u_8 : Int32) (u_9 : Int32) (u_10 : Nat → Int32) (u_11 : Nat → Int32) (u_12 : Nat → Int32) (u_13 : Nat → Int32) (u_14 : Nat → Int32), ((-3) ≤ r.toInt ∧ r.toInt ≤ 2147483647) ∧ (TE u_0) ∧ (0 ≤ u_3.toInt ∧ u_3.toInt ≤ 39) ∧ (WA u_6) ∧ (BU u_7) ∧ (0 ≤ u_8.toInt ∧ u_8.toInt ≤ 16) ∧ (0 ≤ u_9.toInt ∧ u_9.toInt ≤ 15) ∧ (DI u_10 u_11 u_12 u_13 u_14) → Q r (u_0, u_1, u_2, u_3, u_4, u_5, u_6, u_7, u_8, u_9, u_10, u_11, u_12, u_13, u_14)) : wp_X7_tryHaul_N a h0_world h0_world_lawCount h0_world_force h0_world_crew_count f_h0_world_crew_cell f_h0_world_term f_h0_world_rock_kind f_h0_world_laws h0_asker_world h0_asker_law h0_asker_cell h0_asker_shaft h0_asker_kind f_h0_world_rock_water f_h0_world_crew_buckets h0_diary_kept h0_diary_latest f_h0_diary_deed f_h0_diary_whose f_h0_diary_before f_h0_diary_bucketsBefore f_h0_diary_dayBefore Q := by
  unfold wp_X7_tryHaul_N
  refine o_X11_isWithin _ _ _ ?_
  by_cases c1 : a < 0
  · refine br1 c1 ?_
    have d2 := lt_z (a := a) (b := 0) (x := (Int32.toInt a)) (y := 0) rfl rfl c1
    refine br1 (by decide) ?_
    have k3 : Int32.toInt (-2) = (-2) := (by decide)
    exact hq _ _ _ _ _ _ _ _ _ _ _ _ _ _ _ _ ⟨(by decide), h_f_h0_world_term, ⟨by omega, by omega⟩, h_f_h0_world_rock_water, h_f_h0_world_crew_buckets, ⟨by omega, by omega⟩, ⟨by omega, by omega⟩, e_0⟩
  · refine br0 c1 ?_
    have d4 := nlt_z (a := a) (b := 0) (x := (Int32.toInt a)) (y := 0) rfl rfl c1
    by_cases c5 : h0_world_crew_count ≤ a
    · refine br1 c5 ?_
      have d6 := le_z (a := h0_world_crew_count) (b := a) (x := (Int32.toInt h0_world_crew_count)) (y := (Int32.toInt a)) rfl rfl c5
      refine br1 (by decide) ?_
      have k7 : Int32.toInt (-2) = (-2) := (by decide)
      exact hq _ _ _ _ _ _ _ _ _ _ _ _ _ _ _ _ ⟨(by decide), h_f_h0_world_term, ⟨by omega, by omega⟩, h_f_h0_world_rock_water, h_f_h0_world_crew_buckets, ⟨by omega, by omega⟩, ⟨by omega, by omega⟩, e_0⟩
    · refine br0 c5 ?_
      have d8 := nle_z (a := h0_world_crew_count) (b := a) (x := (Int32.toInt h0_world_crew_count)) (y := (Int32.toInt a)) rfl rfl c5
      refine br0 (by decide) ?_
      refine ⟨vpi (x := (Int32.toInt a)) rfl (by omega) (by omega), ?_⟩
      have g9 : 0 ≤ (Int32.toInt (f_h0_world_crew_cell a.toNatClampNeg)) ∧ (Int32.toInt (f_h0_world_crew_cell a.toNatClampNeg)) ≤ 39 := CE.at_0 h_f_h0_world_crew_cell (tnz (x := (Int32.toInt a)) rfl (by omega)) (by omega) (by omega)
      refine ⟨vpi (x := (Int32.toInt (f_h0_world_crew_cell a.toNatClampNeg))) rfl (by omega) (by omega), ?_⟩
      by_cases c10 : (f_h0_world_rock_kind (f_h0_world_crew_cell a.toNatClampNeg).toNatClampNeg) = 3
      · refine br1 c10 ?_
        have g11 : 0 ≤ (Int32.toInt (f_h0_world_rock_kind (f_h0_world_crew_cell a.toNatClampNeg).toNatClampNeg)) ∧ (Int32.toInt (f_h0_world_rock_kind (f_h0_world_crew_cell a.toNatClampNeg).toNatClampNeg)) ≤ 3 := KI.at_0 h_f_h0_world_rock_kind (tnz (x := (Int32.toInt (f_h0_world_crew_cell a.toNatClampNeg))) rfl (by omega)) (by omega) (by omega)
        have d12 := eq_z (a := (f_h0_world_rock_kind (f_h0_world_crew_cell a.toNatClampNeg).toNatClampNeg)) (b := 3) (x := (Int32.toInt (f_h0_world_rock_kind (f_h0_world_crew_cell a.toNatClampNeg).toNatClampNeg))) (y := 3) rfl rfl c10
        by_cases c13 : (f_h0_world_term (0 : Int32).toNatClampNeg) < 9999
        · refine br1 c13 ?_
          have g14 : 0 ≤ (Int32.toInt (f_h0_world_term (0 : Int32).toNatClampNeg)) ∧ (Int32.toInt (f_h0_world_term (0 : Int32).toNatClampNeg)) ≤ 9999 := TE.at_0 h_f_h0_world_term (rfl : ((0 : Nat) : Int) = 0) (by omega) (by omega)
          have d15 := lt_z (a := (f_h0_world_term (0 : Int32).toNatClampNeg)) (b := 9999) (x := (Int32.toInt (f_h0_world_term (0 : Int32).toNatClampNeg))) (y := 9999) rfl rfl c13
          refine o_X10_lawInForce_N _ _ _ _ ?_
          refine o_X10_lawOf_N _ _ _ _ ?_
          refine br1 (z_lt (x := (Int32.toInt h0_world_force)) (y := 0) rfl rfl (by omega)) ?_
          refine o_X0_turnTo_N _ ?_
          refine s_X0_givesOf_Nr a (f_h0_world_crew_cell a.toNatClampNeg) (f_h0_world_rock_kind) (f_h0_world_rock_water) ⟨by omega, by omega⟩ h_f_h0_world_rock_kind h_f_h0_world_rock_water (fun r16 u17_0 u17_1 u17_2 H18 => ?_)
          have j19 := H18.1
          have j20 := H18.2.1
          have j21 := H18.2.2
          refine un3_i ?_
          refine ⟨vpi (x := (Int32.toInt a)) rfl (by omega) (by omega), ?_⟩
          refine ⟨vpi (x := (Int32.toInt (f_h0_world_crew_cell a.toNatClampNeg))) rfl (by omega) (by omega), ?_⟩
          have k22 : Int32.toInt 1 = 1 := rfl
          have g23 : 0 ≤ (Int32.toInt (f_h0_world_rock_water (f_h0_world_crew_cell a.toNatClampNeg).toNatClampNeg)) ∧ (Int32.toInt (f_h0_world_rock_water (f_h0_world_crew_cell a.toNatClampNeg).toNatClampNeg)) ≤ 99 := WA.at_0 h_f_h0_world_rock_water (tnz (x := (Int32.toInt (f_h0_world_crew_cell a.toNatClampNeg))) rfl (by omega)) (by omega) (by omega)
          have g24 : 0 ≤ (Int32.toInt (f_h0_world_crew_buckets a.toNatClampNeg)) ∧ (Int32.toInt (f_h0_world_crew_buckets a.toNatClampNeg)) ≤ 9999 := BU.at_0 h_f_h0_world_crew_buckets (tnz (x := (Int32.toInt a)) rfl (by omega)) (by omega) (by omega)
          refine s_X2_add 1 a (f_h0_world_rock_water (f_h0_world_crew_cell a.toNatClampNeg).toNatClampNeg) (f_h0_world_crew_buckets a.toNatClampNeg) (f_h0_world_term (0 : Int32).toNatClampNeg) h0_diary_kept h0_diary_latest (f_h0_diary_deed) (f_h0_diary_whose) (f_h0_diary_before) (f_h0_diary_bucketsBefore) (f_h0_diary_dayBefore) ⟨by omega, by omega⟩ ⟨by omega, by omega⟩ e_0 (by unfold DR; omega) (fun u25_0 u25_1 u25_2 u25_3 u25_4 u25_5 u25_6 H26 => ?_)
          have j27 := H26.1
          have j28 := H26.2.1
          have j29 := H26.2.2
          refine un7_i ?_
          refine ⟨vpi (x := (Int32.toInt (f_h0_world_crew_cell a.toNatClampNeg))) rfl (by omega) (by omega), ?_⟩
          refine ⟨vpi (x := (Int32.toInt (f_h0_world_crew_cell a.toNatClampNeg))) rfl (by omega) (by omega), ?_⟩
          refine ⟨vpi (x := (Int32.toInt a)) rfl (by omega) (by omega), ?_⟩
          have t30 := i32_hi r16
          have t31 : (Int32.toInt ((f_h0_world_term (0 : Int32).toNatClampNeg) + 1)) = (Int32.toInt (f_h0_world_term (0 : Int32).toNatClampNeg)) + 1 := add_z rfl rfl (by omega) (by omega)
          have R32 : TE (upd f_h0_world_term 0 ((f_h0_world_term (0 : Int32).toNatClampNeg) + 1)) := TE.up_0 h_f_h0_world_term (rfl : ((0 : Nat) : Int) = 0) (by omega) (by omega) (w := (Int32.toInt ((f_h0_world_term (0 : Int32).toNatClampNeg) + 1))) rfl (by omega) (by omega)
          have t33 : (Int32.toInt ((f_h0_world_rock_water (f_h0_world_crew_cell a.toNatClampNeg).toNatClampNeg) - r16)) = (Int32.toInt (f_h0_world_rock_water (f_h0_world_crew_cell a.toNatClampNeg).toNatClampNeg)) - (Int32.toInt r16) := sub_z rfl rfl (by omega) (by omega)
          have R34 : WA (upd f_h0_world_rock_water (f_h0_world_crew_cell a.toNatClampNeg).toNatClampNeg ((f_h0_world_rock_water (f_h0_world_crew_cell a.toNatClampNeg).toNatClampNeg) - r16)) := WA.up_0 h_f_h0_world_rock_water (tnz (x := (Int32.toInt (f_h0_world_crew_cell a.toNatClampNeg))) rfl (by omega)) (by omega) (by omega) (w := (Int32.toInt ((f_h0_world_rock_water (f_h0_world_crew_cell a.toNatClampNeg).toNatClampNeg) - r16))) rfl (by omega) (by omega)
          have t35 : (Int32.toInt ((f_h0_world_crew_buckets a.toNatClampNeg) + r16)) = (Int32.toInt (f_h0_world_crew_buckets a.toNatClampNeg)) + (Int32.toInt r16) := add_z rfl rfl (by omega) (by omega)
          have t36 := mn_z (a := 9999) (b := ((f_h0_world_crew_buckets a.toNatClampNeg) + r16))
          have k37 : Int32.toInt 9999 = 9999 := rfl
          have R38 : BU (upd f_h0_world_crew_buckets a.toNatClampNeg (if ((f_h0_world_crew_buckets a.toNatClampNeg) + r16) < 9999 then ((f_h0_world_crew_buckets a.toNatClampNeg) + r16) else 9999)) := BU.up_0 h_f_h0_world_crew_buckets (tnz (x := (Int32.toInt a)) rfl (by omega)) (by omega) (by omega) (w := (Int32.toInt (if ((f_h0_world_crew_buckets a.toNatClampNeg) + r16) < 9999 then ((f_h0_world_crew_buckets a.toNatClampNeg) + r16) else 9999))) rfl (by omega) (by omega)
          exact hq _ _ _ _ _ _ _ _ _ _ _ _ _ _ _ _ ⟨⟨by omega, by omega⟩, R32, ⟨by omega, by omega⟩, R34, R38, ⟨by omega, by omega⟩, ⟨by omega, by omega⟩, j29⟩
        · refine br0 c13 ?_
          have g39 : 0 ≤ (Int32.toInt (f_h0_world_term (0 : Int32).toNatClampNeg)) ∧ (Int32.toInt (f_h0_world_term (0 : Int32).toNatClampNeg)) ≤ 9999 := TE.at_0 h_f_h0_world_term (rfl : ((0 : Nat) : Int) = 0) (by omega) (by omega)
          have d40 := nlt_z (a := (f_h0_world_term (0 : Int32).toNatClampNeg)) (b := 9999) (x := (Int32.toInt (f_h0_world_term (0 : Int32).toNatClampNeg))) (y := 9999) rfl rfl c13
          have k41 : Int32.toInt (-3) = (-3) := (by decide)
          exact hq _ _ _ _ _ _ _ _ _ _ _ _ _ _ _ _ ⟨(by decide), h_f_h0_world_term, ⟨by omega, by omega⟩, h_f_h0_world_rock_water, h_f_h0_world_crew_buckets, ⟨by omega, by omega⟩, ⟨by omega, by omega⟩, e_0⟩
      · refine br0 c10 ?_
        have g42 : 0 ≤ (Int32.toInt (f_h0_world_rock_kind (f_h0_world_crew_cell a.toNatClampNeg).toNatClampNeg)) ∧ (Int32.toInt (f_h0_world_rock_kind (f_h0_world_crew_cell a.toNatClampNeg).toNatClampNeg)) ≤ 3 := KI.at_0 h_f_h0_world_rock_kind (tnz (x := (Int32.toInt (f_h0_world_crew_cell a.toNatClampNeg))) rfl (by omega)) (by omega) (by omega)
        have d43 := ne_z (a := (f_h0_world_rock_kind (f_h0_world_crew_cell a.toNatClampNeg).toNatClampNeg)) (b := 3) (x := (Int32.toInt (f_h0_world_rock_kind (f_h0_world_crew_cell a.toNatClampNeg).toNatClampNeg))) (y := 3) rfl rfl c10
        have k44 : Int32.toInt (-3) = (-3) := (by decide)
        exact hq _ _ _ _ _ _ _ _ _ _ _ _ _ _ _ _ ⟨(by decide), h_f_h0_world_term, ⟨by omega, by omega⟩, h_f_h0_world_rock_water, h_f_h0_world_crew_buckets, ⟨by omega, by omega⟩, ⟨by omega, by omega⟩, e_0⟩


set_option maxRecDepth 100000 in
theorem s_X7_tryDig_T (a : Int32) (b : Int32) (h0_world : Nat) (h0_world_lawCount : Int32) (h0_world_force : Int32) (h0_world_crew_count : Int32) (f_h0_world_crew_cell : Nat → Int32) (h0_world_rock_dug : Int64) (f_h0_world_rock_kind : Nat → Int32) (f_h0_world_laws : Nat → Option Nat) (h0_asker_world : Value) (h0_asker_law : Value) (h0_asker_cell : Int32) (h0_asker_shaft : Int32) (h0_asker_kind : Int32) (h0_asker_done : Int32) (h0_asker_latest : Int32) (h0_asker_value : Int32) (f_h0_world_term : Nat → Int32) (f_h0_world_rock_hard : Nat → Int32) (t : Nat) (t_clauses : Int32) (t_length : Int32) (n_t_heads : Nat) (f_t_heads : Nat → Int32) (n_t_code : Nat) (f_t_code : Nat → Int32) (f_h0_asker_stack : Nat → Int64) (h0_world_folk_listeners : Int32) (f_h0_world_folk_column : Nat → Int32) (f_h0_world_rock_water : Nat → Int32) (f_h0_world_crew_buckets : Nat → Int32) (h0_diary_kept : Int32) (h0_diary_latest : Int32) (f_h0_diary_deed : Nat → Int32) (f_h0_diary_whose : Nat → Int32) (f_h0_diary_before : Nat → Int32) (f_h0_diary_bucketsBefore : Nat → Int32) (f_h0_diary_dayBefore : Nat → Int32) (h_h0_world_lawCount : 0 ≤ h0_world_lawCount.toInt ∧ h0_world_lawCount.toInt ≤ 6) (h_h0_world_force : 0 ≤ h0_world_force.toInt ∧ h0_world_force.toInt ≤ 5) (h_h0_world_crew_count : 0 ≤ h0_world_crew_count.toInt ∧ h0_world_crew_count.toInt ≤ 6) (h_f_h0_world_crew_cell : CE f_h0_world_crew_cell) (h_f_h0_world_rock_kind : KI f_h0_world_rock_kind) (h_h0_asker_cell : 0 ≤ h0_asker_cell.toInt ∧ h0_asker_cell.toInt ≤ 39) (h_f_h0_world_term : TE f_h0_world_term) (h_f_h0_world_rock_hard : HA f_h0_world_rock_hard) (h_t_clauses : 0 ≤ t_clauses.toInt ∧ t_clauses.toInt ≤ 12) (h_t_length : 0 ≤ t_length.toInt ∧ t_length.toInt ≤ 400) (h_f_t_code : CD f_t_code) (h_h0_world_folk_listeners : 0 ≤ h0_world_folk_listeners.toInt ∧ h0_world_folk_listeners.toInt ≤ 5) (h_f_h0_world_folk_column : CO f_h0_world_folk_column) (h_f_h0_world_rock_water : WA f_h0_world_rock_water) (h_f_h0_world_crew_buckets : BU f_h0_world_crew_buckets) (h_h0_diary_kept : 0 ≤ h0_diary_kept.toInt ∧ h0_diary_kept.toInt ≤ 16) (h_h0_diary_latest : 0 ≤ h0_diary_latest.toInt ∧ h0_diary_latest.toInt ≤ 15) (e_0 : n_t_heads < 100000) (e_1 : t_length.toInt ≤ (n_t_code : Int)) (e_2 : h0_world_force.toInt < h0_world_lawCount.toInt) (e_3 : f_h0_world_laws (Int32.toNatClampNeg h0_world_force) = some t) (e_4 : DI f_h0_diary_deed f_h0_diary_whose f_h0_diary_before f_h0_diary_bucketsBefore f_h0_diary_dayBefore) {Q : Int32 → ((Nat → Int32) × Int64 × Value × Value × Int32 × Int32 × Int32 × Int32 × (Nat → Int32) × (Nat → Int64) × Int32 × Int32 × (Nat → Int32) × (Nat → Int32) × (Nat → Int32) × (Nat → Int32) × (Nat → Int32)) → Prop} (hq : ∀ (r : Int32) (u_0 : Nat → Int32) (u_1 : Int64) (u_2 : Value) (u_3 : Value) (u_4 : Int32) (u_5 : Int32) (u_6 : Int32) (u_7 : Int32) (u_8 : Nat → Int32) (u_9 : Nat → Int64) (u_10 : Int32) (u_11 : Int32) (u_12 : Nat → Int32) (u_13 : Nat → Int32) (u_14 : Nat → Int32) (u_15 : Nat → Int32) (u_16 : Nat → Int32), ((-3) ≤ r.toInt ∧ r.toInt ≤ 2147483647) ∧ (CE u_0) ∧ (0 ≤ u_4.toInt ∧ u_4.toInt ≤ 39) ∧ (TE u_8) ∧ (0 ≤ u_10.toInt ∧ u_10.toInt ≤ 16) ∧ (0 ≤ u_11.toInt ∧ u_11.toInt ≤ 15) ∧ (DI u_12 u_13 u_14 u_15 u_16) → Q r (u_0, u_1, u_2, u_3, u_4, u_5, u_6, u_7, u_8, u_9, u_10, u_11, u_12, u_13, u_14, u_15, u_16)) : wp_X7_tryDig_T a b h0_world h0_world_lawCount h0_world_force h0_world_crew_count f_h0_world_crew_cell h0_world_rock_dug f_h0_world_rock_kind f_h0_world_laws h0_asker_world h0_asker_law h0_asker_cell h0_asker_shaft h0_asker_kind h0_asker_done h0_asker_latest h0_asker_value f_h0_world_term f_h0_world_rock_hard t t_clauses t_length n_t_heads f_t_heads n_t_code f_t_code f_h0_asker_stack h0_world_folk_listeners f_h0_world_folk_column f_h0_world_rock_water f_h0_world_crew_buckets h0_diary_kept h0_diary_latest f_h0_diary_deed f_h0_diary_whose f_h0_diary_before f_h0_diary_bucketsBefore f_h0_diary_dayBefore Q := by
  unfold wp_X7_tryDig_T
  by_cases c1 : b < 0
  · refine br1 c1 ?_
    have d2 := lt_z (a := b) (b := 0) (x := (Int32.toInt b)) (y := 0) rfl rfl c1
    have k3 : Int32.toInt (-1) = (-1) := (by decide)
    exact hq _ _ _ _ _ _ _ _ _ _ _ _ _ _ _ _ _ _ ⟨(by decide), h_f_h0_world_crew_cell, ⟨by omega, by omega⟩, h_f_h0_world_term, ⟨by omega, by omega⟩, ⟨by omega, by omega⟩, e_4⟩
  · refine br0 c1 ?_
    have d4 := nlt_z (a := b) (b := 0) (x := (Int32.toInt b)) (y := 0) rfl rfl c1
    by_cases c5 : b ≤ 2
    · refine br1 c5 ?_
      have d6 := le_z (a := b) (b := 2) (x := (Int32.toInt b)) (y := 2) rfl rfl c5
      refine o_X11_isWithin _ _ _ ?_
      by_cases c7 : a < 0
      · refine br1 c7 ?_
        have d8 := lt_z (a := a) (b := 0) (x := (Int32.toInt a)) (y := 0) rfl rfl c7
        refine br1 (by decide) ?_
        have k9 : Int32.toInt (-2) = (-2) := (by decide)
        exact hq _ _ _ _ _ _ _ _ _ _ _ _ _ _ _ _ _ _ ⟨(by decide), h_f_h0_world_crew_cell, ⟨by omega, by omega⟩, h_f_h0_world_term, ⟨by omega, by omega⟩, ⟨by omega, by omega⟩, e_4⟩
      · refine br0 c7 ?_
        have d10 := nlt_z (a := a) (b := 0) (x := (Int32.toInt a)) (y := 0) rfl rfl c7
        by_cases c11 : h0_world_crew_count ≤ a
        · refine br1 c11 ?_
          have d12 := le_z (a := h0_world_crew_count) (b := a) (x := (Int32.toInt h0_world_crew_count)) (y := (Int32.toInt a)) rfl rfl c11
          refine br1 (by decide) ?_
          have k13 : Int32.toInt (-2) = (-2) := (by decide)
          exact hq _ _ _ _ _ _ _ _ _ _ _ _ _ _ _ _ _ _ ⟨(by decide), h_f_h0_world_crew_cell, ⟨by omega, by omega⟩, h_f_h0_world_term, ⟨by omega, by omega⟩, ⟨by omega, by omega⟩, e_4⟩
        · refine br0 c11 ?_
          have d14 := nle_z (a := h0_world_crew_count) (b := a) (x := (Int32.toInt h0_world_crew_count)) (y := (Int32.toInt a)) rfl rfl c11
          refine br0 (by decide) ?_
          refine ⟨vpi (x := (Int32.toInt a)) rfl (by omega) (by omega), ?_⟩
          have g15 : 0 ≤ (Int32.toInt (f_h0_world_crew_cell a.toNatClampNeg)) ∧ (Int32.toInt (f_h0_world_crew_cell a.toNatClampNeg)) ≤ 39 := CE.at_0 h_f_h0_world_crew_cell (tnz (x := (Int32.toInt a)) rfl (by omega)) (by omega) (by omega)
          refine s_X7_neighbour (f_h0_world_crew_cell a.toNatClampNeg) b ⟨by omega, by omega⟩ (fun r16 H17 => ?_)
          have j18 := H17
          refine s_X10_mayBeDugOn a (f_h0_world_crew_cell) (f_h0_world_rock_kind) ⟨by omega, by omega⟩ h_f_h0_world_crew_cell h_f_h0_world_rock_kind (fun r19 H20 => ?_)
          have j21 := H20
          by_cases c22 : r19 = 0
          · refine br1 c22 ?_
            have d23 := eq_z (a := r19) (b := 0) (x := (Int32.toInt r19)) (y := 0) rfl rfl c22
            have k24 : Int32.toInt (-3) = (-3) := (by decide)
            exact hq _ _ _ _ _ _ _ _ _ _ _ _ _ _ _ _ _ _ ⟨(by decide), h_f_h0_world_crew_cell, ⟨by omega, by omega⟩, h_f_h0_world_term, ⟨by omega, by omega⟩, ⟨by omega, by omega⟩, e_4⟩
          · refine br0 c22 ?_
            have d25 := ne_z (a := r19) (b := 0) (x := (Int32.toInt r19)) (y := 0) rfl rfl c22
            by_cases c26 : r16 = (-1)
            · refine br1 c26 ?_
              have d27 := eq_z (a := r16) (b := (-1)) (x := (Int32.toInt r16)) (y := (-1)) rfl (by decide) c26
              have k28 : Int32.toInt (-3) = (-3) := (by decide)
              exact hq _ _ _ _ _ _ _ _ _ _ _ _ _ _ _ _ _ _ ⟨(by decide), h_f_h0_world_crew_cell, ⟨by omega, by omega⟩, h_f_h0_world_term, ⟨by omega, by omega⟩, ⟨by omega, by omega⟩, e_4⟩
            · refine br0 c26 ?_
              have d29 := ne_z (a := r16) (b := (-1)) (x := (Int32.toInt r16)) (y := (-1)) rfl (by decide) c26
              refine o_X6_isDug _ _ _ ?_
              by_cases c30 : (lg_cmp ((h0_world_rock_dug >>> (r16.toInt64 &&& 63)) &&& 1) 0) = 0
              · refine br1 c30 ?_
                have d31 := c_eq (a := ((h0_world_rock_dug >>> (r16.toInt64 &&& 63)) &&& 1)) (b := 0) (x := (Int64.toInt ((h0_world_rock_dug >>> (r16.toInt64 &&& 63)) &&& 1))) (y := 0) rfl rfl c30
                refine br1 (by decide) ?_
                refine o_X10_lawInForce_T _ _ _ _ _ ?_
                refine o_X10_lawOf_T _ _ _ _ _ ?_
                refine br0 (z_nlt (x := (Int32.toInt h0_world_force)) (y := 0) rfl rfl (by omega)) ?_
                by_cases c32 : h0_world_lawCount ≤ h0_world_force
                · refine br1 c32 ?_
                  have d33 := le_z (a := h0_world_lawCount) (b := h0_world_force) (x := (Int32.toInt h0_world_lawCount)) (y := (Int32.toInt h0_world_force)) rfl rfl c32
                  exfalso
                  omega
                · refine br0 c32 ?_
                  have d34 := nle_z (a := h0_world_lawCount) (b := h0_world_force) (x := (Int32.toInt h0_world_lawCount)) (y := (Int32.toInt h0_world_force)) rfl rfl c32
                  refine br0 (z_nle (x := 6) (y := (Int32.toInt h0_world_force)) rfl rfl (by omega)) ?_
                  refine ⟨vpi (x := (Int32.toInt h0_world_force)) rfl (by omega) (by omega), ?_⟩
                  refine ⟨by assumption, ?_⟩
                  refine o_X0_turnTo_T _ ?_
                  refine s_X0_digsOf_T a r16 h0_asker_done h0_asker_latest h0_asker_value (f_h0_world_rock_kind) (f_h0_world_rock_hard) t_clauses t_length n_t_heads (f_t_heads) n_t_code (f_t_code) (f_h0_asker_stack) h0_world_folk_listeners (f_h0_world_folk_column) (f_h0_world_rock_water) (f_h0_world_term) h0_world_crew_count (f_h0_world_crew_cell) (f_h0_world_crew_buckets) ⟨by omega, by omega⟩ h_f_h0_world_rock_kind h_f_h0_world_rock_hard ⟨by omega, by omega⟩ ⟨by omega, by omega⟩ h_f_t_code ⟨by omega, by omega⟩ h_f_h0_world_folk_column h_f_h0_world_rock_water h_f_h0_world_term ⟨by omega, by omega⟩ h_f_h0_world_crew_cell h_f_h0_world_crew_buckets (by omega) (by omega) (fun r35 u36_0 u36_1 u36_2 u36_3 u36_4 H37 => ?_)
                  have j38 := H37.1
                  have j39 := H37.2
                  refine un5_i ?_
                  by_cases c40 : 9999 < ((f_h0_world_term (0 : Int32).toNatClampNeg) + r35)
                  · refine br1 c40 ?_
                    have g41 : 0 ≤ (Int32.toInt (f_h0_world_term (0 : Int32).toNatClampNeg)) ∧ (Int32.toInt (f_h0_world_term (0 : Int32).toNatClampNeg)) ≤ 9999 := TE.at_0 h_f_h0_world_term (rfl : ((0 : Nat) : Int) = 0) (by omega) (by omega)
                    have t42 : (Int32.toInt ((f_h0_world_term (0 : Int32).toNatClampNeg) + r35)) = (Int32.toInt (f_h0_world_term (0 : Int32).toNatClampNeg)) + (Int32.toInt r35) := add_z rfl rfl (by omega) (by omega)
                    have d43 := lt_z (a := 9999) (b := ((f_h0_world_term (0 : Int32).toNatClampNeg) + r35)) (x := 9999) (y := (Int32.toInt ((f_h0_world_term (0 : Int32).toNatClampNeg) + r35))) rfl rfl c40
                    have k44 : Int32.toInt (-3) = (-3) := (by decide)
                    exact hq _ _ _ _ _ _ _ _ _ _ _ _ _ _ _ _ _ _ ⟨(by decide), h_f_h0_world_crew_cell, ⟨by omega, by omega⟩, h_f_h0_world_term, ⟨by omega, by omega⟩, ⟨by omega, by omega⟩, e_4⟩
                  · refine br0 c40 ?_
                    have g45 : 0 ≤ (Int32.toInt (f_h0_world_term (0 : Int32).toNatClampNeg)) ∧ (Int32.toInt (f_h0_world_term (0 : Int32).toNatClampNeg)) ≤ 9999 := TE.at_0 h_f_h0_world_term (rfl : ((0 : Nat) : Int) = 0) (by omega) (by omega)
                    have t46 : (Int32.toInt ((f_h0_world_term (0 : Int32).toNatClampNeg) + r35)) = (Int32.toInt (f_h0_world_term (0 : Int32).toNatClampNeg)) + (Int32.toInt r35) := add_z rfl rfl (by omega) (by omega)
                    have d47 := nlt_z (a := 9999) (b := ((f_h0_world_term (0 : Int32).toNatClampNeg) + r35)) (x := 9999) (y := (Int32.toInt ((f_h0_world_term (0 : Int32).toNatClampNeg) + r35))) rfl rfl c40
                    refine s_X0_passesOf_T a r16 u36_0 u36_1 u36_2 h0_asker_done h0_asker_latest u36_3 (f_h0_world_rock_kind) t_clauses t_length n_t_heads (f_t_heads) n_t_code (f_t_code) (u36_4) h0_world_folk_listeners (f_h0_world_folk_column) (f_h0_world_rock_hard) (f_h0_world_rock_water) (f_h0_world_term) h0_world_crew_count (f_h0_world_crew_cell) (f_h0_world_crew_buckets) ⟨by omega, by omega⟩ ⟨by omega, by omega⟩ h_f_h0_world_rock_kind ⟨by omega, by omega⟩ ⟨by omega, by omega⟩ h_f_t_code ⟨by omega, by omega⟩ h_f_h0_world_folk_column h_f_h0_world_rock_hard h_f_h0_world_rock_water h_f_h0_world_term ⟨by omega, by omega⟩ h_f_h0_world_crew_cell h_f_h0_world_crew_buckets (by omega) (by omega) (fun r48 u49_0 u49_1 u49_2 u49_3 u49_4 H50 => ?_)
                    have j51 := H50.1
                    have j52 := H50.2
                    refine un5_i ?_
                    by_cases c53 : r48 = 0
                    · refine br1 c53 ?_
                      have d54 := eq_z (a := r48) (b := 0) (x := (Int32.toInt r48)) (y := 0) rfl rfl c53
                      have k55 : Int32.toInt (-3) = (-3) := (by decide)
                      exact hq _ _ _ _ _ _ _ _ _ _ _ _ _ _ _ _ _ _ ⟨(by decide), h_f_h0_world_crew_cell, ⟨by omega, by omega⟩, h_f_h0_world_term, ⟨by omega, by omega⟩, ⟨by omega, by omega⟩, e_4⟩
                    · refine br0 c53 ?_
                      have d56 := ne_z (a := r48) (b := 0) (x := (Int32.toInt r48)) (y := 0) rfl rfl c53
                      have k57 : Int32.toInt 0 = 0 := rfl
                      refine s_X2_add 0 a (f_h0_world_crew_cell a.toNatClampNeg) 0 (f_h0_world_term (0 : Int32).toNatClampNeg) h0_diary_kept h0_diary_latest (f_h0_diary_deed) (f_h0_diary_whose) (f_h0_diary_before) (f_h0_diary_bucketsBefore) (f_h0_diary_dayBefore) ⟨by omega, by omega⟩ ⟨by omega, by omega⟩ e_4 (by unfold DR; omega) (fun u58_0 u58_1 u58_2 u58_3 u58_4 u58_5 u58_6 H59 => ?_)
                      have j60 := H59.1
                      have j61 := H59.2.1
                      have j62 := H59.2.2
                      refine un7_i ?_
                      refine o_X6_mark _ _ _ ?_
                      refine ⟨vpi (x := (Int32.toInt a)) rfl (by omega) (by omega), ?_⟩
                      have t63 := i32_hi r16
                      have R64 : CE (upd f_h0_world_crew_cell a.toNatClampNeg r16) := CE.up_0 h_f_h0_world_crew_cell (tnz (x := (Int32.toInt a)) rfl (by omega)) (by omega) (by omega) (w := (Int32.toInt r16)) rfl (by omega) (by omega)
                      have R65 : TE (upd f_h0_world_term 0 ((f_h0_world_term (0 : Int32).toNatClampNeg) + r35)) := TE.up_0 h_f_h0_world_term (rfl : ((0 : Nat) : Int) = 0) (by omega) (by omega) (w := (Int32.toInt ((f_h0_world_term (0 : Int32).toNatClampNeg) + r35))) rfl (by omega) (by omega)
                      exact hq _ _ _ _ _ _ _ _ _ _ _ _ _ _ _ _ _ _ ⟨⟨by omega, by omega⟩, R64, ⟨by omega, by omega⟩, R65, ⟨by omega, by omega⟩, ⟨by omega, by omega⟩, j62⟩
              · refine br0 c30 ?_
                have d66 := c_ne (a := ((h0_world_rock_dug >>> (r16.toInt64 &&& 63)) &&& 1)) (b := 0) (x := (Int64.toInt ((h0_world_rock_dug >>> (r16.toInt64 &&& 63)) &&& 1))) (y := 0) rfl rfl c30
                refine br0 (by decide) ?_
                have k67 : Int32.toInt (-3) = (-3) := (by decide)
                exact hq _ _ _ _ _ _ _ _ _ _ _ _ _ _ _ _ _ _ ⟨(by decide), h_f_h0_world_crew_cell, ⟨by omega, by omega⟩, h_f_h0_world_term, ⟨by omega, by omega⟩, ⟨by omega, by omega⟩, e_4⟩
    · refine br0 c5 ?_
      have d68 := nle_z (a := b) (b := 2) (x := (Int32.toInt b)) (y := 2) rfl rfl c5
      have k69 : Int32.toInt (-1) = (-1) := (by decide)
      exact hq _ _ _ _ _ _ _ _ _ _ _ _ _ _ _ _ _ _ ⟨(by decide), h_f_h0_world_crew_cell, ⟨by omega, by omega⟩, h_f_h0_world_term, ⟨by omega, by omega⟩, ⟨by omega, by omega⟩, e_4⟩


set_option maxRecDepth 100000 in
theorem s_X7_tryHaul_T (a : Int32) (h0_world : Nat) (h0_world_lawCount : Int32) (h0_world_force : Int32) (h0_world_crew_count : Int32) (f_h0_world_crew_cell : Nat → Int32) (f_h0_world_term : Nat → Int32) (f_h0_world_rock_kind : Nat → Int32) (f_h0_world_laws : Nat → Option Nat) (h0_asker_world : Value) (h0_asker_law : Value) (h0_asker_cell : Int32) (h0_asker_shaft : Int32) (h0_asker_kind : Int32) (h0_asker_done : Int32) (h0_asker_latest : Int32) (h0_asker_value : Int32) (t : Nat) (t_clauses : Int32) (t_length : Int32) (n_t_heads : Nat) (f_t_heads : Nat → Int32) (n_t_code : Nat) (f_t_code : Nat → Int32) (f_h0_asker_stack : Nat → Int64) (h0_world_folk_listeners : Int32) (f_h0_world_folk_column : Nat → Int32) (f_h0_world_rock_hard : Nat → Int32) (f_h0_world_rock_water : Nat → Int32) (f_h0_world_crew_buckets : Nat → Int32) (h0_diary_kept : Int32) (h0_diary_latest : Int32) (f_h0_diary_deed : Nat → Int32) (f_h0_diary_whose : Nat → Int32) (f_h0_diary_before : Nat → Int32) (f_h0_diary_bucketsBefore : Nat → Int32) (f_h0_diary_dayBefore : Nat → Int32) (h_h0_world_lawCount : 0 ≤ h0_world_lawCount.toInt ∧ h0_world_lawCount.toInt ≤ 6) (h_h0_world_force : 0 ≤ h0_world_force.toInt ∧ h0_world_force.toInt ≤ 5) (h_h0_world_crew_count : 0 ≤ h0_world_crew_count.toInt ∧ h0_world_crew_count.toInt ≤ 6) (h_f_h0_world_crew_cell : CE f_h0_world_crew_cell) (h_f_h0_world_term : TE f_h0_world_term) (h_f_h0_world_rock_kind : KI f_h0_world_rock_kind) (h_h0_asker_cell : 0 ≤ h0_asker_cell.toInt ∧ h0_asker_cell.toInt ≤ 39) (h_t_clauses : 0 ≤ t_clauses.toInt ∧ t_clauses.toInt ≤ 12) (h_t_length : 0 ≤ t_length.toInt ∧ t_length.toInt ≤ 400) (h_f_t_code : CD f_t_code) (h_h0_world_folk_listeners : 0 ≤ h0_world_folk_listeners.toInt ∧ h0_world_folk_listeners.toInt ≤ 5) (h_f_h0_world_folk_column : CO f_h0_world_folk_column) (h_f_h0_world_rock_hard : HA f_h0_world_rock_hard) (h_f_h0_world_rock_water : WA f_h0_world_rock_water) (h_f_h0_world_crew_buckets : BU f_h0_world_crew_buckets) (h_h0_diary_kept : 0 ≤ h0_diary_kept.toInt ∧ h0_diary_kept.toInt ≤ 16) (h_h0_diary_latest : 0 ≤ h0_diary_latest.toInt ∧ h0_diary_latest.toInt ≤ 15) (e_0 : n_t_heads < 100000) (e_1 : t_length.toInt ≤ (n_t_code : Int)) (e_2 : h0_world_force.toInt < h0_world_lawCount.toInt) (e_3 : f_h0_world_laws (Int32.toNatClampNeg h0_world_force) = some t) (e_4 : DI f_h0_diary_deed f_h0_diary_whose f_h0_diary_before f_h0_diary_bucketsBefore f_h0_diary_dayBefore) {Q : Int32 → ((Nat → Int32) × Value × Value × Int32 × Int32 × Int32 × Int32 × (Nat → Int64) × (Nat → Int32) × (Nat → Int32) × Int32 × Int32 × (Nat → Int32) × (Nat → Int32) × (Nat → Int32) × (Nat → Int32) × (Nat → Int32)) → Prop} (hq : ∀ (r : Int32) (u_0 : Nat → Int32) (u_1 : Value) (u_2 : Value) (u_3 : Int32) (u_4 : Int32) (u_5 : Int32) (u_6 : Int32) (u_7 : Nat → Int64) (u_8 : Nat → Int32) (u_9 : Nat → Int32) (u_10 : Int32) (u_11 : Int32) (u_12 : Nat → Int32) (u_13 : Nat → Int32) (u_14 : Nat → Int32) (u_15 : Nat → Int32) (u_16 : Nat → Int32), ((-3) ≤ r.toInt ∧ r.toInt ≤ 2147483647) ∧ (TE u_0) ∧ (0 ≤ u_3.toInt ∧ u_3.toInt ≤ 39) ∧ (WA u_8) ∧ (BU u_9) ∧ (0 ≤ u_10.toInt ∧ u_10.toInt ≤ 16) ∧ (0 ≤ u_11.toInt ∧ u_11.toInt ≤ 15) ∧ (DI u_12 u_13 u_14 u_15 u_16) → Q r (u_0, u_1, u_2, u_3, u_4, u_5, u_6, u_7, u_8, u_9, u_10, u_11, u_12, u_13, u_14, u_15, u_16)) : wp_X7_tryHaul_T a h0_world h0_world_lawCount h0_world_force h0_world_crew_count f_h0_world_crew_cell f_h0_world_term f_h0_world_rock_kind f_h0_world_laws h0_asker_world h0_asker_law h0_asker_cell h0_asker_shaft h0_asker_kind h0_asker_done h0_asker_latest h0_asker_value t t_clauses t_length n_t_heads f_t_heads n_t_code f_t_code f_h0_asker_stack h0_world_folk_listeners f_h0_world_folk_column f_h0_world_rock_hard f_h0_world_rock_water f_h0_world_crew_buckets h0_diary_kept h0_diary_latest f_h0_diary_deed f_h0_diary_whose f_h0_diary_before f_h0_diary_bucketsBefore f_h0_diary_dayBefore Q := by
  unfold wp_X7_tryHaul_T
  refine o_X11_isWithin _ _ _ ?_
  by_cases c1 : a < 0
  · refine br1 c1 ?_
    have d2 := lt_z (a := a) (b := 0) (x := (Int32.toInt a)) (y := 0) rfl rfl c1
    refine br1 (by decide) ?_
    have k3 : Int32.toInt (-2) = (-2) := (by decide)
    exact hq _ _ _ _ _ _ _ _ _ _ _ _ _ _ _ _ _ _ ⟨(by decide), h_f_h0_world_term, ⟨by omega, by omega⟩, h_f_h0_world_rock_water, h_f_h0_world_crew_buckets, ⟨by omega, by omega⟩, ⟨by omega, by omega⟩, e_4⟩
  · refine br0 c1 ?_
    have d4 := nlt_z (a := a) (b := 0) (x := (Int32.toInt a)) (y := 0) rfl rfl c1
    by_cases c5 : h0_world_crew_count ≤ a
    · refine br1 c5 ?_
      have d6 := le_z (a := h0_world_crew_count) (b := a) (x := (Int32.toInt h0_world_crew_count)) (y := (Int32.toInt a)) rfl rfl c5
      refine br1 (by decide) ?_
      have k7 : Int32.toInt (-2) = (-2) := (by decide)
      exact hq _ _ _ _ _ _ _ _ _ _ _ _ _ _ _ _ _ _ ⟨(by decide), h_f_h0_world_term, ⟨by omega, by omega⟩, h_f_h0_world_rock_water, h_f_h0_world_crew_buckets, ⟨by omega, by omega⟩, ⟨by omega, by omega⟩, e_4⟩
    · refine br0 c5 ?_
      have d8 := nle_z (a := h0_world_crew_count) (b := a) (x := (Int32.toInt h0_world_crew_count)) (y := (Int32.toInt a)) rfl rfl c5
      refine br0 (by decide) ?_
      refine ⟨vpi (x := (Int32.toInt a)) rfl (by omega) (by omega), ?_⟩
      have g9 : 0 ≤ (Int32.toInt (f_h0_world_crew_cell a.toNatClampNeg)) ∧ (Int32.toInt (f_h0_world_crew_cell a.toNatClampNeg)) ≤ 39 := CE.at_0 h_f_h0_world_crew_cell (tnz (x := (Int32.toInt a)) rfl (by omega)) (by omega) (by omega)
      refine ⟨vpi (x := (Int32.toInt (f_h0_world_crew_cell a.toNatClampNeg))) rfl (by omega) (by omega), ?_⟩
      by_cases c10 : (f_h0_world_rock_kind (f_h0_world_crew_cell a.toNatClampNeg).toNatClampNeg) = 3
      · refine br1 c10 ?_
        have g11 : 0 ≤ (Int32.toInt (f_h0_world_rock_kind (f_h0_world_crew_cell a.toNatClampNeg).toNatClampNeg)) ∧ (Int32.toInt (f_h0_world_rock_kind (f_h0_world_crew_cell a.toNatClampNeg).toNatClampNeg)) ≤ 3 := KI.at_0 h_f_h0_world_rock_kind (tnz (x := (Int32.toInt (f_h0_world_crew_cell a.toNatClampNeg))) rfl (by omega)) (by omega) (by omega)
        have d12 := eq_z (a := (f_h0_world_rock_kind (f_h0_world_crew_cell a.toNatClampNeg).toNatClampNeg)) (b := 3) (x := (Int32.toInt (f_h0_world_rock_kind (f_h0_world_crew_cell a.toNatClampNeg).toNatClampNeg))) (y := 3) rfl rfl c10
        by_cases c13 : (f_h0_world_term (0 : Int32).toNatClampNeg) < 9999
        · refine br1 c13 ?_
          have g14 : 0 ≤ (Int32.toInt (f_h0_world_term (0 : Int32).toNatClampNeg)) ∧ (Int32.toInt (f_h0_world_term (0 : Int32).toNatClampNeg)) ≤ 9999 := TE.at_0 h_f_h0_world_term (rfl : ((0 : Nat) : Int) = 0) (by omega) (by omega)
          have d15 := lt_z (a := (f_h0_world_term (0 : Int32).toNatClampNeg)) (b := 9999) (x := (Int32.toInt (f_h0_world_term (0 : Int32).toNatClampNeg))) (y := 9999) rfl rfl c13
          refine o_X10_lawInForce_T _ _ _ _ _ ?_
          refine o_X10_lawOf_T _ _ _ _ _ ?_
          refine br0 (z_nlt (x := (Int32.toInt h0_world_force)) (y := 0) rfl rfl (by omega)) ?_
          by_cases c16 : h0_world_lawCount ≤ h0_world_force
          · refine br1 c16 ?_
            have d17 := le_z (a := h0_world_lawCount) (b := h0_world_force) (x := (Int32.toInt h0_world_lawCount)) (y := (Int32.toInt h0_world_force)) rfl rfl c16
            exfalso
            omega
          · refine br0 c16 ?_
            have d18 := nle_z (a := h0_world_lawCount) (b := h0_world_force) (x := (Int32.toInt h0_world_lawCount)) (y := (Int32.toInt h0_world_force)) rfl rfl c16
            refine br0 (z_nle (x := 6) (y := (Int32.toInt h0_world_force)) rfl rfl (by omega)) ?_
            refine ⟨vpi (x := (Int32.toInt h0_world_force)) rfl (by omega) (by omega), ?_⟩
            refine ⟨by assumption, ?_⟩
            refine o_X0_turnTo_T _ ?_
            refine s_X0_givesOf_Tr a (f_h0_world_crew_cell a.toNatClampNeg) h0_asker_done h0_asker_latest h0_asker_value (f_h0_world_rock_kind) t_clauses t_length n_t_heads (f_t_heads) n_t_code (f_t_code) (f_h0_asker_stack) h0_world_folk_listeners (f_h0_world_folk_column) (f_h0_world_rock_hard) (f_h0_world_rock_water) (f_h0_world_term) h0_world_crew_count (f_h0_world_crew_cell) (f_h0_world_crew_buckets) ⟨by omega, by omega⟩ h_f_h0_world_rock_kind ⟨by omega, by omega⟩ ⟨by omega, by omega⟩ h_f_t_code ⟨by omega, by omega⟩ h_f_h0_world_folk_column h_f_h0_world_rock_hard h_f_h0_world_rock_water h_f_h0_world_term ⟨by omega, by omega⟩ h_f_h0_world_crew_cell h_f_h0_world_crew_buckets (by omega) (by omega) (fun r19 u20_0 u20_1 u20_2 u20_3 u20_4 H21 => ?_)
            have j22 := H21.1
            have j23 := H21.2.1
            have j24 := H21.2.2
            refine un5_i ?_
            refine ⟨vpi (x := (Int32.toInt a)) rfl (by omega) (by omega), ?_⟩
            refine ⟨vpi (x := (Int32.toInt (f_h0_world_crew_cell a.toNatClampNeg))) rfl (by omega) (by omega), ?_⟩
            have k25 : Int32.toInt 1 = 1 := rfl
            have g26 : 0 ≤ (Int32.toInt (f_h0_world_rock_water (f_h0_world_crew_cell a.toNatClampNeg).toNatClampNeg)) ∧ (Int32.toInt (f_h0_world_rock_water (f_h0_world_crew_cell a.toNatClampNeg).toNatClampNeg)) ≤ 99 := WA.at_0 h_f_h0_world_rock_water (tnz (x := (Int32.toInt (f_h0_world_crew_cell a.toNatClampNeg))) rfl (by omega)) (by omega) (by omega)
            have g27 : 0 ≤ (Int32.toInt (f_h0_world_crew_buckets a.toNatClampNeg)) ∧ (Int32.toInt (f_h0_world_crew_buckets a.toNatClampNeg)) ≤ 9999 := BU.at_0 h_f_h0_world_crew_buckets (tnz (x := (Int32.toInt a)) rfl (by omega)) (by omega) (by omega)
            refine s_X2_add 1 a (f_h0_world_rock_water (f_h0_world_crew_cell a.toNatClampNeg).toNatClampNeg) (f_h0_world_crew_buckets a.toNatClampNeg) (f_h0_world_term (0 : Int32).toNatClampNeg) h0_diary_kept h0_diary_latest (f_h0_diary_deed) (f_h0_diary_whose) (f_h0_diary_before) (f_h0_diary_bucketsBefore) (f_h0_diary_dayBefore) ⟨by omega, by omega⟩ ⟨by omega, by omega⟩ e_4 (by unfold DR; omega) (fun u28_0 u28_1 u28_2 u28_3 u28_4 u28_5 u28_6 H29 => ?_)
            have j30 := H29.1
            have j31 := H29.2.1
            have j32 := H29.2.2
            refine un7_i ?_
            refine ⟨vpi (x := (Int32.toInt (f_h0_world_crew_cell a.toNatClampNeg))) rfl (by omega) (by omega), ?_⟩
            refine ⟨vpi (x := (Int32.toInt (f_h0_world_crew_cell a.toNatClampNeg))) rfl (by omega) (by omega), ?_⟩
            refine ⟨vpi (x := (Int32.toInt a)) rfl (by omega) (by omega), ?_⟩
            have t33 := i32_hi r19
            have t34 : (Int32.toInt ((f_h0_world_term (0 : Int32).toNatClampNeg) + 1)) = (Int32.toInt (f_h0_world_term (0 : Int32).toNatClampNeg)) + 1 := add_z rfl rfl (by omega) (by omega)
            have R35 : TE (upd f_h0_world_term 0 ((f_h0_world_term (0 : Int32).toNatClampNeg) + 1)) := TE.up_0 h_f_h0_world_term (rfl : ((0 : Nat) : Int) = 0) (by omega) (by omega) (w := (Int32.toInt ((f_h0_world_term (0 : Int32).toNatClampNeg) + 1))) rfl (by omega) (by omega)
            have t36 : (Int32.toInt ((f_h0_world_rock_water (f_h0_world_crew_cell a.toNatClampNeg).toNatClampNeg) - r19)) = (Int32.toInt (f_h0_world_rock_water (f_h0_world_crew_cell a.toNatClampNeg).toNatClampNeg)) - (Int32.toInt r19) := sub_z rfl rfl (by omega) (by omega)
            have R37 : WA (upd f_h0_world_rock_water (f_h0_world_crew_cell a.toNatClampNeg).toNatClampNeg ((f_h0_world_rock_water (f_h0_world_crew_cell a.toNatClampNeg).toNatClampNeg) - r19)) := WA.up_0 h_f_h0_world_rock_water (tnz (x := (Int32.toInt (f_h0_world_crew_cell a.toNatClampNeg))) rfl (by omega)) (by omega) (by omega) (w := (Int32.toInt ((f_h0_world_rock_water (f_h0_world_crew_cell a.toNatClampNeg).toNatClampNeg) - r19))) rfl (by omega) (by omega)
            have t38 : (Int32.toInt ((f_h0_world_crew_buckets a.toNatClampNeg) + r19)) = (Int32.toInt (f_h0_world_crew_buckets a.toNatClampNeg)) + (Int32.toInt r19) := add_z rfl rfl (by omega) (by omega)
            have t39 := mn_z (a := 9999) (b := ((f_h0_world_crew_buckets a.toNatClampNeg) + r19))
            have k40 : Int32.toInt 9999 = 9999 := rfl
            have R41 : BU (upd f_h0_world_crew_buckets a.toNatClampNeg (if ((f_h0_world_crew_buckets a.toNatClampNeg) + r19) < 9999 then ((f_h0_world_crew_buckets a.toNatClampNeg) + r19) else 9999)) := BU.up_0 h_f_h0_world_crew_buckets (tnz (x := (Int32.toInt a)) rfl (by omega)) (by omega) (by omega) (w := (Int32.toInt (if ((f_h0_world_crew_buckets a.toNatClampNeg) + r19) < 9999 then ((f_h0_world_crew_buckets a.toNatClampNeg) + r19) else 9999))) rfl (by omega) (by omega)
            exact hq _ _ _ _ _ _ _ _ _ _ _ _ _ _ _ _ _ _ ⟨⟨by omega, by omega⟩, R35, ⟨by omega, by omega⟩, R37, R41, ⟨by omega, by omega⟩, ⟨by omega, by omega⟩, j32⟩
        · refine br0 c13 ?_
          have g42 : 0 ≤ (Int32.toInt (f_h0_world_term (0 : Int32).toNatClampNeg)) ∧ (Int32.toInt (f_h0_world_term (0 : Int32).toNatClampNeg)) ≤ 9999 := TE.at_0 h_f_h0_world_term (rfl : ((0 : Nat) : Int) = 0) (by omega) (by omega)
          have d43 := nlt_z (a := (f_h0_world_term (0 : Int32).toNatClampNeg)) (b := 9999) (x := (Int32.toInt (f_h0_world_term (0 : Int32).toNatClampNeg))) (y := 9999) rfl rfl c13
          have k44 : Int32.toInt (-3) = (-3) := (by decide)
          exact hq _ _ _ _ _ _ _ _ _ _ _ _ _ _ _ _ _ _ ⟨(by decide), h_f_h0_world_term, ⟨by omega, by omega⟩, h_f_h0_world_rock_water, h_f_h0_world_crew_buckets, ⟨by omega, by omega⟩, ⟨by omega, by omega⟩, e_4⟩
      · refine br0 c10 ?_
        have g45 : 0 ≤ (Int32.toInt (f_h0_world_rock_kind (f_h0_world_crew_cell a.toNatClampNeg).toNatClampNeg)) ∧ (Int32.toInt (f_h0_world_rock_kind (f_h0_world_crew_cell a.toNatClampNeg).toNatClampNeg)) ≤ 3 := KI.at_0 h_f_h0_world_rock_kind (tnz (x := (Int32.toInt (f_h0_world_crew_cell a.toNatClampNeg))) rfl (by omega)) (by omega) (by omega)
        have d46 := ne_z (a := (f_h0_world_rock_kind (f_h0_world_crew_cell a.toNatClampNeg).toNatClampNeg)) (b := 3) (x := (Int32.toInt (f_h0_world_rock_kind (f_h0_world_crew_cell a.toNatClampNeg).toNatClampNeg))) (y := 3) rfl rfl c10
        have k47 : Int32.toInt (-3) = (-3) := (by decide)
        exact hq _ _ _ _ _ _ _ _ _ _ _ _ _ _ _ _ _ _ ⟨(by decide), h_f_h0_world_term, ⟨by omega, by omega⟩, h_f_h0_world_rock_water, h_f_h0_world_crew_buckets, ⟨by omega, by omega⟩, ⟨by omega, by omega⟩, e_4⟩


set_option maxRecDepth 100000 in
theorem s_X11_dig_N (a : Int32) (b : Int32) (h0_site_world : Nat) (h0_site_world_lawCount : Int32) (h0_site_world_force : Int32) (h0_site_world_crew_count : Int32) (f_h0_site_world_crew_cell : Nat → Int32) (h0_site_world_rock_dug : Int64) (f_h0_site_world_rock_kind : Nat → Int32) (f_h0_site_world_laws : Nat → Option Nat) (h0_asker_world : Value) (h0_asker_law : Value) (h0_asker_cell : Int32) (h0_asker_shaft : Int32) (h0_asker_kind : Int32) (f_h0_site_world_term : Nat → Int32) (f_h0_site_world_rock_hard : Nat → Int32) (h0_site_diary_kept : Int32) (h0_site_diary_latest : Int32) (f_h0_site_diary_deed : Nat → Int32) (f_h0_site_diary_whose : Nat → Int32) (f_h0_site_diary_before : Nat → Int32) (f_h0_site_diary_bucketsBefore : Nat → Int32) (f_h0_site_diary_dayBefore : Nat → Int32) (f_h0_refusals : Nat → Int32) (h_h0_site_world_lawCount : 0 ≤ h0_site_world_lawCount.toInt ∧ h0_site_world_lawCount.toInt ≤ 6) (h_h0_site_world_force : (-1) ≤ h0_site_world_force.toInt ∧ h0_site_world_force.toInt ≤ (-1)) (h_h0_site_world_crew_count : 0 ≤ h0_site_world_crew_count.toInt ∧ h0_site_world_crew_count.toInt ≤ 6) (h_f_h0_site_world_crew_cell : CE f_h0_site_world_crew_cell) (h_f_h0_site_world_rock_kind : KI f_h0_site_world_rock_kind) (h_h0_asker_cell : 0 ≤ h0_asker_cell.toInt ∧ h0_asker_cell.toInt ≤ 39) (h_f_h0_site_world_term : TE f_h0_site_world_term) (h_f_h0_site_world_rock_hard : HA f_h0_site_world_rock_hard) (h_h0_site_diary_kept : 0 ≤ h0_site_diary_kept.toInt ∧ h0_site_diary_kept.toInt ≤ 16) (h_h0_site_diary_latest : 0 ≤ h0_site_diary_latest.toInt ∧ h0_site_diary_latest.toInt ≤ 15) (e_0 : DI f_h0_site_diary_deed f_h0_site_diary_whose f_h0_site_diary_before f_h0_site_diary_bucketsBefore f_h0_site_diary_dayBefore) {Q : Int32 → (Int32 × (Nat → Int32) × Int64 × Value × Value × Int32 × Int32 × Int32 × (Nat → Int32) × Int32 × Int32 × (Nat → Int32) × (Nat → Int32) × (Nat → Int32) × (Nat → Int32) × (Nat → Int32) × (Nat → Int32)) → Prop} (hq : ∀ (r : Int32) (u_0 : Int32) (u_1 : Nat → Int32) (u_2 : Int64) (u_3 : Value) (u_4 : Value) (u_5 : Int32) (u_6 : Int32) (u_7 : Int32) (u_8 : Nat → Int32) (u_9 : Int32) (u_10 : Int32) (u_11 : Nat → Int32) (u_12 : Nat → Int32) (u_13 : Nat → Int32) (u_14 : Nat → Int32) (u_15 : Nat → Int32) (u_16 : Nat → Int32), (CE u_1) ∧ (0 ≤ u_5.toInt ∧ u_5.toInt ≤ 39) ∧ (TE u_8) ∧ (0 ≤ u_9.toInt ∧ u_9.toInt ≤ 16) ∧ (0 ≤ u_10.toInt ∧ u_10.toInt ≤ 15) ∧ (DI u_11 u_12 u_13 u_14 u_15) → Q r (u_0, u_1, u_2, u_3, u_4, u_5, u_6, u_7, u_8, u_9, u_10, u_11, u_12, u_13, u_14, u_15, u_16)) : wp_X11_dig_N a b h0_site_world h0_site_world_lawCount h0_site_world_force h0_site_world_crew_count f_h0_site_world_crew_cell h0_site_world_rock_dug f_h0_site_world_rock_kind f_h0_site_world_laws h0_asker_world h0_asker_law h0_asker_cell h0_asker_shaft h0_asker_kind f_h0_site_world_term f_h0_site_world_rock_hard h0_site_diary_kept h0_site_diary_latest f_h0_site_diary_deed f_h0_site_diary_whose f_h0_site_diary_before f_h0_site_diary_bucketsBefore f_h0_site_diary_dayBefore f_h0_refusals Q := by
  unfold wp_X11_dig_N
  refine s_X7_tryDig_N a b h0_site_world h0_site_world_lawCount h0_site_world_force h0_site_world_crew_count (f_h0_site_world_crew_cell) h0_site_world_rock_dug (f_h0_site_world_rock_kind) (f_h0_site_world_laws) h0_asker_world h0_asker_law h0_asker_cell h0_asker_shaft h0_asker_kind (f_h0_site_world_term) (f_h0_site_world_rock_hard) h0_site_diary_kept h0_site_diary_latest (f_h0_site_diary_deed) (f_h0_site_diary_whose) (f_h0_site_diary_before) (f_h0_site_diary_bucketsBefore) (f_h0_site_diary_dayBefore) ⟨by omega, by omega⟩ ⟨by omega, by omega⟩ ⟨by omega, by omega⟩ h_f_h0_site_world_crew_cell h_f_h0_site_world_rock_kind ⟨by omega, by omega⟩ h_f_h0_site_world_term h_f_h0_site_world_rock_hard ⟨by omega, by omega⟩ ⟨by omega, by omega⟩ e_0 (fun r1 u2_0 u2_1 u2_2 u2_3 u2_4 u2_5 u2_6 u2_7 u2_8 u2_9 u2_10 u2_11 u2_12 u2_13 u2_14 H3 => ?_)
  have j4 := H3.1
  have j5 := H3.2.1
  have j6 := H3.2.2.1
  have j7 := H3.2.2.2.1
  have j8 := H3.2.2.2.2.1
  have j9 := H3.2.2.2.2.2.1
  have j10 := H3.2.2.2.2.2.2
  refine un15_i ?_
  refine o_X11_settle _ _ _ ?_
  refine jn_s ?_
  by_cases c11 : 0 ≤ r1
  · refine br1 c11 ?_
    have d12 := le_z (a := 0) (b := r1) (x := 0) (y := (Int32.toInt r1)) rfl rfl c11
    refine br1 (z_le (x := 0) (y := (Int32.toInt r1)) rfl rfl (by omega)) ?_
    refine un2_i ?_
    have k13 : Int32.toInt 0 = 0 := rfl
    exact hq _ _ _ _ _ _ _ _ _ _ _ _ _ _ _ _ _ _ ⟨j5, ⟨by omega, by omega⟩, j7, ⟨by omega, by omega⟩, ⟨by omega, by omega⟩, j10⟩
  · refine br0 c11 ?_
    have d14 := nle_z (a := 0) (b := r1) (x := 0) (y := (Int32.toInt r1)) rfl rfl c11
    refine br0 (z_nle (x := 0) (y := (Int32.toInt r1)) rfl rfl (by omega)) ?_
    have t15 : (Int32.toInt (-r1)) = - (Int32.toInt r1) := neg_z rfl (by omega) (by omega)
    refine br0 (z_nle (x := 7) (y := (Int32.toInt (-r1))) rfl rfl (by omega)) ?_
    refine ⟨vpi (x := (Int32.toInt (-r1))) rfl (by omega) (by omega), ?_⟩
    refine ⟨vpi (x := (Int32.toInt (-r1))) rfl (by omega) (by omega), ?_⟩
    refine un2_i ?_
    exact hq _ _ _ _ _ _ _ _ _ _ _ _ _ _ _ _ _ _ ⟨j5, ⟨by omega, by omega⟩, j7, ⟨by omega, by omega⟩, ⟨by omega, by omega⟩, j10⟩


set_option maxRecDepth 100000 in
theorem s_X11_haul_N (a : Int32) (h0_site_world : Nat) (h0_site_world_lawCount : Int32) (h0_site_world_force : Int32) (h0_site_world_crew_count : Int32) (f_h0_site_world_crew_cell : Nat → Int32) (f_h0_site_world_term : Nat → Int32) (f_h0_site_world_rock_kind : Nat → Int32) (f_h0_site_world_laws : Nat → Option Nat) (h0_asker_world : Value) (h0_asker_law : Value) (h0_asker_cell : Int32) (h0_asker_shaft : Int32) (h0_asker_kind : Int32) (f_h0_site_world_rock_water : Nat → Int32) (f_h0_site_world_crew_buckets : Nat → Int32) (h0_site_diary_kept : Int32) (h0_site_diary_latest : Int32) (f_h0_site_diary_deed : Nat → Int32) (f_h0_site_diary_whose : Nat → Int32) (f_h0_site_diary_before : Nat → Int32) (f_h0_site_diary_bucketsBefore : Nat → Int32) (f_h0_site_diary_dayBefore : Nat → Int32) (f_h0_refusals : Nat → Int32) (h_h0_site_world_lawCount : 0 ≤ h0_site_world_lawCount.toInt ∧ h0_site_world_lawCount.toInt ≤ 6) (h_h0_site_world_force : (-1) ≤ h0_site_world_force.toInt ∧ h0_site_world_force.toInt ≤ (-1)) (h_h0_site_world_crew_count : 0 ≤ h0_site_world_crew_count.toInt ∧ h0_site_world_crew_count.toInt ≤ 6) (h_f_h0_site_world_crew_cell : CE f_h0_site_world_crew_cell) (h_f_h0_site_world_term : TE f_h0_site_world_term) (h_f_h0_site_world_rock_kind : KI f_h0_site_world_rock_kind) (h_h0_asker_cell : 0 ≤ h0_asker_cell.toInt ∧ h0_asker_cell.toInt ≤ 39) (h_f_h0_site_world_rock_water : WA f_h0_site_world_rock_water) (h_f_h0_site_world_crew_buckets : BU f_h0_site_world_crew_buckets) (h_h0_site_diary_kept : 0 ≤ h0_site_diary_kept.toInt ∧ h0_site_diary_kept.toInt ≤ 16) (h_h0_site_diary_latest : 0 ≤ h0_site_diary_latest.toInt ∧ h0_site_diary_latest.toInt ≤ 15) (e_0 : DI f_h0_site_diary_deed f_h0_site_diary_whose f_h0_site_diary_before f_h0_site_diary_bucketsBefore f_h0_site_diary_dayBefore) {Q : Int32 → (Int32 × (Nat → Int32) × Value × Value × Int32 × Int32 × Int32 × (Nat → Int32) × (Nat → Int32) × Int32 × Int32 × (Nat → Int32) × (Nat → Int32) × (Nat → Int32) × (Nat → Int32) × (Nat → Int32) × (Nat → Int32)) → Prop} (hq : ∀ (r : Int32) (u_0 : Int32) (u_1 : Nat → Int32) (u_2 : Value) (u_3 : Value) (u_4 : Int32) (u_5 : Int32) (u_6 : Int32) (u_7 : Nat → Int32) (u_8 : Nat → Int32) (u_9 : Int32) (u_10 : Int32) (u_11 : Nat → Int32) (u_12 : Nat → Int32) (u_13 : Nat → Int32) (u_14 : Nat → Int32) (u_15 : Nat → Int32) (u_16 : Nat → Int32), (TE u_1) ∧ (0 ≤ u_4.toInt ∧ u_4.toInt ≤ 39) ∧ (WA u_7) ∧ (BU u_8) ∧ (0 ≤ u_9.toInt ∧ u_9.toInt ≤ 16) ∧ (0 ≤ u_10.toInt ∧ u_10.toInt ≤ 15) ∧ (DI u_11 u_12 u_13 u_14 u_15) → Q r (u_0, u_1, u_2, u_3, u_4, u_5, u_6, u_7, u_8, u_9, u_10, u_11, u_12, u_13, u_14, u_15, u_16)) : wp_X11_haul_N a h0_site_world h0_site_world_lawCount h0_site_world_force h0_site_world_crew_count f_h0_site_world_crew_cell f_h0_site_world_term f_h0_site_world_rock_kind f_h0_site_world_laws h0_asker_world h0_asker_law h0_asker_cell h0_asker_shaft h0_asker_kind f_h0_site_world_rock_water f_h0_site_world_crew_buckets h0_site_diary_kept h0_site_diary_latest f_h0_site_diary_deed f_h0_site_diary_whose f_h0_site_diary_before f_h0_site_diary_bucketsBefore f_h0_site_diary_dayBefore f_h0_refusals Q := by
  unfold wp_X11_haul_N
  refine s_X7_tryHaul_N a h0_site_world h0_site_world_lawCount h0_site_world_force h0_site_world_crew_count (f_h0_site_world_crew_cell) (f_h0_site_world_term) (f_h0_site_world_rock_kind) (f_h0_site_world_laws) h0_asker_world h0_asker_law h0_asker_cell h0_asker_shaft h0_asker_kind (f_h0_site_world_rock_water) (f_h0_site_world_crew_buckets) h0_site_diary_kept h0_site_diary_latest (f_h0_site_diary_deed) (f_h0_site_diary_whose) (f_h0_site_diary_before) (f_h0_site_diary_bucketsBefore) (f_h0_site_diary_dayBefore) ⟨by omega, by omega⟩ ⟨by omega, by omega⟩ ⟨by omega, by omega⟩ h_f_h0_site_world_crew_cell h_f_h0_site_world_term h_f_h0_site_world_rock_kind ⟨by omega, by omega⟩ h_f_h0_site_world_rock_water h_f_h0_site_world_crew_buckets ⟨by omega, by omega⟩ ⟨by omega, by omega⟩ e_0 (fun r1 u2_0 u2_1 u2_2 u2_3 u2_4 u2_5 u2_6 u2_7 u2_8 u2_9 u2_10 u2_11 u2_12 u2_13 u2_14 H3 => ?_)
  have j4 := H3.1
  have j5 := H3.2.1
  have j6 := H3.2.2.1
  have j7 := H3.2.2.2.1
  have j8 := H3.2.2.2.2.1
  have j9 := H3.2.2.2.2.2.1
  have j10 := H3.2.2.2.2.2.2.1
  have j11 := H3.2.2.2.2.2.2.2
  refine un15_i ?_
  refine o_X11_settle _ _ _ ?_
  refine jn_s ?_
  by_cases c12 : 0 ≤ r1
  · refine br1 c12 ?_
    have d13 := le_z (a := 0) (b := r1) (x := 0) (y := (Int32.toInt r1)) rfl rfl c12
    refine br1 (z_le (x := 0) (y := (Int32.toInt r1)) rfl rfl (by omega)) ?_
    refine un2_i ?_
    have k14 : Int32.toInt 0 = 0 := rfl
    exact hq _ _ _ _ _ _ _ _ _ _ _ _ _ _ _ _ _ _ ⟨j5, ⟨by omega, by omega⟩, j7, j8, ⟨by omega, by omega⟩, ⟨by omega, by omega⟩, j11⟩
  · refine br0 c12 ?_
    have d15 := nle_z (a := 0) (b := r1) (x := 0) (y := (Int32.toInt r1)) rfl rfl c12
    refine br0 (z_nle (x := 0) (y := (Int32.toInt r1)) rfl rfl (by omega)) ?_
    have t16 : (Int32.toInt (-r1)) = - (Int32.toInt r1) := neg_z rfl (by omega) (by omega)
    refine br0 (z_nle (x := 7) (y := (Int32.toInt (-r1))) rfl rfl (by omega)) ?_
    refine ⟨vpi (x := (Int32.toInt (-r1))) rfl (by omega) (by omega), ?_⟩
    refine ⟨vpi (x := (Int32.toInt (-r1))) rfl (by omega) (by omega), ?_⟩
    refine un2_i ?_
    exact hq _ _ _ _ _ _ _ _ _ _ _ _ _ _ _ _ _ _ ⟨j5, ⟨by omega, by omega⟩, j7, j8, ⟨by omega, by omega⟩, ⟨by omega, by omega⟩, j11⟩


set_option maxRecDepth 100000 in
theorem s_X11_dig_T (a : Int32) (b : Int32) (h0_site_world : Nat) (h0_site_world_lawCount : Int32) (h0_site_world_force : Int32) (h0_site_world_crew_count : Int32) (f_h0_site_world_crew_cell : Nat → Int32) (h0_site_world_rock_dug : Int64) (f_h0_site_world_rock_kind : Nat → Int32) (f_h0_site_world_laws : Nat → Option Nat) (h0_asker_world : Value) (h0_asker_law : Value) (h0_asker_cell : Int32) (h0_asker_shaft : Int32) (h0_asker_kind : Int32) (h0_asker_done : Int32) (h0_asker_latest : Int32) (h0_asker_value : Int32) (f_h0_site_world_term : Nat → Int32) (f_h0_site_world_rock_hard : Nat → Int32) (t : Nat) (t_clauses : Int32) (t_length : Int32) (n_t_heads : Nat) (f_t_heads : Nat → Int32) (n_t_code : Nat) (f_t_code : Nat → Int32) (f_h0_asker_stack : Nat → Int64) (h0_site_world_folk_listeners : Int32) (f_h0_site_world_folk_column : Nat → Int32) (f_h0_site_world_rock_water : Nat → Int32) (f_h0_site_world_crew_buckets : Nat → Int32) (h0_site_diary_kept : Int32) (h0_site_diary_latest : Int32) (f_h0_site_diary_deed : Nat → Int32) (f_h0_site_diary_whose : Nat → Int32) (f_h0_site_diary_before : Nat → Int32) (f_h0_site_diary_bucketsBefore : Nat → Int32) (f_h0_site_diary_dayBefore : Nat → Int32) (f_h0_refusals : Nat → Int32) (h_h0_site_world_lawCount : 0 ≤ h0_site_world_lawCount.toInt ∧ h0_site_world_lawCount.toInt ≤ 6) (h_h0_site_world_force : 0 ≤ h0_site_world_force.toInt ∧ h0_site_world_force.toInt ≤ 5) (h_h0_site_world_crew_count : 0 ≤ h0_site_world_crew_count.toInt ∧ h0_site_world_crew_count.toInt ≤ 6) (h_f_h0_site_world_crew_cell : CE f_h0_site_world_crew_cell) (h_f_h0_site_world_rock_kind : KI f_h0_site_world_rock_kind) (h_h0_asker_cell : 0 ≤ h0_asker_cell.toInt ∧ h0_asker_cell.toInt ≤ 39) (h_f_h0_site_world_term : TE f_h0_site_world_term) (h_f_h0_site_world_rock_hard : HA f_h0_site_world_rock_hard) (h_t_clauses : 0 ≤ t_clauses.toInt ∧ t_clauses.toInt ≤ 12) (h_t_length : 0 ≤ t_length.toInt ∧ t_length.toInt ≤ 400) (h_f_t_code : CD f_t_code) (h_h0_site_world_folk_listeners : 0 ≤ h0_site_world_folk_listeners.toInt ∧ h0_site_world_folk_listeners.toInt ≤ 5) (h_f_h0_site_world_folk_column : CO f_h0_site_world_folk_column) (h_f_h0_site_world_rock_water : WA f_h0_site_world_rock_water) (h_f_h0_site_world_crew_buckets : BU f_h0_site_world_crew_buckets) (h_h0_site_diary_kept : 0 ≤ h0_site_diary_kept.toInt ∧ h0_site_diary_kept.toInt ≤ 16) (h_h0_site_diary_latest : 0 ≤ h0_site_diary_latest.toInt ∧ h0_site_diary_latest.toInt ≤ 15) (e_0 : n_t_heads < 100000) (e_1 : t_length.toInt ≤ (n_t_code : Int)) (e_2 : h0_site_world_force.toInt < h0_site_world_lawCount.toInt) (e_3 : f_h0_site_world_laws (Int32.toNatClampNeg h0_site_world_force) = some t) (e_4 : DI f_h0_site_diary_deed f_h0_site_diary_whose f_h0_site_diary_before f_h0_site_diary_bucketsBefore f_h0_site_diary_dayBefore) {Q : Int32 → (Int32 × (Nat → Int32) × Int64 × Value × Value × Int32 × Int32 × Int32 × Int32 × (Nat → Int32) × (Nat → Int64) × Int32 × Int32 × (Nat → Int32) × (Nat → Int32) × (Nat → Int32) × (Nat → Int32) × (Nat → Int32) × (Nat → Int32)) → Prop} (hq : ∀ (r : Int32) (u_0 : Int32) (u_1 : Nat → Int32) (u_2 : Int64) (u_3 : Value) (u_4 : Value) (u_5 : Int32) (u_6 : Int32) (u_7 : Int32) (u_8 : Int32) (u_9 : Nat → Int32) (u_10 : Nat → Int64) (u_11 : Int32) (u_12 : Int32) (u_13 : Nat → Int32) (u_14 : Nat → Int32) (u_15 : Nat → Int32) (u_16 : Nat → Int32) (u_17 : Nat → Int32) (u_18 : Nat → Int32), (CE u_1) ∧ (0 ≤ u_5.toInt ∧ u_5.toInt ≤ 39) ∧ (TE u_9) ∧ (0 ≤ u_11.toInt ∧ u_11.toInt ≤ 16) ∧ (0 ≤ u_12.toInt ∧ u_12.toInt ≤ 15) ∧ (DI u_13 u_14 u_15 u_16 u_17) → Q r (u_0, u_1, u_2, u_3, u_4, u_5, u_6, u_7, u_8, u_9, u_10, u_11, u_12, u_13, u_14, u_15, u_16, u_17, u_18)) : wp_X11_dig_T a b h0_site_world h0_site_world_lawCount h0_site_world_force h0_site_world_crew_count f_h0_site_world_crew_cell h0_site_world_rock_dug f_h0_site_world_rock_kind f_h0_site_world_laws h0_asker_world h0_asker_law h0_asker_cell h0_asker_shaft h0_asker_kind h0_asker_done h0_asker_latest h0_asker_value f_h0_site_world_term f_h0_site_world_rock_hard t t_clauses t_length n_t_heads f_t_heads n_t_code f_t_code f_h0_asker_stack h0_site_world_folk_listeners f_h0_site_world_folk_column f_h0_site_world_rock_water f_h0_site_world_crew_buckets h0_site_diary_kept h0_site_diary_latest f_h0_site_diary_deed f_h0_site_diary_whose f_h0_site_diary_before f_h0_site_diary_bucketsBefore f_h0_site_diary_dayBefore f_h0_refusals Q := by
  unfold wp_X11_dig_T
  refine s_X7_tryDig_T a b h0_site_world h0_site_world_lawCount h0_site_world_force h0_site_world_crew_count (f_h0_site_world_crew_cell) h0_site_world_rock_dug (f_h0_site_world_rock_kind) (f_h0_site_world_laws) h0_asker_world h0_asker_law h0_asker_cell h0_asker_shaft h0_asker_kind h0_asker_done h0_asker_latest h0_asker_value (f_h0_site_world_term) (f_h0_site_world_rock_hard) t t_clauses t_length n_t_heads (f_t_heads) n_t_code (f_t_code) (f_h0_asker_stack) h0_site_world_folk_listeners (f_h0_site_world_folk_column) (f_h0_site_world_rock_water) (f_h0_site_world_crew_buckets) h0_site_diary_kept h0_site_diary_latest (f_h0_site_diary_deed) (f_h0_site_diary_whose) (f_h0_site_diary_before) (f_h0_site_diary_bucketsBefore) (f_h0_site_diary_dayBefore) ⟨by omega, by omega⟩ ⟨by omega, by omega⟩ ⟨by omega, by omega⟩ h_f_h0_site_world_crew_cell h_f_h0_site_world_rock_kind ⟨by omega, by omega⟩ h_f_h0_site_world_term h_f_h0_site_world_rock_hard ⟨by omega, by omega⟩ ⟨by omega, by omega⟩ h_f_t_code ⟨by omega, by omega⟩ h_f_h0_site_world_folk_column h_f_h0_site_world_rock_water h_f_h0_site_world_crew_buckets ⟨by omega, by omega⟩ ⟨by omega, by omega⟩ (by omega) (by omega) (by omega) (by assumption) e_4 (fun r1 u2_0 u2_1 u2_2 u2_3 u2_4 u2_5 u2_6 u2_7 u2_8 u2_9 u2_10 u2_11 u2_12 u2_13 u2_14 u2_15 u2_16 H3 => ?_)
  have j4 := H3.1
  have j5 := H3.2.1
  have j6 := H3.2.2.1
  have j7 := H3.2.2.2.1
  have j8 := H3.2.2.2.2.1
  have j9 := H3.2.2.2.2.2.1
  have j10 := H3.2.2.2.2.2.2
  refine un17_i ?_
  refine o_X11_settle _ _ _ ?_
  refine jn_s ?_
  by_cases c11 : 0 ≤ r1
  · refine br1 c11 ?_
    have d12 := le_z (a := 0) (b := r1) (x := 0) (y := (Int32.toInt r1)) rfl rfl c11
    refine br1 (z_le (x := 0) (y := (Int32.toInt r1)) rfl rfl (by omega)) ?_
    refine un2_i ?_
    have k13 : Int32.toInt 0 = 0 := rfl
    exact hq _ _ _ _ _ _ _ _ _ _ _ _ _ _ _ _ _ _ _ _ ⟨j5, ⟨by omega, by omega⟩, j7, ⟨by omega, by omega⟩, ⟨by omega, by omega⟩, j10⟩
  · refine br0 c11 ?_
    have d14 := nle_z (a := 0) (b := r1) (x := 0) (y := (Int32.toInt r1)) rfl rfl c11
    refine br0 (z_nle (x := 0) (y := (Int32.toInt r1)) rfl rfl (by omega)) ?_
    have t15 : (Int32.toInt (-r1)) = - (Int32.toInt r1) := neg_z rfl (by omega) (by omega)
    refine br0 (z_nle (x := 7) (y := (Int32.toInt (-r1))) rfl rfl (by omega)) ?_
    refine ⟨vpi (x := (Int32.toInt (-r1))) rfl (by omega) (by omega), ?_⟩
    refine ⟨vpi (x := (Int32.toInt (-r1))) rfl (by omega) (by omega), ?_⟩
    refine un2_i ?_
    exact hq _ _ _ _ _ _ _ _ _ _ _ _ _ _ _ _ _ _ _ _ ⟨j5, ⟨by omega, by omega⟩, j7, ⟨by omega, by omega⟩, ⟨by omega, by omega⟩, j10⟩


set_option maxRecDepth 100000 in
theorem s_X11_haul_T (a : Int32) (h0_site_world : Nat) (h0_site_world_lawCount : Int32) (h0_site_world_force : Int32) (h0_site_world_crew_count : Int32) (f_h0_site_world_crew_cell : Nat → Int32) (f_h0_site_world_term : Nat → Int32) (f_h0_site_world_rock_kind : Nat → Int32) (f_h0_site_world_laws : Nat → Option Nat) (h0_asker_world : Value) (h0_asker_law : Value) (h0_asker_cell : Int32) (h0_asker_shaft : Int32) (h0_asker_kind : Int32) (h0_asker_done : Int32) (h0_asker_latest : Int32) (h0_asker_value : Int32) (t : Nat) (t_clauses : Int32) (t_length : Int32) (n_t_heads : Nat) (f_t_heads : Nat → Int32) (n_t_code : Nat) (f_t_code : Nat → Int32) (f_h0_asker_stack : Nat → Int64) (h0_site_world_folk_listeners : Int32) (f_h0_site_world_folk_column : Nat → Int32) (f_h0_site_world_rock_hard : Nat → Int32) (f_h0_site_world_rock_water : Nat → Int32) (f_h0_site_world_crew_buckets : Nat → Int32) (h0_site_diary_kept : Int32) (h0_site_diary_latest : Int32) (f_h0_site_diary_deed : Nat → Int32) (f_h0_site_diary_whose : Nat → Int32) (f_h0_site_diary_before : Nat → Int32) (f_h0_site_diary_bucketsBefore : Nat → Int32) (f_h0_site_diary_dayBefore : Nat → Int32) (f_h0_refusals : Nat → Int32) (h_h0_site_world_lawCount : 0 ≤ h0_site_world_lawCount.toInt ∧ h0_site_world_lawCount.toInt ≤ 6) (h_h0_site_world_force : 0 ≤ h0_site_world_force.toInt ∧ h0_site_world_force.toInt ≤ 5) (h_h0_site_world_crew_count : 0 ≤ h0_site_world_crew_count.toInt ∧ h0_site_world_crew_count.toInt ≤ 6) (h_f_h0_site_world_crew_cell : CE f_h0_site_world_crew_cell) (h_f_h0_site_world_term : TE f_h0_site_world_term) (h_f_h0_site_world_rock_kind : KI f_h0_site_world_rock_kind) (h_h0_asker_cell : 0 ≤ h0_asker_cell.toInt ∧ h0_asker_cell.toInt ≤ 39) (h_t_clauses : 0 ≤ t_clauses.toInt ∧ t_clauses.toInt ≤ 12) (h_t_length : 0 ≤ t_length.toInt ∧ t_length.toInt ≤ 400) (h_f_t_code : CD f_t_code) (h_h0_site_world_folk_listeners : 0 ≤ h0_site_world_folk_listeners.toInt ∧ h0_site_world_folk_listeners.toInt ≤ 5) (h_f_h0_site_world_folk_column : CO f_h0_site_world_folk_column) (h_f_h0_site_world_rock_hard : HA f_h0_site_world_rock_hard) (h_f_h0_site_world_rock_water : WA f_h0_site_world_rock_water) (h_f_h0_site_world_crew_buckets : BU f_h0_site_world_crew_buckets) (h_h0_site_diary_kept : 0 ≤ h0_site_diary_kept.toInt ∧ h0_site_diary_kept.toInt ≤ 16) (h_h0_site_diary_latest : 0 ≤ h0_site_diary_latest.toInt ∧ h0_site_diary_latest.toInt ≤ 15) (e_0 : n_t_heads < 100000) (e_1 : t_length.toInt ≤ (n_t_code : Int)) (e_2 : h0_site_world_force.toInt < h0_site_world_lawCount.toInt) (e_3 : f_h0_site_world_laws (Int32.toNatClampNeg h0_site_world_force) = some t) (e_4 : DI f_h0_site_diary_deed f_h0_site_diary_whose f_h0_site_diary_before f_h0_site_diary_bucketsBefore f_h0_site_diary_dayBefore) {Q : Int32 → (Int32 × (Nat → Int32) × Value × Value × Int32 × Int32 × Int32 × Int32 × (Nat → Int64) × (Nat → Int32) × (Nat → Int32) × Int32 × Int32 × (Nat → Int32) × (Nat → Int32) × (Nat → Int32) × (Nat → Int32) × (Nat → Int32) × (Nat → Int32)) → Prop} (hq : ∀ (r : Int32) (u_0 : Int32) (u_1 : Nat → Int32) (u_2 : Value) (u_3 : Value) (u_4 : Int32) (u_5 : Int32) (u_6 : Int32) (u_7 : Int32) (u_8 : Nat → Int64) (u_9 : Nat → Int32) (u_10 : Nat → Int32) (u_11 : Int32) (u_12 : Int32) (u_13 : Nat → Int32) (u_14 : Nat → Int32) (u_15 : Nat → Int32) (u_16 : Nat → Int32) (u_17 : Nat → Int32) (u_18 : Nat → Int32), (TE u_1) ∧ (0 ≤ u_4.toInt ∧ u_4.toInt ≤ 39) ∧ (WA u_9) ∧ (BU u_10) ∧ (0 ≤ u_11.toInt ∧ u_11.toInt ≤ 16) ∧ (0 ≤ u_12.toInt ∧ u_12.toInt ≤ 15) ∧ (DI u_13 u_14 u_15 u_16 u_17) → Q r (u_0, u_1, u_2, u_3, u_4, u_5, u_6, u_7, u_8, u_9, u_10, u_11, u_12, u_13, u_14, u_15, u_16, u_17, u_18)) : wp_X11_haul_T a h0_site_world h0_site_world_lawCount h0_site_world_force h0_site_world_crew_count f_h0_site_world_crew_cell f_h0_site_world_term f_h0_site_world_rock_kind f_h0_site_world_laws h0_asker_world h0_asker_law h0_asker_cell h0_asker_shaft h0_asker_kind h0_asker_done h0_asker_latest h0_asker_value t t_clauses t_length n_t_heads f_t_heads n_t_code f_t_code f_h0_asker_stack h0_site_world_folk_listeners f_h0_site_world_folk_column f_h0_site_world_rock_hard f_h0_site_world_rock_water f_h0_site_world_crew_buckets h0_site_diary_kept h0_site_diary_latest f_h0_site_diary_deed f_h0_site_diary_whose f_h0_site_diary_before f_h0_site_diary_bucketsBefore f_h0_site_diary_dayBefore f_h0_refusals Q := by
  unfold wp_X11_haul_T
  refine s_X7_tryHaul_T a h0_site_world h0_site_world_lawCount h0_site_world_force h0_site_world_crew_count (f_h0_site_world_crew_cell) (f_h0_site_world_term) (f_h0_site_world_rock_kind) (f_h0_site_world_laws) h0_asker_world h0_asker_law h0_asker_cell h0_asker_shaft h0_asker_kind h0_asker_done h0_asker_latest h0_asker_value t t_clauses t_length n_t_heads (f_t_heads) n_t_code (f_t_code) (f_h0_asker_stack) h0_site_world_folk_listeners (f_h0_site_world_folk_column) (f_h0_site_world_rock_hard) (f_h0_site_world_rock_water) (f_h0_site_world_crew_buckets) h0_site_diary_kept h0_site_diary_latest (f_h0_site_diary_deed) (f_h0_site_diary_whose) (f_h0_site_diary_before) (f_h0_site_diary_bucketsBefore) (f_h0_site_diary_dayBefore) ⟨by omega, by omega⟩ ⟨by omega, by omega⟩ ⟨by omega, by omega⟩ h_f_h0_site_world_crew_cell h_f_h0_site_world_term h_f_h0_site_world_rock_kind ⟨by omega, by omega⟩ ⟨by omega, by omega⟩ ⟨by omega, by omega⟩ h_f_t_code ⟨by omega, by omega⟩ h_f_h0_site_world_folk_column h_f_h0_site_world_rock_hard h_f_h0_site_world_rock_water h_f_h0_site_world_crew_buckets ⟨by omega, by omega⟩ ⟨by omega, by omega⟩ (by omega) (by omega) (by omega) (by assumption) e_4 (fun r1 u2_0 u2_1 u2_2 u2_3 u2_4 u2_5 u2_6 u2_7 u2_8 u2_9 u2_10 u2_11 u2_12 u2_13 u2_14 u2_15 u2_16 H3 => ?_)
  have j4 := H3.1
  have j5 := H3.2.1
  have j6 := H3.2.2.1
  have j7 := H3.2.2.2.1
  have j8 := H3.2.2.2.2.1
  have j9 := H3.2.2.2.2.2.1
  have j10 := H3.2.2.2.2.2.2.1
  have j11 := H3.2.2.2.2.2.2.2
  refine un17_i ?_
  refine o_X11_settle _ _ _ ?_
  refine jn_s ?_
  by_cases c12 : 0 ≤ r1
  · refine br1 c12 ?_
    have d13 := le_z (a := 0) (b := r1) (x := 0) (y := (Int32.toInt r1)) rfl rfl c12
    refine br1 (z_le (x := 0) (y := (Int32.toInt r1)) rfl rfl (by omega)) ?_
    refine un2_i ?_
    have k14 : Int32.toInt 0 = 0 := rfl
    exact hq _ _ _ _ _ _ _ _ _ _ _ _ _ _ _ _ _ _ _ _ ⟨j5, ⟨by omega, by omega⟩, j7, j8, ⟨by omega, by omega⟩, ⟨by omega, by omega⟩, j11⟩
  · refine br0 c12 ?_
    have d15 := nle_z (a := 0) (b := r1) (x := 0) (y := (Int32.toInt r1)) rfl rfl c12
    refine br0 (z_nle (x := 0) (y := (Int32.toInt r1)) rfl rfl (by omega)) ?_
    have t16 : (Int32.toInt (-r1)) = - (Int32.toInt r1) := neg_z rfl (by omega) (by omega)
    refine br0 (z_nle (x := 7) (y := (Int32.toInt (-r1))) rfl rfl (by omega)) ?_
    refine ⟨vpi (x := (Int32.toInt (-r1))) rfl (by omega) (by omega), ?_⟩
    refine ⟨vpi (x := (Int32.toInt (-r1))) rfl (by omega) (by omega), ?_⟩
    refine un2_i ?_
    exact hq _ _ _ _ _ _ _ _ _ _ _ _ _ _ _ _ _ _ _ _ ⟨j5, ⟨by omega, by omega⟩, j7, j8, ⟨by omega, by omega⟩, ⟨by omega, by omega⟩, j11⟩

