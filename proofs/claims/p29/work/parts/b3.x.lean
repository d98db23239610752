/-! exact answers: the tape's length, what is kept -/
def fdR (x : Int32) : Int32 := if x.toInt + 20 ≤ 400 then x + 20 else -1
def fdL (x : Int32) : Int32 := if x.toInt + 20 ≤ 400 then x + 20 else x
def enR (n x : Int32) : Int32 := if 0 ≤ n.toInt ∧ n.toInt ≤ x.toInt then n else -1
def enL (n x : Int32) : Int32 := if 0 ≤ n.toInt ∧ n.toInt ≤ x.toInt then n else x
def kpI (a : Int32) (f : Nat → Int32) : Nat → Int32 := if 0 ≤ a.toInt ∧ a.toInt ≤ 1 then upd f a.toNatClampNeg 1 else f
def bkR (a : Int32) (f : Nat → Int32) : Int32 := if 0 ≤ a.toInt ∧ a.toInt ≤ 1 then (if f a.toNatClampNeg = 0 then -2 else 0) else -1
theorem fd_p {x r u : Int32} (h : x.toInt + 20 ≤ 400) (h0 : 0 ≤ x.toInt) (hu : u.toInt = x.toInt + 20) (hr : r.toInt = u.toInt) : r = fdR x ∧ u = fdL x := by
  have e : (x + 20).toInt = x.toInt + 20 := add_z (a := x) (b := 20) rfl rfl (by omega) (by omega)
  unfold fdR fdL
  rw [if_pos h, if_pos h]
  exact ⟨Int32.toInt_inj.mp (by omega), Int32.toInt_inj.mp (by omega)⟩
theorem fd_n {x : Int32} (h : ¬ x.toInt + 20 ≤ 400) : (-1 : Int32) = fdR x ∧ x = fdL x := by
  unfold fdR fdL
  rw [if_neg h, if_neg h]
  exact ⟨rfl, rfl⟩
theorem en_p {n x : Int32} (h0 : 0 ≤ n.toInt) (h1 : n.toInt ≤ x.toInt) : n = enR n x ∧ n = enL n x := by
  unfold enR enL
  rw [if_pos ⟨h0, h1⟩, if_pos ⟨h0, h1⟩]
  exact ⟨rfl, rfl⟩
theorem en_n {n x : Int32} (h : n.toInt < 0 ∨ x.toInt < n.toInt) : (-1 : Int32) = enR n x ∧ x = enL n x := by
  unfold enR enL
  rw [if_neg (by omega), if_neg (by omega)]
  exact ⟨rfl, rfl⟩
theorem kp_p {a : Int32} {f : Nat → Int32} (h0 : 0 ≤ a.toInt) (h1 : a.toInt ≤ 1) : upd f a.toNatClampNeg 1 = kpI a f := by unfold kpI; rw [if_pos ⟨h0, h1⟩]
theorem kp_n {a : Int32} {f : Nat → Int32} (h : a.toInt < 0 ∨ 2 ≤ a.toInt) : f = kpI a f := by unfold kpI; rw [if_neg (by omega)]
theorem bk_n {a : Int32} {f : Nat → Int32} (h : a.toInt < 0 ∨ 2 ≤ a.toInt) : (-1 : Int32) = bkR a f := by unfold bkR; rw [if_neg (by omega)]
theorem bk_0 {a : Int32} {f : Nat → Int32} (h0 : 0 ≤ a.toInt) (h1 : a.toInt ≤ 1) (hk : f a.toNatClampNeg = 0) : (-2 : Int32) = bkR a f := by unfold bkR; rw [if_pos ⟨h0, h1⟩, if_pos hk]
theorem bk_1 {a : Int32} {f : Nat → Int32} (h0 : 0 ≤ a.toInt) (h1 : a.toInt ≤ 1) (hk : ¬ f a.toNatClampNeg = 0) : (0 : Int32) = bkR a f := by unfold bkR; rw [if_pos ⟨h0, h1⟩, if_neg hk]
set_option maxRecDepth 100000 in
theorem sl_X5_addFour_3x (a : Int32) (g0 : Int) (zg : g0 ≤ 396) (Qb : Int32 → Int32 → (Nat → Int32) → Prop) (KX : ∀ (x_3_0 : Int32) (x_3_1 : Int32) (x_3_2 : Nat → Int32), ((-8) ≤ x_3_0.toInt ∧ x_3_0.toInt ≤ (-1)) ∧ (0 ≤ x_3_1.toInt ∧ x_3_1.toInt ≤ 400) ∧ (BY x_3_2) ∧ (8 * x_3_1.toInt + x_3_0.toInt = 8 * g0 + 24) → Qb x_3_0 x_3_1 x_3_2) : ∀ (n : Nat) (x_3_0 : Int32) (x_3_1 : Int32) (x_3_2 : Nat → Int32), ((-8) ≤ x_3_0.toInt ∧ x_3_0.toInt ≤ 24) ∧ (0 ≤ x_3_1.toInt ∧ x_3_1.toInt ≤ 400) ∧ (BY x_3_2) ∧ (8 * x_3_1.toInt + x_3_0.toInt = 8 * g0 + 24) → x_3_0.toInt - (-9) < (n : Int) → wl_X5_addFour_3 a Qb n x_3_0 x_3_1 x_3_2 := by
  intro n
  induction n with
  | zero =>
    intro x_3_0 x_3_1 x_3_2 hI hm
    exfalso; have hm : x_3_0.toInt - (-9) < 0 := hm; omega
  | succ n ih =>
    intro x_3_0 x_3_1 x_3_2 hI hm
    have hm : x_3_0.toInt - (-9) < (n : Int) + 1 := by simpa using hm
    have h_x_3_0 := hI.1
    have h_x_3_1 := hI.2.1
    have h_x_3_2 := hI.2.2.1
    have h_rel0 := hI.2.2.2
    unfold wl_X5_addFour_3
    by_cases c1 : x_3_0 < 0
    · refine br1 c1 ?_
      have d2 := lt_z (a := x_3_0) (b := 0) (x := (Int32.toInt x_3_0)) (y := 0) rfl rfl c1
      exact KX _ _ _ ⟨⟨by omega, by omega⟩, ⟨by omega, by omega⟩, h_x_3_2, (by omega)⟩
    · refine br0 c1 ?_
      have d3 := nlt_z (a := x_3_0) (b := 0) (x := (Int32.toInt x_3_0)) (y := 0) rfl rfl c1
      by_cases c4 : 400 ≤ x_3_1
      · refine br1 c4 ?_
        have d5 := le_z (a := 400) (b := x_3_1) (x := 400) (y := (Int32.toInt x_3_1)) rfl rfl c4
        obtain ⟨yg6, hyg6, tyg6⟩ : ∃ y : Int32, (x_3_0 + (-8)) = y ∧ Int32.toInt y = (Int32.toInt x_3_0) + (-8) := ⟨(x_3_0 + (-8)), rfl, add_z rfl (by decide) (by omega) (by omega)⟩
        try rw [hyg6]
        clear hyg6
        exact ih _ _ _ ⟨⟨by omega, by omega⟩, ⟨by omega, by omega⟩, h_x_3_2, (by omega)⟩ (by omega)
      · refine br0 c4 ?_
        have d7 := nle_z (a := 400) (b := x_3_1) (x := 400) (y := (Int32.toInt x_3_1)) rfl rfl c4
        refine ⟨vpi (x := (Int32.toInt x_3_1)) rfl (by omega) (by omega), ?_⟩
        obtain ⟨yg8, hyg8, tyg8⟩ : ∃ y : Int32, (x_3_0 + (-8)) = y ∧ Int32.toInt y = (Int32.toInt x_3_0) + (-8) := ⟨(x_3_0 + (-8)), rfl, add_z rfl (by decide) (by omega) (by omega)⟩
        try rw [hyg8]
        clear hyg8
        have t9 : (Int32.toInt (x_3_1 + 1)) = (Int32.toInt x_3_1) + 1 := add_z rfl rfl (by omega) (by omega)
        have t10 : 0 ≤ (Int32.toInt ((a >>> (x_3_0 &&& 31)) &&& 255)) ∧ (Int32.toInt ((a >>> (x_3_0 &&& 31)) &&& 255)) ≤ 255 := and_z (by decide)
        have R11 : BY (upd x_3_2 x_3_1.toNatClampNeg ((a >>> (x_3_0 &&& 31)) &&& 255)) := BY.up_0 h_x_3_2 (tnz (x := (Int32.toInt x_3_1)) rfl (by omega)) (by omega) (by omega) (w := (Int32.toInt ((a >>> (x_3_0 &&& 31)) &&& 255))) rfl (by omega) (by omega)
        exact ih _ _ _ ⟨⟨by omega, by omega⟩, ⟨by omega, by omega⟩, R11, (by omega)⟩ (by omega)
set_option maxRecDepth 100000 in
theorem s_X5_addFourx (a : Int32) (h0_length : Int32) (bf : Nat → Int32) (h_h0_length : 0 ≤ h0_length.toInt ∧ h0_length.toInt ≤ 396) (h_bf : BY bf) {Q : (Int32 × (Nat → Int32)) → Prop} (hq : ∀ (u_0 : Int32) (u_1 : Nat → Int32), (0 ≤ u_0.toInt ∧ u_0.toInt ≤ 400) ∧ (BY u_1) ∧ (u_0.toInt = h0_length.toInt + 4) → Q (u_0, u_1)) : wp_X5_addFour a h0_length bf Q := by
  unfold wp_X5_addFour
  have k3 : Int32.toInt 24 = 24 := rfl
  refine sl_X5_addFour_3x a h0_length.toInt (by omega) _ (fun x1_0 x1_1 x1_2 X2 => ?_) 1000000000000 24 h0_length (bf) ⟨(by decide), ⟨by omega, by omega⟩, h_bf, (by omega)⟩ (by omega)
  have j4 := X2.1
  have j5 := X2.2.1
  have j6 := X2.2.2.1
  have j7 := X2.2.2.2
  exact hq _ _ ⟨⟨by omega, by omega⟩, j6, (by omega)⟩


set_option maxRecDepth 100000 in
theorem s_X11_feedx (a : Int32) (b : Int32) (d : Int32) (g : Int32) (k : Int32) (h0_reader_length : Int32) (f_h0_reader_bytes : Nat → Int32) (h_h0_reader_length : 0 ≤ h0_reader_length.toInt ∧ h0_reader_length.toInt ≤ 400) (h_f_h0_reader_bytes : BY f_h0_reader_bytes) {Q : Int32 → (Int32 × (Nat → Int32)) → Prop} (hq : ∀ (r : Int32) (u_0 : Int32) (u_1 : Nat → Int32), (0 ≤ u_0.toInt ∧ u_0.toInt ≤ 400) ∧ (BY u_1) ∧ (r = fdR h0_reader_length ∧ u_0 = fdL h0_reader_length) → Q r (u_0, u_1)) : wp_X11_feed a b d g k h0_reader_length f_h0_reader_bytes Q := by
  unfold wp_X11_feed
  by_cases c1 : (h0_reader_length + 20) ≤ 400
  · refine br1 c1 ?_
    have t2 : (Int32.toInt (h0_reader_length + 20)) = (Int32.toInt h0_reader_length) + 20 := add_z rfl rfl (by omega) (by omega)
    have d3 := le_z (a := (h0_reader_length + 20)) (b := 400) (x := (Int32.toInt (h0_reader_length + 20))) (y := 400) rfl rfl c1
    refine s_X5_addFourx a h0_reader_length (f_h0_reader_bytes) ⟨by omega, by omega⟩ h_f_h0_reader_bytes (fun u4_0 u4_1 H5 => ?_)
    have j6 := H5.1
    have j7 := H5.2.1
    have j8 := H5.2.2
    refine un2_i ?_
    refine s_X5_addFourx b u4_0 (u4_1) ⟨by omega, by omega⟩ j7 (fun u9_0 u9_1 H10 => ?_)
    have j11 := H10.1
    have j12 := H10.2.1
    have j13 := H10.2.2
    refine un2_i ?_
    refine s_X5_addFourx d u9_0 (u9_1) ⟨by omega, by omega⟩ j12 (fun u14_0 u14_1 H15 => ?_)
    have j16 := H15.1
    have j17 := H15.2.1
    have j18 := H15.2.2
    refine un2_i ?_
    refine s_X5_addFourx g u14_0 (u14_1) ⟨by omega, by omega⟩ j17 (fun u19_0 u19_1 H20 => ?_)
    have j21 := H20.1
    have j22 := H20.2.1
    have j23 := H20.2.2
    refine un2_i ?_
    refine s_X5_addFourx k u19_0 (u19_1) ⟨by omega, by omega⟩ j22 (fun u24_0 u24_1 H25 => ?_)
    have j26 := H25.1
    have j27 := H25.2.1
    have j28 := H25.2.2
    refine un2_i ?_
    exact hq _ _ _ ⟨⟨by omega, by omega⟩, j27, (by first | exact fd_p (by omega) (by omega) (by omega) (by omega) | exact fd_n (by omega))⟩
  · refine br0 c1 ?_
    have t29 : (Int32.toInt (h0_reader_length + 20)) = (Int32.toInt h0_reader_length) + 20 := add_z rfl rfl (by omega) (by omega)
    have d30 := nle_z (a := (h0_reader_length + 20)) (b := 400) (x := (Int32.toInt (h0_reader_length + 20))) (y := 400) rfl rfl c1
    have k31 : Int32.toInt (-1) = (-1) := (by decide)
    exact hq _ _ _ ⟨⟨by omega, by omega⟩, h_f_h0_reader_bytes, (by first | exact fd_p (by omega) (by omega) (by omega) (by omega) | exact fd_n (by omega))⟩


set_option maxRecDepth 100000 in
theorem s_X11_endx (a : Int32) (h0_reader_length : Int32) (h_h0_reader_length : 0 ≤ h0_reader_length.toInt ∧ h0_reader_length.toInt ≤ 400) {Q : Int32 → Int32 → Prop} (hq : ∀ (r : Int32) (u : Int32), (0 ≤ u.toInt ∧ u.toInt ≤ 400) ∧ (r = enR a h0_reader_length ∧ u = enL a h0_reader_length) → Q r u) : wp_X11_end a h0_reader_length Q := by
  unfold wp_X11_end
  by_cases c1 : a < 0
  · refine br1 c1 ?_
    have d2 := lt_z (a := a) (b := 0) (x := (Int32.toInt a)) (y := 0) rfl rfl c1
    have k3 : Int32.toInt (-1) = (-1) := (by decide)
    exact hq _ _ ⟨⟨by omega, by omega⟩, (by first | exact en_p (by omega) (by omega) | exact en_n (by omega))⟩
  · refine br0 c1 ?_
    have d4 := nlt_z (a := a) (b := 0) (x := (Int32.toInt a)) (y := 0) rfl rfl c1
    by_cases c5 : a ≤ h0_reader_length
    · refine br1 c5 ?_
      have d6 := le_z (a := a) (b := h0_reader_length) (x := (Int32.toInt a)) (y := (Int32.toInt h0_reader_length)) rfl rfl c5
      exact hq _ _ ⟨⟨by omega, by omega⟩, (by first | exact en_p (by omega) (by omega) | exact en_n (by omega))⟩
    · refine br0 c5 ?_
      have d7 := nle_z (a := a) (b := h0_reader_length) (x := (Int32.toInt a)) (y := (Int32.toInt h0_reader_length)) rfl rfl c5
      have k8 : Int32.toInt (-1) = (-1) := (by decide)
      exact hq _ _ ⟨⟨by omega, by omega⟩, (by first | exact en_p (by omega) (by omega) | exact en_n (by omega))⟩


set_option maxRecDepth 100000 in
theorem sl_X11_row_33x (h0_reader_length : Int32) (h0_site_world_rock_dug : Int64) (f_h0_reader_bytes : Nat → Int32) (h_h0_reader_length : 1 ≤ h0_reader_length.toInt ∧ h0_reader_length.toInt ≤ 400) (h_f_h0_reader_bytes : BY f_h0_reader_bytes) (Qb : Int32 → Int32 → (Nat → Int32) → (Nat → Int32) → (Nat → Int32) → Prop) (KX : ∀ (x_33_0 : Int32) (x_33_1 : Int32) (x_33_2 : Nat → Int32) (x_33_3 : Nat → Int32) (x_33_4 : Nat → Int32), (1 ≤ x_33_0.toInt ∧ x_33_0.toInt ≤ 134) ∧ (0 ≤ x_33_1.toInt ∧ x_33_1.toInt ≤ 134) ∧ (KI x_33_2) ∧ (HA x_33_3) ∧ (WA x_33_4) ∧ (x_33_1.toInt ≤ x_33_0.toInt) → Qb x_33_0 x_33_1 x_33_2 x_33_3 x_33_4) : ∀ (n : Nat) (x_33_0 : Int32) (x_33_1 : Int32) (x_33_2 : Nat → Int32) (x_33_3 : Nat → Int32) (x_33_4 : Nat → Int32), (0 ≤ x_33_0.toInt ∧ x_33_0.toInt ≤ 134) ∧ (0 ≤ x_33_1.toInt ∧ x_33_1.toInt ≤ 134) ∧ (KI x_33_2) ∧ (HA x_33_3) ∧ (WA x_33_4) ∧ (x_33_1.toInt ≤ x_33_0.toInt) → 135 - x_33_0.toInt < (n : Int) → wl_X11_row_33 h0_reader_length h0_site_world_rock_dug f_h0_reader_bytes Qb n x_33_0 x_33_1 x_33_2 x_33_3 x_33_4 := by
  intro n
  induction n with
  | zero =>
    intro x_33_0 x_33_1 x_33_2 x_33_3 x_33_4 hI hm
    exfalso; have hm : 135 - x_33_0.toInt < 0 := hm; omega
  | succ n ih =>
    intro x_33_0 x_33_1 x_33_2 x_33_3 x_33_4 hI hm
    have hm : 135 - x_33_0.toInt < (n : Int) + 1 := by simpa using hm
    have h_x_33_0 := hI.1
    have h_x_33_1 := hI.2.1
    have h_x_33_2 := hI.2.2.1
    have h_x_33_3 := hI.2.2.2.1
    have h_x_33_4 := hI.2.2.2.2.1
    have h_rel0 := hI.2.2.2.2.2
    unfold wl_X11_row_33
    by_cases c5 : ((h0_reader_length + 2) / 3) ≤ x_33_0
    · refine br1 c5 ?_
      have t6 : (Int32.toInt (h0_reader_length + 2)) = (Int32.toInt h0_reader_length) + 2 := add_z rfl rfl (by omega) (by omega)
      have t7 : (Int32.toInt ((h0_reader_length + 2) / 3)) = (Int32.toInt (h0_reader_length + 2)) / 3 := div_z rfl rfl (by omega) (by omega)
      have d8 := le_z (a := ((h0_reader_length + 2) / 3)) (b := x_33_0) (x := (Int32.toInt ((h0_reader_length + 2) / 3))) (y := (Int32.toInt x_33_0)) rfl rfl c5
      exact KX _ _ _ _ _ ⟨⟨by omega, by omega⟩, ⟨by omega, by omega⟩, h_x_33_2, h_x_33_3, h_x_33_4, (by omega)⟩
    · refine br0 c5 ?_
      have t9 : (Int32.toInt (h0_reader_length + 2)) = (Int32.toInt h0_reader_length) + 2 := add_z rfl rfl (by omega) (by omega)
      have t10 : (Int32.toInt ((h0_reader_length + 2) / 3)) = (Int32.toInt (h0_reader_length + 2)) / 3 := div_z rfl rfl (by omega) (by omega)
      have d11 := nle_z (a := ((h0_reader_length + 2) / 3)) (b := x_33_0) (x := (Int32.toInt ((h0_reader_length + 2) / 3))) (y := (Int32.toInt x_33_0)) rfl rfl c5
      refine s_X5_tellCell x_33_0 h0_reader_length h0_site_world_rock_dug (f_h0_reader_bytes) (x_33_2) (x_33_3) (x_33_4) ⟨by omega, by omega⟩ h_f_h0_reader_bytes h_x_33_2 h_x_33_3 h_x_33_4 (fun r12 u13_0 u13_1 u13_2 H14 => ?_)
      have j15 := H14.1
      have j16 := H14.2.1
      have j17 := H14.2.2.1
      have j18 := H14.2.2.2
      refine un3_i ?_
      by_cases c19 : r12 = 0
      · refine br1 c19 ?_
        have d20 := eq_z (a := r12) (b := 0) (x := (Int32.toInt r12)) (y := 0) rfl rfl c19
        have t21 : (Int32.toInt (x_33_0 + 1)) = (Int32.toInt x_33_0) + 1 := add_z rfl rfl (by omega) (by omega)
        exact ih _ _ _ _ _ ⟨⟨by omega, by omega⟩, ⟨by omega, by omega⟩, j16, j17, j18, (by omega)⟩ (by omega)
      · refine br0 c19 ?_
        have d22 := ne_z (a := r12) (b := 0) (x := (Int32.toInt r12)) (y := 0) rfl rfl c19
        have t23 : (Int32.toInt (x_33_0 + 1)) = (Int32.toInt x_33_0) + 1 := add_z rfl rfl (by omega) (by omega)
        have t24 : (Int32.toInt (x_33_1 + 1)) = (Int32.toInt x_33_1) + 1 := add_z rfl rfl (by omega) (by omega)
        exact ih _ _ _ _ _ ⟨⟨by omega, by omega⟩, ⟨by omega, by omega⟩, j16, j17, j18, (by omega)⟩ (by omega)
set_option maxRecDepth 100000 in
theorem s_X11_rowx (h0_latestMud : Int32) (h0_reader_length : Int32) (h0_site_world_rock_dug : Int64) (f_h0_reader_bytes : Nat → Int32) (f_h0_site_world_rock_kind : Nat → Int32) (f_h0_site_world_rock_hard : Nat → Int32) (f_h0_site_world_rock_water : Nat → Int32) (h0_site_diary_kept : Int32) (f_h0_refusals : Nat → Int32) (h_h0_reader_length : 0 ≤ h0_reader_length.toInt ∧ h0_reader_length.toInt ≤ 400) (h_f_h0_reader_bytes : BY f_h0_reader_bytes) (h_f_h0_site_world_rock_kind : KI f_h0_site_world_rock_kind) (h_f_h0_site_world_rock_hard : HA f_h0_site_world_rock_hard) (h_f_h0_site_world_rock_water : WA f_h0_site_world_rock_water) (h_h0_site_diary_kept : 0 ≤ h0_site_diary_kept.toInt ∧ h0_site_diary_kept.toInt ≤ 16) {Q : Int32 → (Int32 × Int32 × Int32 × (Nat → Int32) × (Nat → Int32) × (Nat → Int32) × Int32 × (Nat → Int32)) → Prop} (hq : ∀ (r : Int32) (u_0 : Int32) (u_1 : Int32) (u_2 : Int32) (u_3 : Nat → Int32) (u_4 : Nat → Int32) (u_5 : Nat → Int32) (u_6 : Int32) (u_7 : Nat → Int32), (0 ≤ u_2.toInt ∧ u_2.toInt ≤ 400) ∧ (KI u_3) ∧ (HA u_4) ∧ (WA u_5) ∧ (0 ≤ u_6.toInt ∧ u_6.toInt ≤ 16) ∧ (u_2.toInt = 0) → Q r (u_0, u_1, u_2, u_3, u_4, u_5, u_6, u_7)) : wp_X11_row h0_latestMud h0_reader_length h0_site_world_rock_dug f_h0_reader_bytes f_h0_site_world_rock_kind f_h0_site_world_rock_hard f_h0_site_world_rock_water h0_site_diary_kept f_h0_refusals Q := by
  unfold wp_X11_row
  by_cases c1 : h0_reader_length = 0
  · refine br1 c1 ?_
    have d2 := eq_z (a := h0_reader_length) (b := 0) (x := (Int32.toInt h0_reader_length)) (y := 0) rfl rfl c1
    refine o_X11_settle _ _ _ ?_
    refine jn_s ?_
    refine br0 (by decide) ?_
    refine br0 (by decide) ?_
    refine br0 (by decide) ?_
    refine ⟨by unfold vp_in; decide, ?_⟩
    refine ⟨by unfold vp_in; decide, ?_⟩
    refine un2_i ?_
    have k3 : Int32.toInt (-6) = (-6) := (by decide)
    exact hq _ _ _ _ _ _ _ _ _ ⟨⟨by omega, by omega⟩, h_f_h0_site_world_rock_kind, h_f_h0_site_world_rock_hard, h_f_h0_site_world_rock_water, ⟨by omega, by omega⟩, (by omega)⟩
  · refine br0 c1 ?_
    have d4 := ne_z (a := h0_reader_length) (b := 0) (x := (Int32.toInt h0_reader_length)) (y := 0) rfl rfl c1
    have k7 : Int32.toInt 0 = 0 := rfl
    refine sl_X11_row_33x h0_reader_length h0_site_world_rock_dug (f_h0_reader_bytes) ⟨by omega, by omega⟩ h_f_h0_reader_bytes _ (fun x5_0 x5_1 x5_2 x5_3 x5_4 X6 => ?_) 1000000000000 0 0 (f_h0_site_world_rock_kind) (f_h0_site_world_rock_hard) (f_h0_site_world_rock_water) ⟨(by decide), (by decide), h_f_h0_site_world_rock_kind, h_f_h0_site_world_rock_hard, h_f_h0_site_world_rock_water, (by omega)⟩ (by omega)
    have j8 := X6.1
    have j9 := X6.2.1
    have j10 := X6.2.2.1
    have j11 := X6.2.2.2.1
    have j12 := X6.2.2.2.2.1
    have j13 := X6.2.2.2.2.2
    refine o_X2_clear _ ?_
    refine o_X11_settle _ _ _ ?_
    refine jn_s ?_
    refine br1 (z_le (x := 0) (y := (Int32.toInt x5_1)) rfl rfl (by omega)) ?_
    refine br1 (z_le (x := 0) (y := (Int32.toInt x5_1)) rfl rfl (by omega)) ?_
    refine un2_i ?_
    have t14 : (Int32.toInt (h0_reader_length + 2)) = (Int32.toInt h0_reader_length) + 2 := add_z rfl rfl (by omega) (by omega)
    have t15 : (Int32.toInt ((h0_reader_length + 2) / 3)) = (Int32.toInt (h0_reader_length + 2)) / 3 := div_z rfl rfl (by omega) (by omega)
    have t16 : (Int32.toInt (((h0_reader_length + 2) / 3) - x5_1)) = (Int32.toInt ((h0_reader_length + 2) / 3)) - (Int32.toInt x5_1) := sub_z rfl rfl (by omega) (by omega)
    exact hq _ _ _ _ _ _ _ _ _ ⟨(by decide), j10, j11, j12, (by decide), (by omega)⟩


set_option maxRecDepth 100000 in
theorem sl_X5_read_42x (a : Int32) (h0_length : Int32) (h0_faultPlace : Int32) (u_1_0 : Int32) (u_1_1 : Nat → Int32) (h_a : 0 ≤ a.toInt ∧ a.toInt ≤ 1) (h_h0_length : 0 ≤ h0_length.toInt ∧ h0_length.toInt ≤ 400) (h_u_1_0 : 0 ≤ u_1_0.toInt ∧ u_1_0.toInt ≤ 401) (Qb : Int32 → Int32 → Int32 → Int32 → Int32 → (Nat → Int32) → (Nat → Int32) → Int32 → Int32 → Prop) (KX : ∀ (x_42_0 : Int32) (x_42_1 : Int32) (x_42_2 : Int32) (x_42_3 : Int32) (x_42_4 : Int32) (x_42_5 : Nat → Int32) (x_42_6 : Nat → Int32) (x_42_7 : Int32) (x_42_8 : Int32), (0 ≤ x_42_0.toInt ∧ x_42_0.toInt ≤ 12) ∧ (0 ≤ x_42_1.toInt ∧ x_42_1.toInt ≤ 1) ∧ (0 ≤ x_42_2.toInt ∧ x_42_2.toInt ≤ 1) ∧ (0 ≤ x_42_3.toInt ∧ x_42_3.toInt ≤ 12) ∧ (0 ≤ x_42_4.toInt ∧ x_42_4.toInt ≤ 400) ∧ (HD x_42_5) ∧ (CD x_42_6) ∧ (x_42_3.toInt ≤ x_42_0.toInt) → Qb x_42_0 x_42_1 x_42_2 x_42_3 x_42_4 x_42_5 x_42_6 x_42_7 x_42_8) : ∀ (n : Nat) (x_42_0 : Int32) (x_42_1 : Int32) (x_42_2 : Int32) (x_42_3 : Int32) (x_42_4 : Int32) (x_42_5 : Nat → Int32) (x_42_6 : Nat → Int32) (x_42_7 : Int32) (x_42_8 : Int32), (0 ≤ x_42_0.toInt ∧ x_42_0.toInt ≤ 12) ∧ (0 ≤ x_42_1.toInt ∧ x_42_1.toInt ≤ 1) ∧ (0 ≤ x_42_2.toInt ∧ x_42_2.toInt ≤ 1) ∧ (0 ≤ x_42_3.toInt ∧ x_42_3.toInt ≤ 12) ∧ (0 ≤ x_42_4.toInt ∧ x_42_4.toInt ≤ 400) ∧ (HD x_42_5) ∧ (CD x_42_6) ∧ (x_42_3.toInt ≤ x_42_0.toInt) → 13 - x_42_0.toInt < (n : Int) → wl_X5_read_42 a h0_length h0_faultPlace u_1_0 u_1_1 Qb n x_42_0 x_42_1 x_42_2 x_42_3 x_42_4 x_42_5 x_42_6 x_42_7 x_42_8 := by
  intro n
  induction n with
  | zero =>
    intro x_42_0 x_42_1 x_42_2 x_42_3 x_42_4 x_42_5 x_42_6 x_42_7 x_42_8 hI hm
    exfalso; have hm : 13 - x_42_0.toInt < 0 := hm; omega
  | succ n ih =>
    intro x_42_0 x_42_1 x_42_2 x_42_3 x_42_4 x_42_5 x_42_6 x_42_7 x_42_8 hI hm
    have hm : 13 - x_42_0.toInt < (n : Int) + 1 := by simpa using hm
    have h_x_42_0 := hI.1
    have h_x_42_1 := hI.2.1
    have h_x_42_2 := hI.2.2.1
    have h_x_42_3 := hI.2.2.2.1
    have h_x_42_4 := hI.2.2.2.2.1
    have h_x_42_5 := hI.2.2.2.2.2.1
    have h_x_42_6 := hI.2.2.2.2.2.2.1
    have h_rel0 := hI.2.2.2.2.2.2.2
    unfold wl_X5_read_42
    by_cases c4 : 12 ≤ x_42_0
    · refine br1 c4 ?_
      have d5 := le_z (a := 12) (b := x_42_0) (x := 12) (y := (Int32.toInt x_42_0)) rfl rfl c4
      exact KX _ _ _ _ _ _ _ _ _ ⟨⟨by omega, by omega⟩, ⟨by omega, by omega⟩, ⟨by omega, by omega⟩, ⟨by omega, by omega⟩, ⟨by omega, by omega⟩, h_x_42_5, h_x_42_6, (by omega)⟩
    · refine br0 c4 ?_
      have d6 := nle_z (a := 12) (b := x_42_0) (x := 12) (y := (Int32.toInt x_42_0)) rfl rfl c4
      by_cases c7 : x_42_2 = 0
      · refine br1 c7 ?_
        have d8 := eq_z (a := x_42_2) (b := 0) (x := (Int32.toInt x_42_2)) (y := 0) rfl rfl c7
        exact KX _ _ _ _ _ _ _ _ _ ⟨⟨by omega, by omega⟩, ⟨by omega, by omega⟩, ⟨by omega, by omega⟩, ⟨by omega, by omega⟩, ⟨by omega, by omega⟩, h_x_42_5, h_x_42_6, (by omega)⟩
      · refine br0 c7 ?_
        have d9 := ne_z (a := x_42_2) (b := 0) (x := (Int32.toInt x_42_2)) (y := 0) rfl rfl c7
        by_cases c10 : x_42_1 = 0
        · refine br1 c10 ?_
          have d11 := eq_z (a := x_42_1) (b := 0) (x := (Int32.toInt x_42_1)) (y := 0) rfl rfl c10
          refine s_X5_beginHead x_42_3 (x_42_5) ⟨by omega, by omega⟩ h_x_42_5 (fun u12 H13 => ?_)
          have j14 := H13
          refine jn6_i (fun (y15_0 : Int32) (y15_1 : Nat → Int32) (y15_2 : Int32) (y15_3 : Int32) (y15_4 : Int32) (y15_5 : Nat → Int32) => (0 ≤ y15_0.toInt ∧ y15_0.toInt ≤ 1) ∧ (CD y15_1) ∧ (0 ≤ y15_4.toInt ∧ y15_4.toInt ≤ 400) ∧ (HD y15_5)) (fun y15_0 y15_1 y15_2 y15_3 y15_4 y15_5 J16 => ?_) (fun _ HJ16 => ?_)
          · have j17 := J16.1
            have j18 := J16.2.1
            have j19 := J16.2.2.1
            have j20 := J16.2.2.2
            by_cases c21 : y15_0 = 0
            · refine br1 c21 ?_
              have d22 := eq_z (a := y15_0) (b := 0) (x := (Int32.toInt y15_0)) (y := 0) rfl rfl c21
              have t23 : (Int32.toInt (x_42_0 + 1)) = (Int32.toInt x_42_0) + 1 := add_z rfl rfl (by omega) (by omega)
              exact ih _ _ _ _ _ _ _ _ _ ⟨⟨by omega, by omega⟩, ⟨by omega, by omega⟩, ⟨by omega, by omega⟩, ⟨by omega, by omega⟩, ⟨by omega, by omega⟩, j20, j18, (by omega)⟩ (by omega)
            · refine br0 c21 ?_
              have d24 := ne_z (a := y15_0) (b := 0) (x := (Int32.toInt y15_0)) (y := 0) rfl rfl c21
              refine s_X5_tokenNow u_1_0 y15_2 (u_1_1) ⟨by omega, by omega⟩ (fun r25 H26 => ?_)
              refine jn_s ?_
              by_cases c27 : r25 = 31
              · refine br1 c27 ?_
                have d28 := eq_z (a := r25) (b := 31) (x := (Int32.toInt r25)) (y := 31) rfl rfl c27
                refine br0 (by decide) ?_
                have t29 : (Int32.toInt (x_42_0 + 1)) = (Int32.toInt x_42_0) + 1 := add_z rfl rfl (by omega) (by omega)
                have k30 : Int32.toInt 1 = 1 := rfl
                have t31 : (Int32.toInt (x_42_3 + 1)) = (Int32.toInt x_42_3) + 1 := add_z rfl rfl (by omega) (by omega)
                exact ih _ _ _ _ _ _ _ _ _ ⟨⟨by omega, by omega⟩, (by decide), (by decide), ⟨by omega, by omega⟩, ⟨by omega, by omega⟩, j20, j18, (by omega)⟩ (by omega)
              · refine br0 c27 ?_
                have d32 := ne_z (a := r25) (b := 31) (x := (Int32.toInt r25)) (y := 31) rfl rfl c27
                refine br1 (by decide) ?_
                refine s_X5_take 159 u_1_0 y15_2 (u_1_1) ⟨by omega, by omega⟩ (fun r33 u34 H35 => ?_)
                by_cases c36 : r33 = 0
                · refine br1 c36 ?_
                  have d37 := eq_z (a := r33) (b := 0) (x := (Int32.toInt r33)) (y := 0) rfl rfl c36
                  have t38 : (Int32.toInt (x_42_0 + 1)) = (Int32.toInt x_42_0) + 1 := add_z rfl rfl (by omega) (by omega)
                  have k39 : Int32.toInt 0 = 0 := rfl
                  have t40 : (Int32.toInt (x_42_3 + 1)) = (Int32.toInt x_42_3) + 1 := add_z rfl rfl (by omega) (by omega)
                  exact ih _ _ _ _ _ _ _ _ _ ⟨⟨by omega, by omega⟩, (by decide), (by decide), ⟨by omega, by omega⟩, ⟨by omega, by omega⟩, j20, j18, (by omega)⟩ (by omega)
                · refine br0 c36 ?_
                  have d41 := ne_z (a := r33) (b := 0) (x := (Int32.toInt r33)) (y := 0) rfl rfl c36
                  have t42 : (Int32.toInt (x_42_0 + 1)) = (Int32.toInt x_42_0) + 1 := add_z rfl rfl (by omega) (by omega)
                  have k43 : Int32.toInt 0 = 0 := rfl
                  have k44 : Int32.toInt 1 = 1 := rfl
                  have t45 : (Int32.toInt (x_42_3 + 1)) = (Int32.toInt x_42_3) + 1 := add_z rfl rfl (by omega) (by omega)
                  exact ih _ _ _ _ _ _ _ _ _ ⟨⟨by omega, by omega⟩, (by decide), (by decide), ⟨by omega, by omega⟩, ⟨by omega, by omega⟩, j20, j18, (by omega)⟩ (by omega)
          · skip
            by_cases c46 : a = 0
            · refine br1 c46 ?_
              have d47 := eq_z (a := a) (b := 0) (x := (Int32.toInt a)) (y := 0) rfl rfl c46
              refine s_X5_readRule h0_length u_1_0 x_42_7 x_42_8 a h0_faultPlace (u_1_1) x_42_3 x_42_4 (u12) (x_42_6) ⟨by omega, by omega⟩ ⟨by omega, by omega⟩ ⟨by omega, by omega⟩ ⟨by omega, by omega⟩ ⟨by omega, by omega⟩ j14 h_x_42_6 (fun r48 u49_0 u49_1 u49_2 u49_3 u49_4 H50 => ?_)
              have j51 := H50.1
              have j52 := H50.2.1
              have j53 := H50.2.2
              refine un5_i ?_
              by_cases c54 : r48 = 0
              · refine br1 c54 ?_
                have d55 := eq_z (a := r48) (b := 0) (x := (Int32.toInt r48)) (y := 0) rfl rfl c54
                exact HJ16 _ _ _ _ _ _ ⟨(by decide), j53, ⟨by omega, by omega⟩, j52⟩
              · refine br0 c54 ?_
                have d56 := ne_z (a := r48) (b := 0) (x := (Int32.toInt r48)) (y := 0) rfl rfl c54
                refine s_X5_readIf h0_length u_1_0 u49_0 u49_1 a h0_faultPlace (u_1_1) x_42_3 u49_2 (u49_3) (u49_4) ⟨by omega, by omega⟩ ⟨by omega, by omega⟩ ⟨by omega, by omega⟩ ⟨by omega, by omega⟩ ⟨by omega, by omega⟩ j52 j53 (fun r57 u58_0 u58_1 u58_2 u58_3 u58_4 H59 => ?_)
                have j60 := H59.1
                have j61 := H59.2.1
                have j62 := H59.2.2
                refine un5_i ?_
                by_cases c63 : r57 = 0
                · refine br1 c63 ?_
                  have d64 := eq_z (a := r57) (b := 0) (x := (Int32.toInt r57)) (y := 0) rfl rfl c63
                  exact HJ16 _ _ _ _ _ _ ⟨(by decide), j62, ⟨by omega, by omega⟩, j61⟩
                · refine br0 c63 ?_
                  have d65 := ne_z (a := r57) (b := 0) (x := (Int32.toInt r57)) (y := 0) rfl rfl c63
                  exact HJ16 _ _ _ _ _ _ ⟨(by decide), j62, ⟨by omega, by omega⟩, j61⟩
            · refine br0 c46 ?_
              have d66 := ne_z (a := a) (b := 0) (x := (Int32.toInt a)) (y := 0) rfl rfl c46
              refine s_X5_readOrder h0_length u_1_0 x_42_7 x_42_8 a h0_faultPlace (u_1_1) x_42_3 x_42_4 (u12) (x_42_6) ⟨by omega, by omega⟩ ⟨by omega, by omega⟩ ⟨by omega, by omega⟩ ⟨by omega, by omega⟩ ⟨by omega, by omega⟩ j14 h_x_42_6 (fun r67 u68_0 u68_1 u68_2 u68_3 u68_4 H69 => ?_)
              have j70 := H69.1
              have j71 := H69.2.1
              have j72 := H69.2.2
              refine un5_i ?_
              by_cases c73 : r67 = 0
              · refine br1 c73 ?_
                have d74 := eq_z (a := r67) (b := 0) (x := (Int32.toInt r67)) (y := 0) rfl rfl c73
                exact HJ16 _ _ _ _ _ _ ⟨(by decide), j72, ⟨by omega, by omega⟩, j71⟩
              · refine br0 c73 ?_
                have d75 := ne_z (a := r67) (b := 0) (x := (Int32.toInt r67)) (y := 0) rfl rfl c73
                refine s_X5_readIf h0_length u_1_0 u68_0 u68_1 a h0_faultPlace (u_1_1) x_42_3 u68_2 (u68_3) (u68_4) ⟨by omega, by omega⟩ ⟨by omega, by omega⟩ ⟨by omega, by omega⟩ ⟨by omega, by omega⟩ ⟨by omega, by omega⟩ j71 j72 (fun r76 u77_0 u77_1 u77_2 u77_3 u77_4 H78 => ?_)
                have j79 := H78.1
                have j80 := H78.2.1
                have j81 := H78.2.2
                refine un5_i ?_
                by_cases c82 : r76 = 0
                · refine br1 c82 ?_
                  have d83 := eq_z (a := r76) (b := 0) (x := (Int32.toInt r76)) (y := 0) rfl rfl c82
                  exact HJ16 _ _ _ _ _ _ ⟨(by decide), j81, ⟨by omega, by omega⟩, j80⟩
                · refine br0 c82 ?_
                  have d84 := ne_z (a := r76) (b := 0) (x := (Int32.toInt r76)) (y := 0) rfl rfl c82
                  exact HJ16 _ _ _ _ _ _ ⟨(by decide), j81, ⟨by omega, by omega⟩, j80⟩
        · refine br0 c10 ?_
          have d85 := ne_z (a := x_42_1) (b := 0) (x := (Int32.toInt x_42_1)) (y := 0) rfl rfl c10
          exact KX _ _ _ _ _ _ _ _ _ ⟨⟨by omega, by omega⟩, ⟨by omega, by omega⟩, ⟨by omega, by omega⟩, ⟨by omega, by omega⟩, ⟨by omega, by omega⟩, h_x_42_5, h_x_42_6, (by omega)⟩
set_option maxRecDepth 100000 in
theorem s_X5_readx (a : Int32) (h0_length : Int32) (h0_faultPlace : Int32) (f_h0_bytes : Nat → Int32) (f_h0_tokens : Nat → Int32) (f_h0_places : Nat → Int32) (f_h0_draft_heads : Nat → Int32) (f_h0_draft_code : Nat → Int32) (xe : XE) (h_a : 0 ≤ a.toInt ∧ a.toInt ≤ 1) (h_h0_length : 0 ≤ h0_length.toInt ∧ h0_length.toInt ≤ 400) (h_f_h0_bytes : BY f_h0_bytes) (h_f_h0_draft_heads : HD f_h0_draft_heads) (h_f_h0_draft_code : CD f_h0_draft_code) (e_0 : isRf xe.2.2) {Q : Int32 → (Int32 × Int32 × Int32 × Int32 × Int32 × Int32 × (Nat → Int32) × (Nat → Int32) × Int32 × Int32 × (Nat → Int32) × (Nat → Int32)) → Prop} (hq : ∀ (r : Int32) (u_0 : Int32) (u_1 : Int32) (u_2 : Int32) (u_3 : Int32) (u_4 : Int32) (u_5 : Int32) (u_6 : Nat → Int32) (u_7 : Nat → Int32) (u_8 : Int32) (u_9 : Int32) (u_10 : Nat → Int32) (u_11 : Nat → Int32), (0 ≤ r.toInt ∧ r.toInt ≤ 1) ∧ (0 ≤ u_0.toInt ∧ u_0.toInt ≤ 400) ∧ (0 ≤ u_1.toInt ∧ u_1.toInt ≤ 401) ∧ (0 ≤ u_4.toInt ∧ u_4.toInt ≤ 1) ∧ (0 ≤ u_8.toInt ∧ u_8.toInt ≤ 12) ∧ (0 ≤ u_9.toInt ∧ u_9.toInt ≤ 400) ∧ (HD u_10) ∧ (CD u_11) ∧ (u_0.toInt = 0) → Q r (u_0, u_1, u_2, u_3, u_4, u_5, u_6, u_7, u_8, u_9, u_10, u_11)) : wp_X5_read a h0_length h0_faultPlace f_h0_bytes f_h0_tokens f_h0_places f_h0_draft_heads f_h0_draft_code xe Q := by
  unfold wp_X5_read
  refine s_X5_splitIntoTokens h0_length (f_h0_bytes) (f_h0_tokens) (f_h0_places) xe ⟨by omega, by omega⟩ h_f_h0_bytes e_0 (fun u1_0 u1_1 u1_2 H2 => ?_)
  have j3 := H2
  refine un3_i ?_
  refine ⟨z01 (x := (Int32.toInt a)) rfl (by omega) (by omega), ?_⟩
  have k6 : Int32.toInt 0 = 0 := rfl
  have k7 : Int32.toInt 1 = 1 := rfl
  refine sl_X5_read_42x a h0_length h0_faultPlace u1_0 (u1_1) ⟨by omega, by omega⟩ ⟨by omega, by omega⟩ ⟨by omega, by omega⟩ _ (fun x4_0 x4_1 x4_2 x4_3 x4_4 x4_5 x4_6 x4_7 x4_8 X5 => ?_) 1000000000000 0 0 1 0 0 (f_h0_draft_heads) (f_h0_draft_code) 0 0 ⟨(by decide), (by decide), (by decide), (by decide), (by decide), h_f_h0_draft_heads, h_f_h0_draft_code, (by omega)⟩ (by omega)
  have j8 := X5.1
  have j9 := X5.2.1
  have j10 := X5.2.2.1
  have j11 := X5.2.2.2.1
  have j12 := X5.2.2.2.2.1
  have j13 := X5.2.2.2.2.2.1
  have j14 := X5.2.2.2.2.2.2.1
  have j15 := X5.2.2.2.2.2.2.2
  by_cases c16 : x4_1 = 0
  · refine br1 c16 ?_
    have d17 := eq_z (a := x4_1) (b := 0) (x := (Int32.toInt x4_1)) (y := 0) rfl rfl c16
    refine s_X5_placeNow h0_length u1_0 x4_7 (u1_2) ⟨by omega, by omega⟩ ⟨by omega, by omega⟩ (fun r18 H19 => ?_)
    refine ⟨z01 (x := (Int32.toInt x4_1)) rfl (by omega) (by omega), ?_⟩
    exact hq _ _ _ _ _ _ _ _ _ _ _ _ _ ⟨⟨by omega, by omega⟩, (by decide), ⟨by omega, by omega⟩, ⟨by omega, by omega⟩, ⟨by omega, by omega⟩, ⟨by omega, by omega⟩, j13, j14, (by omega)⟩
  · refine br0 c16 ?_
    have d20 := ne_z (a := x4_1) (b := 0) (x := (Int32.toInt x4_1)) (y := 0) rfl rfl c16
    refine ⟨z01 (x := (Int32.toInt x4_1)) rfl (by omega) (by omega), ?_⟩
    have k21 : Int32.toInt (-1) = (-1) := (by decide)
    exact hq _ _ _ _ _ _ _ _ _ _ _ _ _ ⟨⟨by omega, by omega⟩, (by decide), ⟨by omega, by omega⟩, ⟨by omega, by omega⟩, ⟨by omega, by omega⟩, ⟨by omega, by omega⟩, j13, j14, (by omega)⟩


set_option maxRecDepth 100000 in
theorem s_X11_orders_Nx (h0_reader_length : Int32) (h0_reader_faultPlace : Int32) (f_h0_reader_bytes : Nat → Int32) (f_h0_reader_tokens : Nat → Int32) (f_h0_reader_places : Nat → Int32) (f_h0_reader_draft_heads : Nat → Int32) (f_h0_reader_draft_code : Nat → Int32) (h0_paper_world : Nat) (h0_paper_done : Int32) (h0_paper_latest : Int32) (h0_paper_world_lawCount : Int32) (h0_paper_world_force : Int32) (h0_site_world_lawCount : Int32) (h0_site_world_force : Int32) (h0_paper_world_rock_dug : Int64) (h0_site_world_rock_dug : Int64) (f_h0_site_world_rock_kind : Nat → Int32) (f_h0_paper_world_rock_kind : Nat → Int32) (f_h0_site_world_rock_hard : Nat → Int32) (f_h0_paper_world_rock_hard : Nat → Int32) (f_h0_site_world_rock_water : Nat → Int32) (f_h0_paper_world_rock_water : Nat → Int32) (h0_paper_world_crew_count : Int32) (h0_site_world_crew_count : Int32) (f_h0_site_world_crew_cell : Nat → Int32) (f_h0_paper_world_crew_cell : Nat → Int32) (f_h0_site_world_crew_buckets : Nat → Int32) (f_h0_paper_world_crew_buckets : Nat → Int32) (h0_paper_world_folk_listeners : Int32) (h0_paper_world_folk_noises : Int32) (h0_paper_world_folk_hushed : Int32) (h0_paper_world_folk_hearsay : Int32) (h0_paper_world_folk_wells : Int32) (h0_site_world_folk_listeners : Int32) (h0_site_world_folk_noises : Int32) (h0_site_world_folk_hushed : Int32) (h0_site_world_folk_hearsay : Int32) (h0_site_world_folk_wells : Int32) (f_h0_site_world_folk_column : Nat → Int32) (f_h0_paper_world_folk_column : Nat → Int32) (f_h0_site_world_folk_ear : Nat → Int32) (f_h0_paper_world_folk_ear : Nat → Int32) (f_h0_site_world_folk_noiseColumn : Nat → Int32) (f_h0_paper_world_folk_noiseColumn : Nat → Int32) (f_h0_site_world_folk_noiseLoud : Nat → Int32) (f_h0_paper_world_folk_noiseLoud : Nat → Int32) (f_h0_site_world_folk_hearsayColumn : Nat → Int32) (f_h0_paper_world_folk_hearsayColumn : Nat → Int32) (f_h0_site_world_folk_hearsayLoud : Nat → Int32) (f_h0_paper_world_folk_hearsayLoud : Nat → Int32) (f_h0_site_world_folk_sounds : Nat → Int32) (f_h0_paper_world_folk_sounds : Nat → Int32) (f_h0_site_world_folk_wet : Nat → Int32) (f_h0_paper_world_folk_wet : Nat → Int32) (f_h0_paper_world_term : Nat → Int32) (f_h0_site_world_term : Nat → Int32) (f_h0_site_world_laws : Nat → Option Nat) (f_h0_paper_world_laws : Nat → Option Nat) (h0_paper_diary_kept : Int32) (h0_paper_diary_latest : Int32) (h0_site_diary_kept : Int32) (h0_site_diary_latest : Int32) (f_h0_site_diary_deed : Nat → Int32) (f_h0_paper_diary_deed : Nat → Int32) (f_h0_site_diary_whose : Nat → Int32) (f_h0_paper_diary_whose : Nat → Int32) (f_h0_site_diary_before : Nat → Int32) (f_h0_paper_diary_before : Nat → Int32) (f_h0_site_diary_bucketsBefore : Nat → Int32) (f_h0_paper_diary_bucketsBefore : Nat → Int32) (f_h0_site_diary_dayBefore : Nat → Int32) (f_h0_paper_diary_dayBefore : Nat → Int32) (h0_asker_world : Value) (h0_asker_law : Value) (h0_asker_cell : Int32) (h0_asker_shaft : Int32) (h0_asker_kind : Int32) (h0_asker_done : Int32) (h0_asker_latest : Int32) (h0_asker_value : Int32) (f_h0_asker_stack : Nat → Int64) (f_h0_refusals : Nat → Int32) (TT : Nat → Prop) (xe : XE) (h_h0_reader_length : 0 ≤ h0_reader_length.toInt ∧ h0_reader_length.toInt ≤ 400) (h_f_h0_reader_bytes : BY f_h0_reader_bytes) (h_f_h0_reader_draft_heads : HD f_h0_reader_draft_heads) (h_f_h0_reader_draft_code : CD f_h0_reader_draft_code) (h_h0_paper_world_lawCount : 0 ≤ h0_paper_world_lawCount.toInt ∧ h0_paper_world_lawCount.toInt ≤ 6) (h_h0_paper_world_force : (-1) ≤ h0_paper_world_force.toInt ∧ h0_paper_world_force.toInt ≤ 5) (h_h0_site_world_lawCount : 0 ≤ h0_site_world_lawCount.toInt ∧ h0_site_world_lawCount.toInt ≤ 6) (h_h0_site_world_force : (-1) ≤ h0_site_world_force.toInt ∧ h0_site_world_force.toInt ≤ (-1)) (h_f_h0_site_world_rock_kind : KI f_h0_site_world_rock_kind) (h_f_h0_paper_world_rock_kind : KI f_h0_paper_world_rock_kind) (h_f_h0_site_world_rock_hard : HA f_h0_site_world_rock_hard) (h_f_h0_paper_world_rock_hard : HA f_h0_paper_world_rock_hard) (h_f_h0_site_world_rock_water : WA f_h0_site_world_rock_water) (h_f_h0_paper_world_rock_water : WA f_h0_paper_world_rock_water) (h_h0_paper_world_crew_count : 0 ≤ h0_paper_world_crew_count.toInt ∧ h0_paper_world_crew_count.toInt ≤ 6) (h_h0_site_world_crew_count : 0 ≤ h0_site_world_crew_count.toInt ∧ h0_site_world_crew_count.toInt ≤ 6) (h_f_h0_site_world_crew_cell : CE f_h0_site_world_crew_cell) (h_f_h0_paper_world_crew_cell : CE f_h0_paper_world_crew_cell) (h_f_h0_site_world_crew_buckets : BU f_h0_site_world_crew_buckets) (h_f_h0_paper_world_crew_buckets : BU f_h0_paper_world_crew_buckets) (h_h0_paper_world_folk_listeners : 0 ≤ h0_paper_world_folk_listeners.toInt ∧ h0_paper_world_folk_listeners.toInt ≤ 5) (h_h0_paper_world_folk_noises : 0 ≤ h0_paper_world_folk_noises.toInt ∧ h0_paper_world_folk_noises.toInt ≤ 6) (h_h0_paper_world_folk_hearsay : 0 ≤ h0_paper_world_folk_hearsay.toInt ∧ h0_paper_world_folk_hearsay.toInt ≤ 8) (h_h0_paper_world_folk_wells : 0 ≤ h0_paper_world_folk_wells.toInt ∧ h0_paper_world_folk_wells.toInt ≤ 10) (h_h0_site_world_folk_listeners : 0 ≤ h0_site_world_folk_listeners.toInt ∧ h0_site_world_folk_listeners.toInt ≤ 5) (h_h0_site_world_folk_noises : 0 ≤ h0_site_world_folk_noises.toInt ∧ h0_site_world_folk_noises.toInt ≤ 6) (h_h0_site_world_folk_hearsay : 0 ≤ h0_site_world_folk_hearsay.toInt ∧ h0_site_world_folk_hearsay.toInt ≤ 8) (h_h0_site_world_folk_wells : 0 ≤ h0_site_world_folk_wells.toInt ∧ h0_site_world_folk_wells.toInt ≤ 10) (h_f_h0_site_world_folk_column : CO f_h0_site_world_folk_column) (h_f_h0_paper_world_folk_column : CO f_h0_paper_world_folk_column) (h_f_h0_site_world_folk_ear : EA f_h0_site_world_folk_ear) (h_f_h0_paper_world_folk_ear : EA f_h0_paper_world_folk_ear) (h_f_h0_site_world_folk_noiseColumn : NC f_h0_site_world_folk_noiseColumn) (h_f_h0_paper_world_folk_noiseColumn : NC f_h0_paper_world_folk_noiseColumn) (h_f_h0_site_world_folk_noiseLoud : NL f_h0_site_world_folk_noiseLoud) (h_f_h0_paper_world_folk_noiseLoud : NL f_h0_paper_world_folk_noiseLoud) (h_f_h0_site_world_folk_hearsayColumn : HC f_h0_site_world_folk_hearsayColumn) (h_f_h0_paper_world_folk_hearsayColumn : HC f_h0_paper_world_folk_hearsayColumn) (h_f_h0_site_world_folk_hearsayLoud : HL f_h0_site_world_folk_hearsayLoud) (h_f_h0_paper_world_folk_hearsayLoud : HL f_h0_paper_world_folk_hearsayLoud) (h_f_h0_paper_world_term : TE f_h0_paper_world_term) (h_f_h0_site_world_term : TE f_h0_site_world_term) (h_h0_paper_diary_kept : 0 ≤ h0_paper_diary_kept.toInt ∧ h0_paper_diary_kept.toInt ≤ 16) (h_h0_paper_diary_latest : 0 ≤ h0_paper_diary_latest.toInt ∧ h0_paper_diary_latest.toInt ≤ 15) (h_h0_site_diary_kept : 0 ≤ h0_site_diary_kept.toInt ∧ h0_site_diary_kept.toInt ≤ 16) (h_h0_site_diary_latest : 0 ≤ h0_site_diary_latest.toInt ∧ h0_site_diary_latest.toInt ≤ 15) (h_h0_asker_cell : 0 ≤ h0_asker_cell.toInt ∧ h0_asker_cell.toInt ≤ 39) (e_0 : isRf xe.2.2) (e_1 : ∀ k, k < 6 → ∀ v, f_h0_site_world_laws k = some v → TT v) (e_2 : DI f_h0_site_diary_deed f_h0_site_diary_whose f_h0_site_diary_before f_h0_site_diary_bucketsBefore f_h0_site_diary_dayBefore) {Q : Int32 → (Int32 × Int32 × Int32 × Int32 × Int32 × Int32 × Int32 × Int32 × (Nat → Int32) × (Nat → Int32) × Int32 × Int32 × (Nat → Int32) × (Nat → Int32) × Int32 × Int32 × Int32 × Int32 × Int32 × Int32 × Int64 × Int64 × (Nat → Int32) × (Nat → Int32) × (Nat → Int32) × (Nat → Int32) × (Nat → Int32) × (Nat → Int32) × Int32 × Int32 × (Nat → Int32) × (Nat → Int32) × (Nat → Int32) × (Nat → Int32) × Int32 × Int32 × Int32 × Int32 × Int32 × Int32 × Int32 × Int32 × Int32 × Int32 × (Nat → Int32) × (Nat → Int32) × (Nat → Int32) × (Nat → Int32) × (Nat → Int32) × (Nat → Int32) × (Nat → Int32) × (Nat → Int32) × (Nat → Int32) × (Nat → Int32) × (Nat → Int32) × (Nat → Int32) × (Nat → Int32) × (Nat → Int32) × (Nat → Int32) × (Nat → Int32) × (Nat → Int32) × (Nat → Int32) × (Nat → Option Nat) × (Nat → Option Nat) × Int32 × Int32 × Int32 × Int32 × (Nat → Int32) × (Nat → Int32) × (Nat → Int32) × (Nat → Int32) × (Nat → Int32) × (Nat → Int32) × (Nat → Int32) × (Nat → Int32) × (Nat → Int32) × (Nat → Int32) × Value × Value × Int32 × Int32 × Int32 × Int32 × Int32 × Int32 × (Nat → Int64) × (Nat → Int32)) → Prop} (hq : ∀ (r : Int32) (u_0 : Int32) (u_1 : Int32) (u_2 : Int32) (u_3 : Int32) (u_4 : Int32) (u_5 : Int32) (u_6 : Int32) (u_7 : Int32) (u_8 : Nat → Int32) (u_9 : Nat → Int32) (u_10 : Int32) (u_11 : Int32) (u_12 : Nat → Int32) (u_13 : Nat → Int32) (u_14 : Int32) (u_15 : Int32) (u_16 : Int32) (u_17 : Int32) (u_18 : Int32) (u_19 : Int32) (u_20 : Int64) (u_21 : Int64) (u_22 : Nat → Int32) (u_23 : Nat → Int32) (u_24 : Nat → Int32) (u_25 : Nat → Int32) (u_26 : Nat → Int32) (u_27 : Nat → Int32) (u_28 : Int32) (u_29 : Int32) (u_30 : Nat → Int32) (u_31 : Nat → Int32) (u_32 : Nat → Int32) (u_33 : Nat → Int32) (u_34 : Int32) (u_35 : Int32) (u_36 : Int32) (u_37 : Int32) (u_38 : Int32) (u_39 : Int32) (u_40 : Int32) (u_41 : Int32) (u_42 : Int32) (u_43 : Int32) (u_44 : Nat → Int32) (u_45 : Nat → Int32) (u_46 : Nat → Int32) (u_47 : Nat → Int32) (u_48 : Nat → Int32) (u_49 : Nat → Int32) (u_50 : Nat → Int32) (u_51 : Nat → Int32) (u_52 : Nat → Int32) (u_53 : Nat → Int32) (u_54 : Nat → Int32) (u_55 : Nat → Int32) (u_56 : Nat → Int32) (u_57 : Nat → Int32) (u_58 : Nat → Int32) (u_59 : Nat → Int32) (u_60 : Nat → Int32) (u_61 : Nat → Int32) (u_62 : Nat → Option Nat) (u_63 : Nat → Option Nat) (u_64 : Int32) (u_65 : Int32) (u_66 : Int32) (u_67 : Int32) (u_68 : Nat → Int32) (u_69 : Nat → Int32) (u_70 : Nat → Int32) (u_71 : Nat → Int32) (u_72 : Nat → Int32) (u_73 : Nat → Int32) (u_74 : Nat → Int32) (u_75 : Nat → Int32) (u_76 : Nat → Int32) (u_77 : Nat → Int32) (u_78 : Value) (u_79 : Value) (u_80 : Int32) (u_81 : Int32) (u_82 : Int32) (u_83 : Int32) (u_84 : Int32) (u_85 : Int32) (u_86 : Nat → Int64) (u_87 : Nat → Int32), (0 ≤ u_2.toInt ∧ u_2.toInt ≤ 400) ∧ (0 ≤ u_3.toInt ∧ u_3.toInt ≤ 401) ∧ (0 ≤ u_6.toInt ∧ u_6.toInt ≤ 1) ∧ (0 ≤ u_10.toInt ∧ u_10.toInt ≤ 12) ∧ (0 ≤ u_11.toInt ∧ u_11.toInt ≤ 400) ∧ (HD u_12) ∧ (CD u_13) ∧ (0 ≤ u_16.toInt ∧ u_16.toInt ≤ 6) ∧ ((-1) ≤ u_17.toInt ∧ u_17.toInt ≤ 5) ∧ (0 ≤ u_18.toInt ∧ u_18.toInt ≤ 6) ∧ ((-1) ≤ u_19.toInt ∧ u_19.toInt ≤ 5) ∧ (KI u_22) ∧ (KI u_23) ∧ (HA u_24) ∧ (HA u_25) ∧ (WA u_26) ∧ (WA u_27) ∧ (0 ≤ u_28.toInt ∧ u_28.toInt ≤ 6) ∧ (0 ≤ u_29.toInt ∧ u_29.toInt ≤ 6) ∧ (CE u_30) ∧ (CE u_31) ∧ (BU u_32) ∧ (BU u_33) ∧ (0 ≤ u_34.toInt ∧ u_34.toInt ≤ 5) ∧ (0 ≤ u_35.toInt ∧ u_35.toInt ≤ 6) ∧ (0 ≤ u_37.toInt ∧ u_37.toInt ≤ 8) ∧ (0 ≤ u_38.toInt ∧ u_38.toInt ≤ 10) ∧ (0 ≤ u_39.toInt ∧ u_39.toInt ≤ 5) ∧ (0 ≤ u_40.toInt ∧ u_40.toInt ≤ 6) ∧ (0 ≤ u_42.toInt ∧ u_42.toInt ≤ 8) ∧ (0 ≤ u_43.toInt ∧ u_43.toInt ≤ 10) ∧ (CO u_44) ∧ (CO u_45) ∧ (EA u_46) ∧ (EA u_47) ∧ (NC u_48) ∧ (NC u_49) ∧ (NL u_50) ∧ (NL u_51) ∧ (HC u_52) ∧ (HC u_53) ∧ (HL u_54) ∧ (HL u_55) ∧ (TE u_60) ∧ (TE u_61) ∧ (0 ≤ u_64.toInt ∧ u_64.toInt ≤ 16) ∧ (0 ≤ u_65.toInt ∧ u_65.toInt ≤ 15) ∧ (0 ≤ u_66.toInt ∧ u_66.toInt ≤ 16) ∧ (0 ≤ u_67.toInt ∧ u_67.toInt ≤ 15) ∧ (0 ≤ u_80.toInt ∧ u_80.toInt ≤ 39) ∧ (∀ k, k < 6 → u_62 k = f_h0_site_world_laws k) ∧ (u_18 = h0_site_world_lawCount) ∧ (u_19 = h0_site_world_force) ∧ (DI u_68 u_70 u_72 u_74 u_76) ∧ (u_2.toInt = 0) → Q r (u_0, u_1, u_2, u_3, u_4, u_5, u_6, u_7, u_8, u_9, u_10, u_11, u_12, u_13, u_14, u_15, u_16, u_17, u_18, u_19, u_20, u_21, u_22, u_23, u_24, u_25, u_26, u_27, u_28, u_29, u_30, u_31, u_32, u_33, u_34, u_35, u_36, u_37, u_38, u_39, u_40, u_41, u_42, u_43, u_44, u_45, u_46, u_47, u_48, u_49, u_50, u_51, u_52, u_53, u_54, u_55, u_56, u_57, u_58, u_59, u_60, u_61, u_62, u_63, u_64, u_65, u_66, u_67, u_68, u_69, u_70, u_71, u_72, u_73, u_74, u_75, u_76, u_77, u_78, u_79, u_80, u_81, u_82, u_83, u_84, u_85, u_86, u_87)) : wp_X11_orders_N h0_reader_length h0_reader_faultPlace f_h0_reader_bytes f_h0_reader_tokens f_h0_reader_places f_h0_reader_draft_heads f_h0_reader_draft_code h0_paper_world h0_paper_done h0_paper_latest h0_paper_world_lawCount h0_paper_world_force h0_site_world_lawCount h0_site_world_force h0_paper_world_rock_dug h0_site_world_rock_dug f_h0_site_world_rock_kind f_h0_paper_world_rock_kind f_h0_site_world_rock_hard f_h0_paper_world_rock_hard f_h0_site_world_rock_water f_h0_paper_world_rock_water h0_paper_world_crew_count h0_site_world_crew_count f_h0_site_world_crew_cell f_h0_paper_world_crew_cell f_h0_site_world_crew_buckets f_h0_paper_world_crew_buckets h0_paper_world_folk_listeners h0_paper_world_folk_noises h0_paper_world_folk_hushed h0_paper_world_folk_hearsay h0_paper_world_folk_wells h0_site_world_folk_listeners h0_site_world_folk_noises h0_site_world_folk_hushed h0_site_world_folk_hearsay h0_site_world_folk_wells f_h0_site_world_folk_column f_h0_paper_world_folk_column f_h0_site_world_folk_ear f_h0_paper_world_folk_ear f_h0_site_world_folk_noiseColumn f_h0_paper_world_folk_noiseColumn f_h0_site_world_folk_noiseLoud f_h0_paper_world_folk_noiseLoud f_h0_site_world_folk_hearsayColumn f_h0_paper_world_folk_hearsayColumn f_h0_site_world_folk_hearsayLoud f_h0_paper_world_folk_hearsayLoud f_h0_site_world_folk_sounds f_h0_paper_world_folk_sounds f_h0_site_world_folk_wet f_h0_paper_world_folk_wet f_h0_paper_world_term f_h0_site_world_term f_h0_site_world_laws f_h0_paper_world_laws h0_paper_diary_kept h0_paper_diary_latest h0_site_diary_kept h0_site_diary_latest f_h0_site_diary_deed f_h0_paper_diary_deed f_h0_site_diary_whose f_h0_paper_diary_whose f_h0_site_diary_before f_h0_paper_diary_before f_h0_site_diary_bucketsBefore f_h0_paper_diary_bucketsBefore f_h0_site_diary_dayBefore f_h0_paper_diary_dayBefore h0_asker_world h0_asker_law h0_asker_cell h0_asker_shaft h0_asker_kind h0_asker_done h0_asker_latest h0_asker_value f_h0_asker_stack f_h0_refusals TT xe Q := by
  unfold wp_X11_orders_N
  refine s_X5_readx 1 h0_reader_length h0_reader_faultPlace (f_h0_reader_bytes) (f_h0_reader_tokens) (f_h0_reader_places) (f_h0_reader_draft_heads) (f_h0_reader_draft_code) xe (by decide) ⟨by omega, by omega⟩ h_f_h0_reader_bytes h_f_h0_reader_draft_heads h_f_h0_reader_draft_code e_0 (fun r1 u2_0 u2_1 u2_2 u2_3 u2_4 u2_5 u2_6 u2_7 u2_8 u2_9 u2_10 u2_11 H3 => ?_)
  have j4 := H3.1
  have j5 := H3.2.1
  have j6 := H3.2.2.1
  have j7 := H3.2.2.2.1
  have j8 := H3.2.2.2.2.1
  have j9 := H3.2.2.2.2.2.1
  have j10 := H3.2.2.2.2.2.2.1
  have j11 := H3.2.2.2.2.2.2.2.1
  have j12 := H3.2.2.2.2.2.2.2.2
  refine un12_i ?_
  by_cases c13 : r1 = 0
  · refine br1 c13 ?_
    have d14 := eq_z (a := r1) (b := 0) (x := (Int32.toInt r1)) (y := 0) rfl rfl c13
    refine o_X11_settle _ _ _ ?_
    refine jn_s ?_
    refine br0 (by decide) ?_
    refine br0 (by decide) ?_
    refine br0 (by decide) ?_
    refine ⟨by unfold vp_in; decide, ?_⟩
    refine ⟨by unfold vp_in; decide, ?_⟩
    refine un2_i ?_
    have k15 : Int32.toInt (-6) = (-6) := (by decide)
    have k16 : Int32.toInt (-1) = (-1) := (by decide)
    exact hq _ _ _ _ _ _ _ _ _ _ _ _ _ _ _ _ _ _ _ _ _ _ _ _ _ _ _ _ _ _ _ _ _ _ _ _ _ _ _ _ _ _ _ _ _ _ _ _ _ _ _ _ _ _ _ _ _ _ _ _ _ _ _ _ _ _ _ _ _ _ _ _ _ _ _ _ _ _ _ _ _ _ _ _ _ _ _ _ _ ⟨⟨by omega, by omega⟩, ⟨by omega, by omega⟩, ⟨by omega, by omega⟩, ⟨by omega, by omega⟩, ⟨by omega, by omega⟩, j10, j11, ⟨by omega, by omega⟩, ⟨by omega, by omega⟩, ⟨by omega, by omega⟩, ⟨by omega, by omega⟩, h_f_h0_site_world_rock_kind, h_f_h0_paper_world_rock_kind, h_f_h0_site_world_rock_hard, h_f_h0_paper_world_rock_hard, h_f_h0_site_world_rock_water, h_f_h0_paper_world_rock_water, ⟨by omega, by omega⟩, ⟨by omega, by omega⟩, h_f_h0_site_world_crew_cell, h_f_h0_paper_world_crew_cell, h_f_h0_site_world_crew_buckets, h_f_h0_paper_world_crew_buckets, ⟨by omega, by omega⟩, ⟨by omega, by omega⟩, ⟨by omega, by omega⟩, ⟨by omega, by omega⟩, ⟨by omega, by omega⟩, ⟨by omega, by omega⟩, ⟨by omega, by omega⟩, ⟨by omega, by omega⟩, h_f_h0_site_world_folk_column, h_f_h0_paper_world_folk_column, h_f_h0_site_world_folk_ear, h_f_h0_paper_world_folk_ear, h_f_h0_site_world_folk_noiseColumn, h_f_h0_paper_world_folk_noiseColumn, h_f_h0_site_world_folk_noiseLoud, h_f_h0_paper_world_folk_noiseLoud, h_f_h0_site_world_folk_hearsayColumn, h_f_h0_paper_world_folk_hearsayColumn, h_f_h0_site_world_folk_hearsayLoud, h_f_h0_paper_world_folk_hearsayLoud, h_f_h0_paper_world_term, h_f_h0_site_world_term, ⟨by omega, by omega⟩, ⟨by omega, by omega⟩, ⟨by omega, by omega⟩, ⟨by omega, by omega⟩, ⟨by omega, by omega⟩, (fun k hk => rfl), rfl, rfl, e_2, (by omega)⟩
  · refine br0 c13 ?_
    have d17 := ne_z (a := r1) (b := 0) (x := (Int32.toInt r1)) (y := 0) rfl rfl c13
    refine s_X7_copyFrom h0_site_world_lawCount h0_site_world_force h0_site_world_rock_dug (f_h0_site_world_rock_kind) (f_h0_paper_world_rock_kind) (f_h0_site_world_rock_hard) (f_h0_paper_world_rock_hard) (f_h0_site_world_rock_water) (f_h0_paper_world_rock_water) h0_site_world_crew_count (f_h0_site_world_crew_cell) (f_h0_paper_world_crew_cell) (f_h0_site_world_crew_buckets) (f_h0_paper_world_crew_buckets) h0_site_world_folk_listeners h0_site_world_folk_noises h0_site_world_folk_hushed h0_site_world_folk_hearsay h0_site_world_folk_wells (f_h0_site_world_folk_column) (f_h0_paper_world_folk_column) (f_h0_site_world_folk_ear) (f_h0_paper_world_folk_ear) (f_h0_site_world_folk_noiseColumn) (f_h0_paper_world_folk_noiseColumn) (f_h0_site_world_folk_noiseLoud) (f_h0_paper_world_folk_noiseLoud) (f_h0_site_world_folk_hearsayColumn) (f_h0_paper_world_folk_hearsayColumn) (f_h0_site_world_folk_hearsayLoud) (f_h0_paper_world_folk_hearsayLoud) (f_h0_site_world_folk_sounds) (f_h0_paper_world_folk_sounds) (f_h0_site_world_folk_wet) (f_h0_paper_world_folk_wet) (f_h0_paper_world_term) (f_h0_site_world_term) (f_h0_site_world_laws) (f_h0_paper_world_laws) h0_site_diary_kept h0_site_diary_latest (f_h0_site_diary_deed) (f_h0_paper_diary_deed) (f_h0_site_diary_whose) (f_h0_paper_diary_whose) (f_h0_site_diary_before) (f_h0_paper_diary_before) (f_h0_site_diary_bucketsBefore) (f_h0_paper_diary_bucketsBefore) (f_h0_site_diary_dayBefore) (f_h0_paper_diary_dayBefore) TT ⟨by omega, by omega⟩ ⟨by omega, by omega⟩ h_f_h0_site_world_rock_kind h_f_h0_paper_world_rock_kind h_f_h0_site_world_rock_hard h_f_h0_paper_world_rock_hard h_f_h0_site_world_rock_water h_f_h0_paper_world_rock_water ⟨by omega, by omega⟩ h_f_h0_site_world_crew_cell h_f_h0_paper_world_crew_cell h_f_h0_site_world_crew_buckets h_f_h0_paper_world_crew_buckets ⟨by omega, by omega⟩ ⟨by omega, by omega⟩ ⟨by omega, by omega⟩ ⟨by omega, by omega⟩ h_f_h0_site_world_folk_column h_f_h0_paper_world_folk_column h_f_h0_site_world_folk_ear h_f_h0_paper_world_folk_ear h_f_h0_site_world_folk_noiseColumn h_f_h0_paper_world_folk_noiseColumn h_f_h0_site_world_folk_noiseLoud h_f_h0_paper_world_folk_noiseLoud h_f_h0_site_world_folk_hearsayColumn h_f_h0_paper_world_folk_hearsayColumn h_f_h0_site_world_folk_hearsayLoud h_f_h0_paper_world_folk_hearsayLoud h_f_h0_paper_world_term h_f_h0_site_world_term ⟨by omega, by omega⟩ ⟨by omega, by omega⟩ e_1 e_2 (fun u18_0 u18_1 u18_2 u18_3 u18_4 u18_5 u18_6 u18_7 u18_8 u18_9 u18_10 u18_11 u18_12 u18_13 u18_14 u18_15 u18_16 u18_17 u18_18 u18_19 u18_20 u18_21 u18_22 u18_23 u18_24 u18_25 u18_26 u18_27 u18_28 u18_29 u18_30 H19 => ?_)
    have j20 := H19.1
    have j21 := H19.2.1
    have j22 := H19.2.2.1
    have j23 := H19.2.2.2.1
    have j24 := H19.2.2.2.2.1
    have j25 := H19.2.2.2.2.2.1
    have j26 := H19.2.2.2.2.2.2.1
    have j27 := H19.2.2.2.2.2.2.2.1
    have j28 := H19.2.2.2.2.2.2.2.2.1
    have j29 := H19.2.2.2.2.2.2.2.2.2.1
    have j30 := H19.2.2.2.2.2.2.2.2.2.2.1
    have j31 := H19.2.2.2.2.2.2.2.2.2.2.2.1
    have j32 := H19.2.2.2.2.2.2.2.2.2.2.2.2.1
    have j33 := H19.2.2.2.2.2.2.2.2.2.2.2.2.2.1
    have j34 := H19.2.2.2.2.2.2.2.2.2.2.2.2.2.2.1
    have j35 := H19.2.2.2.2.2.2.2.2.2.2.2.2.2.2.2.1
    have j36 := H19.2.2.2.2.2.2.2.2.2.2.2.2.2.2.2.2.1
    have j37 := H19.2.2.2.2.2.2.2.2.2.2.2.2.2.2.2.2.2.1
    have j38 := H19.2.2.2.2.2.2.2.2.2.2.2.2.2.2.2.2.2.2.1
    have j39 := H19.2.2.2.2.2.2.2.2.2.2.2.2.2.2.2.2.2.2.2.1
    have j40 := H19.2.2.2.2.2.2.2.2.2.2.2.2.2.2.2.2.2.2.2.2.1
    have j41 := H19.2.2.2.2.2.2.2.2.2.2.2.2.2.2.2.2.2.2.2.2.2.1
    have j42 := H19.2.2.2.2.2.2.2.2.2.2.2.2.2.2.2.2.2.2.2.2.2.2.1
    have j43 := H19.2.2.2.2.2.2.2.2.2.2.2.2.2.2.2.2.2.2.2.2.2.2.2.1
    have j44 := H19.2.2.2.2.2.2.2.2.2.2.2.2.2.2.2.2.2.2.2.2.2.2.2.2
    refine un31_i ?_
    have zu18_1 : (u18_1).toInt = (h0_site_world_force).toInt := congrArg Int32.toInt j43
    have zu18_0 : (u18_0).toInt = (h0_site_world_lawCount).toInt := congrArg Int32.toInt j42
    have lw45 := fun k hk v (hv : u18_23 k = some v) => e_1 k hk v ((j41 k hk).symm.trans hv)
    refine s_X7_runOrders_N h0_paper_world u2_8 u2_9 60 (u2_10) h0_asker_world h0_asker_law h0_asker_cell h0_asker_shaft h0_asker_kind h0_asker_done h0_asker_latest h0_asker_value 400 (u2_11) (f_h0_asker_stack) u18_0 u18_1 u18_9 u18_10 u18_11 (u18_14) u18_2 (u18_4) (u18_5) (u18_22) u18_6 (u18_7) (u18_8) (u18_3) (u18_23) u18_24 u18_25 (u18_26) (u18_27) (u18_28) (u18_29) (u18_30) (u18_16) (u18_17) ⟨by omega, by omega⟩ ⟨by omega, by omega⟩ j10 ⟨by omega, by omega⟩ j11 ⟨by omega, by omega⟩ ⟨by omega, by omega⟩ ⟨by omega, by omega⟩ ⟨by omega, by omega⟩ j32 j23 j24 j38 ⟨by omega, by omega⟩ j26 j27 j22 ⟨by omega, by omega⟩ ⟨by omega, by omega⟩ j34 j35 (by omega) (by omega) j44 (fun r46 u47_0 u47_1 u47_2 u47_3 u47_4 u47_5 u47_6 u47_7 u47_8 u47_9 u47_10 u47_11 u47_12 u47_13 u47_14 u47_15 u47_16 u47_17 u47_18 u47_19 u47_20 u47_21 u47_22 u47_23 u47_24 H48 => ?_)
    have j49 := H48.1
    have j50 := H48.2.1
    have j51 := H48.2.2.1
    have j52 := H48.2.2.2.1
    have j53 := H48.2.2.2.2.1
    have j54 := H48.2.2.2.2.2.1
    have j55 := H48.2.2.2.2.2.2.1
    have j56 := H48.2.2.2.2.2.2.2.1
    have j57 := H48.2.2.2.2.2.2.2.2.1
    have j58 := H48.2.2.2.2.2.2.2.2.2
    refine un25_i ?_
    by_cases c59 : r46 = (-1)
    · refine br1 c59 ?_
      have d60 := eq_z (a := r46) (b := (-1)) (x := (Int32.toInt r46)) (y := (-1)) rfl (by decide) c59
      refine s_X7_copyFrom u18_0 u18_1 u47_13 (u18_3) (f_h0_site_world_rock_kind) (u18_4) (f_h0_site_world_rock_hard) (u47_14) (f_h0_site_world_rock_water) u18_6 (u47_16) (f_h0_site_world_crew_cell) (u47_17) (f_h0_site_world_crew_buckets) u18_9 u18_10 u47_11 u18_12 u18_13 (u47_12) (f_h0_site_world_folk_column) (u18_15) (f_h0_site_world_folk_ear) (u18_16) (f_h0_site_world_folk_noiseColumn) (u18_17) (f_h0_site_world_folk_noiseLoud) (u18_18) (f_h0_site_world_folk_hearsayColumn) (u18_19) (f_h0_site_world_folk_hearsayLoud) (u18_20) (f_h0_site_world_folk_sounds) (u18_21) (f_h0_site_world_folk_wet) (f_h0_site_world_term) (u47_15) (u18_23) (f_h0_site_world_laws) u47_18 u47_19 (u47_20) (f_h0_site_diary_deed) (u47_21) (f_h0_site_diary_whose) (u47_22) (f_h0_site_diary_before) (u47_23) (f_h0_site_diary_bucketsBefore) (u47_24) (f_h0_site_diary_dayBefore) TT ⟨by omega, by omega⟩ ⟨by omega, by omega⟩ j22 h_f_h0_site_world_rock_kind j23 h_f_h0_site_world_rock_hard j52 h_f_h0_site_world_rock_water ⟨by omega, by omega⟩ j54 h_f_h0_site_world_crew_cell j55 h_f_h0_site_world_crew_buckets ⟨by omega, by omega⟩ ⟨by omega, by omega⟩ ⟨by omega, by omega⟩ ⟨by omega, by omega⟩ j51 h_f_h0_site_world_folk_column j33 h_f_h0_site_world_folk_ear j34 h_f_h0_site_world_folk_noiseColumn j35 h_f_h0_site_world_folk_noiseLoud j36 h_f_h0_site_world_folk_hearsayColumn j37 h_f_h0_site_world_folk_hearsayLoud h_f_h0_site_world_term j53 ⟨by omega, by omega⟩ ⟨by omega, by omega⟩ lw45 j58 (fun u61_0 u61_1 u61_2 u61_3 u61_4 u61_5 u61_6 u61_7 u61_8 u61_9 u61_10 u61_11 u61_12 u61_13 u61_14 u61_15 u61_16 u61_17 u61_18 u61_19 u61_20 u61_21 u61_22 u61_23 u61_24 u61_25 u61_26 u61_27 u61_28 u61_29 u61_30 H62 => ?_)
      have j63 := H62.1
      have j64 := H62.2.1
      have j65 := H62.2.2.1
      have j66 := H62.2.2.2.1
      have j67 := H62.2.2.2.2.1
      have j68 := H62.2.2.2.2.2.1
      have j69 := H62.2.2.2.2.2.2.1
      have j70 := H62.2.2.2.2.2.2.2.1
      have j71 := H62.2.2.2.2.2.2.2.2.1
      have j72 := H62.2.2.2.2.2.2.2.2.2.1
      have j73 := H62.2.2.2.2.2.2.2.2.2.2.1
      have j74 := H62.2.2.2.2.2.2.2.2.2.2.2.1
      have j75 := H62.2.2.2.2.2.2.2.2.2.2.2.2.1
      have j76 := H62.2.2.2.2.2.2.2.2.2.2.2.2.2.1
      have j77 := H62.2.2.2.2.2.2.2.2.2.2.2.2.2.2.1
      have j78 := H62.2.2.2.2.2.2.2.2.2.2.2.2.2.2.2.1
      have j79 := H62.2.2.2.2.2.2.2.2.2.2.2.2.2.2.2.2.1
      have j80 := H62.2.2.2.2.2.2.2.2.2.2.2.2.2.2.2.2.2.1
      have j81 := H62.2.2.2.2.2.2.2.2.2.2.2.2.2.2.2.2.2.2.1
      have j82 := H62.2.2.2.2.2.2.2.2.2.2.2.2.2.2.2.2.2.2.2.1
      have j83 := H62.2.2.2.2.2.2.2.2.2.2.2.2.2.2.2.2.2.2.2.2.1
      have j84 := H62.2.2.2.2.2.2.2.2.2.2.2.2.2.2.2.2.2.2.2.2.2.1
      have j85 := H62.2.2.2.2.2.2.2.2.2.2.2.2.2.2.2.2.2.2.2.2.2.2.1
      have j86 := H62.2.2.2.2.2.2.2.2.2.2.2.2.2.2.2.2.2.2.2.2.2.2.2.1
      have j87 := H62.2.2.2.2.2.2.2.2.2.2.2.2.2.2.2.2.2.2.2.2.2.2.2.2
      refine un31_i ?_
      have zu61_1 : (u61_1).toInt = (u18_1).toInt := congrArg Int32.toInt j86
      have zu61_0 : (u61_0).toInt = (u18_0).toInt := congrArg Int32.toInt j85
      refine o_X11_settle _ _ _ ?_
      refine jn_s ?_
      refine br1 (z_le (x := 0) (y := (Int32.toInt u47_0)) rfl rfl (by omega)) ?_
      refine br1 (z_le (x := 0) (y := (Int32.toInt u47_0)) rfl rfl (by omega)) ?_
      refine un2_i ?_
      have k88 : Int32.toInt (-1) = (-1) := (by decide)
      have k89 : Int32.toInt 0 = 0 := rfl
      exact hq _ _ _ _ _ _ _ _ _ _ _ _ _ _ _ _ _ _ _ _ _ _ _ _ _ _ _ _ _ _ _ _ _ _ _ _ _ _ _ _ _ _ _ _ _ _ _ _ _ _ _ _ _ _ _ _ _ _ _ _ _ _ _ _ _ _ _ _ _ _ _ _ _ _ _ _ _ _ _ _ _ _ _ _ _ _ _ _ _ ⟨⟨by omega, by omega⟩, ⟨by omega, by omega⟩, ⟨by omega, by omega⟩, ⟨by omega, by omega⟩, ⟨by omega, by omega⟩, j10, j11, ⟨by omega, by omega⟩, ⟨by omega, by omega⟩, ⟨by omega, by omega⟩, ⟨by omega, by omega⟩, j65, j22, j66, j23, j67, j52, ⟨by omega, by omega⟩, ⟨by omega, by omega⟩, j69, j54, j70, j55, ⟨by omega, by omega⟩, ⟨by omega, by omega⟩, ⟨by omega, by omega⟩, ⟨by omega, by omega⟩, ⟨by omega, by omega⟩, ⟨by omega, by omega⟩, ⟨by omega, by omega⟩, ⟨by omega, by omega⟩, j75, j51, j76, j33, j77, j34, j78, j35, j79, j36, j80, j37, j53, j81, ⟨by omega, by omega⟩, ⟨by omega, by omega⟩, ⟨by omega, by omega⟩, ⟨by omega, by omega⟩, ⟨by omega, by omega⟩, (fun k hk => (j84 k hk).trans (j41 k hk)), (j85.trans j42), (j86.trans j43), j87, (by omega)⟩
    · refine br0 c59 ?_
      have d90 := ne_z (a := r46) (b := (-1)) (x := (Int32.toInt r46)) (y := (-1)) rfl (by decide) c59
      refine o_X11_settle _ _ _ ?_
      refine jn_s ?_
      refine br0 (by decide) ?_
      refine br0 (by decide) ?_
      refine br0 (by decide) ?_
      refine ⟨by unfold vp_in; decide, ?_⟩
      refine ⟨by unfold vp_in; decide, ?_⟩
      refine un2_i ?_
      have k91 : Int32.toInt (-3) = (-3) := (by decide)
      exact hq _ _ _ _ _ _ _ _ _ _ _ _ _ _ _ _ _ _ _ _ _ _ _ _ _ _ _ _ _ _ _ _ _ _ _ _ _ _ _ _ _ _ _ _ _ _ _ _ _ _ _ _ _ _ _ _ _ _ _ _ _ _ _ _ _ _ _ _ _ _ _ _ _ _ _ _ _ _ _ _ _ _ _ _ _ _ _ _ _ ⟨⟨by omega, by omega⟩, ⟨by omega, by omega⟩, ⟨by omega, by omega⟩, ⟨by omega, by omega⟩, ⟨by omega, by omega⟩, j10, j11, ⟨by omega, by omega⟩, ⟨by omega, by omega⟩, ⟨by omega, by omega⟩, ⟨by omega, by omega⟩, h_f_h0_site_world_rock_kind, j22, h_f_h0_site_world_rock_hard, j23, h_f_h0_site_world_rock_water, j52, ⟨by omega, by omega⟩, ⟨by omega, by omega⟩, h_f_h0_site_world_crew_cell, j54, h_f_h0_site_world_crew_buckets, j55, ⟨by omega, by omega⟩, ⟨by omega, by omega⟩, ⟨by omega, by omega⟩, ⟨by omega, by omega⟩, ⟨by omega, by omega⟩, ⟨by omega, by omega⟩, ⟨by omega, by omega⟩, ⟨by omega, by omega⟩, h_f_h0_site_world_folk_column, j51, h_f_h0_site_world_folk_ear, j33, h_f_h0_site_world_folk_noiseColumn, j34, h_f_h0_site_world_folk_noiseLoud, j35, h_f_h0_site_world_folk_hearsayColumn, j36, h_f_h0_site_world_folk_hearsayLoud, j37, j53, h_f_h0_site_world_term, ⟨by omega, by omega⟩, ⟨by omega, by omega⟩, ⟨by omega, by omega⟩, ⟨by omega, by omega⟩, ⟨by omega, by omega⟩, (fun k hk => rfl), rfl, rfl, e_2, (by omega)⟩


set_option maxRecDepth 100000 in
theorem s_X11_orders_Tx (h0_reader_length : Int32) (h0_reader_faultPlace : Int32) (f_h0_reader_bytes : Nat → Int32) (f_h0_reader_tokens : Nat → Int32) (f_h0_reader_places : Nat → Int32) (f_h0_reader_draft_heads : Nat → Int32) (f_h0_reader_draft_code : Nat → Int32) (h0_paper_world : Nat) (h0_paper_done : Int32) (h0_paper_latest : Int32) (h0_paper_world_lawCount : Int32) (h0_paper_world_force : Int32) (h0_site_world_lawCount : Int32) (h0_site_world_force : Int32) (h0_paper_world_rock_dug : Int64) (h0_site_world_rock_dug : Int64) (f_h0_site_world_rock_kind : Nat → Int32) (f_h0_paper_world_rock_kind : Nat → Int32) (f_h0_site_world_rock_hard : Nat → Int32) (f_h0_paper_world_rock_hard : Nat → Int32) (f_h0_site_world_rock_water : Nat → Int32) (f_h0_paper_world_rock_water : Nat → Int32) (h0_paper_world_crew_count : Int32) (h0_site_world_crew_count : Int32) (f_h0_site_world_crew_cell : Nat → Int32) (f_h0_paper_world_crew_cell : Nat → Int32) (f_h0_site_world_crew_buckets : Nat → Int32) (f_h0_paper_world_crew_buckets : Nat → Int32) (h0_paper_world_folk_listeners : Int32) (h0_paper_world_folk_noises : Int32) (h0_paper_world_folk_hushed : Int32) (h0_paper_world_folk_hearsay : Int32) (h0_paper_world_folk_wells : Int32) (h0_site_world_folk_listeners : Int32) (h0_site_world_folk_noises : Int32) (h0_site_world_folk_hushed : Int32) (h0_site_world_folk_hearsay : Int32) (h0_site_world_folk_wells : Int32) (f_h0_site_world_folk_column : Nat → Int32) (f_h0_paper_world_folk_column : Nat → Int32) (f_h0_site_world_folk_ear : Nat → Int32) (f_h0_paper_world_folk_ear : Nat → Int32) (f_h0_site_world_folk_noiseColumn : Nat → Int32) (f_h0_paper_world_folk_noiseColumn : Nat → Int32) (f_h0_site_world_folk_noiseLoud : Nat → Int32) (f_h0_paper_world_folk_noiseLoud : Nat → Int32) (f_h0_site_world_folk_hearsayColumn : Nat → Int32) (f_h0_paper_world_folk_hearsayColumn : Nat → Int32) (f_h0_site_world_folk_hearsayLoud : Nat → Int32) (f_h0_paper_world_folk_hearsayLoud : Nat → Int32) (f_h0_site_world_folk_sounds : Nat → Int32) (f_h0_paper_world_folk_sounds : Nat → Int32) (f_h0_site_world_folk_wet : Nat → Int32) (f_h0_paper_world_folk_wet : Nat → Int32) (f_h0_paper_world_term : Nat → Int32) (f_h0_site_world_term : Nat → Int32) (f_h0_site_world_laws : Nat → Option Nat) (f_h0_paper_world_laws : Nat → Option Nat) (h0_paper_diary_kept : Int32) (h0_paper_diary_latest : Int32) (h0_site_diary_kept : Int32) (h0_site_diary_latest : Int32) (f_h0_site_diary_deed : Nat → Int32) (f_h0_paper_diary_deed : Nat → Int32) (f_h0_site_diary_whose : Nat → Int32) (f_h0_paper_diary_whose : Nat → Int32) (f_h0_site_diary_before : Nat → Int32) (f_h0_paper_diary_before : Nat → Int32) (f_h0_site_diary_bucketsBefore : Nat → Int32) (f_h0_paper_diary_bucketsBefore : Nat → Int32) (f_h0_site_diary_dayBefore : Nat → Int32) (f_h0_paper_diary_dayBefore : Nat → Int32) (h0_asker_world : Value) (h0_asker_law : Value) (h0_asker_cell : Int32) (h0_asker_shaft : Int32) (h0_asker_kind : Int32) (h0_asker_done : Int32) (h0_asker_latest : Int32) (h0_asker_value : Int32) (f_h0_asker_stack : Nat → Int64) (t : Nat) (t_clauses : Int32) (t_length : Int32) (n_t_heads : Nat) (f_t_heads : Nat → Int32) (n_t_code : Nat) (f_t_code : Nat → Int32) (f_h0_refusals : Nat → Int32) (TT : Nat → Prop) (xe : XE) (h_h0_reader_length : 0 ≤ h0_reader_length.toInt ∧ h0_reader_length.toInt ≤ 400) (h_f_h0_reader_bytes : BY f_h0_reader_bytes) (h_f_h0_reader_draft_heads : HD f_h0_reader_draft_heads) (h_f_h0_reader_draft_code : CD f_h0_reader_draft_code) (h_h0_paper_world_lawCount : 0 ≤ h0_paper_world_lawCount.toInt ∧ h0_paper_world_lawCount.toInt ≤ 6) (h_h0_paper_world_force : (-1) ≤ h0_paper_world_force.toInt ∧ h0_paper_world_force.toInt ≤ 5) (h_h0_site_world_lawCount : 0 ≤ h0_site_world_lawCount.toInt ∧ h0_site_world_lawCount.toInt ≤ 6) (h_h0_site_world_force : 0 ≤ h0_site_world_force.toInt ∧ h0_site_world_force.toInt ≤ 5) (h_f_h0_site_world_rock_kind : KI f_h0_site_world_rock_kind) (h_f_h0_paper_world_rock_kind : KI f_h0_paper_world_rock_kind) (h_f_h0_site_world_rock_hard : HA f_h0_site_world_rock_hard) (h_f_h0_paper_world_rock_hard : HA f_h0_paper_world_rock_hard) (h_f_h0_site_world_rock_water : WA f_h0_site_world_rock_water) (h_f_h0_paper_world_rock_water : WA f_h0_paper_world_rock_water) (h_h0_paper_world_crew_count : 0 ≤ h0_paper_world_crew_count.toInt ∧ h0_paper_world_crew_count.toInt ≤ 6) (h_h0_site_world_crew_count : 0 ≤ h0_site_world_crew_count.toInt ∧ h0_site_world_crew_count.toInt ≤ 6) (h_f_h0_site_world_crew_cell : CE f_h0_site_world_crew_cell) (h_f_h0_paper_world_crew_cell : CE f_h0_paper_world_crew_cell) (h_f_h0_site_world_crew_buckets : BU f_h0_site_world_crew_buckets) (h_f_h0_paper_world_crew_buckets : BU f_h0_paper_world_crew_buckets) (h_h0_paper_world_folk_listeners : 0 ≤ h0_paper_world_folk_listeners.toInt ∧ h0_paper_world_folk_listeners.toInt ≤ 5) (h_h0_paper_world_folk_noises : 0 ≤ h0_paper_world_folk_noises.toInt ∧ h0_paper_world_folk_noises.toInt ≤ 6) (h_h0_paper_world_folk_hearsay : 0 ≤ h0_paper_world_folk_hearsay.toInt ∧ h0_paper_world_folk_hearsay.toInt ≤ 8) (h_h0_paper_world_folk_wells : 0 ≤ h0_paper_world_folk_wells.toInt ∧ h0_paper_world_folk_wells.toInt ≤ 10) (h_h0_site_world_folk_listeners : 0 ≤ h0_site_world_folk_listeners.toInt ∧ h0_site_world_folk_listeners.toInt ≤ 5) (h_h0_site_world_folk_noises : 0 ≤ h0_site_world_folk_noises.toInt ∧ h0_site_world_folk_noises.toInt ≤ 6) (h_h0_site_world_folk_hearsay : 0 ≤ h0_site_world_folk_hearsay.toInt ∧ h0_site_world_folk_hearsay.toInt ≤ 8) (h_h0_site_world_folk_wells : 0 ≤ h0_site_world_folk_wells.toInt ∧ h0_site_world_folk_wells.toInt ≤ 10) (h_f_h0_site_world_folk_column : CO f_h0_site_world_folk_column) (h_f_h0_paper_world_folk_column : CO f_h0_paper_world_folk_column) (h_f_h0_site_world_folk_ear : EA f_h0_site_world_folk_ear) (h_f_h0_paper_world_folk_ear : EA f_h0_paper_world_folk_ear) (h_f_h0_site_world_folk_noiseColumn : NC f_h0_site_world_folk_noiseColumn) (h_f_h0_paper_world_folk_noiseColumn : NC f_h0_paper_world_folk_noiseColumn) (h_f_h0_site_world_folk_noiseLoud : NL f_h0_site_world_folk_noiseLoud) (h_f_h0_paper_world_folk_noiseLoud : NL f_h0_paper_world_folk_noiseLoud) (h_f_h0_site_world_folk_hearsayColumn : HC f_h0_site_world_folk_hearsayColumn) (h_f_h0_paper_world_folk_hearsayColumn : HC f_h0_paper_world_folk_hearsayColumn) (h_f_h0_site_world_folk_hearsayLoud : HL f_h0_site_world_folk_hearsayLoud) (h_f_h0_paper_world_folk_hearsayLoud : HL f_h0_paper_world_folk_hearsayLoud) (h_f_h0_paper_world_term : TE f_h0_paper_world_term) (h_f_h0_site_world_term : TE f_h0_site_world_term) (h_h0_paper_diary_kept : 0 ≤ h0_paper_diary_kept.toInt ∧ h0_paper_diary_kept.toInt ≤ 16) (h_h0_paper_diary_latest : 0 ≤ h0_paper_diary_latest.toInt ∧ h0_paper_diary_latest.toInt ≤ 15) (h_h0_site_diary_kept : 0 ≤ h0_site_diary_kept.toInt ∧ h0_site_diary_kept.toInt ≤ 16) (h_h0_site_diary_latest : 0 ≤ h0_site_diary_latest.toInt ∧ h0_site_diary_latest.toInt ≤ 15) (h_h0_asker_cell : 0 ≤ h0_asker_cell.toInt ∧ h0_asker_cell.toInt ≤ 39) (h_t_clauses : 0 ≤ t_clauses.toInt ∧ t_clauses.toInt ≤ 12) (h_t_length : 0 ≤ t_length.toInt ∧ t_length.toInt ≤ 400) (h_f_t_code : CD f_t_code) (e_0 : isRf xe.2.2) (e_1 : ∀ k, k < 6 → ∀ v, f_h0_site_world_laws k = some v → TT v ∨ v = t) (e_2 : DI f_h0_site_diary_deed f_h0_site_diary_whose f_h0_site_diary_before f_h0_site_diary_bucketsBefore f_h0_site_diary_dayBefore) (e_3 : t_length.toInt ≤ (n_t_code : Int)) (e_4 : n_t_heads < 100000) (e_5 : h0_site_world_force.toInt < h0_site_world_lawCount.toInt) (e_6 : f_h0_site_world_laws (Int32.toNatClampNeg h0_site_world_force) = some t) {Q : Int32 → (Int32 × Int32 × Int32 × Int32 × Int32 × Int32 × Int32 × Int32 × (Nat → Int32) × (Nat → Int32) × Int32 × Int32 × (Nat → Int32) × (Nat → Int32) × Int32 × Int32 × Int32 × Int32 × Int32 × Int32 × Int64 × Int64 × (Nat → Int32) × (Nat → Int32) × (Nat → Int32) × (Nat → Int32) × (Nat → Int32) × (Nat → Int32) × Int32 × Int32 × (Nat → Int32) × (Nat → Int32) × (Nat → Int32) × (Nat → Int32) × Int32 × Int32 × Int32 × Int32 × Int32 × Int32 × Int32 × Int32 × Int32 × Int32 × (Nat → Int32) × (Nat → Int32) × (Nat → Int32) × (Nat → Int32) × (Nat → Int32) × (Nat → Int32) × (Nat → Int32) × (Nat → Int32) × (Nat → Int32) × (Nat → Int32) × (Nat → Int32) × (Nat → Int32) × (Nat → Int32) × (Nat → Int32) × (Nat → Int32) × (Nat → Int32) × (Nat → Int32) × (Nat → Int32) × (Nat → Option Nat) × (Nat → Option Nat) × Int32 × Int32 × Int32 × Int32 × (Nat → Int32) × (Nat → Int32) × (Nat → Int32) × (Nat → Int32) × (Nat → Int32) × (Nat → Int32) × (Nat → Int32) × (Nat → Int32) × (Nat → Int32) × (Nat → Int32) × Value × Value × Int32 × Int32 × Int32 × Int32 × Int32 × Int32 × (Nat → Int64) × (Nat → Int32)) → Prop} (hq : ∀ (r : Int32) (u_0 : Int32) (u_1 : Int32) (u_2 : Int32) (u_3 : Int32) (u_4 : Int32) (u_5 : Int32) (u_6 : Int32) (u_7 : Int32) (u_8 : Nat → Int32) (u_9 : Nat → Int32) (u_10 : Int32) (u_11 : Int32) (u_12 : Nat → Int32) (u_13 : Nat → Int32) (u_14 : Int32) (u_15 : Int32) (u_16 : Int32) (u_17 : Int32) (u_18 : Int32) (u_19 : Int32) (u_20 : Int64) (u_21 : Int64) (u_22 : Nat → Int32) (u_23 : Nat → Int32) (u_24 : Nat → Int32) (u_25 : Nat → Int32) (u_26 : Nat → Int32) (u_27 : Nat → Int32) (u_28 : Int32) (u_29 : Int32) (u_30 : Nat → Int32) (u_31 : Nat → Int32) (u_32 : Nat → Int32) (u_33 : Nat → Int32) (u_34 : Int32) (u_35 : Int32) (u_36 : Int32) (u_37 : Int32) (u_38 : Int32) (u_39 : Int32) (u_40 : Int32) (u_41 : Int32) (u_42 : Int32) (u_43 : Int32) (u_44 : Nat → Int32) (u_45 : Nat → Int32) (u_46 : Nat → Int32) (u_47 : Nat → Int32) (u_48 : Nat → Int32) (u_49 : Nat → Int32) (u_50 : Nat → Int32) (u_51 : Nat → Int32) (u_52 : Nat → Int32) (u_53 : Nat → Int32) (u_54 : Nat → Int32) (u_55 : Nat → Int32) (u_56 : Nat → Int32) (u_57 : Nat → Int32) (u_58 : Nat → Int32) (u_59 : Nat → Int32) (u_60 : Nat → Int32) (u_61 : Nat → Int32) (u_62 : Nat → Option Nat) (u_63 : Nat → Option Nat) (u_64 : Int32) (u_65 : Int32) (u_66 : Int32) (u_67 : Int32) (u_68 : Nat → Int32) (u_69 : Nat → Int32) (u_70 : Nat → Int32) (u_71 : Nat → Int32) (u_72 : Nat → Int32) (u_73 : Nat → Int32) (u_74 : Nat → Int32) (u_75 : Nat → Int32) (u_76 : Nat → Int32) (u_77 : Nat → Int32) (u_78 : Value) (u_79 : Value) (u_80 : Int32) (u_81 : Int32) (u_82 : Int32) (u_83 : Int32) (u_84 : Int32) (u_85 : Int32) (u_86 : Nat → Int64) (u_87 : Nat → Int32), (0 ≤ u_2.toInt ∧ u_2.toInt ≤ 400) ∧ (0 ≤ u_3.toInt ∧ u_3.toInt ≤ 401) ∧ (0 ≤ u_6.toInt ∧ u_6.toInt ≤ 1) ∧ (0 ≤ u_10.toInt ∧ u_10.toInt ≤ 12) ∧ (0 ≤ u_11.toInt ∧ u_11.toInt ≤ 400) ∧ (HD u_12) ∧ (CD u_13) ∧ (0 ≤ u_16.toInt ∧ u_16.toInt ≤ 6) ∧ ((-1) ≤ u_17.toInt ∧ u_17.toInt ≤ 5) ∧ (0 ≤ u_18.toInt ∧ u_18.toInt ≤ 6) ∧ ((-1) ≤ u_19.toInt ∧ u_19.toInt ≤ 5) ∧ (KI u_22) ∧ (KI u_23) ∧ (HA u_24) ∧ (HA u_25) ∧ (WA u_26) ∧ (WA u_27) ∧ (0 ≤ u_28.toInt ∧ u_28.toInt ≤ 6) ∧ (0 ≤ u_29.toInt ∧ u_29.toInt ≤ 6) ∧ (CE u_30) ∧ (CE u_31) ∧ (BU u_32) ∧ (BU u_33) ∧ (0 ≤ u_34.toInt ∧ u_34.toInt ≤ 5) ∧ (0 ≤ u_35.toInt ∧ u_35.toInt ≤ 6) ∧ (0 ≤ u_37.toInt ∧ u_37.toInt ≤ 8) ∧ (0 ≤ u_38.toInt ∧ u_38.toInt ≤ 10) ∧ (0 ≤ u_39.toInt ∧ u_39.toInt ≤ 5) ∧ (0 ≤ u_40.toInt ∧ u_40.toInt ≤ 6) ∧ (0 ≤ u_42.toInt ∧ u_42.toInt ≤ 8) ∧ (0 ≤ u_43.toInt ∧ u_43.toInt ≤ 10) ∧ (CO u_44) ∧ (CO u_45) ∧ (EA u_46) ∧ (EA u_47) ∧ (NC u_48) ∧ (NC u_49) ∧ (NL u_50) ∧ (NL u_51) ∧ (HC u_52) ∧ (HC u_53) ∧ (HL u_54) ∧ (HL u_55) ∧ (TE u_60) ∧ (TE u_61) ∧ (0 ≤ u_64.toInt ∧ u_64.toInt ≤ 16) ∧ (0 ≤ u_65.toInt ∧ u_65.toInt ≤ 15) ∧ (0 ≤ u_66.toInt ∧ u_66.toInt ≤ 16) ∧ (0 ≤ u_67.toInt ∧ u_67.toInt ≤ 15) ∧ (0 ≤ u_80.toInt ∧ u_80.toInt ≤ 39) ∧ (∀ k, k < 6 → u_62 k = f_h0_site_world_laws k) ∧ (u_18 = h0_site_world_lawCount) ∧ (u_19 = h0_site_world_force) ∧ (DI u_68 u_70 u_72 u_74 u_76) ∧ (u_2.toInt = 0) → Q r (u_0, u_1, u_2, u_3, u_4, u_5, u_6, u_7, u_8, u_9, u_10, u_11, u_12, u_13, u_14, u_15, u_16, u_17, u_18, u_19, u_20, u_21, u_22, u_23, u_24, u_25, u_26, u_27, u_28, u_29, u_30, u_31, u_32, u_33, u_34, u_35, u_36, u_37, u_38, u_39, u_40, u_41, u_42, u_43, u_44, u_45, u_46, u_47, u_48, u_49, u_50, u_51, u_52, u_53, u_54, u_55, u_56, u_57, u_58, u_59, u_60, u_61, u_62, u_63, u_64, u_65, u_66, u_67, u_68, u_69, u_70, u_71, u_72, u_73, u_74, u_75, u_76, u_77, u_78, u_79, u_80, u_81, u_82, u_83, u_84, u_85, u_86, u_87)) : wp_X11_orders_T h0_reader_length h0_reader_faultPlace f_h0_reader_bytes f_h0_reader_tokens f_h0_reader_places f_h0_reader_draft_heads f_h0_reader_draft_code h0_paper_world h0_paper_done h0_paper_latest h0_paper_world_lawCount h0_paper_world_force h0_site_world_lawCount h0_site_world_force h0_paper_world_rock_dug h0_site_world_rock_dug f_h0_site_world_rock_kind f_h0_paper_world_rock_kind f_h0_site_world_rock_hard f_h0_paper_world_rock_hard f_h0_site_world_rock_water f_h0_paper_world_rock_water h0_paper_world_crew_count h0_site_world_crew_count f_h0_site_world_crew_cell f_h0_paper_world_crew_cell f_h0_site_world_crew_buckets f_h0_paper_world_crew_buckets h0_paper_world_folk_listeners h0_paper_world_folk_noises h0_paper_world_folk_hushed h0_paper_world_folk_hearsay h0_paper_world_folk_wells h0_site_world_folk_listeners h0_site_world_folk_noises h0_site_world_folk_hushed h0_site_world_folk_hearsay h0_site_world_folk_wells f_h0_site_world_folk_column f_h0_paper_world_folk_column f_h0_site_world_folk_ear f_h0_paper_world_folk_ear f_h0_site_world_folk_noiseColumn f_h0_paper_world_folk_noiseColumn f_h0_site_world_folk_noiseLoud f_h0_paper_world_folk_noiseLoud f_h0_site_world_folk_hearsayColumn f_h0_paper_world_folk_hearsayColumn f_h0_site_world_folk_hearsayLoud f_h0_paper_world_folk_hearsayLoud f_h0_site_world_folk_sounds f_h0_paper_world_folk_sounds f_h0_site_world_folk_wet f_h0_paper_world_folk_wet f_h0_paper_world_term f_h0_site_world_term f_h0_site_world_laws f_h0_paper_world_laws h0_paper_diary_kept h0_paper_diary_latest h0_site_diary_kept h0_site_diary_latest f_h0_site_diary_deed f_h0_paper_diary_deed f_h0_site_diary_whose f_h0_paper_diary_whose f_h0_site_diary_before f_h0_paper_diary_before f_h0_site_diary_bucketsBefore f_h0_paper_diary_bucketsBefore f_h0_site_diary_dayBefore f_h0_paper_diary_dayBefore h0_asker_world h0_asker_law h0_asker_cell h0_asker_shaft h0_asker_kind h0_asker_done h0_asker_latest h0_asker_value f_h0_asker_stack t t_clauses t_length n_t_heads f_t_heads n_t_code f_t_code f_h0_refusals TT xe Q := by
  unfold wp_X11_orders_T
  refine s_X5_readx 1 h0_reader_length h0_reader_faultPlace (f_h0_reader_bytes) (f_h0_reader_tokens) (f_h0_reader_places) (f_h0_reader_draft_heads) (f_h0_reader_draft_code) xe (by decide) ⟨by omega, by omega⟩ h_f_h0_reader_bytes h_f_h0_reader_draft_heads h_f_h0_reader_draft_code e_0 (fun r1 u2_0 u2_1 u2_2 u2_3 u2_4 u2_5 u2_6 u2_7 u2_8 u2_9 u2_10 u2_11 H3 => ?_)
  have j4 := H3.1
  have j5 := H3.2.1
  have j6 := H3.2.2.1
  have j7 := H3.2.2.2.1
  have j8 := H3.2.2.2.2.1
  have j9 := H3.2.2.2.2.2.1
  have j10 := H3.2.2.2.2.2.2.1
  have j11 := H3.2.2.2.2.2.2.2.1
  have j12 := H3.2.2.2.2.2.2.2.2
  refine un12_i ?_
  by_cases c13 : r1 = 0
  · refine br1 c13 ?_
    have d14 := eq_z (a := r1) (b := 0) (x := (Int32.toInt r1)) (y := 0) rfl rfl c13
    refine o_X11_settle _ _ _ ?_
    refine jn_s ?_
    refine br0 (by decide) ?_
    refine br0 (by decide) ?_
    refine br0 (by decide) ?_
    refine ⟨by unfold vp_in; decide, ?_⟩
    refine ⟨by unfold vp_in; decide, ?_⟩
    refine un2_i ?_
    have k15 : Int32.toInt (-6) = (-6) := (by decide)
    have k16 : Int32.toInt (-1) = (-1) := (by decide)
    exact hq _ _ _ _ _ _ _ _ _ _ _ _ _ _ _ _ _ _ _ _ _ _ _ _ _ _ _ _ _ _ _ _ _ _ _ _ _ _ _ _ _ _ _ _ _ _ _ _ _ _ _ _ _ _ _ _ _ _ _ _ _ _ _ _ _ _ _ _ _ _ _ _ _ _ _ _ _ _ _ _ _ _ _ _ _ _ _ _ _ ⟨⟨by omega, by omega⟩, ⟨by omega, by omega⟩, ⟨by omega, by omega⟩, ⟨by omega, by omega⟩, ⟨by omega, by omega⟩, j10, j11, ⟨by omega, by omega⟩, ⟨by omega, by omega⟩, ⟨by omega, by omega⟩, ⟨by omega, by omega⟩, h_f_h0_site_world_rock_kind, h_f_h0_paper_world_rock_kind, h_f_h0_site_world_rock_hard, h_f_h0_paper_world_rock_hard, h_f_h0_site_world_rock_water, h_f_h0_paper_world_rock_water, ⟨by omega, by omega⟩, ⟨by omega, by omega⟩, h_f_h0_site_world_crew_cell, h_f_h0_paper_world_crew_cell, h_f_h0_site_world_crew_buckets, h_f_h0_paper_world_crew_buckets, ⟨by omega, by omega⟩, ⟨by omega, by omega⟩, ⟨by omega, by omega⟩, ⟨by omega, by omega⟩, ⟨by omega, by omega⟩, ⟨by omega, by omega⟩, ⟨by omega, by omega⟩, ⟨by omega, by omega⟩, h_f_h0_site_world_folk_column, h_f_h0_paper_world_folk_column, h_f_h0_site_world_folk_ear, h_f_h0_paper_world_folk_ear, h_f_h0_site_world_folk_noiseColumn, h_f_h0_paper_world_folk_noiseColumn, h_f_h0_site_world_folk_noiseLoud, h_f_h0_paper_world_folk_noiseLoud, h_f_h0_site_world_folk_hearsayColumn, h_f_h0_paper_world_folk_hearsayColumn, h_f_h0_site_world_folk_hearsayLoud, h_f_h0_paper_world_folk_hearsayLoud, h_f_h0_paper_world_term, h_f_h0_site_world_term, ⟨by omega, by omega⟩, ⟨by omega, by omega⟩, ⟨by omega, by omega⟩, ⟨by omega, by omega⟩, ⟨by omega, by omega⟩, (fun k hk => rfl), rfl, rfl, e_2, (by omega)⟩
  · refine br0 c13 ?_
    have d17 := ne_z (a := r1) (b := 0) (x := (Int32.toInt r1)) (y := 0) rfl rfl c13
    refine s_X7_copyFrom h0_site_world_lawCount h0_site_world_force h0_site_world_rock_dug (f_h0_site_world_rock_kind) (f_h0_paper_world_rock_kind) (f_h0_site_world_rock_hard) (f_h0_paper_world_rock_hard) (f_h0_site_world_rock_water) (f_h0_paper_world_rock_water) h0_site_world_crew_count (f_h0_site_world_crew_cell) (f_h0_paper_world_crew_cell) (f_h0_site_world_crew_buckets) (f_h0_paper_world_crew_buckets) h0_site_world_folk_listeners h0_site_world_folk_noises h0_site_world_folk_hushed h0_site_world_folk_hearsay h0_site_world_folk_wells (f_h0_site_world_folk_column) (f_h0_paper_world_folk_column) (f_h0_site_world_folk_ear) (f_h0_paper_world_folk_ear) (f_h0_site_world_folk_noiseColumn) (f_h0_paper_world_folk_noiseColumn) (f_h0_site_world_folk_noiseLoud) (f_h0_paper_world_folk_noiseLoud) (f_h0_site_world_folk_hearsayColumn) (f_h0_paper_world_folk_hearsayColumn) (f_h0_site_world_folk_hearsayLoud) (f_h0_paper_world_folk_hearsayLoud) (f_h0_site_world_folk_sounds) (f_h0_paper_world_folk_sounds) (f_h0_site_world_folk_wet) (f_h0_paper_world_folk_wet) (f_h0_paper_world_term) (f_h0_site_world_term) (f_h0_site_world_laws) (f_h0_paper_world_laws) h0_site_diary_kept h0_site_diary_latest (f_h0_site_diary_deed) (f_h0_paper_diary_deed) (f_h0_site_diary_whose) (f_h0_paper_diary_whose) (f_h0_site_diary_before) (f_h0_paper_diary_before) (f_h0_site_diary_bucketsBefore) (f_h0_paper_diary_bucketsBefore) (f_h0_site_diary_dayBefore) (f_h0_paper_diary_dayBefore) (fun v => TT v ∨ v = t) ⟨by omega, by omega⟩ ⟨by omega, by omega⟩ h_f_h0_site_world_rock_kind h_f_h0_paper_world_rock_kind h_f_h0_site_world_rock_hard h_f_h0_paper_world_rock_hard h_f_h0_site_world_rock_water h_f_h0_paper_world_rock_water ⟨by omega, by omega⟩ h_f_h0_site_world_crew_cell h_f_h0_paper_world_crew_cell h_f_h0_site_world_crew_buckets h_f_h0_paper_world_crew_buckets ⟨by omega, by omega⟩ ⟨by omega, by omega⟩ ⟨by omega, by omega⟩ ⟨by omega, by omega⟩ h_f_h0_site_world_folk_column h_f_h0_paper_world_folk_column h_f_h0_site_world_folk_ear h_f_h0_paper_world_folk_ear h_f_h0_site_world_folk_noiseColumn h_f_h0_paper_world_folk_noiseColumn h_f_h0_site_world_folk_noiseLoud h_f_h0_paper_world_folk_noiseLoud h_f_h0_site_world_folk_hearsayColumn h_f_h0_paper_world_folk_hearsayColumn h_f_h0_site_world_folk_hearsayLoud h_f_h0_paper_world_folk_hearsayLoud h_f_h0_paper_world_term h_f_h0_site_world_term ⟨by omega, by omega⟩ ⟨by omega, by omega⟩ e_1 e_2 (fun u18_0 u18_1 u18_2 u18_3 u18_4 u18_5 u18_6 u18_7 u18_8 u18_9 u18_10 u18_11 u18_12 u18_13 u18_14 u18_15 u18_16 u18_17 u18_18 u18_19 u18_20 u18_21 u18_22 u18_23 u18_24 u18_25 u18_26 u18_27 u18_28 u18_29 u18_30 H19 => ?_)
    have j20 := H19.1
    have j21 := H19.2.1
    have j22 := H19.2.2.1
    have j23 := H19.2.2.2.1
    have j24 := H19.2.2.2.2.1
    have j25 := H19.2.2.2.2.2.1
    have j26 := H19.2.2.2.2.2.2.1
    have j27 := H19.2.2.2.2.2.2.2.1
    have j28 := H19.2.2.2.2.2.2.2.2.1
    have j29 := H19.2.2.2.2.2.2.2.2.2.1
    have j30 := H19.2.2.2.2.2.2.2.2.2.2.1
    have j31 := H19.2.2.2.2.2.2.2.2.2.2.2.1
    have j32 := H19.2.2.2.2.2.2.2.2.2.2.2.2.1
    have j33 := H19.2.2.2.2.2.2.2.2.2.2.2.2.2.1
    have j34 := H19.2.2.2.2.2.2.2.2.2.2.2.2.2.2.1
    have j35 := H19.2.2.2.2.2.2.2.2.2.2.2.2.2.2.2.1
    have j36 := H19.2.2.2.2.2.2.2.2.2.2.2.2.2.2.2.2.1
    have j37 := H19.2.2.2.2.2.2.2.2.2.2.2.2.2.2.2.2.2.1
    have j38 := H19.2.2.2.2.2.2.2.2.2.2.2.2.2.2.2.2.2.2.1
    have j39 := H19.2.2.2.2.2.2.2.2.2.2.2.2.2.2.2.2.2.2.2.1
    have j40 := H19.2.2.2.2.2.2.2.2.2.2.2.2.2.2.2.2.2.2.2.2.1
    have j41 := H19.2.2.2.2.2.2.2.2.2.2.2.2.2.2.2.2.2.2.2.2.2.1
    have j42 := H19.2.2.2.2.2.2.2.2.2.2.2.2.2.2.2.2.2.2.2.2.2.2.1
    have j43 := H19.2.2.2.2.2.2.2.2.2.2.2.2.2.2.2.2.2.2.2.2.2.2.2.1
    have j44 := H19.2.2.2.2.2.2.2.2.2.2.2.2.2.2.2.2.2.2.2.2.2.2.2.2
    refine un31_i ?_
    have zu18_1 : (u18_1).toInt = (h0_site_world_force).toInt := congrArg Int32.toInt j43
    have zu18_0 : (u18_0).toInt = (h0_site_world_lawCount).toInt := congrArg Int32.toInt j42
    have wu18_1 : u18_23 (Int32.toNatClampNeg u18_1) = some t := by rw [j43, j41 _ (by have q9 := tnz (i := h0_site_world_force) (x := h0_site_world_force.toInt) rfl (by omega); omega)]; assumption
    have lw45 := fun k hk v (hv : u18_23 k = some v) => e_1 k hk v ((j41 k hk).symm.trans hv)
    refine s_X7_runOrders_T h0_paper_world u2_8 u2_9 60 (u2_10) h0_asker_world h0_asker_law h0_asker_cell h0_asker_shaft h0_asker_kind h0_asker_done h0_asker_latest h0_asker_value 400 (u2_11) (f_h0_asker_stack) u18_0 u18_1 u18_9 u18_10 u18_11 (u18_14) u18_2 (u18_4) (u18_5) (u18_22) u18_6 (u18_7) (u18_8) (u18_3) (u18_23) t t_clauses t_length n_t_heads (f_t_heads) n_t_code (f_t_code) u18_24 u18_25 (u18_26) (u18_27) (u18_28) (u18_29) (u18_30) (u18_16) (u18_17) ⟨by omega, by omega⟩ ⟨by omega, by omega⟩ j10 ⟨by omega, by omega⟩ j11 ⟨by omega, by omega⟩ ⟨by omega, by omega⟩ ⟨by omega, by omega⟩ ⟨by omega, by omega⟩ j32 j23 j24 j38 ⟨by omega, by omega⟩ j26 j27 j22 ⟨by omega, by omega⟩ ⟨by omega, by omega⟩ h_f_t_code ⟨by omega, by omega⟩ ⟨by omega, by omega⟩ j34 j35 (by omega) (by omega) (by omega) (by omega) (by omega) (by assumption) j44 (fun r46 u47_0 u47_1 u47_2 u47_3 u47_4 u47_5 u47_6 u47_7 u47_8 u47_9 u47_10 u47_11 u47_12 u47_13 u47_14 u47_15 u47_16 u47_17 u47_18 u47_19 u47_20 u47_21 u47_22 u47_23 u47_24 H48 => ?_)
    have j49 := H48.1
    have j50 := H48.2.1
    have j51 := H48.2.2.1
    have j52 := H48.2.2.2.1
    have j53 := H48.2.2.2.2.1
    have j54 := H48.2.2.2.2.2.1
    have j55 := H48.2.2.2.2.2.2.1
    have j56 := H48.2.2.2.2.2.2.2.1
    have j57 := H48.2.2.2.2.2.2.2.2.1
    have j58 := H48.2.2.2.2.2.2.2.2.2
    refine un25_i ?_
    by_cases c59 : r46 = (-1)
    · refine br1 c59 ?_
      have d60 := eq_z (a := r46) (b := (-1)) (x := (Int32.toInt r46)) (y := (-1)) rfl (by decide) c59
      refine s_X7_copyFrom u18_0 u18_1 u47_13 (u18_3) (f_h0_site_world_rock_kind) (u18_4) (f_h0_site_world_rock_hard) (u47_14) (f_h0_site_world_rock_water) u18_6 (u47_16) (f_h0_site_world_crew_cell) (u47_17) (f_h0_site_world_crew_buckets) u18_9 u18_10 u47_11 u18_12 u18_13 (u47_12) (f_h0_site_world_folk_column) (u18_15) (f_h0_site_world_folk_ear) (u18_16) (f_h0_site_world_folk_noiseColumn) (u18_17) (f_h0_site_world_folk_noiseLoud) (u18_18) (f_h0_site_world_folk_hearsayColumn) (u18_19) (f_h0_site_world_folk_hearsayLoud) (u18_20) (f_h0_site_world_folk_sounds) (u18_21) (f_h0_site_world_folk_wet) (f_h0_site_world_term) (u47_15) (u18_23) (f_h0_site_world_laws) u47_18 u47_19 (u47_20) (f_h0_site_diary_deed) (u47_21) (f_h0_site_diary_whose) (u47_22) (f_h0_site_diary_before) (u47_23) (f_h0_site_diary_bucketsBefore) (u47_24) (f_h0_site_diary_dayBefore) (fun v => TT v ∨ v = t) ⟨by omega, by omega⟩ ⟨by omega, by omega⟩ j22 h_f_h0_site_world_rock_kind j23 h_f_h0_site_world_rock_hard j52 h_f_h0_site_world_rock_water ⟨by omega, by omega⟩ j54 h_f_h0_site_world_crew_cell j55 h_f_h0_site_world_crew_buckets ⟨by omega, by omega⟩ ⟨by omega, by omega⟩ ⟨by omega, by omega⟩ ⟨by omega, by omega⟩ j51 h_f_h0_site_world_folk_column j33 h_f_h0_site_world_folk_ear j34 h_f_h0_site_world_folk_noiseColumn j35 h_f_h0_site_world_folk_noiseLoud j36 h_f_h0_site_world_folk_hearsayColumn j37 h_f_h0_site_world_folk_hearsayLoud h_f_h0_site_world_term j53 ⟨by omega, by omega⟩ ⟨by omega, by omega⟩ lw45 j58 (fun u61_0 u61_1 u61_2 u61_3 u61_4 u61_5 u61_6 u61_7 u61_8 u61_9 u61_10 u61_11 u61_12 u61_13 u61_14 u61_15 u61_16 u61_17 u61_18 u61_19 u61_20 u61_21 u61_22 u61_23 u61_24 u61_25 u61_26 u61_27 u61_28 u61_29 u61_30 H62 => ?_)
      have j63 := H62.1
      have j64 := H62.2.1
      have j65 := H62.2.2.1
      have j66 := H62.2.2.2.1
      have j67 := H62.2.2.2.2.1
      have j68 := H62.2.2.2.2.2.1
      have j69 := H62.2.2.2.2.2.2.1
      have j70 := H62.2.2.2.2.2.2.2.1
      have j71 := H62.2.2.2.2.2.2.2.2.1
      have j72 := H62.2.2.2.2.2.2.2.2.2.1
      have j73 := H62.2.2.2.2.2.2.2.2.2.2.1
      have j74 := H62.2.2.2.2.2.2.2.2.2.2.2.1
      have j75 := H62.2.2.2.2.2.2.2.2.2.2.2.2.1
      have j76 := H62.2.2.2.2.2.2.2.2.2.2.2.2.2.1
      have j77 := H62.2.2.2.2.2.2.2.2.2.2.2.2.2.2.1
      have j78 := H62.2.2.2.2.2.2.2.2.2.2.2.2.2.2.2.1
      have j79 := H62.2.2.2.2.2.2.2.2.2.2.2.2.2.2.2.2.1
      have j80 := H62.2.2.2.2.2.2.2.2.2.2.2.2.2.2.2.2.2.1
      have j81 := H62.2.2.2.2.2.2.2.2.2.2.2.2.2.2.2.2.2.2.1
      have j82 := H62.2.2.2.2.2.2.2.2.2.2.2.2.2.2.2.2.2.2.2.1
      have j83 := H62.2.2.2.2.2.2.2.2.2.2.2.2.2.2.2.2.2.2.2.2.1
      have j84 := H62.2.2.2.2.2.2.2.2.2.2.2.2.2.2.2.2.2.2.2.2.2.1
      have j85 := H62.2.2.2.2.2.2.2.2.2.2.2.2.2.2.2.2.2.2.2.2.2.2.1
      have j86 := H62.2.2.2.2.2.2.2.2.2.2.2.2.2.2.2.2.2.2.2.2.2.2.2.1
      have j87 := H62.2.2.2.2.2.2.2.2.2.2.2.2.2.2.2.2.2.2.2.2.2.2.2.2
      refine un31_i ?_
      have zu61_1 : (u61_1).toInt = (u18_1).toInt := congrArg Int32.toInt j86
      have zu61_0 : (u61_0).toInt = (u18_0).toInt := congrArg Int32.toInt j85
      refine o_X11_settle _ _ _ ?_
      refine jn_s ?_
      refine br1 (z_le (x := 0) (y := (Int32.toInt u47_0)) rfl rfl (by omega)) ?_
      refine br1 (z_le (x := 0) (y := (Int32.toInt u47_0)) rfl rfl (by omega)) ?_
      refine un2_i ?_
      have k88 : Int32.toInt (-1) = (-1) := (by decide)
      have k89 : Int32.toInt 0 = 0 := rfl
      exact hq _ _ _ _ _ _ _ _ _ _ _ _ _ _ _ _ _ _ _ _ _ _ _ _ _ _ _ _ _ _ _ _ _ _ _ _ _ _ _ _ _ _ _ _ _ _ _ _ _ _ _ _ _ _ _ _ _ _ _ _ _ _ _ _ _ _ _ _ _ _ _ _ _ _ _ _ _ _ _ _ _ _ _ _ _ _ _ _ _ ⟨⟨by omega, by omega⟩, ⟨by omega, by omega⟩, ⟨by omega, by omega⟩, ⟨by omega, by omega⟩, ⟨by omega, by omega⟩, j10, j11, ⟨by omega, by omega⟩, ⟨by omega, by omega⟩, ⟨by omega, by omega⟩, ⟨by omega, by omega⟩, j65, j22, j66, j23, j67, j52, ⟨by omega, by omega⟩, ⟨by omega, by omega⟩, j69, j54, j70, j55, ⟨by omega, by omega⟩, ⟨by omega, by omega⟩, ⟨by omega, by omega⟩, ⟨by omega, by omega⟩, ⟨by omega, by omega⟩, ⟨by omega, by omega⟩, ⟨by omega, by omega⟩, ⟨by omega, by omega⟩, j75, j51, j76, j33, j77, j34, j78, j35, j79, j36, j80, j37, j53, j81, ⟨by omega, by omega⟩, ⟨by omega, by omega⟩, ⟨by omega, by omega⟩, ⟨by omega, by omega⟩, ⟨by omega, by omega⟩, (fun k hk => (j84 k hk).trans (j41 k hk)), (j85.trans j42), (j86.trans j43), j87, (by omega)⟩
    · refine br0 c59 ?_
      have d90 := ne_z (a := r46) (b := (-1)) (x := (Int32.toInt r46)) (y := (-1)) rfl (by decide) c59
      refine o_X11_settle _ _ _ ?_
      refine jn_s ?_
      refine br0 (by decide) ?_
      refine br0 (by decide) ?_
      refine br0 (by decide) ?_
      refine ⟨by unfold vp_in; decide, ?_⟩
      refine ⟨by unfold vp_in; decide, ?_⟩
      refine un2_i ?_
      have k91 : Int32.toInt (-3) = (-3) := (by decide)
      exact hq _ _ _ _ _ _ _ _ _ _ _ _ _ _ _ _ _ _ _ _ _ _ _ _ _ _ _ _ _ _ _ _ _ _ _ _ _ _ _ _ _ _ _ _ _ _ _ _ _ _ _ _ _ _ _ _ _ _ _ _ _ _ _ _ _ _ _ _ _ _ _ _ _ _ _ _ _ _ _ _ _ _ _ _ _ _ _ _ _ ⟨⟨by omega, by omega⟩, ⟨by omega, by omega⟩, ⟨by omega, by omega⟩, ⟨by omega, by omega⟩, ⟨by omega, by omega⟩, j10, j11, ⟨by omega, by omega⟩, ⟨by omega, by omega⟩, ⟨by omega, by omega⟩, ⟨by omega, by omega⟩, h_f_h0_site_world_rock_kind, j22, h_f_h0_site_world_rock_hard, j23, h_f_h0_site_world_rock_water, j52, ⟨by omega, by omega⟩, ⟨by omega, by omega⟩, h_f_h0_site_world_crew_cell, j54, h_f_h0_site_world_crew_buckets, j55, ⟨by omega, by omega⟩, ⟨by omega, by omega⟩, ⟨by omega, by omega⟩, ⟨by omega, by omega⟩, ⟨by omega, by omega⟩, ⟨by omega, by omega⟩, ⟨by omega, by omega⟩, ⟨by omega, by omega⟩, h_f_h0_site_world_folk_column, j51, h_f_h0_site_world_folk_ear, j33, h_f_h0_site_world_folk_noiseColumn, j34, h_f_h0_site_world_folk_noiseLoud, j35, h_f_h0_site_world_folk_hearsayColumn, j36, h_f_h0_site_world_folk_hearsayLoud, j37, j53, h_f_h0_site_world_term, ⟨by omega, by omega⟩, ⟨by omega, by omega⟩, ⟨by omega, by omega⟩, ⟨by omega, by omega⟩, ⟨by omega, by omega⟩, (fun k hk => rfl), rfl, rfl, e_2, (by omega)⟩


set_option maxRecDepth 100000 in
theorem s_X11_imagex (a : Int32) (w0_lawCount : Int32) (w0_force : Int32) (h0_site_world_lawCount : Int32) (h0_site_world_force : Int32) (w0_rock_dug : Int64) (h0_site_world_rock_dug : Int64) (f_h0_site_world_rock_kind : Nat → Int32) (f_w0_rock_kind : Nat → Int32) (f_h0_site_world_rock_hard : Nat → Int32) (f_w0_rock_hard : Nat → Int32) (f_h0_site_world_rock_water : Nat → Int32) (f_w0_rock_water : Nat → Int32) (w0_crew_count : Int32) (h0_site_world_crew_count : Int32) (f_h0_site_world_crew_cell : Nat → Int32) (f_w0_crew_cell : Nat → Int32) (f_h0_site_world_crew_buckets : Nat → Int32) (f_w0_crew_buckets : Nat → Int32) (w0_folk_listeners : Int32) (w0_folk_noises : Int32) (w0_folk_hushed : Int32) (w0_folk_hearsay : Int32) (w0_folk_wells : Int32) (h0_site_world_folk_listeners : Int32) (h0_site_world_folk_noises : Int32) (h0_site_world_folk_hushed : Int32) (h0_site_world_folk_hearsay : Int32) (h0_site_world_folk_wells : Int32) (f_h0_site_world_folk_column : Nat → Int32) (f_w0_folk_column : Nat → Int32) (f_h0_site_world_folk_ear : Nat → Int32) (f_w0_folk_ear : Nat → Int32) (f_h0_site_world_folk_noiseColumn : Nat → Int32) (f_w0_folk_noiseColumn : Nat → Int32) (f_h0_site_world_folk_noiseLoud : Nat → Int32) (f_w0_folk_noiseLoud : Nat → Int32) (f_h0_site_world_folk_hearsayColumn : Nat → Int32) (f_w0_folk_hearsayColumn : Nat → Int32) (f_h0_site_world_folk_hearsayLoud : Nat → Int32) (f_w0_folk_hearsayLoud : Nat → Int32) (f_h0_site_world_folk_sounds : Nat → Int32) (f_w0_folk_sounds : Nat → Int32) (f_h0_site_world_folk_wet : Nat → Int32) (f_w0_folk_wet : Nat → Int32) (f_w0_term : Nat → Int32) (f_h0_site_world_term : Nat → Int32) (f_h0_site_world_laws : Nat → Option Nat) (f_w0_laws : Nat → Option Nat) (f_h0_kept : Nat → Int32) (f_h0_refusals : Nat → Int32) (w1_lawCount : Int32) (w1_force : Int32) (w1_rock_dug : Int64) (f_w1_rock_kind : Nat → Int32) (f_w1_rock_hard : Nat → Int32) (f_w1_rock_water : Nat → Int32) (w1_crew_count : Int32) (f_w1_crew_cell : Nat → Int32) (f_w1_crew_buckets : Nat → Int32) (w1_folk_listeners : Int32) (w1_folk_noises : Int32) (w1_folk_hushed : Int32) (w1_folk_hearsay : Int32) (w1_folk_wells : Int32) (f_w1_folk_column : Nat → Int32) (f_w1_folk_ear : Nat → Int32) (f_w1_folk_noiseColumn : Nat → Int32) (f_w1_folk_noiseLoud : Nat → Int32) (f_w1_folk_hearsayColumn : Nat → Int32) (f_w1_folk_hearsayLoud : Nat → Int32) (f_w1_folk_sounds : Nat → Int32) (f_w1_folk_wet : Nat → Int32) (f_w1_term : Nat → Int32) (f_w1_laws : Nat → Option Nat) (TT : Nat → Prop) (h_w0_lawCount : 0 ≤ w0_lawCount.toInt ∧ w0_lawCount.toInt ≤ 6) (h_w0_force : (-1) ≤ w0_force.toInt ∧ w0_force.toInt ≤ 5) (h_h0_site_world_lawCount : 0 ≤ h0_site_world_lawCount.toInt ∧ h0_site_world_lawCount.toInt ≤ 6) (h_h0_site_world_force : (-1) ≤ h0_site_world_force.toInt ∧ h0_site_world_force.toInt ≤ 5) (h_f_h0_site_world_rock_kind : KI f_h0_site_world_rock_kind) (h_f_w0_rock_kind : KI f_w0_rock_kind) (h_f_h0_site_world_rock_hard : HA f_h0_site_world_rock_hard) (h_f_w0_rock_hard : HA f_w0_rock_hard) (h_f_h0_site_world_rock_water : WA f_h0_site_world_rock_water) (h_f_w0_rock_water : WA f_w0_rock_water) (h_w0_crew_count : 0 ≤ w0_crew_count.toInt ∧ w0_crew_count.toInt ≤ 6) (h_h0_site_world_crew_count : 0 ≤ h0_site_world_crew_count.toInt ∧ h0_site_world_crew_count.toInt ≤ 6) (h_f_h0_site_world_crew_cell : CE f_h0_site_world_crew_cell) (h_f_w0_crew_cell : CE f_w0_crew_cell) (h_f_h0_site_world_crew_buckets : BU f_h0_site_world_crew_buckets) (h_f_w0_crew_buckets : BU f_w0_crew_buckets) (h_w0_folk_listeners : 0 ≤ w0_folk_listeners.toInt ∧ w0_folk_listeners.toInt ≤ 5) (h_w0_folk_noises : 0 ≤ w0_folk_noises.toInt ∧ w0_folk_noises.toInt ≤ 6) (h_w0_folk_hearsay : 0 ≤ w0_folk_hearsay.toInt ∧ w0_folk_hearsay.toInt ≤ 8) (h_w0_folk_wells : 0 ≤ w0_folk_wells.toInt ∧ w0_folk_wells.toInt ≤ 10) (h_h0_site_world_folk_listeners : 0 ≤ h0_site_world_folk_listeners.toInt ∧ h0_site_world_folk_listeners.toInt ≤ 5) (h_h0_site_world_folk_noises : 0 ≤ h0_site_world_folk_noises.toInt ∧ h0_site_world_folk_noises.toInt ≤ 6) (h_h0_site_world_folk_hearsay : 0 ≤ h0_site_world_folk_hearsay.toInt ∧ h0_site_world_folk_hearsay.toInt ≤ 8) (h_h0_site_world_folk_wells : 0 ≤ h0_site_world_folk_wells.toInt ∧ h0_site_world_folk_wells.toInt ≤ 10) (h_f_h0_site_world_folk_column : CO f_h0_site_world_folk_column) (h_f_w0_folk_column : CO f_w0_folk_column) (h_f_h0_site_world_folk_ear : EA f_h0_site_world_folk_ear) (h_f_w0_folk_ear : EA f_w0_folk_ear) (h_f_h0_site_world_folk_noiseColumn : NC f_h0_site_world_folk_noiseColumn) (h_f_w0_folk_noiseColumn : NC f_w0_folk_noiseColumn) (h_f_h0_site_world_folk_noiseLoud : NL f_h0_site_world_folk_noiseLoud) (h_f_w0_folk_noiseLoud : NL f_w0_folk_noiseLoud) (h_f_h0_site_world_folk_hearsayColumn : HC f_h0_site_world_folk_hearsayColumn) (h_f_w0_folk_hearsayColumn : HC f_w0_folk_hearsayColumn) (h_f_h0_site_world_folk_hearsayLoud : HL f_h0_site_world_folk_hearsayLoud) (h_f_w0_folk_hearsayLoud : HL f_w0_folk_hearsayLoud) (h_f_w0_term : TE f_w0_term) (h_f_h0_site_world_term : TE f_h0_site_world_term) (h_w1_lawCount : 0 ≤ w1_lawCount.toInt ∧ w1_lawCount.toInt ≤ 6) (h_w1_force : (-1) ≤ w1_force.toInt ∧ w1_force.toInt ≤ 5) (h_f_w1_rock_kind : KI f_w1_rock_kind) (h_f_w1_rock_hard : HA f_w1_rock_hard) (h_f_w1_rock_water : WA f_w1_rock_water) (h_w1_crew_count : 0 ≤ w1_crew_count.toInt ∧ w1_crew_count.toInt ≤ 6) (h_f_w1_crew_cell : CE f_w1_crew_cell) (h_f_w1_crew_buckets : BU f_w1_crew_buckets) (h_w1_folk_listeners : 0 ≤ w1_folk_listeners.toInt ∧ w1_folk_listeners.toInt ≤ 5) (h_w1_folk_noises : 0 ≤ w1_folk_noises.toInt ∧ w1_folk_noises.toInt ≤ 6) (h_w1_folk_hearsay : 0 ≤ w1_folk_hearsay.toInt ∧ w1_folk_hearsay.toInt ≤ 8) (h_w1_folk_wells : 0 ≤ w1_folk_wells.toInt ∧ w1_folk_wells.toInt ≤ 10) (h_f_w1_folk_column : CO f_w1_folk_column) (h_f_w1_folk_ear : EA f_w1_folk_ear) (h_f_w1_folk_noiseColumn : NC f_w1_folk_noiseColumn) (h_f_w1_folk_noiseLoud : NL f_w1_folk_noiseLoud) (h_f_w1_folk_hearsayColumn : HC f_w1_folk_hearsayColumn) (h_f_w1_folk_hearsayLoud : HL f_w1_folk_hearsayLoud) (h_f_w1_term : TE f_w1_term) (e_0 : ∀ k, k < 6 → ∀ v, f_h0_site_world_laws k = some v → TT v) {Q : Int32 → (Int32 × Int32 × Int32 × Int64 × (Nat → Int32) × (Nat → Int32) × (Nat → Int32) × Int32 × (Nat → Int32) × (Nat → Int32) × Int32 × Int32 × Int32 × Int32 × Int32 × (Nat → Int32) × (Nat → Int32) × (Nat → Int32) × (Nat → Int32) × (Nat → Int32) × (Nat → Int32) × (Nat → Int32) × (Nat → Int32) × (Nat → Int32) × (Nat → Option Nat) × (Nat → Int32) × (Nat → Int32) × Int32 × Int32 × Int64 × (Nat → Int32) × (Nat → Int32) × (Nat → Int32) × Int32 × (Nat → Int32) × (Nat → Int32) × Int32 × Int32 × Int32 × Int32 × Int32 × (Nat → Int32) × (Nat → Int32) × (Nat → Int32) × (Nat → Int32) × (Nat → Int32) × (Nat → Int32) × (Nat → Int32) × (Nat → Int32) × (Nat → Int32) × (Nat → Option Nat)) → Prop} (hq : ∀ (r : Int32) (u_0 : Int32) (u_1 : Int32) (u_2 : Int32) (u_3 : Int64) (u_4 : Nat → Int32) (u_5 : Nat → Int32) (u_6 : Nat → Int32) (u_7 : Int32) (u_8 : Nat → Int32) (u_9 : Nat → Int32) (u_10 : Int32) (u_11 : Int32) (u_12 : Int32) (u_13 : Int32) (u_14 : Int32) (u_15 : Nat → Int32) (u_16 : Nat → Int32) (u_17 : Nat → Int32) (u_18 : Nat → Int32) (u_19 : Nat → Int32) (u_20 : Nat → Int32) (u_21 : Nat → Int32) (u_22 : Nat → Int32) (u_23 : Nat → Int32) (u_24 : Nat → Option Nat) (u_25 : Nat → Int32) (u_26 : Nat → Int32) (u_27 : Int32) (u_28 : Int32) (u_29 : Int64) (u_30 : Nat → Int32) (u_31 : Nat → Int32) (u_32 : Nat → Int32) (u_33 : Int32) (u_34 : Nat → Int32) (u_35 : Nat → Int32) (u_36 : Int32) (u_37 : Int32) (u_38 : Int32) (u_39 : Int32) (u_40 : Int32) (u_41 : Nat → Int32) (u_42 : Nat → Int32) (u_43 : Nat → Int32) (u_44 : Nat → Int32) (u_45 : Nat → Int32) (u_46 : Nat → Int32) (u_47 : Nat → Int32) (u_48 : Nat → Int32) (u_49 : Nat → Int32) (u_50 : Nat → Option Nat), (0 ≤ u_1.toInt ∧ u_1.toInt ≤ 6) ∧ ((-1) ≤ u_2.toInt ∧ u_2.toInt ≤ 5) ∧ (KI u_4) ∧ (HA u_5) ∧ (WA u_6) ∧ (0 ≤ u_7.toInt ∧ u_7.toInt ≤ 6) ∧ (CE u_8) ∧ (BU u_9) ∧ (0 ≤ u_10.toInt ∧ u_10.toInt ≤ 5) ∧ (0 ≤ u_11.toInt ∧ u_11.toInt ≤ 6) ∧ (0 ≤ u_13.toInt ∧ u_13.toInt ≤ 8) ∧ (0 ≤ u_14.toInt ∧ u_14.toInt ≤ 10) ∧ (CO u_15) ∧ (EA u_16) ∧ (NC u_17) ∧ (NL u_18) ∧ (HC u_19) ∧ (HL u_20) ∧ (TE u_23) ∧ (0 ≤ u_27.toInt ∧ u_27.toInt ≤ 6) ∧ ((-1) ≤ u_28.toInt ∧ u_28.toInt ≤ 5) ∧ (KI u_30) ∧ (HA u_31) ∧ (WA u_32) ∧ (0 ≤ u_33.toInt ∧ u_33.toInt ≤ 6) ∧ (CE u_34) ∧ (BU u_35) ∧ (0 ≤ u_36.toInt ∧ u_36.toInt ≤ 5) ∧ (0 ≤ u_37.toInt ∧ u_37.toInt ≤ 6) ∧ (0 ≤ u_39.toInt ∧ u_39.toInt ≤ 8) ∧ (0 ≤ u_40.toInt ∧ u_40.toInt ≤ 10) ∧ (CO u_41) ∧ (EA u_42) ∧ (NC u_43) ∧ (NL u_44) ∧ (HC u_45) ∧ (HL u_46) ∧ (TE u_49) ∧ ((0 ≤ a.toInt ∧ a.toInt ≤ 1 ∧ r.toInt = 0) ∨ ((a.toInt < 0 ∨ 2 ≤ a.toInt) ∧ r.toInt = -1)) ∧ (((∀ k, k < 6 → u_24 k = f_w0_laws k) ∧ u_1 = w0_lawCount ∧ u_2 = w0_force) ∨ ((∀ k, k < 6 → u_24 k = f_h0_site_world_laws k) ∧ u_1 = h0_site_world_lawCount ∧ u_2 = h0_site_world_force)) ∧ (((∀ k, k < 6 → u_50 k = f_w1_laws k) ∧ u_27 = w1_lawCount ∧ u_28 = w1_force) ∨ ((∀ k, k < 6 → u_50 k = f_h0_site_world_laws k) ∧ u_27 = h0_site_world_lawCount ∧ u_28 = h0_site_world_force)) ∧ (u_25 = kpI a f_h0_kept) → Q r (u_0, u_1, u_2, u_3, u_4, u_5, u_6, u_7, u_8, u_9, u_10, u_11, u_12, u_13, u_14, u_15, u_16, u_17, u_18, u_19, u_20, u_21, u_22, u_23, u_24, u_25, u_26, u_27, u_28, u_29, u_30, u_31, u_32, u_33, u_34, u_35, u_36, u_37, u_38, u_39, u_40, u_41, u_42, u_43, u_44, u_45, u_46, u_47, u_48, u_49, u_50)) : wp_X11_image a w0_lawCount w0_force h0_site_world_lawCount h0_site_world_force w0_rock_dug h0_site_world_rock_dug f_h0_site_world_rock_kind f_w0_rock_kind f_h0_site_world_rock_hard f_w0_rock_hard f_h0_site_world_rock_water f_w0_rock_water w0_crew_count h0_site_world_crew_count f_h0_site_world_crew_cell f_w0_crew_cell f_h0_site_world_crew_buckets f_w0_crew_buckets w0_folk_listeners w0_folk_noises w0_folk_hushed w0_folk_hearsay w0_folk_wells h0_site_world_folk_listeners h0_site_world_folk_noises h0_site_world_folk_hushed h0_site_world_folk_hearsay h0_site_world_folk_wells f_h0_site_world_folk_column f_w0_folk_column f_h0_site_world_folk_ear f_w0_folk_ear f_h0_site_world_folk_noiseColumn f_w0_folk_noiseColumn f_h0_site_world_folk_noiseLoud f_w0_folk_noiseLoud f_h0_site_world_folk_hearsayColumn f_w0_folk_hearsayColumn f_h0_site_world_folk_hearsayLoud f_w0_folk_hearsayLoud f_h0_site_world_folk_sounds f_w0_folk_sounds f_h0_site_world_folk_wet f_w0_folk_wet f_w0_term f_h0_site_world_term f_h0_site_world_laws f_w0_laws f_h0_kept f_h0_refusals w1_lawCount w1_force w1_rock_dug f_w1_rock_kind f_w1_rock_hard f_w1_rock_water w1_crew_count f_w1_crew_cell f_w1_crew_buckets w1_folk_listeners w1_folk_noises w1_folk_hushed w1_folk_hearsay w1_folk_wells f_w1_folk_column f_w1_folk_ear f_w1_folk_noiseColumn f_w1_folk_noiseLoud f_w1_folk_hearsayColumn f_w1_folk_hearsayLoud f_w1_folk_sounds f_w1_folk_wet f_w1_term f_w1_laws TT Q := by
  unfold wp_X11_image
  refine o_X11_isWithin _ _ _ ?_
  by_cases c1 : a < 0
  · refine br1 c1 ?_
    have d2 := lt_z (a := a) (b := 0) (x := (Int32.toInt a)) (y := 0) rfl rfl c1
    refine br1 (by decide) ?_
    refine o_X11_settle _ _ _ ?_
    refine jn_s ?_
    refine br0 (by decide) ?_
    refine br0 (by decide) ?_
    refine br0 (by decide) ?_
    refine ⟨by unfold vp_in; decide, ?_⟩
    refine ⟨by unfold vp_in; decide, ?_⟩
    refine un2_i ?_
    have k3 : Int32.toInt (-1) = (-1) := (by decide)
    exact hq _ _ _ _ _ _ _ _ _ _ _ _ _ _ _ _ _ _ _ _ _ _ _ _ _ _ _ _ _ _ _ _ _ _ _ _ _ _ _ _ _ _ _ _ _ _ _ _ _ _ _ _ ⟨⟨by omega, by omega⟩, ⟨by omega, by omega⟩, h_f_w0_rock_kind, h_f_w0_rock_hard, h_f_w0_rock_water, ⟨by omega, by omega⟩, h_f_w0_crew_cell, h_f_w0_crew_buckets, ⟨by omega, by omega⟩, ⟨by omega, by omega⟩, ⟨by omega, by omega⟩, ⟨by omega, by omega⟩, h_f_w0_folk_column, h_f_w0_folk_ear, h_f_w0_folk_noiseColumn, h_f_w0_folk_noiseLoud, h_f_w0_folk_hearsayColumn, h_f_w0_folk_hearsayLoud, h_f_w0_term, ⟨by omega, by omega⟩, ⟨by omega, by omega⟩, h_f_w1_rock_kind, h_f_w1_rock_hard, h_f_w1_rock_water, ⟨by omega, by omega⟩, h_f_w1_crew_cell, h_f_w1_crew_buckets, ⟨by omega, by omega⟩, ⟨by omega, by omega⟩, ⟨by omega, by omega⟩, ⟨by omega, by omega⟩, h_f_w1_folk_column, h_f_w1_folk_ear, h_f_w1_folk_noiseColumn, h_f_w1_folk_noiseLoud, h_f_w1_folk_hearsayColumn, h_f_w1_folk_hearsayLoud, h_f_w1_term, (by omega), (Or.inl ⟨fun k hk => rfl, rfl, rfl⟩), (Or.inl ⟨fun k hk => rfl, rfl, rfl⟩), (by first | exact kp_p (by omega) (by omega) | exact kp_n (by omega))⟩
  · refine br0 c1 ?_
    have d4 := nlt_z (a := a) (b := 0) (x := (Int32.toInt a)) (y := 0) rfl rfl c1
    by_cases c5 : 2 ≤ a
    · refine br1 c5 ?_
      have d6 := le_z (a := 2) (b := a) (x := 2) (y := (Int32.toInt a)) rfl rfl c5
      refine br1 (by decide) ?_
      refine o_X11_settle _ _ _ ?_
      refine jn_s ?_
      refine br0 (by decide) ?_
      refine br0 (by decide) ?_
      refine br0 (by decide) ?_
      refine ⟨by unfold vp_in; decide, ?_⟩
      refine ⟨by unfold vp_in; decide, ?_⟩
      refine un2_i ?_
      have k7 : Int32.toInt (-1) = (-1) := (by decide)
      exact hq _ _ _ _ _ _ _ _ _ _ _ _ _ _ _ _ _ _ _ _ _ _ _ _ _ _ _ _ _ _ _ _ _ _ _ _ _ _ _ _ _ _ _ _ _ _ _ _ _ _ _ _ ⟨⟨by omega, by omega⟩, ⟨by omega, by omega⟩, h_f_w0_rock_kind, h_f_w0_rock_hard, h_f_w0_rock_water, ⟨by omega, by omega⟩, h_f_w0_crew_cell, h_f_w0_crew_buckets, ⟨by omega, by omega⟩, ⟨by omega, by omega⟩, ⟨by omega, by omega⟩, ⟨by omega, by omega⟩, h_f_w0_folk_column, h_f_w0_folk_ear, h_f_w0_folk_noiseColumn, h_f_w0_folk_noiseLoud, h_f_w0_folk_hearsayColumn, h_f_w0_folk_hearsayLoud, h_f_w0_term, ⟨by omega, by omega⟩, ⟨by omega, by omega⟩, h_f_w1_rock_kind, h_f_w1_rock_hard, h_f_w1_rock_water, ⟨by omega, by omega⟩, h_f_w1_crew_cell, h_f_w1_crew_buckets, ⟨by omega, by omega⟩, ⟨by omega, by omega⟩, ⟨by omega, by omega⟩, ⟨by omega, by omega⟩, h_f_w1_folk_column, h_f_w1_folk_ear, h_f_w1_folk_noiseColumn, h_f_w1_folk_noiseLoud, h_f_w1_folk_hearsayColumn, h_f_w1_folk_hearsayLoud, h_f_w1_term, (by omega), (Or.inl ⟨fun k hk => rfl, rfl, rfl⟩), (Or.inl ⟨fun k hk => rfl, rfl, rfl⟩), (by first | exact kp_p (by omega) (by omega) | exact kp_n (by omega))⟩
    · refine br0 c5 ?_
      have d8 := nle_z (a := 2) (b := a) (x := 2) (y := (Int32.toInt a)) rfl rfl c5
      refine br0 (by decide) ?_
      refine ⟨vpi (x := (Int32.toInt a)) rfl (by omega) (by omega), ?_⟩
      by_cases c9 : a = 0
      · refine br1 c9 ?_
        have d10 := eq_z (a := a) (b := 0) (x := (Int32.toInt a)) (y := 0) rfl rfl c9
        refine s_X10_copyFrom h0_site_world_lawCount h0_site_world_force h0_site_world_rock_dug (f_h0_site_world_rock_kind) (f_w0_rock_kind) (f_h0_site_world_rock_hard) (f_w0_rock_hard) (f_h0_site_world_rock_water) (f_w0_rock_water) h0_site_world_crew_count (f_h0_site_world_crew_cell) (f_w0_crew_cell) (f_h0_site_world_crew_buckets) (f_w0_crew_buckets) h0_site_world_folk_listeners h0_site_world_folk_noises h0_site_world_folk_hushed h0_site_world_folk_hearsay h0_site_world_folk_wells (f_h0_site_world_folk_column) (f_w0_folk_column) (f_h0_site_world_folk_ear) (f_w0_folk_ear) (f_h0_site_world_folk_noiseColumn) (f_w0_folk_noiseColumn) (f_h0_site_world_folk_noiseLoud) (f_w0_folk_noiseLoud) (f_h0_site_world_folk_hearsayColumn) (f_w0_folk_hearsayColumn) (f_h0_site_world_folk_hearsayLoud) (f_w0_folk_hearsayLoud) (f_h0_site_world_folk_sounds) (f_w0_folk_sounds) (f_h0_site_world_folk_wet) (f_w0_folk_wet) (f_w0_term) (f_h0_site_world_term) (f_h0_site_world_laws) (f_w0_laws) TT ⟨by omega, by omega⟩ ⟨by omega, by omega⟩ h_f_h0_site_world_rock_kind h_f_w0_rock_kind h_f_h0_site_world_rock_hard h_f_w0_rock_hard h_f_h0_site_world_rock_water h_f_w0_rock_water ⟨by omega, by omega⟩ h_f_h0_site_world_crew_cell h_f_w0_crew_cell h_f_h0_site_world_crew_buckets h_f_w0_crew_buckets ⟨by omega, by omega⟩ ⟨by omega, by omega⟩ ⟨by omega, by omega⟩ ⟨by omega, by omega⟩ h_f_h0_site_world_folk_column h_f_w0_folk_column h_f_h0_site_world_folk_ear h_f_w0_folk_ear h_f_h0_site_world_folk_noiseColumn h_f_w0_folk_noiseColumn h_f_h0_site_world_folk_noiseLoud h_f_w0_folk_noiseLoud h_f_h0_site_world_folk_hearsayColumn h_f_w0_folk_hearsayColumn h_f_h0_site_world_folk_hearsayLoud h_f_w0_folk_hearsayLoud h_f_w0_term h_f_h0_site_world_term e_0 (fun u11_0 u11_1 u11_2 u11_3 u11_4 u11_5 u11_6 u11_7 u11_8 u11_9 u11_10 u11_11 u11_12 u11_13 u11_14 u11_15 u11_16 u11_17 u11_18 u11_19 u11_20 u11_21 u11_22 u11_23 H12 => ?_)
        have j13 := H12.1
        have j14 := H12.2.1
        have j15 := H12.2.2.1
        have j16 := H12.2.2.2.1
        have j17 := H12.2.2.2.2.1
        have j18 := H12.2.2.2.2.2.1
        have j19 := H12.2.2.2.2.2.2.1
        have j20 := H12.2.2.2.2.2.2.2.1
        have j21 := H12.2.2.2.2.2.2.2.2.1
        have j22 := H12.2.2.2.2.2.2.2.2.2.1
        have j23 := H12.2.2.2.2.2.2.2.2.2.2.1
        have j24 := H12.2.2.2.2.2.2.2.2.2.2.2.1
        have j25 := H12.2.2.2.2.2.2.2.2.2.2.2.2.1
        have j26 := H12.2.2.2.2.2.2.2.2.2.2.2.2.2.1
        have j27 := H12.2.2.2.2.2.2.2.2.2.2.2.2.2.2.1
        have j28 := H12.2.2.2.2.2.2.2.2.2.2.2.2.2.2.2.1
        have j29 := H12.2.2.2.2.2.2.2.2.2.2.2.2.2.2.2.2.1
        have j30 := H12.2.2.2.2.2.2.2.2.2.2.2.2.2.2.2.2.2.1
        have j31 := H12.2.2.2.2.2.2.2.2.2.2.2.2.2.2.2.2.2.2.1
        have j32 := H12.2.2.2.2.2.2.2.2.2.2.2.2.2.2.2.2.2.2.2.1
        have j33 := H12.2.2.2.2.2.2.2.2.2.2.2.2.2.2.2.2.2.2.2.2.1
        have j34 := H12.2.2.2.2.2.2.2.2.2.2.2.2.2.2.2.2.2.2.2.2.2
        refine un24_i ?_
        refine ⟨vpi (x := (Int32.toInt a)) rfl (by omega) (by omega), ?_⟩
        refine o_X11_settle _ _ _ ?_
        refine jn_s ?_
        refine br1 (by decide) ?_
        refine br1 (by decide) ?_
        refine un2_i ?_
        have k35 : Int32.toInt 0 = 0 := rfl
        exact hq _ _ _ _ _ _ _ _ _ _ _ _ _ _ _ _ _ _ _ _ _ _ _ _ _ _ _ _ _ _ _ _ _ _ _ _ _ _ _ _ _ _ _ _ _ _ _ _ _ _ _ _ ⟨⟨by omega, by omega⟩, ⟨by omega, by omega⟩, j15, j16, j17, ⟨by omega, by omega⟩, j19, j20, ⟨by omega, by omega⟩, ⟨by omega, by omega⟩, ⟨by omega, by omega⟩, ⟨by omega, by omega⟩, j25, j26, j27, j28, j29, j30, j31, ⟨by omega, by omega⟩, ⟨by omega, by omega⟩, h_f_w1_rock_kind, h_f_w1_rock_hard, h_f_w1_rock_water, ⟨by omega, by omega⟩, h_f_w1_crew_cell, h_f_w1_crew_buckets, ⟨by omega, by omega⟩, ⟨by omega, by omega⟩, ⟨by omega, by omega⟩, ⟨by omega, by omega⟩, h_f_w1_folk_column, h_f_w1_folk_ear, h_f_w1_folk_noiseColumn, h_f_w1_folk_noiseLoud, h_f_w1_folk_hearsayColumn, h_f_w1_folk_hearsayLoud, h_f_w1_term, (by omega), (Or.inr ⟨j32, j33, j34⟩), (Or.inl ⟨fun k hk => rfl, rfl, rfl⟩), (by first | exact kp_p (by omega) (by omega) | exact kp_n (by omega))⟩
      · refine br0 c9 ?_
        have d36 := ne_z (a := a) (b := 0) (x := (Int32.toInt a)) (y := 0) rfl rfl c9
        refine s_X10_copyFrom h0_site_world_lawCount h0_site_world_force h0_site_world_rock_dug (f_h0_site_world_rock_kind) (f_w1_rock_kind) (f_h0_site_world_rock_hard) (f_w1_rock_hard) (f_h0_site_world_rock_water) (f_w1_rock_water) h0_site_world_crew_count (f_h0_site_world_crew_cell) (f_w1_crew_cell) (f_h0_site_world_crew_buckets) (f_w1_crew_buckets) h0_site_world_folk_listeners h0_site_world_folk_noises h0_site_world_folk_hushed h0_site_world_folk_hearsay h0_site_world_folk_wells (f_h0_site_world_folk_column) (f_w1_folk_column) (f_h0_site_world_folk_ear) (f_w1_folk_ear) (f_h0_site_world_folk_noiseColumn) (f_w1_folk_noiseColumn) (f_h0_site_world_folk_noiseLoud) (f_w1_folk_noiseLoud) (f_h0_site_world_folk_hearsayColumn) (f_w1_folk_hearsayColumn) (f_h0_site_world_folk_hearsayLoud) (f_w1_folk_hearsayLoud) (f_h0_site_world_folk_sounds) (f_w1_folk_sounds) (f_h0_site_world_folk_wet) (f_w1_folk_wet) (f_w1_term) (f_h0_site_world_term) (f_h0_site_world_laws) (f_w1_laws) TT ⟨by omega, by omega⟩ ⟨by omega, by omega⟩ h_f_h0_site_world_rock_kind h_f_w1_rock_kind h_f_h0_site_world_rock_hard h_f_w1_rock_hard h_f_h0_site_world_rock_water h_f_w1_rock_water ⟨by omega, by omega⟩ h_f_h0_site_world_crew_cell h_f_w1_crew_cell h_f_h0_site_world_crew_buckets h_f_w1_crew_buckets ⟨by omega, by omega⟩ ⟨by omega, by omega⟩ ⟨by omega, by omega⟩ ⟨by omega, by omega⟩ h_f_h0_site_world_folk_column h_f_w1_folk_column h_f_h0_site_world_folk_ear h_f_w1_folk_ear h_f_h0_site_world_folk_noiseColumn h_f_w1_folk_noiseColumn h_f_h0_site_world_folk_noiseLoud h_f_w1_folk_noiseLoud h_f_h0_site_world_folk_hearsayColumn h_f_w1_folk_hearsayColumn h_f_h0_site_world_folk_hearsayLoud h_f_w1_folk_hearsayLoud h_f_w1_term h_f_h0_site_world_term e_0 (fun u37_0 u37_1 u37_2 u37_3 u37_4 u37_5 u37_6 u37_7 u37_8 u37_9 u37_10 u37_11 u37_12 u37_13 u37_14 u37_15 u37_16 u37_17 u37_18 u37_19 u37_20 u37_21 u37_22 u37_23 H38 => ?_)
        have j39 := H38.1
        have j40 := H38.2.1
        have j41 := H38.2.2.1
        have j42 := H38.2.2.2.1
        have j43 := H38.2.2.2.2.1
        have j44 := H38.2.2.2.2.2.1
        have j45 := H38.2.2.2.2.2.2.1
        have j46 := H38.2.2.2.2.2.2.2.1
        have j47 := H38.2.2.2.2.2.2.2.2.1
        have j48 := H38.2.2.2.2.2.2.2.2.2.1
        have j49 := H38.2.2.2.2.2.2.2.2.2.2.1
        have j50 := H38.2.2.2.2.2.2.2.2.2.2.2.1
        have j51 := H38.2.2.2.2.2.2.2.2.2.2.2.2.1
        have j52 := H38.2.2.2.2.2.2.2.2.2.2.2.2.2.1
        have j53 := H38.2.2.2.2.2.2.2.2.2.2.2.2.2.2.1
        have j54 := H38.2.2.2.2.2.2.2.2.2.2.2.2.2.2.2.1
        have j55 := H38.2.2.2.2.2.2.2.2.2.2.2.2.2.2.2.2.1
        have j56 := H38.2.2.2.2.2.2.2.2.2.2.2.2.2.2.2.2.2.1
        have j57 := H38.2.2.2.2.2.2.2.2.2.2.2.2.2.2.2.2.2.2.1
        have j58 := H38.2.2.2.2.2.2.2.2.2.2.2.2.2.2.2.2.2.2.2.1
        have j59 := H38.2.2.2.2.2.2.2.2.2.2.2.2.2.2.2.2.2.2.2.2.1
        have j60 := H38.2.2.2.2.2.2.2.2.2.2.2.2.2.2.2.2.2.2.2.2.2
        refine un24_i ?_
        refine ⟨vpi (x := (Int32.toInt a)) rfl (by omega) (by omega), ?_⟩
        refine o_X11_settle _ _ _ ?_
        refine jn_s ?_
        refine br1 (by decide) ?_
        refine br1 (by decide) ?_
        refine un2_i ?_
        have k61 : Int32.toInt 0 = 0 := rfl
        exact hq _ _ _ _ _ _ _ _ _ _ _ _ _ _ _ _ _ _ _ _ _ _ _ _ _ _ _ _ _ _ _ _ _ _ _ _ _ _ _ _ _ _ _ _ _ _ _ _ _ _ _ _ ⟨⟨by omega, by omega⟩, ⟨by omega, by omega⟩, h_f_w0_rock_kind, h_f_w0_rock_hard, h_f_w0_rock_water, ⟨by omega, by omega⟩, h_f_w0_crew_cell, h_f_w0_crew_buckets, ⟨by omega, by omega⟩, ⟨by omega, by omega⟩, ⟨by omega, by omega⟩, ⟨by omega, by omega⟩, h_f_w0_folk_column, h_f_w0_folk_ear, h_f_w0_folk_noiseColumn, h_f_w0_folk_noiseLoud, h_f_w0_folk_hearsayColumn, h_f_w0_folk_hearsayLoud, h_f_w0_term, ⟨by omega, by omega⟩, ⟨by omega, by omega⟩, j41, j42, j43, ⟨by omega, by omega⟩, j45, j46, ⟨by omega, by omega⟩, ⟨by omega, by omega⟩, ⟨by omega, by omega⟩, ⟨by omega, by omega⟩, j51, j52, j53, j54, j55, j56, j57, (by omega), (Or.inl ⟨fun k hk => rfl, rfl, rfl⟩), (Or.inr ⟨j58, j59, j60⟩), (by first | exact kp_p (by omega) (by omega) | exact kp_n (by omega))⟩


set_option maxRecDepth 100000 in
theorem s_X11_backx (a : Int32) (f_h0_kept : Nat → Int32) (h0_site_world_lawCount : Int32) (h0_site_world_force : Int32) (w0_lawCount : Int32) (w0_force : Int32) (h0_site_world_rock_dug : Int64) (w0_rock_dug : Int64) (f_w0_rock_kind : Nat → Int32) (f_h0_site_world_rock_kind : Nat → Int32) (f_w0_rock_hard : Nat → Int32) (f_h0_site_world_rock_hard : Nat → Int32) (f_w0_rock_water : Nat → Int32) (f_h0_site_world_rock_water : Nat → Int32) (h0_site_world_crew_count : Int32) (w0_crew_count : Int32) (f_w0_crew_cell : Nat → Int32) (f_h0_site_world_crew_cell : Nat → Int32) (f_w0_crew_buckets : Nat → Int32) (f_h0_site_world_crew_buckets : Nat → Int32) (h0_site_world_folk_listeners : Int32) (h0_site_world_folk_noises : Int32) (h0_site_world_folk_hushed : Int32) (h0_site_world_folk_hearsay : Int32) (h0_site_world_folk_wells : Int32) (w0_folk_listeners : Int32) (w0_folk_noises : Int32) (w0_folk_hushed : Int32) (w0_folk_hearsay : Int32) (w0_folk_wells : Int32) (f_w0_folk_column : Nat → Int32) (f_h0_site_world_folk_column : Nat → Int32) (f_w0_folk_ear : Nat → Int32) (f_h0_site_world_folk_ear : Nat → Int32) (f_w0_folk_noiseColumn : Nat → Int32) (f_h0_site_world_folk_noiseColumn : Nat → Int32) (f_w0_folk_noiseLoud : Nat → Int32) (f_h0_site_world_folk_noiseLoud : Nat → Int32) (f_w0_folk_hearsayColumn : Nat → Int32) (f_h0_site_world_folk_hearsayColumn : Nat → Int32) (f_w0_folk_hearsayLoud : Nat → Int32) (f_h0_site_world_folk_hearsayLoud : Nat → Int32) (f_w0_folk_sounds : Nat → Int32) (f_h0_site_world_folk_sounds : Nat → Int32) (f_w0_folk_wet : Nat → Int32) (f_h0_site_world_folk_wet : Nat → Int32) (f_h0_site_world_term : Nat → Int32) (f_w0_term : Nat → Int32) (f_w0_laws : Nat → Option Nat) (f_h0_site_world_laws : Nat → Option Nat) (h0_site_diary_kept : Int32) (f_h0_refusals : Nat → Int32) (w1_lawCount : Int32) (w1_force : Int32) (w1_rock_dug : Int64) (f_w1_rock_kind : Nat → Int32) (f_w1_rock_hard : Nat → Int32) (f_w1_rock_water : Nat → Int32) (w1_crew_count : Int32) (f_w1_crew_cell : Nat → Int32) (f_w1_crew_buckets : Nat → Int32) (w1_folk_listeners : Int32) (w1_folk_noises : Int32) (w1_folk_hushed : Int32) (w1_folk_hearsay : Int32) (w1_folk_wells : Int32) (f_w1_folk_column : Nat → Int32) (f_w1_folk_ear : Nat → Int32) (f_w1_folk_noiseColumn : Nat → Int32) (f_w1_folk_noiseLoud : Nat → Int32) (f_w1_folk_hearsayColumn : Nat → Int32) (f_w1_folk_hearsayLoud : Nat → Int32) (f_w1_folk_sounds : Nat → Int32) (f_w1_folk_wet : Nat → Int32) (f_w1_term : Nat → Int32) (f_w1_laws : Nat → Option Nat) (TT : Nat → Prop) (h_h0_site_world_lawCount : 0 ≤ h0_site_world_lawCount.toInt ∧ h0_site_world_lawCount.toInt ≤ 6) (h_h0_site_world_force : (-1) ≤ h0_site_world_force.toInt ∧ h0_site_world_force.toInt ≤ 5) (h_w0_lawCount : 0 ≤ w0_lawCount.toInt ∧ w0_lawCount.toInt ≤ 6) (h_w0_force : (-1) ≤ w0_force.toInt ∧ w0_force.toInt ≤ 5) (h_f_w0_rock_kind : KI f_w0_rock_kind) (h_f_h0_site_world_rock_kind : KI f_h0_site_world_rock_kind) (h_f_w0_rock_hard : HA f_w0_rock_hard) (h_f_h0_site_world_rock_hard : HA f_h0_site_world_rock_hard) (h_f_w0_rock_water : WA f_w0_rock_water) (h_f_h0_site_world_rock_water : WA f_h0_site_world_rock_water) (h_h0_site_world_crew_count : 0 ≤ h0_site_world_crew_count.toInt ∧ h0_site_world_crew_count.toInt ≤ 6) (h_w0_crew_count : 0 ≤ w0_crew_count.toInt ∧ w0_crew_count.toInt ≤ 6) (h_f_w0_crew_cell : CE f_w0_crew_cell) (h_f_h0_site_world_crew_cell : CE f_h0_site_world_crew_cell) (h_f_w0_crew_buckets : BU f_w0_crew_buckets) (h_f_h0_site_world_crew_buckets : BU f_h0_site_world_crew_buckets) (h_h0_site_world_folk_listeners : 0 ≤ h0_site_world_folk_listeners.toInt ∧ h0_site_world_folk_listeners.toInt ≤ 5) (h_h0_site_world_folk_noises : 0 ≤ h0_site_world_folk_noises.toInt ∧ h0_site_world_folk_noises.toInt ≤ 6) (h_h0_site_world_folk_hearsay : 0 ≤ h0_site_world_folk_hearsay.toInt ∧ h0_site_world_folk_hearsay.toInt ≤ 8) (h_h0_site_world_folk_wells : 0 ≤ h0_site_world_folk_wells.toInt ∧ h0_site_world_folk_wells.toInt ≤ 10) (h_w0_folk_listeners : 0 ≤ w0_folk_listeners.toInt ∧ w0_folk_listeners.toInt ≤ 5) (h_w0_folk_noises : 0 ≤ w0_folk_noises.toInt ∧ w0_folk_noises.toInt ≤ 6) (h_w0_folk_hearsay : 0 ≤ w0_folk_hearsay.toInt ∧ w0_folk_hearsay.toInt ≤ 8) (h_w0_folk_wells : 0 ≤ w0_folk_wells.toInt ∧ w0_folk_wells.toInt ≤ 10) (h_f_w0_folk_column : CO f_w0_folk_column) (h_f_h0_site_world_folk_column : CO f_h0_site_world_folk_column) (h_f_w0_folk_ear : EA f_w0_folk_ear) (h_f_h0_site_world_folk_ear : EA f_h0_site_world_folk_ear) (h_f_w0_folk_noiseColumn : NC f_w0_folk_noiseColumn) (h_f_h0_site_world_folk_noiseColumn : NC f_h0_site_world_folk_noiseColumn) (h_f_w0_folk_noiseLoud : NL f_w0_folk_noiseLoud) (h_f_h0_site_world_folk_noiseLoud : NL f_h0_site_world_folk_noiseLoud) (h_f_w0_folk_hearsayColumn : HC f_w0_folk_hearsayColumn) (h_f_h0_site_world_folk_hearsayColumn : HC f_h0_site_world_folk_hearsayColumn) (h_f_w0_folk_hearsayLoud : HL f_w0_folk_hearsayLoud) (h_f_h0_site_world_folk_hearsayLoud : HL f_h0_site_world_folk_hearsayLoud) (h_f_h0_site_world_term : TE f_h0_site_world_term) (h_f_w0_term : TE f_w0_term) (h_h0_site_diary_kept : 0 ≤ h0_site_diary_kept.toInt ∧ h0_site_diary_kept.toInt ≤ 16) (h_w1_lawCount : 0 ≤ w1_lawCount.toInt ∧ w1_lawCount.toInt ≤ 6) (h_w1_force : (-1) ≤ w1_force.toInt ∧ w1_force.toInt ≤ 5) (h_f_w1_rock_kind : KI f_w1_rock_kind) (h_f_w1_rock_hard : HA f_w1_rock_hard) (h_f_w1_rock_water : WA f_w1_rock_water) (h_w1_crew_count : 0 ≤ w1_crew_count.toInt ∧ w1_crew_count.toInt ≤ 6) (h_f_w1_crew_cell : CE f_w1_crew_cell) (h_f_w1_crew_buckets : BU f_w1_crew_buckets) (h_w1_folk_listeners : 0 ≤ w1_folk_listeners.toInt ∧ w1_folk_listeners.toInt ≤ 5) (h_w1_folk_noises : 0 ≤ w1_folk_noises.toInt ∧ w1_folk_noises.toInt ≤ 6) (h_w1_folk_hearsay : 0 ≤ w1_folk_hearsay.toInt ∧ w1_folk_hearsay.toInt ≤ 8) (h_w1_folk_wells : 0 ≤ w1_folk_wells.toInt ∧ w1_folk_wells.toInt ≤ 10) (h_f_w1_folk_column : CO f_w1_folk_column) (h_f_w1_folk_ear : EA f_w1_folk_ear) (h_f_w1_folk_noiseColumn : NC f_w1_folk_noiseColumn) (h_f_w1_folk_noiseLoud : NL f_w1_folk_noiseLoud) (h_f_w1_folk_hearsayColumn : HC f_w1_folk_hearsayColumn) (h_f_w1_folk_hearsayLoud : HL f_w1_folk_hearsayLoud) (h_f_w1_term : TE f_w1_term) (e_0 : ∀ k, k < 6 → ∀ v, f_w0_laws k = some v → TT v) (e_1 : ∀ k, k < 6 → ∀ v, f_w1_laws k = some v → TT v) {Q : Int32 → (Int32 × Int32 × Int32 × Int64 × (Nat → Int32) × (Nat → Int32) × (Nat → Int32) × Int32 × (Nat → Int32) × (Nat → Int32) × Int32 × Int32 × Int32 × Int32 × Int32 × (Nat → Int32) × (Nat → Int32) × (Nat → Int32) × (Nat → Int32) × (Nat → Int32) × (Nat → Int32) × (Nat → Int32) × (Nat → Int32) × (Nat → Int32) × (Nat → Option Nat) × Int32 × (Nat → Int32)) → Prop} (hq : ∀ (r : Int32) (u_0 : Int32) (u_1 : Int32) (u_2 : Int32) (u_3 : Int64) (u_4 : Nat → Int32) (u_5 : Nat → Int32) (u_6 : Nat → Int32) (u_7 : Int32) (u_8 : Nat → Int32) (u_9 : Nat → Int32) (u_10 : Int32) (u_11 : Int32) (u_12 : Int32) (u_13 : Int32) (u_14 : Int32) (u_15 : Nat → Int32) (u_16 : Nat → Int32) (u_17 : Nat → Int32) (u_18 : Nat → Int32) (u_19 : Nat → Int32) (u_20 : Nat → Int32) (u_21 : Nat → Int32) (u_22 : Nat → Int32) (u_23 : Nat → Int32) (u_24 : Nat → Option Nat) (u_25 : Int32) (u_26 : Nat → Int32), (0 ≤ u_1.toInt ∧ u_1.toInt ≤ 6) ∧ ((-1) ≤ u_2.toInt ∧ u_2.toInt ≤ 5) ∧ (KI u_4) ∧ (HA u_5) ∧ (WA u_6) ∧ (0 ≤ u_7.toInt ∧ u_7.toInt ≤ 6) ∧ (CE u_8) ∧ (BU u_9) ∧ (0 ≤ u_10.toInt ∧ u_10.toInt ≤ 5) ∧ (0 ≤ u_11.toInt ∧ u_11.toInt ≤ 6) ∧ (0 ≤ u_13.toInt ∧ u_13.toInt ≤ 8) ∧ (0 ≤ u_14.toInt ∧ u_14.toInt ≤ 10) ∧ (CO u_15) ∧ (EA u_16) ∧ (NC u_17) ∧ (NL u_18) ∧ (HC u_19) ∧ (HL u_20) ∧ (TE u_23) ∧ (0 ≤ u_25.toInt ∧ u_25.toInt ≤ 16) ∧ (((∀ k, k < 6 → u_24 k = f_h0_site_world_laws k) ∧ u_1 = h0_site_world_lawCount ∧ u_2 = h0_site_world_force) ∨ ((∀ k, k < 6 → u_24 k = f_w0_laws k) ∧ u_1 = w0_lawCount ∧ u_2 = w0_force) ∨ ((∀ k, k < 6 → u_24 k = f_w1_laws k) ∧ u_1 = w1_lawCount ∧ u_2 = w1_force)) ∧ (r = bkR a f_h0_kept) → Q r (u_0, u_1, u_2, u_3, u_4, u_5, u_6, u_7, u_8, u_9, u_10, u_11, u_12, u_13, u_14, u_15, u_16, u_17, u_18, u_19, u_20, u_21, u_22, u_23, u_24, u_25, u_26)) : wp_X11_back a f_h0_kept h0_site_world_lawCount h0_site_world_force w0_lawCount w0_force h0_site_world_rock_dug w0_rock_dug f_w0_rock_kind f_h0_site_world_rock_kind f_w0_rock_hard f_h0_site_world_rock_hard f_w0_rock_water f_h0_site_world_rock_water h0_site_world_crew_count w0_crew_count f_w0_crew_cell f_h0_site_world_crew_cell f_w0_crew_buckets f_h0_site_world_crew_buckets h0_site_world_folk_listeners h0_site_world_folk_noises h0_site_world_folk_hushed h0_site_world_folk_hearsay h0_site_world_folk_wells w0_folk_listeners w0_folk_noises w0_folk_hushed w0_folk_hearsay w0_folk_wells f_w0_folk_column f_h0_site_world_folk_column f_w0_folk_ear f_h0_site_world_folk_ear f_w0_folk_noiseColumn f_h0_site_world_folk_noiseColumn f_w0_folk_noiseLoud f_h0_site_world_folk_noiseLoud f_w0_folk_hearsayColumn f_h0_site_world_folk_hearsayColumn f_w0_folk_hearsayLoud f_h0_site_world_folk_hearsayLoud f_w0_folk_sounds f_h0_site_world_folk_sounds f_w0_folk_wet f_h0_site_world_folk_wet f_h0_site_world_term f_w0_term f_w0_laws f_h0_site_world_laws h0_site_diary_kept f_h0_refusals w1_lawCount w1_force w1_rock_dug f_w1_rock_kind f_w1_rock_hard f_w1_rock_water w1_crew_count f_w1_crew_cell f_w1_crew_buckets w1_folk_listeners w1_folk_noises w1_folk_hushed w1_folk_hearsay w1_folk_wells f_w1_folk_column f_w1_folk_ear f_w1_folk_noiseColumn f_w1_folk_noiseLoud f_w1_folk_hearsayColumn f_w1_folk_hearsayLoud f_w1_folk_sounds f_w1_folk_wet f_w1_term f_w1_laws TT Q := by
  unfold wp_X11_back
  refine o_X11_isWithin _ _ _ ?_
  by_cases c1 : a < 0
  · refine br1 c1 ?_
    have d2 := lt_z (a := a) (b := 0) (x := (Int32.toInt a)) (y := 0) rfl rfl c1
    refine br1 (by decide) ?_
    refine o_X11_settle _ _ _ ?_
    refine jn_s ?_
    refine br0 (by decide) ?_
    refine br0 (by decide) ?_
    refine br0 (by decide) ?_
    refine ⟨by unfold vp_in; decide, ?_⟩
    refine ⟨by unfold vp_in; decide, ?_⟩
    refine un2_i ?_
    have k3 : Int32.toInt (-1) = (-1) := (by decide)
    exact hq _ _ _ _ _ _ _ _ _ _ _ _ _ _ _ _ _ _ _ _ _ _ _ _ _ _ _ _ ⟨⟨by omega, by omega⟩, ⟨by omega, by omega⟩, h_f_h0_site_world_rock_kind, h_f_h0_site_world_rock_hard, h_f_h0_site_world_rock_water, ⟨by omega, by omega⟩, h_f_h0_site_world_crew_cell, h_f_h0_site_world_crew_buckets, ⟨by omega, by omega⟩, ⟨by omega, by omega⟩, ⟨by omega, by omega⟩, ⟨by omega, by omega⟩, h_f_h0_site_world_folk_column, h_f_h0_site_world_folk_ear, h_f_h0_site_world_folk_noiseColumn, h_f_h0_site_world_folk_noiseLoud, h_f_h0_site_world_folk_hearsayColumn, h_f_h0_site_world_folk_hearsayLoud, h_f_h0_site_world_term, ⟨by omega, by omega⟩, (Or.inl ⟨fun k hk => rfl, rfl, rfl⟩), (by first | exact bk_n (by omega) | exact bk_0 (by omega) (by omega) (by assumption) | exact bk_1 (by omega) (by omega) (by assumption))⟩
  · refine br0 c1 ?_
    have d4 := nlt_z (a := a) (b := 0) (x := (Int32.toInt a)) (y := 0) rfl rfl c1
    by_cases c5 : 2 ≤ a
    · refine br1 c5 ?_
      have d6 := le_z (a := 2) (b := a) (x := 2) (y := (Int32.toInt a)) rfl rfl c5
      refine br1 (by decide) ?_
      refine o_X11_settle _ _ _ ?_
      refine jn_s ?_
      refine br0 (by decide) ?_
      refine br0 (by decide) ?_
      refine br0 (by decide) ?_
      refine ⟨by unfold vp_in; decide, ?_⟩
      refine ⟨by unfold vp_in; decide, ?_⟩
      refine un2_i ?_
      have k7 : Int32.toInt (-1) = (-1) := (by decide)
      exact hq _ _ _ _ _ _ _ _ _ _ _ _ _ _ _ _ _ _ _ _ _ _ _ _ _ _ _ _ ⟨⟨by omega, by omega⟩, ⟨by omega, by omega⟩, h_f_h0_site_world_rock_kind, h_f_h0_site_world_rock_hard, h_f_h0_site_world_rock_water, ⟨by omega, by omega⟩, h_f_h0_site_world_crew_cell, h_f_h0_site_world_crew_buckets, ⟨by omega, by omega⟩, ⟨by omega, by omega⟩, ⟨by omega, by omega⟩, ⟨by omega, by omega⟩, h_f_h0_site_world_folk_column, h_f_h0_site_world_folk_ear, h_f_h0_site_world_folk_noiseColumn, h_f_h0_site_world_folk_noiseLoud, h_f_h0_site_world_folk_hearsayColumn, h_f_h0_site_world_folk_hearsayLoud, h_f_h0_site_world_term, ⟨by omega, by omega⟩, (Or.inl ⟨fun k hk => rfl, rfl, rfl⟩), (by first | exact bk_n (by omega) | exact bk_0 (by omega) (by omega) (by assumption) | exact bk_1 (by omega) (by omega) (by assumption))⟩
    · refine br0 c5 ?_
      have d8 := nle_z (a := 2) (b := a) (x := 2) (y := (Int32.toInt a)) rfl rfl c5
      refine br0 (by decide) ?_
      refine ⟨vpi (x := (Int32.toInt a)) rfl (by omega) (by omega), ?_⟩
      by_cases c9 : (f_h0_kept a.toNatClampNeg) = 0
      · refine br1 c9 ?_
        have d10 := eq_z (a := (f_h0_kept a.toNatClampNeg)) (b := 0) (x := (Int32.toInt (f_h0_kept a.toNatClampNeg))) (y := 0) rfl rfl c9
        refine o_X11_settle _ _ _ ?_
        refine jn_s ?_
        refine br0 (by decide) ?_
        refine br0 (by decide) ?_
        refine br0 (by decide) ?_
        refine ⟨by unfold vp_in; decide, ?_⟩
        refine ⟨by unfold vp_in; decide, ?_⟩
        refine un2_i ?_
        have k11 : Int32.toInt (-2) = (-2) := (by decide)
        exact hq _ _ _ _ _ _ _ _ _ _ _ _ _ _ _ _ _ _ _ _ _ _ _ _ _ _ _ _ ⟨⟨by omega, by omega⟩, ⟨by omega, by omega⟩, h_f_h0_site_world_rock_kind, h_f_h0_site_world_rock_hard, h_f_h0_site_world_rock_water, ⟨by omega, by omega⟩, h_f_h0_site_world_crew_cell, h_f_h0_site_world_crew_buckets, ⟨by omega, by omega⟩, ⟨by omega, by omega⟩, ⟨by omega, by omega⟩, ⟨by omega, by omega⟩, h_f_h0_site_world_folk_column, h_f_h0_site_world_folk_ear, h_f_h0_site_world_folk_noiseColumn, h_f_h0_site_world_folk_noiseLoud, h_f_h0_site_world_folk_hearsayColumn, h_f_h0_site_world_folk_hearsayLoud, h_f_h0_site_world_term, ⟨by omega, by omega⟩, (Or.inl ⟨fun k hk => rfl, rfl, rfl⟩), (by first | exact bk_n (by omega) | exact bk_0 (by omega) (by omega) (by assumption) | exact bk_1 (by omega) (by omega) (by assumption))⟩
      · refine br0 c9 ?_
        have d12 := ne_z (a := (f_h0_kept a.toNatClampNeg)) (b := 0) (x := (Int32.toInt (f_h0_kept a.toNatClampNeg))) (y := 0) rfl rfl c9
        refine ⟨vpi (x := (Int32.toInt a)) rfl (by omega) (by omega), ?_⟩
        by_cases c13 : a = 0
        · refine br1 c13 ?_
          have d14 := eq_z (a := a) (b := 0) (x := (Int32.toInt a)) (y := 0) rfl rfl c13
          refine s_X10_copyFrom w0_lawCount w0_force w0_rock_dug (f_w0_rock_kind) (f_h0_site_world_rock_kind) (f_w0_rock_hard) (f_h0_site_world_rock_hard) (f_w0_rock_water) (f_h0_site_world_rock_water) w0_crew_count (f_w0_crew_cell) (f_h0_site_world_crew_cell) (f_w0_crew_buckets) (f_h0_site_world_crew_buckets) w0_folk_listeners w0_folk_noises w0_folk_hushed w0_folk_hearsay w0_folk_wells (f_w0_folk_column) (f_h0_site_world_folk_column) (f_w0_folk_ear) (f_h0_site_world_folk_ear) (f_w0_folk_noiseColumn) (f_h0_site_world_folk_noiseColumn) (f_w0_folk_noiseLoud) (f_h0_site_world_folk_noiseLoud) (f_w0_folk_hearsayColumn) (f_h0_site_world_folk_hearsayColumn) (f_w0_folk_hearsayLoud) (f_h0_site_world_folk_hearsayLoud) (f_w0_folk_sounds) (f_h0_site_world_folk_sounds) (f_w0_folk_wet) (f_h0_site_world_folk_wet) (f_h0_site_world_term) (f_w0_term) (f_w0_laws) (f_h0_site_world_laws) TT ⟨by omega, by omega⟩ ⟨by omega, by omega⟩ h_f_w0_rock_kind h_f_h0_site_world_rock_kind h_f_w0_rock_hard h_f_h0_site_world_rock_hard h_f_w0_rock_water h_f_h0_site_world_rock_water ⟨by omega, by omega⟩ h_f_w0_crew_cell h_f_h0_site_world_crew_cell h_f_w0_crew_buckets h_f_h0_site_world_crew_buckets ⟨by omega, by omega⟩ ⟨by omega, by omega⟩ ⟨by omega, by omega⟩ ⟨by omega, by omega⟩ h_f_w0_folk_column h_f_h0_site_world_folk_column h_f_w0_folk_ear h_f_h0_site_world_folk_ear h_f_w0_folk_noiseColumn h_f_h0_site_world_folk_noiseColumn h_f_w0_folk_noiseLoud h_f_h0_site_world_folk_noiseLoud h_f_w0_folk_hearsayColumn h_f_h0_site_world_folk_hearsayColumn h_f_w0_folk_hearsayLoud h_f_h0_site_world_folk_hearsayLoud h_f_h0_site_world_term h_f_w0_term e_0 (fun u15_0 u15_1 u15_2 u15_3 u15_4 u15_5 u15_6 u15_7 u15_8 u15_9 u15_10 u15_11 u15_12 u15_13 u15_14 u15_15 u15_16 u15_17 u15_18 u15_19 u15_20 u15_21 u15_22 u15_23 H16 => ?_)
          have j17 := H16.1
          have j18 := H16.2.1
          have j19 := H16.2.2.1
          have j20 := H16.2.2.2.1
          have j21 := H16.2.2.2.2.1
          have j22 := H16.2.2.2.2.2.1
          have j23 := H16.2.2.2.2.2.2.1
          have j24 := H16.2.2.2.2.2.2.2.1
          have j25 := H16.2.2.2.2.2.2.2.2.1
          have j26 := H16.2.2.2.2.2.2.2.2.2.1
          have j27 := H16.2.2.2.2.2.2.2.2.2.2.1
          have j28 := H16.2.2.2.2.2.2.2.2.2.2.2.1
          have j29 := H16.2.2.2.2.2.2.2.2.2.2.2.2.1
          have j30 := H16.2.2.2.2.2.2.2.2.2.2.2.2.2.1
          have j31 := H16.2.2.2.2.2.2.2.2.2.2.2.2.2.2.1
          have j32 := H16.2.2.2.2.2.2.2.2.2.2.2.2.2.2.2.1
          have j33 := H16.2.2.2.2.2.2.2.2.2.2.2.2.2.2.2.2.1
          have j34 := H16.2.2.2.2.2.2.2.2.2.2.2.2.2.2.2.2.2.1
          have j35 := H16.2.2.2.2.2.2.2.2.2.2.2.2.2.2.2.2.2.2.1
          have j36 := H16.2.2.2.2.2.2.2.2.2.2.2.2.2.2.2.2.2.2.2.1
          have j37 := H16.2.2.2.2.2.2.2.2.2.2.2.2.2.2.2.2.2.2.2.2.1
          have j38 := H16.2.2.2.2.2.2.2.2.2.2.2.2.2.2.2.2.2.2.2.2.2
          refine un24_i ?_
          refine o_X2_clear _ ?_
          refine o_X11_settle _ _ _ ?_
          refine jn_s ?_
          refine br1 (by decide) ?_
          refine br1 (by decide) ?_
          refine un2_i ?_
          have k39 : Int32.toInt 0 = 0 := rfl
          exact hq _ _ _ _ _ _ _ _ _ _ _ _ _ _ _ _ _ _ _ _ _ _ _ _ _ _ _ _ ⟨⟨by omega, by omega⟩, ⟨by omega, by omega⟩, j19, j20, j21, ⟨by omega, by omega⟩, j23, j24, ⟨by omega, by omega⟩, ⟨by omega, by omega⟩, ⟨by omega, by omega⟩, ⟨by omega, by omega⟩, j29, j30, j31, j32, j33, j34, j35, (by decide), (Or.inr (Or.inl ⟨j36, j37, j38⟩)), (by first | exact bk_n (by omega) | exact bk_0 (by omega) (by omega) (by assumption) | exact bk_1 (by omega) (by omega) (by assumption))⟩
        · refine br0 c13 ?_
          have d40 := ne_z (a := a) (b := 0) (x := (Int32.toInt a)) (y := 0) rfl rfl c13
          refine s_X10_copyFrom w1_lawCount w1_force w1_rock_dug (f_w1_rock_kind) (f_h0_site_world_rock_kind) (f_w1_rock_hard) (f_h0_site_world_rock_hard) (f_w1_rock_water) (f_h0_site_world_rock_water) w1_crew_count (f_w1_crew_cell) (f_h0_site_world_crew_cell) (f_w1_crew_buckets) (f_h0_site_world_crew_buckets) w1_folk_listeners w1_folk_noises w1_folk_hushed w1_folk_hearsay w1_folk_wells (f_w1_folk_column) (f_h0_site_world_folk_column) (f_w1_folk_ear) (f_h0_site_world_folk_ear) (f_w1_folk_noiseColumn) (f_h0_site_world_folk_noiseColumn) (f_w1_folk_noiseLoud) (f_h0_site_world_folk_noiseLoud) (f_w1_folk_hearsayColumn) (f_h0_site_world_folk_hearsayColumn) (f_w1_folk_hearsayLoud) (f_h0_site_world_folk_hearsayLoud) (f_w1_folk_sounds) (f_h0_site_world_folk_sounds) (f_w1_folk_wet) (f_h0_site_world_folk_wet) (f_h0_site_world_term) (f_w1_term) (f_w1_laws) (f_h0_site_world_laws) TT ⟨by omega, by omega⟩ ⟨by omega, by omega⟩ h_f_w1_rock_kind h_f_h0_site_world_rock_kind h_f_w1_rock_hard h_f_h0_site_world_rock_hard h_f_w1_rock_water h_f_h0_site_world_rock_water ⟨by omega, by omega⟩ h_f_w1_crew_cell h_f_h0_site_world_crew_cell h_f_w1_crew_buckets h_f_h0_site_world_crew_buckets ⟨by omega, by omega⟩ ⟨by omega, by omega⟩ ⟨by omega, by omega⟩ ⟨by omega, by omega⟩ h_f_w1_folk_column h_f_h0_site_world_folk_column h_f_w1_folk_ear h_f_h0_site_world_folk_ear h_f_w1_folk_noiseColumn h_f_h0_site_world_folk_noiseColumn h_f_w1_folk_noiseLoud h_f_h0_site_world_folk_noiseLoud h_f_w1_folk_hearsayColumn h_f_h0_site_world_folk_hearsayColumn h_f_w1_folk_hearsayLoud h_f_h0_site_world_folk_hearsayLoud h_f_h0_site_world_term h_f_w1_term e_1 (fun u41_0 u41_1 u41_2 u41_3 u41_4 u41_5 u41_6 u41_7 u41_8 u41_9 u41_10 u41_11 u41_12 u41_13 u41_14 u41_15 u41_16 u41_17 u41_18 u41_19 u41_20 u41_21 u41_22 u41_23 H42 => ?_)
          have j43 := H42.1
          have j44 := H42.2.1
          have j45 := H42.2.2.1
          have j46 := H42.2.2.2.1
          have j47 := H42.2.2.2.2.1
          have j48 := H42.2.2.2.2.2.1
          have j49 := H42.2.2.2.2.2.2.1
          have j50 := H42.2.2.2.2.2.2.2.1
          have j51 := H42.2.2.2.2.2.2.2.2.1
          have j52 := H42.2.2.2.2.2.2.2.2.2.1
          have j53 := H42.2.2.2.2.2.2.2.2.2.2.1
          have j54 := H42.2.2.2.2.2.2.2.2.2.2.2.1
          have j55 := H42.2.2.2.2.2.2.2.2.2.2.2.2.1
          have j56 := H42.2.2.2.2.2.2.2.2.2.2.2.2.2.1
          have j57 := H42.2.2.2.2.2.2.2.2.2.2.2.2.2.2.1
          have j58 := H42.2.2.2.2.2.2.2.2.2.2.2.2.2.2.2.1
          have j59 := H42.2.2.2.2.2.2.2.2.2.2.2.2.2.2.2.2.1
          have j60 := H42.2.2.2.2.2.2.2.2.2.2.2.2.2.2.2.2.2.1
          have j61 := H42.2.2.2.2.2.2.2.2.2.2.2.2.2.2.2.2.2.2.1
          have j62 := H42.2.2.2.2.2.2.2.2.2.2.2.2.2.2.2.2.2.2.2.1
          have j63 := H42.2.2.2.2.2.2.2.2.2.2.2.2.2.2.2.2.2.2.2.2.1
          have j64 := H42.2.2.2.2.2.2.2.2.2.2.2.2.2.2.2.2.2.2.2.2.2
          refine un24_i ?_
          refine o_X2_clear _ ?_
          refine o_X11_settle _ _ _ ?_
          refine jn_s ?_
          refine br1 (by decide) ?_
          refine br1 (by decide) ?_
          refine un2_i ?_
          have k65 : Int32.toInt 0 = 0 := rfl
          exact hq _ _ _ _ _ _ _ _ _ _ _ _ _ _ _ _ _ _ _ _ _ _ _ _ _ _ _ _ ⟨⟨by omega, by omega⟩, ⟨by omega, by omega⟩, j45, j46, j47, ⟨by omega, by omega⟩, j49, j50, ⟨by omega, by omega⟩, ⟨by omega, by omega⟩, ⟨by omega, by omega⟩, ⟨by omega, by omega⟩, j55, j56, j57, j58, j59, j60, j61, (by decide), (Or.inr (Or.inr ⟨j62, j63, j64⟩)), (by first | exact bk_n (by omega) | exact bk_0 (by omega) (by omega) (by assumption) | exact bk_1 (by omega) (by omega) (by assumption))⟩

/-! the reference's image and back, told exactly (group A; stands behind LEANX of pc6.py). NOT YET COMPILED -/
theorem s_imageX {a : Int32} {row im kept rfs : Nat → Int32} (hR : RLW row) (hI : IM kept im) {Q : Int32 → (Int32 × Int32 × (Nat → Int32) × (Nat → Int32) × (Nat → Int32)) → Prop} (hq : ∀ (st : Int32) (im' rfs' : Nat → Int32), IM (kpI a kept) im' → Q (imR a) (0, st, im', kpI a kept, rfs')) : wp_X12_image a row im kept rfs Q := by
  unfold wp_X12_image
  have ea : a.toInt64.toInt = a.toInt := i2l_z rfl
  have z0 : (0 : Int64).toInt = 0 := rfl
  have z1 : (1 : Int64).toInt = 1 := rfl
  unfold imR at hq
  refine e_in (fun g1 g2 => br0 (by decide) ?_) (fun g => br1 rfl ?_)
  · rw [if_pos (by omega), ← kp_p (f := kept) (by omega) (by omega)] at hq
    obtain ⟨k, hk⟩ : ∃ k : Nat, a.toInt = (k : Int) := ⟨a.toInt.toNat, by omega⟩
    refine sl_im23 hk (by omega) (fun x im' h1 h2 => ?_) _ 0 0 im rfl (by omega) (by omega) (fun j hj => by omega) (fun j _ => rfl)
    refine ⟨vpi hk (by omega) (by omega), e_tell (by decide) (fun s f => un2_i (hq _ _ _ (fun k2 h k3 => ?_)))⟩
    rw [tnN hk] at k3
    by_cases e : k2 = k
    · subst e
      exact RW.cong hR (fun j hj => h1 j hj)
    · rw [pk_un e] at k3
      exact RW.cong (hI k2 h k3) (fun j hj => h2 _ (by omega))
  · have hn : a.toInt < 0 ∨ 2 ≤ a.toInt := by
      by_cases q : a.toInt < 0 ∨ 2 ≤ a.toInt
      · exact q
      · exact absurd ⟨by omega, by omega⟩ g
    rw [if_neg (by omega), ← kp_n (f := kept) hn] at hq
    exact e_tell (by decide) (fun s f => un2_i (hq _ _ _ hI))
theorem s_backX {a nU : Int32} {kept im row rfs : Nat → Int32} (hR : RLW row) (hI : IM kept im) (hU : 0 ≤ nU.toInt ∧ nU.toInt ≤ 16) {Q : Int32 → (Int32 × Int32 × Int32 × (Nat → Int32) × (Nat → Int32)) → Prop} (hq : ∀ (st n : Int32) (row' rfs' : Nat → Int32), (0 ≤ n.toInt ∧ n.toInt ≤ 16) → RLW row' → Q (bkR a kept) (0, st, n, row', rfs')) : wp_X12_back a nU kept im row rfs Q := by
  unfold wp_X12_back
  have ea : a.toInt64.toInt = a.toInt := i2l_z rfl
  have z0 : (0 : Int64).toInt = 0 := rfl
  have z1 : (1 : Int64).toInt = 1 := rfl
  refine e_in (fun g1 g2 => br0 (by decide) ?_) (fun g => br1 rfl ?_)
  · have g1 : 0 ≤ a.toInt := by omega
    have g2 : a.toInt ≤ 1 := by omega
    obtain ⟨k, hk⟩ : ∃ k : Nat, a.toInt = (k : Int) := ⟨a.toInt.toNat, by omega⟩
    refine ⟨vpi hk (by omega) (by omega), ?_⟩
    have tk := tnN hk
    rw [tk]
    by_cases c : kept k = 0
    · rw [← bk_0 (f := kept) g1 g2 (by rw [tk]; exact c)] at hq
      exact br1 c (e_tell (by decide) (fun s f => un2_i (hq _ _ _ _ hU hR)))
    · rw [← bk_1 (f := kept) g1 g2 (by rw [tk]; exact c)] at hq
      refine br0 c (sl_ba39 hk (by omega) (fun x row' h1 => ?_) _ 0 0 row rfl (by omega) (by omega) (fun j hj => by omega))
      have R2 : RLW row' := RW.cong (hI k (by omega) c) (fun j hj => h1 j hj)
      exact e_settled (by decide) hU (fun s n f hn => un3_i (hq _ _ _ _ hn R2))
  · have hn : a.toInt < 0 ∨ 2 ≤ a.toInt := by
      by_cases q : a.toInt < 0 ∨ 2 ≤ a.toInt
      · exact q
      · exact absurd ⟨by omega, by omega⟩ g
    rw [← bk_n (f := kept) hn] at hq
    exact e_tell (by decide) (fun s f => un2_i (hq _ _ _ _ hU hR))
/-- both sides keep the same images -/
def KK (f g : Nat → Int32) : Prop := ∀ k : Nat, k < 2 → (f k = 0 ↔ g k = 0)
theorem KK.im {f g : Nat → Int32} (h : KK f g) (a : Int32) : KK (kpI a f) (kpI a g) := by
  unfold kpI
  by_cases c : 0 ≤ a.toInt ∧ a.toInt ≤ 1
  · rw [if_pos c, if_pos c]
    intro k hk
    by_cases e : k = a.toNatClampNeg
    · rw [e, pk_us, pk_us]
    · rw [pk_un e, pk_un e]; exact h k hk
  · rw [if_neg c, if_neg c]; exact h
theorem KK.bk {f g : Nat → Int32} (h : KK f g) (a : Int32) : bkR a f = bkR a g := by
  unfold bkR
  by_cases c : 0 ≤ a.toInt ∧ a.toInt ≤ 1
  · rw [if_pos c, if_pos c]
    have e := tnz (i := a) (x := a.toInt) rfl c.1
    have q := h a.toNatClampNeg (by omega)
    by_cases z : f a.toNatClampNeg = 0
    · rw [if_pos z, if_pos (q.mp z)]
    · rw [if_neg z, if_neg (fun w => z (q.mpr w))]
  · rw [if_neg c, if_neg c]
