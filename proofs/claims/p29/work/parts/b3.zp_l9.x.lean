theorem fdL_r {x : Int32} (h : 0 ≤ x.toInt ∧ x.toInt ≤ 400) : 0 ≤ (fdL x).toInt ∧ (fdL x).toInt ≤ 400 := by
  unfold fdL
  by_cases c : x.toInt + 20 ≤ 400
  · rw [if_pos c, add_z (a := x) (b := 20) (y := 20) rfl rfl (by omega) (by omega)]; omega
  · rw [if_neg c]; exact h
set_option maxRecDepth 100000 in
theorem s_X11_feedz (a : Int32) (b : Int32) (d : Int32) (g : Int32) (k : Int32) (h0_reader_length : Int32) (f_h0_reader_bytes : Nat → Int32) (h_h0_reader_length : 0 ≤ h0_reader_length.toInt ∧ h0_reader_length.toInt ≤ 400) (h_f_h0_reader_bytes : BY f_h0_reader_bytes) {Q : Int32 → (Int32 × (Nat → Int32)) → Prop} (hq : ∀ (r : Int32) (u_0 : Int32) (u_1 : Nat → Int32), (0 ≤ u_0.toInt ∧ u_0.toInt ≤ 400) ∧ (BY u_1) ∧ (r = fdR h0_reader_length ∧ u_0 = fdL h0_reader_length) ∧ (u_1 = fdT a b d g k h0_reader_length f_h0_reader_bytes) → Q r (u_0, u_1)) : wp_X11_feed a b d g k h0_reader_length f_h0_reader_bytes Q := by
  refine x_feedx ⟨by omega, by omega⟩ (hq _ _ _ ⟨?_, BY.fd h_f_h0_reader_bytes, ⟨rfl, rfl⟩, rfl⟩)
  exact fdL_r h_h0_reader_length


set_option maxRecDepth 100000 in
theorem s_X11_rowz (h0_latestMud : Int32) (h0_reader_length : Int32) (h0_site_world_rock_dug : Int64) (f_h0_reader_bytes : Nat → Int32) (f_h0_site_world_rock_kind : Nat → Int32) (f_h0_site_world_rock_hard : Nat → Int32) (f_h0_site_world_rock_water : Nat → Int32) (h0_site_diary_kept : Int32) (f_h0_refusals : Nat → Int32) {w : Nat → Int} {U : UL} {rf : Nat → Int32} {md : Int} {g_ce : Nat → Int32} {g_bu : Nat → Int32} {g_cc : Int32} {g_co : Nat → Int32} {g_ea : Nat → Int32} {g_ls : Int32} {g_nc : Nat → Int32} {g_nl : Nat → Int32} {g_ns : Int32} {g_hu : Int32} {g_hc : Nat → Int32} {g_hl : Nat → Int32} {g_hs : Int32} {g_so : Nat → Int32} {g_we : Nat → Int32} {g_wl : Int32} {g_te : Nat → Int32} {g_lc : Int32} {g_fo : Int32} {gd_deed : Nat → Int32} {gd_whose : Nat → Int32} {gd_before : Nat → Int32} {gd_bucketsBefore : Nat → Int32} {gd_dayBefore : Nat → Int32} {gd_latest : Int32} (h_h0_reader_length : 0 ≤ h0_reader_length.toInt ∧ h0_reader_length.toInt ≤ 400) (h_f_h0_reader_bytes : BY f_h0_reader_bytes) (h_f_h0_site_world_rock_kind : KI f_h0_site_world_rock_kind) (h_f_h0_site_world_rock_hard : HA f_h0_site_world_rock_hard) (h_f_h0_site_world_rock_water : WA f_h0_site_world_rock_water) (h_h0_site_diary_kept : 0 ≤ h0_site_diary_kept.toInt ∧ h0_site_diary_kept.toInt ≤ 16) (e_0 : RXw f_h0_site_world_rock_kind f_h0_site_world_rock_hard f_h0_site_world_rock_water h0_site_world_rock_dug g_ce g_bu g_cc g_co g_ea g_ls g_nc g_nl g_ns g_hu g_hc g_hl g_hs g_so g_we g_wl g_te g_lc g_fo w) (e_1 : RXu gd_deed gd_whose gd_before gd_bucketsBefore gd_dayBefore h0_site_diary_kept gd_latest w U) (e_2 : RF f_h0_refusals rf) (e_3 : h0_latestMud.toInt = md) {Q : Int32 → (Int32 × Int32 × Int32 × (Nat → Int32) × (Nat → Int32) × (Nat → Int32) × Int32 × (Nat → Int32)) → Prop} (hq : ∀ (r : Int32) (u_0 : Int32) (u_1 : Int32) (u_2 : Int32) (u_3 : Nat → Int32) (u_4 : Nat → Int32) (u_5 : Nat → Int32) (u_6 : Int32) (u_7 : Nat → Int32), (0 ≤ u_2.toInt ∧ u_2.toInt ≤ 400) ∧ (KI u_3) ∧ (HA u_4) ∧ (WA u_5) ∧ (0 ≤ u_6.toInt ∧ u_6.toInt ≤ 16) ∧ (r.toInt = rowR (fun j => (f_h0_reader_bytes j).toInt) (h0_reader_length.toInt).toNat w) ∧ (RXw u_3 u_4 u_5 h0_site_world_rock_dug g_ce g_bu g_cc g_co g_ea g_ls g_nc g_nl g_ns g_hu g_hc g_hl g_hs g_so g_we g_wl g_te g_lc g_fo (rowW (fun j => (f_h0_reader_bytes j).toInt) (h0_reader_length.toInt).toNat w)) ∧ (RXu gd_deed gd_whose gd_before gd_bucketsBefore gd_dayBefore u_6 gd_latest (rowW (fun j => (f_h0_reader_bytes j).toInt) (h0_reader_length.toInt).toNat w) (rowU (h0_reader_length.toInt).toNat U)) ∧ (u_1.toInt = tlS (rowR (fun j => (f_h0_reader_bytes j).toInt) (h0_reader_length.toInt).toNat w)) ∧ (RF u_7 (tlR rf (rowR (fun j => (f_h0_reader_bytes j).toInt) (h0_reader_length.toInt).toNat w))) ∧ (u_0.toInt = rowM (fun j => (f_h0_reader_bytes j).toInt) (h0_reader_length.toInt).toNat w md) ∧ (u_2.toInt = 0) → Q r (u_0, u_1, u_2, u_3, u_4, u_5, u_6, u_7)) : wp_X11_row h0_latestMud h0_reader_length h0_site_world_rock_dug f_h0_reader_bytes f_h0_site_world_rock_kind f_h0_site_world_rock_hard f_h0_site_world_rock_water h0_site_diary_kept f_h0_refusals Q := by
  refine x_rowc (n := (h0_reader_length.toInt).toNat) (by omega) (by omega) e_0 h_f_h0_site_world_rock_kind h_f_h0_site_world_rock_hard h_f_h0_site_world_rock_water e_1 e_2 e_3 (fun r mud la kp kd hd wt rfs k1 k2 k3 k4 k5 k6 k7 k8 k9 => hq _ _ _ _ _ _ _ _ _ ⟨(by decide), k4, k5, k6, ⟨by have q := k8.1; have q2 := k8.2.1; omega, by have q := k8.1; have q2 := k8.2.1; omega⟩, k1, k7, k8, k3, k9, k2, rfl⟩)


set_option maxRecDepth 100000 in
theorem s_X11_mudz (h0_latestMud : Int32) {md : Int} (e_0 : h0_latestMud.toInt = md) {Q : Int32 → Prop} (hq : ∀ (r : Int32), (r.toInt = md) → Q r) : wp_X11_mud h0_latestMud Q := by
  unfold wp_X11_mud
  exact hq _ e_0


set_option maxRecDepth 100000 in
theorem s_X11_stoppedz (h0_stoppedAt : Int32) {sp : Int} (e_0 : h0_stoppedAt.toInt = sp) {Q : Int32 → Prop} (hq : ∀ (r : Int32), (r.toInt = sp) → Q r) : wp_X11_stopped h0_stoppedAt Q := by
  unfold wp_X11_stopped
  exact hq _ e_0


set_option maxRecDepth 100000 in
theorem s_X11_faultz (h0_reader_faultPlace : Int32) {ft : Int} (e_0 : h0_reader_faultPlace.toInt = ft) {Q : Int32 → Prop} (hq : ∀ (r : Int32), (r.toInt = ft) → Q r) : wp_X11_fault h0_reader_faultPlace Q := by
  unfold wp_X11_fault
  exact hq _ e_0


set_option maxRecDepth 100000 in
theorem s_X11_statusz (h0_latestRefusal : Int32) {la : Int} (e_0 : h0_latestRefusal.toInt = la) {Q : Int32 → Prop} (hq : ∀ (r : Int32), (r.toInt = la) → Q r) : wp_X11_status h0_latestRefusal Q := by
  unfold wp_X11_status
  exact hq _ e_0

