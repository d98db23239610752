set_option maxRecDepth 100000 in
theorem s_X11_hears_Nz (a : Int32) (h0_site_world : Nat) (h0_site_world_lawCount : Int32) (h0_site_world_force : Int32) (h0_site_world_folk_listeners : Int32) (h0_site_world_folk_noises : Int32) (h0_site_world_folk_hushed : Int32) (f_h0_site_world_laws : Nat → Option Nat) (h0_asker_world : Value) (h0_asker_law : Value) (h0_asker_cell : Int32) (h0_asker_shaft : Int32) (h0_asker_kind : Int32) (f_h0_site_world_rock_kind : Nat → Int32) (f_h0_ears_said : Nat → Int32) (f_h0_ears_lost : Nat → Int32) (f_h0_site_world_folk_column : Nat → Int32) (f_h0_site_world_folk_noiseColumn : Nat → Int32) (f_h0_site_world_folk_noiseLoud : Nat → Int32) (f_h0_site_world_folk_ear : Nat → Int32) {w : Nat → Int} {ls : Nat → List Cls} {g_hd : Nat → Int32} {g_wt : Nat → Int32} {g_dg : Int64} {g_ce : Nat → Int32} {g_bu : Nat → Int32} {g_cc : Int32} {g_hc : Nat → Int32} {g_hl : Nat → Int32} {g_hs : Int32} {g_so : Nat → Int32} {g_we : Nat → Int32} {g_wl : Int32} {g_te : Nat → Int32} (h_h0_site_world_lawCount : 0 ≤ h0_site_world_lawCount.toInt ∧ h0_site_world_lawCount.toInt ≤ 6) (h_h0_site_world_force : (-1) ≤ h0_site_world_force.toInt ∧ h0_site_world_force.toInt ≤ (-1)) (h_h0_site_world_folk_listeners : 0 ≤ h0_site_world_folk_listeners.toInt ∧ h0_site_world_folk_listeners.toInt ≤ 5) (h_h0_site_world_folk_noises : 0 ≤ h0_site_world_folk_noises.toInt ∧ h0_site_world_folk_noises.toInt ≤ 6) (h_h0_asker_cell : 0 ≤ h0_asker_cell.toInt ∧ h0_asker_cell.toInt ≤ 39) (h_f_h0_site_world_rock_kind : KI f_h0_site_world_rock_kind) (h_f_h0_ears_said : SA f_h0_ears_said) (h_f_h0_ears_lost : LO f_h0_ears_lost) (h_f_h0_site_world_folk_column : CO f_h0_site_world_folk_column) (h_f_h0_site_world_folk_noiseColumn : NC f_h0_site_world_folk_noiseColumn) (h_f_h0_site_world_folk_noiseLoud : NL f_h0_site_world_folk_noiseLoud) (h_f_h0_site_world_folk_ear : EA f_h0_site_world_folk_ear) (e_0 : RXw f_h0_site_world_rock_kind g_hd g_wt g_dg g_ce g_bu g_cc f_h0_site_world_folk_column f_h0_site_world_folk_ear h0_site_world_folk_listeners f_h0_site_world_folk_noiseColumn f_h0_site_world_folk_noiseLoud h0_site_world_folk_noises h0_site_world_folk_hushed g_hc g_hl g_hs g_so g_we g_wl g_te h0_site_world_lawCount h0_site_world_force w) {Q : Int64 → (Value × Value × Int32 × Int32 × Int32 × (Nat → Int32) × (Nat → Int32)) → Prop} (hq : ∀ (r : Int64) (u_0 : Value) (u_1 : Value) (u_2 : Int32) (u_3 : Int32) (u_4 : Int32) (u_5 : Nat → Int32) (u_6 : Nat → Int32), (0 ≤ u_2.toInt ∧ u_2.toInt ≤ 39) ∧ (SA u_5) ∧ (LO u_6) ∧ (r = hearsR (lawW w ls) w a.toInt) → Q r (u_0, u_1, u_2, u_3, u_4, u_5, u_6)) : wp_X11_hears_N a h0_site_world h0_site_world_lawCount h0_site_world_force h0_site_world_folk_listeners h0_site_world_folk_noises h0_site_world_folk_hushed f_h0_site_world_laws h0_asker_world h0_asker_law h0_asker_cell h0_asker_shaft h0_asker_kind f_h0_site_world_rock_kind f_h0_ears_said f_h0_ears_lost f_h0_site_world_folk_column f_h0_site_world_folk_noiseColumn f_h0_site_world_folk_noiseLoud f_h0_site_world_folk_ear Q := by
  unfold wp_X11_hears_N
  have l_kd := RXw.kd e_0
  have l_co := RXw.co e_0
  have l_ea := RXw.ea e_0
  have l_ls : h0_site_world_folk_listeners.toInt = w 1 := RXw.ls e_0
  have l_nc := RXw.nc e_0
  have l_nl := RXw.nl e_0
  have l_ns : h0_site_world_folk_noises.toInt = w 2 := RXw.ns e_0
  have l_lc : h0_site_world_lawCount.toInt = w 5 := RXw.lc e_0
  have l_fo : h0_site_world_force.toInt = w 6 := RXw.fo e_0
  have hF : lawW w ls = none := lawW_n (by omega)
  refine o_X11_isWithin _ _ _ ?_
  by_cases c1 : a < 0
  · refine br1 c1 ?_
    have d2 := lt_z (x := (Int32.toInt a)) (y := 0) rfl rfl c1
    refine br1 (by decide) ?_
    have k3 : Int64.toInt (-1) = (-1) := (by decide +kernel)
    exact hq _ _ _ _ _ _ _ _ ⟨⟨by omega, by omega⟩, h_f_h0_ears_said, h_f_h0_ears_lost, (by unfold hearsR; rw [if_pos (by omega)]; try rfl)⟩
  · refine br0 c1 ?_
    have d4 := nlt_z (x := (Int32.toInt a)) (y := 0) rfl rfl c1
    by_cases c5 : h0_site_world_folk_listeners ≤ a
    · refine br1 c5 ?_
      have d6 := le_z (x := (Int32.toInt h0_site_world_folk_listeners)) (y := (Int32.toInt a)) rfl rfl c5
      refine br1 (by decide) ?_
      have k7 : Int64.toInt (-1) = (-1) := (by decide +kernel)
      exact hq _ _ _ _ _ _ _ _ ⟨⟨by omega, by omega⟩, h_f_h0_ears_said, h_f_h0_ears_lost, (by unfold hearsR; rw [if_pos (by omega)]; try rfl)⟩
    · refine br0 c5 ?_
      have d8 := nle_z (x := (Int32.toInt h0_site_world_folk_listeners)) (y := (Int32.toInt a)) rfl rfl c5
      refine br0 (by decide) ?_
      refine o_X10_lawInForce_N _ _ _ _ ?_
      refine o_X10_lawOf_N _ _ _ _ ?_
      refine br1 (z_lt (x := (Int32.toInt h0_site_world_force)) (y := 0) rfl rfl (by omega)) ?_
      refine z_msN (RXw.wk e_0) h_f_h0_ears_said h_f_h0_ears_lost ⟨by omega, by omega⟩ (fun u9 u10 u11 u12 u13 H14 => ?_)
      have j15 := H14.1
      have j16 := H14.2
      rw [← hF] at j15
      have j17 := j15.1
      have j18 := j15.2.1
      refine un5_i ?_
      refine x_chb (l := a.toInt.toNat) (by omega) (by omega) (RXw.kd e_0) (RXw.co e_0) (RXw.ea e_0) (by have q := CO.at_0 h_f_h0_site_world_folk_column (n := a.toInt.toNat) (z := ((a.toInt.toNat : Nat) : Int)) rfl (by omega) (by omega); have q2 := RXw.co e_0 a.toInt.toNat (by omega); omega) (by have q := EA.at_0 h_f_h0_site_world_folk_ear (n := a.toInt.toNat) (z := ((a.toInt.toNat : Nat) : Int)) rfl (by omega) (by omega); have q2 := RXw.ea e_0 a.toInt.toNat (by omega); omega) j15 ⟨by omega, by omega⟩ h_f_h0_site_world_folk_noiseColumn h_f_h0_site_world_folk_noiseLoud (RXw.nz e_0) (fun r19 H20 => ?_)
      exact hq _ _ _ _ _ _ _ _ ⟨⟨by omega, by omega⟩, j17, j18, (by unfold hearsR; rw [if_neg (by omega)]; exact H20)⟩


set_option maxRecDepth 100000 in
theorem s_X11_hidden_Nz (h0_site_world_lawCount : Int32) (h0_site_world_force : Int32) (f_h0_site_world_laws : Nat → Option Nat) (h0_asker_cell : Int32) (h0_asker_shaft : Int32) (h0_asker_kind : Int32) (h0_site_world_rock_dug : Int64) (f_h0_site_world_rock_kind : Nat → Int32) (f_h0_ears_said : Nat → Int32) (f_h0_ears_lost : Nat → Int32) (h0_site_world_folk_hearsay : Int32) (f_h0_site_world_folk_hearsayColumn : Nat → Int32) (f_h0_site_world_folk_hearsayLoud : Nat → Int32) {w : Nat → Int} {ls : Nat → List Cls} {g_hd : Nat → Int32} {g_wt : Nat → Int32} {g_ce : Nat → Int32} {g_bu : Nat → Int32} {g_cc : Int32} {g_co : Nat → Int32} {g_ea : Nat → Int32} {g_ls : Int32} {g_nc : Nat → Int32} {g_nl : Nat → Int32} {g_ns : Int32} {g_hu : Int32} {g_so : Nat → Int32} {g_we : Nat → Int32} {g_wl : Int32} {g_te : Nat → Int32} (h_h0_site_world_lawCount : 0 ≤ h0_site_world_lawCount.toInt ∧ h0_site_world_lawCount.toInt ≤ 6) (h_h0_site_world_force : (-1) ≤ h0_site_world_force.toInt ∧ h0_site_world_force.toInt ≤ (-1)) (h_h0_asker_cell : 0 ≤ h0_asker_cell.toInt ∧ h0_asker_cell.toInt ≤ 39) (h_f_h0_site_world_rock_kind : KI f_h0_site_world_rock_kind) (h_f_h0_ears_said : SA f_h0_ears_said) (h_f_h0_ears_lost : LO f_h0_ears_lost) (h_h0_site_world_folk_hearsay : 0 ≤ h0_site_world_folk_hearsay.toInt ∧ h0_site_world_folk_hearsay.toInt ≤ 8) (h_f_h0_site_world_folk_hearsayColumn : HC f_h0_site_world_folk_hearsayColumn) (h_f_h0_site_world_folk_hearsayLoud : HL f_h0_site_world_folk_hearsayLoud) (e_0 : RXw f_h0_site_world_rock_kind g_hd g_wt h0_site_world_rock_dug g_ce g_bu g_cc g_co g_ea g_ls g_nc g_nl g_ns g_hu f_h0_site_world_folk_hearsayColumn f_h0_site_world_folk_hearsayLoud h0_site_world_folk_hearsay g_so g_we g_wl g_te h0_site_world_lawCount h0_site_world_force w) {Q : Int64 → (Int32 × Int32 × Int32 × (Nat → Int32) × (Nat → Int32)) → Prop} (hq : ∀ (r : Int64) (u_0 : Int32) (u_1 : Int32) (u_2 : Int32) (u_3 : Nat → Int32) (u_4 : Nat → Int32), (0 ≤ u_0.toInt ∧ u_0.toInt ≤ 39) ∧ (SA u_3) ∧ (LO u_4) ∧ (r = hidL (lawW w ls) w) → Q r (u_0, u_1, u_2, u_3, u_4)) : wp_X11_hidden_N h0_site_world_lawCount h0_site_world_force f_h0_site_world_laws h0_asker_cell h0_asker_shaft h0_asker_kind h0_site_world_rock_dug f_h0_site_world_rock_kind f_h0_ears_said f_h0_ears_lost h0_site_world_folk_hearsay f_h0_site_world_folk_hearsayColumn f_h0_site_world_folk_hearsayLoud Q := by
  unfold wp_X11_hidden_N
  have l_kd := RXw.kd e_0
  have l_hc := RXw.hc e_0
  have l_hl := RXw.hl e_0
  have l_hs : h0_site_world_folk_hearsay.toInt = w 3 := RXw.hs e_0
  have l_lc : h0_site_world_lawCount.toInt = w 5 := RXw.lc e_0
  have l_fo : h0_site_world_force.toInt = w 6 := RXw.fo e_0
  have hF : lawW w ls = none := lawW_n (by omega)
  refine z_hidN (RXw.wk e_0) (RXw.dg e_0) (RXw.hc e_0) (RXw.hl e_0) l_hs ⟨by omega, by omega⟩ (fun k hk => by have q := HC.at_0 h_f_h0_site_world_folk_hearsayColumn (n := k) (z := (k : Int)) rfl (by omega) (by omega); have q2 := RXw.hc e_0 k (by omega); omega) (by omega) h_f_h0_ears_said h_f_h0_ears_lost ⟨by omega, by omega⟩ (fun r1 u2 u3 u4 u5 u6 H7 => ?_)
  have j8 := H7.1
  rw [← hF] at j8
  have j9 := H7.2.1
  rw [← hF] at j9
  have j10 := H7.2.2
  have j11 := j9.1
  have j12 := j9.2.1
  refine un5_i ?_
  exact hq _ _ _ _ _ _ ⟨⟨by omega, by omega⟩, j11, j12, j8⟩


set_option maxRecDepth 100000 in
theorem s_X11_hears_Tz (a : Int32) (h0_site_world : Nat) (h0_site_world_lawCount : Int32) (h0_site_world_force : Int32) (h0_site_world_folk_listeners : Int32) (h0_site_world_folk_noises : Int32) (h0_site_world_folk_hushed : Int32) (f_h0_site_world_laws : Nat → Option Nat) (h0_asker_world : Value) (h0_asker_law : Value) (h0_asker_cell : Int32) (h0_asker_shaft : Int32) (h0_asker_kind : Int32) (h0_asker_done : Int32) (h0_asker_latest : Int32) (h0_asker_value : Int32) (f_h0_site_world_rock_kind : Nat → Int32) (t : Nat) (t_clauses : Int32) (t_length : Int32) (n_t_heads : Nat) (f_t_heads : Nat → Int32) (n_t_code : Nat) (f_t_code : Nat → Int32) (f_h0_asker_stack : Nat → Int64) (f_h0_site_world_folk_column : Nat → Int32) (f_h0_site_world_rock_hard : Nat → Int32) (f_h0_site_world_rock_water : Nat → Int32) (f_h0_site_world_term : Nat → Int32) (h0_site_world_crew_count : Int32) (f_h0_site_world_crew_cell : Nat → Int32) (f_h0_site_world_crew_buckets : Nat → Int32) (f_h0_ears_said : Nat → Int32) (f_h0_ears_lost : Nat → Int32) (f_h0_site_world_folk_noiseColumn : Nat → Int32) (f_h0_site_world_folk_noiseLoud : Nat → Int32) (f_h0_site_world_folk_ear : Nat → Int32) {w : Nat → Int} {ls : Nat → List Cls} {g_dg : Int64} {g_hc : Nat → Int32} {g_hl : Nat → Int32} {g_hs : Int32} {g_so : Nat → Int32} {g_we : Nat → Int32} {g_wl : Int32} (h_h0_site_world_lawCount : 0 ≤ h0_site_world_lawCount.toInt ∧ h0_site_world_lawCount.toInt ≤ 6) (h_h0_site_world_force : 0 ≤ h0_site_world_force.toInt ∧ h0_site_world_force.toInt ≤ 5) (h_h0_site_world_folk_listeners : 0 ≤ h0_site_world_folk_listeners.toInt ∧ h0_site_world_folk_listeners.toInt ≤ 5) (h_h0_site_world_folk_noises : 0 ≤ h0_site_world_folk_noises.toInt ∧ h0_site_world_folk_noises.toInt ≤ 6) (h_h0_asker_cell : 0 ≤ h0_asker_cell.toInt ∧ h0_asker_cell.toInt ≤ 39) (h_f_h0_site_world_rock_kind : KI f_h0_site_world_rock_kind) (h_t_clauses : 0 ≤ t_clauses.toInt ∧ t_clauses.toInt ≤ 12) (h_t_length : 0 ≤ t_length.toInt ∧ t_length.toInt ≤ 400) (h_f_t_code : CD f_t_code) (h_f_h0_site_world_folk_column : CO f_h0_site_world_folk_column) (h_f_h0_site_world_rock_hard : HA f_h0_site_world_rock_hard) (h_f_h0_site_world_rock_water : WA f_h0_site_world_rock_water) (h_f_h0_site_world_term : TE f_h0_site_world_term) (h_h0_site_world_crew_count : 0 ≤ h0_site_world_crew_count.toInt ∧ h0_site_world_crew_count.toInt ≤ 6) (h_f_h0_site_world_crew_cell : CE f_h0_site_world_crew_cell) (h_f_h0_site_world_crew_buckets : BU f_h0_site_world_crew_buckets) (h_f_h0_ears_said : SA f_h0_ears_said) (h_f_h0_ears_lost : LO f_h0_ears_lost) (h_f_h0_site_world_folk_noiseColumn : NC f_h0_site_world_folk_noiseColumn) (h_f_h0_site_world_folk_noiseLoud : NL f_h0_site_world_folk_noiseLoud) (h_f_h0_site_world_folk_ear : EA f_h0_site_world_folk_ear) (e_0 : RXw f_h0_site_world_rock_kind f_h0_site_world_rock_hard f_h0_site_world_rock_water g_dg f_h0_site_world_crew_cell f_h0_site_world_crew_buckets h0_site_world_crew_count f_h0_site_world_folk_column f_h0_site_world_folk_ear h0_site_world_folk_listeners f_h0_site_world_folk_noiseColumn f_h0_site_world_folk_noiseLoud h0_site_world_folk_noises h0_site_world_folk_hushed g_hc g_hl g_hs g_so g_we g_wl f_h0_site_world_term h0_site_world_lawCount h0_site_world_force w) (e_1 : XTx t_clauses t_length n_t_heads f_t_heads n_t_code f_t_code (ls (w 6).toNat)) (e_2 : ∀ q ∈ ls (w 6).toNat, okC q) (e_3 : n_t_heads < 100000) (e_4 : t_length.toInt ≤ (n_t_code : Int)) (e_5 : h0_site_world_force.toInt < h0_site_world_lawCount.toInt) (e_6 : f_h0_site_world_laws (Int32.toNatClampNeg h0_site_world_force) = some t) {Q : Int64 → (Value × Value × Int32 × Int32 × Int32 × Int32 × (Nat → Int64) × (Nat → Int32) × (Nat → Int32)) → Prop} (hq : ∀ (r : Int64) (u_0 : Value) (u_1 : Value) (u_2 : Int32) (u_3 : Int32) (u_4 : Int32) (u_5 : Int32) (u_6 : Nat → Int64) (u_7 : Nat → Int32) (u_8 : Nat → Int32), (0 ≤ u_2.toInt ∧ u_2.toInt ≤ 39) ∧ (SA u_7) ∧ (LO u_8) ∧ (r = hearsR (lawW w ls) w a.toInt) → Q r (u_0, u_1, u_2, u_3, u_4, u_5, u_6, u_7, u_8)) : wp_X11_hears_T a h0_site_world h0_site_world_lawCount h0_site_world_force h0_site_world_folk_listeners h0_site_world_folk_noises h0_site_world_folk_hushed f_h0_site_world_laws h0_asker_world h0_asker_law h0_asker_cell h0_asker_shaft h0_asker_kind h0_asker_done h0_asker_latest h0_asker_value f_h0_site_world_rock_kind t t_clauses t_length n_t_heads f_t_heads n_t_code f_t_code f_h0_asker_stack f_h0_site_world_folk_column f_h0_site_world_rock_hard f_h0_site_world_rock_water f_h0_site_world_term h0_site_world_crew_count f_h0_site_world_crew_cell f_h0_site_world_crew_buckets f_h0_ears_said f_h0_ears_lost f_h0_site_world_folk_noiseColumn f_h0_site_world_folk_noiseLoud f_h0_site_world_folk_ear Q := by
  unfold wp_X11_hears_T
  have l_kd := RXw.kd e_0
  have l_hd := RXw.hd e_0
  have l_wt := RXw.wt e_0
  have l_ce := RXw.ce e_0
  have l_bu := RXw.bu e_0
  have l_cc : h0_site_world_crew_count.toInt = w 0 := RXw.cc e_0
  have l_co := RXw.co e_0
  have l_ea := RXw.ea e_0
  have l_ls : h0_site_world_folk_listeners.toInt = w 1 := RXw.ls e_0
  have l_nc := RXw.nc e_0
  have l_nl := RXw.nl e_0
  have l_ns : h0_site_world_folk_noises.toInt = w 2 := RXw.ns e_0
  have l_te := RXw.te e_0
  have l_lc : h0_site_world_lawCount.toInt = w 5 := RXw.lc e_0
  have l_fo : h0_site_world_force.toInt = w 6 := RXw.fo e_0
  have hF : lawW w ls = some (ls (w 6).toNat) := lawW_s (by omega)
  refine o_X11_isWithin _ _ _ ?_
  by_cases c1 : a < 0
  · refine br1 c1 ?_
    have d2 := lt_z (x := (Int32.toInt a)) (y := 0) rfl rfl c1
    refine br1 (by decide) ?_
    have k3 : Int64.toInt (-1) = (-1) := (by decide +kernel)
    exact hq _ _ _ _ _ _ _ _ _ _ ⟨⟨by omega, by omega⟩, h_f_h0_ears_said, h_f_h0_ears_lost, (by unfold hearsR; rw [if_pos (by omega)]; try rfl)⟩
  · refine br0 c1 ?_
    have d4 := nlt_z (x := (Int32.toInt a)) (y := 0) rfl rfl c1
    by_cases c5 : h0_site_world_folk_listeners ≤ a
    · refine br1 c5 ?_
      have d6 := le_z (x := (Int32.toInt h0_site_world_folk_listeners)) (y := (Int32.toInt a)) rfl rfl c5
      refine br1 (by decide) ?_
      have k7 : Int64.toInt (-1) = (-1) := (by decide +kernel)
      exact hq _ _ _ _ _ _ _ _ _ _ ⟨⟨by omega, by omega⟩, h_f_h0_ears_said, h_f_h0_ears_lost, (by unfold hearsR; rw [if_pos (by omega)]; try rfl)⟩
    · refine br0 c5 ?_
      have d8 := nle_z (x := (Int32.toInt h0_site_world_folk_listeners)) (y := (Int32.toInt a)) rfl rfl c5
      refine br0 (by decide) ?_
      refine o_X10_lawInForce_T _ _ _ _ _ ?_
      refine o_X10_lawOf_T _ _ _ _ _ ?_
      refine br0 (z_nlt (x := (Int32.toInt h0_site_world_force)) (y := 0) rfl rfl (by omega)) ?_
      by_cases c9 : h0_site_world_lawCount ≤ h0_site_world_force
      · refine br1 c9 ?_
        have d10 := le_z (x := (Int32.toInt h0_site_world_lawCount)) (y := (Int32.toInt h0_site_world_force)) rfl rfl c9
        exfalso
        omega
      · refine br0 c9 ?_
        have d11 := nle_z (x := (Int32.toInt h0_site_world_lawCount)) (y := (Int32.toInt h0_site_world_force)) rfl rfl c9
        refine br0 (z_nle (x := 6) (y := (Int32.toInt h0_site_world_force)) rfl rfl (by omega)) ?_
        refine ⟨vpi (x := (Int32.toInt h0_site_world_force)) rfl (by omega) (by omega), ?_⟩
        refine ⟨by assumption, ?_⟩
        refine z_msT e_1 e_2 (RXw.wk e_0) (LwB.of h_f_h0_site_world_rock_kind h_f_h0_site_world_rock_hard h_f_h0_site_world_rock_water h_f_h0_site_world_term) h_f_h0_ears_said h_f_h0_ears_lost ⟨by omega, by omega⟩ (fun u12 u13 u14 u15 u16 u17 u18 H19 => ?_)
        have j20 := H19.1
        have j21 := H19.2
        rw [← hF] at j20
        have j22 := j20.1
        have j23 := j20.2.1
        refine un7_i ?_
        refine x_chb (l := a.toInt.toNat) (by omega) (by omega) (RXw.kd e_0) (RXw.co e_0) (RXw.ea e_0) (by have q := CO.at_0 h_f_h0_site_world_folk_column (n := a.toInt.toNat) (z := ((a.toInt.toNat : Nat) : Int)) rfl (by omega) (by omega); have q2 := RXw.co e_0 a.toInt.toNat (by omega); omega) (by have q := EA.at_0 h_f_h0_site_world_folk_ear (n := a.toInt.toNat) (z := ((a.toInt.toNat : Nat) : Int)) rfl (by omega) (by omega); have q2 := RXw.ea e_0 a.toInt.toNat (by omega); omega) j20 ⟨by omega, by omega⟩ h_f_h0_site_world_folk_noiseColumn h_f_h0_site_world_folk_noiseLoud (RXw.nz e_0) (fun r24 H25 => ?_)
        exact hq _ _ _ _ _ _ _ _ _ _ ⟨⟨by omega, by omega⟩, j22, j23, (by unfold hearsR; rw [if_neg (by omega)]; exact H25)⟩


set_option maxRecDepth 100000 in
theorem s_X11_hidden_Tz (h0_site_world_lawCount : Int32) (h0_site_world_force : Int32) (f_h0_site_world_laws : Nat → Option Nat) (h0_asker_cell : Int32) (h0_asker_shaft : Int32) (h0_asker_kind : Int32) (h0_asker_done : Int32) (h0_asker_latest : Int32) (h0_asker_value : Int32) (h0_site_world_rock_dug : Int64) (f_h0_site_world_rock_kind : Nat → Int32) (t : Nat) (t_clauses : Int32) (t_length : Int32) (n_t_heads : Nat) (f_t_heads : Nat → Int32) (n_t_code : Nat) (f_t_code : Nat → Int32) (f_h0_asker_stack : Nat → Int64) (h0_site_world_folk_listeners : Int32) (h0_site_world_folk_hearsay : Int32) (f_h0_site_world_folk_column : Nat → Int32) (f_h0_site_world_rock_hard : Nat → Int32) (f_h0_site_world_rock_water : Nat → Int32) (f_h0_site_world_term : Nat → Int32) (h0_site_world_crew_count : Int32) (f_h0_site_world_crew_cell : Nat → Int32) (f_h0_site_world_crew_buckets : Nat → Int32) (f_h0_ears_said : Nat → Int32) (f_h0_ears_lost : Nat → Int32) (f_h0_site_world_folk_hearsayColumn : Nat → Int32) (f_h0_site_world_folk_hearsayLoud : Nat → Int32) {w : Nat → Int} {ls : Nat → List Cls} {g_ea : Nat → Int32} {g_nc : Nat → Int32} {g_nl : Nat → Int32} {g_ns : Int32} {g_hu : Int32} {g_so : Nat → Int32} {g_we : Nat → Int32} {g_wl : Int32} (h_h0_site_world_lawCount : 0 ≤ h0_site_world_lawCount.toInt ∧ h0_site_world_lawCount.toInt ≤ 6) (h_h0_site_world_force : 0 ≤ h0_site_world_force.toInt ∧ h0_site_world_force.toInt ≤ 5) (h_h0_asker_cell : 0 ≤ h0_asker_cell.toInt ∧ h0_asker_cell.toInt ≤ 39) (h_f_h0_site_world_rock_kind : KI f_h0_site_world_rock_kind) (h_t_clauses : 0 ≤ t_clauses.toInt ∧ t_clauses.toInt ≤ 12) (h_t_length : 0 ≤ t_length.toInt ∧ t_length.toInt ≤ 400) (h_f_t_code : CD f_t_code) (h_h0_site_world_folk_listeners : 0 ≤ h0_site_world_folk_listeners.toInt ∧ h0_site_world_folk_listeners.toInt ≤ 5) (h_h0_site_world_folk_hearsay : 0 ≤ h0_site_world_folk_hearsay.toInt ∧ h0_site_world_folk_hearsay.toInt ≤ 8) (h_f_h0_site_world_folk_column : CO f_h0_site_world_folk_column) (h_f_h0_site_world_rock_hard : HA f_h0_site_world_rock_hard) (h_f_h0_site_world_rock_water : WA f_h0_site_world_rock_water) (h_f_h0_site_world_term : TE f_h0_site_world_term) (h_h0_site_world_crew_count : 0 ≤ h0_site_world_crew_count.toInt ∧ h0_site_world_crew_count.toInt ≤ 6) (h_f_h0_site_world_crew_cell : CE f_h0_site_world_crew_cell) (h_f_h0_site_world_crew_buckets : BU f_h0_site_world_crew_buckets) (h_f_h0_ears_said : SA f_h0_ears_said) (h_f_h0_ears_lost : LO f_h0_ears_lost) (h_f_h0_site_world_folk_hearsayColumn : HC f_h0_site_world_folk_hearsayColumn) (h_f_h0_site_world_folk_hearsayLoud : HL f_h0_site_world_folk_hearsayLoud) (e_0 : RXw f_h0_site_world_rock_kind f_h0_site_world_rock_hard f_h0_site_world_rock_water h0_site_world_rock_dug f_h0_site_world_crew_cell f_h0_site_world_crew_buckets h0_site_world_crew_count f_h0_site_world_folk_column g_ea h0_site_world_folk_listeners g_nc g_nl g_ns g_hu f_h0_site_world_folk_hearsayColumn f_h0_site_world_folk_hearsayLoud h0_site_world_folk_hearsay g_so g_we g_wl f_h0_site_world_term h0_site_world_lawCount h0_site_world_force w) (e_1 : XTx t_clauses t_length n_t_heads f_t_heads n_t_code f_t_code (ls (w 6).toNat)) (e_2 : ∀ q ∈ ls (w 6).toNat, okC q) (e_3 : n_t_heads < 100000) (e_4 : t_length.toInt ≤ (n_t_code : Int)) (e_5 : h0_site_world_force.toInt < h0_site_world_lawCount.toInt) (e_6 : f_h0_site_world_laws (Int32.toNatClampNeg h0_site_world_force) = some t) {Q : Int64 → (Int32 × Int32 × Int32 × Int32 × (Nat → Int64) × (Nat → Int32) × (Nat → Int32)) → Prop} (hq : ∀ (r : Int64) (u_0 : Int32) (u_1 : Int32) (u_2 : Int32) (u_3 : Int32) (u_4 : Nat → Int64) (u_5 : Nat → Int32) (u_6 : Nat → Int32), (0 ≤ u_0.toInt ∧ u_0.toInt ≤ 39) ∧ (SA u_5) ∧ (LO u_6) ∧ (r = hidL (lawW w ls) w) → Q r (u_0, u_1, u_2, u_3, u_4, u_5, u_6)) : wp_X11_hidden_T h0_site_world_lawCount h0_site_world_force f_h0_site_world_laws h0_asker_cell h0_asker_shaft h0_asker_kind h0_asker_done h0_asker_latest h0_asker_value h0_site_world_rock_dug f_h0_site_world_rock_kind t t_clauses t_length n_t_heads f_t_heads n_t_code f_t_code f_h0_asker_stack h0_site_world_folk_listeners h0_site_world_folk_hearsay f_h0_site_world_folk_column f_h0_site_world_rock_hard f_h0_site_world_rock_water f_h0_site_world_term h0_site_world_crew_count f_h0_site_world_crew_cell f_h0_site_world_crew_buckets f_h0_ears_said f_h0_ears_lost f_h0_site_world_folk_hearsayColumn f_h0_site_world_folk_hearsayLoud Q := by
  unfold wp_X11_hidden_T
  have l_kd := RXw.kd e_0
  have l_hd := RXw.hd e_0
  have l_wt := RXw.wt e_0
  have l_ce := RXw.ce e_0
  have l_bu := RXw.bu e_0
  have l_cc : h0_site_world_crew_count.toInt = w 0 := RXw.cc e_0
  have l_co := RXw.co e_0
  have l_ls : h0_site_world_folk_listeners.toInt = w 1 := RXw.ls e_0
  have l_hc := RXw.hc e_0
  have l_hl := RXw.hl e_0
  have l_hs : h0_site_world_folk_hearsay.toInt = w 3 := RXw.hs e_0
  have l_te := RXw.te e_0
  have l_lc : h0_site_world_lawCount.toInt = w 5 := RXw.lc e_0
  have l_fo : h0_site_world_force.toInt = w 6 := RXw.fo e_0
  have hF : lawW w ls = some (ls (w 6).toNat) := lawW_s (by omega)
  refine z_hidT e_1 e_2 (LwB.of h_f_h0_site_world_rock_kind h_f_h0_site_world_rock_hard h_f_h0_site_world_rock_water h_f_h0_site_world_term) (RXw.wk e_0) (RXw.dg e_0) (RXw.hc e_0) (RXw.hl e_0) l_hs ⟨by omega, by omega⟩ (fun k hk => by have q := HC.at_0 h_f_h0_site_world_folk_hearsayColumn (n := k) (z := (k : Int)) rfl (by omega) (by omega); have q2 := RXw.hc e_0 k (by omega); omega) (by omega) (by omega) (by omega) e_6 h_f_h0_ears_said h_f_h0_ears_lost ⟨by omega, by omega⟩ (fun r1 u2 u3 u4 u5 u6 u7 u8 H9 => ?_)
  have j10 := H9.1
  rw [← hF] at j10
  have j11 := H9.2.1
  rw [← hF] at j11
  have j12 := H9.2.2
  have j13 := j11.1
  have j14 := j11.2.1
  refine un7_i ?_
  exact hq _ _ _ _ _ _ _ _ ⟨⟨by omega, by omega⟩, j13, j14, j10⟩


set_option maxRecDepth 100000 in
theorem s_X11_next_Nz (a : Int32) (h0_site_world : Nat) (h0_site_world_lawCount : Int32) (h0_site_world_force : Int32) (f_h0_site_world_laws : Nat → Option Nat) (h0_asker_world : Value) (h0_asker_law : Value) (h0_asker_cell : Int32) (h0_asker_shaft : Int32) (h0_asker_kind : Int32) (h0_site_world_rock_dug : Int64) (f_h0_site_world_rock_kind : Nat → Int32) (f_h0_ears_said : Nat → Int32) (f_h0_ears_lost : Nat → Int32) (h0_site_world_folk_hearsay : Int32) (f_h0_site_world_folk_hearsayColumn : Nat → Int32) (f_h0_site_world_folk_hearsayLoud : Nat → Int32) (f_h0_ears_alike : Nat → Int32) {w : Nat → Int} {ls : Nat → List Cls} {g_hd : Nat → Int32} {g_wt : Nat → Int32} {g_ce : Nat → Int32} {g_bu : Nat → Int32} {g_cc : Int32} {g_co : Nat → Int32} {g_ea : Nat → Int32} {g_ls : Int32} {g_nc : Nat → Int32} {g_nl : Nat → Int32} {g_ns : Int32} {g_hu : Int32} {g_so : Nat → Int32} {g_we : Nat → Int32} {g_wl : Int32} {g_te : Nat → Int32} (h_h0_site_world_lawCount : 0 ≤ h0_site_world_lawCount.toInt ∧ h0_site_world_lawCount.toInt ≤ 6) (h_h0_site_world_force : (-1) ≤ h0_site_world_force.toInt ∧ h0_site_world_force.toInt ≤ (-1)) (h_h0_asker_cell : 0 ≤ h0_asker_cell.toInt ∧ h0_asker_cell.toInt ≤ 39) (h_f_h0_site_world_rock_kind : KI f_h0_site_world_rock_kind) (h_f_h0_ears_said : SA f_h0_ears_said) (h_f_h0_ears_lost : LO f_h0_ears_lost) (h_h0_site_world_folk_hearsay : 0 ≤ h0_site_world_folk_hearsay.toInt ∧ h0_site_world_folk_hearsay.toInt ≤ 8) (h_f_h0_site_world_folk_hearsayColumn : HC f_h0_site_world_folk_hearsayColumn) (h_f_h0_site_world_folk_hearsayLoud : HL f_h0_site_world_folk_hearsayLoud) (e_0 : RXw f_h0_site_world_rock_kind g_hd g_wt h0_site_world_rock_dug g_ce g_bu g_cc g_co g_ea g_ls g_nc g_nl g_ns g_hu f_h0_site_world_folk_hearsayColumn f_h0_site_world_folk_hearsayLoud h0_site_world_folk_hearsay g_so g_we g_wl g_te h0_site_world_lawCount h0_site_world_force w) {Q : Int32 → (Value × Value × Int32 × Int32 × Int32 × (Nat → Int32) × (Nat → Int32) × (Nat → Int32)) → Prop} (hq : ∀ (r : Int32) (u_0 : Value) (u_1 : Value) (u_2 : Int32) (u_3 : Int32) (u_4 : Int32) (u_5 : Nat → Int32) (u_6 : Nat → Int32) (u_7 : Nat → Int32), (0 ≤ u_2.toInt ∧ u_2.toInt ≤ 39) ∧ (SA u_5) ∧ (LO u_6) ∧ (r.toInt = nextR (lawW w ls) w a.toInt) → Q r (u_0, u_1, u_2, u_3, u_4, u_5, u_6, u_7)) : wp_X11_next_N a h0_site_world h0_site_world_lawCount h0_site_world_force f_h0_site_world_laws h0_asker_world h0_asker_law h0_asker_cell h0_asker_shaft h0_asker_kind h0_site_world_rock_dug f_h0_site_world_rock_kind f_h0_ears_said f_h0_ears_lost h0_site_world_folk_hearsay f_h0_site_world_folk_hearsayColumn f_h0_site_world_folk_hearsayLoud f_h0_ears_alike Q := by
  have l_kd := RXw.kd e_0
  have l_hc := RXw.hc e_0
  have l_hl := RXw.hl e_0
  have l_hs : h0_site_world_folk_hearsay.toInt = w 3 := RXw.hs e_0
  have l_lc : h0_site_world_lawCount.toInt = w 5 := RXw.lc e_0
  have l_fo : h0_site_world_force.toInt = w 6 := RXw.fo e_0
  have hF : lawW w ls = none := lawW_n (by omega)
  exact x_nextN (RXw.wk e_0) (RXw.dg e_0) (RXw.hc e_0) (RXw.hl e_0) l_hs ⟨by omega, by omega⟩ (fun k hk => by have q := HC.at_0 h_f_h0_site_world_folk_hearsayColumn (n := k) (z := (k : Int)) rfl (by omega) (by omega); have q2 := RXw.hc e_0 k (by omega); omega) (by omega) h_f_h0_ears_said h_f_h0_ears_lost ⟨by omega, by omega⟩ (fun r v1 v2 c s k sa lo al H => hq r v1 v2 c s k sa lo al ⟨H.2.2.2, H.2.1, H.2.2.1, by rw [hF]; exact H.1⟩)


set_option maxRecDepth 100000 in
theorem s_X11_next_Tz (a : Int32) (h0_site_world : Nat) (h0_site_world_lawCount : Int32) (h0_site_world_force : Int32) (f_h0_site_world_laws : Nat → Option Nat) (h0_asker_world : Value) (h0_asker_law : Value) (h0_asker_cell : Int32) (h0_asker_shaft : Int32) (h0_asker_kind : Int32) (h0_asker_done : Int32) (h0_asker_latest : Int32) (h0_asker_value : Int32) (h0_site_world_rock_dug : Int64) (f_h0_site_world_rock_kind : Nat → Int32) (t : Nat) (t_clauses : Int32) (t_length : Int32) (n_t_heads : Nat) (f_t_heads : Nat → Int32) (n_t_code : Nat) (f_t_code : Nat → Int32) (f_h0_asker_stack : Nat → Int64) (h0_site_world_folk_listeners : Int32) (h0_site_world_folk_hearsay : Int32) (f_h0_site_world_folk_column : Nat → Int32) (f_h0_site_world_rock_hard : Nat → Int32) (f_h0_site_world_rock_water : Nat → Int32) (f_h0_site_world_term : Nat → Int32) (h0_site_world_crew_count : Int32) (f_h0_site_world_crew_cell : Nat → Int32) (f_h0_site_world_crew_buckets : Nat → Int32) (f_h0_ears_said : Nat → Int32) (f_h0_ears_lost : Nat → Int32) (f_h0_site_world_folk_hearsayColumn : Nat → Int32) (f_h0_site_world_folk_hearsayLoud : Nat → Int32) (f_h0_ears_alike : Nat → Int32) {w : Nat → Int} {ls : Nat → List Cls} {g_ea : Nat → Int32} {g_nc : Nat → Int32} {g_nl : Nat → Int32} {g_ns : Int32} {g_hu : Int32} {g_so : Nat → Int32} {g_we : Nat → Int32} {g_wl : Int32} (h_h0_site_world_lawCount : 0 ≤ h0_site_world_lawCount.toInt ∧ h0_site_world_lawCount.toInt ≤ 6) (h_h0_site_world_force : 0 ≤ h0_site_world_force.toInt ∧ h0_site_world_force.toInt ≤ 5) (h_h0_asker_cell : 0 ≤ h0_asker_cell.toInt ∧ h0_asker_cell.toInt ≤ 39) (h_f_h0_site_world_rock_kind : KI f_h0_site_world_rock_kind) (h_t_clauses : 0 ≤ t_clauses.toInt ∧ t_clauses.toInt ≤ 12) (h_t_length : 0 ≤ t_length.toInt ∧ t_length.toInt ≤ 400) (h_f_t_code : CD f_t_code) (h_h0_site_world_folk_listeners : 0 ≤ h0_site_world_folk_listeners.toInt ∧ h0_site_world_folk_listeners.toInt ≤ 5) (h_h0_site_world_folk_hearsay : 0 ≤ h0_site_world_folk_hearsay.toInt ∧ h0_site_world_folk_hearsay.toInt ≤ 8) (h_f_h0_site_world_folk_column : CO f_h0_site_world_folk_column) (h_f_h0_site_world_rock_hard : HA f_h0_site_world_rock_hard) (h_f_h0_site_world_rock_water : WA f_h0_site_world_rock_water) (h_f_h0_site_world_term : TE f_h0_site_world_term) (h_h0_site_world_crew_count : 0 ≤ h0_site_world_crew_count.toInt ∧ h0_site_world_crew_count.toInt ≤ 6) (h_f_h0_site_world_crew_cell : CE f_h0_site_world_crew_cell) (h_f_h0_site_world_crew_buckets : BU f_h0_site_world_crew_buckets) (h_f_h0_ears_said : SA f_h0_ears_said) (h_f_h0_ears_lost : LO f_h0_ears_lost) (h_f_h0_site_world_folk_hearsayColumn : HC f_h0_site_world_folk_hearsayColumn) (h_f_h0_site_world_folk_hearsayLoud : HL f_h0_site_world_folk_hearsayLoud) (e_0 : RXw f_h0_site_world_rock_kind f_h0_site_world_rock_hard f_h0_site_world_rock_water h0_site_world_rock_dug f_h0_site_world_crew_cell f_h0_site_world_crew_buckets h0_site_world_crew_count f_h0_site_world_folk_column g_ea h0_site_world_folk_listeners g_nc g_nl g_ns g_hu f_h0_site_world_folk_hearsayColumn f_h0_site_world_folk_hearsayLoud h0_site_world_folk_hearsay g_so g_we g_wl f_h0_site_world_term h0_site_world_lawCount h0_site_world_force w) (e_1 : XTx t_clauses t_length n_t_heads f_t_heads n_t_code f_t_code (ls (w 6).toNat)) (e_2 : ∀ q ∈ ls (w 6).toNat, okC q) (e_3 : n_t_heads < 100000) (e_4 : t_length.toInt ≤ (n_t_code : Int)) (e_5 : h0_site_world_force.toInt < h0_site_world_lawCount.toInt) (e_6 : f_h0_site_world_laws (Int32.toNatClampNeg h0_site_world_force) = some t) {Q : Int32 → (Value × Value × Int32 × Int32 × Int32 × Int32 × (Nat → Int64) × (Nat → Int32) × (Nat → Int32) × (Nat → Int32)) → Prop} (hq : ∀ (r : Int32) (u_0 : Value) (u_1 : Value) (u_2 : Int32) (u_3 : Int32) (u_4 : Int32) (u_5 : Int32) (u_6 : Nat → Int64) (u_7 : Nat → Int32) (u_8 : Nat → Int32) (u_9 : Nat → Int32), (0 ≤ u_2.toInt ∧ u_2.toInt ≤ 39) ∧ (SA u_7) ∧ (LO u_8) ∧ (r.toInt = nextR (lawW w ls) w a.toInt) → Q r (u_0, u_1, u_2, u_3, u_4, u_5, u_6, u_7, u_8, u_9)) : wp_X11_next_T a h0_site_world h0_site_world_lawCount h0_site_world_force f_h0_site_world_laws h0_asker_world h0_asker_law h0_asker_cell h0_asker_shaft h0_asker_kind h0_asker_done h0_asker_latest h0_asker_value h0_site_world_rock_dug f_h0_site_world_rock_kind t t_clauses t_length n_t_heads f_t_heads n_t_code f_t_code f_h0_asker_stack h0_site_world_folk_listeners h0_site_world_folk_hearsay f_h0_site_world_folk_column f_h0_site_world_rock_hard f_h0_site_world_rock_water f_h0_site_world_term h0_site_world_crew_count f_h0_site_world_crew_cell f_h0_site_world_crew_buckets f_h0_ears_said f_h0_ears_lost f_h0_site_world_folk_hearsayColumn f_h0_site_world_folk_hearsayLoud f_h0_ears_alike Q := by
  have l_kd := RXw.kd e_0
  have l_hd := RXw.hd e_0
  have l_wt := RXw.wt e_0
  have l_ce := RXw.ce e_0
  have l_bu := RXw.bu e_0
  have l_cc : h0_site_world_crew_count.toInt = w 0 := RXw.cc e_0
  have l_co := RXw.co e_0
  have l_ls : h0_site_world_folk_listeners.toInt = w 1 := RXw.ls e_0
  have l_hc := RXw.hc e_0
  have l_hl := RXw.hl e_0
  have l_hs : h0_site_world_folk_hearsay.toInt = w 3 := RXw.hs e_0
  have l_te := RXw.te e_0
  have l_lc : h0_site_world_lawCount.toInt = w 5 := RXw.lc e_0
  have l_fo : h0_site_world_force.toInt = w 6 := RXw.fo e_0
  have hF : lawW w ls = some (ls (w 6).toNat) := lawW_s (by omega)
  exact x_nextT e_1 e_2 (LwB.of h_f_h0_site_world_rock_kind h_f_h0_site_world_rock_hard h_f_h0_site_world_rock_water h_f_h0_site_world_term) (RXw.wk e_0) (RXw.dg e_0) (RXw.hc e_0) (RXw.hl e_0) l_hs ⟨by omega, by omega⟩ (fun k hk => by have q := HC.at_0 h_f_h0_site_world_folk_hearsayColumn (n := k) (z := (k : Int)) rfl (by omega) (by omega); have q2 := RXw.hc e_0 k (by omega); omega) (by omega) (by omega) (by omega) e_6 h_f_h0_ears_said h_f_h0_ears_lost ⟨by omega, by omega⟩ (fun r v1 v2 c s k v st sa lo al H => hq r v1 v2 c s k v st sa lo al ⟨H.2.2.2, H.2.1, H.2.2.1, by rw [hF]; exact H.1⟩)

