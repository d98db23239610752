set_option maxRecDepth 100000 in
theorem s_X7_runOrder_Nz (b : Int32) (h0_world : Nat) (h0_latest : Int32) (p0_length : Int32) (n_p0_heads : Nat) (f_p0_heads : Nat → Int32) (h0_asker_law : Value) (h0_asker_cell : Int32) (h0_asker_shaft : Int32) (h0_asker_kind : Int32) (h0_asker_done : Int32) (h0_asker_latest : Int32) (h0_asker_value : Int32) (n_p0_code : Nat) (f_p0_code : Nat → Int32) (f_h0_asker_stack : Nat → Int64) (h0_world_lawCount : Int32) (h0_world_force : Int32) (h0_world_folk_listeners : Int32) (h0_world_folk_noises : Int32) (h0_world_folk_hushed : Int32) (f_h0_world_folk_column : Nat → Int32) (h0_world_rock_dug : Int64) (f_h0_world_rock_hard : Nat → Int32) (f_h0_world_rock_water : Nat → Int32) (f_h0_world_term : Nat → Int32) (h0_world_crew_count : Int32) (f_h0_world_crew_cell : Nat → Int32) (f_h0_world_crew_buckets : Nat → Int32) (f_h0_world_rock_kind : Nat → Int32) (f_h0_world_laws : Nat → Option Nat) (h0_diary_kept : Int32) (h0_diary_latest : Int32) (f_h0_diary_deed : Nat → Int32) (f_h0_diary_whose : Nat → Int32) (f_h0_diary_before : Nat → Int32) (f_h0_diary_bucketsBefore : Nat → Int32) (f_h0_diary_dayBefore : Nat → Int32) (f_h0_world_folk_noiseColumn : Nat → Int32) (f_h0_world_folk_noiseLoud : Nat → Int32) {w : Nat → Int} {U : UL} {ls : Nat → List Cls} {cl : Cls} {c0 : Nat} {g_ea : Nat → Int32} {g_hc : Nat → Int32} {g_hl : Nat → Int32} {g_hs : Int32} {g_so : Nat → Int32} {g_we : Nat → Int32} {g_wl : Int32} (h_b : 0 ≤ b.toInt ∧ b.toInt ≤ 11) (h_p0_length : 0 ≤ p0_length.toInt ∧ p0_length.toInt ≤ 400) (h_f_p0_heads : HD f_p0_heads) (h_h0_asker_cell : 0 ≤ h0_asker_cell.toInt ∧ h0_asker_cell.toInt ≤ 39) (h_f_p0_code : CD f_p0_code) (h_h0_world_lawCount : 0 ≤ h0_world_lawCount.toInt ∧ h0_world_lawCount.toInt ≤ 6) (h_h0_world_force : (-1) ≤ h0_world_force.toInt ∧ h0_world_force.toInt ≤ (-1)) (h_h0_world_folk_listeners : 0 ≤ h0_world_folk_listeners.toInt ∧ h0_world_folk_listeners.toInt ≤ 5) (h_h0_world_folk_noises : 0 ≤ h0_world_folk_noises.toInt ∧ h0_world_folk_noises.toInt ≤ 6) (h_f_h0_world_folk_column : CO f_h0_world_folk_column) (h_f_h0_world_rock_hard : HA f_h0_world_rock_hard) (h_f_h0_world_rock_water : WA f_h0_world_rock_water) (h_f_h0_world_term : TE f_h0_world_term) (h_h0_world_crew_count : 0 ≤ h0_world_crew_count.toInt ∧ h0_world_crew_count.toInt ≤ 6) (h_f_h0_world_crew_cell : CE f_h0_world_crew_cell) (h_f_h0_world_crew_buckets : BU f_h0_world_crew_buckets) (h_f_h0_world_rock_kind : KI f_h0_world_rock_kind) (h_h0_diary_kept : 0 ≤ h0_diary_kept.toInt ∧ h0_diary_kept.toInt ≤ 16) (h_h0_diary_latest : 0 ≤ h0_diary_latest.toInt ∧ h0_diary_latest.toInt ≤ 15) (h_f_h0_world_folk_noiseColumn : NC f_h0_world_folk_noiseColumn) (h_f_h0_world_folk_noiseLoud : NL f_h0_world_folk_noiseLoud) (e_0 : RXw f_h0_world_rock_kind f_h0_world_rock_hard f_h0_world_rock_water h0_world_rock_dug f_h0_world_crew_cell f_h0_world_crew_buckets h0_world_crew_count f_h0_world_folk_column g_ea h0_world_folk_listeners f_h0_world_folk_noiseColumn f_h0_world_folk_noiseLoud h0_world_folk_noises h0_world_folk_hushed g_hc g_hl g_hs g_so g_we g_wl f_h0_world_term h0_world_lawCount h0_world_force w) (e_1 : RXu f_h0_diary_deed f_h0_diary_whose f_h0_diary_before f_h0_diary_bucketsBefore f_h0_diary_dayBefore h0_diary_kept h0_diary_latest w U) (e_2 : DI f_h0_diary_deed f_h0_diary_whose f_h0_diary_before f_h0_diary_bucketsBefore f_h0_diary_dayBefore) (e_3 : XC true f_p0_heads f_p0_code c0 (b.toInt).toNat cl) (e_4 : okO cl) (e_5 : p0_length.toInt = (c0 : Int)) (e_6 : c0 ≤ 400) (e_7 : c0 ≤ n_p0_code) (e_8 : 5 * (b.toInt).toNat + 5 ≤ n_p0_heads) (e_9 : n_p0_heads ≤ 60) {Q : Int32 → (Int32 × Value × Value × Int32 × Int32 × Int32 × Int32 × (Nat → Int64) × Int32 × (Nat → Int32) × Int64 × (Nat → Int32) × (Nat → Int32) × (Nat → Int32) × (Nat → Int32) × Int32 × Int32 × (Nat → Int32) × (Nat → Int32) × (Nat → Int32) × (Nat → Int32) × (Nat → Int32)) → Prop} (hq : ∀ (r : Int32) (u_0 : Int32) (u_1 : Value) (u_2 : Value) (u_3 : Int32) (u_4 : Int32) (u_5 : Int32) (u_6 : Int32) (u_7 : Nat → Int64) (u_8 : Int32) (u_9 : Nat → Int32) (u_10 : Int64) (u_11 : Nat → Int32) (u_12 : Nat → Int32) (u_13 : Nat → Int32) (u_14 : Nat → Int32) (u_15 : Int32) (u_16 : Int32) (u_17 : Nat → Int32) (u_18 : Nat → Int32) (u_19 : Nat → Int32) (u_20 : Nat → Int32) (u_21 : Nat → Int32), (0 ≤ r.toInt ∧ r.toInt ≤ 1) ∧ (0 ≤ u_3.toInt ∧ u_3.toInt ≤ 39) ∧ (CO u_9) ∧ (WA u_11) ∧ (TE u_12) ∧ (CE u_13) ∧ (BU u_14) ∧ (0 ≤ u_15.toInt ∧ u_15.toInt ≤ 16) ∧ (0 ≤ u_16.toInt ∧ u_16.toInt ≤ 15) ∧ (r.toInt = (if rnR (lawW w ls) w cl (ovW w h0_asker_done.toInt h0_asker_latest.toInt) < 0 then 0 else 1)) ∧ (RXw f_h0_world_rock_kind f_h0_world_rock_hard u_11 u_10 u_13 u_14 h0_world_crew_count u_9 g_ea h0_world_folk_listeners f_h0_world_folk_noiseColumn f_h0_world_folk_noiseLoud h0_world_folk_noises u_8 g_hc g_hl g_hs g_so g_we g_wl u_12 h0_world_lawCount h0_world_force (rnW (lawW w ls) w cl (ovW w h0_asker_done.toInt h0_asker_latest.toInt))) ∧ (RXu u_17 u_18 u_19 u_20 u_21 u_15 u_16 (rnW (lawW w ls) w cl (ovW w h0_asker_done.toInt h0_asker_latest.toInt)) (rmU (rnR (lawW w ls) w cl (ovW w h0_asker_done.toInt h0_asker_latest.toInt)) (cl.1 : Int) w U)) ∧ (DI u_17 u_18 u_19 u_20 u_21) ∧ (0 ≤ rnR (lawW w ls) w cl (ovW w h0_asker_done.toInt h0_asker_latest.toInt) → u_0.toInt = (if cl.1 < 2 then rnR (lawW w ls) w cl (ovW w h0_asker_done.toInt h0_asker_latest.toInt) else h0_latest.toInt)) → Q r (u_0, u_1, u_2, u_3, u_4, u_5, u_6, u_7, u_8, u_9, u_10, u_11, u_12, u_13, u_14, u_15, u_16, u_17, u_18, u_19, u_20, u_21)) : wp_X7_runOrder_N b h0_world h0_latest p0_length n_p0_heads f_p0_heads h0_asker_law h0_asker_cell h0_asker_shaft h0_asker_kind h0_asker_done h0_asker_latest h0_asker_value n_p0_code f_p0_code f_h0_asker_stack h0_world_lawCount h0_world_force h0_world_folk_listeners h0_world_folk_noises h0_world_folk_hushed f_h0_world_folk_column h0_world_rock_dug f_h0_world_rock_hard f_h0_world_rock_water f_h0_world_term h0_world_crew_count f_h0_world_crew_cell f_h0_world_crew_buckets f_h0_world_rock_kind f_h0_world_laws h0_diary_kept h0_diary_latest f_h0_diary_deed f_h0_diary_whose f_h0_diary_before f_h0_diary_bucketsBefore f_h0_diary_dayBefore f_h0_world_folk_noiseColumn f_h0_world_folk_noiseLoud Q := by
  unfold wp_X7_runOrder_N
  have l_kd := RXw.kd e_0
  have l_hd := RXw.hd e_0
  have l_wt := RXw.wt e_0
  have l_ce := RXw.ce e_0
  have l_bu := RXw.bu e_0
  have l_cc : h0_world_crew_count.toInt = w 0 := RXw.cc e_0
  have l_co := RXw.co e_0
  have l_ls : h0_world_folk_listeners.toInt = w 1 := RXw.ls e_0
  have l_nc := RXw.nc e_0
  have l_nl := RXw.nl e_0
  have l_ns : h0_world_folk_noises.toInt = w 2 := RXw.ns e_0
  have l_te := RXw.te e_0
  have l_lc : h0_world_lawCount.toInt = w 5 := RXw.lc e_0
  have l_fo : h0_world_force.toInt = w 6 := RXw.fo e_0
  have vb := vbT e_4.1
  have o3 := e_4.1
  obtain ⟨s1, hs1⟩ := e_4.2.1
  have k2 : Int32.toInt 1 = 1 := rfl
  refine z_hd1 e_3 (by omega) (by omega) (by omega) (fun r1 H3 => ?_)
  have sg4 := H3
  rw [hs1] at sg4
  refine z_rsum (RXw.evO e_0 (by omega) (by omega)) (by omega) (by omega) (by omega) sg4 (fun r6 v7 st8 H13 => ?_)
  refine un2_i ?_
  rcases H13 with ⟨e9, x5, hx11, hv12⟩ | ⟨e9, hx11⟩
  · skip
    refine br0 (z_ne (x := (Int32.toInt r6)) (y := 0) rfl rfl (by omega)) ?_
    refine o_X0_reckoned _ _ ?_
    have k15 : Int32.toInt 0 = 0 := rfl
    refine z_hd0 e_3 (by omega) (by omega) (by omega) (fun r14 H16 => ?_)
    have sg17 := H16
    by_cases c18 : r14 = 21
    · refine br1 c18 ?_
      have d19 := eq_z (x := (Int32.toInt r14)) (y := 21) rfl rfl c18
      refine s_X7_tryHushz v7 h0_world_folk_noises h0_world_folk_hushed h0_diary_kept h0_diary_latest (f_h0_diary_deed) (f_h0_diary_whose) (f_h0_diary_before) (f_h0_diary_bucketsBefore) (f_h0_diary_dayBefore) (f_h0_world_folk_noiseColumn) (f_h0_world_folk_noiseLoud) ⟨by omega, by omega⟩ ⟨by omega, by omega⟩ ⟨by omega, by omega⟩ h_f_h0_world_folk_noiseColumn h_f_h0_world_folk_noiseLoud e_0 e_1 e_2 (fun r20 u21_0 u21_1 u21_2 u21_3 u21_4 u21_5 u21_6 u21_7 H22 => ?_)
      have j23 := H22.1
      have j24 := H22.2.1
      have j25 := H22.2.2.1
      have j26 := H22.2.2.2.1
      have j27 := H22.2.2.2.2.1
      have j28 := H22.2.2.2.2.2.1
      have j29 := H22.2.2.2.2.2.2
      refine un8_i ?_
      by_cases c30 : r20 < 0
      · refine br1 c30 ?_
        have d31 := lt_z (x := (Int32.toInt r20)) (y := 0) rfl rfl c30
        have hR32 : rnR (lawW w ls) w cl (ovW w h0_asker_done.toInt h0_asker_latest.toInt) = r20.toInt := (rnR_hush (by rw [hs1]; exact hx11) (by omega)).trans (by rw [← hv12]; exact j26.symm)
        exact hq _ _ _ _ _ _ _ _ _ _ _ _ _ _ _ _ _ _ _ _ _ _ _ ⟨(by decide), ⟨by omega, by omega⟩, h_f_h0_world_folk_column, h_f_h0_world_rock_water, h_f_h0_world_term, h_f_h0_world_crew_cell, h_f_h0_world_crew_buckets, ⟨by omega, by omega⟩, ⟨by omega, by omega⟩, (by rw [hR32, if_pos (by omega)]; rfl), (by rw [rnW_hush (by rw [hs1]; exact hx11) (by omega), ← hv12]; exact j27), (by rw [rnW_hush (by rw [hs1]; exact hx11) (by omega), rnR_hush (by rw [hs1]; exact hx11) (by omega), show (cl.1 : Int) = 2 by omega, ← hv12]; exact j28), j29, (fun q => absurd q (by rw [hR32]; omega))⟩
      · refine br0 c30 ?_
        have d33 := nlt_z (x := (Int32.toInt r20)) (y := 0) rfl rfl c30
        have hR34 : rnR (lawW w ls) w cl (ovW w h0_asker_done.toInt h0_asker_latest.toInt) = r20.toInt := (rnR_hush (by rw [hs1]; exact hx11) (by omega)).trans (by rw [← hv12]; exact j26.symm)
        exact hq _ _ _ _ _ _ _ _ _ _ _ _ _ _ _ _ _ _ _ _ _ _ _ ⟨(by decide), ⟨by omega, by omega⟩, h_f_h0_world_folk_column, h_f_h0_world_rock_water, h_f_h0_world_term, h_f_h0_world_crew_cell, h_f_h0_world_crew_buckets, ⟨by omega, by omega⟩, ⟨by omega, by omega⟩, (by rw [hR34, if_neg (by omega)]; rfl), (by rw [rnW_hush (by rw [hs1]; exact hx11) (by omega), ← hv12]; exact j27), (by rw [rnW_hush (by rw [hs1]; exact hx11) (by omega), rnR_hush (by rw [hs1]; exact hx11) (by omega), show (cl.1 : Int) = 2 by omega, ← hv12]; exact j28), j29, (fun _ => by rw [if_neg (by omega)])⟩
    · refine br0 c18 ?_
      have d35 := ne_z (x := (Int32.toInt r14)) (y := 21) rfl rfl c18
      by_cases c36 : r14 = 20
      · refine br1 c36 ?_
        have d37 := eq_z (x := (Int32.toInt r14)) (y := 20) rfl rfl c36
        refine s_X7_tryHaul_Nz (ls := ls) v7 h0_world h0_world_lawCount h0_world_force h0_world_crew_count (f_h0_world_crew_cell) (f_h0_world_term) (f_h0_world_rock_kind) (f_h0_world_laws) (.ref h0_world) h0_asker_law h0_asker_cell h0_asker_shaft h0_asker_kind (f_h0_world_rock_water) (f_h0_world_crew_buckets) h0_diary_kept h0_diary_latest (f_h0_diary_deed) (f_h0_diary_whose) (f_h0_diary_before) (f_h0_diary_bucketsBefore) (f_h0_diary_dayBefore) ⟨by omega, by omega⟩ ⟨by omega, by omega⟩ ⟨by omega, by omega⟩ h_f_h0_world_crew_cell h_f_h0_world_term h_f_h0_world_rock_kind ⟨by omega, by omega⟩ h_f_h0_world_rock_water h_f_h0_world_crew_buckets ⟨by omega, by omega⟩ ⟨by omega, by omega⟩ e_0 e_1 e_2 (fun r38 u39_0 u39_1 u39_2 u39_3 u39_4 u39_5 u39_6 u39_7 u39_8 u39_9 u39_10 u39_11 u39_12 u39_13 u39_14 H40 => ?_)
        have j41 := H40.1
        have j42 := H40.2.1
        have j43 := H40.2.2.1
        have j44 := H40.2.2.2.1
        have j45 := H40.2.2.2.2.1
        have j46 := H40.2.2.2.2.2.1
        have j47 := H40.2.2.2.2.2.2.1
        have j48 := H40.2.2.2.2.2.2.2.1
        have j49 := H40.2.2.2.2.2.2.2.2.1
        have j50 := H40.2.2.2.2.2.2.2.2.2.1
        have j51 := H40.2.2.2.2.2.2.2.2.2.2
        refine un15_i ?_
        by_cases c52 : r38 < 0
        · refine br1 c52 ?_
          have d53 := lt_z (x := (Int32.toInt r38)) (y := 0) rfl rfl c52
          have hR54 : rnR (lawW w ls) w cl (ovW w h0_asker_done.toInt h0_asker_latest.toInt) = r38.toInt := (rnR_haul (by rw [hs1]; exact hx11) (by omega)).trans (by rw [← hv12]; exact j48.symm)
          exact hq _ _ _ _ _ _ _ _ _ _ _ _ _ _ _ _ _ _ _ _ _ _ _ ⟨(by decide), ⟨by omega, by omega⟩, h_f_h0_world_folk_column, j44, j42, h_f_h0_world_crew_cell, j45, ⟨by omega, by omega⟩, ⟨by omega, by omega⟩, (by rw [hR54, if_pos (by omega)]; rfl), (by rw [rnW_haul (by rw [hs1]; exact hx11) (by omega), ← hv12]; exact j49), (by rw [rnW_haul (by rw [hs1]; exact hx11) (by omega), rnR_haul (by rw [hs1]; exact hx11) (by omega), show (cl.1 : Int) = 1 by omega, ← hv12]; exact j50), j51, (fun q => absurd q (by rw [hR54]; omega))⟩
        · refine br0 c52 ?_
          have d55 := nlt_z (x := (Int32.toInt r38)) (y := 0) rfl rfl c52
          have hR56 : rnR (lawW w ls) w cl (ovW w h0_asker_done.toInt h0_asker_latest.toInt) = r38.toInt := (rnR_haul (by rw [hs1]; exact hx11) (by omega)).trans (by rw [← hv12]; exact j48.symm)
          exact hq _ _ _ _ _ _ _ _ _ _ _ _ _ _ _ _ _ _ _ _ _ _ _ ⟨(by decide), ⟨by omega, by omega⟩, h_f_h0_world_folk_column, j44, j42, h_f_h0_world_crew_cell, j45, ⟨by omega, by omega⟩, ⟨by omega, by omega⟩, (by rw [hR56, if_neg (by omega)]; rfl), (by rw [rnW_haul (by rw [hs1]; exact hx11) (by omega), ← hv12]; exact j49), (by rw [rnW_haul (by rw [hs1]; exact hx11) (by omega), rnR_haul (by rw [hs1]; exact hx11) (by omega), show (cl.1 : Int) = 1 by omega, ← hv12]; exact j50), j51, (fun _ => by rw [if_pos (by omega), hR56])⟩
      · refine br0 c36 ?_
        have d57 := ne_z (x := (Int32.toInt r14)) (y := 20) rfl rfl c36
        have k59 : Int32.toInt 2 = 2 := rfl
        refine z_hd2 e_3 (by omega) (by omega) (by omega) (fun r58 H60 => ?_)
        have sg61 := H60
        obtain ⟨s2, hs2⟩ := e_4.2.2.1 (by omega)
        rw [hs2] at sg61
        refine z_rsum (RXw.evO e_0 (by omega) (by omega)) (by omega) (by omega) (by omega) sg61 (fun r63 v64 st65 H70 => ?_)
        refine un2_i ?_
        rcases H70 with ⟨e66, x62, hx68, hv69⟩ | ⟨e66, hx68⟩
        · skip
          refine br0 (z_ne (x := (Int32.toInt r63)) (y := 0) rfl rfl (by omega)) ?_
          refine o_X0_reckoned _ _ ?_
          by_cases c71 : r14 = 22
          · refine br1 c71 ?_
            have d72 := eq_z (x := (Int32.toInt r14)) (y := 22) rfl rfl c71
            refine s_X7_tryLiez v7 v64 h0_world_folk_listeners (f_h0_world_folk_column) h0_diary_kept h0_diary_latest (f_h0_diary_deed) (f_h0_diary_whose) (f_h0_diary_before) (f_h0_diary_bucketsBefore) (f_h0_diary_dayBefore) ⟨by omega, by omega⟩ h_f_h0_world_folk_column ⟨by omega, by omega⟩ ⟨by omega, by omega⟩ e_0 e_1 e_2 (fun r73 u74_0 u74_1 u74_2 u74_3 u74_4 u74_5 u74_6 u74_7 H75 => ?_)
            have j76 := H75.1
            have j77 := H75.2.1
            have j78 := H75.2.2.1
            have j79 := H75.2.2.2.1
            have j80 := H75.2.2.2.2.1
            have j81 := H75.2.2.2.2.2.1
            have j82 := H75.2.2.2.2.2.2.1
            have j83 := H75.2.2.2.2.2.2.2
            refine un8_i ?_
            by_cases c84 : r73 < 0
            · refine br1 c84 ?_
              have d85 := lt_z (x := (Int32.toInt r73)) (y := 0) rfl rfl c84
              have hR86 : rnR (lawW w ls) w cl (ovW w h0_asker_done.toInt h0_asker_latest.toInt) = r73.toInt := (rnR_lie (by rw [hs1]; exact hx11) (by rw [hs2]; exact hx68) (by omega)).trans (by rw [← hv12, ← hv69]; exact j80.symm)
              exact hq _ _ _ _ _ _ _ _ _ _ _ _ _ _ _ _ _ _ _ _ _ _ _ ⟨(by decide), ⟨by omega, by omega⟩, j77, h_f_h0_world_rock_water, h_f_h0_world_term, h_f_h0_world_crew_cell, h_f_h0_world_crew_buckets, ⟨by omega, by omega⟩, ⟨by omega, by omega⟩, (by rw [hR86, if_pos (by omega)]; rfl), (by rw [rnW_lie (by rw [hs1]; exact hx11) (by rw [hs2]; exact hx68) (by omega), ← hv12, ← hv69]; exact j81), (by rw [rnW_lie (by rw [hs1]; exact hx11) (by rw [hs2]; exact hx68) (by omega), rnR_lie (by rw [hs1]; exact hx11) (by rw [hs2]; exact hx68) (by omega), show (cl.1 : Int) = 3 by omega, ← hv12, ← hv69]; exact j82), j83, (fun q => absurd q (by rw [hR86]; omega))⟩
            · refine br0 c84 ?_
              have d87 := nlt_z (x := (Int32.toInt r73)) (y := 0) rfl rfl c84
              have hR88 : rnR (lawW w ls) w cl (ovW w h0_asker_done.toInt h0_asker_latest.toInt) = r73.toInt := (rnR_lie (by rw [hs1]; exact hx11) (by rw [hs2]; exact hx68) (by omega)).trans (by rw [← hv12, ← hv69]; exact j80.symm)
              exact hq _ _ _ _ _ _ _ _ _ _ _ _ _ _ _ _ _ _ _ _ _ _ _ ⟨(by decide), ⟨by omega, by omega⟩, j77, h_f_h0_world_rock_water, h_f_h0_world_term, h_f_h0_world_crew_cell, h_f_h0_world_crew_buckets, ⟨by omega, by omega⟩, ⟨by omega, by omega⟩, (by rw [hR88, if_neg (by omega)]; rfl), (by rw [rnW_lie (by rw [hs1]; exact hx11) (by rw [hs2]; exact hx68) (by omega), ← hv12, ← hv69]; exact j81), (by rw [rnW_lie (by rw [hs1]; exact hx11) (by rw [hs2]; exact hx68) (by omega), rnR_lie (by rw [hs1]; exact hx11) (by rw [hs2]; exact hx68) (by omega), show (cl.1 : Int) = 3 by omega, ← hv12, ← hv69]; exact j82), j83, (fun _ => by rw [if_neg (by omega)])⟩
          · refine br0 c71 ?_
            have d89 := ne_z (x := (Int32.toInt r14)) (y := 22) rfl rfl c71
            refine s_X7_tryDig_Nz (ls := ls) v7 v64 h0_world h0_world_lawCount h0_world_force h0_world_crew_count (f_h0_world_crew_cell) h0_world_rock_dug (f_h0_world_rock_kind) (f_h0_world_laws) (.ref h0_world) h0_asker_law h0_asker_cell h0_asker_shaft h0_asker_kind (f_h0_world_term) (f_h0_world_rock_hard) h0_diary_kept h0_diary_latest (f_h0_diary_deed) (f_h0_diary_whose) (f_h0_diary_before) (f_h0_diary_bucketsBefore) (f_h0_diary_dayBefore) ⟨by omega, by omega⟩ ⟨by omega, by omega⟩ ⟨by omega, by omega⟩ h_f_h0_world_crew_cell h_f_h0_world_rock_kind ⟨by omega, by omega⟩ h_f_h0_world_term h_f_h0_world_rock_hard ⟨by omega, by omega⟩ ⟨by omega, by omega⟩ e_0 e_1 e_2 (fun r90 u91_0 u91_1 u91_2 u91_3 u91_4 u91_5 u91_6 u91_7 u91_8 u91_9 u91_10 u91_11 u91_12 u91_13 u91_14 H92 => ?_)
            have j93 := H92.1
            have j94 := H92.2.1
            have j95 := H92.2.2.1
            have j96 := H92.2.2.2.1
            have j97 := H92.2.2.2.2.1
            have j98 := H92.2.2.2.2.2.1
            have j99 := H92.2.2.2.2.2.2.1
            have j100 := H92.2.2.2.2.2.2.2.1
            have j101 := H92.2.2.2.2.2.2.2.2.1
            have j102 := H92.2.2.2.2.2.2.2.2.2
            refine un15_i ?_
            by_cases c103 : r90 < 0
            · refine br1 c103 ?_
              have d104 := lt_z (x := (Int32.toInt r90)) (y := 0) rfl rfl c103
              have hR105 : rnR (lawW w ls) w cl (ovW w h0_asker_done.toInt h0_asker_latest.toInt) = r90.toInt := (rnR_dig (by rw [hs1]; exact hx11) (by rw [hs2]; exact hx68) (by omega)).trans (by rw [← hv12, ← hv69]; exact j99.symm)
              exact hq _ _ _ _ _ _ _ _ _ _ _ _ _ _ _ _ _ _ _ _ _ _ _ ⟨(by decide), ⟨by omega, by omega⟩, h_f_h0_world_folk_column, h_f_h0_world_rock_water, j96, j94, h_f_h0_world_crew_buckets, ⟨by omega, by omega⟩, ⟨by omega, by omega⟩, (by rw [hR105, if_pos (by omega)]; rfl), (by rw [rnW_dig (by rw [hs1]; exact hx11) (by rw [hs2]; exact hx68) (by omega), ← hv12, ← hv69]; exact j100), (by rw [rnW_dig (by rw [hs1]; exact hx11) (by rw [hs2]; exact hx68) (by omega), rnR_dig (by rw [hs1]; exact hx11) (by rw [hs2]; exact hx68) (by omega), show (cl.1 : Int) = 0 by omega, ← hv12, ← hv69]; exact j101), j102, (fun q => absurd q (by rw [hR105]; omega))⟩
            · refine br0 c103 ?_
              have d106 := nlt_z (x := (Int32.toInt r90)) (y := 0) rfl rfl c103
              have hR107 : rnR (lawW w ls) w cl (ovW w h0_asker_done.toInt h0_asker_latest.toInt) = r90.toInt := (rnR_dig (by rw [hs1]; exact hx11) (by rw [hs2]; exact hx68) (by omega)).trans (by rw [← hv12, ← hv69]; exact j99.symm)
              exact hq _ _ _ _ _ _ _ _ _ _ _ _ _ _ _ _ _ _ _ _ _ _ _ ⟨(by decide), ⟨by omega, by omega⟩, h_f_h0_world_folk_column, h_f_h0_world_rock_water, j96, j94, h_f_h0_world_crew_buckets, ⟨by omega, by omega⟩, ⟨by omega, by omega⟩, (by rw [hR107, if_neg (by omega)]; rfl), (by rw [rnW_dig (by rw [hs1]; exact hx11) (by rw [hs2]; exact hx68) (by omega), ← hv12, ← hv69]; exact j100), (by rw [rnW_dig (by rw [hs1]; exact hx11) (by rw [hs2]; exact hx68) (by omega), rnR_dig (by rw [hs1]; exact hx11) (by rw [hs2]; exact hx68) (by omega), show (cl.1 : Int) = 0 by omega, ← hv12, ← hv69]; exact j101), j102, (fun _ => by rw [if_pos (by omega), hR107])⟩
        · skip
          refine br1 (z_eq (x := (Int32.toInt r63)) (y := 0) rfl rfl (by omega)) ?_
          have hR108 : rnR (lawW w ls) w cl (ovW w h0_asker_done.toInt h0_asker_latest.toInt) = -3 := rnR_1 (by rw [hs1]; exact hx11) (by rw [hs2]; exact hx68) ⟨by omega, by omega⟩
          exact hq _ _ _ _ _ _ _ _ _ _ _ _ _ _ _ _ _ _ _ _ _ _ _ ⟨(by decide), ⟨by omega, by omega⟩, h_f_h0_world_folk_column, h_f_h0_world_rock_water, h_f_h0_world_term, h_f_h0_world_crew_cell, h_f_h0_world_crew_buckets, ⟨by omega, by omega⟩, ⟨by omega, by omega⟩, (by rw [hR108, if_pos (by omega)]; rfl), (by rw [rnW_1 (by rw [hs1]; exact hx11) (by rw [hs2]; exact hx68) ⟨by omega, by omega⟩]; exact e_0), (by rw [rnW_1 (by rw [hs1]; exact hx11) (by rw [hs2]; exact hx68) ⟨by omega, by omega⟩, rnR_1 (by rw [hs1]; exact hx11) (by rw [hs2]; exact hx68) ⟨by omega, by omega⟩, rmU_n (by decide)]; exact e_1), e_2, (fun q => absurd q (by rw [hR108]; omega))⟩
  · skip
    refine br1 (z_eq (x := (Int32.toInt r6)) (y := 0) rfl rfl (by omega)) ?_
    have k109 : Int32.toInt 0 = 0 := rfl
    have hR110 : rnR (lawW w ls) w cl (ovW w h0_asker_done.toInt h0_asker_latest.toInt) = -3 := rnR_0 (by rw [hs1]; exact hx11)
    exact hq _ _ _ _ _ _ _ _ _ _ _ _ _ _ _ _ _ _ _ _ _ _ _ ⟨(by decide), ⟨by omega, by omega⟩, h_f_h0_world_folk_column, h_f_h0_world_rock_water, h_f_h0_world_term, h_f_h0_world_crew_cell, h_f_h0_world_crew_buckets, ⟨by omega, by omega⟩, ⟨by omega, by omega⟩, (by rw [hR110, if_pos (by omega)]; rfl), (by rw [rnW_0 (by rw [hs1]; exact hx11)]; exact e_0), (by rw [rnW_0 (by rw [hs1]; exact hx11), rnR_0 (by rw [hs1]; exact hx11), rmU_n (by decide)]; exact e_1), e_2, (fun q => absurd q (by rw [hR110]; omega))⟩


set_option maxRecDepth 100000 in
theorem s_X7_runOrder_Tz (b : Int32) (h0_world : Nat) (h0_latest : Int32) (p0_length : Int32) (n_p0_heads : Nat) (f_p0_heads : Nat → Int32) (h0_asker_law : Value) (h0_asker_cell : Int32) (h0_asker_shaft : Int32) (h0_asker_kind : Int32) (h0_asker_done : Int32) (h0_asker_latest : Int32) (h0_asker_value : Int32) (n_p0_code : Nat) (f_p0_code : Nat → Int32) (f_h0_asker_stack : Nat → Int64) (h0_world_lawCount : Int32) (h0_world_force : Int32) (h0_world_folk_listeners : Int32) (h0_world_folk_noises : Int32) (h0_world_folk_hushed : Int32) (f_h0_world_folk_column : Nat → Int32) (h0_world_rock_dug : Int64) (f_h0_world_rock_hard : Nat → Int32) (f_h0_world_rock_water : Nat → Int32) (f_h0_world_term : Nat → Int32) (h0_world_crew_count : Int32) (f_h0_world_crew_cell : Nat → Int32) (f_h0_world_crew_buckets : Nat → Int32) (f_h0_world_rock_kind : Nat → Int32) (f_h0_world_laws : Nat → Option Nat) (t : Nat) (t_clauses : Int32) (t_length : Int32) (n_t_heads : Nat) (f_t_heads : Nat → Int32) (n_t_code : Nat) (f_t_code : Nat → Int32) (h0_diary_kept : Int32) (h0_diary_latest : Int32) (f_h0_diary_deed : Nat → Int32) (f_h0_diary_whose : Nat → Int32) (f_h0_diary_before : Nat → Int32) (f_h0_diary_bucketsBefore : Nat → Int32) (f_h0_diary_dayBefore : Nat → Int32) (f_h0_world_folk_noiseColumn : Nat → Int32) (f_h0_world_folk_noiseLoud : Nat → Int32) {w : Nat → Int} {U : UL} {ls : Nat → List Cls} {cl : Cls} {c0 : Nat} {g_ea : Nat → Int32} {g_hc : Nat → Int32} {g_hl : Nat → Int32} {g_hs : Int32} {g_so : Nat → Int32} {g_we : Nat → Int32} {g_wl : Int32} (h_b : 0 ≤ b.toInt ∧ b.toInt ≤ 11) (h_p0_length : 0 ≤ p0_length.toInt ∧ p0_length.toInt ≤ 400) (h_f_p0_heads : HD f_p0_heads) (h_h0_asker_cell : 0 ≤ h0_asker_cell.toInt ∧ h0_asker_cell.toInt ≤ 39) (h_f_p0_code : CD f_p0_code) (h_h0_world_lawCount : 0 ≤ h0_world_lawCount.toInt ∧ h0_world_lawCount.toInt ≤ 6) (h_h0_world_force : 0 ≤ h0_world_force.toInt ∧ h0_world_force.toInt ≤ 5) (h_h0_world_folk_listeners : 0 ≤ h0_world_folk_listeners.toInt ∧ h0_world_folk_listeners.toInt ≤ 5) (h_h0_world_folk_noises : 0 ≤ h0_world_folk_noises.toInt ∧ h0_world_folk_noises.toInt ≤ 6) (h_f_h0_world_folk_column : CO f_h0_world_folk_column) (h_f_h0_world_rock_hard : HA f_h0_world_rock_hard) (h_f_h0_world_rock_water : WA f_h0_world_rock_water) (h_f_h0_world_term : TE f_h0_world_term) (h_h0_world_crew_count : 0 ≤ h0_world_crew_count.toInt ∧ h0_world_crew_count.toInt ≤ 6) (h_f_h0_world_crew_cell : CE f_h0_world_crew_cell) (h_f_h0_world_crew_buckets : BU f_h0_world_crew_buckets) (h_f_h0_world_rock_kind : KI f_h0_world_rock_kind) (h_t_clauses : 0 ≤ t_clauses.toInt ∧ t_clauses.toInt ≤ 12) (h_t_length : 0 ≤ t_length.toInt ∧ t_length.toInt ≤ 400) (h_f_t_code : CD f_t_code) (h_h0_diary_kept : 0 ≤ h0_diary_kept.toInt ∧ h0_diary_kept.toInt ≤ 16) (h_h0_diary_latest : 0 ≤ h0_diary_latest.toInt ∧ h0_diary_latest.toInt ≤ 15) (h_f_h0_world_folk_noiseColumn : NC f_h0_world_folk_noiseColumn) (h_f_h0_world_folk_noiseLoud : NL f_h0_world_folk_noiseLoud) (e_0 : RXw f_h0_world_rock_kind f_h0_world_rock_hard f_h0_world_rock_water h0_world_rock_dug f_h0_world_crew_cell f_h0_world_crew_buckets h0_world_crew_count f_h0_world_folk_column g_ea h0_world_folk_listeners f_h0_world_folk_noiseColumn f_h0_world_folk_noiseLoud h0_world_folk_noises h0_world_folk_hushed g_hc g_hl g_hs g_so g_we g_wl f_h0_world_term h0_world_lawCount h0_world_force w) (e_1 : RXu f_h0_diary_deed f_h0_diary_whose f_h0_diary_before f_h0_diary_bucketsBefore f_h0_diary_dayBefore h0_diary_kept h0_diary_latest w U) (e_2 : DI f_h0_diary_deed f_h0_diary_whose f_h0_diary_before f_h0_diary_bucketsBefore f_h0_diary_dayBefore) (e_3 : XTx t_clauses t_length n_t_heads f_t_heads n_t_code f_t_code (ls (w 6).toNat)) (e_4 : ∀ q ∈ ls (w 6).toNat, okC q) (e_5 : XC true f_p0_heads f_p0_code c0 (b.toInt).toNat cl) (e_6 : okO cl) (e_7 : p0_length.toInt = (c0 : Int)) (e_8 : c0 ≤ 400) (e_9 : c0 ≤ n_p0_code) (e_10 : 5 * (b.toInt).toNat + 5 ≤ n_p0_heads) (e_11 : n_p0_heads ≤ 60) (e_12 : n_t_heads < 100000) (e_13 : t_length.toInt ≤ (n_t_code : Int)) (e_14 : h0_world_force.toInt < h0_world_lawCount.toInt) (e_15 : f_h0_world_laws (Int32.toNatClampNeg h0_world_force) = some t) {Q : Int32 → (Int32 × Value × Value × Int32 × Int32 × Int32 × Int32 × (Nat → Int64) × Int32 × (Nat → Int32) × Int64 × (Nat → Int32) × (Nat → Int32) × (Nat → Int32) × (Nat → Int32) × Int32 × Int32 × (Nat → Int32) × (Nat → Int32) × (Nat → Int32) × (Nat → Int32) × (Nat → Int32)) → Prop} (hq : ∀ (r : Int32) (u_0 : Int32) (u_1 : Value) (u_2 : Value) (u_3 : Int32) (u_4 : Int32) (u_5 : Int32) (u_6 : Int32) (u_7 : Nat → Int64) (u_8 : Int32) (u_9 : Nat → Int32) (u_10 : Int64) (u_11 : Nat → Int32) (u_12 : Nat → Int32) (u_13 : Nat → Int32) (u_14 : Nat → Int32) (u_15 : Int32) (u_16 : Int32) (u_17 : Nat → Int32) (u_18 : Nat → Int32) (u_19 : Nat → Int32) (u_20 : Nat → Int32) (u_21 : Nat → Int32), (0 ≤ r.toInt ∧ r.toInt ≤ 1) ∧ (0 ≤ u_3.toInt ∧ u_3.toInt ≤ 39) ∧ (CO u_9) ∧ (WA u_11) ∧ (TE u_12) ∧ (CE u_13) ∧ (BU u_14) ∧ (0 ≤ u_15.toInt ∧ u_15.toInt ≤ 16) ∧ (0 ≤ u_16.toInt ∧ u_16.toInt ≤ 15) ∧ (r.toInt = (if rnR (lawW w ls) w cl (ovW w h0_asker_done.toInt h0_asker_latest.toInt) < 0 then 0 else 1)) ∧ (RXw f_h0_world_rock_kind f_h0_world_rock_hard u_11 u_10 u_13 u_14 h0_world_crew_count u_9 g_ea h0_world_folk_listeners f_h0_world_folk_noiseColumn f_h0_world_folk_noiseLoud h0_world_folk_noises u_8 g_hc g_hl g_hs g_so g_we g_wl u_12 h0_world_lawCount h0_world_force (rnW (lawW w ls) w cl (ovW w h0_asker_done.toInt h0_asker_latest.toInt))) ∧ (RXu u_17 u_18 u_19 u_20 u_21 u_15 u_16 (rnW (lawW w ls) w cl (ovW w h0_asker_done.toInt h0_asker_latest.toInt)) (rmU (rnR (lawW w ls) w cl (ovW w h0_asker_done.toInt h0_asker_latest.toInt)) (cl.1 : Int) w U)) ∧ (DI u_17 u_18 u_19 u_20 u_21) ∧ (0 ≤ rnR (lawW w ls) w cl (ovW w h0_asker_done.toInt h0_asker_latest.toInt) → u_0.toInt = (if cl.1 < 2 then rnR (lawW w ls) w cl (ovW w h0_asker_done.toInt h0_asker_latest.toInt) else h0_latest.toInt)) → Q r (u_0, u_1, u_2, u_3, u_4, u_5, u_6, u_7, u_8, u_9, u_10, u_11, u_12, u_13, u_14, u_15, u_16, u_17, u_18, u_19, u_20, u_21)) : wp_X7_runOrder_T b h0_world h0_latest p0_length n_p0_heads f_p0_heads h0_asker_law h0_asker_cell h0_asker_shaft h0_asker_kind h0_asker_done h0_asker_latest h0_asker_value n_p0_code f_p0_code f_h0_asker_stack h0_world_lawCount h0_world_force h0_world_folk_listeners h0_world_folk_noises h0_world_folk_hushed f_h0_world_folk_column h0_world_rock_dug f_h0_world_rock_hard f_h0_world_rock_water f_h0_world_term h0_world_crew_count f_h0_world_crew_cell f_h0_world_crew_buckets f_h0_world_rock_kind f_h0_world_laws t t_clauses t_length n_t_heads f_t_heads n_t_code f_t_code h0_diary_kept h0_diary_latest f_h0_diary_deed f_h0_diary_whose f_h0_diary_before f_h0_diary_bucketsBefore f_h0_diary_dayBefore f_h0_world_folk_noiseColumn f_h0_world_folk_noiseLoud Q := by
  unfold wp_X7_runOrder_T
  have l_kd := RXw.kd e_0
  have l_hd := RXw.hd e_0
  have l_wt := RXw.wt e_0
  have l_ce := RXw.ce e_0
  have l_bu := RXw.bu e_0
  have l_cc : h0_world_crew_count.toInt = w 0 := RXw.cc e_0
  have l_co := RXw.co e_0
  have l_ls : h0_world_folk_listeners.toInt = w 1 := RXw.ls e_0
  have l_nc := RXw.nc e_0
  have l_nl := RXw.nl e_0
  have l_ns : h0_world_folk_noises.toInt = w 2 := RXw.ns e_0
  have l_te := RXw.te e_0
  have l_lc : h0_world_lawCount.toInt = w 5 := RXw.lc e_0
  have l_fo : h0_world_force.toInt = w 6 := RXw.fo e_0
  have vb := vbT e_6.1
  have o3 := e_6.1
  obtain ⟨s1, hs1⟩ := e_6.2.1
  have k2 : Int32.toInt 1 = 1 := rfl
  refine z_hd1 e_5 (by omega) (by omega) (by omega) (fun r1 H3 => ?_)
  have sg4 := H3
  rw [hs1] at sg4
  refine z_rsum (RXw.evO e_0 (by omega) (by omega)) (by omega) (by omega) (by omega) sg4 (fun r6 v7 st8 H13 => ?_)
  refine un2_i ?_
  rcases H13 with ⟨e9, x5, hx11, hv12⟩ | ⟨e9, hx11⟩
  · skip
    refine br0 (z_ne (x := (Int32.toInt r6)) (y := 0) rfl rfl (by omega)) ?_
    refine o_X0_reckoned _ _ ?_
    have k15 : Int32.toInt 0 = 0 := rfl
    refine z_hd0 e_5 (by omega) (by omega) (by omega) (fun r14 H16 => ?_)
    have sg17 := H16
    by_cases c18 : r14 = 21
    · refine br1 c18 ?_
      have d19 := eq_z (x := (Int32.toInt r14)) (y := 21) rfl rfl c18
      refine s_X7_tryHushz v7 h0_world_folk_noises h0_world_folk_hushed h0_diary_kept h0_diary_latest (f_h0_diary_deed) (f_h0_diary_whose) (f_h0_diary_before) (f_h0_diary_bucketsBefore) (f_h0_diary_dayBefore) (f_h0_world_folk_noiseColumn) (f_h0_world_folk_noiseLoud) ⟨by omega, by omega⟩ ⟨by omega, by omega⟩ ⟨by omega, by omega⟩ h_f_h0_world_folk_noiseColumn h_f_h0_world_folk_noiseLoud e_0 e_1 e_2 (fun r20 u21_0 u21_1 u21_2 u21_3 u21_4 u21_5 u21_6 u21_7 H22 => ?_)
      have j23 := H22.1
      have j24 := H22.2.1
      have j25 := H22.2.2.1
      have j26 := H22.2.2.2.1
      have j27 := H22.2.2.2.2.1
      have j28 := H22.2.2.2.2.2.1
      have j29 := H22.2.2.2.2.2.2
      refine un8_i ?_
      by_cases c30 : r20 < 0
      · refine br1 c30 ?_
        have d31 := lt_z (x := (Int32.toInt r20)) (y := 0) rfl rfl c30
        have hR32 : rnR (lawW w ls) w cl (ovW w h0_asker_done.toInt h0_asker_latest.toInt) = r20.toInt := (rnR_hush (by rw [hs1]; exact hx11) (by omega)).trans (by rw [← hv12]; exact j26.symm)
        exact hq _ _ _ _ _ _ _ _ _ _ _ _ _ _ _ _ _ _ _ _ _ _ _ ⟨(by decide), ⟨by omega, by omega⟩, h_f_h0_world_folk_column, h_f_h0_world_rock_water, h_f_h0_world_term, h_f_h0_world_crew_cell, h_f_h0_world_crew_buckets, ⟨by omega, by omega⟩, ⟨by omega, by omega⟩, (by rw [hR32, if_pos (by omega)]; rfl), (by rw [rnW_hush (by rw [hs1]; exact hx11) (by omega), ← hv12]; exact j27), (by rw [rnW_hush (by rw [hs1]; exact hx11) (by omega), rnR_hush (by rw [hs1]; exact hx11) (by omega), show (cl.1 : Int) = 2 by omega, ← hv12]; exact j28), j29, (fun q => absurd q (by rw [hR32]; omega))⟩
      · refine br0 c30 ?_
        have d33 := nlt_z (x := (Int32.toInt r20)) (y := 0) rfl rfl c30
        have hR34 : rnR (lawW w ls) w cl (ovW w h0_asker_done.toInt h0_asker_latest.toInt) = r20.toInt := (rnR_hush (by rw [hs1]; exact hx11) (by omega)).trans (by rw [← hv12]; exact j26.symm)
        exact hq _ _ _ _ _ _ _ _ _ _ _ _ _ _ _ _ _ _ _ _ _ _ _ ⟨(by decide), ⟨by omega, by omega⟩, h_f_h0_world_folk_column, h_f_h0_world_rock_water, h_f_h0_world_term, h_f_h0_world_crew_cell, h_f_h0_world_crew_buckets, ⟨by omega, by omega⟩, ⟨by omega, by omega⟩, (by rw [hR34, if_neg (by omega)]; rfl), (by rw [rnW_hush (by rw [hs1]; exact hx11) (by omega), ← hv12]; exact j27), (by rw [rnW_hush (by rw [hs1]; exact hx11) (by omega), rnR_hush (by rw [hs1]; exact hx11) (by omega), show (cl.1 : Int) = 2 by omega, ← hv12]; exact j28), j29, (fun _ => by rw [if_neg (by omega)])⟩
    · refine br0 c18 ?_
      have d35 := ne_z (x := (Int32.toInt r14)) (y := 21) rfl rfl c18
      by_cases c36 : r14 = 20
      · refine br1 c36 ?_
        have d37 := eq_z (x := (Int32.toInt r14)) (y := 20) rfl rfl c36
        refine s_X7_tryHaul_Tz (ls := ls) v7 h0_world h0_world_lawCount h0_world_force h0_world_crew_count (f_h0_world_crew_cell) (f_h0_world_term) (f_h0_world_rock_kind) (f_h0_world_laws) (.ref h0_world) h0_asker_law h0_asker_cell h0_asker_shaft h0_asker_kind h0_asker_done h0_asker_latest v7 t t_clauses t_length n_t_heads (f_t_heads) n_t_code (f_t_code) (st8) h0_world_folk_listeners (f_h0_world_folk_column) (f_h0_world_rock_hard) (f_h0_world_rock_water) (f_h0_world_crew_buckets) h0_diary_kept h0_diary_latest (f_h0_diary_deed) (f_h0_diary_whose) (f_h0_diary_before) (f_h0_diary_bucketsBefore) (f_h0_diary_dayBefore) ⟨by omega, by omega⟩ ⟨by omega, by omega⟩ ⟨by omega, by omega⟩ h_f_h0_world_crew_cell h_f_h0_world_term h_f_h0_world_rock_kind ⟨by omega, by omega⟩ ⟨by omega, by omega⟩ ⟨by omega, by omega⟩ h_f_t_code ⟨by omega, by omega⟩ h_f_h0_world_folk_column h_f_h0_world_rock_hard h_f_h0_world_rock_water h_f_h0_world_crew_buckets ⟨by omega, by omega⟩ ⟨by omega, by omega⟩ e_0 e_1 e_2 e_3 e_4 (by omega) (by omega) (by omega) (by assumption) (fun r38 u39_0 u39_1 u39_2 u39_3 u39_4 u39_5 u39_6 u39_7 u39_8 u39_9 u39_10 u39_11 u39_12 u39_13 u39_14 u39_15 u39_16 H40 => ?_)
        have j41 := H40.1
        have j42 := H40.2.1
        have j43 := H40.2.2.1
        have j44 := H40.2.2.2.1
        have j45 := H40.2.2.2.2.1
        have j46 := H40.2.2.2.2.2.1
        have j47 := H40.2.2.2.2.2.2.1
        have j48 := H40.2.2.2.2.2.2.2.1
        have j49 := H40.2.2.2.2.2.2.2.2.1
        have j50 := H40.2.2.2.2.2.2.2.2.2.1
        have j51 := H40.2.2.2.2.2.2.2.2.2.2
        refine un17_i ?_
        by_cases c52 : r38 < 0
        · refine br1 c52 ?_
          have d53 := lt_z (x := (Int32.toInt r38)) (y := 0) rfl rfl c52
          have hR54 : rnR (lawW w ls) w cl (ovW w h0_asker_done.toInt h0_asker_latest.toInt) = r38.toInt := (rnR_haul (by rw [hs1]; exact hx11) (by omega)).trans (by rw [← hv12]; exact j48.symm)
          exact hq _ _ _ _ _ _ _ _ _ _ _ _ _ _ _ _ _ _ _ _ _ _ _ ⟨(by decide), ⟨by omega, by omega⟩, h_f_h0_world_folk_column, j44, j42, h_f_h0_world_crew_cell, j45, ⟨by omega, by omega⟩, ⟨by omega, by omega⟩, (by rw [hR54, if_pos (by omega)]; rfl), (by rw [rnW_haul (by rw [hs1]; exact hx11) (by omega), ← hv12]; exact j49), (by rw [rnW_haul (by rw [hs1]; exact hx11) (by omega), rnR_haul (by rw [hs1]; exact hx11) (by omega), show (cl.1 : Int) = 1 by omega, ← hv12]; exact j50), j51, (fun q => absurd q (by rw [hR54]; omega))⟩
        · refine br0 c52 ?_
          have d55 := nlt_z (x := (Int32.toInt r38)) (y := 0) rfl rfl c52
          have hR56 : rnR (lawW w ls) w cl (ovW w h0_asker_done.toInt h0_asker_latest.toInt) = r38.toInt := (rnR_haul (by rw [hs1]; exact hx11) (by omega)).trans (by rw [← hv12]; exact j48.symm)
          exact hq _ _ _ _ _ _ _ _ _ _ _ _ _ _ _ _ _ _ _ _ _ _ _ ⟨(by decide), ⟨by omega, by omega⟩, h_f_h0_world_folk_column, j44, j42, h_f_h0_world_crew_cell, j45, ⟨by omega, by omega⟩, ⟨by omega, by omega⟩, (by rw [hR56, if_neg (by omega)]; rfl), (by rw [rnW_haul (by rw [hs1]; exact hx11) (by omega), ← hv12]; exact j49), (by rw [rnW_haul (by rw [hs1]; exact hx11) (by omega), rnR_haul (by rw [hs1]; exact hx11) (by omega), show (cl.1 : Int) = 1 by omega, ← hv12]; exact j50), j51, (fun _ => by rw [if_pos (by omega), hR56])⟩
      · refine br0 c36 ?_
        have d57 := ne_z (x := (Int32.toInt r14)) (y := 20) rfl rfl c36
        have k59 : Int32.toInt 2 = 2 := rfl
        refine z_hd2 e_5 (by omega) (by omega) (by omega) (fun r58 H60 => ?_)
        have sg61 := H60
        obtain ⟨s2, hs2⟩ := e_6.2.2.1 (by omega)
        rw [hs2] at sg61
        refine z_rsum (RXw.evO e_0 (by omega) (by omega)) (by omega) (by omega) (by omega) sg61 (fun r63 v64 st65 H70 => ?_)
        refine un2_i ?_
        rcases H70 with ⟨e66, x62, hx68, hv69⟩ | ⟨e66, hx68⟩
        · skip
          refine br0 (z_ne (x := (Int32.toInt r63)) (y := 0) rfl rfl (by omega)) ?_
          refine o_X0_reckoned _ _ ?_
          by_cases c71 : r14 = 22
          · refine br1 c71 ?_
            have d72 := eq_z (x := (Int32.toInt r14)) (y := 22) rfl rfl c71
            refine s_X7_tryLiez v7 v64 h0_world_folk_listeners (f_h0_world_folk_column) h0_diary_kept h0_diary_latest (f_h0_diary_deed) (f_h0_diary_whose) (f_h0_diary_before) (f_h0_diary_bucketsBefore) (f_h0_diary_dayBefore) ⟨by omega, by omega⟩ h_f_h0_world_folk_column ⟨by omega, by omega⟩ ⟨by omega, by omega⟩ e_0 e_1 e_2 (fun r73 u74_0 u74_1 u74_2 u74_3 u74_4 u74_5 u74_6 u74_7 H75 => ?_)
            have j76 := H75.1
            have j77 := H75.2.1
            have j78 := H75.2.2.1
            have j79 := H75.2.2.2.1
            have j80 := H75.2.2.2.2.1
            have j81 := H75.2.2.2.2.2.1
            have j82 := H75.2.2.2.2.2.2.1
            have j83 := H75.2.2.2.2.2.2.2
            refine un8_i ?_
            by_cases c84 : r73 < 0
            · refine br1 c84 ?_
              have d85 := lt_z (x := (Int32.toInt r73)) (y := 0) rfl rfl c84
              have hR86 : rnR (lawW w ls) w cl (ovW w h0_asker_done.toInt h0_asker_latest.toInt) = r73.toInt := (rnR_lie (by rw [hs1]; exact hx11) (by rw [hs2]; exact hx68) (by omega)).trans (by rw [← hv12, ← hv69]; exact j80.symm)
              exact hq _ _ _ _ _ _ _ _ _ _ _ _ _ _ _ _ _ _ _ _ _ _ _ ⟨(by decide), ⟨by omega, by omega⟩, j77, h_f_h0_world_rock_water, h_f_h0_world_term, h_f_h0_world_crew_cell, h_f_h0_world_crew_buckets, ⟨by omega, by omega⟩, ⟨by omega, by omega⟩, (by rw [hR86, if_pos (by omega)]; rfl), (by rw [rnW_lie (by rw [hs1]; exact hx11) (by rw [hs2]; exact hx68) (by omega), ← hv12, ← hv69]; exact j81), (by rw [rnW_lie (by rw [hs1]; exact hx11) (by rw [hs2]; exact hx68) (by omega), rnR_lie (by rw [hs1]; exact hx11) (by rw [hs2]; exact hx68) (by omega), show (cl.1 : Int) = 3 by omega, ← hv12, ← hv69]; exact j82), j83, (fun q => absurd q (by rw [hR86]; omega))⟩
            · refine br0 c84 ?_
              have d87 := nlt_z (x := (Int32.toInt r73)) (y := 0) rfl rfl c84
              have hR88 : rnR (lawW w ls) w cl (ovW w h0_asker_done.toInt h0_asker_latest.toInt) = r73.toInt := (rnR_lie (by rw [hs1]; exact hx11) (by rw [hs2]; exact hx68) (by omega)).trans (by rw [← hv12, ← hv69]; exact j80.symm)
              exact hq _ _ _ _ _ _ _ _ _ _ _ _ _ _ _ _ _ _ _ _ _ _ _ ⟨(by decide), ⟨by omega, by omega⟩, j77, h_f_h0_world_rock_water, h_f_h0_world_term, h_f_h0_world_crew_cell, h_f_h0_world_crew_buckets, ⟨by omega, by omega⟩, ⟨by omega, by omega⟩, (by rw [hR88, if_neg (by omega)]; rfl), (by rw [rnW_lie (by rw [hs1]; exact hx11) (by rw [hs2]; exact hx68) (by omega), ← hv12, ← hv69]; exact j81), (by rw [rnW_lie (by rw [hs1]; exact hx11) (by rw [hs2]; exact hx68) (by omega), rnR_lie (by rw [hs1]; exact hx11) (by rw [hs2]; exact hx68) (by omega), show (cl.1 : Int) = 3 by omega, ← hv12, ← hv69]; exact j82), j83, (fun _ => by rw [if_neg (by omega)])⟩
          · refine br0 c71 ?_
            have d89 := ne_z (x := (Int32.toInt r14)) (y := 22) rfl rfl c71
            refine s_X7_tryDig_Tz (ls := ls) v7 v64 h0_world h0_world_lawCount h0_world_force h0_world_crew_count (f_h0_world_crew_cell) h0_world_rock_dug (f_h0_world_rock_kind) (f_h0_world_laws) (.ref h0_world) h0_asker_law h0_asker_cell h0_asker_shaft h0_asker_kind h0_asker_done h0_asker_latest v64 (f_h0_world_term) (f_h0_world_rock_hard) t t_clauses t_length n_t_heads (f_t_heads) n_t_code (f_t_code) (st65) h0_world_folk_listeners (f_h0_world_folk_column) (f_h0_world_rock_water) (f_h0_world_crew_buckets) h0_diary_kept h0_diary_latest (f_h0_diary_deed) (f_h0_diary_whose) (f_h0_diary_before) (f_h0_diary_bucketsBefore) (f_h0_diary_dayBefore) ⟨by omega, by omega⟩ ⟨by omega, by omega⟩ ⟨by omega, by omega⟩ h_f_h0_world_crew_cell h_f_h0_world_rock_kind ⟨by omega, by omega⟩ h_f_h0_world_term h_f_h0_world_rock_hard ⟨by omega, by omega⟩ ⟨by omega, by omega⟩ h_f_t_code ⟨by omega, by omega⟩ h_f_h0_world_folk_column h_f_h0_world_rock_water h_f_h0_world_crew_buckets ⟨by omega, by omega⟩ ⟨by omega, by omega⟩ e_0 e_1 e_2 e_3 e_4 (by omega) (by omega) (by omega) (by assumption) (fun r90 u91_0 u91_1 u91_2 u91_3 u91_4 u91_5 u91_6 u91_7 u91_8 u91_9 u91_10 u91_11 u91_12 u91_13 u91_14 u91_15 u91_16 H92 => ?_)
            have j93 := H92.1
            have j94 := H92.2.1
            have j95 := H92.2.2.1
            have j96 := H92.2.2.2.1
            have j97 := H92.2.2.2.2.1
            have j98 := H92.2.2.2.2.2.1
            have j99 := H92.2.2.2.2.2.2.1
            have j100 := H92.2.2.2.2.2.2.2.1
            have j101 := H92.2.2.2.2.2.2.2.2.1
            have j102 := H92.2.2.2.2.2.2.2.2.2
            refine un17_i ?_
            by_cases c103 : r90 < 0
            · refine br1 c103 ?_
              have d104 := lt_z (x := (Int32.toInt r90)) (y := 0) rfl rfl c103
              have hR105 : rnR (lawW w ls) w cl (ovW w h0_asker_done.toInt h0_asker_latest.toInt) = r90.toInt := (rnR_dig (by rw [hs1]; exact hx11) (by rw [hs2]; exact hx68) (by omega)).trans (by rw [← hv12, ← hv69]; exact j99.symm)
              exact hq _ _ _ _ _ _ _ _ _ _ _ _ _ _ _ _ _ _ _ _ _ _ _ ⟨(by decide), ⟨by omega, by omega⟩, h_f_h0_world_folk_column, h_f_h0_world_rock_water, j96, j94, h_f_h0_world_crew_buckets, ⟨by omega, by omega⟩, ⟨by omega, by omega⟩, (by rw [hR105, if_pos (by omega)]; rfl), (by rw [rnW_dig (by rw [hs1]; exact hx11) (by rw [hs2]; exact hx68) (by omega), ← hv12, ← hv69]; exact j100), (by rw [rnW_dig (by rw [hs1]; exact hx11) (by rw [hs2]; exact hx68) (by omega), rnR_dig (by rw [hs1]; exact hx11) (by rw [hs2]; exact hx68) (by omega), show (cl.1 : Int) = 0 by omega, ← hv12, ← hv69]; exact j101), j102, (fun q => absurd q (by rw [hR105]; omega))⟩
            · refine br0 c103 ?_
              have d106 := nlt_z (x := (Int32.toInt r90)) (y := 0) rfl rfl c103
              have hR107 : rnR (lawW w ls) w cl (ovW w h0_asker_done.toInt h0_asker_latest.toInt) = r90.toInt := (rnR_dig (by rw [hs1]; exact hx11) (by rw [hs2]; exact hx68) (by omega)).trans (by rw [← hv12, ← hv69]; exact j99.symm)
              exact hq _ _ _ _ _ _ _ _ _ _ _ _ _ _ _ _ _ _ _ _ _ _ _ ⟨(by decide), ⟨by omega, by omega⟩, h_f_h0_world_folk_column, h_f_h0_world_rock_water, j96, j94, h_f_h0_world_crew_buckets, ⟨by omega, by omega⟩, ⟨by omega, by omega⟩, (by rw [hR107, if_neg (by omega)]; rfl), (by rw [rnW_dig (by rw [hs1]; exact hx11) (by rw [hs2]; exact hx68) (by omega), ← hv12, ← hv69]; exact j100), (by rw [rnW_dig (by rw [hs1]; exact hx11) (by rw [hs2]; exact hx68) (by omega), rnR_dig (by rw [hs1]; exact hx11) (by rw [hs2]; exact hx68) (by omega), show (cl.1 : Int) = 0 by omega, ← hv12, ← hv69]; exact j101), j102, (fun _ => by rw [if_pos (by omega), hR107])⟩
        · skip
          refine br1 (z_eq (x := (Int32.toInt r63)) (y := 0) rfl rfl (by omega)) ?_
          have hR108 : rnR (lawW w ls) w cl (ovW w h0_asker_done.toInt h0_asker_latest.toInt) = -3 := rnR_1 (by rw [hs1]; exact hx11) (by rw [hs2]; exact hx68) ⟨by omega, by omega⟩
          exact hq _ _ _ _ _ _ _ _ _ _ _ _ _ _ _ _ _ _ _ _ _ _ _ ⟨(by decide), ⟨by omega, by omega⟩, h_f_h0_world_folk_column, h_f_h0_world_rock_water, h_f_h0_world_term, h_f_h0_world_crew_cell, h_f_h0_world_crew_buckets, ⟨by omega, by omega⟩, ⟨by omega, by omega⟩, (by rw [hR108, if_pos (by omega)]; rfl), (by rw [rnW_1 (by rw [hs1]; exact hx11) (by rw [hs2]; exact hx68) ⟨by omega, by omega⟩]; exact e_0), (by rw [rnW_1 (by rw [hs1]; exact hx11) (by rw [hs2]; exact hx68) ⟨by omega, by omega⟩, rnR_1 (by rw [hs1]; exact hx11) (by rw [hs2]; exact hx68) ⟨by omega, by omega⟩, rmU_n (by decide)]; exact e_1), e_2, (fun q => absurd q (by rw [hR108]; omega))⟩
  · skip
    refine br1 (z_eq (x := (Int32.toInt r6)) (y := 0) rfl rfl (by omega)) ?_
    have k109 : Int32.toInt 0 = 0 := rfl
    have hR110 : rnR (lawW w ls) w cl (ovW w h0_asker_done.toInt h0_asker_latest.toInt) = -3 := rnR_0 (by rw [hs1]; exact hx11)
    exact hq _ _ _ _ _ _ _ _ _ _ _ _ _ _ _ _ _ _ _ _ _ _ _ ⟨(by decide), ⟨by omega, by omega⟩, h_f_h0_world_folk_column, h_f_h0_world_rock_water, h_f_h0_world_term, h_f_h0_world_crew_cell, h_f_h0_world_crew_buckets, ⟨by omega, by omega⟩, ⟨by omega, by omega⟩, (by rw [hR110, if_pos (by omega)]; rfl), (by rw [rnW_0 (by rw [hs1]; exact hx11)]; exact e_0), (by rw [rnW_0 (by rw [hs1]; exact hx11), rnR_0 (by rw [hs1]; exact hx11), rmU_n (by decide)]; exact e_1), e_2, (fun q => absurd q (by rw [hR110]; omega))⟩


set_option maxRecDepth 100000 in
theorem sl_X7_runOrders_N_38z (h0_world : Nat) (p0_length : Int32) (n_p0_heads : Nat) (f_p0_heads : Nat → Int32) (n_p0_code : Nat) (f_p0_code : Nat → Int32) (h0_world_lawCount : Int32) (h0_world_force : Int32) (h0_world_folk_listeners : Int32) (h0_world_folk_noises : Int32) (f_h0_world_rock_hard : Nat → Int32) (h0_world_crew_count : Int32) (f_h0_world_rock_kind : Nat → Int32) (f_h0_world_laws : Nat → Option Nat) (f_h0_world_folk_noiseColumn : Nat → Int32) (f_h0_world_folk_noiseLoud : Nat → Int32) (x_12_0 : Int32) (r_23 : Int32) (r_30 : Int32) (w : Nat → Int) (U : UL) (ls : Nat → List Cls) (L : List Cls) (c0 : Nat) (g_ea : Nat → Int32) (g_hc : Nat → Int32) (g_hl : Nat → Int32) (g_hs : Int32) (g_so : Nat → Int32) (g_we : Nat → Int32) (g_wl : Int32) (cl : Cls) (r1 : List Cls) (s0 : OSt) (h_p0_length : 0 ≤ p0_length.toInt ∧ p0_length.toInt ≤ 400) (h_f_p0_heads : HD f_p0_heads) (h_f_p0_code : CD f_p0_code) (h_h0_world_lawCount : 0 ≤ h0_world_lawCount.toInt ∧ h0_world_lawCount.toInt ≤ 6) (h_h0_world_force : (-1) ≤ h0_world_force.toInt ∧ h0_world_force.toInt ≤ (-1)) (h_h0_world_folk_listeners : 0 ≤ h0_world_folk_listeners.toInt ∧ h0_world_folk_listeners.toInt ≤ 5) (h_h0_world_folk_noises : 0 ≤ h0_world_folk_noises.toInt ∧ h0_world_folk_noises.toInt ≤ 6) (h_f_h0_world_rock_hard : HA f_h0_world_rock_hard) (h_h0_world_crew_count : 0 ≤ h0_world_crew_count.toInt ∧ h0_world_crew_count.toInt ≤ 6) (h_f_h0_world_rock_kind : KI f_h0_world_rock_kind) (h_f_h0_world_folk_noiseColumn : NC f_h0_world_folk_noiseColumn) (h_f_h0_world_folk_noiseLoud : NL f_h0_world_folk_noiseLoud) (h_x_12_0 : 0 ≤ x_12_0.toInt ∧ x_12_0.toInt ≤ 11) (h_r_23 : 1 ≤ r_23.toInt ∧ r_23.toInt ≤ 20) (z23 : r_23.toInt = (cl.2.2.2.1 : Int)) (hxc : XC true f_p0_heads f_p0_code c0 x_12_0.toInt.toNat cl) (hokO : okO cl) (hsg3 : sgX true f_p0_code c0 r_30 cl.2.2.2.2) (zl : p0_length.toInt = (c0 : Int) ∧ c0 ≤ 400 ∧ c0 ≤ n_p0_code ∧ n_p0_heads = 60 ∧ x_12_0.toInt ≤ 11) (hO : ordF ls 0 L (w, U, 0, -1) = ordF ls x_12_0.toInt.toNat (cl :: r1) s0) (z_n_p0_heads : n_p0_heads < 100000) (z_n_p0_code : p0_length.toInt ≤ (n_p0_code : Int)) {Q : Int32 → (Int32 × Int32 × Value × Value × Int32 × Int32 × Int32 × Int32 × Int32 × Int32 × (Nat → Int64) × Int32 × (Nat → Int32) × Int64 × (Nat → Int32) × (Nat → Int32) × (Nat → Int32) × (Nat → Int32) × Int32 × Int32 × (Nat → Int32) × (Nat → Int32) × (Nat → Int32) × (Nat → Int32) × (Nat → Int32)) → Prop} (hq : ∀ (r : Int32) (u_0 : Int32) (u_1 : Int32) (u_2 : Value) (u_3 : Value) (u_4 : Int32) (u_5 : Int32) (u_6 : Int32) (u_7 : Int32) (u_8 : Int32) (u_9 : Int32) (u_10 : Nat → Int64) (u_11 : Int32) (u_12 : Nat → Int32) (u_13 : Int64) (u_14 : Nat → Int32) (u_15 : Nat → Int32) (u_16 : Nat → Int32) (u_17 : Nat → Int32) (u_18 : Int32) (u_19 : Int32) (u_20 : Nat → Int32) (u_21 : Nat → Int32) (u_22 : Nat → Int32) (u_23 : Nat → Int32) (u_24 : Nat → Int32), ((-1) ≤ r.toInt ∧ r.toInt ≤ 11) ∧ (0 ≤ u_0.toInt ∧ u_0.toInt ≤ 240) ∧ (0 ≤ u_4.toInt ∧ u_4.toInt ≤ 39) ∧ (CO u_12) ∧ (WA u_14) ∧ (TE u_15) ∧ (CE u_16) ∧ (BU u_17) ∧ (0 ≤ u_18.toInt ∧ u_18.toInt ≤ 16) ∧ (0 ≤ u_19.toInt ∧ u_19.toInt ≤ 15) ∧ (r.toInt = (ordF ls 0 L (w, U, 0, -1)).2 ∧ ∀ s : OSt, (ordF ls 0 L (w, U, 0, -1)).1 = some s → RXw f_h0_world_rock_kind f_h0_world_rock_hard u_14 u_13 u_16 u_17 h0_world_crew_count u_12 g_ea h0_world_folk_listeners f_h0_world_folk_noiseColumn f_h0_world_folk_noiseLoud h0_world_folk_noises u_11 g_hc g_hl g_hs g_so g_we g_wl u_15 h0_world_lawCount h0_world_force s.1 ∧ RXu u_20 u_21 u_22 u_23 u_24 u_18 u_19 s.1 s.2.1 ∧ u_0.toInt = s.2.2.1) ∧ (DI u_20 u_21 u_22 u_23 u_24) → Q r (u_0, u_1, u_2, u_3, u_4, u_5, u_6, u_7, u_8, u_9, u_10, u_11, u_12, u_13, u_14, u_15, u_16, u_17, u_18, u_19, u_20, u_21, u_22, u_23, u_24)) (Qb : Int32 → Int32 → Int32 → Value → Value → Int32 → Int32 → Int32 → Int32 → Int32 → Int32 → (Nat → Int64) → Int32 → (Nat → Int32) → Int64 → (Nat → Int32) → (Nat → Int32) → (Nat → Int32) → (Nat → Int32) → Int32 → Int32 → (Nat → Int32) → (Nat → Int32) → (Nat → Int32) → (Nat → Int32) → (Nat → Int32) → Prop) (KX : ∀ (x_38_0 : Int32) (x_38_1 : Int32) (x_38_2 : Int32) (x_38_3 : Value) (x_38_4 : Value) (x_38_5 : Int32) (x_38_6 : Int32) (x_38_7 : Int32) (x_38_8 : Int32) (x_38_9 : Int32) (x_38_10 : Int32) (x_38_11 : Nat → Int64) (x_38_12 : Int32) (x_38_13 : Nat → Int32) (x_38_14 : Int64) (x_38_15 : Nat → Int32) (x_38_16 : Nat → Int32) (x_38_17 : Nat → Int32) (x_38_18 : Nat → Int32) (x_38_19 : Int32) (x_38_20 : Int32) (x_38_21 : Nat → Int32) (x_38_22 : Nat → Int32) (x_38_23 : Nat → Int32) (x_38_24 : Nat → Int32) (x_38_25 : Nat → Int32), (1 ≤ x_38_0.toInt ∧ x_38_0.toInt ≤ 20) ∧ (0 ≤ x_38_1.toInt ∧ x_38_1.toInt ≤ 240) ∧ (0 ≤ x_38_5.toInt ∧ x_38_5.toInt ≤ 39) ∧ (CO x_38_13) ∧ (WA x_38_15) ∧ (TE x_38_16) ∧ (CE x_38_17) ∧ (BU x_38_18) ∧ (0 ≤ x_38_19.toInt ∧ x_38_19.toInt ≤ 16) ∧ (0 ≤ x_38_20.toInt ∧ x_38_20.toInt ≤ 15) ∧ (DI x_38_21 x_38_22 x_38_23 x_38_24 x_38_25) ∧ (x_38_1.toInt ≤ 20 * x_12_0.toInt + x_38_0.toInt) ∧ (∃ s : OSt, rnT ls cl cl.2.2.2.1 s0 = rnT ls cl (cl.2.2.2.1 - (x_38_0.toInt).toNat) s ∧ RXw f_h0_world_rock_kind f_h0_world_rock_hard x_38_15 x_38_14 x_38_17 x_38_18 h0_world_crew_count x_38_13 g_ea h0_world_folk_listeners f_h0_world_folk_noiseColumn f_h0_world_folk_noiseLoud h0_world_folk_noises x_38_12 g_hc g_hl g_hs g_so g_we g_wl x_38_16 h0_world_lawCount h0_world_force s.1 ∧ RXu x_38_21 x_38_22 x_38_23 x_38_24 x_38_25 x_38_19 x_38_20 s.1 s.2.1 ∧ x_38_1.toInt = s.2.2.1 ∧ x_38_2.toInt = s.2.2.2) ∧ (∃ s : OSt, rnT ls cl cl.2.2.2.1 s0 = some s ∧ RXw f_h0_world_rock_kind f_h0_world_rock_hard x_38_15 x_38_14 x_38_17 x_38_18 h0_world_crew_count x_38_13 g_ea h0_world_folk_listeners f_h0_world_folk_noiseColumn f_h0_world_folk_noiseLoud h0_world_folk_noises x_38_12 g_hc g_hl g_hs g_so g_we g_wl x_38_16 h0_world_lawCount h0_world_force s.1 ∧ RXu x_38_21 x_38_22 x_38_23 x_38_24 x_38_25 x_38_19 x_38_20 s.1 s.2.1 ∧ x_38_1.toInt = s.2.2.1 ∧ x_38_2.toInt = s.2.2.2) → Qb x_38_0 x_38_1 x_38_2 x_38_3 x_38_4 x_38_5 x_38_6 x_38_7 x_38_8 x_38_9 x_38_10 x_38_11 x_38_12 x_38_13 x_38_14 x_38_15 x_38_16 x_38_17 x_38_18 x_38_19 x_38_20 x_38_21 x_38_22 x_38_23 x_38_24 x_38_25) : ∀ (n : Nat) (x_38_0 : Int32) (x_38_1 : Int32) (x_38_2 : Int32) (x_38_3 : Value) (x_38_4 : Value) (x_38_5 : Int32) (x_38_6 : Int32) (x_38_7 : Int32) (x_38_8 : Int32) (x_38_9 : Int32) (x_38_10 : Int32) (x_38_11 : Nat → Int64) (x_38_12 : Int32) (x_38_13 : Nat → Int32) (x_38_14 : Int64) (x_38_15 : Nat → Int32) (x_38_16 : Nat → Int32) (x_38_17 : Nat → Int32) (x_38_18 : Nat → Int32) (x_38_19 : Int32) (x_38_20 : Int32) (x_38_21 : Nat → Int32) (x_38_22 : Nat → Int32) (x_38_23 : Nat → Int32) (x_38_24 : Nat → Int32) (x_38_25 : Nat → Int32), (0 ≤ x_38_0.toInt ∧ x_38_0.toInt ≤ 20) ∧ (0 ≤ x_38_1.toInt ∧ x_38_1.toInt ≤ 240) ∧ (0 ≤ x_38_5.toInt ∧ x_38_5.toInt ≤ 39) ∧ (CO x_38_13) ∧ (WA x_38_15) ∧ (TE x_38_16) ∧ (CE x_38_17) ∧ (BU x_38_18) ∧ (0 ≤ x_38_19.toInt ∧ x_38_19.toInt ≤ 16) ∧ (0 ≤ x_38_20.toInt ∧ x_38_20.toInt ≤ 15) ∧ (DI x_38_21 x_38_22 x_38_23 x_38_24 x_38_25) ∧ (x_38_1.toInt ≤ 20 * x_12_0.toInt + x_38_0.toInt) ∧ (∃ s : OSt, rnT ls cl cl.2.2.2.1 s0 = rnT ls cl (cl.2.2.2.1 - (x_38_0.toInt).toNat) s ∧ RXw f_h0_world_rock_kind f_h0_world_rock_hard x_38_15 x_38_14 x_38_17 x_38_18 h0_world_crew_count x_38_13 g_ea h0_world_folk_listeners f_h0_world_folk_noiseColumn f_h0_world_folk_noiseLoud h0_world_folk_noises x_38_12 g_hc g_hl g_hs g_so g_we g_wl x_38_16 h0_world_lawCount h0_world_force s.1 ∧ RXu x_38_21 x_38_22 x_38_23 x_38_24 x_38_25 x_38_19 x_38_20 s.1 s.2.1 ∧ x_38_1.toInt = s.2.2.1 ∧ x_38_2.toInt = s.2.2.2) → 21 - x_38_0.toInt < (n : Int) → wl_X7_runOrders_N_38 h0_world p0_length n_p0_heads f_p0_heads n_p0_code f_p0_code h0_world_lawCount h0_world_force h0_world_folk_listeners h0_world_folk_noises f_h0_world_rock_hard h0_world_crew_count f_h0_world_rock_kind f_h0_world_laws f_h0_world_folk_noiseColumn f_h0_world_folk_noiseLoud x_12_0 r_23 r_30 Q Qb n x_38_0 x_38_1 x_38_2 x_38_3 x_38_4 x_38_5 x_38_6 x_38_7 x_38_8 x_38_9 x_38_10 x_38_11 x_38_12 x_38_13 x_38_14 x_38_15 x_38_16 x_38_17 x_38_18 x_38_19 x_38_20 x_38_21 x_38_22 x_38_23 x_38_24 x_38_25 := by
  intro n
  induction n with
  | zero =>
    intro x_38_0 x_38_1 x_38_2 x_38_3 x_38_4 x_38_5 x_38_6 x_38_7 x_38_8 x_38_9 x_38_10 x_38_11 x_38_12 x_38_13 x_38_14 x_38_15 x_38_16 x_38_17 x_38_18 x_38_19 x_38_20 x_38_21 x_38_22 x_38_23 x_38_24 x_38_25 hI hm
    exfalso; have hm : 21 - x_38_0.toInt < 0 := hm; omega
  | succ n ih =>
    intro x_38_0 x_38_1 x_38_2 x_38_3 x_38_4 x_38_5 x_38_6 x_38_7 x_38_8 x_38_9 x_38_10 x_38_11 x_38_12 x_38_13 x_38_14 x_38_15 x_38_16 x_38_17 x_38_18 x_38_19 x_38_20 x_38_21 x_38_22 x_38_23 x_38_24 x_38_25 hI hm
    have hm : 21 - x_38_0.toInt < (n : Int) + 1 := by simpa using hm
    have h_x_38_0 := hI.1
    have h_x_38_1 := hI.2.1
    have h_x_38_5 := hI.2.2.1
    have h_x_38_13 := hI.2.2.2.1
    have h_x_38_15 := hI.2.2.2.2.1
    have h_x_38_16 := hI.2.2.2.2.2.1
    have h_x_38_17 := hI.2.2.2.2.2.2.1
    have h_x_38_18 := hI.2.2.2.2.2.2.2.1
    have h_x_38_19 := hI.2.2.2.2.2.2.2.2.1
    have h_x_38_20 := hI.2.2.2.2.2.2.2.2.2.1
    have h_rel0 := hI.2.2.2.2.2.2.2.2.2.2.1
    have h_rel1 := hI.2.2.2.2.2.2.2.2.2.2.2.1
    have h_rel2 := hI.2.2.2.2.2.2.2.2.2.2.2.2
    unfold wl_X7_runOrders_N_38
    have ol := hokO.2.2.2.2.1
    obtain ⟨zl1, zl2, zl3, zl4, zl5⟩ := zl
    obtain ⟨⟨w1, U1, dn1, lt1⟩, hI, hX, hU, hd, hl⟩ := h_rel2
    have hd : x_38_1.toInt = dn1 := hd
    have hl : x_38_2.toInt = lt1 := hl
    subst hd
    subst hl
    have l_kd := RXw.kd hX
    have l_hd := RXw.hd hX
    have l_wt := RXw.wt hX
    have l_ce := RXw.ce hX
    have l_bu := RXw.bu hX
    have l_cc : h0_world_crew_count.toInt = w1 0 := RXw.cc hX
    have l_co := RXw.co hX
    have l_ls : h0_world_folk_listeners.toInt = w1 1 := RXw.ls hX
    have l_nc := RXw.nc hX
    have l_nl := RXw.nl hX
    have l_ns : h0_world_folk_noises.toInt = w1 2 := RXw.ns hX
    have l_te := RXw.te hX
    have l_lc : h0_world_lawCount.toInt = w1 5 := RXw.lc hX
    have l_fo : h0_world_force.toInt = w1 6 := RXw.fo hX
    by_cases c12 : r_23 ≤ x_38_0
    · refine br1 c12 ?_
      have d13 := le_z (x := (Int32.toInt r_23)) (y := (Int32.toInt x_38_0)) rfl rfl c12
      exact KX _ _ _ _ _ _ _ _ _ _ _ _ _ _ _ _ _ _ _ _ _ _ _ _ _ _ ⟨⟨by omega, by omega⟩, ⟨by omega, by omega⟩, ⟨by omega, by omega⟩, h_x_38_13, h_x_38_15, h_x_38_16, h_x_38_17, h_x_38_18, ⟨by omega, by omega⟩, ⟨by omega, by omega⟩, h_rel0, (by omega), ⟨(w1, U1, x_38_1.toInt, x_38_2.toInt), hI, hX, hU, rfl, rfl⟩, ⟨(w1, U1, x_38_1.toInt, x_38_2.toInt), by rw [hI, show cl.2.2.2.1 - x_38_0.toInt.toNat = 0 by omega]; rfl, hX, hU, rfl, rfl⟩⟩
    · refine br0 c12 ?_
      have d14 := nle_z (x := (Int32.toInt r_23)) (y := (Int32.toInt x_38_0)) rfl rfl c12
      refine o_X0_turnToOrders _ _ _ ?_
      refine un2_i ?_
      refine jn_s ?_
      by_cases c15 : r_30 = (-1)
      · refine br1 c15 ?_
        have d16 := eq_z (x := (Int32.toInt r_30)) (y := (-1)) rfl (by decide) c15
        have hg17 := z_tst0 (v := ovW w1 x_38_1.toInt x_38_2.toInt) hsg3 (by omega)
        refine un2_i ?_
        refine s_X7_runOrder_Nz (ls := ls) x_12_0 h0_world x_38_2 p0_length n_p0_heads (f_p0_heads) x_38_4 x_38_5 x_38_6 x_38_7 x_38_1 x_38_2 x_38_10 n_p0_code (f_p0_code) (x_38_11) h0_world_lawCount h0_world_force h0_world_folk_listeners h0_world_folk_noises x_38_12 (x_38_13) x_38_14 (f_h0_world_rock_hard) (x_38_15) (x_38_16) h0_world_crew_count (x_38_17) (x_38_18) (f_h0_world_rock_kind) (f_h0_world_laws) x_38_19 x_38_20 (x_38_21) (x_38_22) (x_38_23) (x_38_24) (x_38_25) (f_h0_world_folk_noiseColumn) (f_h0_world_folk_noiseLoud) ⟨by omega, by omega⟩ ⟨by omega, by omega⟩ h_f_p0_heads ⟨by omega, by omega⟩ h_f_p0_code ⟨by omega, by omega⟩ ⟨by omega, by omega⟩ ⟨by omega, by omega⟩ ⟨by omega, by omega⟩ h_x_38_13 h_f_h0_world_rock_hard h_x_38_15 h_x_38_16 ⟨by omega, by omega⟩ h_x_38_17 h_x_38_18 h_f_h0_world_rock_kind ⟨by omega, by omega⟩ ⟨by omega, by omega⟩ h_f_h0_world_folk_noiseColumn h_f_h0_world_folk_noiseLoud hX hU h_rel0 hxc hokO (by omega) (by omega) (by omega) (by omega) (by omega) (fun r18 u19_0 u19_1 u19_2 u19_3 u19_4 u19_5 u19_6 u19_7 u19_8 u19_9 u19_10 u19_11 u19_12 u19_13 u19_14 u19_15 u19_16 u19_17 u19_18 u19_19 u19_20 u19_21 H20 => ?_)
        have j21 := H20.1
        have j22 := H20.2.1
        have j23 := H20.2.2.1
        have j24 := H20.2.2.2.1
        have j25 := H20.2.2.2.2.1
        have j26 := H20.2.2.2.2.2.1
        have j27 := H20.2.2.2.2.2.2.1
        have j28 := H20.2.2.2.2.2.2.2.1
        have j29 := H20.2.2.2.2.2.2.2.2.1
        have j30 := H20.2.2.2.2.2.2.2.2.2.1
        have j31 := H20.2.2.2.2.2.2.2.2.2.2.1
        have j32 := H20.2.2.2.2.2.2.2.2.2.2.2.1
        have j33 := H20.2.2.2.2.2.2.2.2.2.2.2.2.1
        have j34 := H20.2.2.2.2.2.2.2.2.2.2.2.2.2
        refine un22_i ?_
        have an35 := j30
        by_cases c36 : r18 = 0
        · refine br1 c36 ?_
          have d37 := eq_z (x := (Int32.toInt r18)) (y := 0) rfl rfl c36
          have hp38 := ifz0 an35 (by omega)
          exact hq _ _ _ _ _ _ _ _ _ _ _ _ _ _ _ _ _ _ _ _ _ _ _ _ _ _ ⟨⟨by omega, by omega⟩, ⟨by omega, by omega⟩, ⟨by omega, by omega⟩, j23, j24, j25, j26, j27, ⟨by omega, by omega⟩, ⟨by omega, by omega⟩, ⟨by rw [hO, ordF_f (hI.trans (rnT_f (rn1_f (s := (w1, U1, x_38_1.toInt, x_38_2.toInt)) hg17 hp38) (m := cl.2.2.2.1 - x_38_0.toInt.toNat - 1) (by omega)))]; show x_12_0.toInt = ((x_12_0.toInt.toNat : Nat) : Int); omega, fun s hs => by rw [hO, ordF_f (hI.trans (rnT_f (rn1_f (s := (w1, U1, x_38_1.toInt, x_38_2.toInt)) hg17 hp38) (m := cl.2.2.2.1 - x_38_0.toInt.toNat - 1) (by omega)))] at hs; cases hs⟩, j33⟩
        · refine br0 c36 ?_
          have d39 := ne_z (x := (Int32.toInt r18)) (y := 0) rfl rfl c36
          have hp40 := ifz1 an35 (by omega)
          have t41 : (Int32.toInt (x_38_0 + 1)) = (Int32.toInt x_38_0) + 1 := add_z rfl rfl (by omega) (by omega)
          have t42 : (Int32.toInt (x_38_1 + 1)) = (Int32.toInt x_38_1) + 1 := add_z rfl rfl (by omega) (by omega)
          exact ih _ _ _ _ _ _ _ _ _ _ _ _ _ _ _ _ _ _ _ _ _ _ _ _ _ _ ⟨⟨by omega, by omega⟩, ⟨by omega, by omega⟩, ⟨by omega, by omega⟩, j23, j24, j25, j26, j27, ⟨by omega, by omega⟩, ⟨by omega, by omega⟩, j33, (by omega), ⟨_, by rw [hI, rnT_c (rn1_g (s := (w1, U1, x_38_1.toInt, x_38_2.toInt)) hg17 hp40) (show cl.2.2.2.1 - x_38_0.toInt.toNat = (cl.2.2.2.1 - (x_38_0 + 1).toInt.toNat) + 1 by omega)], j31, by have q := j32; rw [rmU_p hp40] at q; exact q, by omega, j34 hp40⟩⟩ (by omega)
      · refine br0 c15 ?_
        have d43 := ne_z (x := (Int32.toInt r_30)) (y := (-1)) rfl (by decide) c15
        refine z_rtst (RXw.evO hX (by omega) (by omega)) (by omega) (by omega) (by omega) hsg3 (by omega) hokO.2.2.2.2.2 (fun r45 v46 st47 H52 => ?_)
        refine un2_i ?_
        rcases H52 with ⟨e48, e51, hg50⟩ | ⟨e48, e51, hg50⟩ | ⟨e48, hg50⟩
        · skip
          refine br0 (z_ne (x := (Int32.toInt r45)) (y := 0) rfl rfl (by omega)) ?_
          refine o_X0_reckoned _ _ ?_
          refine br1 (z_eq (x := (Int32.toInt v46)) (y := 1) rfl rfl (by omega)) ?_
          refine un2_i ?_
          refine s_X7_runOrder_Nz (ls := ls) x_12_0 h0_world x_38_2 p0_length n_p0_heads (f_p0_heads) x_38_4 x_38_5 x_38_6 x_38_7 x_38_1 x_38_2 v46 n_p0_code (f_p0_code) (st47) h0_world_lawCount h0_world_force h0_world_folk_listeners h0_world_folk_noises x_38_12 (x_38_13) x_38_14 (f_h0_world_rock_hard) (x_38_15) (x_38_16) h0_world_crew_count (x_38_17) (x_38_18) (f_h0_world_rock_kind) (f_h0_world_laws) x_38_19 x_38_20 (x_38_21) (x_38_22) (x_38_23) (x_38_24) (x_38_25) (f_h0_world_folk_noiseColumn) (f_h0_world_folk_noiseLoud) ⟨by omega, by omega⟩ ⟨by omega, by omega⟩ h_f_p0_heads ⟨by omega, by omega⟩ h_f_p0_code ⟨by omega, by omega⟩ ⟨by omega, by omega⟩ ⟨by omega, by omega⟩ ⟨by omega, by omega⟩ h_x_38_13 h_f_h0_world_rock_hard h_x_38_15 h_x_38_16 ⟨by omega, by omega⟩ h_x_38_17 h_x_38_18 h_f_h0_world_rock_kind ⟨by omega, by omega⟩ ⟨by omega, by omega⟩ h_f_h0_world_folk_noiseColumn h_f_h0_world_folk_noiseLoud hX hU h_rel0 hxc hokO (by omega) (by omega) (by omega) (by omega) (by omega) (fun r53 u54_0 u54_1 u54_2 u54_3 u54_4 u54_5 u54_6 u54_7 u54_8 u54_9 u54_10 u54_11 u54_12 u54_13 u54_14 u54_15 u54_16 u54_17 u54_18 u54_19 u54_20 u54_21 H55 => ?_)
          have j56 := H55.1
          have j57 := H55.2.1
          have j58 := H55.2.2.1
          have j59 := H55.2.2.2.1
          have j60 := H55.2.2.2.2.1
          have j61 := H55.2.2.2.2.2.1
          have j62 := H55.2.2.2.2.2.2.1
          have j63 := H55.2.2.2.2.2.2.2.1
          have j64 := H55.2.2.2.2.2.2.2.2.1
          have j65 := H55.2.2.2.2.2.2.2.2.2.1
          have j66 := H55.2.2.2.2.2.2.2.2.2.2.1
          have j67 := H55.2.2.2.2.2.2.2.2.2.2.2.1
          have j68 := H55.2.2.2.2.2.2.2.2.2.2.2.2.1
          have j69 := H55.2.2.2.2.2.2.2.2.2.2.2.2.2
          refine un22_i ?_
          have an70 := j65
          by_cases c71 : r53 = 0
          · refine br1 c71 ?_
            have d72 := eq_z (x := (Int32.toInt r53)) (y := 0) rfl rfl c71
            have hp73 := ifz0 an70 (by omega)
            exact hq _ _ _ _ _ _ _ _ _ _ _ _ _ _ _ _ _ _ _ _ _ _ _ _ _ _ ⟨⟨by omega, by omega⟩, ⟨by omega, by omega⟩, ⟨by omega, by omega⟩, j58, j59, j60, j61, j62, ⟨by omega, by omega⟩, ⟨by omega, by omega⟩, ⟨by rw [hO, ordF_f (hI.trans (rnT_f (rn1_f (s := (w1, U1, x_38_1.toInt, x_38_2.toInt)) hg50 hp73) (m := cl.2.2.2.1 - x_38_0.toInt.toNat - 1) (by omega)))]; show x_12_0.toInt = ((x_12_0.toInt.toNat : Nat) : Int); omega, fun s hs => by rw [hO, ordF_f (hI.trans (rnT_f (rn1_f (s := (w1, U1, x_38_1.toInt, x_38_2.toInt)) hg50 hp73) (m := cl.2.2.2.1 - x_38_0.toInt.toNat - 1) (by omega)))] at hs; cases hs⟩, j68⟩
          · refine br0 c71 ?_
            have d74 := ne_z (x := (Int32.toInt r53)) (y := 0) rfl rfl c71
            have hp75 := ifz1 an70 (by omega)
            have t76 : (Int32.toInt (x_38_0 + 1)) = (Int32.toInt x_38_0) + 1 := add_z rfl rfl (by omega) (by omega)
            have t77 : (Int32.toInt (x_38_1 + 1)) = (Int32.toInt x_38_1) + 1 := add_z rfl rfl (by omega) (by omega)
            exact ih _ _ _ _ _ _ _ _ _ _ _ _ _ _ _ _ _ _ _ _ _ _ _ _ _ _ ⟨⟨by omega, by omega⟩, ⟨by omega, by omega⟩, ⟨by omega, by omega⟩, j58, j59, j60, j61, j62, ⟨by omega, by omega⟩, ⟨by omega, by omega⟩, j68, (by omega), ⟨_, by rw [hI, rnT_c (rn1_g (s := (w1, U1, x_38_1.toInt, x_38_2.toInt)) hg50 hp75) (show cl.2.2.2.1 - x_38_0.toInt.toNat = (cl.2.2.2.1 - (x_38_0 + 1).toInt.toNat) + 1 by omega)], j66, by have q := j67; rw [rmU_p hp75] at q; exact q, by omega, j69 hp75⟩⟩ (by omega)
        · skip
          refine br0 (z_ne (x := (Int32.toInt r45)) (y := 0) rfl rfl (by omega)) ?_
          refine o_X0_reckoned _ _ ?_
          refine br0 (z_ne (x := (Int32.toInt v46)) (y := 1) rfl rfl (by omega)) ?_
          have t78 : (Int32.toInt (x_38_0 + 1)) = (Int32.toInt x_38_0) + 1 := add_z rfl rfl (by omega) (by omega)
          exact ih _ _ _ _ _ _ _ _ _ _ _ _ _ _ _ _ _ _ _ _ _ _ _ _ _ _ ⟨⟨by omega, by omega⟩, ⟨by omega, by omega⟩, ⟨by omega, by omega⟩, h_x_38_13, h_x_38_15, h_x_38_16, h_x_38_17, h_x_38_18, ⟨by omega, by omega⟩, ⟨by omega, by omega⟩, h_rel0, (by omega), ⟨(w1, U1, x_38_1.toInt, x_38_2.toInt), by rw [hI, rnT_c (rn1_s (s := (w1, U1, x_38_1.toInt, x_38_2.toInt)) hg50) (show cl.2.2.2.1 - x_38_0.toInt.toNat = (cl.2.2.2.1 - (x_38_0 + 1).toInt.toNat) + 1 by omega)], hX, hU, rfl, rfl⟩⟩ (by omega)
        · skip
          refine br1 (z_eq (x := (Int32.toInt r45)) (y := 0) rfl rfl (by omega)) ?_
          have t79 : (Int32.toInt (x_38_0 + 1)) = (Int32.toInt x_38_0) + 1 := add_z rfl rfl (by omega) (by omega)
          exact ih _ _ _ _ _ _ _ _ _ _ _ _ _ _ _ _ _ _ _ _ _ _ _ _ _ _ ⟨⟨by omega, by omega⟩, ⟨by omega, by omega⟩, ⟨by omega, by omega⟩, h_x_38_13, h_x_38_15, h_x_38_16, h_x_38_17, h_x_38_18, ⟨by omega, by omega⟩, ⟨by omega, by omega⟩, h_rel0, (by omega), ⟨(w1, U1, x_38_1.toInt, x_38_2.toInt), by rw [hI, rnT_c (rn1_s (s := (w1, U1, x_38_1.toInt, x_38_2.toInt)) hg50) (show cl.2.2.2.1 - x_38_0.toInt.toNat = (cl.2.2.2.1 - (x_38_0 + 1).toInt.toNat) + 1 by omega)], hX, hU, rfl, rfl⟩⟩ (by omega)
set_option maxRecDepth 100000 in
theorem sl_X7_runOrders_N_12z (h0_world : Nat) (p0_clauses : Int32) (p0_length : Int32) (n_p0_heads : Nat) (f_p0_heads : Nat → Int32) (n_p0_code : Nat) (f_p0_code : Nat → Int32) (h0_world_lawCount : Int32) (h0_world_force : Int32) (h0_world_folk_listeners : Int32) (h0_world_folk_noises : Int32) (f_h0_world_rock_hard : Nat → Int32) (h0_world_crew_count : Int32) (f_h0_world_rock_kind : Nat → Int32) (f_h0_world_laws : Nat → Option Nat) (f_h0_world_folk_noiseColumn : Nat → Int32) (f_h0_world_folk_noiseLoud : Nat → Int32) (w : Nat → Int) (U : UL) (ls : Nat → List Cls) (L : List Cls) (c0 : Nat) (g_ea : Nat → Int32) (g_hc : Nat → Int32) (g_hl : Nat → Int32) (g_hs : Int32) (g_so : Nat → Int32) (g_we : Nat → Int32) (g_wl : Int32) (h_p0_clauses : 0 ≤ p0_clauses.toInt ∧ p0_clauses.toInt ≤ 12) (h_p0_length : 0 ≤ p0_length.toInt ∧ p0_length.toInt ≤ 400) (h_f_p0_heads : HD f_p0_heads) (h_f_p0_code : CD f_p0_code) (h_h0_world_lawCount : 0 ≤ h0_world_lawCount.toInt ∧ h0_world_lawCount.toInt ≤ 6) (h_h0_world_force : (-1) ≤ h0_world_force.toInt ∧ h0_world_force.toInt ≤ (-1)) (h_h0_world_folk_listeners : 0 ≤ h0_world_folk_listeners.toInt ∧ h0_world_folk_listeners.toInt ≤ 5) (h_h0_world_folk_noises : 0 ≤ h0_world_folk_noises.toInt ∧ h0_world_folk_noises.toInt ≤ 6) (h_f_h0_world_rock_hard : HA f_h0_world_rock_hard) (h_h0_world_crew_count : 0 ≤ h0_world_crew_count.toInt ∧ h0_world_crew_count.toInt ≤ 6) (h_f_h0_world_rock_kind : KI f_h0_world_rock_kind) (h_f_h0_world_folk_noiseColumn : NC f_h0_world_folk_noiseColumn) (h_f_h0_world_folk_noiseLoud : NL f_h0_world_folk_noiseLoud) (zp : p0_clauses.toInt = (L.length : Int) ∧ L.length ≤ 12 ∧ p0_length.toInt = (c0 : Int) ∧ c0 ≤ 400 ∧ c0 ≤ n_p0_code ∧ n_p0_heads = 60) (z_n_p0_heads : n_p0_heads < 100000) (z_n_p0_code : p0_length.toInt ≤ (n_p0_code : Int)) {Q : Int32 → (Int32 × Int32 × Value × Value × Int32 × Int32 × Int32 × Int32 × Int32 × Int32 × (Nat → Int64) × Int32 × (Nat → Int32) × Int64 × (Nat → Int32) × (Nat → Int32) × (Nat → Int32) × (Nat → Int32) × Int32 × Int32 × (Nat → Int32) × (Nat → Int32) × (Nat → Int32) × (Nat → Int32) × (Nat → Int32)) → Prop} (hq : ∀ (r : Int32) (u_0 : Int32) (u_1 : Int32) (u_2 : Value) (u_3 : Value) (u_4 : Int32) (u_5 : Int32) (u_6 : Int32) (u_7 : Int32) (u_8 : Int32) (u_9 : Int32) (u_10 : Nat → Int64) (u_11 : Int32) (u_12 : Nat → Int32) (u_13 : Int64) (u_14 : Nat → Int32) (u_15 : Nat → Int32) (u_16 : Nat → Int32) (u_17 : Nat → Int32) (u_18 : Int32) (u_19 : Int32) (u_20 : Nat → Int32) (u_21 : Nat → Int32) (u_22 : Nat → Int32) (u_23 : Nat → Int32) (u_24 : Nat → Int32), ((-1) ≤ r.toInt ∧ r.toInt ≤ 11) ∧ (0 ≤ u_0.toInt ∧ u_0.toInt ≤ 240) ∧ (0 ≤ u_4.toInt ∧ u_4.toInt ≤ 39) ∧ (CO u_12) ∧ (WA u_14) ∧ (TE u_15) ∧ (CE u_16) ∧ (BU u_17) ∧ (0 ≤ u_18.toInt ∧ u_18.toInt ≤ 16) ∧ (0 ≤ u_19.toInt ∧ u_19.toInt ≤ 15) ∧ (r.toInt = (ordF ls 0 L (w, U, 0, -1)).2 ∧ ∀ s : OSt, (ordF ls 0 L (w, U, 0, -1)).1 = some s → RXw f_h0_world_rock_kind f_h0_world_rock_hard u_14 u_13 u_16 u_17 h0_world_crew_count u_12 g_ea h0_world_folk_listeners f_h0_world_folk_noiseColumn f_h0_world_folk_noiseLoud h0_world_folk_noises u_11 g_hc g_hl g_hs g_so g_we g_wl u_15 h0_world_lawCount h0_world_force s.1 ∧ RXu u_20 u_21 u_22 u_23 u_24 u_18 u_19 s.1 s.2.1 ∧ u_0.toInt = s.2.2.1) ∧ (DI u_20 u_21 u_22 u_23 u_24) → Q r (u_0, u_1, u_2, u_3, u_4, u_5, u_6, u_7, u_8, u_9, u_10, u_11, u_12, u_13, u_14, u_15, u_16, u_17, u_18, u_19, u_20, u_21, u_22, u_23, u_24)) (Qb : Int32 → Int32 → Int32 → Value → Value → Int32 → Int32 → Int32 → Int32 → Int32 → Int32 → (Nat → Int64) → Int32 → (Nat → Int32) → Int64 → (Nat → Int32) → (Nat → Int32) → (Nat → Int32) → (Nat → Int32) → Int32 → Int32 → (Nat → Int32) → (Nat → Int32) → (Nat → Int32) → (Nat → Int32) → (Nat → Int32) → Prop) (KX : ∀ (x_12_0 : Int32) (x_12_1 : Int32) (x_12_2 : Int32) (x_12_3 : Value) (x_12_4 : Value) (x_12_5 : Int32) (x_12_6 : Int32) (x_12_7 : Int32) (x_12_8 : Int32) (x_12_9 : Int32) (x_12_10 : Int32) (x_12_11 : Nat → Int64) (x_12_12 : Int32) (x_12_13 : Nat → Int32) (x_12_14 : Int64) (x_12_15 : Nat → Int32) (x_12_16 : Nat → Int32) (x_12_17 : Nat → Int32) (x_12_18 : Nat → Int32) (x_12_19 : Int32) (x_12_20 : Int32) (x_12_21 : Nat → Int32) (x_12_22 : Nat → Int32) (x_12_23 : Nat → Int32) (x_12_24 : Nat → Int32) (x_12_25 : Nat → Int32), (0 ≤ x_12_0.toInt ∧ x_12_0.toInt ≤ 12) ∧ (0 ≤ x_12_1.toInt ∧ x_12_1.toInt ≤ 240) ∧ (0 ≤ x_12_5.toInt ∧ x_12_5.toInt ≤ 39) ∧ (CO x_12_13) ∧ (WA x_12_15) ∧ (TE x_12_16) ∧ (CE x_12_17) ∧ (BU x_12_18) ∧ (0 ≤ x_12_19.toInt ∧ x_12_19.toInt ≤ 16) ∧ (0 ≤ x_12_20.toInt ∧ x_12_20.toInt ≤ 15) ∧ (DI x_12_21 x_12_22 x_12_23 x_12_24 x_12_25) ∧ (x_12_1.toInt ≤ 20 * x_12_0.toInt) ∧ (∃ (s : OSt) (r : List Cls), ordF ls 0 L (w, U, 0, -1) = ordF ls (x_12_0.toInt).toNat r s ∧ x_12_0.toInt + (r.length : Int) = (L.length : Int) ∧ XCs true f_p0_heads f_p0_code c0 (x_12_0.toInt).toNat r ∧ (∀ q ∈ r, okO q) ∧ RXw f_h0_world_rock_kind f_h0_world_rock_hard x_12_15 x_12_14 x_12_17 x_12_18 h0_world_crew_count x_12_13 g_ea h0_world_folk_listeners f_h0_world_folk_noiseColumn f_h0_world_folk_noiseLoud h0_world_folk_noises x_12_12 g_hc g_hl g_hs g_so g_we g_wl x_12_16 h0_world_lawCount h0_world_force s.1 ∧ RXu x_12_21 x_12_22 x_12_23 x_12_24 x_12_25 x_12_19 x_12_20 s.1 s.2.1 ∧ x_12_1.toInt = s.2.2.1 ∧ x_12_2.toInt = s.2.2.2) ∧ (∃ s : OSt, ordF ls 0 L (w, U, 0, -1) = (some s, -1) ∧ RXw f_h0_world_rock_kind f_h0_world_rock_hard x_12_15 x_12_14 x_12_17 x_12_18 h0_world_crew_count x_12_13 g_ea h0_world_folk_listeners f_h0_world_folk_noiseColumn f_h0_world_folk_noiseLoud h0_world_folk_noises x_12_12 g_hc g_hl g_hs g_so g_we g_wl x_12_16 h0_world_lawCount h0_world_force s.1 ∧ RXu x_12_21 x_12_22 x_12_23 x_12_24 x_12_25 x_12_19 x_12_20 s.1 s.2.1 ∧ x_12_1.toInt = s.2.2.1) → Qb x_12_0 x_12_1 x_12_2 x_12_3 x_12_4 x_12_5 x_12_6 x_12_7 x_12_8 x_12_9 x_12_10 x_12_11 x_12_12 x_12_13 x_12_14 x_12_15 x_12_16 x_12_17 x_12_18 x_12_19 x_12_20 x_12_21 x_12_22 x_12_23 x_12_24 x_12_25) : ∀ (n : Nat) (x_12_0 : Int32) (x_12_1 : Int32) (x_12_2 : Int32) (x_12_3 : Value) (x_12_4 : Value) (x_12_5 : Int32) (x_12_6 : Int32) (x_12_7 : Int32) (x_12_8 : Int32) (x_12_9 : Int32) (x_12_10 : Int32) (x_12_11 : Nat → Int64) (x_12_12 : Int32) (x_12_13 : Nat → Int32) (x_12_14 : Int64) (x_12_15 : Nat → Int32) (x_12_16 : Nat → Int32) (x_12_17 : Nat → Int32) (x_12_18 : Nat → Int32) (x_12_19 : Int32) (x_12_20 : Int32) (x_12_21 : Nat → Int32) (x_12_22 : Nat → Int32) (x_12_23 : Nat → Int32) (x_12_24 : Nat → Int32) (x_12_25 : Nat → Int32), (0 ≤ x_12_0.toInt ∧ x_12_0.toInt ≤ 12) ∧ (0 ≤ x_12_1.toInt ∧ x_12_1.toInt ≤ 240) ∧ (0 ≤ x_12_5.toInt ∧ x_12_5.toInt ≤ 39) ∧ (CO x_12_13) ∧ (WA x_12_15) ∧ (TE x_12_16) ∧ (CE x_12_17) ∧ (BU x_12_18) ∧ (0 ≤ x_12_19.toInt ∧ x_12_19.toInt ≤ 16) ∧ (0 ≤ x_12_20.toInt ∧ x_12_20.toInt ≤ 15) ∧ (DI x_12_21 x_12_22 x_12_23 x_12_24 x_12_25) ∧ (x_12_1.toInt ≤ 20 * x_12_0.toInt) ∧ (∃ (s : OSt) (r : List Cls), ordF ls 0 L (w, U, 0, -1) = ordF ls (x_12_0.toInt).toNat r s ∧ x_12_0.toInt + (r.length : Int) = (L.length : Int) ∧ XCs true f_p0_heads f_p0_code c0 (x_12_0.toInt).toNat r ∧ (∀ q ∈ r, okO q) ∧ RXw f_h0_world_rock_kind f_h0_world_rock_hard x_12_15 x_12_14 x_12_17 x_12_18 h0_world_crew_count x_12_13 g_ea h0_world_folk_listeners f_h0_world_folk_noiseColumn f_h0_world_folk_noiseLoud h0_world_folk_noises x_12_12 g_hc g_hl g_hs g_so g_we g_wl x_12_16 h0_world_lawCount h0_world_force s.1 ∧ RXu x_12_21 x_12_22 x_12_23 x_12_24 x_12_25 x_12_19 x_12_20 s.1 s.2.1 ∧ x_12_1.toInt = s.2.2.1 ∧ x_12_2.toInt = s.2.2.2) → 13 - x_12_0.toInt < (n : Int) → wl_X7_runOrders_N_12 h0_world p0_clauses p0_length n_p0_heads f_p0_heads n_p0_code f_p0_code h0_world_lawCount h0_world_force h0_world_folk_listeners h0_world_folk_noises f_h0_world_rock_hard h0_world_crew_count f_h0_world_rock_kind f_h0_world_laws f_h0_world_folk_noiseColumn f_h0_world_folk_noiseLoud Q Qb n x_12_0 x_12_1 x_12_2 x_12_3 x_12_4 x_12_5 x_12_6 x_12_7 x_12_8 x_12_9 x_12_10 x_12_11 x_12_12 x_12_13 x_12_14 x_12_15 x_12_16 x_12_17 x_12_18 x_12_19 x_12_20 x_12_21 x_12_22 x_12_23 x_12_24 x_12_25 := by
  intro n
  induction n with
  | zero =>
    intro x_12_0 x_12_1 x_12_2 x_12_3 x_12_4 x_12_5 x_12_6 x_12_7 x_12_8 x_12_9 x_12_10 x_12_11 x_12_12 x_12_13 x_12_14 x_12_15 x_12_16 x_12_17 x_12_18 x_12_19 x_12_20 x_12_21 x_12_22 x_12_23 x_12_24 x_12_25 hI hm
    exfalso; have hm : 13 - x_12_0.toInt < 0 := hm; omega
  | succ n ih =>
    intro x_12_0 x_12_1 x_12_2 x_12_3 x_12_4 x_12_5 x_12_6 x_12_7 x_12_8 x_12_9 x_12_10 x_12_11 x_12_12 x_12_13 x_12_14 x_12_15 x_12_16 x_12_17 x_12_18 x_12_19 x_12_20 x_12_21 x_12_22 x_12_23 x_12_24 x_12_25 hI hm
    have hm : 13 - x_12_0.toInt < (n : Int) + 1 := by simpa using hm
    have h_x_12_0 := hI.1
    have h_x_12_1 := hI.2.1
    have h_x_12_5 := hI.2.2.1
    have h_x_12_13 := hI.2.2.2.1
    have h_x_12_15 := hI.2.2.2.2.1
    have h_x_12_16 := hI.2.2.2.2.2.1
    have h_x_12_17 := hI.2.2.2.2.2.2.1
    have h_x_12_18 := hI.2.2.2.2.2.2.2.1
    have h_x_12_19 := hI.2.2.2.2.2.2.2.2.1
    have h_x_12_20 := hI.2.2.2.2.2.2.2.2.2.1
    have h_rel0 := hI.2.2.2.2.2.2.2.2.2.2.1
    have h_rel1 := hI.2.2.2.2.2.2.2.2.2.2.2.1
    have h_rel2 := hI.2.2.2.2.2.2.2.2.2.2.2.2
    unfold wl_X7_runOrders_N_12
    obtain ⟨zp1, zp2, zp3, zp4, zp5, zp6⟩ := zp
    obtain ⟨⟨w1, U1, dn1, lt1⟩, rr, hI, hlen, hXC, hok12, hX, hU, hd, hl⟩ := h_rel2
    have hd : x_12_1.toInt = dn1 := hd
    have hl : x_12_2.toInt = lt1 := hl
    subst hd
    subst hl
    have l_kd := RXw.kd hX
    have l_hd := RXw.hd hX
    have l_wt := RXw.wt hX
    have l_ce := RXw.ce hX
    have l_bu := RXw.bu hX
    have l_cc : h0_world_crew_count.toInt = w1 0 := RXw.cc hX
    have l_co := RXw.co hX
    have l_ls : h0_world_folk_listeners.toInt = w1 1 := RXw.ls hX
    have l_nc := RXw.nc hX
    have l_nl := RXw.nl hX
    have l_ns : h0_world_folk_noises.toInt = w1 2 := RXw.ns hX
    have l_te := RXw.te hX
    have l_lc : h0_world_lawCount.toInt = w1 5 := RXw.lc hX
    have l_fo : h0_world_force.toInt = w1 6 := RXw.fo hX
    by_cases c1 : p0_clauses ≤ x_12_0
    · refine br1 c1 ?_
      have d2 := le_z (x := (Int32.toInt p0_clauses)) (y := (Int32.toInt x_12_0)) rfl rfl c1
      exact KX _ _ _ _ _ _ _ _ _ _ _ _ _ _ _ _ _ _ _ _ _ _ _ _ _ _ ⟨⟨by omega, by omega⟩, ⟨by omega, by omega⟩, ⟨by omega, by omega⟩, h_x_12_13, h_x_12_15, h_x_12_16, h_x_12_17, h_x_12_18, ⟨by omega, by omega⟩, ⟨by omega, by omega⟩, h_rel0, (by omega), ⟨_, rr, hI, hlen, hXC, hok12, hX, hU, rfl, rfl⟩, ⟨(w1, U1, x_12_1.toInt, x_12_2.toInt), by have q := nnil (r := rr) (by omega); subst q; exact hI, hX, hU, rfl⟩⟩
    · refine br0 c1 ?_
      have d3 := nle_z (x := (Int32.toInt p0_clauses)) (y := (Int32.toInt x_12_0)) rfl rfl c1
      obtain ⟨cl1, r1, erc⟩ := ncons (r := rr) (by omega)
      subst erc
      have hlen : x_12_0.toInt + ((r1.length : Int) + 1) = (L.length : Int) := hlen
      have okt := (hok12 cl1 List.mem_cons_self).2.2.2.2.1
      have k5 : Int32.toInt 4 = 4 := rfl
      refine z_hd4 hXC.1 (by omega) (by omega) (by omega) (fun r4 H6 => ?_)
      have sg7 := H6
      have k9 : Int32.toInt 3 = 3 := rfl
      refine z_hd3 hXC.1 (by omega) (by omega) (by omega) (fun r8 H10 => ?_)
      have sg11 := H10
      have k14 : Int32.toInt 0 = 0 := rfl
      refine sl_X7_runOrders_N_38z h0_world p0_length n_p0_heads (f_p0_heads) n_p0_code (f_p0_code) h0_world_lawCount h0_world_force h0_world_folk_listeners h0_world_folk_noises (f_h0_world_rock_hard) h0_world_crew_count (f_h0_world_rock_kind) f_h0_world_laws (f_h0_world_folk_noiseColumn) (f_h0_world_folk_noiseLoud) x_12_0 r4 r8 w U ls L c0 g_ea g_hc g_hl g_hs g_so g_we g_wl cl1 r1 (w1, U1, x_12_1.toInt, x_12_2.toInt) ⟨by omega, by omega⟩ h_f_p0_heads h_f_p0_code ⟨by omega, by omega⟩ ⟨by omega, by omega⟩ ⟨by omega, by omega⟩ ⟨by omega, by omega⟩ h_f_h0_world_rock_hard ⟨by omega, by omega⟩ h_f_h0_world_rock_kind h_f_h0_world_folk_noiseColumn h_f_h0_world_folk_noiseLoud ⟨by omega, by omega⟩ ⟨by omega, by omega⟩ sg7 hXC.1 (hok12 cl1 List.mem_cons_self) sg11 ⟨by omega, by omega, by omega, by omega, by omega⟩ hI (by omega) (by omega) hq _ (fun x12_0 x12_1 x12_2 x12_3 x12_4 x12_5 x12_6 x12_7 x12_8 x12_9 x12_10 x12_11 x12_12 x12_13 x12_14 x12_15 x12_16 x12_17 x12_18 x12_19 x12_20 x12_21 x12_22 x12_23 x12_24 x12_25 X13 => ?_) 1000000000000 0 x_12_1 x_12_2 x_12_3 x_12_4 x_12_5 x_12_6 x_12_7 x_12_8 x_12_9 x_12_10 (x_12_11) x_12_12 (x_12_13) x_12_14 (x_12_15) (x_12_16) (x_12_17) (x_12_18) x_12_19 x_12_20 (x_12_21) (x_12_22) (x_12_23) (x_12_24) (x_12_25) ⟨(by decide), ⟨by omega, by omega⟩, ⟨by omega, by omega⟩, h_x_12_13, h_x_12_15, h_x_12_16, h_x_12_17, h_x_12_18, ⟨by omega, by omega⟩, ⟨by omega, by omega⟩, h_rel0, (by omega), ⟨_, rfl, hX, hU, rfl, rfl⟩⟩ (by omega)
      have j15 := X13.1
      have j16 := X13.2.1
      have j17 := X13.2.2.1
      have j18 := X13.2.2.2.1
      have j19 := X13.2.2.2.2.1
      have j20 := X13.2.2.2.2.2.1
      have j21 := X13.2.2.2.2.2.2.1
      have j22 := X13.2.2.2.2.2.2.2.1
      have j23 := X13.2.2.2.2.2.2.2.2.1
      have j24 := X13.2.2.2.2.2.2.2.2.2.1
      have j25 := X13.2.2.2.2.2.2.2.2.2.2.1
      have j26 := X13.2.2.2.2.2.2.2.2.2.2.2.1
      have j27 := X13.2.2.2.2.2.2.2.2.2.2.2.2.1
      have j28 := X13.2.2.2.2.2.2.2.2.2.2.2.2.2
      obtain ⟨s9, k9, hX9, hU9, hd9, hl9⟩ := j28
      have t29 : (Int32.toInt (x_12_0 + 1)) = (Int32.toInt x_12_0) + 1 := add_z rfl rfl (by omega) (by omega)
      exact ih _ _ _ _ _ _ _ _ _ _ _ _ _ _ _ _ _ _ _ _ _ _ _ _ _ _ ⟨⟨by omega, by omega⟩, ⟨by omega, by omega⟩, ⟨by omega, by omega⟩, j18, j19, j20, j21, j22, ⟨by omega, by omega⟩, ⟨by omega, by omega⟩, j25, (by omega), ⟨s9, r1, by rw [hI, ordF_c k9, show (x_12_0 + 1).toInt.toNat = x_12_0.toInt.toNat + 1 by omega], by omega, by rw [show (x_12_0 + 1).toInt.toNat = x_12_0.toInt.toNat + 1 by omega]; exact hXC.2, fun q hq9 => hok12 q (List.mem_cons_of_mem _ hq9), hX9, hU9, hd9, hl9⟩⟩ (by omega)
set_option maxRecDepth 100000 in
theorem s_X7_runOrders_Nz (h0_world : Nat) (p0_clauses : Int32) (p0_length : Int32) (n_p0_heads : Nat) (f_p0_heads : Nat → Int32) (h0_asker_world : Value) (h0_asker_law : Value) (h0_asker_cell : Int32) (h0_asker_shaft : Int32) (h0_asker_kind : Int32) (h0_asker_done : Int32) (h0_asker_latest : Int32) (h0_asker_value : Int32) (n_p0_code : Nat) (f_p0_code : Nat → Int32) (f_h0_asker_stack : Nat → Int64) (h0_world_lawCount : Int32) (h0_world_force : Int32) (h0_world_folk_listeners : Int32) (h0_world_folk_noises : Int32) (h0_world_folk_hushed : Int32) (f_h0_world_folk_column : Nat → Int32) (h0_world_rock_dug : Int64) (f_h0_world_rock_hard : Nat → Int32) (f_h0_world_rock_water : Nat → Int32) (f_h0_world_term : Nat → Int32) (h0_world_crew_count : Int32) (f_h0_world_crew_cell : Nat → Int32) (f_h0_world_crew_buckets : Nat → Int32) (f_h0_world_rock_kind : Nat → Int32) (f_h0_world_laws : Nat → Option Nat) (h0_diary_kept : Int32) (h0_diary_latest : Int32) (f_h0_diary_deed : Nat → Int32) (f_h0_diary_whose : Nat → Int32) (f_h0_diary_before : Nat → Int32) (f_h0_diary_bucketsBefore : Nat → Int32) (f_h0_diary_dayBefore : Nat → Int32) (f_h0_world_folk_noiseColumn : Nat → Int32) (f_h0_world_folk_noiseLoud : Nat → Int32) {w : Nat → Int} {U : UL} {ls : Nat → List Cls} {L : List Cls} {c0 : Nat} {g_ea : Nat → Int32} {g_hc : Nat → Int32} {g_hl : Nat → Int32} {g_hs : Int32} {g_so : Nat → Int32} {g_we : Nat → Int32} {g_wl : Int32} (h_p0_clauses : 0 ≤ p0_clauses.toInt ∧ p0_clauses.toInt ≤ 12) (h_p0_length : 0 ≤ p0_length.toInt ∧ p0_length.toInt ≤ 400) (h_f_p0_heads : HD f_p0_heads) (h_h0_asker_cell : 0 ≤ h0_asker_cell.toInt ∧ h0_asker_cell.toInt ≤ 39) (h_f_p0_code : CD f_p0_code) (h_h0_world_lawCount : 0 ≤ h0_world_lawCount.toInt ∧ h0_world_lawCount.toInt ≤ 6) (h_h0_world_force : (-1) ≤ h0_world_force.toInt ∧ h0_world_force.toInt ≤ (-1)) (h_h0_world_folk_listeners : 0 ≤ h0_world_folk_listeners.toInt ∧ h0_world_folk_listeners.toInt ≤ 5) (h_h0_world_folk_noises : 0 ≤ h0_world_folk_noises.toInt ∧ h0_world_folk_noises.toInt ≤ 6) (h_f_h0_world_folk_column : CO f_h0_world_folk_column) (h_f_h0_world_rock_hard : HA f_h0_world_rock_hard) (h_f_h0_world_rock_water : WA f_h0_world_rock_water) (h_f_h0_world_term : TE f_h0_world_term) (h_h0_world_crew_count : 0 ≤ h0_world_crew_count.toInt ∧ h0_world_crew_count.toInt ≤ 6) (h_f_h0_world_crew_cell : CE f_h0_world_crew_cell) (h_f_h0_world_crew_buckets : BU f_h0_world_crew_buckets) (h_f_h0_world_rock_kind : KI f_h0_world_rock_kind) (h_h0_diary_kept : 0 ≤ h0_diary_kept.toInt ∧ h0_diary_kept.toInt ≤ 16) (h_h0_diary_latest : 0 ≤ h0_diary_latest.toInt ∧ h0_diary_latest.toInt ≤ 15) (h_f_h0_world_folk_noiseColumn : NC f_h0_world_folk_noiseColumn) (h_f_h0_world_folk_noiseLoud : NL f_h0_world_folk_noiseLoud) (e_0 : RXw f_h0_world_rock_kind f_h0_world_rock_hard f_h0_world_rock_water h0_world_rock_dug f_h0_world_crew_cell f_h0_world_crew_buckets h0_world_crew_count f_h0_world_folk_column g_ea h0_world_folk_listeners f_h0_world_folk_noiseColumn f_h0_world_folk_noiseLoud h0_world_folk_noises h0_world_folk_hushed g_hc g_hl g_hs g_so g_we g_wl f_h0_world_term h0_world_lawCount h0_world_force w) (e_1 : RXu f_h0_diary_deed f_h0_diary_whose f_h0_diary_before f_h0_diary_bucketsBefore f_h0_diary_dayBefore h0_diary_kept h0_diary_latest w U) (e_2 : DI f_h0_diary_deed f_h0_diary_whose f_h0_diary_before f_h0_diary_bucketsBefore f_h0_diary_dayBefore) (e_3 : XCs true f_p0_heads f_p0_code c0 0 L) (e_4 : ∀ q ∈ L, okO q) (e_5 : p0_clauses.toInt = (L.length : Int)) (e_6 : L.length ≤ 12) (e_7 : p0_length.toInt = (c0 : Int)) (e_8 : c0 ≤ 400) (e_9 : c0 ≤ n_p0_code) (e_10 : n_p0_heads = 60) {Q : Int32 → (Int32 × Int32 × Value × Value × Int32 × Int32 × Int32 × Int32 × Int32 × Int32 × (Nat → Int64) × Int32 × (Nat → Int32) × Int64 × (Nat → Int32) × (Nat → Int32) × (Nat → Int32) × (Nat → Int32) × Int32 × Int32 × (Nat → Int32) × (Nat → Int32) × (Nat → Int32) × (Nat → Int32) × (Nat → Int32)) → Prop} (hq : ∀ (r : Int32) (u_0 : Int32) (u_1 : Int32) (u_2 : Value) (u_3 : Value) (u_4 : Int32) (u_5 : Int32) (u_6 : Int32) (u_7 : Int32) (u_8 : Int32) (u_9 : Int32) (u_10 : Nat → Int64) (u_11 : Int32) (u_12 : Nat → Int32) (u_13 : Int64) (u_14 : Nat → Int32) (u_15 : Nat → Int32) (u_16 : Nat → Int32) (u_17 : Nat → Int32) (u_18 : Int32) (u_19 : Int32) (u_20 : Nat → Int32) (u_21 : Nat → Int32) (u_22 : Nat → Int32) (u_23 : Nat → Int32) (u_24 : Nat → Int32), ((-1) ≤ r.toInt ∧ r.toInt ≤ 11) ∧ (0 ≤ u_0.toInt ∧ u_0.toInt ≤ 240) ∧ (0 ≤ u_4.toInt ∧ u_4.toInt ≤ 39) ∧ (CO u_12) ∧ (WA u_14) ∧ (TE u_15) ∧ (CE u_16) ∧ (BU u_17) ∧ (0 ≤ u_18.toInt ∧ u_18.toInt ≤ 16) ∧ (0 ≤ u_19.toInt ∧ u_19.toInt ≤ 15) ∧ (r.toInt = (ordF ls 0 L (w, U, 0, -1)).2 ∧ ∀ s : OSt, (ordF ls 0 L (w, U, 0, -1)).1 = some s → RXw f_h0_world_rock_kind f_h0_world_rock_hard u_14 u_13 u_16 u_17 h0_world_crew_count u_12 g_ea h0_world_folk_listeners f_h0_world_folk_noiseColumn f_h0_world_folk_noiseLoud h0_world_folk_noises u_11 g_hc g_hl g_hs g_so g_we g_wl u_15 h0_world_lawCount h0_world_force s.1 ∧ RXu u_20 u_21 u_22 u_23 u_24 u_18 u_19 s.1 s.2.1 ∧ u_0.toInt = s.2.2.1) ∧ (DI u_20 u_21 u_22 u_23 u_24) → Q r (u_0, u_1, u_2, u_3, u_4, u_5, u_6, u_7, u_8, u_9, u_10, u_11, u_12, u_13, u_14, u_15, u_16, u_17, u_18, u_19, u_20, u_21, u_22, u_23, u_24)) : wp_X7_runOrders_N h0_world p0_clauses p0_length n_p0_heads f_p0_heads h0_asker_world h0_asker_law h0_asker_cell h0_asker_shaft h0_asker_kind h0_asker_done h0_asker_latest h0_asker_value n_p0_code f_p0_code f_h0_asker_stack h0_world_lawCount h0_world_force h0_world_folk_listeners h0_world_folk_noises h0_world_folk_hushed f_h0_world_folk_column h0_world_rock_dug f_h0_world_rock_hard f_h0_world_rock_water f_h0_world_term h0_world_crew_count f_h0_world_crew_cell f_h0_world_crew_buckets f_h0_world_rock_kind f_h0_world_laws h0_diary_kept h0_diary_latest f_h0_diary_deed f_h0_diary_whose f_h0_diary_before f_h0_diary_bucketsBefore f_h0_diary_dayBefore f_h0_world_folk_noiseColumn f_h0_world_folk_noiseLoud Q := by
  unfold wp_X7_runOrders_N
  have k3 : Int32.toInt 0 = 0 := rfl
  have k4 : Int32.toInt (-1) = (-1) := (by decide)
  refine sl_X7_runOrders_N_12z h0_world p0_clauses p0_length n_p0_heads (f_p0_heads) n_p0_code (f_p0_code) h0_world_lawCount h0_world_force h0_world_folk_listeners h0_world_folk_noises (f_h0_world_rock_hard) h0_world_crew_count (f_h0_world_rock_kind) f_h0_world_laws (f_h0_world_folk_noiseColumn) (f_h0_world_folk_noiseLoud) w U ls L c0 g_ea g_hc g_hl g_hs g_so g_we g_wl ⟨by omega, by omega⟩ ⟨by omega, by omega⟩ h_f_p0_heads h_f_p0_code ⟨by omega, by omega⟩ ⟨by omega, by omega⟩ ⟨by omega, by omega⟩ ⟨by omega, by omega⟩ h_f_h0_world_rock_hard ⟨by omega, by omega⟩ h_f_h0_world_rock_kind h_f_h0_world_folk_noiseColumn h_f_h0_world_folk_noiseLoud ⟨by omega, by omega, by omega, by omega, by omega, by omega⟩ (by omega) (by omega) hq _ (fun x1_0 x1_1 x1_2 x1_3 x1_4 x1_5 x1_6 x1_7 x1_8 x1_9 x1_10 x1_11 x1_12 x1_13 x1_14 x1_15 x1_16 x1_17 x1_18 x1_19 x1_20 x1_21 x1_22 x1_23 x1_24 x1_25 X2 => ?_) 1000000000000 0 0 (-1) h0_asker_world h0_asker_law h0_asker_cell h0_asker_shaft h0_asker_kind h0_asker_done h0_asker_latest h0_asker_value (f_h0_asker_stack) h0_world_folk_hushed (f_h0_world_folk_column) h0_world_rock_dug (f_h0_world_rock_water) (f_h0_world_term) (f_h0_world_crew_cell) (f_h0_world_crew_buckets) h0_diary_kept h0_diary_latest (f_h0_diary_deed) (f_h0_diary_whose) (f_h0_diary_before) (f_h0_diary_bucketsBefore) (f_h0_diary_dayBefore) ⟨(by decide), (by decide), ⟨by omega, by omega⟩, h_f_h0_world_folk_column, h_f_h0_world_rock_water, h_f_h0_world_term, h_f_h0_world_crew_cell, h_f_h0_world_crew_buckets, ⟨by omega, by omega⟩, ⟨by omega, by omega⟩, e_2, (by omega), ⟨(w, U, 0, -1), L, rfl, by show (0 : Int) + _ = _; omega, e_3, e_4, e_0, e_1, rfl, (show (-1 : Int32).toInt = -1 by decide)⟩⟩ (by omega)
  have j5 := X2.1
  have j6 := X2.2.1
  have j7 := X2.2.2.1
  have j8 := X2.2.2.2.1
  have j9 := X2.2.2.2.2.1
  have j10 := X2.2.2.2.2.2.1
  have j11 := X2.2.2.2.2.2.2.1
  have j12 := X2.2.2.2.2.2.2.2.1
  have j13 := X2.2.2.2.2.2.2.2.2.1
  have j14 := X2.2.2.2.2.2.2.2.2.2.1
  have j15 := X2.2.2.2.2.2.2.2.2.2.2.1
  have j16 := X2.2.2.2.2.2.2.2.2.2.2.2.1
  have j17 := X2.2.2.2.2.2.2.2.2.2.2.2.2.1
  have j18 := X2.2.2.2.2.2.2.2.2.2.2.2.2.2
  obtain ⟨s8, k8, hX8, hU8, hd8⟩ := j18
  exact hq _ _ _ _ _ _ _ _ _ _ _ _ _ _ _ _ _ _ _ _ _ _ _ _ _ _ ⟨(by decide), ⟨by omega, by omega⟩, ⟨by omega, by omega⟩, j8, j9, j10, j11, j12, ⟨by omega, by omega⟩, ⟨by omega, by omega⟩, ⟨by rw [k8]; rfl, fun s hs => by rw [k8] at hs; injection hs with hs; subst hs; exact ⟨hX8, hU8, hd8⟩⟩, j15⟩


set_option maxRecDepth 100000 in
theorem sl_X7_runOrders_T_38z (h0_world : Nat) (p0_length : Int32) (n_p0_heads : Nat) (f_p0_heads : Nat → Int32) (n_p0_code : Nat) (f_p0_code : Nat → Int32) (h0_world_lawCount : Int32) (h0_world_force : Int32) (h0_world_folk_listeners : Int32) (h0_world_folk_noises : Int32) (f_h0_world_rock_hard : Nat → Int32) (h0_world_crew_count : Int32) (f_h0_world_rock_kind : Nat → Int32) (f_h0_world_laws : Nat → Option Nat) (t : Nat) (t_clauses : Int32) (t_length : Int32) (n_t_heads : Nat) (f_t_heads : Nat → Int32) (n_t_code : Nat) (f_t_code : Nat → Int32) (f_h0_world_folk_noiseColumn : Nat → Int32) (f_h0_world_folk_noiseLoud : Nat → Int32) (x_12_0 : Int32) (r_23 : Int32) (r_30 : Int32) (w : Nat → Int) (U : UL) (ls : Nat → List Cls) (L : List Cls) (c0 : Nat) (g_ea : Nat → Int32) (g_hc : Nat → Int32) (g_hl : Nat → Int32) (g_hs : Int32) (g_so : Nat → Int32) (g_we : Nat → Int32) (g_wl : Int32) (cl : Cls) (r1 : List Cls) (s0 : OSt) (h_p0_length : 0 ≤ p0_length.toInt ∧ p0_length.toInt ≤ 400) (h_f_p0_heads : HD f_p0_heads) (h_f_p0_code : CD f_p0_code) (h_h0_world_lawCount : 0 ≤ h0_world_lawCount.toInt ∧ h0_world_lawCount.toInt ≤ 6) (h_h0_world_force : 0 ≤ h0_world_force.toInt ∧ h0_world_force.toInt ≤ 5) (h_h0_world_folk_listeners : 0 ≤ h0_world_folk_listeners.toInt ∧ h0_world_folk_listeners.toInt ≤ 5) (h_h0_world_folk_noises : 0 ≤ h0_world_folk_noises.toInt ∧ h0_world_folk_noises.toInt ≤ 6) (h_f_h0_world_rock_hard : HA f_h0_world_rock_hard) (h_h0_world_crew_count : 0 ≤ h0_world_crew_count.toInt ∧ h0_world_crew_count.toInt ≤ 6) (h_f_h0_world_rock_kind : KI f_h0_world_rock_kind) (h_t_clauses : 0 ≤ t_clauses.toInt ∧ t_clauses.toInt ≤ 12) (h_t_length : 0 ≤ t_length.toInt ∧ t_length.toInt ≤ 400) (h_f_t_code : CD f_t_code) (h_f_h0_world_folk_noiseColumn : NC f_h0_world_folk_noiseColumn) (h_f_h0_world_folk_noiseLoud : NL f_h0_world_folk_noiseLoud) (h_x_12_0 : 0 ≤ x_12_0.toInt ∧ x_12_0.toInt ≤ 11) (h_r_23 : 1 ≤ r_23.toInt ∧ r_23.toInt ≤ 20) (zlaw : f_h0_world_laws (Int32.toNatClampNeg h0_world_force) = some t) (zfo : h0_world_force.toInt < h0_world_lawCount.toInt) (z23 : r_23.toInt = (cl.2.2.2.1 : Int)) (hxc : XC true f_p0_heads f_p0_code c0 x_12_0.toInt.toNat cl) (hokO : okO cl) (hsg3 : sgX true f_p0_code c0 r_30 cl.2.2.2.2) (zl : p0_length.toInt = (c0 : Int) ∧ c0 ≤ 400 ∧ c0 ≤ n_p0_code ∧ n_p0_heads = 60 ∧ x_12_0.toInt ≤ 11) (hO : ordF ls 0 L (w, U, 0, -1) = ordF ls x_12_0.toInt.toNat (cl :: r1) s0) (htx : XTx t_clauses t_length n_t_heads f_t_heads n_t_code f_t_code (ls h0_world_force.toInt.toNat)) (hok : ∀ q ∈ ls h0_world_force.toInt.toNat, okC q) (z_n_p0_heads : n_p0_heads < 100000) (z_n_p0_code : p0_length.toInt ≤ (n_p0_code : Int)) (z_n_t_heads : n_t_heads < 100000) (z_n_t_code : t_length.toInt ≤ (n_t_code : Int)) {Q : Int32 → (Int32 × Int32 × Value × Value × Int32 × Int32 × Int32 × Int32 × Int32 × Int32 × (Nat → Int64) × Int32 × (Nat → Int32) × Int64 × (Nat → Int32) × (Nat → Int32) × (Nat → Int32) × (Nat → Int32) × Int32 × Int32 × (Nat → Int32) × (Nat → Int32) × (Nat → Int32) × (Nat → Int32) × (Nat → Int32)) → Prop} (hq : ∀ (r : Int32) (u_0 : Int32) (u_1 : Int32) (u_2 : Value) (u_3 : Value) (u_4 : Int32) (u_5 : Int32) (u_6 : Int32) (u_7 : Int32) (u_8 : Int32) (u_9 : Int32) (u_10 : Nat → Int64) (u_11 : Int32) (u_12 : Nat → Int32) (u_13 : Int64) (u_14 : Nat → Int32) (u_15 : Nat → Int32) (u_16 : Nat → Int32) (u_17 : Nat → Int32) (u_18 : Int32) (u_19 : Int32) (u_20 : Nat → Int32) (u_21 : Nat → Int32) (u_22 : Nat → Int32) (u_23 : Nat → Int32) (u_24 : Nat → Int32), ((-1) ≤ r.toInt ∧ r.toInt ≤ 11) ∧ (0 ≤ u_0.toInt ∧ u_0.toInt ≤ 240) ∧ (0 ≤ u_4.toInt ∧ u_4.toInt ≤ 39) ∧ (CO u_12) ∧ (WA u_14) ∧ (TE u_15) ∧ (CE u_16) ∧ (BU u_17) ∧ (0 ≤ u_18.toInt ∧ u_18.toInt ≤ 16) ∧ (0 ≤ u_19.toInt ∧ u_19.toInt ≤ 15) ∧ (r.toInt = (ordF ls 0 L (w, U, 0, -1)).2 ∧ ∀ s : OSt, (ordF ls 0 L (w, U, 0, -1)).1 = some s → RXw f_h0_world_rock_kind f_h0_world_rock_hard u_14 u_13 u_16 u_17 h0_world_crew_count u_12 g_ea h0_world_folk_listeners f_h0_world_folk_noiseColumn f_h0_world_folk_noiseLoud h0_world_folk_noises u_11 g_hc g_hl g_hs g_so g_we g_wl u_15 h0_world_lawCount h0_world_force s.1 ∧ RXu u_20 u_21 u_22 u_23 u_24 u_18 u_19 s.1 s.2.1 ∧ u_0.toInt = s.2.2.1) ∧ (DI u_20 u_21 u_22 u_23 u_24) → Q r (u_0, u_1, u_2, u_3, u_4, u_5, u_6, u_7, u_8, u_9, u_10, u_11, u_12, u_13, u_14, u_15, u_16, u_17, u_18, u_19, u_20, u_21, u_22, u_23, u_24)) (Qb : Int32 → Int32 → Int32 → Value → Value → Int32 → Int32 → Int32 → Int32 → Int32 → Int32 → (Nat → Int64) → Int32 → (Nat → Int32) → Int64 → (Nat → Int32) → (Nat → Int32) → (Nat → Int32) → (Nat → Int32) → Int32 → Int32 → (Nat → Int32) → (Nat → Int32) → (Nat → Int32) → (Nat → Int32) → (Nat → Int32) → Prop) (KX : ∀ (x_38_0 : Int32) (x_38_1 : Int32) (x_38_2 : Int32) (x_38_3 : Value) (x_38_4 : Value) (x_38_5 : Int32) (x_38_6 : Int32) (x_38_7 : Int32) (x_38_8 : Int32) (x_38_9 : Int32) (x_38_10 : Int32) (x_38_11 : Nat → Int64) (x_38_12 : Int32) (x_38_13 : Nat → Int32) (x_38_14 : Int64) (x_38_15 : Nat → Int32) (x_38_16 : Nat → Int32) (x_38_17 : Nat → Int32) (x_38_18 : Nat → Int32) (x_38_19 : Int32) (x_38_20 : Int32) (x_38_21 : Nat → Int32) (x_38_22 : Nat → Int32) (x_38_23 : Nat → Int32) (x_38_24 : Nat → Int32) (x_38_25 : Nat → Int32), (1 ≤ x_38_0.toInt ∧ x_38_0.toInt ≤ 20) ∧ (0 ≤ x_38_1.toInt ∧ x_38_1.toInt ≤ 240) ∧ (0 ≤ x_38_5.toInt ∧ x_38_5.toInt ≤ 39) ∧ (CO x_38_13) ∧ (WA x_38_15) ∧ (TE x_38_16) ∧ (CE x_38_17) ∧ (BU x_38_18) ∧ (0 ≤ x_38_19.toInt ∧ x_38_19.toInt ≤ 16) ∧ (0 ≤ x_38_20.toInt ∧ x_38_20.toInt ≤ 15) ∧ (DI x_38_21 x_38_22 x_38_23 x_38_24 x_38_25) ∧ (x_38_1.toInt ≤ 20 * x_12_0.toInt + x_38_0.toInt) ∧ (∃ s : OSt, rnT ls cl cl.2.2.2.1 s0 = rnT ls cl (cl.2.2.2.1 - (x_38_0.toInt).toNat) s ∧ RXw f_h0_world_rock_kind f_h0_world_rock_hard x_38_15 x_38_14 x_38_17 x_38_18 h0_world_crew_count x_38_13 g_ea h0_world_folk_listeners f_h0_world_folk_noiseColumn f_h0_world_folk_noiseLoud h0_world_folk_noises x_38_12 g_hc g_hl g_hs g_so g_we g_wl x_38_16 h0_world_lawCount h0_world_force s.1 ∧ RXu x_38_21 x_38_22 x_38_23 x_38_24 x_38_25 x_38_19 x_38_20 s.1 s.2.1 ∧ x_38_1.toInt = s.2.2.1 ∧ x_38_2.toInt = s.2.2.2) ∧ (∃ s : OSt, rnT ls cl cl.2.2.2.1 s0 = some s ∧ RXw f_h0_world_rock_kind f_h0_world_rock_hard x_38_15 x_38_14 x_38_17 x_38_18 h0_world_crew_count x_38_13 g_ea h0_world_folk_listeners f_h0_world_folk_noiseColumn f_h0_world_folk_noiseLoud h0_world_folk_noises x_38_12 g_hc g_hl g_hs g_so g_we g_wl x_38_16 h0_world_lawCount h0_world_force s.1 ∧ RXu x_38_21 x_38_22 x_38_23 x_38_24 x_38_25 x_38_19 x_38_20 s.1 s.2.1 ∧ x_38_1.toInt = s.2.2.1 ∧ x_38_2.toInt = s.2.2.2) → Qb x_38_0 x_38_1 x_38_2 x_38_3 x_38_4 x_38_5 x_38_6 x_38_7 x_38_8 x_38_9 x_38_10 x_38_11 x_38_12 x_38_13 x_38_14 x_38_15 x_38_16 x_38_17 x_38_18 x_38_19 x_38_20 x_38_21 x_38_22 x_38_23 x_38_24 x_38_25) : ∀ (n : Nat) (x_38_0 : Int32) (x_38_1 : Int32) (x_38_2 : Int32) (x_38_3 : Value) (x_38_4 : Value) (x_38_5 : Int32) (x_38_6 : Int32) (x_38_7 : Int32) (x_38_8 : Int32) (x_38_9 : Int32) (x_38_10 : Int32) (x_38_11 : Nat → Int64) (x_38_12 : Int32) (x_38_13 : Nat → Int32) (x_38_14 : Int64) (x_38_15 : Nat → Int32) (x_38_16 : Nat → Int32) (x_38_17 : Nat → Int32) (x_38_18 : Nat → Int32) (x_38_19 : Int32) (x_38_20 : Int32) (x_38_21 : Nat → Int32) (x_38_22 : Nat → Int32) (x_38_23 : Nat → Int32) (x_38_24 : Nat → Int32) (x_38_25 : Nat → Int32), (0 ≤ x_38_0.toInt ∧ x_38_0.toInt ≤ 20) ∧ (0 ≤ x_38_1.toInt ∧ x_38_1.toInt ≤ 240) ∧ (0 ≤ x_38_5.toInt ∧ x_38_5.toInt ≤ 39) ∧ (CO x_38_13) ∧ (WA x_38_15) ∧ (TE x_38_16) ∧ (CE x_38_17) ∧ (BU x_38_18) ∧ (0 ≤ x_38_19.toInt ∧ x_38_19.toInt ≤ 16) ∧ (0 ≤ x_38_20.toInt ∧ x_38_20.toInt ≤ 15) ∧ (DI x_38_21 x_38_22 x_38_23 x_38_24 x_38_25) ∧ (x_38_1.toInt ≤ 20 * x_12_0.toInt + x_38_0.toInt) ∧ (∃ s : OSt, rnT ls cl cl.2.2.2.1 s0 = rnT ls cl (cl.2.2.2.1 - (x_38_0.toInt).toNat) s ∧ RXw f_h0_world_rock_kind f_h0_world_rock_hard x_38_15 x_38_14 x_38_17 x_38_18 h0_world_crew_count x_38_13 g_ea h0_world_folk_listeners f_h0_world_folk_noiseColumn f_h0_world_folk_noiseLoud h0_world_folk_noises x_38_12 g_hc g_hl g_hs g_so g_we g_wl x_38_16 h0_world_lawCount h0_world_force s.1 ∧ RXu x_38_21 x_38_22 x_38_23 x_38_24 x_38_25 x_38_19 x_38_20 s.1 s.2.1 ∧ x_38_1.toInt = s.2.2.1 ∧ x_38_2.toInt = s.2.2.2) → 21 - x_38_0.toInt < (n : Int) → wl_X7_runOrders_T_38 h0_world p0_length n_p0_heads f_p0_heads n_p0_code f_p0_code h0_world_lawCount h0_world_force h0_world_folk_listeners h0_world_folk_noises f_h0_world_rock_hard h0_world_crew_count f_h0_world_rock_kind f_h0_world_laws t t_clauses t_length n_t_heads f_t_heads n_t_code f_t_code f_h0_world_folk_noiseColumn f_h0_world_folk_noiseLoud x_12_0 r_23 r_30 Q Qb n x_38_0 x_38_1 x_38_2 x_38_3 x_38_4 x_38_5 x_38_6 x_38_7 x_38_8 x_38_9 x_38_10 x_38_11 x_38_12 x_38_13 x_38_14 x_38_15 x_38_16 x_38_17 x_38_18 x_38_19 x_38_20 x_38_21 x_38_22 x_38_23 x_38_24 x_38_25 := by
  intro n
  induction n with
  | zero =>
    intro x_38_0 x_38_1 x_38_2 x_38_3 x_38_4 x_38_5 x_38_6 x_38_7 x_38_8 x_38_9 x_38_10 x_38_11 x_38_12 x_38_13 x_38_14 x_38_15 x_38_16 x_38_17 x_38_18 x_38_19 x_38_20 x_38_21 x_38_22 x_38_23 x_38_24 x_38_25 hI hm
    exfalso; have hm : 21 - x_38_0.toInt < 0 := hm; omega
  | succ n ih =>
    intro x_38_0 x_38_1 x_38_2 x_38_3 x_38_4 x_38_5 x_38_6 x_38_7 x_38_8 x_38_9 x_38_10 x_38_11 x_38_12 x_38_13 x_38_14 x_38_15 x_38_16 x_38_17 x_38_18 x_38_19 x_38_20 x_38_21 x_38_22 x_38_23 x_38_24 x_38_25 hI hm
    have hm : 21 - x_38_0.toInt < (n : Int) + 1 := by simpa using hm
    have h_x_38_0 := hI.1
    have h_x_38_1 := hI.2.1
    have h_x_38_5 := hI.2.2.1
    have h_x_38_13 := hI.2.2.2.1
    have h_x_38_15 := hI.2.2.2.2.1
    have h_x_38_16 := hI.2.2.2.2.2.1
    have h_x_38_17 := hI.2.2.2.2.2.2.1
    have h_x_38_18 := hI.2.2.2.2.2.2.2.1
    have h_x_38_19 := hI.2.2.2.2.2.2.2.2.1
    have h_x_38_20 := hI.2.2.2.2.2.2.2.2.2.1
    have h_rel0 := hI.2.2.2.2.2.2.2.2.2.2.1
    have h_rel1 := hI.2.2.2.2.2.2.2.2.2.2.2.1
    have h_rel2 := hI.2.2.2.2.2.2.2.2.2.2.2.2
    unfold wl_X7_runOrders_T_38
    have ol := hokO.2.2.2.2.1
    obtain ⟨zl1, zl2, zl3, zl4, zl5⟩ := zl
    obtain ⟨⟨w1, U1, dn1, lt1⟩, hI, hX, hU, hd, hl⟩ := h_rel2
    have hd : x_38_1.toInt = dn1 := hd
    have hl : x_38_2.toInt = lt1 := hl
    subst hd
    subst hl
    have l_kd := RXw.kd hX
    have l_hd := RXw.hd hX
    have l_wt := RXw.wt hX
    have l_ce := RXw.ce hX
    have l_bu := RXw.bu hX
    have l_cc : h0_world_crew_count.toInt = w1 0 := RXw.cc hX
    have l_co := RXw.co hX
    have l_ls : h0_world_folk_listeners.toInt = w1 1 := RXw.ls hX
    have l_nc := RXw.nc hX
    have l_nl := RXw.nl hX
    have l_ns : h0_world_folk_noises.toInt = w1 2 := RXw.ns hX
    have l_te := RXw.te hX
    have l_lc : h0_world_lawCount.toInt = w1 5 := RXw.lc hX
    have l_fo : h0_world_force.toInt = w1 6 := RXw.fo hX
    have htx1 : XTx t_clauses t_length n_t_heads f_t_heads n_t_code f_t_code (ls (w1 6).toNat) := by rw [show w1 6 = h0_world_force.toInt from (RXw.fo hX).symm]; exact htx
    have hok1 : ∀ q ∈ ls (w1 6).toNat, okC q := by rw [show w1 6 = h0_world_force.toInt from (RXw.fo hX).symm]; exact hok
    by_cases c12 : r_23 ≤ x_38_0
    · refine br1 c12 ?_
      have d13 := le_z (x := (Int32.toInt r_23)) (y := (Int32.toInt x_38_0)) rfl rfl c12
      exact KX _ _ _ _ _ _ _ _ _ _ _ _ _ _ _ _ _ _ _ _ _ _ _ _ _ _ ⟨⟨by omega, by omega⟩, ⟨by omega, by omega⟩, ⟨by omega, by omega⟩, h_x_38_13, h_x_38_15, h_x_38_16, h_x_38_17, h_x_38_18, ⟨by omega, by omega⟩, ⟨by omega, by omega⟩, h_rel0, (by omega), ⟨(w1, U1, x_38_1.toInt, x_38_2.toInt), hI, hX, hU, rfl, rfl⟩, ⟨(w1, U1, x_38_1.toInt, x_38_2.toInt), by rw [hI, show cl.2.2.2.1 - x_38_0.toInt.toNat = 0 by omega]; rfl, hX, hU, rfl, rfl⟩⟩
    · refine br0 c12 ?_
      have d14 := nle_z (x := (Int32.toInt r_23)) (y := (Int32.toInt x_38_0)) rfl rfl c12
      refine o_X0_turnToOrders _ _ _ ?_
      refine un2_i ?_
      refine jn_s ?_
      by_cases c15 : r_30 = (-1)
      · refine br1 c15 ?_
        have d16 := eq_z (x := (Int32.toInt r_30)) (y := (-1)) rfl (by decide) c15
        have hg17 := z_tst0 (v := ovW w1 x_38_1.toInt x_38_2.toInt) hsg3 (by omega)
        refine un2_i ?_
        refine s_X7_runOrder_Tz (ls := ls) x_12_0 h0_world x_38_2 p0_length n_p0_heads (f_p0_heads) x_38_4 x_38_5 x_38_6 x_38_7 x_38_1 x_38_2 x_38_10 n_p0_code (f_p0_code) (x_38_11) h0_world_lawCount h0_world_force h0_world_folk_listeners h0_world_folk_noises x_38_12 (x_38_13) x_38_14 (f_h0_world_rock_hard) (x_38_15) (x_38_16) h0_world_crew_count (x_38_17) (x_38_18) (f_h0_world_rock_kind) (f_h0_world_laws) t t_clauses t_length n_t_heads (f_t_heads) n_t_code (f_t_code) x_38_19 x_38_20 (x_38_21) (x_38_22) (x_38_23) (x_38_24) (x_38_25) (f_h0_world_folk_noiseColumn) (f_h0_world_folk_noiseLoud) ⟨by omega, by omega⟩ ⟨by omega, by omega⟩ h_f_p0_heads ⟨by omega, by omega⟩ h_f_p0_code ⟨by omega, by omega⟩ ⟨by omega, by omega⟩ ⟨by omega, by omega⟩ ⟨by omega, by omega⟩ h_x_38_13 h_f_h0_world_rock_hard h_x_38_15 h_x_38_16 ⟨by omega, by omega⟩ h_x_38_17 h_x_38_18 h_f_h0_world_rock_kind ⟨by omega, by omega⟩ ⟨by omega, by omega⟩ h_f_t_code ⟨by omega, by omega⟩ ⟨by omega, by omega⟩ h_f_h0_world_folk_noiseColumn h_f_h0_world_folk_noiseLoud hX hU h_rel0 htx1 hok1 hxc hokO (by omega) (by omega) (by omega) (by omega) (by omega) (by omega) (by omega) (by omega) (by assumption) (fun r18 u19_0 u19_1 u19_2 u19_3 u19_4 u19_5 u19_6 u19_7 u19_8 u19_9 u19_10 u19_11 u19_12 u19_13 u19_14 u19_15 u19_16 u19_17 u19_18 u19_19 u19_20 u19_21 H20 => ?_)
        have j21 := H20.1
        have j22 := H20.2.1
        have j23 := H20.2.2.1
        have j24 := H20.2.2.2.1
        have j25 := H20.2.2.2.2.1
        have j26 := H20.2.2.2.2.2.1
        have j27 := H20.2.2.2.2.2.2.1
        have j28 := H20.2.2.2.2.2.2.2.1
        have j29 := H20.2.2.2.2.2.2.2.2.1
        have j30 := H20.2.2.2.2.2.2.2.2.2.1
        have j31 := H20.2.2.2.2.2.2.2.2.2.2.1
        have j32 := H20.2.2.2.2.2.2.2.2.2.2.2.1
        have j33 := H20.2.2.2.2.2.2.2.2.2.2.2.2.1
        have j34 := H20.2.2.2.2.2.2.2.2.2.2.2.2.2
        refine un22_i ?_
        have an35 := j30
        by_cases c36 : r18 = 0
        · refine br1 c36 ?_
          have d37 := eq_z (x := (Int32.toInt r18)) (y := 0) rfl rfl c36
          have hp38 := ifz0 an35 (by omega)
          exact hq _ _ _ _ _ _ _ _ _ _ _ _ _ _ _ _ _ _ _ _ _ _ _ _ _ _ ⟨⟨by omega, by omega⟩, ⟨by omega, by omega⟩, ⟨by omega, by omega⟩, j23, j24, j25, j26, j27, ⟨by omega, by omega⟩, ⟨by omega, by omega⟩, ⟨by rw [hO, ordF_f (hI.trans (rnT_f (rn1_f (s := (w1, U1, x_38_1.toInt, x_38_2.toInt)) hg17 hp38) (m := cl.2.2.2.1 - x_38_0.toInt.toNat - 1) (by omega)))]; show x_12_0.toInt = ((x_12_0.toInt.toNat : Nat) : Int); omega, fun s hs => by rw [hO, ordF_f (hI.trans (rnT_f (rn1_f (s := (w1, U1, x_38_1.toInt, x_38_2.toInt)) hg17 hp38) (m := cl.2.2.2.1 - x_38_0.toInt.toNat - 1) (by omega)))] at hs; cases hs⟩, j33⟩
        · refine br0 c36 ?_
          have d39 := ne_z (x := (Int32.toInt r18)) (y := 0) rfl rfl c36
          have hp40 := ifz1 an35 (by omega)
          have t41 : (Int32.toInt (x_38_0 + 1)) = (Int32.toInt x_38_0) + 1 := add_z rfl rfl (by omega) (by omega)
          have t42 : (Int32.toInt (x_38_1 + 1)) = (Int32.toInt x_38_1) + 1 := add_z rfl rfl (by omega) (by omega)
          exact ih _ _ _ _ _ _ _ _ _ _ _ _ _ _ _ _ _ _ _ _ _ _ _ _ _ _ ⟨⟨by omega, by omega⟩, ⟨by omega, by omega⟩, ⟨by omega, by omega⟩, j23, j24, j25, j26, j27, ⟨by omega, by omega⟩, ⟨by omega, by omega⟩, j33, (by omega), ⟨_, by rw [hI, rnT_c (rn1_g (s := (w1, U1, x_38_1.toInt, x_38_2.toInt)) hg17 hp40) (show cl.2.2.2.1 - x_38_0.toInt.toNat = (cl.2.2.2.1 - (x_38_0 + 1).toInt.toNat) + 1 by omega)], j31, by have q := j32; rw [rmU_p hp40] at q; exact q, by omega, j34 hp40⟩⟩ (by omega)
      · refine br0 c15 ?_
        have d43 := ne_z (x := (Int32.toInt r_30)) (y := (-1)) rfl (by decide) c15
        refine z_rtst (RXw.evO hX (by omega) (by omega)) (by omega) (by omega) (by omega) hsg3 (by omega) hokO.2.2.2.2.2 (fun r45 v46 st47 H52 => ?_)
        refine un2_i ?_
        rcases H52 with ⟨e48, e51, hg50⟩ | ⟨e48, e51, hg50⟩ | ⟨e48, hg50⟩
        · skip
          refine br0 (z_ne (x := (Int32.toInt r45)) (y := 0) rfl rfl (by omega)) ?_
          refine o_X0_reckoned _ _ ?_
          refine br1 (z_eq (x := (Int32.toInt v46)) (y := 1) rfl rfl (by omega)) ?_
          refine un2_i ?_
          refine s_X7_runOrder_Tz (ls := ls) x_12_0 h0_world x_38_2 p0_length n_p0_heads (f_p0_heads) x_38_4 x_38_5 x_38_6 x_38_7 x_38_1 x_38_2 v46 n_p0_code (f_p0_code) (st47) h0_world_lawCount h0_world_force h0_world_folk_listeners h0_world_folk_noises x_38_12 (x_38_13) x_38_14 (f_h0_world_rock_hard) (x_38_15) (x_38_16) h0_world_crew_count (x_38_17) (x_38_18) (f_h0_world_rock_kind) (f_h0_world_laws) t t_clauses t_length n_t_heads (f_t_heads) n_t_code (f_t_code) x_38_19 x_38_20 (x_38_21) (x_38_22) (x_38_23) (x_38_24) (x_38_25) (f_h0_world_folk_noiseColumn) (f_h0_world_folk_noiseLoud) ⟨by omega, by omega⟩ ⟨by omega, by omega⟩ h_f_p0_heads ⟨by omega, by omega⟩ h_f_p0_code ⟨by omega, by omega⟩ ⟨by omega, by omega⟩ ⟨by omega, by omega⟩ ⟨by omega, by omega⟩ h_x_38_13 h_f_h0_world_rock_hard h_x_38_15 h_x_38_16 ⟨by omega, by omega⟩ h_x_38_17 h_x_38_18 h_f_h0_world_rock_kind ⟨by omega, by omega⟩ ⟨by omega, by omega⟩ h_f_t_code ⟨by omega, by omega⟩ ⟨by omega, by omega⟩ h_f_h0_world_folk_noiseColumn h_f_h0_world_folk_noiseLoud hX hU h_rel0 htx1 hok1 hxc hokO (by omega) (by omega) (by omega) (by omega) (by omega) (by omega) (by omega) (by omega) (by assumption) (fun r53 u54_0 u54_1 u54_2 u54_3 u54_4 u54_5 u54_6 u54_7 u54_8 u54_9 u54_10 u54_11 u54_12 u54_13 u54_14 u54_15 u54_16 u54_17 u54_18 u54_19 u54_20 u54_21 H55 => ?_)
          have j56 := H55.1
          have j57 := H55.2.1
          have j58 := H55.2.2.1
          have j59 := H55.2.2.2.1
          have j60 := H55.2.2.2.2.1
          have j61 := H55.2.2.2.2.2.1
          have j62 := H55.2.2.2.2.2.2.1
          have j63 := H55.2.2.2.2.2.2.2.1
          have j64 := H55.2.2.2.2.2.2.2.2.1
          have j65 := H55.2.2.2.2.2.2.2.2.2.1
          have j66 := H55.2.2.2.2.2.2.2.2.2.2.1
          have j67 := H55.2.2.2.2.2.2.2.2.2.2.2.1
          have j68 := H55.2.2.2.2.2.2.2.2.2.2.2.2.1
          have j69 := H55.2.2.2.2.2.2.2.2.2.2.2.2.2
          refine un22_i ?_
          have an70 := j65
          by_cases c71 : r53 = 0
          · refine br1 c71 ?_
            have d72 := eq_z (x := (Int32.toInt r53)) (y := 0) rfl rfl c71
            have hp73 := ifz0 an70 (by omega)
            exact hq _ _ _ _ _ _ _ _ _ _ _ _ _ _ _ _ _ _ _ _ _ _ _ _ _ _ ⟨⟨by omega, by omega⟩, ⟨by omega, by omega⟩, ⟨by omega, by omega⟩, j58, j59, j60, j61, j62, ⟨by omega, by omega⟩, ⟨by omega, by omega⟩, ⟨by rw [hO, ordF_f (hI.trans (rnT_f (rn1_f (s := (w1, U1, x_38_1.toInt, x_38_2.toInt)) hg50 hp73) (m := cl.2.2.2.1 - x_38_0.toInt.toNat - 1) (by omega)))]; show x_12_0.toInt = ((x_12_0.toInt.toNat : Nat) : Int); omega, fun s hs => by rw [hO, ordF_f (hI.trans (rnT_f (rn1_f (s := (w1, U1, x_38_1.toInt, x_38_2.toInt)) hg50 hp73) (m := cl.2.2.2.1 - x_38_0.toInt.toNat - 1) (by omega)))] at hs; cases hs⟩, j68⟩
          · refine br0 c71 ?_
            have d74 := ne_z (x := (Int32.toInt r53)) (y := 0) rfl rfl c71
            have hp75 := ifz1 an70 (by omega)
            have t76 : (Int32.toInt (x_38_0 + 1)) = (Int32.toInt x_38_0) + 1 := add_z rfl rfl (by omega) (by omega)
            have t77 : (Int32.toInt (x_38_1 + 1)) = (Int32.toInt x_38_1) + 1 := add_z rfl rfl (by omega) (by omega)
            exact ih _ _ _ _ _ _ _ _ _ _ _ _ _ _ _ _ _ _ _ _ _ _ _ _ _ _ ⟨⟨by omega, by omega⟩, ⟨by omega, by omega⟩, ⟨by omega, by omega⟩, j58, j59, j60, j61, j62, ⟨by omega, by omega⟩, ⟨by omega, by omega⟩, j68, (by omega), ⟨_, by rw [hI, rnT_c (rn1_g (s := (w1, U1, x_38_1.toInt, x_38_2.toInt)) hg50 hp75) (show cl.2.2.2.1 - x_38_0.toInt.toNat = (cl.2.2.2.1 - (x_38_0 + 1).toInt.toNat) + 1 by omega)], j66, by have q := j67; rw [rmU_p hp75] at q; exact q, by omega, j69 hp75⟩⟩ (by omega)
        · skip
          refine br0 (z_ne (x := (Int32.toInt r45)) (y := 0) rfl rfl (by omega)) ?_
          refine o_X0_reckoned _ _ ?_
          refine br0 (z_ne (x := (Int32.toInt v46)) (y := 1) rfl rfl (by omega)) ?_
          have t78 : (Int32.toInt (x_38_0 + 1)) = (Int32.toInt x_38_0) + 1 := add_z rfl rfl (by omega) (by omega)
          exact ih _ _ _ _ _ _ _ _ _ _ _ _ _ _ _ _ _ _ _ _ _ _ _ _ _ _ ⟨⟨by omega, by omega⟩, ⟨by omega, by omega⟩, ⟨by omega, by omega⟩, h_x_38_13, h_x_38_15, h_x_38_16, h_x_38_17, h_x_38_18, ⟨by omega, by omega⟩, ⟨by omega, by omega⟩, h_rel0, (by omega), ⟨(w1, U1, x_38_1.toInt, x_38_2.toInt), by rw [hI, rnT_c (rn1_s (s := (w1, U1, x_38_1.toInt, x_38_2.toInt)) hg50) (show cl.2.2.2.1 - x_38_0.toInt.toNat = (cl.2.2.2.1 - (x_38_0 + 1).toInt.toNat) + 1 by omega)], hX, hU, rfl, rfl⟩⟩ (by omega)
        · skip
          refine br1 (z_eq (x := (Int32.toInt r45)) (y := 0) rfl rfl (by omega)) ?_
          have t79 : (Int32.toInt (x_38_0 + 1)) = (Int32.toInt x_38_0) + 1 := add_z rfl rfl (by omega) (by omega)
          exact ih _ _ _ _ _ _ _ _ _ _ _ _ _ _ _ _ _ _ _ _ _ _ _ _ _ _ ⟨⟨by omega, by omega⟩, ⟨by omega, by omega⟩, ⟨by omega, by omega⟩, h_x_38_13, h_x_38_15, h_x_38_16, h_x_38_17, h_x_38_18, ⟨by omega, by omega⟩, ⟨by omega, by omega⟩, h_rel0, (by omega), ⟨(w1, U1, x_38_1.toInt, x_38_2.toInt), by rw [hI, rnT_c (rn1_s (s := (w1, U1, x_38_1.toInt, x_38_2.toInt)) hg50) (show cl.2.2.2.1 - x_38_0.toInt.toNat = (cl.2.2.2.1 - (x_38_0 + 1).toInt.toNat) + 1 by omega)], hX, hU, rfl, rfl⟩⟩ (by omega)
set_option maxRecDepth 100000 in
theorem sl_X7_runOrders_T_12z (h0_world : Nat) (p0_clauses : Int32) (p0_length : Int32) (n_p0_heads : Nat) (f_p0_heads : Nat → Int32) (n_p0_code : Nat) (f_p0_code : Nat → Int32) (h0_world_lawCount : Int32) (h0_world_force : Int32) (h0_world_folk_listeners : Int32) (h0_world_folk_noises : Int32) (f_h0_world_rock_hard : Nat → Int32) (h0_world_crew_count : Int32) (f_h0_world_rock_kind : Nat → Int32) (f_h0_world_laws : Nat → Option Nat) (t : Nat) (t_clauses : Int32) (t_length : Int32) (n_t_heads : Nat) (f_t_heads : Nat → Int32) (n_t_code : Nat) (f_t_code : Nat → Int32) (f_h0_world_folk_noiseColumn : Nat → Int32) (f_h0_world_folk_noiseLoud : Nat → Int32) (w : Nat → Int) (U : UL) (ls : Nat → List Cls) (L : List Cls) (c0 : Nat) (g_ea : Nat → Int32) (g_hc : Nat → Int32) (g_hl : Nat → Int32) (g_hs : Int32) (g_so : Nat → Int32) (g_we : Nat → Int32) (g_wl : Int32) (h_p0_clauses : 0 ≤ p0_clauses.toInt ∧ p0_clauses.toInt ≤ 12) (h_p0_length : 0 ≤ p0_length.toInt ∧ p0_length.toInt ≤ 400) (h_f_p0_heads : HD f_p0_heads) (h_f_p0_code : CD f_p0_code) (h_h0_world_lawCount : 0 ≤ h0_world_lawCount.toInt ∧ h0_world_lawCount.toInt ≤ 6) (h_h0_world_force : 0 ≤ h0_world_force.toInt ∧ h0_world_force.toInt ≤ 5) (h_h0_world_folk_listeners : 0 ≤ h0_world_folk_listeners.toInt ∧ h0_world_folk_listeners.toInt ≤ 5) (h_h0_world_folk_noises : 0 ≤ h0_world_folk_noises.toInt ∧ h0_world_folk_noises.toInt ≤ 6) (h_f_h0_world_rock_hard : HA f_h0_world_rock_hard) (h_h0_world_crew_count : 0 ≤ h0_world_crew_count.toInt ∧ h0_world_crew_count.toInt ≤ 6) (h_f_h0_world_rock_kind : KI f_h0_world_rock_kind) (h_t_clauses : 0 ≤ t_clauses.toInt ∧ t_clauses.toInt ≤ 12) (h_t_length : 0 ≤ t_length.toInt ∧ t_length.toInt ≤ 400) (h_f_t_code : CD f_t_code) (h_f_h0_world_folk_noiseColumn : NC f_h0_world_folk_noiseColumn) (h_f_h0_world_folk_noiseLoud : NL f_h0_world_folk_noiseLoud) (zlaw : f_h0_world_laws (Int32.toNatClampNeg h0_world_force) = some t) (zfo : h0_world_force.toInt < h0_world_lawCount.toInt) (zp : p0_clauses.toInt = (L.length : Int) ∧ L.length ≤ 12 ∧ p0_length.toInt = (c0 : Int) ∧ c0 ≤ 400 ∧ c0 ≤ n_p0_code ∧ n_p0_heads = 60) (htx : XTx t_clauses t_length n_t_heads f_t_heads n_t_code f_t_code (ls h0_world_force.toInt.toNat)) (hok : ∀ q ∈ ls h0_world_force.toInt.toNat, okC q) (z_n_p0_heads : n_p0_heads < 100000) (z_n_p0_code : p0_length.toInt ≤ (n_p0_code : Int)) (z_n_t_heads : n_t_heads < 100000) (z_n_t_code : t_length.toInt ≤ (n_t_code : Int)) {Q : Int32 → (Int32 × Int32 × Value × Value × Int32 × Int32 × Int32 × Int32 × Int32 × Int32 × (Nat → Int64) × Int32 × (Nat → Int32) × Int64 × (Nat → Int32) × (Nat → Int32) × (Nat → Int32) × (Nat → Int32) × Int32 × Int32 × (Nat → Int32) × (Nat → Int32) × (Nat → Int32) × (Nat → Int32) × (Nat → Int32)) → Prop} (hq : ∀ (r : Int32) (u_0 : Int32) (u_1 : Int32) (u_2 : Value) (u_3 : Value) (u_4 : Int32) (u_5 : Int32) (u_6 : Int32) (u_7 : Int32) (u_8 : Int32) (u_9 : Int32) (u_10 : Nat → Int64) (u_11 : Int32) (u_12 : Nat → Int32) (u_13 : Int64) (u_14 : Nat → Int32) (u_15 : Nat → Int32) (u_16 : Nat → Int32) (u_17 : Nat → Int32) (u_18 : Int32) (u_19 : Int32) (u_20 : Nat → Int32) (u_21 : Nat → Int32) (u_22 : Nat → Int32) (u_23 : Nat → Int32) (u_24 : Nat → Int32), ((-1) ≤ r.toInt ∧ r.toInt ≤ 11) ∧ (0 ≤ u_0.toInt ∧ u_0.toInt ≤ 240) ∧ (0 ≤ u_4.toInt ∧ u_4.toInt ≤ 39) ∧ (CO u_12) ∧ (WA u_14) ∧ (TE u_15) ∧ (CE u_16) ∧ (BU u_17) ∧ (0 ≤ u_18.toInt ∧ u_18.toInt ≤ 16) ∧ (0 ≤ u_19.toInt ∧ u_19.toInt ≤ 15) ∧ (r.toInt = (ordF ls 0 L (w, U, 0, -1)).2 ∧ ∀ s : OSt, (ordF ls 0 L (w, U, 0, -1)).1 = some s → RXw f_h0_world_rock_kind f_h0_world_rock_hard u_14 u_13 u_16 u_17 h0_world_crew_count u_12 g_ea h0_world_folk_listeners f_h0_world_folk_noiseColumn f_h0_world_folk_noiseLoud h0_world_folk_noises u_11 g_hc g_hl g_hs g_so g_we g_wl u_15 h0_world_lawCount h0_world_force s.1 ∧ RXu u_20 u_21 u_22 u_23 u_24 u_18 u_19 s.1 s.2.1 ∧ u_0.toInt = s.2.2.1) ∧ (DI u_20 u_21 u_22 u_23 u_24) → Q r (u_0, u_1, u_2, u_3, u_4, u_5, u_6, u_7, u_8, u_9, u_10, u_11, u_12, u_13, u_14, u_15, u_16, u_17, u_18, u_19, u_20, u_21, u_22, u_23, u_24)) (Qb : Int32 → Int32 → Int32 → Value → Value → Int32 → Int32 → Int32 → Int32 → Int32 → Int32 → (Nat → Int64) → Int32 → (Nat → Int32) → Int64 → (Nat → Int32) → (Nat → Int32) → (Nat → Int32) → (Nat → Int32) → Int32 → Int32 → (Nat → Int32) → (Nat → Int32) → (Nat → Int32) → (Nat → Int32) → (Nat → Int32) → Prop) (KX : ∀ (x_12_0 : Int32) (x_12_1 : Int32) (x_12_2 : Int32) (x_12_3 : Value) (x_12_4 : Value) (x_12_5 : Int32) (x_12_6 : Int32) (x_12_7 : Int32) (x_12_8 : Int32) (x_12_9 : Int32) (x_12_10 : Int32) (x_12_11 : Nat → Int64) (x_12_12 : Int32) (x_12_13 : Nat → Int32) (x_12_14 : Int64) (x_12_15 : Nat → Int32) (x_12_16 : Nat → Int32) (x_12_17 : Nat → Int32) (x_12_18 : Nat → Int32) (x_12_19 : Int32) (x_12_20 : Int32) (x_12_21 : Nat → Int32) (x_12_22 : Nat → Int32) (x_12_23 : Nat → Int32) (x_12_24 : Nat → Int32) (x_12_25 : Nat → Int32), (0 ≤ x_12_0.toInt ∧ x_12_0.toInt ≤ 12) ∧ (0 ≤ x_12_1.toInt ∧ x_12_1.toInt ≤ 240) ∧ (0 ≤ x_12_5.toInt ∧ x_12_5.toInt ≤ 39) ∧ (CO x_12_13) ∧ (WA x_12_15) ∧ (TE x_12_16) ∧ (CE x_12_17) ∧ (BU x_12_18) ∧ (0 ≤ x_12_19.toInt ∧ x_12_19.toInt ≤ 16) ∧ (0 ≤ x_12_20.toInt ∧ x_12_20.toInt ≤ 15) ∧ (DI x_12_21 x_12_22 x_12_23 x_12_24 x_12_25) ∧ (x_12_1.toInt ≤ 20 * x_12_0.toInt) ∧ (∃ (s : OSt) (r : List Cls), ordF ls 0 L (w, U, 0, -1) = ordF ls (x_12_0.toInt).toNat r s ∧ x_12_0.toInt + (r.length : Int) = (L.length : Int) ∧ XCs true f_p0_heads f_p0_code c0 (x_12_0.toInt).toNat r ∧ (∀ q ∈ r, okO q) ∧ RXw f_h0_world_rock_kind f_h0_world_rock_hard x_12_15 x_12_14 x_12_17 x_12_18 h0_world_crew_count x_12_13 g_ea h0_world_folk_listeners f_h0_world_folk_noiseColumn f_h0_world_folk_noiseLoud h0_world_folk_noises x_12_12 g_hc g_hl g_hs g_so g_we g_wl x_12_16 h0_world_lawCount h0_world_force s.1 ∧ RXu x_12_21 x_12_22 x_12_23 x_12_24 x_12_25 x_12_19 x_12_20 s.1 s.2.1 ∧ x_12_1.toInt = s.2.2.1 ∧ x_12_2.toInt = s.2.2.2) ∧ (∃ s : OSt, ordF ls 0 L (w, U, 0, -1) = (some s, -1) ∧ RXw f_h0_world_rock_kind f_h0_world_rock_hard x_12_15 x_12_14 x_12_17 x_12_18 h0_world_crew_count x_12_13 g_ea h0_world_folk_listeners f_h0_world_folk_noiseColumn f_h0_world_folk_noiseLoud h0_world_folk_noises x_12_12 g_hc g_hl g_hs g_so g_we g_wl x_12_16 h0_world_lawCount h0_world_force s.1 ∧ RXu x_12_21 x_12_22 x_12_23 x_12_24 x_12_25 x_12_19 x_12_20 s.1 s.2.1 ∧ x_12_1.toInt = s.2.2.1) → Qb x_12_0 x_12_1 x_12_2 x_12_3 x_12_4 x_12_5 x_12_6 x_12_7 x_12_8 x_12_9 x_12_10 x_12_11 x_12_12 x_12_13 x_12_14 x_12_15 x_12_16 x_12_17 x_12_18 x_12_19 x_12_20 x_12_21 x_12_22 x_12_23 x_12_24 x_12_25) : ∀ (n : Nat) (x_12_0 : Int32) (x_12_1 : Int32) (x_12_2 : Int32) (x_12_3 : Value) (x_12_4 : Value) (x_12_5 : Int32) (x_12_6 : Int32) (x_12_7 : Int32) (x_12_8 : Int32) (x_12_9 : Int32) (x_12_10 : Int32) (x_12_11 : Nat → Int64) (x_12_12 : Int32) (x_12_13 : Nat → Int32) (x_12_14 : Int64) (x_12_15 : Nat → Int32) (x_12_16 : Nat → Int32) (x_12_17 : Nat → Int32) (x_12_18 : Nat → Int32) (x_12_19 : Int32) (x_12_20 : Int32) (x_12_21 : Nat → Int32) (x_12_22 : Nat → Int32) (x_12_23 : Nat → Int32) (x_12_24 : Nat → Int32) (x_12_25 : Nat → Int32), (0 ≤ x_12_0.toInt ∧ x_12_0.toInt ≤ 12) ∧ (0 ≤ x_12_1.toInt ∧ x_12_1.toInt ≤ 240) ∧ (0 ≤ x_12_5.toInt ∧ x_12_5.toInt ≤ 39) ∧ (CO x_12_13) ∧ (WA x_12_15) ∧ (TE x_12_16) ∧ (CE x_12_17) ∧ (BU x_12_18) ∧ (0 ≤ x_12_19.toInt ∧ x_12_19.toInt ≤ 16) ∧ (0 ≤ x_12_20.toInt ∧ x_12_20.toInt ≤ 15) ∧ (DI x_12_21 x_12_22 x_12_23 x_12_24 x_12_25) ∧ (x_12_1.toInt ≤ 20 * x_12_0.toInt) ∧ (∃ (s : OSt) (r : List Cls), ordF ls 0 L (w, U, 0, -1) = ordF ls (x_12_0.toInt).toNat r s ∧ x_12_0.toInt + (r.length : Int) = (L.length : Int) ∧ XCs true f_p0_heads f_p0_code c0 (x_12_0.toInt).toNat r ∧ (∀ q ∈ r, okO q) ∧ RXw f_h0_world_rock_kind f_h0_world_rock_hard x_12_15 x_12_14 x_12_17 x_12_18 h0_world_crew_count x_12_13 g_ea h0_world_folk_listeners f_h0_world_folk_noiseColumn f_h0_world_folk_noiseLoud h0_world_folk_noises x_12_12 g_hc g_hl g_hs g_so g_we g_wl x_12_16 h0_world_lawCount h0_world_force s.1 ∧ RXu x_12_21 x_12_22 x_12_23 x_12_24 x_12_25 x_12_19 x_12_20 s.1 s.2.1 ∧ x_12_1.toInt = s.2.2.1 ∧ x_12_2.toInt = s.2.2.2) → 13 - x_12_0.toInt < (n : Int) → wl_X7_runOrders_T_12 h0_world p0_clauses p0_length n_p0_heads f_p0_heads n_p0_code f_p0_code h0_world_lawCount h0_world_force h0_world_folk_listeners h0_world_folk_noises f_h0_world_rock_hard h0_world_crew_count f_h0_world_rock_kind f_h0_world_laws t t_clauses t_length n_t_heads f_t_heads n_t_code f_t_code f_h0_world_folk_noiseColumn f_h0_world_folk_noiseLoud Q Qb n x_12_0 x_12_1 x_12_2 x_12_3 x_12_4 x_12_5 x_12_6 x_12_7 x_12_8 x_12_9 x_12_10 x_12_11 x_12_12 x_12_13 x_12_14 x_12_15 x_12_16 x_12_17 x_12_18 x_12_19 x_12_20 x_12_21 x_12_22 x_12_23 x_12_24 x_12_25 := by
  intro n
  induction n with
  | zero =>
    intro x_12_0 x_12_1 x_12_2 x_12_3 x_12_4 x_12_5 x_12_6 x_12_7 x_12_8 x_12_9 x_12_10 x_12_11 x_12_12 x_12_13 x_12_14 x_12_15 x_12_16 x_12_17 x_12_18 x_12_19 x_12_20 x_12_21 x_12_22 x_12_23 x_12_24 x_12_25 hI hm
    exfalso; have hm : 13 - x_12_0.toInt < 0 := hm; omega
  | succ n ih =>
    intro x_12_0 x_12_1 x_12_2 x_12_3 x_12_4 x_12_5 x_12_6 x_12_7 x_12_8 x_12_9 x_12_10 x_12_11 x_12_12 x_12_13 x_12_14 x_12_15 x_12_16 x_12_17 x_12_18 x_12_19 x_12_20 x_12_21 x_12_22 x_12_23 x_12_24 x_12_25 hI hm
    have hm : 13 - x_12_0.toInt < (n : Int) + 1 := by simpa using hm
    have h_x_12_0 := hI.1
    have h_x_12_1 := hI.2.1
    have h_x_12_5 := hI.2.2.1
    have h_x_12_13 := hI.2.2.2.1
    have h_x_12_15 := hI.2.2.2.2.1
    have h_x_12_16 := hI.2.2.2.2.2.1
    have h_x_12_17 := hI.2.2.2.2.2.2.1
    have h_x_12_18 := hI.2.2.2.2.2.2.2.1
    have h_x_12_19 := hI.2.2.2.2.2.2.2.2.1
    have h_x_12_20 := hI.2.2.2.2.2.2.2.2.2.1
    have h_rel0 := hI.2.2.2.2.2.2.2.2.2.2.1
    have h_rel1 := hI.2.2.2.2.2.2.2.2.2.2.2.1
    have h_rel2 := hI.2.2.2.2.2.2.2.2.2.2.2.2
    unfold wl_X7_runOrders_T_12
    obtain ⟨zp1, zp2, zp3, zp4, zp5, zp6⟩ := zp
    obtain ⟨⟨w1, U1, dn1, lt1⟩, rr, hI, hlen, hXC, hok12, hX, hU, hd, hl⟩ := h_rel2
    have hd : x_12_1.toInt = dn1 := hd
    have hl : x_12_2.toInt = lt1 := hl
    subst hd
    subst hl
    have l_kd := RXw.kd hX
    have l_hd := RXw.hd hX
    have l_wt := RXw.wt hX
    have l_ce := RXw.ce hX
    have l_bu := RXw.bu hX
    have l_cc : h0_world_crew_count.toInt = w1 0 := RXw.cc hX
    have l_co := RXw.co hX
    have l_ls : h0_world_folk_listeners.toInt = w1 1 := RXw.ls hX
    have l_nc := RXw.nc hX
    have l_nl := RXw.nl hX
    have l_ns : h0_world_folk_noises.toInt = w1 2 := RXw.ns hX
    have l_te := RXw.te hX
    have l_lc : h0_world_lawCount.toInt = w1 5 := RXw.lc hX
    have l_fo : h0_world_force.toInt = w1 6 := RXw.fo hX
    by_cases c1 : p0_clauses ≤ x_12_0
    · refine br1 c1 ?_
      have d2 := le_z (x := (Int32.toInt p0_clauses)) (y := (Int32.toInt x_12_0)) rfl rfl c1
      exact KX _ _ _ _ _ _ _ _ _ _ _ _ _ _ _ _ _ _ _ _ _ _ _ _ _ _ ⟨⟨by omega, by omega⟩, ⟨by omega, by omega⟩, ⟨by omega, by omega⟩, h_x_12_13, h_x_12_15, h_x_12_16, h_x_12_17, h_x_12_18, ⟨by omega, by omega⟩, ⟨by omega, by omega⟩, h_rel0, (by omega), ⟨_, rr, hI, hlen, hXC, hok12, hX, hU, rfl, rfl⟩, ⟨(w1, U1, x_12_1.toInt, x_12_2.toInt), by have q := nnil (r := rr) (by omega); subst q; exact hI, hX, hU, rfl⟩⟩
    · refine br0 c1 ?_
      have d3 := nle_z (x := (Int32.toInt p0_clauses)) (y := (Int32.toInt x_12_0)) rfl rfl c1
      obtain ⟨cl1, r1, erc⟩ := ncons (r := rr) (by omega)
      subst erc
      have hlen : x_12_0.toInt + ((r1.length : Int) + 1) = (L.length : Int) := hlen
      have okt := (hok12 cl1 List.mem_cons_self).2.2.2.2.1
      have k5 : Int32.toInt 4 = 4 := rfl
      refine z_hd4 hXC.1 (by omega) (by omega) (by omega) (fun r4 H6 => ?_)
      have sg7 := H6
      have k9 : Int32.toInt 3 = 3 := rfl
      refine z_hd3 hXC.1 (by omega) (by omega) (by omega) (fun r8 H10 => ?_)
      have sg11 := H10
      have k14 : Int32.toInt 0 = 0 := rfl
      refine sl_X7_runOrders_T_38z h0_world p0_length n_p0_heads (f_p0_heads) n_p0_code (f_p0_code) h0_world_lawCount h0_world_force h0_world_folk_listeners h0_world_folk_noises (f_h0_world_rock_hard) h0_world_crew_count (f_h0_world_rock_kind) f_h0_world_laws t t_clauses t_length n_t_heads (f_t_heads) n_t_code (f_t_code) (f_h0_world_folk_noiseColumn) (f_h0_world_folk_noiseLoud) x_12_0 r4 r8 w U ls L c0 g_ea g_hc g_hl g_hs g_so g_we g_wl cl1 r1 (w1, U1, x_12_1.toInt, x_12_2.toInt) ⟨by omega, by omega⟩ h_f_p0_heads h_f_p0_code ⟨by omega, by omega⟩ ⟨by omega, by omega⟩ ⟨by omega, by omega⟩ ⟨by omega, by omega⟩ h_f_h0_world_rock_hard ⟨by omega, by omega⟩ h_f_h0_world_rock_kind ⟨by omega, by omega⟩ ⟨by omega, by omega⟩ h_f_t_code h_f_h0_world_folk_noiseColumn h_f_h0_world_folk_noiseLoud ⟨by omega, by omega⟩ ⟨by omega, by omega⟩ (by assumption) (by omega) sg7 hXC.1 (hok12 cl1 List.mem_cons_self) sg11 ⟨by omega, by omega, by omega, by omega, by omega⟩ hI htx hok (by omega) (by omega) (by omega) (by omega) hq _ (fun x12_0 x12_1 x12_2 x12_3 x12_4 x12_5 x12_6 x12_7 x12_8 x12_9 x12_10 x12_11 x12_12 x12_13 x12_14 x12_15 x12_16 x12_17 x12_18 x12_19 x12_20 x12_21 x12_22 x12_23 x12_24 x12_25 X13 => ?_) 1000000000000 0 x_12_1 x_12_2 x_12_3 x_12_4 x_12_5 x_12_6 x_12_7 x_12_8 x_12_9 x_12_10 (x_12_11) x_12_12 (x_12_13) x_12_14 (x_12_15) (x_12_16) (x_12_17) (x_12_18) x_12_19 x_12_20 (x_12_21) (x_12_22) (x_12_23) (x_12_24) (x_12_25) ⟨(by decide), ⟨by omega, by omega⟩, ⟨by omega, by omega⟩, h_x_12_13, h_x_12_15, h_x_12_16, h_x_12_17, h_x_12_18, ⟨by omega, by omega⟩, ⟨by omega, by omega⟩, h_rel0, (by omega), ⟨_, rfl, hX, hU, rfl, rfl⟩⟩ (by omega)
      have j15 := X13.1
      have j16 := X13.2.1
      have j17 := X13.2.2.1
      have j18 := X13.2.2.2.1
      have j19 := X13.2.2.2.2.1
      have j20 := X13.2.2.2.2.2.1
      have j21 := X13.2.2.2.2.2.2.1
      have j22 := X13.2.2.2.2.2.2.2.1
      have j23 := X13.2.2.2.2.2.2.2.2.1
      have j24 := X13.2.2.2.2.2.2.2.2.2.1
      have j25 := X13.2.2.2.2.2.2.2.2.2.2.1
      have j26 := X13.2.2.2.2.2.2.2.2.2.2.2.1
      have j27 := X13.2.2.2.2.2.2.2.2.2.2.2.2.1
      have j28 := X13.2.2.2.2.2.2.2.2.2.2.2.2.2
      obtain ⟨s9, k9, hX9, hU9, hd9, hl9⟩ := j28
      have t29 : (Int32.toInt (x_12_0 + 1)) = (Int32.toInt x_12_0) + 1 := add_z rfl rfl (by omega) (by omega)
      exact ih _ _ _ _ _ _ _ _ _ _ _ _ _ _ _ _ _ _ _ _ _ _ _ _ _ _ ⟨⟨by omega, by omega⟩, ⟨by omega, by omega⟩, ⟨by omega, by omega⟩, j18, j19, j20, j21, j22, ⟨by omega, by omega⟩, ⟨by omega, by omega⟩, j25, (by omega), ⟨s9, r1, by rw [hI, ordF_c k9, show (x_12_0 + 1).toInt.toNat = x_12_0.toInt.toNat + 1 by omega], by omega, by rw [show (x_12_0 + 1).toInt.toNat = x_12_0.toInt.toNat + 1 by omega]; exact hXC.2, fun q hq9 => hok12 q (List.mem_cons_of_mem _ hq9), hX9, hU9, hd9, hl9⟩⟩ (by omega)
set_option maxRecDepth 100000 in
theorem s_X7_runOrders_Tz (h0_world : Nat) (p0_clauses : Int32) (p0_length : Int32) (n_p0_heads : Nat) (f_p0_heads : Nat → Int32) (h0_asker_world : Value) (h0_asker_law : Value) (h0_asker_cell : Int32) (h0_asker_shaft : Int32) (h0_asker_kind : Int32) (h0_asker_done : Int32) (h0_asker_latest : Int32) (h0_asker_value : Int32) (n_p0_code : Nat) (f_p0_code : Nat → Int32) (f_h0_asker_stack : Nat → Int64) (h0_world_lawCount : Int32) (h0_world_force : Int32) (h0_world_folk_listeners : Int32) (h0_world_folk_noises : Int32) (h0_world_folk_hushed : Int32) (f_h0_world_folk_column : Nat → Int32) (h0_world_rock_dug : Int64) (f_h0_world_rock_hard : Nat → Int32) (f_h0_world_rock_water : Nat → Int32) (f_h0_world_term : Nat → Int32) (h0_world_crew_count : Int32) (f_h0_world_crew_cell : Nat → Int32) (f_h0_world_crew_buckets : Nat → Int32) (f_h0_world_rock_kind : Nat → Int32) (f_h0_world_laws : Nat → Option Nat) (t : Nat) (t_clauses : Int32) (t_length : Int32) (n_t_heads : Nat) (f_t_heads : Nat → Int32) (n_t_code : Nat) (f_t_code : Nat → Int32) (h0_diary_kept : Int32) (h0_diary_latest : Int32) (f_h0_diary_deed : Nat → Int32) (f_h0_diary_whose : Nat → Int32) (f_h0_diary_before : Nat → Int32) (f_h0_diary_bucketsBefore : Nat → Int32) (f_h0_diary_dayBefore : Nat → Int32) (f_h0_world_folk_noiseColumn : Nat → Int32) (f_h0_world_folk_noiseLoud : Nat → Int32) {w : Nat → Int} {U : UL} {ls : Nat → List Cls} {L : List Cls} {c0 : Nat} {g_ea : Nat → Int32} {g_hc : Nat → Int32} {g_hl : Nat → Int32} {g_hs : Int32} {g_so : Nat → Int32} {g_we : Nat → Int32} {g_wl : Int32} (h_p0_clauses : 0 ≤ p0_clauses.toInt ∧ p0_clauses.toInt ≤ 12) (h_p0_length : 0 ≤ p0_length.toInt ∧ p0_length.toInt ≤ 400) (h_f_p0_heads : HD f_p0_heads) (h_h0_asker_cell : 0 ≤ h0_asker_cell.toInt ∧ h0_asker_cell.toInt ≤ 39) (h_f_p0_code : CD f_p0_code) (h_h0_world_lawCount : 0 ≤ h0_world_lawCount.toInt ∧ h0_world_lawCount.toInt ≤ 6) (h_h0_world_force : 0 ≤ h0_world_force.toInt ∧ h0_world_force.toInt ≤ 5) (h_h0_world_folk_listeners : 0 ≤ h0_world_folk_listeners.toInt ∧ h0_world_folk_listeners.toInt ≤ 5) (h_h0_world_folk_noises : 0 ≤ h0_world_folk_noises.toInt ∧ h0_world_folk_noises.toInt ≤ 6) (h_f_h0_world_folk_column : CO f_h0_world_folk_column) (h_f_h0_world_rock_hard : HA f_h0_world_rock_hard) (h_f_h0_world_rock_water : WA f_h0_world_rock_water) (h_f_h0_world_term : TE f_h0_world_term) (h_h0_world_crew_count : 0 ≤ h0_world_crew_count.toInt ∧ h0_world_crew_count.toInt ≤ 6) (h_f_h0_world_crew_cell : CE f_h0_world_crew_cell) (h_f_h0_world_crew_buckets : BU f_h0_world_crew_buckets) (h_f_h0_world_rock_kind : KI f_h0_world_rock_kind) (h_t_clauses : 0 ≤ t_clauses.toInt ∧ t_clauses.toInt ≤ 12) (h_t_length : 0 ≤ t_length.toInt ∧ t_length.toInt ≤ 400) (h_f_t_code : CD f_t_code) (h_h0_diary_kept : 0 ≤ h0_diary_kept.toInt ∧ h0_diary_kept.toInt ≤ 16) (h_h0_diary_latest : 0 ≤ h0_diary_latest.toInt ∧ h0_diary_latest.toInt ≤ 15) (h_f_h0_world_folk_noiseColumn : NC f_h0_world_folk_noiseColumn) (h_f_h0_world_folk_noiseLoud : NL f_h0_world_folk_noiseLoud) (e_0 : RXw f_h0_world_rock_kind f_h0_world_rock_hard f_h0_world_rock_water h0_world_rock_dug f_h0_world_crew_cell f_h0_world_crew_buckets h0_world_crew_count f_h0_world_folk_column g_ea h0_world_folk_listeners f_h0_world_folk_noiseColumn f_h0_world_folk_noiseLoud h0_world_folk_noises h0_world_folk_hushed g_hc g_hl g_hs g_so g_we g_wl f_h0_world_term h0_world_lawCount h0_world_force w) (e_1 : RXu f_h0_diary_deed f_h0_diary_whose f_h0_diary_before f_h0_diary_bucketsBefore f_h0_diary_dayBefore h0_diary_kept h0_diary_latest w U) (e_2 : DI f_h0_diary_deed f_h0_diary_whose f_h0_diary_before f_h0_diary_bucketsBefore f_h0_diary_dayBefore) (e_3 : XTx t_clauses t_length n_t_heads f_t_heads n_t_code f_t_code (ls (h0_world_force.toInt).toNat)) (e_4 : ∀ q ∈ ls (h0_world_force.toInt).toNat, okC q) (e_5 : XCs true f_p0_heads f_p0_code c0 0 L) (e_6 : ∀ q ∈ L, okO q) (e_7 : p0_clauses.toInt = (L.length : Int)) (e_8 : L.length ≤ 12) (e_9 : p0_length.toInt = (c0 : Int)) (e_10 : c0 ≤ 400) (e_11 : c0 ≤ n_p0_code) (e_12 : n_p0_heads = 60) (e_13 : n_t_heads < 100000) (e_14 : t_length.toInt ≤ (n_t_code : Int)) (e_15 : h0_world_force.toInt < h0_world_lawCount.toInt) (e_16 : f_h0_world_laws (Int32.toNatClampNeg h0_world_force) = some t) {Q : Int32 → (Int32 × Int32 × Value × Value × Int32 × Int32 × Int32 × Int32 × Int32 × Int32 × (Nat → Int64) × Int32 × (Nat → Int32) × Int64 × (Nat → Int32) × (Nat → Int32) × (Nat → Int32) × (Nat → Int32) × Int32 × Int32 × (Nat → Int32) × (Nat → Int32) × (Nat → Int32) × (Nat → Int32) × (Nat → Int32)) → Prop} (hq : ∀ (r : Int32) (u_0 : Int32) (u_1 : Int32) (u_2 : Value) (u_3 : Value) (u_4 : Int32) (u_5 : Int32) (u_6 : Int32) (u_7 : Int32) (u_8 : Int32) (u_9 : Int32) (u_10 : Nat → Int64) (u_11 : Int32) (u_12 : Nat → Int32) (u_13 : Int64) (u_14 : Nat → Int32) (u_15 : Nat → Int32) (u_16 : Nat → Int32) (u_17 : Nat → Int32) (u_18 : Int32) (u_19 : Int32) (u_20 : Nat → Int32) (u_21 : Nat → Int32) (u_22 : Nat → Int32) (u_23 : Nat → Int32) (u_24 : Nat → Int32), ((-1) ≤ r.toInt ∧ r.toInt ≤ 11) ∧ (0 ≤ u_0.toInt ∧ u_0.toInt ≤ 240) ∧ (0 ≤ u_4.toInt ∧ u_4.toInt ≤ 39) ∧ (CO u_12) ∧ (WA u_14) ∧ (TE u_15) ∧ (CE u_16) ∧ (BU u_17) ∧ (0 ≤ u_18.toInt ∧ u_18.toInt ≤ 16) ∧ (0 ≤ u_19.toInt ∧ u_19.toInt ≤ 15) ∧ (r.toInt = (ordF ls 0 L (w, U, 0, -1)).2 ∧ ∀ s : OSt, (ordF ls 0 L (w, U, 0, -1)).1 = some s → RXw f_h0_world_rock_kind f_h0_world_rock_hard u_14 u_13 u_16 u_17 h0_world_crew_count u_12 g_ea h0_world_folk_listeners f_h0_world_folk_noiseColumn f_h0_world_folk_noiseLoud h0_world_folk_noises u_11 g_hc g_hl g_hs g_so g_we g_wl u_15 h0_world_lawCount h0_world_force s.1 ∧ RXu u_20 u_21 u_22 u_23 u_24 u_18 u_19 s.1 s.2.1 ∧ u_0.toInt = s.2.2.1) ∧ (DI u_20 u_21 u_22 u_23 u_24) → Q r (u_0, u_1, u_2, u_3, u_4, u_5, u_6, u_7, u_8, u_9, u_10, u_11, u_12, u_13, u_14, u_15, u_16, u_17, u_18, u_19, u_20, u_21, u_22, u_23, u_24)) : wp_X7_runOrders_T h0_world p0_clauses p0_length n_p0_heads f_p0_heads h0_asker_world h0_asker_law h0_asker_cell h0_asker_shaft h0_asker_kind h0_asker_done h0_asker_latest h0_asker_value n_p0_code f_p0_code f_h0_asker_stack h0_world_lawCount h0_world_force h0_world_folk_listeners h0_world_folk_noises h0_world_folk_hushed f_h0_world_folk_column h0_world_rock_dug f_h0_world_rock_hard f_h0_world_rock_water f_h0_world_term h0_world_crew_count f_h0_world_crew_cell f_h0_world_crew_buckets f_h0_world_rock_kind f_h0_world_laws t t_clauses t_length n_t_heads f_t_heads n_t_code f_t_code h0_diary_kept h0_diary_latest f_h0_diary_deed f_h0_diary_whose f_h0_diary_before f_h0_diary_bucketsBefore f_h0_diary_dayBefore f_h0_world_folk_noiseColumn f_h0_world_folk_noiseLoud Q := by
  unfold wp_X7_runOrders_T
  have k3 : Int32.toInt 0 = 0 := rfl
  have k4 : Int32.toInt (-1) = (-1) := (by decide)
  refine sl_X7_runOrders_T_12z h0_world p0_clauses p0_length n_p0_heads (f_p0_heads) n_p0_code (f_p0_code) h0_world_lawCount h0_world_force h0_world_folk_listeners h0_world_folk_noises (f_h0_world_rock_hard) h0_world_crew_count (f_h0_world_rock_kind) f_h0_world_laws t t_clauses t_length n_t_heads (f_t_heads) n_t_code (f_t_code) (f_h0_world_folk_noiseColumn) (f_h0_world_folk_noiseLoud) w U ls L c0 g_ea g_hc g_hl g_hs g_so g_we g_wl ⟨by omega, by omega⟩ ⟨by omega, by omega⟩ h_f_p0_heads h_f_p0_code ⟨by omega, by omega⟩ ⟨by omega, by omega⟩ ⟨by omega, by omega⟩ ⟨by omega, by omega⟩ h_f_h0_world_rock_hard ⟨by omega, by omega⟩ h_f_h0_world_rock_kind ⟨by omega, by omega⟩ ⟨by omega, by omega⟩ h_f_t_code h_f_h0_world_folk_noiseColumn h_f_h0_world_folk_noiseLoud (by assumption) (by omega) ⟨by omega, by omega, by omega, by omega, by omega, by omega⟩ e_3 e_4 (by omega) (by omega) (by omega) (by omega) hq _ (fun x1_0 x1_1 x1_2 x1_3 x1_4 x1_5 x1_6 x1_7 x1_8 x1_9 x1_10 x1_11 x1_12 x1_13 x1_14 x1_15 x1_16 x1_17 x1_18 x1_19 x1_20 x1_21 x1_22 x1_23 x1_24 x1_25 X2 => ?_) 1000000000000 0 0 (-1) h0_asker_world h0_asker_law h0_asker_cell h0_asker_shaft h0_asker_kind h0_asker_done h0_asker_latest h0_asker_value (f_h0_asker_stack) h0_world_folk_hushed (f_h0_world_folk_column) h0_world_rock_dug (f_h0_world_rock_water) (f_h0_world_term) (f_h0_world_crew_cell) (f_h0_world_crew_buckets) h0_diary_kept h0_diary_latest (f_h0_diary_deed) (f_h0_diary_whose) (f_h0_diary_before) (f_h0_diary_bucketsBefore) (f_h0_diary_dayBefore) ⟨(by decide), (by decide), ⟨by omega, by omega⟩, h_f_h0_world_folk_column, h_f_h0_world_rock_water, h_f_h0_world_term, h_f_h0_world_crew_cell, h_f_h0_world_crew_buckets, ⟨by omega, by omega⟩, ⟨by omega, by omega⟩, e_2, (by omega), ⟨(w, U, 0, -1), L, rfl, by show (0 : Int) + _ = _; omega, e_5, e_6, e_0, e_1, rfl, (show (-1 : Int32).toInt = -1 by decide)⟩⟩ (by omega)
  have j5 := X2.1
  have j6 := X2.2.1
  have j7 := X2.2.2.1
  have j8 := X2.2.2.2.1
  have j9 := X2.2.2.2.2.1
  have j10 := X2.2.2.2.2.2.1
  have j11 := X2.2.2.2.2.2.2.1
  have j12 := X2.2.2.2.2.2.2.2.1
  have j13 := X2.2.2.2.2.2.2.2.2.1
  have j14 := X2.2.2.2.2.2.2.2.2.2.1
  have j15 := X2.2.2.2.2.2.2.2.2.2.2.1
  have j16 := X2.2.2.2.2.2.2.2.2.2.2.2.1
  have j17 := X2.2.2.2.2.2.2.2.2.2.2.2.2.1
  have j18 := X2.2.2.2.2.2.2.2.2.2.2.2.2.2
  obtain ⟨s8, k8, hX8, hU8, hd8⟩ := j18
  exact hq _ _ _ _ _ _ _ _ _ _ _ _ _ _ _ _ _ _ _ _ _ _ _ _ _ _ ⟨(by decide), ⟨by omega, by omega⟩, ⟨by omega, by omega⟩, j8, j9, j10, j11, j12, ⟨by omega, by omega⟩, ⟨by omega, by omega⟩, ⟨by rw [k8]; rfl, fun s hs => by rw [k8] at hs; injection hs with hs; subst hs; exact ⟨hX8, hU8, hd8⟩⟩, j15⟩

