theorem o_X10_mayBeDugOn (a : Int32) (f_h0_crew_cell : Nat → Int32) (f_h0_rock_kind : Nat → Int32) (Q : Int32 → Prop) (h : (vp_in a 6 ∧ (wp_X6_endsAWay (f_h0_crew_cell a.toNatClampNeg) (f_h0_rock_kind) (fun (r_13 : Int32) => (if r_13 = 0 then (Q 1) else (Q 0)))))) : wp_X10_mayBeDugOn a f_h0_crew_cell f_h0_rock_kind Q := h
set_option maxRecDepth 100000 in
theorem s_X7_tryDig_Nz (a : Int32) (b : Int32) (h0_world : Nat) (h0_world_lawCount : Int32) (h0_world_force : Int32) (h0_world_crew_count : Int32) (f_h0_world_crew_cell : Nat → Int32) (h0_world_rock_dug : Int64) (f_h0_world_rock_kind : Nat → Int32) (f_h0_world_laws : Nat → Option Nat) (h0_asker_world : Value) (h0_asker_law : Value) (h0_asker_cell : Int32) (h0_asker_shaft : Int32) (h0_asker_kind : Int32) (f_h0_world_term : Nat → Int32) (f_h0_world_rock_hard : Nat → Int32) (h0_diary_kept : Int32) (h0_diary_latest : Int32) (f_h0_diary_deed : Nat → Int32) (f_h0_diary_whose : Nat → Int32) (f_h0_diary_before : Nat → Int32) (f_h0_diary_bucketsBefore : Nat → Int32) (f_h0_diary_dayBefore : Nat → Int32) {w : Nat → Int} {U : UL} {ls : Nat → List Cls} {g_wt : Nat → Int32} {g_bu : Nat → Int32} {g_co : Nat → Int32} {g_ea : Nat → Int32} {g_ls : Int32} {g_nc : Nat → Int32} {g_nl : Nat → Int32} {g_ns : Int32} {g_hu : Int32} {g_hc : Nat → Int32} {g_hl : Nat → Int32} {g_hs : Int32} {g_so : Nat → Int32} {g_we : Nat → Int32} {g_wl : Int32} (h_h0_world_lawCount : 0 ≤ h0_world_lawCount.toInt ∧ h0_world_lawCount.toInt ≤ 6) (h_h0_world_force : (-1) ≤ h0_world_force.toInt ∧ h0_world_force.toInt ≤ (-1)) (h_h0_world_crew_count : 0 ≤ h0_world_crew_count.toInt ∧ h0_world_crew_count.toInt ≤ 6) (h_f_h0_world_crew_cell : CE f_h0_world_crew_cell) (h_f_h0_world_rock_kind : KI f_h0_world_rock_kind) (h_h0_asker_cell : 0 ≤ h0_asker_cell.toInt ∧ h0_asker_cell.toInt ≤ 39) (h_f_h0_world_term : TE f_h0_world_term) (h_f_h0_world_rock_hard : HA f_h0_world_rock_hard) (h_h0_diary_kept : 0 ≤ h0_diary_kept.toInt ∧ h0_diary_kept.toInt ≤ 16) (h_h0_diary_latest : 0 ≤ h0_diary_latest.toInt ∧ h0_diary_latest.toInt ≤ 15) (e_0 : RXw f_h0_world_rock_kind f_h0_world_rock_hard g_wt h0_world_rock_dug f_h0_world_crew_cell g_bu h0_world_crew_count g_co g_ea g_ls g_nc g_nl g_ns g_hu g_hc g_hl g_hs g_so g_we g_wl f_h0_world_term h0_world_lawCount h0_world_force w) (e_1 : RXu f_h0_diary_deed f_h0_diary_whose f_h0_diary_before f_h0_diary_bucketsBefore f_h0_diary_dayBefore h0_diary_kept h0_diary_latest w U) (e_2 : DI f_h0_diary_deed f_h0_diary_whose f_h0_diary_before f_h0_diary_bucketsBefore f_h0_diary_dayBefore) {Q : Int32 → ((Nat → Int32) × Int64 × Value × Value × Int32 × Int32 × Int32 × (Nat → Int32) × Int32 × Int32 × (Nat → Int32) × (Nat → Int32) × (Nat → Int32) × (Nat → Int32) × (Nat → Int32)) → Prop} (hq : ∀ (r : Int32) (u_0 : Nat → Int32) (u_1 : Int64) (u_2 : Value) (u_3 : Value) (u_4 : Int32) (u_5 : Int32) (u_6 : Int32) (u_7 : Nat → Int32) (u_8 : Int32) (u_9 : Int32) (u_10 : Nat → Int32) (u_11 : Nat → Int32) (u_12 : Nat → Int32) (u_13 : Nat → Int32) (u_14 : Nat → Int32), ((-3) ≤ r.toInt ∧ r.toInt ≤ 2147483647) ∧ (CE u_0) ∧ (0 ≤ u_4.toInt ∧ u_4.toInt ≤ 39) ∧ (TE u_7) ∧ (0 ≤ u_8.toInt ∧ u_8.toInt ≤ 16) ∧ (0 ≤ u_9.toInt ∧ u_9.toInt ≤ 15) ∧ (r.toInt = digR (lawW w ls) w a.toInt b.toInt) ∧ (RXw f_h0_world_rock_kind f_h0_world_rock_hard g_wt u_1 u_0 g_bu h0_world_crew_count g_co g_ea g_ls g_nc g_nl g_ns g_hu g_hc g_hl g_hs g_so g_we g_wl u_7 h0_world_lawCount h0_world_force (digW (lawW w ls) w a.toInt b.toInt)) ∧ (RXu u_10 u_11 u_12 u_13 u_14 u_8 u_9 (digW (lawW w ls) w a.toInt b.toInt) (rmU (digR (lawW w ls) w a.toInt b.toInt) 0 w U)) ∧ (DI u_10 u_11 u_12 u_13 u_14) → Q r (u_0, u_1, u_2, u_3, u_4, u_5, u_6, u_7, u_8, u_9, u_10, u_11, u_12, u_13, u_14)) : wp_X7_tryDig_N a b h0_world h0_world_lawCount h0_world_force h0_world_crew_count f_h0_world_crew_cell h0_world_rock_dug f_h0_world_rock_kind f_h0_world_laws h0_asker_world h0_asker_law h0_asker_cell h0_asker_shaft h0_asker_kind f_h0_world_term f_h0_world_rock_hard h0_diary_kept h0_diary_latest f_h0_diary_deed f_h0_diary_whose f_h0_diary_before f_h0_diary_bucketsBefore f_h0_diary_dayBefore Q := by
  unfold wp_X7_tryDig_N
  have l_kd := RXw.kd e_0
  have l_hd := RXw.hd e_0
  have l_ce := RXw.ce e_0
  have l_cc : h0_world_crew_count.toInt = w 0 := RXw.cc e_0
  have l_te := RXw.te e_0
  have l_lc : h0_world_lawCount.toInt = w 5 := RXw.lc e_0
  have l_fo : h0_world_force.toInt = w 6 := RXw.fo e_0
  have hF : lawW w ls = none := lawW_n (by omega)
  by_cases c1 : b < 0
  · refine br1 c1 ?_
    have d2 := lt_z (x := (Int32.toInt b)) (y := 0) rfl rfl c1
    have k3 : Int32.toInt (-1) = (-1) := (by decide)
    have hR4 : digR (lawW w ls) w a.toInt b.toInt = (-1) := by unfold digR; (repeat' split) <;> omega
    exact hq _ _ _ _ _ _ _ _ _ _ _ _ _ _ _ _ ⟨(by decide), h_f_h0_world_crew_cell, ⟨by omega, by omega⟩, h_f_h0_world_term, ⟨by omega, by omega⟩, ⟨by omega, by omega⟩, hR4.symm, (by unfold digW; rw [if_pos (show digR (lawW w ls) w a.toInt b.toInt < 0 by omega)]; exact e_0), (by unfold digW rmU; rw [if_pos (show digR (lawW w ls) w a.toInt b.toInt < 0 by omega), if_pos (show digR (lawW w ls) w a.toInt b.toInt < 0 by omega)]; exact e_1), e_2⟩
  · refine br0 c1 ?_
    have d5 := nlt_z (x := (Int32.toInt b)) (y := 0) rfl rfl c1
    by_cases c6 : b ≤ 2
    · refine br1 c6 ?_
      have d7 := le_z (x := (Int32.toInt b)) (y := 2) rfl rfl c6
      refine o_X11_isWithin _ _ _ ?_
      by_cases c8 : a < 0
      · refine br1 c8 ?_
        have d9 := lt_z (x := (Int32.toInt a)) (y := 0) rfl rfl c8
        refine br1 (by decide) ?_
        have k10 : Int32.toInt (-2) = (-2) := (by decide)
        have hR11 : digR (lawW w ls) w a.toInt b.toInt = (-2) := by unfold digR; (repeat' split) <;> omega
        exact hq _ _ _ _ _ _ _ _ _ _ _ _ _ _ _ _ ⟨(by decide), h_f_h0_world_crew_cell, ⟨by omega, by omega⟩, h_f_h0_world_term, ⟨by omega, by omega⟩, ⟨by omega, by omega⟩, hR11.symm, (by unfold digW; rw [if_pos (show digR (lawW w ls) w a.toInt b.toInt < 0 by omega)]; exact e_0), (by unfold digW rmU; rw [if_pos (show digR (lawW w ls) w a.toInt b.toInt < 0 by omega), if_pos (show digR (lawW w ls) w a.toInt b.toInt < 0 by omega)]; exact e_1), e_2⟩
      · refine br0 c8 ?_
        have d12 := nlt_z (x := (Int32.toInt a)) (y := 0) rfl rfl c8
        by_cases c13 : h0_world_crew_count ≤ a
        · refine br1 c13 ?_
          have d14 := le_z (x := (Int32.toInt h0_world_crew_count)) (y := (Int32.toInt a)) rfl rfl c13
          refine br1 (by decide) ?_
          have k15 : Int32.toInt (-2) = (-2) := (by decide)
          have hR16 : digR (lawW w ls) w a.toInt b.toInt = (-2) := by unfold digR; (repeat' split) <;> omega
          exact hq _ _ _ _ _ _ _ _ _ _ _ _ _ _ _ _ ⟨(by decide), h_f_h0_world_crew_cell, ⟨by omega, by omega⟩, h_f_h0_world_term, ⟨by omega, by omega⟩, ⟨by omega, by omega⟩, hR16.symm, (by unfold digW; rw [if_pos (show digR (lawW w ls) w a.toInt b.toInt < 0 by omega)]; exact e_0), (by unfold digW rmU; rw [if_pos (show digR (lawW w ls) w a.toInt b.toInt < 0 by omega), if_pos (show digR (lawW w ls) w a.toInt b.toInt < 0 by omega)]; exact e_1), e_2⟩
        · refine br0 c13 ?_
          have d17 := nle_z (x := (Int32.toInt h0_world_crew_count)) (y := (Int32.toInt a)) rfl rfl c13
          refine br0 (by decide) ?_
          refine ⟨vpi (x := (Int32.toInt a)) rfl (by omega) (by omega), ?_⟩
          have g19 : 0 ≤ (Int32.toInt (f_h0_world_crew_cell a.toNatClampNeg)) ∧ (Int32.toInt (f_h0_world_crew_cell a.toNatClampNeg)) ≤ 39 := CE.at_0 h_f_h0_world_crew_cell (tnz (x := (Int32.toInt a)) rfl (by omega)) (by omega) (by omega)
          have t20 : (Int32.toInt (f_h0_world_crew_cell a.toNatClampNeg)) = w (10 + ((Int32.toInt a)).toNat) := RkW.z l_ce (i := ((Int32.toInt a)).toNat) rfl (by omega)
          refine z_neigh (z := w (10 + ((Int32.toInt a)).toNat)) (by omega) ⟨by omega, by omega⟩ ⟨by omega, by omega⟩ (fun r18 H21 => ?_)
          have j23 := H21.1
          have j22 := H21.2
          refine o_X10_mayBeDugOn _ _ _ _ ?_
          refine ⟨vpi (x := (Int32.toInt a)) rfl (by omega) (by omega), ?_⟩
          refine o_X6_endsAWay _ _ _ ?_
          refine ⟨vpi (x := (Int32.toInt (f_h0_world_crew_cell a.toNatClampNeg))) rfl (by omega) (by omega), ?_⟩
          by_cases c24 : (f_h0_world_rock_kind (f_h0_world_crew_cell a.toNatClampNeg).toNatClampNeg) = 2
          · refine br1 c24 ?_
            have g25 : 0 ≤ (Int32.toInt (f_h0_world_rock_kind (f_h0_world_crew_cell a.toNatClampNeg).toNatClampNeg)) ∧ (Int32.toInt (f_h0_world_rock_kind (f_h0_world_crew_cell a.toNatClampNeg).toNatClampNeg)) ≤ 3 := KI.at_0 h_f_h0_world_rock_kind (tnz (x := (Int32.toInt (f_h0_world_crew_cell a.toNatClampNeg))) rfl (by omega)) (by omega) (by omega)
            have t26 : (Int32.toInt (f_h0_world_rock_kind (f_h0_world_crew_cell a.toNatClampNeg).toNatClampNeg)) = w (113 + (w (10 + ((Int32.toInt a)).toNat)).toNat) := RkW.z l_kd (i := (w (10 + ((Int32.toInt a)).toNat)).toNat) (show Int.toNat _ = Int.toNat _ by omega) (by omega)
            have d27 := eq_z (x := (Int32.toInt (f_h0_world_rock_kind (f_h0_world_crew_cell a.toNatClampNeg).toNatClampNeg))) (y := 2) rfl rfl c24
            refine br0 (by decide) ?_
            refine br1 (by decide) ?_
            have k28 : Int32.toInt (-3) = (-3) := (by decide)
            have hR29 : digR (lawW w ls) w a.toInt b.toInt = (-3) := by unfold digR; rw [← j22]; (repeat' split) <;> omega
            exact hq _ _ _ _ _ _ _ _ _ _ _ _ _ _ _ _ ⟨(by decide), h_f_h0_world_crew_cell, ⟨by omega, by omega⟩, h_f_h0_world_term, ⟨by omega, by omega⟩, ⟨by omega, by omega⟩, hR29.symm, (by unfold digW; rw [if_pos (show digR (lawW w ls) w a.toInt b.toInt < 0 by omega)]; exact e_0), (by unfold digW rmU; rw [if_pos (show digR (lawW w ls) w a.toInt b.toInt < 0 by omega), if_pos (show digR (lawW w ls) w a.toInt b.toInt < 0 by omega)]; exact e_1), e_2⟩
          · refine br0 c24 ?_
            have g30 : 0 ≤ (Int32.toInt (f_h0_world_rock_kind (f_h0_world_crew_cell a.toNatClampNeg).toNatClampNeg)) ∧ (Int32.toInt (f_h0_world_rock_kind (f_h0_world_crew_cell a.toNatClampNeg).toNatClampNeg)) ≤ 3 := KI.at_0 h_f_h0_world_rock_kind (tnz (x := (Int32.toInt (f_h0_world_crew_cell a.toNatClampNeg))) rfl (by omega)) (by omega) (by omega)
            have t31 : (Int32.toInt (f_h0_world_rock_kind (f_h0_world_crew_cell a.toNatClampNeg).toNatClampNeg)) = w (113 + (w (10 + ((Int32.toInt a)).toNat)).toNat) := RkW.z l_kd (i := (w (10 + ((Int32.toInt a)).toNat)).toNat) (show Int.toNat _ = Int.toNat _ by omega) (by omega)
            have d32 := ne_z (x := (Int32.toInt (f_h0_world_rock_kind (f_h0_world_crew_cell a.toNatClampNeg).toNatClampNeg))) (y := 2) rfl rfl c24
            refine ⟨vpi (x := (Int32.toInt (f_h0_world_crew_cell a.toNatClampNeg))) rfl (by omega) (by omega), ?_⟩
            by_cases c33 : (f_h0_world_rock_kind (f_h0_world_crew_cell a.toNatClampNeg).toNatClampNeg) = 3
            · refine br1 c33 ?_
              have d34 := eq_z (x := (Int32.toInt (f_h0_world_rock_kind (f_h0_world_crew_cell a.toNatClampNeg).toNatClampNeg))) (y := 3) rfl rfl c33
              refine br0 (by decide) ?_
              refine br1 (by decide) ?_
              have k35 : Int32.toInt (-3) = (-3) := (by decide)
              have hR36 : digR (lawW w ls) w a.toInt b.toInt = (-3) := by unfold digR; rw [← j22]; (repeat' split) <;> omega
              exact hq _ _ _ _ _ _ _ _ _ _ _ _ _ _ _ _ ⟨(by decide), h_f_h0_world_crew_cell, ⟨by omega, by omega⟩, h_f_h0_world_term, ⟨by omega, by omega⟩, ⟨by omega, by omega⟩, hR36.symm, (by unfold digW; rw [if_pos (show digR (lawW w ls) w a.toInt b.toInt < 0 by omega)]; exact e_0), (by unfold digW rmU; rw [if_pos (show digR (lawW w ls) w a.toInt b.toInt < 0 by omega), if_pos (show digR (lawW w ls) w a.toInt b.toInt < 0 by omega)]; exact e_1), e_2⟩
            · refine br0 c33 ?_
              have d37 := ne_z (x := (Int32.toInt (f_h0_world_rock_kind (f_h0_world_crew_cell a.toNatClampNeg).toNatClampNeg))) (y := 3) rfl rfl c33
              refine br1 (by decide) ?_
              refine br0 (by decide) ?_
              by_cases c38 : r18 = (-1)
              · refine br1 c38 ?_
                have d39 := eq_z (x := (Int32.toInt r18)) (y := (-1)) rfl (by decide) c38
                have k40 : Int32.toInt (-3) = (-3) := (by decide)
                have hR41 : digR (lawW w ls) w a.toInt b.toInt = (-3) := by unfold digR; rw [← j22]; (repeat' split) <;> omega
                exact hq _ _ _ _ _ _ _ _ _ _ _ _ _ _ _ _ ⟨(by decide), h_f_h0_world_crew_cell, ⟨by omega, by omega⟩, h_f_h0_world_term, ⟨by omega, by omega⟩, ⟨by omega, by omega⟩, hR41.symm, (by unfold digW; rw [if_pos (show digR (lawW w ls) w a.toInt b.toInt < 0 by omega)]; exact e_0), (by unfold digW rmU; rw [if_pos (show digR (lawW w ls) w a.toInt b.toInt < 0 by omega), if_pos (show digR (lawW w ls) w a.toInt b.toInt < 0 by omega)]; exact e_1), e_2⟩
              · refine br0 c38 ?_
                have d42 := ne_z (x := (Int32.toInt r18)) (y := (-1)) rfl (by decide) c38
                refine s_X6_isDugz r18 h0_world_rock_dug ⟨by omega, by omega⟩ (RXw.dg e_0) (fun r43 H44 => ?_)
                have j45 := H44.1
                have j46 := H44.2
                by_cases c47 : r43 = 0
                · refine br1 c47 ?_
                  have d48 := eq_z (x := (Int32.toInt r43)) (y := 0) rfl rfl c47
                  refine o_X10_lawInForce_N _ _ _ _ ?_
                  refine o_X10_lawOf_N _ _ _ _ ?_
                  refine br1 (z_lt (x := (Int32.toInt h0_world_force)) (y := 0) rfl rfl (by omega)) ?_
                  refine o_X0_turnTo_N _ ?_
                  refine z_cdigsN (RXw.wk e_0) ⟨by omega, by omega⟩  (fun r49 H50 => ?_)
                  have j51 := H50.1
                  have j52 := H50.2
                  rw [← hF] at j52
                  refine un3_i ?_
                  by_cases c53 : 9999 < ((f_h0_world_term (0 : Int32).toNatClampNeg) + r49)
                  · refine br1 c53 ?_
                    have g54 : 0 ≤ (Int32.toInt (f_h0_world_term (0 : Int32).toNatClampNeg)) ∧ (Int32.toInt (f_h0_world_term (0 : Int32).toNatClampNeg)) ≤ 9999 := TE.at_0 h_f_h0_world_term (rfl : ((0 : Nat) : Int) = 0) (by omega) (by omega)
                    have t55 : (Int32.toInt (f_h0_world_term (0 : Int32).toNatClampNeg)) = w (7) := RkW.z l_te (i := 0) rfl (by omega)
                    have t56 : (Int32.toInt ((f_h0_world_term (0 : Int32).toNatClampNeg) + r49)) = (Int32.toInt (f_h0_world_term (0 : Int32).toNatClampNeg)) + (Int32.toInt r49) := add_z rfl rfl (by omega) (by omega)
                    have d57 := lt_z (x := 9999) (y := (Int32.toInt ((f_h0_world_term (0 : Int32).toNatClampNeg) + r49))) rfl rfl c53
                    have k58 : Int32.toInt (-3) = (-3) := (by decide)
                    have g59 : 0 ≤ (Int32.toInt (f_h0_world_rock_kind r18.toNatClampNeg)) ∧ (Int32.toInt (f_h0_world_rock_kind r18.toNatClampNeg)) ≤ 3 := KI.at_0 h_f_h0_world_rock_kind (tnz (x := (Int32.toInt r18)) rfl (by omega)) (by omega) (by omega)
                    have t60 : (Int32.toInt (f_h0_world_rock_kind r18.toNatClampNeg)) = w (113 + ((Int32.toInt r18)).toNat) := RkW.z l_kd (i := ((Int32.toInt r18)).toNat) rfl (by omega)
                    have hR61 : digR (lawW w ls) w a.toInt b.toInt = (-3) := by unfold digR; rw [← j22]; (repeat' split) <;> omega
                    exact hq _ _ _ _ _ _ _ _ _ _ _ _ _ _ _ _ ⟨(by decide), h_f_h0_world_crew_cell, ⟨by omega, by omega⟩, h_f_h0_world_term, ⟨by omega, by omega⟩, ⟨by omega, by omega⟩, hR61.symm, (by unfold digW; rw [if_pos (show digR (lawW w ls) w a.toInt b.toInt < 0 by omega)]; exact e_0), (by unfold digW rmU; rw [if_pos (show digR (lawW w ls) w a.toInt b.toInt < 0 by omega), if_pos (show digR (lawW w ls) w a.toInt b.toInt < 0 by omega)]; exact e_1), e_2⟩
                  · refine br0 c53 ?_
                    have g62 : 0 ≤ (Int32.toInt (f_h0_world_term (0 : Int32).toNatClampNeg)) ∧ (Int32.toInt (f_h0_world_term (0 : Int32).toNatClampNeg)) ≤ 9999 := TE.at_0 h_f_h0_world_term (rfl : ((0 : Nat) : Int) = 0) (by omega) (by omega)
                    have t63 : (Int32.toInt (f_h0_world_term (0 : Int32).toNatClampNeg)) = w (7) := RkW.z l_te (i := 0) rfl (by omega)
                    have t64 : (Int32.toInt ((f_h0_world_term (0 : Int32).toNatClampNeg) + r49)) = (Int32.toInt (f_h0_world_term (0 : Int32).toNatClampNeg)) + (Int32.toInt r49) := add_z rfl rfl (by omega) (by omega)
                    have d65 := nlt_z (x := 9999) (y := (Int32.toInt ((f_h0_world_term (0 : Int32).toNatClampNeg) + r49))) rfl rfl c53
                    refine z_cpassN (RXw.wk e_0) ⟨by omega, by omega⟩  ⟨by omega, by omega⟩ (fun r66 x67 x68 x69 H70 => ?_)
                    have j71 := H70.1
                    have j72 := H70.2.1
                    rw [← hF] at j72
                    have j73 := H70.2.2
                    refine un3_i ?_
                    by_cases c74 : r66 = 0
                    · refine br1 c74 ?_
                      have d75 := eq_z (x := (Int32.toInt r66)) (y := 0) rfl rfl c74
                      have k76 : Int32.toInt (-3) = (-3) := (by decide)
                      have hR77 : digR (lawW w ls) w a.toInt b.toInt = (-3) := by unfold digR; rw [← j22]; (repeat' split) <;> omega
                      exact hq _ _ _ _ _ _ _ _ _ _ _ _ _ _ _ _ ⟨(by decide), h_f_h0_world_crew_cell, ⟨by omega, by omega⟩, h_f_h0_world_term, ⟨by omega, by omega⟩, ⟨by omega, by omega⟩, hR77.symm, (by unfold digW; rw [if_pos (show digR (lawW w ls) w a.toInt b.toInt < 0 by omega)]; exact e_0), (by unfold digW rmU; rw [if_pos (show digR (lawW w ls) w a.toInt b.toInt < 0 by omega), if_pos (show digR (lawW w ls) w a.toInt b.toInt < 0 by omega)]; exact e_1), e_2⟩
                    · refine br0 c74 ?_
                      have d78 := ne_z (x := (Int32.toInt r66)) (y := 0) rfl rfl c74
                      have k79 : Int32.toInt 0 = 0 := rfl
                      refine s_X2_addz 0 a (f_h0_world_crew_cell a.toNatClampNeg) 0 (f_h0_world_term (0 : Int32).toNatClampNeg) h0_diary_kept h0_diary_latest (f_h0_diary_deed) (f_h0_diary_whose) (f_h0_diary_before) (f_h0_diary_bucketsBefore) (f_h0_diary_dayBefore) (w' := (digC w (Int32.toInt a) (Int32.toInt r18) (Int32.toInt r49))) ⟨by omega, by omega⟩ ⟨by omega, by omega⟩ e_2 (by unfold DR; omega) e_1 (fun j _ _ => by rw [show (Int32.toInt (f_h0_world_crew_cell a.toNatClampNeg)) = w (10 + ((Int32.toInt a)).toNat) by omega, show (Int32.toInt (f_h0_world_term (0 : Int32).toNatClampNeg)) = w (7) by omega]; exact inv_dig (by omega) j) (fun q => absurd q (by decide)) (fun u80 u81 u82 u83 u84 u85 u86 H87 => ?_)
                      have j88 := H87.2.2.1
                      have j89 := H87.2.2.2
                      have j90 := H87.1
                      have j91 := H87.2.1
                      refine un7_i ?_
                      refine o_X6_mark _ _ _ ?_
                      refine ⟨vpi (x := (Int32.toInt a)) rfl (by omega) (by omega), ?_⟩
                      have t92 := i32_hi r18
                      have R93 : CE (upd f_h0_world_crew_cell a.toNatClampNeg r18) := CE.up_0 h_f_h0_world_crew_cell (tnz (x := (Int32.toInt a)) rfl (by omega)) (by omega) (by omega) (w := (Int32.toInt r18)) rfl (by omega) (by omega)
                      have R94 : TE (upd f_h0_world_term 0 ((f_h0_world_term (0 : Int32).toNatClampNeg) + r49)) := TE.up_0 h_f_h0_world_term (rfl : ((0 : Nat) : Int) = 0) (by omega) (by omega) (w := (Int32.toInt ((f_h0_world_term (0 : Int32).toNatClampNeg) + r49))) rfl (by omega) (by omega)
                      have hR95 : digR (lawW w ls) w a.toInt b.toInt = (Int32.toInt r18) := by unfold digR; rw [← j22]; (repeat' split) <;> omega
                      exact hq _ _ _ _ _ _ _ _ _ _ _ _ _ _ _ _ ⟨⟨by omega, by omega⟩, R93, ⟨by omega, by omega⟩, R94, ⟨by omega, by omega⟩, ⟨by omega, by omega⟩, hR95.symm, (by unfold digW; rw [if_neg (show ¬ digR (lawW w ls) w a.toInt b.toInt < 0 by omega)]; unfold digO; rw [← j22]; rw [← j52]; unfold digC; exact RXw.u_ce (RXw.u_dgm (RXw.u_te e_0 (k := 0) (i := 0) rfl (by decide) (by omega)) (by omega) (by omega)) rfl (by omega) rfl), (by unfold digW rmU; rw [if_neg (show ¬ digR (lawW w ls) w a.toInt b.toInt < 0 by omega), if_neg (show ¬ digR (lawW w ls) w a.toInt b.toInt < 0 by omega)]; unfold digO; rw [← j22]; rw [← j52]; exact j89), j88⟩
                · refine br0 c47 ?_
                  have d96 := ne_z (x := (Int32.toInt r43)) (y := 0) rfl rfl c47
                  have k97 : Int32.toInt (-3) = (-3) := (by decide)
                  have hR98 : digR (lawW w ls) w a.toInt b.toInt = (-3) := by unfold digR; rw [← j22]; (repeat' split) <;> omega
                  exact hq _ _ _ _ _ _ _ _ _ _ _ _ _ _ _ _ ⟨(by decide), h_f_h0_world_crew_cell, ⟨by omega, by omega⟩, h_f_h0_world_term, ⟨by omega, by omega⟩, ⟨by omega, by omega⟩, hR98.symm, (by unfold digW; rw [if_pos (show digR (lawW w ls) w a.toInt b.toInt < 0 by omega)]; exact e_0), (by unfold digW rmU; rw [if_pos (show digR (lawW w ls) w a.toInt b.toInt < 0 by omega), if_pos (show digR (lawW w ls) w a.toInt b.toInt < 0 by omega)]; exact e_1), e_2⟩
    · refine br0 c6 ?_
      have d99 := nle_z (x := (Int32.toInt b)) (y := 2) rfl rfl c6
      have k100 : Int32.toInt (-1) = (-1) := (by decide)
      have hR101 : digR (lawW w ls) w a.toInt b.toInt = (-1) := by unfold digR; (repeat' split) <;> omega
      exact hq _ _ _ _ _ _ _ _ _ _ _ _ _ _ _ _ ⟨(by decide), h_f_h0_world_crew_cell, ⟨by omega, by omega⟩, h_f_h0_world_term, ⟨by omega, by omega⟩, ⟨by omega, by omega⟩, hR101.symm, (by unfold digW; rw [if_pos (show digR (lawW w ls) w a.toInt b.toInt < 0 by omega)]; exact e_0), (by unfold digW rmU; rw [if_pos (show digR (lawW w ls) w a.toInt b.toInt < 0 by omega), if_pos (show digR (lawW w ls) w a.toInt b.toInt < 0 by omega)]; exact e_1), e_2⟩


set_option maxRecDepth 100000 in
theorem s_X7_tryDig_Tz (a : Int32) (b : Int32) (h0_world : Nat) (h0_world_lawCount : Int32) (h0_world_force : Int32) (h0_world_crew_count : Int32) (f_h0_world_crew_cell : Nat → Int32) (h0_world_rock_dug : Int64) (f_h0_world_rock_kind : Nat → Int32) (f_h0_world_laws : Nat → Option Nat) (h0_asker_world : Value) (h0_asker_law : Value) (h0_asker_cell : Int32) (h0_asker_shaft : Int32) (h0_asker_kind : Int32) (h0_asker_done : Int32) (h0_asker_latest : Int32) (h0_asker_value : Int32) (f_h0_world_term : Nat → Int32) (f_h0_world_rock_hard : Nat → Int32) (t : Nat) (t_clauses : Int32) (t_length : Int32) (n_t_heads : Nat) (f_t_heads : Nat → Int32) (n_t_code : Nat) (f_t_code : Nat → Int32) (f_h0_asker_stack : Nat → Int64) (h0_world_folk_listeners : Int32) (f_h0_world_folk_column : Nat → Int32) (f_h0_world_rock_water : Nat → Int32) (f_h0_world_crew_buckets : Nat → Int32) (h0_diary_kept : Int32) (h0_diary_latest : Int32) (f_h0_diary_deed : Nat → Int32) (f_h0_diary_whose : Nat → Int32) (f_h0_diary_before : Nat → Int32) (f_h0_diary_bucketsBefore : Nat → Int32) (f_h0_diary_dayBefore : Nat → Int32) {w : Nat → Int} {U : UL} {ls : Nat → List Cls} {g_ea : Nat → Int32} {g_nc : Nat → Int32} {g_nl : Nat → Int32} {g_ns : Int32} {g_hu : Int32} {g_hc : Nat → Int32} {g_hl : Nat → Int32} {g_hs : Int32} {g_so : Nat → Int32} {g_we : Nat → Int32} {g_wl : Int32} (h_h0_world_lawCount : 0 ≤ h0_world_lawCount.toInt ∧ h0_world_lawCount.toInt ≤ 6) (h_h0_world_force : 0 ≤ h0_world_force.toInt ∧ h0_world_force.toInt ≤ 5) (h_h0_world_crew_count : 0 ≤ h0_world_crew_count.toInt ∧ h0_world_crew_count.toInt ≤ 6) (h_f_h0_world_crew_cell : CE f_h0_world_crew_cell) (h_f_h0_world_rock_kind : KI f_h0_world_rock_kind) (h_h0_asker_cell : 0 ≤ h0_asker_cell.toInt ∧ h0_asker_cell.toInt ≤ 39) (h_f_h0_world_term : TE f_h0_world_term) (h_f_h0_world_rock_hard : HA f_h0_world_rock_hard) (h_t_clauses : 0 ≤ t_clauses.toInt ∧ t_clauses.toInt ≤ 12) (h_t_length : 0 ≤ t_length.toInt ∧ t_length.toInt ≤ 400) (h_f_t_code : CD f_t_code) (h_h0_world_folk_listeners : 0 ≤ h0_world_folk_listeners.toInt ∧ h0_world_folk_listeners.toInt ≤ 5) (h_f_h0_world_folk_column : CO f_h0_world_folk_column) (h_f_h0_world_rock_water : WA f_h0_world_rock_water) (h_f_h0_world_crew_buckets : BU f_h0_world_crew_buckets) (h_h0_diary_kept : 0 ≤ h0_diary_kept.toInt ∧ h0_diary_kept.toInt ≤ 16) (h_h0_diary_latest : 0 ≤ h0_diary_latest.toInt ∧ h0_diary_latest.toInt ≤ 15) (e_0 : RXw f_h0_world_rock_kind f_h0_world_rock_hard f_h0_world_rock_water h0_world_rock_dug f_h0_world_crew_cell f_h0_world_crew_buckets h0_world_crew_count f_h0_world_folk_column g_ea h0_world_folk_listeners g_nc g_nl g_ns g_hu g_hc g_hl g_hs g_so g_we g_wl f_h0_world_term h0_world_lawCount h0_world_force w) (e_1 : RXu f_h0_diary_deed f_h0_diary_whose f_h0_diary_before f_h0_diary_bucketsBefore f_h0_diary_dayBefore h0_diary_kept h0_diary_latest w U) (e_2 : DI f_h0_diary_deed f_h0_diary_whose f_h0_diary_before f_h0_diary_bucketsBefore f_h0_diary_dayBefore) (e_3 : XTx t_clauses t_length n_t_heads f_t_heads n_t_code f_t_code (ls (w 6).toNat)) (e_4 : ∀ q ∈ ls (w 6).toNat, okC q) (e_5 : n_t_heads < 100000) (e_6 : t_length.toInt ≤ (n_t_code : Int)) (e_7 : h0_world_force.toInt < h0_world_lawCount.toInt) (e_8 : f_h0_world_laws (Int32.toNatClampNeg h0_world_force) = some t) {Q : Int32 → ((Nat → Int32) × Int64 × Value × Value × Int32 × Int32 × Int32 × Int32 × (Nat → Int32) × (Nat → Int64) × Int32 × Int32 × (Nat → Int32) × (Nat → Int32) × (Nat → Int32) × (Nat → Int32) × (Nat → Int32)) → Prop} (hq : ∀ (r : Int32) (u_0 : Nat → Int32) (u_1 : Int64) (u_2 : Value) (u_3 : Value) (u_4 : Int32) (u_5 : Int32) (u_6 : Int32) (u_7 : Int32) (u_8 : Nat → Int32) (u_9 : Nat → Int64) (u_10 : Int32) (u_11 : Int32) (u_12 : Nat → Int32) (u_13 : Nat → Int32) (u_14 : Nat → Int32) (u_15 : Nat → Int32) (u_16 : Nat → Int32), ((-3) ≤ r.toInt ∧ r.toInt ≤ 2147483647) ∧ (CE u_0) ∧ (0 ≤ u_4.toInt ∧ u_4.toInt ≤ 39) ∧ (TE u_8) ∧ (0 ≤ u_10.toInt ∧ u_10.toInt ≤ 16) ∧ (0 ≤ u_11.toInt ∧ u_11.toInt ≤ 15) ∧ (r.toInt = digR (lawW w ls) w a.toInt b.toInt) ∧ (RXw f_h0_world_rock_kind f_h0_world_rock_hard f_h0_world_rock_water u_1 u_0 f_h0_world_crew_buckets h0_world_crew_count f_h0_world_folk_column g_ea h0_world_folk_listeners g_nc g_nl g_ns g_hu g_hc g_hl g_hs g_so g_we g_wl u_8 h0_world_lawCount h0_world_force (digW (lawW w ls) w a.toInt b.toInt)) ∧ (RXu u_12 u_13 u_14 u_15 u_16 u_10 u_11 (digW (lawW w ls) w a.toInt b.toInt) (rmU (digR (lawW w ls) w a.toInt b.toInt) 0 w U)) ∧ (DI u_12 u_13 u_14 u_15 u_16) → Q r (u_0, u_1, u_2, u_3, u_4, u_5, u_6, u_7, u_8, u_9, u_10, u_11, u_12, u_13, u_14, u_15, u_16)) : wp_X7_tryDig_T a b h0_world h0_world_lawCount h0_world_force h0_world_crew_count f_h0_world_crew_cell h0_world_rock_dug f_h0_world_rock_kind f_h0_world_laws h0_asker_world h0_asker_law h0_asker_cell h0_asker_shaft h0_asker_kind h0_asker_done h0_asker_latest h0_asker_value f_h0_world_term f_h0_world_rock_hard t t_clauses t_length n_t_heads f_t_heads n_t_code f_t_code f_h0_asker_stack h0_world_folk_listeners f_h0_world_folk_column f_h0_world_rock_water f_h0_world_crew_buckets h0_diary_kept h0_diary_latest f_h0_diary_deed f_h0_diary_whose f_h0_diary_before f_h0_diary_bucketsBefore f_h0_diary_dayBefore Q := by
  unfold wp_X7_tryDig_T
  have l_kd := RXw.kd e_0
  have l_hd := RXw.hd e_0
  have l_wt := RXw.wt e_0
  have l_ce := RXw.ce e_0
  have l_bu := RXw.bu e_0
  have l_cc : h0_world_crew_count.toInt = w 0 := RXw.cc e_0
  have l_co := RXw.co e_0
  have l_ls : h0_world_folk_listeners.toInt = w 1 := RXw.ls e_0
  have l_te := RXw.te e_0
  have l_lc : h0_world_lawCount.toInt = w 5 := RXw.lc e_0
  have l_fo : h0_world_force.toInt = w 6 := RXw.fo e_0
  have hF : lawW w ls = some (ls (w 6).toNat) := lawW_s (by omega)
  by_cases c1 : b < 0
  · refine br1 c1 ?_
    have d2 := lt_z (x := (Int32.toInt b)) (y := 0) rfl rfl c1
    have k3 : Int32.toInt (-1) = (-1) := (by decide)
    have hR4 : digR (lawW w ls) w a.toInt b.toInt = (-1) := by unfold digR; (repeat' split) <;> omega
    exact hq _ _ _ _ _ _ _ _ _ _ _ _ _ _ _ _ _ _ ⟨(by decide), h_f_h0_world_crew_cell, ⟨by omega, by omega⟩, h_f_h0_world_term, ⟨by omega, by omega⟩, ⟨by omega, by omega⟩, hR4.symm, (by unfold digW; rw [if_pos (show digR (lawW w ls) w a.toInt b.toInt < 0 by omega)]; exact e_0), (by unfold digW rmU; rw [if_pos (show digR (lawW w ls) w a.toInt b.toInt < 0 by omega), if_pos (show digR (lawW w ls) w a.toInt b.toInt < 0 by omega)]; exact e_1), e_2⟩
  · refine br0 c1 ?_
    have d5 := nlt_z (x := (Int32.toInt b)) (y := 0) rfl rfl c1
    by_cases c6 : b ≤ 2
    · refine br1 c6 ?_
      have d7 := le_z (x := (Int32.toInt b)) (y := 2) rfl rfl c6
      refine o_X11_isWithin _ _ _ ?_
      by_cases c8 : a < 0
      · refine br1 c8 ?_
        have d9 := lt_z (x := (Int32.toInt a)) (y := 0) rfl rfl c8
        refine br1 (by decide) ?_
        have k10 : Int32.toInt (-2) = (-2) := (by decide)
        have hR11 : digR (lawW w ls) w a.toInt b.toInt = (-2) := by unfold digR; (repeat' split) <;> omega
        exact hq _ _ _ _ _ _ _ _ _ _ _ _ _ _ _ _ _ _ ⟨(by decide), h_f_h0_world_crew_cell, ⟨by omega, by omega⟩, h_f_h0_world_term, ⟨by omega, by omega⟩, ⟨by omega, by omega⟩, hR11.symm, (by unfold digW; rw [if_pos (show digR (lawW w ls) w a.toInt b.toInt < 0 by omega)]; exact e_0), (by unfold digW rmU; rw [if_pos (show digR (lawW w ls) w a.toInt b.toInt < 0 by omega), if_pos (show digR (lawW w ls) w a.toInt b.toInt < 0 by omega)]; exact e_1), e_2⟩
      · refine br0 c8 ?_
        have d12 := nlt_z (x := (Int32.toInt a)) (y := 0) rfl rfl c8
        by_cases c13 : h0_world_crew_count ≤ a
        · refine br1 c13 ?_
          have d14 := le_z (x := (Int32.toInt h0_world_crew_count)) (y := (Int32.toInt a)) rfl rfl c13
          refine br1 (by decide) ?_
          have k15 : Int32.toInt (-2) = (-2) := (by decide)
          have hR16 : digR (lawW w ls) w a.toInt b.toInt = (-2) := by unfold digR; (repeat' split) <;> omega
          exact hq _ _ _ _ _ _ _ _ _ _ _ _ _ _ _ _ _ _ ⟨(by decide), h_f_h0_world_crew_cell, ⟨by omega, by omega⟩, h_f_h0_world_term, ⟨by omega, by omega⟩, ⟨by omega, by omega⟩, hR16.symm, (by unfold digW; rw [if_pos (show digR (lawW w ls) w a.toInt b.toInt < 0 by omega)]; exact e_0), (by unfold digW rmU; rw [if_pos (show digR (lawW w ls) w a.toInt b.toInt < 0 by omega), if_pos (show digR (lawW w ls) w a.toInt b.toInt < 0 by omega)]; exact e_1), e_2⟩
        · refine br0 c13 ?_
          have d17 := nle_z (x := (Int32.toInt h0_world_crew_count)) (y := (Int32.toInt a)) rfl rfl c13
          refine br0 (by decide) ?_
          refine ⟨vpi (x := (Int32.toInt a)) rfl (by omega) (by omega), ?_⟩
          have g19 : 0 ≤ (Int32.toInt (f_h0_world_crew_cell a.toNatClampNeg)) ∧ (Int32.toInt (f_h0_world_crew_cell a.toNatClampNeg)) ≤ 39 := CE.at_0 h_f_h0_world_crew_cell (tnz (x := (Int32.toInt a)) rfl (by omega)) (by omega) (by omega)
          have t20 : (Int32.toInt (f_h0_world_crew_cell a.toNatClampNeg)) = w (10 + ((Int32.toInt a)).toNat) := RkW.z l_ce (i := ((Int32.toInt a)).toNat) rfl (by omega)
          refine z_neigh (z := w (10 + ((Int32.toInt a)).toNat)) (by omega) ⟨by omega, by omega⟩ ⟨by omega, by omega⟩ (fun r18 H21 => ?_)
          have j23 := H21.1
          have j22 := H21.2
          refine o_X10_mayBeDugOn _ _ _ _ ?_
          refine ⟨vpi (x := (Int32.toInt a)) rfl (by omega) (by omega), ?_⟩
          refine o_X6_endsAWay _ _ _ ?_
          refine ⟨vpi (x := (Int32.toInt (f_h0_world_crew_cell a.toNatClampNeg))) rfl (by omega) (by omega), ?_⟩
          by_cases c24 : (f_h0_world_rock_kind (f_h0_world_crew_cell a.toNatClampNeg).toNatClampNeg) = 2
          · refine br1 c24 ?_
            have g25 : 0 ≤ (Int32.toInt (f_h0_world_rock_kind (f_h0_world_crew_cell a.toNatClampNeg).toNatClampNeg)) ∧ (Int32.toInt (f_h0_world_rock_kind (f_h0_world_crew_cell a.toNatClampNeg).toNatClampNeg)) ≤ 3 := KI.at_0 h_f_h0_world_rock_kind (tnz (x := (Int32.toInt (f_h0_world_crew_cell a.toNatClampNeg))) rfl (by omega)) (by omega) (by omega)
            have t26 : (Int32.toInt (f_h0_world_rock_kind (f_h0_world_crew_cell a.toNatClampNeg).toNatClampNeg)) = w (113 + (w (10 + ((Int32.toInt a)).toNat)).toNat) := RkW.z l_kd (i := (w (10 + ((Int32.toInt a)).toNat)).toNat) (show Int.toNat _ = Int.toNat _ by omega) (by omega)
            have d27 := eq_z (x := (Int32.toInt (f_h0_world_rock_kind (f_h0_world_crew_cell a.toNatClampNeg).toNatClampNeg))) (y := 2) rfl rfl c24
            refine br0 (by decide) ?_
            refine br1 (by decide) ?_
            have k28 : Int32.toInt (-3) = (-3) := (by decide)
            have hR29 : digR (lawW w ls) w a.toInt b.toInt = (-3) := by unfold digR; rw [← j22]; (repeat' split) <;> omega
            exact hq _ _ _ _ _ _ _ _ _ _ _ _ _ _ _ _ _ _ ⟨(by decide), h_f_h0_world_crew_cell, ⟨by omega, by omega⟩, h_f_h0_world_term, ⟨by omega, by omega⟩, ⟨by omega, by omega⟩, hR29.symm, (by unfold digW; rw [if_pos (show digR (lawW w ls) w a.toInt b.toInt < 0 by omega)]; exact e_0), (by unfold digW rmU; rw [if_pos (show digR (lawW w ls) w a.toInt b.toInt < 0 by omega), if_pos (show digR (lawW w ls) w a.toInt b.toInt < 0 by omega)]; exact e_1), e_2⟩
          · refine br0 c24 ?_
            have g30 : 0 ≤ (Int32.toInt (f_h0_world_rock_kind (f_h0_world_crew_cell a.toNatClampNeg).toNatClampNeg)) ∧ (Int32.toInt (f_h0_world_rock_kind (f_h0_world_crew_cell a.toNatClampNeg).toNatClampNeg)) ≤ 3 := KI.at_0 h_f_h0_world_rock_kind (tnz (x := (Int32.toInt (f_h0_world_crew_cell a.toNatClampNeg))) rfl (by omega)) (by omega) (by omega)
            have t31 : (Int32.toInt (f_h0_world_rock_kind (f_h0_world_crew_cell a.toNatClampNeg).toNatClampNeg)) = w (113 + (w (10 + ((Int32.toInt a)).toNat)).toNat) := RkW.z l_kd (i := (w (10 + ((Int32.toInt a)).toNat)).toNat) (show Int.toNat _ = Int.toNat _ by omega) (by omega)
            have d32 := ne_z (x := (Int32.toInt (f_h0_world_rock_kind (f_h0_world_crew_cell a.toNatClampNeg).toNatClampNeg))) (y := 2) rfl rfl c24
            refine ⟨vpi (x := (Int32.toInt (f_h0_world_crew_cell a.toNatClampNeg))) rfl (by omega) (by omega), ?_⟩
            by_cases c33 : (f_h0_world_rock_kind (f_h0_world_crew_cell a.toNatClampNeg).toNatClampNeg) = 3
            · refine br1 c33 ?_
              have d34 := eq_z (x := (Int32.toInt (f_h0_world_rock_kind (f_h0_world_crew_cell a.toNatClampNeg).toNatClampNeg))) (y := 3) rfl rfl c33
              refine br0 (by decide) ?_
              refine br1 (by decide) ?_
              have k35 : Int32.toInt (-3) = (-3) := (by decide)
              have hR36 : digR (lawW w ls) w a.toInt b.toInt = (-3) := by unfold digR; rw [← j22]; (repeat' split) <;> omega
              exact hq _ _ _ _ _ _ _ _ _ _ _ _ _ _ _ _ _ _ ⟨(by decide), h_f_h0_world_crew_cell, ⟨by omega, by omega⟩, h_f_h0_world_term, ⟨by omega, by omega⟩, ⟨by omega, by omega⟩, hR36.symm, (by unfold digW; rw [if_pos (show digR (lawW w ls) w a.toInt b.toInt < 0 by omega)]; exact e_0), (by unfold digW rmU; rw [if_pos (show digR (lawW w ls) w a.toInt b.toInt < 0 by omega), if_pos (show digR (lawW w ls) w a.toInt b.toInt < 0 by omega)]; exact e_1), e_2⟩
            · refine br0 c33 ?_
              have d37 := ne_z (x := (Int32.toInt (f_h0_world_rock_kind (f_h0_world_crew_cell a.toNatClampNeg).toNatClampNeg))) (y := 3) rfl rfl c33
              refine br1 (by decide) ?_
              refine br0 (by decide) ?_
              by_cases c38 : r18 = (-1)
              · refine br1 c38 ?_
                have d39 := eq_z (x := (Int32.toInt r18)) (y := (-1)) rfl (by decide) c38
                have k40 : Int32.toInt (-3) = (-3) := (by decide)
                have hR41 : digR (lawW w ls) w a.toInt b.toInt = (-3) := by unfold digR; rw [← j22]; (repeat' split) <;> omega
                exact hq _ _ _ _ _ _ _ _ _ _ _ _ _ _ _ _ _ _ ⟨(by decide), h_f_h0_world_crew_cell, ⟨by omega, by omega⟩, h_f_h0_world_term, ⟨by omega, by omega⟩, ⟨by omega, by omega⟩, hR41.symm, (by unfold digW; rw [if_pos (show digR (lawW w ls) w a.toInt b.toInt < 0 by omega)]; exact e_0), (by unfold digW rmU; rw [if_pos (show digR (lawW w ls) w a.toInt b.toInt < 0 by omega), if_pos (show digR (lawW w ls) w a.toInt b.toInt < 0 by omega)]; exact e_1), e_2⟩
              · refine br0 c38 ?_
                have d42 := ne_z (x := (Int32.toInt r18)) (y := (-1)) rfl (by decide) c38
                refine s_X6_isDugz r18 h0_world_rock_dug ⟨by omega, by omega⟩ (RXw.dg e_0) (fun r43 H44 => ?_)
                have j45 := H44.1
                have j46 := H44.2
                by_cases c47 : r43 = 0
                · refine br1 c47 ?_
                  have d48 := eq_z (x := (Int32.toInt r43)) (y := 0) rfl rfl c47
                  refine o_X10_lawInForce_T _ _ _ _ _ ?_
                  refine o_X10_lawOf_T _ _ _ _ _ ?_
                  refine br0 (z_nlt (x := (Int32.toInt h0_world_force)) (y := 0) rfl rfl (by omega)) ?_
                  by_cases c49 : h0_world_lawCount ≤ h0_world_force
                  · refine br1 c49 ?_
                    have d50 := le_z (x := (Int32.toInt h0_world_lawCount)) (y := (Int32.toInt h0_world_force)) rfl rfl c49
                    exfalso
                    omega
                  · refine br0 c49 ?_
                    have d51 := nle_z (x := (Int32.toInt h0_world_lawCount)) (y := (Int32.toInt h0_world_force)) rfl rfl c49
                    refine br0 (z_nle (x := 6) (y := (Int32.toInt h0_world_force)) rfl rfl (by omega)) ?_
                    refine ⟨vpi (x := (Int32.toInt h0_world_force)) rfl (by omega) (by omega), ?_⟩
                    refine ⟨by assumption, ?_⟩
                    refine o_X0_turnTo_T _ ?_
                    refine z_cdigsT e_3 e_4 (RXw.wk e_0) (LwB.of h_f_h0_world_rock_kind h_f_h0_world_rock_hard h_f_h0_world_rock_water h_f_h0_world_term) ⟨by omega, by omega⟩ ⟨by omega, by omega⟩ (fun r52 v53 st54 H55 => ?_)
                    have j56 := H55.1
                    have j57 := H55.2
                    rw [← hF] at j57
                    refine un5_i ?_
                    by_cases c58 : 9999 < ((f_h0_world_term (0 : Int32).toNatClampNeg) + r52)
                    · refine br1 c58 ?_
                      have g59 : 0 ≤ (Int32.toInt (f_h0_world_term (0 : Int32).toNatClampNeg)) ∧ (Int32.toInt (f_h0_world_term (0 : Int32).toNatClampNeg)) ≤ 9999 := TE.at_0 h_f_h0_world_term (rfl : ((0 : Nat) : Int) = 0) (by omega) (by omega)
                      have t60 : (Int32.toInt (f_h0_world_term (0 : Int32).toNatClampNeg)) = w (7) := RkW.z l_te (i := 0) rfl (by omega)
                      have t61 : (Int32.toInt ((f_h0_world_term (0 : Int32).toNatClampNeg) + r52)) = (Int32.toInt (f_h0_world_term (0 : Int32).toNatClampNeg)) + (Int32.toInt r52) := add_z rfl rfl (by omega) (by omega)
                      have d62 := lt_z (x := 9999) (y := (Int32.toInt ((f_h0_world_term (0 : Int32).toNatClampNeg) + r52))) rfl rfl c58
                      have k63 : Int32.toInt (-3) = (-3) := (by decide)
                      have g64 : 0 ≤ (Int32.toInt (f_h0_world_rock_kind r18.toNatClampNeg)) ∧ (Int32.toInt (f_h0_world_rock_kind r18.toNatClampNeg)) ≤ 3 := KI.at_0 h_f_h0_world_rock_kind (tnz (x := (Int32.toInt r18)) rfl (by omega)) (by omega) (by omega)
                      have t65 : (Int32.toInt (f_h0_world_rock_kind r18.toNatClampNeg)) = w (113 + ((Int32.toInt r18)).toNat) := RkW.z l_kd (i := ((Int32.toInt r18)).toNat) rfl (by omega)
                      have hR66 : digR (lawW w ls) w a.toInt b.toInt = (-3) := by unfold digR; rw [← j22]; (repeat' split) <;> omega
                      exact hq _ _ _ _ _ _ _ _ _ _ _ _ _ _ _ _ _ _ ⟨(by decide), h_f_h0_world_crew_cell, ⟨by omega, by omega⟩, h_f_h0_world_term, ⟨by omega, by omega⟩, ⟨by omega, by omega⟩, hR66.symm, (by unfold digW; rw [if_pos (show digR (lawW w ls) w a.toInt b.toInt < 0 by omega)]; exact e_0), (by unfold digW rmU; rw [if_pos (show digR (lawW w ls) w a.toInt b.toInt < 0 by omega), if_pos (show digR (lawW w ls) w a.toInt b.toInt < 0 by omega)]; exact e_1), e_2⟩
                    · refine br0 c58 ?_
                      have g67 : 0 ≤ (Int32.toInt (f_h0_world_term (0 : Int32).toNatClampNeg)) ∧ (Int32.toInt (f_h0_world_term (0 : Int32).toNatClampNeg)) ≤ 9999 := TE.at_0 h_f_h0_world_term (rfl : ((0 : Nat) : Int) = 0) (by omega) (by omega)
                      have t68 : (Int32.toInt (f_h0_world_term (0 : Int32).toNatClampNeg)) = w (7) := RkW.z l_te (i := 0) rfl (by omega)
                      have t69 : (Int32.toInt ((f_h0_world_term (0 : Int32).toNatClampNeg) + r52)) = (Int32.toInt (f_h0_world_term (0 : Int32).toNatClampNeg)) + (Int32.toInt r52) := add_z rfl rfl (by omega) (by omega)
                      have d70 := nlt_z (x := 9999) (y := (Int32.toInt ((f_h0_world_term (0 : Int32).toNatClampNeg) + r52))) rfl rfl c58
                      refine z_cpassT e_3 e_4 (RXw.wk e_0) (LwB.of h_f_h0_world_rock_kind h_f_h0_world_rock_hard h_f_h0_world_rock_water h_f_h0_world_term) ⟨by omega, by omega⟩ ⟨by omega, by omega⟩ ⟨by omega, by omega⟩ (fun r71 x72 x73 x74 v75 st76 H77 => ?_)
                      have j78 := H77.1
                      have j79 := H77.2.1
                      rw [← hF] at j79
                      have j80 := H77.2.2
                      refine un5_i ?_
                      by_cases c81 : r71 = 0
                      · refine br1 c81 ?_
                        have d82 := eq_z (x := (Int32.toInt r71)) (y := 0) rfl rfl c81
                        have k83 : Int32.toInt (-3) = (-3) := (by decide)
                        have hR84 : digR (lawW w ls) w a.toInt b.toInt = (-3) := by unfold digR; rw [← j22]; (repeat' split) <;> omega
                        exact hq _ _ _ _ _ _ _ _ _ _ _ _ _ _ _ _ _ _ ⟨(by decide), h_f_h0_world_crew_cell, ⟨by omega, by omega⟩, h_f_h0_world_term, ⟨by omega, by omega⟩, ⟨by omega, by omega⟩, hR84.symm, (by unfold digW; rw [if_pos (show digR (lawW w ls) w a.toInt b.toInt < 0 by omega)]; exact e_0), (by unfold digW rmU; rw [if_pos (show digR (lawW w ls) w a.toInt b.toInt < 0 by omega), if_pos (show digR (lawW w ls) w a.toInt b.toInt < 0 by omega)]; exact e_1), e_2⟩
                      · refine br0 c81 ?_
                        have d85 := ne_z (x := (Int32.toInt r71)) (y := 0) rfl rfl c81
                        have k86 : Int32.toInt 0 = 0 := rfl
                        refine s_X2_addz 0 a (f_h0_world_crew_cell a.toNatClampNeg) 0 (f_h0_world_term (0 : Int32).toNatClampNeg) h0_diary_kept h0_diary_latest (f_h0_diary_deed) (f_h0_diary_whose) (f_h0_diary_before) (f_h0_diary_bucketsBefore) (f_h0_diary_dayBefore) (w' := (digC w (Int32.toInt a) (Int32.toInt r18) (Int32.toInt r52))) ⟨by omega, by omega⟩ ⟨by omega, by omega⟩ e_2 (by unfold DR; omega) e_1 (fun j _ _ => by rw [show (Int32.toInt (f_h0_world_crew_cell a.toNatClampNeg)) = w (10 + ((Int32.toInt a)).toNat) by omega, show (Int32.toInt (f_h0_world_term (0 : Int32).toNatClampNeg)) = w (7) by omega]; exact inv_dig (by omega) j) (fun q => absurd q (by decide)) (fun u87 u88 u89 u90 u91 u92 u93 H94 => ?_)
                        have j95 := H94.2.2.1
                        have j96 := H94.2.2.2
                        have j97 := H94.1
                        have j98 := H94.2.1
                        refine un7_i ?_
                        refine o_X6_mark _ _ _ ?_
                        refine ⟨vpi (x := (Int32.toInt a)) rfl (by omega) (by omega), ?_⟩
                        have t99 := i32_hi r18
                        have R100 : CE (upd f_h0_world_crew_cell a.toNatClampNeg r18) := CE.up_0 h_f_h0_world_crew_cell (tnz (x := (Int32.toInt a)) rfl (by omega)) (by omega) (by omega) (w := (Int32.toInt r18)) rfl (by omega) (by omega)
                        have R101 : TE (upd f_h0_world_term 0 ((f_h0_world_term (0 : Int32).toNatClampNeg) + r52)) := TE.up_0 h_f_h0_world_term (rfl : ((0 : Nat) : Int) = 0) (by omega) (by omega) (w := (Int32.toInt ((f_h0_world_term (0 : Int32).toNatClampNeg) + r52))) rfl (by omega) (by omega)
                        have hR102 : digR (lawW w ls) w a.toInt b.toInt = (Int32.toInt r18) := by unfold digR; rw [← j22]; (repeat' split) <;> omega
                        exact hq _ _ _ _ _ _ _ _ _ _ _ _ _ _ _ _ _ _ ⟨⟨by omega, by omega⟩, R100, ⟨by omega, by omega⟩, R101, ⟨by omega, by omega⟩, ⟨by omega, by omega⟩, hR102.symm, (by unfold digW; rw [if_neg (show ¬ digR (lawW w ls) w a.toInt b.toInt < 0 by omega)]; unfold digO; rw [← j22]; rw [← j57]; unfold digC; exact RXw.u_ce (RXw.u_dgm (RXw.u_te e_0 (k := 0) (i := 0) rfl (by decide) (by omega)) (by omega) (by omega)) rfl (by omega) rfl), (by unfold digW rmU; rw [if_neg (show ¬ digR (lawW w ls) w a.toInt b.toInt < 0 by omega), if_neg (show ¬ digR (lawW w ls) w a.toInt b.toInt < 0 by omega)]; unfold digO; rw [← j22]; rw [← j57]; exact j96), j95⟩
                · refine br0 c47 ?_
                  have d103 := ne_z (x := (Int32.toInt r43)) (y := 0) rfl rfl c47
                  have k104 : Int32.toInt (-3) = (-3) := (by decide)
                  have hR105 : digR (lawW w ls) w a.toInt b.toInt = (-3) := by unfold digR; rw [← j22]; (repeat' split) <;> omega
                  exact hq _ _ _ _ _ _ _ _ _ _ _ _ _ _ _ _ _ _ ⟨(by decide), h_f_h0_world_crew_cell, ⟨by omega, by omega⟩, h_f_h0_world_term, ⟨by omega, by omega⟩, ⟨by omega, by omega⟩, hR105.symm, (by unfold digW; rw [if_pos (show digR (lawW w ls) w a.toInt b.toInt < 0 by omega)]; exact e_0), (by unfold digW rmU; rw [if_pos (show digR (lawW w ls) w a.toInt b.toInt < 0 by omega), if_pos (show digR (lawW w ls) w a.toInt b.toInt < 0 by omega)]; exact e_1), e_2⟩
    · refine br0 c6 ?_
      have d106 := nle_z (x := (Int32.toInt b)) (y := 2) rfl rfl c6
      have k107 : Int32.toInt (-1) = (-1) := (by decide)
      have hR108 : digR (lawW w ls) w a.toInt b.toInt = (-1) := by unfold digR; (repeat' split) <;> omega
      exact hq _ _ _ _ _ _ _ _ _ _ _ _ _ _ _ _ _ _ ⟨(by decide), h_f_h0_world_crew_cell, ⟨by omega, by omega⟩, h_f_h0_world_term, ⟨by omega, by omega⟩, ⟨by omega, by omega⟩, hR108.symm, (by unfold digW; rw [if_pos (show digR (lawW w ls) w a.toInt b.toInt < 0 by omega)]; exact e_0), (by unfold digW rmU; rw [if_pos (show digR (lawW w ls) w a.toInt b.toInt < 0 by omega), if_pos (show digR (lawW w ls) w a.toInt b.toInt < 0 by omega)]; exact e_1), e_2⟩


set_option maxRecDepth 100000 in
theorem s_X7_tryHaul_Nz (a : Int32) (h0_world : Nat) (h0_world_lawCount : Int32) (h0_world_force : Int32) (h0_world_crew_count : Int32) (f_h0_world_crew_cell : Nat → Int32) (f_h0_world_term : Nat → Int32) (f_h0_world_rock_kind : Nat → Int32) (f_h0_world_laws : Nat → Option Nat) (h0_asker_world : Value) (h0_asker_law : Value) (h0_asker_cell : Int32) (h0_asker_shaft : Int32) (h0_asker_kind : Int32) (f_h0_world_rock_water : Nat → Int32) (f_h0_world_crew_buckets : Nat → Int32) (h0_diary_kept : Int32) (h0_diary_latest : Int32) (f_h0_diary_deed : Nat → Int32) (f_h0_diary_whose : Nat → Int32) (f_h0_diary_before : Nat → Int32) (f_h0_diary_bucketsBefore : Nat → Int32) (f_h0_diary_dayBefore : Nat → Int32) {w : Nat → Int} {U : UL} {ls : Nat → List Cls} {g_hd : Nat → Int32} {g_dg : Int64} {g_co : Nat → Int32} {g_ea : Nat → Int32} {g_ls : Int32} {g_nc : Nat → Int32} {g_nl : Nat → Int32} {g_ns : Int32} {g_hu : Int32} {g_hc : Nat → Int32} {g_hl : Nat → Int32} {g_hs : Int32} {g_so : Nat → Int32} {g_we : Nat → Int32} {g_wl : Int32} (h_h0_world_lawCount : 0 ≤ h0_world_lawCount.toInt ∧ h0_world_lawCount.toInt ≤ 6) (h_h0_world_force : (-1) ≤ h0_world_force.toInt ∧ h0_world_force.toInt ≤ (-1)) (h_h0_world_crew_count : 0 ≤ h0_world_crew_count.toInt ∧ h0_world_crew_count.toInt ≤ 6) (h_f_h0_world_crew_cell : CE f_h0_world_crew_cell) (h_f_h0_world_term : TE f_h0_world_term) (h_f_h0_world_rock_kind : KI f_h0_world_rock_kind) (h_h0_asker_cell : 0 ≤ h0_asker_cell.toInt ∧ h0_asker_cell.toInt ≤ 39) (h_f_h0_world_rock_water : WA f_h0_world_rock_water) (h_f_h0_world_crew_buckets : BU f_h0_world_crew_buckets) (h_h0_diary_kept : 0 ≤ h0_diary_kept.toInt ∧ h0_diary_kept.toInt ≤ 16) (h_h0_diary_latest : 0 ≤ h0_diary_latest.toInt ∧ h0_diary_latest.toInt ≤ 15) (e_0 : RXw f_h0_world_rock_kind g_hd f_h0_world_rock_water g_dg f_h0_world_crew_cell f_h0_world_crew_buckets h0_world_crew_count g_co g_ea g_ls g_nc g_nl g_ns g_hu g_hc g_hl g_hs g_so g_we g_wl f_h0_world_term h0_world_lawCount h0_world_force w) (e_1 : RXu f_h0_diary_deed f_h0_diary_whose f_h0_diary_before f_h0_diary_bucketsBefore f_h0_diary_dayBefore h0_diary_kept h0_diary_latest w U) (e_2 : DI f_h0_diary_deed f_h0_diary_whose f_h0_diary_before f_h0_diary_bucketsBefore f_h0_diary_dayBefore) {Q : Int32 → ((Nat → Int32) × Value × Value × Int32 × Int32 × Int32 × (Nat → Int32) × (Nat → Int32) × Int32 × Int32 × (Nat → Int32) × (Nat → Int32) × (Nat → Int32) × (Nat → Int32) × (Nat → Int32)) → Prop} (hq : ∀ (r : Int32) (u_0 : Nat → Int32) (u_1 : Value) (u_2 : Value) (u_3 : Int32) (u_4 : Int32) (u_5 : Int32) (u_6 : Nat → Int32) (u_7 : Nat → Int32) (u_8 : Int32) (u_9 : Int32) (u_10 : Nat → Int32) (u_11 : Nat → Int32) (u_12 : Nat → Int32) (u_13 : Nat → Int32) (u_14 : Nat → Int32), ((-3) ≤ r.toInt ∧ r.toInt ≤ 2147483647) ∧ (TE u_0) ∧ (0 ≤ u_3.toInt ∧ u_3.toInt ≤ 39) ∧ (WA u_6) ∧ (BU u_7) ∧ (0 ≤ u_8.toInt ∧ u_8.toInt ≤ 16) ∧ (0 ≤ u_9.toInt ∧ u_9.toInt ≤ 15) ∧ (r.toInt = haulR (lawW w ls) w a.toInt) ∧ (RXw f_h0_world_rock_kind g_hd u_6 g_dg f_h0_world_crew_cell u_7 h0_world_crew_count g_co g_ea g_ls g_nc g_nl g_ns g_hu g_hc g_hl g_hs g_so g_we g_wl u_0 h0_world_lawCount h0_world_force (haulW (lawW w ls) w a.toInt)) ∧ (RXu u_10 u_11 u_12 u_13 u_14 u_8 u_9 (haulW (lawW w ls) w a.toInt) (rmU (haulR (lawW w ls) w a.toInt) 1 w U)) ∧ (DI u_10 u_11 u_12 u_13 u_14) → Q r (u_0, u_1, u_2, u_3, u_4, u_5, u_6, u_7, u_8, u_9, u_10, u_11, u_12, u_13, u_14)) : wp_X7_tryHaul_N a h0_world h0_world_lawCount h0_world_force h0_world_crew_count f_h0_world_crew_cell f_h0_world_term f_h0_world_rock_kind f_h0_world_laws h0_asker_world h0_asker_law h0_asker_cell h0_asker_shaft h0_asker_kind f_h0_world_rock_water f_h0_world_crew_buckets h0_diary_kept h0_diary_latest f_h0_diary_deed f_h0_diary_whose f_h0_diary_before f_h0_diary_bucketsBefore f_h0_diary_dayBefore Q := by
  unfold wp_X7_tryHaul_N
  have l_kd := RXw.kd e_0
  have l_wt := RXw.wt e_0
  have l_ce := RXw.ce e_0
  have l_bu := RXw.bu e_0
  have l_cc : h0_world_crew_count.toInt = w 0 := RXw.cc e_0
  have l_te := RXw.te e_0
  have l_lc : h0_world_lawCount.toInt = w 5 := RXw.lc e_0
  have l_fo : h0_world_force.toInt = w 6 := RXw.fo e_0
  have hF : lawW w ls = none := lawW_n (by omega)
  refine o_X11_isWithin _ _ _ ?_
  by_cases c1 : a < 0
  · refine br1 c1 ?_
    have d2 := lt_z (x := (Int32.toInt a)) (y := 0) rfl rfl c1
    refine br1 (by decide) ?_
    have k3 : Int32.toInt (-2) = (-2) := (by decide)
    have hR4 : haulR (lawW w ls) w a.toInt = (-2) := by unfold haulR; (repeat' split) <;> omega
    exact hq _ _ _ _ _ _ _ _ _ _ _ _ _ _ _ _ ⟨(by decide), h_f_h0_world_term, ⟨by omega, by omega⟩, h_f_h0_world_rock_water, h_f_h0_world_crew_buckets, ⟨by omega, by omega⟩, ⟨by omega, by omega⟩, hR4.symm, (by unfold haulW; rw [if_pos (show haulR (lawW w ls) w a.toInt < 0 by omega)]; exact e_0), (by unfold haulW rmU; rw [if_pos (show haulR (lawW w ls) w a.toInt < 0 by omega), if_pos (show haulR (lawW w ls) w a.toInt < 0 by omega)]; exact e_1), e_2⟩
  · refine br0 c1 ?_
    have d5 := nlt_z (x := (Int32.toInt a)) (y := 0) rfl rfl c1
    by_cases c6 : h0_world_crew_count ≤ a
    · refine br1 c6 ?_
      have d7 := le_z (x := (Int32.toInt h0_world_crew_count)) (y := (Int32.toInt a)) rfl rfl c6
      refine br1 (by decide) ?_
      have k8 : Int32.toInt (-2) = (-2) := (by decide)
      have hR9 : haulR (lawW w ls) w a.toInt = (-2) := by unfold haulR; (repeat' split) <;> omega
      exact hq _ _ _ _ _ _ _ _ _ _ _ _ _ _ _ _ ⟨(by decide), h_f_h0_world_term, ⟨by omega, by omega⟩, h_f_h0_world_rock_water, h_f_h0_world_crew_buckets, ⟨by omega, by omega⟩, ⟨by omega, by omega⟩, hR9.symm, (by unfold haulW; rw [if_pos (show haulR (lawW w ls) w a.toInt < 0 by omega)]; exact e_0), (by unfold haulW rmU; rw [if_pos (show haulR (lawW w ls) w a.toInt < 0 by omega), if_pos (show haulR (lawW w ls) w a.toInt < 0 by omega)]; exact e_1), e_2⟩
    · refine br0 c6 ?_
      have d10 := nle_z (x := (Int32.toInt h0_world_crew_count)) (y := (Int32.toInt a)) rfl rfl c6
      refine br0 (by decide) ?_
      refine ⟨vpi (x := (Int32.toInt a)) rfl (by omega) (by omega), ?_⟩
      have g11 : 0 ≤ (Int32.toInt (f_h0_world_crew_cell a.toNatClampNeg)) ∧ (Int32.toInt (f_h0_world_crew_cell a.toNatClampNeg)) ≤ 39 := CE.at_0 h_f_h0_world_crew_cell (tnz (x := (Int32.toInt a)) rfl (by omega)) (by omega) (by omega)
      have t12 : (Int32.toInt (f_h0_world_crew_cell a.toNatClampNeg)) = w (10 + ((Int32.toInt a)).toNat) := RkW.z l_ce (i := ((Int32.toInt a)).toNat) rfl (by omega)
      refine ⟨vpi (x := (Int32.toInt (f_h0_world_crew_cell a.toNatClampNeg))) rfl (by omega) (by omega), ?_⟩
      by_cases c13 : (f_h0_world_rock_kind (f_h0_world_crew_cell a.toNatClampNeg).toNatClampNeg) = 3
      · refine br1 c13 ?_
        have g14 : 0 ≤ (Int32.toInt (f_h0_world_rock_kind (f_h0_world_crew_cell a.toNatClampNeg).toNatClampNeg)) ∧ (Int32.toInt (f_h0_world_rock_kind (f_h0_world_crew_cell a.toNatClampNeg).toNatClampNeg)) ≤ 3 := KI.at_0 h_f_h0_world_rock_kind (tnz (x := (Int32.toInt (f_h0_world_crew_cell a.toNatClampNeg))) rfl (by omega)) (by omega) (by omega)
        have t15 : (Int32.toInt (f_h0_world_rock_kind (f_h0_world_crew_cell a.toNatClampNeg).toNatClampNeg)) = w (113 + (w (10 + ((Int32.toInt a)).toNat)).toNat) := RkW.z l_kd (i := (w (10 + ((Int32.toInt a)).toNat)).toNat) (show Int.toNat _ = Int.toNat _ by omega) (by omega)
        have d16 := eq_z (x := (Int32.toInt (f_h0_world_rock_kind (f_h0_world_crew_cell a.toNatClampNeg).toNatClampNeg))) (y := 3) rfl rfl c13
        by_cases c17 : (f_h0_world_term (0 : Int32).toNatClampNeg) < 9999
        · refine br1 c17 ?_
          have g18 : 0 ≤ (Int32.toInt (f_h0_world_term (0 : Int32).toNatClampNeg)) ∧ (Int32.toInt (f_h0_world_term (0 : Int32).toNatClampNeg)) ≤ 9999 := TE.at_0 h_f_h0_world_term (rfl : ((0 : Nat) : Int) = 0) (by omega) (by omega)
          have t19 : (Int32.toInt (f_h0_world_term (0 : Int32).toNatClampNeg)) = w (7) := RkW.z l_te (i := 0) rfl (by omega)
          have d20 := lt_z (x := (Int32.toInt (f_h0_world_term (0 : Int32).toNatClampNeg))) (y := 9999) rfl rfl c17
          refine o_X10_lawInForce_N _ _ _ _ ?_
          refine o_X10_lawOf_N _ _ _ _ ?_
          refine br1 (z_lt (x := (Int32.toInt h0_world_force)) (y := 0) rfl rfl (by omega)) ?_
          refine o_X0_turnTo_N _ ?_
          refine z_cgivesN (RXw.wk e_0) h_f_h0_world_rock_water ⟨by omega, by omega⟩  (fun r21 H22 => ?_)
          have j23 := H22.1
          have j24 := H22.2.1
          rw [← hF] at j24
          have j25 := H22.2.2
          rw [show (Int32.toInt (f_h0_world_crew_cell a.toNatClampNeg)) = w (10 + ((Int32.toInt a)).toNat) by omega] at j24
          refine un3_i ?_
          refine ⟨vpi (x := (Int32.toInt a)) rfl (by omega) (by omega), ?_⟩
          refine ⟨vpi (x := (Int32.toInt (f_h0_world_crew_cell a.toNatClampNeg))) rfl (by omega) (by omega), ?_⟩
          have k26 : Int32.toInt 1 = 1 := rfl
          have g27 : 0 ≤ (Int32.toInt (f_h0_world_rock_water (f_h0_world_crew_cell a.toNatClampNeg).toNatClampNeg)) ∧ (Int32.toInt (f_h0_world_rock_water (f_h0_world_crew_cell a.toNatClampNeg).toNatClampNeg)) ≤ 99 := WA.at_0 h_f_h0_world_rock_water (tnz (x := (Int32.toInt (f_h0_world_crew_cell a.toNatClampNeg))) rfl (by omega)) (by omega) (by omega)
          have t28 : (Int32.toInt (f_h0_world_rock_water (f_h0_world_crew_cell a.toNatClampNeg).toNatClampNeg)) = w (73 + (w (10 + ((Int32.toInt a)).toNat)).toNat) := RkW.z l_wt (i := (w (10 + ((Int32.toInt a)).toNat)).toNat) (show Int.toNat _ = Int.toNat _ by omega) (by omega)
          have g29 : 0 ≤ (Int32.toInt (f_h0_world_crew_buckets a.toNatClampNeg)) ∧ (Int32.toInt (f_h0_world_crew_buckets a.toNatClampNeg)) ≤ 9999 := BU.at_0 h_f_h0_world_crew_buckets (tnz (x := (Int32.toInt a)) rfl (by omega)) (by omega) (by omega)
          have t30 : (Int32.toInt (f_h0_world_crew_buckets a.toNatClampNeg)) = w (16 + ((Int32.toInt a)).toNat) := RkW.z l_bu (i := ((Int32.toInt a)).toNat) rfl (by omega)
          refine s_X2_addz 1 a (f_h0_world_rock_water (f_h0_world_crew_cell a.toNatClampNeg).toNatClampNeg) (f_h0_world_crew_buckets a.toNatClampNeg) (f_h0_world_term (0 : Int32).toNatClampNeg) h0_diary_kept h0_diary_latest (f_h0_diary_deed) (f_h0_diary_whose) (f_h0_diary_before) (f_h0_diary_bucketsBefore) (f_h0_diary_dayBefore) (w' := (haulC w (Int32.toInt a) (w (10 + ((Int32.toInt a)).toNat)) (Int32.toInt r21))) ⟨by omega, by omega⟩ ⟨by omega, by omega⟩ e_2 (by unfold DR; omega) e_1 (fun j _ _ => by rw [show (Int32.toInt (f_h0_world_rock_water (f_h0_world_crew_cell a.toNatClampNeg).toNatClampNeg)) = w (73 + (w (10 + ((Int32.toInt a)).toNat)).toNat) by omega, show (Int32.toInt (f_h0_world_crew_buckets a.toNatClampNeg)) = w (16 + ((Int32.toInt a)).toNat) by omega, show (Int32.toInt (f_h0_world_term (0 : Int32).toNatClampNeg)) = w (7) by omega]; exact inv_haul (by omega) j) (fun q => absurd q (by decide)) (fun u31 u32 u33 u34 u35 u36 u37 H38 => ?_)
          have j39 := H38.2.2.1
          have j40 := H38.2.2.2
          have j41 := H38.1
          have j42 := H38.2.1
          refine un7_i ?_
          refine ⟨vpi (x := (Int32.toInt (f_h0_world_crew_cell a.toNatClampNeg))) rfl (by omega) (by omega), ?_⟩
          refine ⟨vpi (x := (Int32.toInt (f_h0_world_crew_cell a.toNatClampNeg))) rfl (by omega) (by omega), ?_⟩
          refine ⟨vpi (x := (Int32.toInt a)) rfl (by omega) (by omega), ?_⟩
          have t43 := i32_hi r21
          have t44 : (Int32.toInt ((f_h0_world_term (0 : Int32).toNatClampNeg) + 1)) = (Int32.toInt (f_h0_world_term (0 : Int32).toNatClampNeg)) + 1 := add_z rfl rfl (by omega) (by omega)
          have R45 : TE (upd f_h0_world_term 0 ((f_h0_world_term (0 : Int32).toNatClampNeg) + 1)) := TE.up_0 h_f_h0_world_term (rfl : ((0 : Nat) : Int) = 0) (by omega) (by omega) (w := (Int32.toInt ((f_h0_world_term (0 : Int32).toNatClampNeg) + 1))) rfl (by omega) (by omega)
          have t46 : (Int32.toInt ((f_h0_world_rock_water (f_h0_world_crew_cell a.toNatClampNeg).toNatClampNeg) - r21)) = (Int32.toInt (f_h0_world_rock_water (f_h0_world_crew_cell a.toNatClampNeg).toNatClampNeg)) - (Int32.toInt r21) := sub_z rfl rfl (by omega) (by omega)
          have R47 : WA (upd f_h0_world_rock_water (f_h0_world_crew_cell a.toNatClampNeg).toNatClampNeg ((f_h0_world_rock_water (f_h0_world_crew_cell a.toNatClampNeg).toNatClampNeg) - r21)) := WA.up_0 h_f_h0_world_rock_water (tnz (x := (Int32.toInt (f_h0_world_crew_cell a.toNatClampNeg))) rfl (by omega)) (by omega) (by omega) (w := (Int32.toInt ((f_h0_world_rock_water (f_h0_world_crew_cell a.toNatClampNeg).toNatClampNeg) - r21))) rfl (by omega) (by omega)
          have t48 : (Int32.toInt ((f_h0_world_crew_buckets a.toNatClampNeg) + r21)) = (Int32.toInt (f_h0_world_crew_buckets a.toNatClampNeg)) + (Int32.toInt r21) := add_z rfl rfl (by omega) (by omega)
          have t49 := mn_z (a := 9999) (b := ((f_h0_world_crew_buckets a.toNatClampNeg) + r21))
          have k50 : Int32.toInt 9999 = 9999 := rfl
          have R51 : BU (upd f_h0_world_crew_buckets a.toNatClampNeg (if ((f_h0_world_crew_buckets a.toNatClampNeg) + r21) < 9999 then ((f_h0_world_crew_buckets a.toNatClampNeg) + r21) else 9999)) := BU.up_0 h_f_h0_world_crew_buckets (tnz (x := (Int32.toInt a)) rfl (by omega)) (by omega) (by omega) (w := (Int32.toInt (if ((f_h0_world_crew_buckets a.toNatClampNeg) + r21) < 9999 then ((f_h0_world_crew_buckets a.toNatClampNeg) + r21) else 9999))) rfl (by omega) (by omega)
          have hR52 : haulR (lawW w ls) w a.toInt = (Int32.toInt r21) := by unfold haulR; (repeat' split) <;> omega
          exact hq _ _ _ _ _ _ _ _ _ _ _ _ _ _ _ _ ⟨⟨by omega, by omega⟩, R45, ⟨by omega, by omega⟩, R47, R51, ⟨by omega, by omega⟩, ⟨by omega, by omega⟩, hR52.symm, (by unfold haulW; rw [if_neg (show ¬ haulR (lawW w ls) w a.toInt < 0 by omega)]; unfold haulO; rw [← j24]; unfold haulC; exact RXw.u_te (RXw.u_bu (i := a.toInt.toNat) (RXw.u_wt e_0 (show Int.toNat _ = Int.toNat _ by omega) (by omega) (by omega)) rfl (by omega) (by first | omega | ((repeat' split) <;> omega))) (k := 0) (i := 0) rfl (by decide) (by omega)), (by unfold haulW rmU; rw [if_neg (show ¬ haulR (lawW w ls) w a.toInt < 0 by omega), if_neg (show ¬ haulR (lawW w ls) w a.toInt < 0 by omega)]; unfold haulO; rw [← j24]; exact j40), j39⟩
        · refine br0 c17 ?_
          have g53 : 0 ≤ (Int32.toInt (f_h0_world_term (0 : Int32).toNatClampNeg)) ∧ (Int32.toInt (f_h0_world_term (0 : Int32).toNatClampNeg)) ≤ 9999 := TE.at_0 h_f_h0_world_term (rfl : ((0 : Nat) : Int) = 0) (by omega) (by omega)
          have t54 : (Int32.toInt (f_h0_world_term (0 : Int32).toNatClampNeg)) = w (7) := RkW.z l_te (i := 0) rfl (by omega)
          have d55 := nlt_z (x := (Int32.toInt (f_h0_world_term (0 : Int32).toNatClampNeg))) (y := 9999) rfl rfl c17
          have k56 : Int32.toInt (-3) = (-3) := (by decide)
          have hR57 : haulR (lawW w ls) w a.toInt = (-3) := by unfold haulR; (repeat' split) <;> omega
          exact hq _ _ _ _ _ _ _ _ _ _ _ _ _ _ _ _ ⟨(by decide), h_f_h0_world_term, ⟨by omega, by omega⟩, h_f_h0_world_rock_water, h_f_h0_world_crew_buckets, ⟨by omega, by omega⟩, ⟨by omega, by omega⟩, hR57.symm, (by unfold haulW; rw [if_pos (show haulR (lawW w ls) w a.toInt < 0 by omega)]; exact e_0), (by unfold haulW rmU; rw [if_pos (show haulR (lawW w ls) w a.toInt < 0 by omega), if_pos (show haulR (lawW w ls) w a.toInt < 0 by omega)]; exact e_1), e_2⟩
      · refine br0 c13 ?_
        have g58 : 0 ≤ (Int32.toInt (f_h0_world_rock_kind (f_h0_world_crew_cell a.toNatClampNeg).toNatClampNeg)) ∧ (Int32.toInt (f_h0_world_rock_kind (f_h0_world_crew_cell a.toNatClampNeg).toNatClampNeg)) ≤ 3 := KI.at_0 h_f_h0_world_rock_kind (tnz (x := (Int32.toInt (f_h0_world_crew_cell a.toNatClampNeg))) rfl (by omega)) (by omega) (by omega)
        have t59 : (Int32.toInt (f_h0_world_rock_kind (f_h0_world_crew_cell a.toNatClampNeg).toNatClampNeg)) = w (113 + (w (10 + ((Int32.toInt a)).toNat)).toNat) := RkW.z l_kd (i := (w (10 + ((Int32.toInt a)).toNat)).toNat) (show Int.toNat _ = Int.toNat _ by omega) (by omega)
        have d60 := ne_z (x := (Int32.toInt (f_h0_world_rock_kind (f_h0_world_crew_cell a.toNatClampNeg).toNatClampNeg))) (y := 3) rfl rfl c13
        have k61 : Int32.toInt (-3) = (-3) := (by decide)
        have hR62 : haulR (lawW w ls) w a.toInt = (-3) := by unfold haulR; (repeat' split) <;> omega
        exact hq _ _ _ _ _ _ _ _ _ _ _ _ _ _ _ _ ⟨(by decide), h_f_h0_world_term, ⟨by omega, by omega⟩, h_f_h0_world_rock_water, h_f_h0_world_crew_buckets, ⟨by omega, by omega⟩, ⟨by omega, by omega⟩, hR62.symm, (by unfold haulW; rw [if_pos (show haulR (lawW w ls) w a.toInt < 0 by omega)]; exact e_0), (by unfold haulW rmU; rw [if_pos (show haulR (lawW w ls) w a.toInt < 0 by omega), if_pos (show haulR (lawW w ls) w a.toInt < 0 by omega)]; exact e_1), e_2⟩


set_option maxRecDepth 100000 in
theorem s_X7_tryHaul_Tz (a : Int32) (h0_world : Nat) (h0_world_lawCount : Int32) (h0_world_force : Int32) (h0_world_crew_count : Int32) (f_h0_world_crew_cell : Nat → Int32) (f_h0_world_term : Nat → Int32) (f_h0_world_rock_kind : Nat → Int32) (f_h0_world_laws : Nat → Option Nat) (h0_asker_world : Value) (h0_asker_law : Value) (h0_asker_cell : Int32) (h0_asker_shaft : Int32) (h0_asker_kind : Int32) (h0_asker_done : Int32) (h0_asker_latest : Int32) (h0_asker_value : Int32) (t : Nat) (t_clauses : Int32) (t_length : Int32) (n_t_heads : Nat) (f_t_heads : Nat → Int32) (n_t_code : Nat) (f_t_code : Nat → Int32) (f_h0_asker_stack : Nat → Int64) (h0_world_folk_listeners : Int32) (f_h0_world_folk_column : Nat → Int32) (f_h0_world_rock_hard : Nat → Int32) (f_h0_world_rock_water : Nat → Int32) (f_h0_world_crew_buckets : Nat → Int32) (h0_diary_kept : Int32) (h0_diary_latest : Int32) (f_h0_diary_deed : Nat → Int32) (f_h0_diary_whose : Nat → Int32) (f_h0_diary_before : Nat → Int32) (f_h0_diary_bucketsBefore : Nat → Int32) (f_h0_diary_dayBefore : Nat → Int32) {w : Nat → Int} {U : UL} {ls : Nat → List Cls} {g_dg : Int64} {g_ea : Nat → Int32} {g_nc : Nat → Int32} {g_nl : Nat → Int32} {g_ns : Int32} {g_hu : Int32} {g_hc : Nat → Int32} {g_hl : Nat → Int32} {g_hs : Int32} {g_so : Nat → Int32} {g_we : Nat → Int32} {g_wl : Int32} (h_h0_world_lawCount : 0 ≤ h0_world_lawCount.toInt ∧ h0_world_lawCount.toInt ≤ 6) (h_h0_world_force : 0 ≤ h0_world_force.toInt ∧ h0_world_force.toInt ≤ 5) (h_h0_world_crew_count : 0 ≤ h0_world_crew_count.toInt ∧ h0_world_crew_count.toInt ≤ 6) (h_f_h0_world_crew_cell : CE f_h0_world_crew_cell) (h_f_h0_world_term : TE f_h0_world_term) (h_f_h0_world_rock_kind : KI f_h0_world_rock_kind) (h_h0_asker_cell : 0 ≤ h0_asker_cell.toInt ∧ h0_asker_cell.toInt ≤ 39) (h_t_clauses : 0 ≤ t_clauses.toInt ∧ t_clauses.toInt ≤ 12) (h_t_length : 0 ≤ t_length.toInt ∧ t_length.toInt ≤ 400) (h_f_t_code : CD f_t_code) (h_h0_world_folk_listeners : 0 ≤ h0_world_folk_listeners.toInt ∧ h0_world_folk_listeners.toInt ≤ 5) (h_f_h0_world_folk_column : CO f_h0_world_folk_column) (h_f_h0_world_rock_hard : HA f_h0_world_rock_hard) (h_f_h0_world_rock_water : WA f_h0_world_rock_water) (h_f_h0_world_crew_buckets : BU f_h0_world_crew_buckets) (h_h0_diary_kept : 0 ≤ h0_diary_kept.toInt ∧ h0_diary_kept.toInt ≤ 16) (h_h0_diary_latest : 0 ≤ h0_diary_latest.toInt ∧ h0_diary_latest.toInt ≤ 15) (e_0 : RXw f_h0_world_rock_kind f_h0_world_rock_hard f_h0_world_rock_water g_dg f_h0_world_crew_cell f_h0_world_crew_buckets h0_world_crew_count f_h0_world_folk_column g_ea h0_world_folk_listeners g_nc g_nl g_ns g_hu g_hc g_hl g_hs g_so g_we g_wl f_h0_world_term h0_world_lawCount h0_world_force w) (e_1 : RXu f_h0_diary_deed f_h0_diary_whose f_h0_diary_before f_h0_diary_bucketsBefore f_h0_diary_dayBefore h0_diary_kept h0_diary_latest w U) (e_2 : DI f_h0_diary_deed f_h0_diary_whose f_h0_diary_before f_h0_diary_bucketsBefore f_h0_diary_dayBefore) (e_3 : XTx t_clauses t_length n_t_heads f_t_heads n_t_code f_t_code (ls (w 6).toNat)) (e_4 : ∀ q ∈ ls (w 6).toNat, okC q) (e_5 : n_t_heads < 100000) (e_6 : t_length.toInt ≤ (n_t_code : Int)) (e_7 : h0_world_force.toInt < h0_world_lawCount.toInt) (e_8 : f_h0_world_laws (Int32.toNatClampNeg h0_world_force) = some t) {Q : Int32 → ((Nat → Int32) × Value × Value × Int32 × Int32 × Int32 × Int32 × (Nat → Int64) × (Nat → Int32) × (Nat → Int32) × Int32 × Int32 × (Nat → Int32) × (Nat → Int32) × (Nat → Int32) × (Nat → Int32) × (Nat → Int32)) → Prop} (hq : ∀ (r : Int32) (u_0 : Nat → Int32) (u_1 : Value) (u_2 : Value) (u_3 : Int32) (u_4 : Int32) (u_5 : Int32) (u_6 : Int32) (u_7 : Nat → Int64) (u_8 : Nat → Int32) (u_9 : Nat → Int32) (u_10 : Int32) (u_11 : Int32) (u_12 : Nat → Int32) (u_13 : Nat → Int32) (u_14 : Nat → Int32) (u_15 : Nat → Int32) (u_16 : Nat → Int32), ((-3) ≤ r.toInt ∧ r.toInt ≤ 2147483647) ∧ (TE u_0) ∧ (0 ≤ u_3.toInt ∧ u_3.toInt ≤ 39) ∧ (WA u_8) ∧ (BU u_9) ∧ (0 ≤ u_10.toInt ∧ u_10.toInt ≤ 16) ∧ (0 ≤ u_11.toInt ∧ u_11.toInt ≤ 15) ∧ (r.toInt = haulR (lawW w ls) w a.toInt) ∧ (RXw f_h0_world_rock_kind f_h0_world_rock_hard u_8 g_dg f_h0_world_crew_cell u_9 h0_world_crew_count f_h0_world_folk_column g_ea h0_world_folk_listeners g_nc g_nl g_ns g_hu g_hc g_hl g_hs g_so g_we g_wl u_0 h0_world_lawCount h0_world_force (haulW (lawW w ls) w a.toInt)) ∧ (RXu u_12 u_13 u_14 u_15 u_16 u_10 u_11 (haulW (lawW w ls) w a.toInt) (rmU (haulR (lawW w ls) w a.toInt) 1 w U)) ∧ (DI u_12 u_13 u_14 u_15 u_16) → Q r (u_0, u_1, u_2, u_3, u_4, u_5, u_6, u_7, u_8, u_9, u_10, u_11, u_12, u_13, u_14, u_15, u_16)) : wp_X7_tryHaul_T a h0_world h0_world_lawCount h0_world_force h0_world_crew_count f_h0_world_crew_cell f_h0_world_term f_h0_world_rock_kind f_h0_world_laws h0_asker_world h0_asker_law h0_asker_cell h0_asker_shaft h0_asker_kind h0_asker_done h0_asker_latest h0_asker_value t t_clauses t_length n_t_heads f_t_heads n_t_code f_t_code f_h0_asker_stack h0_world_folk_listeners f_h0_world_folk_column f_h0_world_rock_hard f_h0_world_rock_water f_h0_world_crew_buckets h0_diary_kept h0_diary_latest f_h0_diary_deed f_h0_diary_whose f_h0_diary_before f_h0_diary_bucketsBefore f_h0_diary_dayBefore Q := by
  unfold wp_X7_tryHaul_T
  have l_kd := RXw.kd e_0
  have l_hd := RXw.hd e_0
  have l_wt := RXw.wt e_0
  have l_ce := RXw.ce e_0
  have l_bu := RXw.bu e_0
  have l_cc : h0_world_crew_count.toInt = w 0 := RXw.cc e_0
  have l_co := RXw.co e_0
  have l_ls : h0_world_folk_listeners.toInt = w 1 := RXw.ls e_0
  have l_te := RXw.te e_0
  have l_lc : h0_world_lawCount.toInt = w 5 := RXw.lc e_0
  have l_fo : h0_world_force.toInt = w 6 := RXw.fo e_0
  have hF : lawW w ls = some (ls (w 6).toNat) := lawW_s (by omega)
  refine o_X11_isWithin _ _ _ ?_
  by_cases c1 : a < 0
  · refine br1 c1 ?_
    have d2 := lt_z (x := (Int32.toInt a)) (y := 0) rfl rfl c1
    refine br1 (by decide) ?_
    have k3 : Int32.toInt (-2) = (-2) := (by decide)
    have hR4 : haulR (lawW w ls) w a.toInt = (-2) := by unfold haulR; (repeat' split) <;> omega
    exact hq _ _ _ _ _ _ _ _ _ _ _ _ _ _ _ _ _ _ ⟨(by decide), h_f_h0_world_term, ⟨by omega, by omega⟩, h_f_h0_world_rock_water, h_f_h0_world_crew_buckets, ⟨by omega, by omega⟩, ⟨by omega, by omega⟩, hR4.symm, (by unfold haulW; rw [if_pos (show haulR (lawW w ls) w a.toInt < 0 by omega)]; exact e_0), (by unfold haulW rmU; rw [if_pos (show haulR (lawW w ls) w a.toInt < 0 by omega), if_pos (show haulR (lawW w ls) w a.toInt < 0 by omega)]; exact e_1), e_2⟩
  · refine br0 c1 ?_
    have d5 := nlt_z (x := (Int32.toInt a)) (y := 0) rfl rfl c1
    by_cases c6 : h0_world_crew_count ≤ a
    · refine br1 c6 ?_
      have d7 := le_z (x := (Int32.toInt h0_world_crew_count)) (y := (Int32.toInt a)) rfl rfl c6
      refine br1 (by decide) ?_
      have k8 : Int32.toInt (-2) = (-2) := (by decide)
      have hR9 : haulR (lawW w ls) w a.toInt = (-2) := by unfold haulR; (repeat' split) <;> omega
      exact hq _ _ _ _ _ _ _ _ _ _ _ _ _ _ _ _ _ _ ⟨(by decide), h_f_h0_world_term, ⟨by omega, by omega⟩, h_f_h0_world_rock_water, h_f_h0_world_crew_buckets, ⟨by omega, by omega⟩, ⟨by omega, by omega⟩, hR9.symm, (by unfold haulW; rw [if_pos (show haulR (lawW w ls) w a.toInt < 0 by omega)]; exact e_0), (by unfold haulW rmU; rw [if_pos (show haulR (lawW w ls) w a.toInt < 0 by omega), if_pos (show haulR (lawW w ls) w a.toInt < 0 by omega)]; exact e_1), e_2⟩
    · refine br0 c6 ?_
      have d10 := nle_z (x := (Int32.toInt h0_world_crew_count)) (y := (Int32.toInt a)) rfl rfl c6
      refine br0 (by decide) ?_
      refine ⟨vpi (x := (Int32.toInt a)) rfl (by omega) (by omega), ?_⟩
      have g11 : 0 ≤ (Int32.toInt (f_h0_world_crew_cell a.toNatClampNeg)) ∧ (Int32.toInt (f_h0_world_crew_cell a.toNatClampNeg)) ≤ 39 := CE.at_0 h_f_h0_world_crew_cell (tnz (x := (Int32.toInt a)) rfl (by omega)) (by omega) (by omega)
      have t12 : (Int32.toInt (f_h0_world_crew_cell a.toNatClampNeg)) = w (10 + ((Int32.toInt a)).toNat) := RkW.z l_ce (i := ((Int32.toInt a)).toNat) rfl (by omega)
      refine ⟨vpi (x := (Int32.toInt (f_h0_world_crew_cell a.toNatClampNeg))) rfl (by omega) (by omega), ?_⟩
      by_cases c13 : (f_h0_world_rock_kind (f_h0_world_crew_cell a.toNatClampNeg).toNatClampNeg) = 3
      · refine br1 c13 ?_
        have g14 : 0 ≤ (Int32.toInt (f_h0_world_rock_kind (f_h0_world_crew_cell a.toNatClampNeg).toNatClampNeg)) ∧ (Int32.toInt (f_h0_world_rock_kind (f_h0_world_crew_cell a.toNatClampNeg).toNatClampNeg)) ≤ 3 := KI.at_0 h_f_h0_world_rock_kind (tnz (x := (Int32.toInt (f_h0_world_crew_cell a.toNatClampNeg))) rfl (by omega)) (by omega) (by omega)
        have t15 : (Int32.toInt (f_h0_world_rock_kind (f_h0_world_crew_cell a.toNatClampNeg).toNatClampNeg)) = w (113 + (w (10 + ((Int32.toInt a)).toNat)).toNat) := RkW.z l_kd (i := (w (10 + ((Int32.toInt a)).toNat)).toNat) (show Int.toNat _ = Int.toNat _ by omega) (by omega)
        have d16 := eq_z (x := (Int32.toInt (f_h0_world_rock_kind (f_h0_world_crew_cell a.toNatClampNeg).toNatClampNeg))) (y := 3) rfl rfl c13
        by_cases c17 : (f_h0_world_term (0 : Int32).toNatClampNeg) < 9999
        · refine br1 c17 ?_
          have g18 : 0 ≤ (Int32.toInt (f_h0_world_term (0 : Int32).toNatClampNeg)) ∧ (Int32.toInt (f_h0_world_term (0 : Int32).toNatClampNeg)) ≤ 9999 := TE.at_0 h_f_h0_world_term (rfl : ((0 : Nat) : Int) = 0) (by omega) (by omega)
          have t19 : (Int32.toInt (f_h0_world_term (0 : Int32).toNatClampNeg)) = w (7) := RkW.z l_te (i := 0) rfl (by omega)
          have d20 := lt_z (x := (Int32.toInt (f_h0_world_term (0 : Int32).toNatClampNeg))) (y := 9999) rfl rfl c17
          refine o_X10_lawInForce_T _ _ _ _ _ ?_
          refine o_X10_lawOf_T _ _ _ _ _ ?_
          refine br0 (z_nlt (x := (Int32.toInt h0_world_force)) (y := 0) rfl rfl (by omega)) ?_
          by_cases c21 : h0_world_lawCount ≤ h0_world_force
          · refine br1 c21 ?_
            have d22 := le_z (x := (Int32.toInt h0_world_lawCount)) (y := (Int32.toInt h0_world_force)) rfl rfl c21
            exfalso
            omega
          · refine br0 c21 ?_
            have d23 := nle_z (x := (Int32.toInt h0_world_lawCount)) (y := (Int32.toInt h0_world_force)) rfl rfl c21
            refine br0 (z_nle (x := 6) (y := (Int32.toInt h0_world_force)) rfl rfl (by omega)) ?_
            refine ⟨vpi (x := (Int32.toInt h0_world_force)) rfl (by omega) (by omega), ?_⟩
            refine ⟨by assumption, ?_⟩
            refine o_X0_turnTo_T _ ?_
            refine z_cgivesT e_3 e_4 (RXw.wk e_0) (LwB.of h_f_h0_world_rock_kind h_f_h0_world_rock_hard h_f_h0_world_rock_water h_f_h0_world_term) ⟨by omega, by omega⟩ ⟨by omega, by omega⟩ (fun r24 v25 st26 H27 => ?_)
            have j28 := H27.1
            have j29 := H27.2.1
            rw [← hF] at j29
            have j30 := H27.2.2
            rw [show (Int32.toInt (f_h0_world_crew_cell a.toNatClampNeg)) = w (10 + ((Int32.toInt a)).toNat) by omega] at j29
            refine un5_i ?_
            refine ⟨vpi (x := (Int32.toInt a)) rfl (by omega) (by omega), ?_⟩
            refine ⟨vpi (x := (Int32.toInt (f_h0_world_crew_cell a.toNatClampNeg))) rfl (by omega) (by omega), ?_⟩
            have k31 : Int32.toInt 1 = 1 := rfl
            have g32 : 0 ≤ (Int32.toInt (f_h0_world_rock_water (f_h0_world_crew_cell a.toNatClampNeg).toNatClampNeg)) ∧ (Int32.toInt (f_h0_world_rock_water (f_h0_world_crew_cell a.toNatClampNeg).toNatClampNeg)) ≤ 99 := WA.at_0 h_f_h0_world_rock_water (tnz (x := (Int32.toInt (f_h0_world_crew_cell a.toNatClampNeg))) rfl (by omega)) (by omega) (by omega)
            have t33 : (Int32.toInt (f_h0_world_rock_water (f_h0_world_crew_cell a.toNatClampNeg).toNatClampNeg)) = w (73 + (w (10 + ((Int32.toInt a)).toNat)).toNat) := RkW.z l_wt (i := (w (10 + ((Int32.toInt a)).toNat)).toNat) (show Int.toNat _ = Int.toNat _ by omega) (by omega)
            have g34 : 0 ≤ (Int32.toInt (f_h0_world_crew_buckets a.toNatClampNeg)) ∧ (Int32.toInt (f_h0_world_crew_buckets a.toNatClampNeg)) ≤ 9999 := BU.at_0 h_f_h0_world_crew_buckets (tnz (x := (Int32.toInt a)) rfl (by omega)) (by omega) (by omega)
            have t35 : (Int32.toInt (f_h0_world_crew_buckets a.toNatClampNeg)) = w (16 + ((Int32.toInt a)).toNat) := RkW.z l_bu (i := ((Int32.toInt a)).toNat) rfl (by omega)
            refine s_X2_addz 1 a (f_h0_world_rock_water (f_h0_world_crew_cell a.toNatClampNeg).toNatClampNeg) (f_h0_world_crew_buckets a.toNatClampNeg) (f_h0_world_term (0 : Int32).toNatClampNeg) h0_diary_kept h0_diary_latest (f_h0_diary_deed) (f_h0_diary_whose) (f_h0_diary_before) (f_h0_diary_bucketsBefore) (f_h0_diary_dayBefore) (w' := (haulC w (Int32.toInt a) (w (10 + ((Int32.toInt a)).toNat)) (Int32.toInt r24))) ⟨by omega, by omega⟩ ⟨by omega, by omega⟩ e_2 (by unfold DR; omega) e_1 (fun j _ _ => by rw [show (Int32.toInt (f_h0_world_rock_water (f_h0_world_crew_cell a.toNatClampNeg).toNatClampNeg)) = w (73 + (w (10 + ((Int32.toInt a)).toNat)).toNat) by omega, show (Int32.toInt (f_h0_world_crew_buckets a.toNatClampNeg)) = w (16 + ((Int32.toInt a)).toNat) by omega, show (Int32.toInt (f_h0_world_term (0 : Int32).toNatClampNeg)) = w (7) by omega]; exact inv_haul (by omega) j) (fun q => absurd q (by decide)) (fun u36 u37 u38 u39 u40 u41 u42 H43 => ?_)
            have j44 := H43.2.2.1
            have j45 := H43.2.2.2
            have j46 := H43.1
            have j47 := H43.2.1
            refine un7_i ?_
            refine ⟨vpi (x := (Int32.toInt (f_h0_world_crew_cell a.toNatClampNeg))) rfl (by omega) (by omega), ?_⟩
            refine ⟨vpi (x := (Int32.toInt (f_h0_world_crew_cell a.toNatClampNeg))) rfl (by omega) (by omega), ?_⟩
            refine ⟨vpi (x := (Int32.toInt a)) rfl (by omega) (by omega), ?_⟩
            have t48 := i32_hi r24
            have t49 : (Int32.toInt ((f_h0_world_term (0 : Int32).toNatClampNeg) + 1)) = (Int32.toInt (f_h0_world_term (0 : Int32).toNatClampNeg)) + 1 := add_z rfl rfl (by omega) (by omega)
            have R50 : TE (upd f_h0_world_term 0 ((f_h0_world_term (0 : Int32).toNatClampNeg) + 1)) := TE.up_0 h_f_h0_world_term (rfl : ((0 : Nat) : Int) = 0) (by omega) (by omega) (w := (Int32.toInt ((f_h0_world_term (0 : Int32).toNatClampNeg) + 1))) rfl (by omega) (by omega)
            have t51 : (Int32.toInt ((f_h0_world_rock_water (f_h0_world_crew_cell a.toNatClampNeg).toNatClampNeg) - r24)) = (Int32.toInt (f_h0_world_rock_water (f_h0_world_crew_cell a.toNatClampNeg).toNatClampNeg)) - (Int32.toInt r24) := sub_z rfl rfl (by omega) (by omega)
            have R52 : WA (upd f_h0_world_rock_water (f_h0_world_crew_cell a.toNatClampNeg).toNatClampNeg ((f_h0_world_rock_water (f_h0_world_crew_cell a.toNatClampNeg).toNatClampNeg) - r24)) := WA.up_0 h_f_h0_world_rock_water (tnz (x := (Int32.toInt (f_h0_world_crew_cell a.toNatClampNeg))) rfl (by omega)) (by omega) (by omega) (w := (Int32.toInt ((f_h0_world_rock_water (f_h0_world_crew_cell a.toNatClampNeg).toNatClampNeg) - r24))) rfl (by omega) (by omega)
            have t53 : (Int32.toInt ((f_h0_world_crew_buckets a.toNatClampNeg) + r24)) = (Int32.toInt (f_h0_world_crew_buckets a.toNatClampNeg)) + (Int32.toInt r24) := add_z rfl rfl (by omega) (by omega)
            have t54 := mn_z (a := 9999) (b := ((f_h0_world_crew_buckets a.toNatClampNeg) + r24))
            have k55 : Int32.toInt 9999 = 9999 := rfl
            have R56 : BU (upd f_h0_world_crew_buckets a.toNatClampNeg (if ((f_h0_world_crew_buckets a.toNatClampNeg) + r24) < 9999 then ((f_h0_world_crew_buckets a.toNatClampNeg) + r24) else 9999)) := BU.up_0 h_f_h0_world_crew_buckets (tnz (x := (Int32.toInt a)) rfl (by omega)) (by omega) (by omega) (w := (Int32.toInt (if ((f_h0_world_crew_buckets a.toNatClampNeg) + r24) < 9999 then ((f_h0_world_crew_buckets a.toNatClampNeg) + r24) else 9999))) rfl (by omega) (by omega)
            have hR57 : haulR (lawW w ls) w a.toInt = (Int32.toInt r24) := by unfold haulR; (repeat' split) <;> omega
            exact hq _ _ _ _ _ _ _ _ _ _ _ _ _ _ _ _ _ _ ⟨⟨by omega, by omega⟩, R50, ⟨by omega, by omega⟩, R52, R56, ⟨by omega, by omega⟩, ⟨by omega, by omega⟩, hR57.symm, (by unfold haulW; rw [if_neg (show ¬ haulR (lawW w ls) w a.toInt < 0 by omega)]; unfold haulO; rw [← j29]; unfold haulC; exact RXw.u_te (RXw.u_bu (i := a.toInt.toNat) (RXw.u_wt e_0 (show Int.toNat _ = Int.toNat _ by omega) (by omega) (by omega)) rfl (by omega) (by first | omega | ((repeat' split) <;> omega))) (k := 0) (i := 0) rfl (by decide) (by omega)), (by unfold haulW rmU; rw [if_neg (show ¬ haulR (lawW w ls) w a.toInt < 0 by omega), if_neg (show ¬ haulR (lawW w ls) w a.toInt < 0 by omega)]; unfold haulO; rw [← j29]; exact j45), j44⟩
        · refine br0 c17 ?_
          have g58 : 0 ≤ (Int32.toInt (f_h0_world_term (0 : Int32).toNatClampNeg)) ∧ (Int32.toInt (f_h0_world_term (0 : Int32).toNatClampNeg)) ≤ 9999 := TE.at_0 h_f_h0_world_term (rfl : ((0 : Nat) : Int) = 0) (by omega) (by omega)
          have t59 : (Int32.toInt (f_h0_world_term (0 : Int32).toNatClampNeg)) = w (7) := RkW.z l_te (i := 0) rfl (by omega)
          have d60 := nlt_z (x := (Int32.toInt (f_h0_world_term (0 : Int32).toNatClampNeg))) (y := 9999) rfl rfl c17
          have k61 : Int32.toInt (-3) = (-3) := (by decide)
          have hR62 : haulR (lawW w ls) w a.toInt = (-3) := by unfold haulR; (repeat' split) <;> omega
          exact hq _ _ _ _ _ _ _ _ _ _ _ _ _ _ _ _ _ _ ⟨(by decide), h_f_h0_world_term, ⟨by omega, by omega⟩, h_f_h0_world_rock_water, h_f_h0_world_crew_buckets, ⟨by omega, by omega⟩, ⟨by omega, by omega⟩, hR62.symm, (by unfold haulW; rw [if_pos (show haulR (lawW w ls) w a.toInt < 0 by omega)]; exact e_0), (by unfold haulW rmU; rw [if_pos (show haulR (lawW w ls) w a.toInt < 0 by omega), if_pos (show haulR (lawW w ls) w a.toInt < 0 by omega)]; exact e_1), e_2⟩
      · refine br0 c13 ?_
        have g63 : 0 ≤ (Int32.toInt (f_h0_world_rock_kind (f_h0_world_crew_cell a.toNatClampNeg).toNatClampNeg)) ∧ (Int32.toInt (f_h0_world_rock_kind (f_h0_world_crew_cell a.toNatClampNeg).toNatClampNeg)) ≤ 3 := KI.at_0 h_f_h0_world_rock_kind (tnz (x := (Int32.toInt (f_h0_world_crew_cell a.toNatClampNeg))) rfl (by omega)) (by omega) (by omega)
        have t64 : (Int32.toInt (f_h0_world_rock_kind (f_h0_world_crew_cell a.toNatClampNeg).toNatClampNeg)) = w (113 + (w (10 + ((Int32.toInt a)).toNat)).toNat) := RkW.z l_kd (i := (w (10 + ((Int32.toInt a)).toNat)).toNat) (show Int.toNat _ = Int.toNat _ by omega) (by omega)
        have d65 := ne_z (x := (Int32.toInt (f_h0_world_rock_kind (f_h0_world_crew_cell a.toNatClampNeg).toNatClampNeg))) (y := 3) rfl rfl c13
        have k66 : Int32.toInt (-3) = (-3) := (by decide)
        have hR67 : haulR (lawW w ls) w a.toInt = (-3) := by unfold haulR; (repeat' split) <;> omega
        exact hq _ _ _ _ _ _ _ _ _ _ _ _ _ _ _ _ _ _ ⟨(by decide), h_f_h0_world_term, ⟨by omega, by omega⟩, h_f_h0_world_rock_water, h_f_h0_world_crew_buckets, ⟨by omega, by omega⟩, ⟨by omega, by omega⟩, hR67.symm, (by unfold haulW; rw [if_pos (show haulR (lawW w ls) w a.toInt < 0 by omega)]; exact e_0), (by unfold haulW rmU; rw [if_pos (show haulR (lawW w ls) w a.toInt < 0 by omega), if_pos (show haulR (lawW w ls) w a.toInt < 0 by omega)]; exact e_1), e_2⟩


set_option maxRecDepth 100000 in
theorem s_X7_tryHushz (a : Int32) (h0_world_folk_noises : Int32) (h0_world_folk_hushed : Int32) (h0_diary_kept : Int32) (h0_diary_latest : Int32) (f_h0_diary_deed : Nat → Int32) (f_h0_diary_whose : Nat → Int32) (f_h0_diary_before : Nat → Int32) (f_h0_diary_bucketsBefore : Nat → Int32) (f_h0_diary_dayBefore : Nat → Int32) (f_h0_world_folk_noiseColumn : Nat → Int32) (f_h0_world_folk_noiseLoud : Nat → Int32) {w : Nat → Int} {U : UL} {g_kd : Nat → Int32} {g_hd : Nat → Int32} {g_wt : Nat → Int32} {g_dg : Int64} {g_ce : Nat → Int32} {g_bu : Nat → Int32} {g_cc : Int32} {g_co : Nat → Int32} {g_ea : Nat → Int32} {g_ls : Int32} {g_hc : Nat → Int32} {g_hl : Nat → Int32} {g_hs : Int32} {g_so : Nat → Int32} {g_we : Nat → Int32} {g_wl : Int32} {g_te : Nat → Int32} {g_lc : Int32} {g_fo : Int32} (h_h0_world_folk_noises : 0 ≤ h0_world_folk_noises.toInt ∧ h0_world_folk_noises.toInt ≤ 6) (h_h0_diary_kept : 0 ≤ h0_diary_kept.toInt ∧ h0_diary_kept.toInt ≤ 16) (h_h0_diary_latest : 0 ≤ h0_diary_latest.toInt ∧ h0_diary_latest.toInt ≤ 15) (h_f_h0_world_folk_noiseColumn : NC f_h0_world_folk_noiseColumn) (h_f_h0_world_folk_noiseLoud : NL f_h0_world_folk_noiseLoud) (e_0 : RXw g_kd g_hd g_wt g_dg g_ce g_bu g_cc g_co g_ea g_ls f_h0_world_folk_noiseColumn f_h0_world_folk_noiseLoud h0_world_folk_noises h0_world_folk_hushed g_hc g_hl g_hs g_so g_we g_wl g_te g_lc g_fo w) (e_1 : RXu f_h0_diary_deed f_h0_diary_whose f_h0_diary_before f_h0_diary_bucketsBefore f_h0_diary_dayBefore h0_diary_kept h0_diary_latest w U) (e_2 : DI f_h0_diary_deed f_h0_diary_whose f_h0_diary_before f_h0_diary_bucketsBefore f_h0_diary_dayBefore) {Q : Int32 → (Int32 × Int32 × Int32 × (Nat → Int32) × (Nat → Int32) × (Nat → Int32) × (Nat → Int32) × (Nat → Int32)) → Prop} (hq : ∀ (r : Int32) (u_0 : Int32) (u_1 : Int32) (u_2 : Int32) (u_3 : Nat → Int32) (u_4 : Nat → Int32) (u_5 : Nat → Int32) (u_6 : Nat → Int32) (u_7 : Nat → Int32), ((-3) ≤ r.toInt ∧ r.toInt ≤ 2147483647) ∧ (0 ≤ u_1.toInt ∧ u_1.toInt ≤ 16) ∧ (0 ≤ u_2.toInt ∧ u_2.toInt ≤ 15) ∧ (r.toInt = hushR w a.toInt) ∧ (RXw g_kd g_hd g_wt g_dg g_ce g_bu g_cc g_co g_ea g_ls f_h0_world_folk_noiseColumn f_h0_world_folk_noiseLoud h0_world_folk_noises u_0 g_hc g_hl g_hs g_so g_we g_wl g_te g_lc g_fo (hushW w a.toInt)) ∧ (RXu u_3 u_4 u_5 u_6 u_7 u_1 u_2 (hushW w a.toInt) (rmU (hushR w a.toInt) 2 w U)) ∧ (DI u_3 u_4 u_5 u_6 u_7) → Q r (u_0, u_1, u_2, u_3, u_4, u_5, u_6, u_7)) : wp_X7_tryHush a h0_world_folk_noises h0_world_folk_hushed h0_diary_kept h0_diary_latest f_h0_diary_deed f_h0_diary_whose f_h0_diary_before f_h0_diary_bucketsBefore f_h0_diary_dayBefore f_h0_world_folk_noiseColumn f_h0_world_folk_noiseLoud Q := by
  unfold wp_X7_tryHush
  have l_nc := RXw.nc e_0
  have l_nl := RXw.nl e_0
  have l_ns : h0_world_folk_noises.toInt = w 2 := RXw.ns e_0
  refine o_X11_isWithin _ _ _ ?_
  by_cases c1 : a < 0
  · refine br1 c1 ?_
    have d2 := lt_z (x := (Int32.toInt a)) (y := 0) rfl rfl c1
    refine br1 (by decide) ?_
    have k3 : Int32.toInt (-2) = (-2) := (by decide)
    have hR4 : hushR w a.toInt = (-2) := by unfold hushR; (repeat' split) <;> omega
    exact hq _ _ _ _ _ _ _ _ _ ⟨(by decide), ⟨by omega, by omega⟩, ⟨by omega, by omega⟩, hR4.symm, (by unfold hushW; rw [if_pos (show hushR w a.toInt < 0 by omega)]; exact e_0), (by unfold hushW rmU; rw [if_pos (show hushR w a.toInt < 0 by omega), if_pos (show hushR w a.toInt < 0 by omega)]; exact e_1), e_2⟩
  · refine br0 c1 ?_
    have d5 := nlt_z (x := (Int32.toInt a)) (y := 0) rfl rfl c1
    by_cases c6 : h0_world_folk_noises ≤ a
    · refine br1 c6 ?_
      have d7 := le_z (x := (Int32.toInt h0_world_folk_noises)) (y := (Int32.toInt a)) rfl rfl c6
      refine br1 (by decide) ?_
      have k8 : Int32.toInt (-2) = (-2) := (by decide)
      have hR9 : hushR w a.toInt = (-2) := by unfold hushR; (repeat' split) <;> omega
      exact hq _ _ _ _ _ _ _ _ _ ⟨(by decide), ⟨by omega, by omega⟩, ⟨by omega, by omega⟩, hR9.symm, (by unfold hushW; rw [if_pos (show hushR w a.toInt < 0 by omega)]; exact e_0), (by unfold hushW rmU; rw [if_pos (show hushR w a.toInt < 0 by omega), if_pos (show hushR w a.toInt < 0 by omega)]; exact e_1), e_2⟩
    · refine br0 c6 ?_
      have d10 := nle_z (x := (Int32.toInt h0_world_folk_noises)) (y := (Int32.toInt a)) rfl rfl c6
      refine br0 (by decide) ?_
      by_cases c11 : ((h0_world_folk_hushed >>> (a &&& 31)) &&& 1) = 0
      · refine br1 c11 ?_
        have t12 : 0 ≤ (Int32.toInt ((h0_world_folk_hushed >>> (a &&& 31)) &&& 1)) ∧ (Int32.toInt ((h0_world_folk_hushed >>> (a &&& 31)) &&& 1)) ≤ 1 := and_z (by decide)
        have d13 := eq_z (x := (Int32.toInt ((h0_world_folk_hushed >>> (a &&& 31)) &&& 1))) (y := 0) rfl rfl c11
        have hh14 := (RH.at (RXw.hu e_0) (by omega) (by omega)).mp c11
        have hh15 := RH.b (RXw.hu e_0) (i := a.toInt.toNat) (by omega)
        have k16 : Int32.toInt 2 = 2 := rfl
        have k17 : Int32.toInt 0 = 0 := rfl
        refine s_X2_addz 2 a 0 0 0 h0_diary_kept h0_diary_latest (f_h0_diary_deed) (f_h0_diary_whose) (f_h0_diary_before) (f_h0_diary_bucketsBefore) (f_h0_diary_dayBefore) (w' := (hushO w (Int32.toInt a))) ⟨by omega, by omega⟩ ⟨by omega, by omega⟩ e_2 (by unfold DR; omega) e_1 (fun j _ _ => inv_hush (by omega) j) (fun _ => ⟨by omega, by omega⟩) (fun u18 u19 u20 u21 u22 u23 u24 H25 => ?_)
        have j26 := H25.2.2.1
        have j27 := H25.2.2.2
        have j28 := H25.1
        have j29 := H25.2.1
        refine un7_i ?_
        refine ⟨vpi (x := (Int32.toInt a)) rfl (by omega) (by omega), ?_⟩
        have g31 : 0 ≤ (Int32.toInt (f_h0_world_folk_noiseColumn a.toNatClampNeg)) ∧ (Int32.toInt (f_h0_world_folk_noiseColumn a.toNatClampNeg)) ≤ 7 := NC.at_0 h_f_h0_world_folk_noiseColumn (tnz (x := (Int32.toInt a)) rfl (by omega)) (by omega) (by omega)
        have t32 : (Int32.toInt (f_h0_world_folk_noiseColumn a.toNatClampNeg)) = w (198 + ((Int32.toInt a)).toNat) := RkW.z l_nc (i := ((Int32.toInt a)).toNat) rfl (by omega)
        refine s_X4_noiseInz (f_h0_world_folk_noiseColumn a.toNatClampNeg) 0 h0_world_folk_noises (h0_world_folk_hushed ||| ((1 : Int32) <<< (a &&& 31))) (f_h0_world_folk_noiseColumn) (f_h0_world_folk_noiseLoud) (w := (hushO w a.toInt)) ⟨by omega, by omega⟩ ⟨by omega, by omega⟩ h_f_h0_world_folk_noiseColumn h_f_h0_world_folk_noiseLoud (RXw.nz (RXw.u_hus e_0 (by omega) (by omega) (by omega))) (fun r30 H33 => ?_)
        have j34 := H33.1
        have j35 : r30.toInt = nsS (uI w (22 + a.toInt.toNat) 1) (w (198 + ((Int32.toInt a)).toNat)) (fun _ => false) (w 2).toNat := by have q := H33.2; rw [show (Int32.toInt (f_h0_world_folk_noiseColumn a.toNatClampNeg)) = w (198 + ((Int32.toInt a)).toNat) by omega, show hushO w a.toInt 2 = w 2 from uI_n (by omega)] at q; rw [q]; exact nsS_0 (fun i _ => bh_0 i)
        have t36 := i32_hi r30
        have t37 : 1 ≤ (Int32.toInt ((1 : Int32) <<< (a &&& 31))) ∧ (Int32.toInt ((1 : Int32) <<< (a &&& 31))) ≤ 32 := shl1_c (by omega) (by omega)
        have hR38 : hushR w a.toInt = (Int32.toInt r30) := by unfold hushR; (repeat' split) <;> omega
        exact hq _ _ _ _ _ _ _ _ _ ⟨⟨by omega, by omega⟩, ⟨by omega, by omega⟩, ⟨by omega, by omega⟩, hR38.symm, (by unfold hushW; rw [if_neg (show ¬ hushR w a.toInt < 0 by omega)]; unfold hushO; exact RXw.u_hus e_0 (by omega) (by omega) (by omega)), (by unfold hushW rmU; rw [if_neg (show ¬ hushR w a.toInt < 0 by omega), if_neg (show ¬ hushR w a.toInt < 0 by omega)]; unfold hushO; exact j27), j26⟩
      · refine br0 c11 ?_
        have t39 : 0 ≤ (Int32.toInt ((h0_world_folk_hushed >>> (a &&& 31)) &&& 1)) ∧ (Int32.toInt ((h0_world_folk_hushed >>> (a &&& 31)) &&& 1)) ≤ 1 := and_z (by decide)
        have d40 := ne_z (x := (Int32.toInt ((h0_world_folk_hushed >>> (a &&& 31)) &&& 1))) (y := 0) rfl rfl c11
        have hh41 : ¬ w (22 + a.toInt.toNat) = 0 := fun q => c11 ((RH.at (RXw.hu e_0) (by omega) (by omega)).mpr q)
        have hh42 := RH.b (RXw.hu e_0) (i := a.toInt.toNat) (by omega)
        have k43 : Int32.toInt (-3) = (-3) := (by decide)
        have hR44 : hushR w a.toInt = (-3) := by unfold hushR; (repeat' split) <;> omega
        exact hq _ _ _ _ _ _ _ _ _ ⟨(by decide), ⟨by omega, by omega⟩, ⟨by omega, by omega⟩, hR44.symm, (by unfold hushW; rw [if_pos (show hushR w a.toInt < 0 by omega)]; exact e_0), (by unfold hushW rmU; rw [if_pos (show hushR w a.toInt < 0 by omega), if_pos (show hushR w a.toInt < 0 by omega)]; exact e_1), e_2⟩


set_option maxRecDepth 100000 in
theorem s_X7_tryLiez (a : Int32) (b : Int32) (h0_world_folk_listeners : Int32) (f_h0_world_folk_column : Nat → Int32) (h0_diary_kept : Int32) (h0_diary_latest : Int32) (f_h0_diary_deed : Nat → Int32) (f_h0_diary_whose : Nat → Int32) (f_h0_diary_before : Nat → Int32) (f_h0_diary_bucketsBefore : Nat → Int32) (f_h0_diary_dayBefore : Nat → Int32) {w : Nat → Int} {U : UL} {g_kd : Nat → Int32} {g_hd : Nat → Int32} {g_wt : Nat → Int32} {g_dg : Int64} {g_ce : Nat → Int32} {g_bu : Nat → Int32} {g_cc : Int32} {g_ea : Nat → Int32} {g_nc : Nat → Int32} {g_nl : Nat → Int32} {g_ns : Int32} {g_hu : Int32} {g_hc : Nat → Int32} {g_hl : Nat → Int32} {g_hs : Int32} {g_so : Nat → Int32} {g_we : Nat → Int32} {g_wl : Int32} {g_te : Nat → Int32} {g_lc : Int32} {g_fo : Int32} (h_h0_world_folk_listeners : 0 ≤ h0_world_folk_listeners.toInt ∧ h0_world_folk_listeners.toInt ≤ 5) (h_f_h0_world_folk_column : CO f_h0_world_folk_column) (h_h0_diary_kept : 0 ≤ h0_diary_kept.toInt ∧ h0_diary_kept.toInt ≤ 16) (h_h0_diary_latest : 0 ≤ h0_diary_latest.toInt ∧ h0_diary_latest.toInt ≤ 15) (e_0 : RXw g_kd g_hd g_wt g_dg g_ce g_bu g_cc f_h0_world_folk_column g_ea h0_world_folk_listeners g_nc g_nl g_ns g_hu g_hc g_hl g_hs g_so g_we g_wl g_te g_lc g_fo w) (e_1 : RXu f_h0_diary_deed f_h0_diary_whose f_h0_diary_before f_h0_diary_bucketsBefore f_h0_diary_dayBefore h0_diary_kept h0_diary_latest w U) (e_2 : DI f_h0_diary_deed f_h0_diary_whose f_h0_diary_before f_h0_diary_bucketsBefore f_h0_diary_dayBefore) {Q : Int32 → ((Nat → Int32) × Int32 × Int32 × (Nat → Int32) × (Nat → Int32) × (Nat → Int32) × (Nat → Int32) × (Nat → Int32)) → Prop} (hq : ∀ (r : Int32) (u_0 : Nat → Int32) (u_1 : Int32) (u_2 : Int32) (u_3 : Nat → Int32) (u_4 : Nat → Int32) (u_5 : Nat → Int32) (u_6 : Nat → Int32) (u_7 : Nat → Int32), ((-3) ≤ r.toInt ∧ r.toInt ≤ 2147483647) ∧ (CO u_0) ∧ (0 ≤ u_1.toInt ∧ u_1.toInt ≤ 16) ∧ (0 ≤ u_2.toInt ∧ u_2.toInt ≤ 15) ∧ (r.toInt = lieR w a.toInt b.toInt) ∧ (RXw g_kd g_hd g_wt g_dg g_ce g_bu g_cc u_0 g_ea h0_world_folk_listeners g_nc g_nl g_ns g_hu g_hc g_hl g_hs g_so g_we g_wl g_te g_lc g_fo (lieW w a.toInt b.toInt)) ∧ (RXu u_3 u_4 u_5 u_6 u_7 u_1 u_2 (lieW w a.toInt b.toInt) (rmU (lieR w a.toInt b.toInt) 3 w U)) ∧ (DI u_3 u_4 u_5 u_6 u_7) → Q r (u_0, u_1, u_2, u_3, u_4, u_5, u_6, u_7)) : wp_X7_tryLie a b h0_world_folk_listeners f_h0_world_folk_column h0_diary_kept h0_diary_latest f_h0_diary_deed f_h0_diary_whose f_h0_diary_before f_h0_diary_bucketsBefore f_h0_diary_dayBefore Q := by
  unfold wp_X7_tryLie
  have l_co := RXw.co e_0
  have l_ls : h0_world_folk_listeners.toInt = w 1 := RXw.ls e_0
  refine o_X11_isWithin _ _ _ ?_
  by_cases c1 : b < 0
  · refine br1 c1 ?_
    have d2 := lt_z (x := (Int32.toInt b)) (y := 0) rfl rfl c1
    refine br1 (by decide) ?_
    have k3 : Int32.toInt (-1) = (-1) := (by decide)
    have hR4 : lieR w a.toInt b.toInt = (-1) := by unfold lieR; (repeat' split) <;> omega
    exact hq _ _ _ _ _ _ _ _ _ ⟨(by decide), h_f_h0_world_folk_column, ⟨by omega, by omega⟩, ⟨by omega, by omega⟩, hR4.symm, (by unfold lieW; rw [if_pos (show lieR w a.toInt b.toInt < 0 by omega)]; exact e_0), (by unfold lieW rmU; rw [if_pos (show lieR w a.toInt b.toInt < 0 by omega), if_pos (show lieR w a.toInt b.toInt < 0 by omega)]; exact e_1), e_2⟩
  · refine br0 c1 ?_
    have d5 := nlt_z (x := (Int32.toInt b)) (y := 0) rfl rfl c1
    by_cases c6 : 8 ≤ b
    · refine br1 c6 ?_
      have d7 := le_z (x := 8) (y := (Int32.toInt b)) rfl rfl c6
      refine br1 (by decide) ?_
      have k8 : Int32.toInt (-1) = (-1) := (by decide)
      have hR9 : lieR w a.toInt b.toInt = (-1) := by unfold lieR; (repeat' split) <;> omega
      exact hq _ _ _ _ _ _ _ _ _ ⟨(by decide), h_f_h0_world_folk_column, ⟨by omega, by omega⟩, ⟨by omega, by omega⟩, hR9.symm, (by unfold lieW; rw [if_pos (show lieR w a.toInt b.toInt < 0 by omega)]; exact e_0), (by unfold lieW rmU; rw [if_pos (show lieR w a.toInt b.toInt < 0 by omega), if_pos (show lieR w a.toInt b.toInt < 0 by omega)]; exact e_1), e_2⟩
    · refine br0 c6 ?_
      have d10 := nle_z (x := 8) (y := (Int32.toInt b)) rfl rfl c6
      refine br0 (by decide) ?_
      refine o_X11_isWithin _ _ _ ?_
      by_cases c11 : a < 0
      · refine br1 c11 ?_
        have d12 := lt_z (x := (Int32.toInt a)) (y := 0) rfl rfl c11
        refine br1 (by decide) ?_
        have k13 : Int32.toInt (-2) = (-2) := (by decide)
        have hR14 : lieR w a.toInt b.toInt = (-2) := by unfold lieR; (repeat' split) <;> omega
        exact hq _ _ _ _ _ _ _ _ _ ⟨(by decide), h_f_h0_world_folk_column, ⟨by omega, by omega⟩, ⟨by omega, by omega⟩, hR14.symm, (by unfold lieW; rw [if_pos (show lieR w a.toInt b.toInt < 0 by omega)]; exact e_0), (by unfold lieW rmU; rw [if_pos (show lieR w a.toInt b.toInt < 0 by omega), if_pos (show lieR w a.toInt b.toInt < 0 by omega)]; exact e_1), e_2⟩
      · refine br0 c11 ?_
        have d15 := nlt_z (x := (Int32.toInt a)) (y := 0) rfl rfl c11
        by_cases c16 : h0_world_folk_listeners ≤ a
        · refine br1 c16 ?_
          have d17 := le_z (x := (Int32.toInt h0_world_folk_listeners)) (y := (Int32.toInt a)) rfl rfl c16
          refine br1 (by decide) ?_
          have k18 : Int32.toInt (-2) = (-2) := (by decide)
          have hR19 : lieR w a.toInt b.toInt = (-2) := by unfold lieR; (repeat' split) <;> omega
          exact hq _ _ _ _ _ _ _ _ _ ⟨(by decide), h_f_h0_world_folk_column, ⟨by omega, by omega⟩, ⟨by omega, by omega⟩, hR19.symm, (by unfold lieW; rw [if_pos (show lieR w a.toInt b.toInt < 0 by omega)]; exact e_0), (by unfold lieW rmU; rw [if_pos (show lieR w a.toInt b.toInt < 0 by omega), if_pos (show lieR w a.toInt b.toInt < 0 by omega)]; exact e_1), e_2⟩
        · refine br0 c16 ?_
          have d20 := nle_z (x := (Int32.toInt h0_world_folk_listeners)) (y := (Int32.toInt a)) rfl rfl c16
          refine br0 (by decide) ?_
          refine ⟨vpi (x := (Int32.toInt a)) rfl (by omega) (by omega), ?_⟩
          have k21 : Int32.toInt 3 = 3 := rfl
          have g22 : 0 ≤ (Int32.toInt (f_h0_world_folk_column a.toNatClampNeg)) ∧ (Int32.toInt (f_h0_world_folk_column a.toNatClampNeg)) ≤ 7 := CO.at_0 h_f_h0_world_folk_column (tnz (x := (Int32.toInt a)) rfl (by omega)) (by omega) (by omega)
          have t23 : (Int32.toInt (f_h0_world_folk_column a.toNatClampNeg)) = w (28 + ((Int32.toInt a)).toNat) := RkW.z l_co (i := ((Int32.toInt a)).toNat) rfl (by omega)
          have k24 : Int32.toInt 0 = 0 := rfl
          refine s_X2_addz 3 a (f_h0_world_folk_column a.toNatClampNeg) 0 0 h0_diary_kept h0_diary_latest (f_h0_diary_deed) (f_h0_diary_whose) (f_h0_diary_before) (f_h0_diary_bucketsBefore) (f_h0_diary_dayBefore) (w' := (lieO w (Int32.toInt a) b.toInt)) ⟨by omega, by omega⟩ ⟨by omega, by omega⟩ e_2 (by unfold DR; omega) e_1 (fun j _ _ => by rw [show (Int32.toInt (f_h0_world_folk_column a.toNatClampNeg)) = w (28 + ((Int32.toInt a)).toNat) by omega]; exact inv_lie j) (fun q => absurd q (by decide)) (fun u25 u26 u27 u28 u29 u30 u31 H32 => ?_)
          have j33 := H32.2.2.1
          have j34 := H32.2.2.2
          have j35 := H32.1
          have j36 := H32.2.1
          refine un7_i ?_
          refine ⟨vpi (x := (Int32.toInt a)) rfl (by omega) (by omega), ?_⟩
          have t37 := i32_hi (f_h0_world_folk_column a.toNatClampNeg)
          have R38 : CO (upd f_h0_world_folk_column a.toNatClampNeg b) := CO.up_0 h_f_h0_world_folk_column (tnz (x := (Int32.toInt a)) rfl (by omega)) (by omega) (by omega) (w := (Int32.toInt b)) rfl (by omega) (by omega)
          have hR39 : lieR w a.toInt b.toInt = (Int32.toInt (f_h0_world_folk_column a.toNatClampNeg)) := by unfold lieR; (repeat' split) <;> omega
          exact hq _ _ _ _ _ _ _ _ _ ⟨⟨by omega, by omega⟩, R38, ⟨by omega, by omega⟩, ⟨by omega, by omega⟩, hR39.symm, (by unfold lieW; rw [if_neg (show ¬ lieR w a.toInt b.toInt < 0 by omega)]; unfold lieO; exact RXw.u_co e_0 rfl (by omega) rfl), (by unfold lieW rmU; rw [if_neg (show ¬ lieR w a.toInt b.toInt < 0 by omega), if_neg (show ¬ lieR w a.toInt b.toInt < 0 by omega)]; unfold lieO; exact j34), j33⟩

