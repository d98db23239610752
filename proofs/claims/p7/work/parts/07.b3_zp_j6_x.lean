section
theorem o_X10_mayBeDugOn (a : Int32) (f_h0_crew_cell : Nat → Int32) (f_h0_rock_kind : Nat → Int32) (Q : Int32 → Prop) (h : (vp_in a 6 ∧ (wp_X6_endsAWay (f_h0_crew_cell a.toNatClampNeg) (f_h0_rock_kind) (fun (r_13 : Int32) => (if r_13 = 0 then (Q 1) else (Q 0)))))) : wp_X10_mayBeDugOn a f_h0_crew_cell f_h0_rock_kind Q := h
set_option maxRecDepth 100000 in
theorem s_X7_tryDig_Nz (a : Int32) (b : Int32) (h0_world : Nat) (h0_world_lawCount : Int32) (h0_world_force : Int32) (h0_world_crew_count : Int32) (f_h0_world_crew_cell : Nat → Int32) (h0_world_rock_dug : Int64) (f_h0_world_rock_kind : Nat → Int32) (f_h0_world_laws : Nat → Option Nat) (h0_asker_world : Value) (h0_asker_law : Value) (h0_asker_cell : Int32) (h0_asker_shaft : Int32) (h0_asker_kind : Int32) (f_h0_world_term : Nat → Int32) (f_h0_world_rock_hard : Nat → Int32) (h0_diary_kept : Int32) (h0_diary_latest : Int32) (f_h0_diary_deed : Nat → Int32) (f_h0_diary_whose : Nat → Int32) (f_h0_diary_before : Nat → Int32) (f_h0_diary_bucketsBefore : Nat → Int32) (f_h0_diary_dayBefore : Nat → Int32) {w : Nat → Int} {U : UL} {ls : Nat → List Cls} {g_wt : Nat → Int32} {g_bu : Nat → Int32} {g_co : Nat → Int32} {g_ea : Nat → Int32} {g_ls : Int32} {g_nc : Nat → Int32} {g_nl : Nat → Int32} {g_ns : Int32} {g_hu : Int32} {g_hc : Nat → Int32} {g_hl : Nat → Int32} {g_hs : Int32} {g_so : Nat → Int32} {g_we : Nat → Int32} {g_wl : Int32} (h_h0_world_lawCount : 0 ≤ h0_world_lawCount.toInt ∧ h0_world_lawCount.toInt ≤ 6) (h_h0_world_force : (-1) ≤ h0_world_force.toInt ∧ h0_world_force.toInt ≤ (-1)) (h_h0_world_crew_count : 0 ≤ h0_world_crew_count.toInt ∧ h0_world_crew_count.toInt ≤ 6) (h_f_h0_world_crew_cell : CE f_h0_world_crew_cell) (h_f_h0_world_rock_kind : KI f_h0_world_rock_kind) (h_h0_asker_cell : 0 ≤ h0_asker_cell.toInt ∧ h0_asker_cell.toInt ≤ 39) (h_f_h0_world_term : TE f_h0_world_term) (h_f_h0_world_rock_hard : HA f_h0_world_rock_hard) (h_h0_diary_kept : 0 ≤ h0_diary_kept.toInt ∧ h0_diary_kept.toInt ≤ 16) (h_h0_diary_latest : 0 ≤ h0_diary_latest.toInt ∧ h0_diary_latest.toInt ≤ 15) (e_0 : RXw f_h0_world_rock_kind f_h0_world_rock_hard g_wt h0_world_rock_dug f_h0_world_crew_cell g_bu h0_world_crew_count g_co g_ea g_ls g_nc g_nl g_ns g_hu g_hc g_hl g_hs g_so g_we g_wl f_h0_world_term h0_world_lawCount h0_world_force w) (e_1 : RXu f_h0_diary_deed f_h0_diary_whose f_h0_diary_before f_h0_diary_bucketsBefore f_h0_diary_dayBefore h0_diary_kept h0_diary_latest w U) (e_2 : DI f_h0_diary_deed f_h0_diary_whose f_h0_diary_before f_h0_diary_bucketsBefore f_h0_diary_dayBefore) {Q : Int32 → ((Nat → Int32) × Int64 × Value × Value × Int32 × Int32 × Int32 × (Nat → Int32) × Int32 × Int32 × (Nat → Int32) × (Nat → Int32) × (Nat → Int32) × (Nat → Int32) × (Nat → Int32)) → Prop} (hq : ∀ (r : Int32) (u_0 : Nat → Int32) (u_1 : Int64) (u_2 : Value) (u_3 : Value) (u_4 : Int32) (u_5 : Int32) (u_6 : Int32) (u_7 : Nat → Int32) (u_8 : Int32) (u_9 : Int32) (u_10 : Nat → Int32) (u_11 : Nat → Int32) (u_12 : Nat → Int32) (u_13 : Nat → Int32) (u_14 : Nat → Int32), ((-3) ≤ r.toInt ∧ r.toInt ≤ 2147483647) ∧ (CE u_0) ∧ (0 ≤ u_4.toInt ∧ u_4.toInt ≤ 39) ∧ (TE u_7) ∧ (0 ≤ u_8.toInt ∧ u_8.toInt ≤ 16) ∧ (0 ≤ u_9.toInt ∧ u_9.toInt ≤ 15) ∧ (r.toInt = digR (lawW w ls) w a.toInt b.toInt) ∧ (RXw f_h0_world_rock_kind f_h0_world_rock_hard g_wt u_1 u_0 g_bu h0_world_crew_count g_co g_ea g_ls g_nc g_nl g_ns g_hu g_hc g_hl g_hs g_so g_we g_wl u_7 h0_world_lawCount h0_world_force (digW (lawW w ls) w a.toInt b.toInt)) ∧ (RXu u_10 u_11 u_12 u_13 u_14 u_8 u_9 (digW (lawW w ls) w a.toInt b.toInt) (rmU (digR (lawW w ls) w a.toInt b.toInt) 0 w U)) ∧ (DI u_10 u_11 u_12 u_13 u_14) → Q r (u_0, u_1, u_2, u_3, u_4, u_5, u_6, u_7, u_8, u_9, u_10, u_11, u_12, u_13, u_14)) : wp_X7_tryDig_N a b h0_world h0_world_lawCount h0_world_force h0_world_crew_count f_h0_world_crew_cell h0_world_rock_dug f_h0_world_rock_kind f_h0_world_laws h0_asker_world h0_asker_law h0_asker_cell h0_asker_shaft h0_asker_kind f_h0_world_term f_h0_world_rock_hard h0_diary_kept h0_diary_latest f_h0_diary_deed f_h0_diary_whose f_h0_diary_before f_h0_diary_bucketsBefore f_h0_diary_dayBefore Q := by
  unfold wp_X7_tryDig_N
  have l_kd := RXw.kd e_0
  have l_hd := RXw.hd e_0
  have l_ce := RXw.ce e_0
  have l_cc : h0_world_crew_count.toInt = w 0 := RXw.cc e_0
  have l_te := RXw.te e_0
  have l_lc : h0_world_lawCount.toInt = w 5 := RXw.lc e_0
  have l_fo : h0_world_force.toInt = w 6 := RXw.fo e_0
  have hF : lawW w ls = none := lawW_n (by omega)
  by_cases c1 : b < 0
  · refine br1 c1 ?_
    have d2 := lt_z (x := (Int32.toInt b)) (y := 0) rfl rfl c1
    have k3 : Int32.toInt (-1) = (-1) := (by decide)
    have hR4 : digR (lawW w ls) w a.toInt b.toInt = (-1) := by unfold digR; (repeat' split) <;> omega
    exact hq _ _ _ _ _ _ _ _ _ _ _ _ _ _ _ _ ⟨(by decide), h_f_h0_world_crew_cell, (by first | with_reducible assumption | exact ⟨by omega, by omega⟩), h_f_h0_world_term, (by first | with_reducible assumption | exact ⟨by omega, by omega⟩), (by first | with_reducible assumption | exact ⟨by omega, by omega⟩), hR4.symm, (by unfold digW; rw [if_pos (show digR (lawW w ls) w a.toInt b.toInt < 0 by omega)]; exact e_0), (by unfold digW rmU; rw [if_pos (show digR (lawW w ls) w a.toInt b.toInt < 0 by omega), if_pos (show digR (lawW w ls) w a.toInt b.toInt < 0 by omega)]; exact e_1), e_2⟩
  · refine br0 c1 ?_
    have d5 := nlt_z (x := (Int32.toInt b)) (y := 0) rfl rfl c1
    by_cases c6 : b ≤ 2
    · refine br1 c6 ?_
      have d7 := le_z (x := (Int32.toInt b)) (y := 2) rfl rfl c6
      refine o_X11_isWithin _ _ _ ?_
      by_cases c8 : a < 0
      · refine br1 c8 ?_
        have d9 := lt_z (x := (Int32.toInt a)) (y := 0) rfl rfl c8
        refine br1 (by decide) ?_
        have k10 : Int32.toInt (-2) = (-2) := (by decide)
        have hR11 : digR (lawW w ls) w a.toInt b.toInt = (-2) := by unfold digR; (repeat' split) <;> omega
        exact hq _ _ _ _ _ _ _ _ _ _ _ _ _ _ _ _ ⟨(by decide), h_f_h0_world_crew_cell, (by first | with_reducible assumption | exact ⟨by omega, by omega⟩), h_f_h0_world_term, (by first | with_reducible assumption | exact ⟨by omega, by omega⟩), (by first | with_reducible assumption | exact ⟨by omega, by omega⟩), hR11.symm, (by unfold digW; rw [if_pos (show digR (lawW w ls) w a.toInt b.toInt < 0 by omega)]; exact e_0), (by unfold digW rmU; rw [if_pos (show digR (lawW w ls) w a.toInt b.toInt < 0 by omega), if_pos (show digR (lawW w ls) w a.toInt b.toInt < 0 by omega)]; exact e_1), e_2⟩
      · refine br0 c8 ?_
        have d12 := nlt_z (x := (Int32.toInt a)) (y := 0) rfl rfl c8
        by_cases c13 : h0_world_crew_count ≤ a
        · refine br1 c13 ?_
          have d14 := le_z (x := (Int32.toInt h0_world_crew_count)) (y := (Int32.toInt a)) rfl rfl c13
          refine br1 (by decide) ?_
          have k15 : Int32.toInt (-2) = (-2) := (by decide)
          have hR16 : digR (lawW w ls) w a.toInt b.toInt = (-2) := by unfold digR; (repeat' split) <;> omega
          exact hq _ _ _ _ _ _ _ _ _ _ _ _ _ _ _ _ ⟨(by decide), h_f_h0_world_crew_cell, (by first | with_reducible assumption | exact ⟨by omega, by omega⟩), h_f_h0_world_term, (by first | with_reducible assumption | exact ⟨by omega, by omega⟩), (by first | with_reducible assumption | exact ⟨by omega, by omega⟩), hR16.symm, (by unfold digW; rw [if_pos (show digR (lawW w ls) w a.toInt b.toInt < 0 by omega)]; exact e_0), (by unfold digW rmU; rw [if_pos (show digR (lawW w ls) w a.toInt b.toInt < 0 by omega), if_pos (show digR (lawW w ls) w a.toInt b.toInt < 0 by omega)]; exact e_1), e_2⟩
        · refine br0 c13 ?_
          have d17 := nle_z (x := (Int32.toInt h0_world_crew_count)) (y := (Int32.toInt a)) rfl rfl c13
          refine br0 (by decide) ?_
          refine ⟨vpi (x := (Int32.toInt a)) rfl (by omega) (by omega), ?_⟩
          have g19 : 0 ≤ (Int32.toInt (f_h0_world_crew_cell a.toNatClampNeg)) ∧ (Int32.toInt (f_h0_world_crew_cell a.toNatClampNeg)) ≤ 39 := CE.at_0 h_f_h0_world_crew_cell (tnz (x := (Int32.toInt a)) rfl (by omega)) (by omega) (by omega)
          have t20 : (Int32.toInt (f_h0_world_crew_cell a.toNatClampNeg)) = w (10 + ((Int32.toInt a)).toNat) := RkW.z l_ce (i := ((Int32.toInt a)).toNat) rfl (by omega)
          refine z_neigh (z := w (10 + ((Int32.toInt a)).toNat)) (by omega) (by first | with_reducible assumption | exact ⟨by omega, by omega⟩) (by first | with_reducible assumption | exact ⟨by omega, by omega⟩) (fun r18 H21 => ?_)
          have j23 := H21.1
          have j22 := H21.2
          refine o_X10_mayBeDugOn _ _ _ _ ?_
          refine ⟨vpi (x := (Int32.toInt a)) rfl (by omega) (by omega), ?_⟩
          refine o_X6_endsAWay _ _ _ ?_
          refine ⟨vpi (x := (Int32.toInt (f_h0_world_crew_cell a.toNatClampNeg))) rfl (by omega) (by omega), ?_⟩
          by_cases c24 : (f_h0_world_rock_kind (f_h0_world_crew_cell a.toNatClampNeg).toNatClampNeg) = 2
          · refine br1 c24 ?_
            have g25 : 0 ≤ (Int32.toInt (f_h0_world_rock_kind (f_h0_world_crew_cell a.toNatClampNeg).toNatClampNeg)) ∧ (Int32.toInt (f_h0_world_rock_kind (f_h0_world_crew_cell a.toNatClampNeg).toNatClampNeg)) ≤ 3 := KI.at_0 h_f_h0_world_rock_kind (tnz (x := (Int32.toInt (f_h0_world_crew_cell a.toNatClampNeg))) rfl (by omega)) (by omega) (by omega)
            have t26 : (Int32.toInt (f_h0_world_rock_kind (f_h0_world_crew_cell a.toNatClampNeg).toNatClampNeg)) = w (113 + (w (10 + ((Int32.toInt a)).toNat)).toNat) := RkW.z l_kd (i := (w (10 + ((Int32.toInt a)).toNat)).toNat) (show Int.toNat _ = Int.toNat _ by omega) (by omega)
            have d27 := eq_z (x := (Int32.toInt (f_h0_world_rock_kind (f_h0_world_crew_cell a.toNatClampNeg).toNatClampNeg))) (y := 2) rfl rfl c24
            refine br0 (by decide) ?_
            refine br1 (by decide) ?_
            have k28 : Int32.toInt (-3) = (-3) := (by decide)
            have hR29 : digR (lawW w ls) w a.toInt b.toInt = (-3) := by unfold digR; rw [← j22]; (repeat' split) <;> omega
            exact hq _ _ _ _ _ _ _ _ _ _ _ _ _ _ _ _ ⟨(by decide), h_f_h0_world_crew_cell, (by first | with_reducible assumption | exact ⟨by omega, by omega⟩), h_f_h0_world_term, (by first | with_reducible assumption | exact ⟨by omega, by omega⟩), (by first | with_reducible assumption | exact ⟨by omega, by omega⟩), hR29.symm, (by unfold digW; rw [if_pos (show digR (lawW w ls) w a.toInt b.toInt < 0 by omega)]; exact e_0), (by unfold digW rmU; rw [if_pos (show digR (lawW w ls) w a.toInt b.toInt < 0 by omega), if_pos (show digR (lawW w ls) w a.toInt b.toInt < 0 by omega)]; exact e_1), e_2⟩
          · refine br0 c24 ?_
            have g30 : 0 ≤ (Int32.toInt (f_h0_world_rock_kind (f_h0_world_crew_cell a.toNatClampNeg).toNatClampNeg)) ∧ (Int32.toInt (f_h0_world_rock_kind (f_h0_world_crew_cell a.toNatClampNeg).toNatClampNeg)) ≤ 3 := KI.at_0 h_f_h0_world_rock_kind (tnz (x := (Int32.toInt (f_h0_world_crew_cell a.toNatClampNeg))) rfl (by omega)) (by omega) (by omega)
            have t31 : (Int32.toInt (f_h0_world_rock_kind (f_h0_world_crew_cell a.toNatClampNeg).toNatClampNeg)) = w (113 + (w (10 + ((Int32.toInt a)).toNat)).toNat) := RkW.z l_kd (i := (w (10 + ((Int32.toInt a)).toNat)).toNat) (show Int.toNat _ = Int.toNat _ by omega) (by omega)
            have d32 := ne_z (x := (Int32.toInt (f_h0_world_rock_kind (f_h0_world_crew_cell a.toNatClampNeg).toNatClampNeg))) (y := 2) rfl rfl c24
            refine ⟨vpi (x := (Int32.toInt (f_h0_world_crew_cell a.toNatClampNeg))) rfl (by omega) (by omega), ?_⟩
            by_cases c33 : (f_h0_world_rock_kind (f_h0_world_crew_cell a.toNatClampNeg).toNatClampNeg) = 3
            · refine br1 c33 ?_
              have d34 := eq_z (x := (Int32.toInt (f_h0_world_rock_kind (f_h0_world_crew_cell a.toNatClampNeg).toNatClampNeg))) (y := 3) rfl rfl c33
              refine br0 (by decide) ?_
              refine br1 (by decide) ?_
              have k35 : Int32.toInt (-3) = (-3) := (by decide)
              have hR36 : digR (lawW w ls) w a.toInt b.toInt = (-3) := by unfold digR; rw [← j22]; (repeat' split) <;> omega
              exact hq _ _ _ _ _ _ _ _ _ _ _ _ _ _ _ _ ⟨(by decide), h_f_h0_world_crew_cell, (by first | with_reducible assumption | exact ⟨by omega, by omega⟩), h_f_h0_world_term, (by first | with_reducible assumption | exact ⟨by omega, by omega⟩), (by first | with_reducible assumption | exact ⟨by omega, by omega⟩), hR36.symm, (by unfold digW; rw [if_pos (show digR (lawW w ls) w a.toInt b.toInt < 0 by omega)]; exact e_0), (by unfold digW rmU; rw [if_pos (show digR (lawW w ls) w a.toInt b.toInt < 0 by omega), if_pos (show digR (lawW w ls) w a.toInt b.toInt < 0 by omega)]; exact e_1), e_2⟩
            · refine br0 c33 ?_
              have d37 := ne_z (x := (Int32.toInt (f_h0_world_rock_kind (f_h0_world_crew_cell a.toNatClampNeg).toNatClampNeg))) (y := 3) rfl rfl c33
              refine br1 (by decide) ?_
              refine br0 (by decide) ?_
              by_cases c38 : r18 = (-1)
              · refine br1 c38 ?_
                have d39 := eq_z (x := (Int32.toInt r18)) (y := (-1)) rfl (by decide) c38
                have k40 : Int32.toInt (-3) = (-3) := (by decide)
                have hR41 : digR (lawW w ls) w a.toInt b.toInt = (-3) := by unfold digR; rw [← j22]; (repeat' split) <;> omega
                exact hq _ _ _ _ _ _ _ _ _ _ _ _ _ _ _ _ ⟨(by decide), h_f_h0_world_crew_cell, (by first | with_reducible assumption | exact ⟨by omega, by omega⟩), h_f_h0_world_term, (by first | with_reducible assumption | exact ⟨by omega, by omega⟩), (by first | with_reducible assumption | exact ⟨by omega, by omega⟩), hR41.symm, (by unfold digW; rw [if_pos (show digR (lawW w ls) w a.toInt b.toInt < 0 by omega)]; exact e_0), (by unfold digW rmU; rw [if_pos (show digR (lawW w ls) w a.toInt b.toInt < 0 by omega), if_pos (show digR (lawW w ls) w a.toInt b.toInt < 0 by omega)]; exact e_1), e_2⟩
              · refine br0 c38 ?_
                have d42 := ne_z (x := (Int32.toInt r18)) (y := (-1)) rfl (by decide) c38
                refine s_X6_isDugz r18 h0_world_rock_dug (by first | with_reducible assumption | exact ⟨by omega, by omega⟩) (RXw.dg e_0) (fun r43 H44 => ?_)
                have j45 := H44.1
                have j46 := H44.2
                by_cases c47 : r43 = 0
                · refine br1 c47 ?_
                  have d48 := eq_z (x := (Int32.toInt r43)) (y := 0) rfl rfl c47
                  refine o_X10_lawInForce_N _ _ _ _ ?_
                  refine o_X10_lawOf_N _ _ _ _ ?_
                  refine br1 (z_lt (x := (Int32.toInt h0_world_force)) (y := 0) rfl rfl (by omega)) ?_
                  refine o_X0_turnTo_N _ ?_
                  refine z_cdigsN (RXw.wk e_0) (by first | with_reducible assumption | exact ⟨by omega, by omega⟩)  (fun r49 H50 => ?_)
                  have j51 := H50.1
                  have j52 := H50.2
                  rw [← hF] at j52
                  refine un3_i ?_
                  by_cases c53 : 9999 < ((f_h0_world_term (0 : Int32).toNatClampNeg) + r49)
                  · refine br1 c53 ?_
                    have g54 : 0 ≤ (Int32.toInt (f_h0_world_term (0 : Int32).toNatClampNeg)) ∧ (Int32.toInt (f_h0_world_term (0 : Int32).toNatClampNeg)) ≤ 9999 := TE.at_0 h_f_h0_world_term (rfl : ((0 : Nat) : Int) = 0) (by omega) (by omega)
                    have t55 : (Int32.toInt (f_h0_world_term (0 : Int32).toNatClampNeg)) = w (7) := RkW.z l_te (i := 0) rfl (by omega)
                    have t56 : (Int32.toInt ((f_h0_world_term (0 : Int32).toNatClampNeg) + r49)) = (Int32.toInt (f_h0_world_term (0 : Int32).toNatClampNeg)) + (Int32.toInt r49) := add_z rfl rfl (by omega) (by omega)
                    have d57 := lt_z (x := 9999) (y := (Int32.toInt ((f_h0_world_term (0 : Int32).toNatClampNeg) + r49))) rfl rfl c53
                    have k58 : Int32.toInt (-3) = (-3) := (by decide)
                    have g59 : 0 ≤ (Int32.toInt (f_h0_world_rock_kind r18.toNatClampNeg)) ∧ (Int32.toInt (f_h0_world_rock_kind r18.toNatClampNeg)) ≤ 3 := KI.at_0 h_f_h0_world_rock_kind (tnz (x := (Int32.toInt r18)) rfl (by omega)) (by omega) (by omega)
                    have t60 : (Int32.toInt (f_h0_world_rock_kind r18.toNatClampNeg)) = w (113 + ((Int32.toInt r18)).toNat) := RkW.z l_kd (i := ((Int32.toInt r18)).toNat) rfl (by omega)
                    have hR61 : digR (lawW w ls) w a.toInt b.toInt = (-3) := by unfold digR; rw [← j22]; (repeat' split) <;> omega
                    exact hq _ _ _ _ _ _ _ _ _ _ _ _ _ _ _ _ ⟨(by decide), h_f_h0_world_crew_cell, (by first | with_reducible assumption | exact ⟨by omega, by omega⟩), h_f_h0_world_term, (by first | with_reducible assumption | exact ⟨by omega, by omega⟩), (by first | with_reducible assumption | exact ⟨by omega, by omega⟩), hR61.symm, (by unfold digW; rw [if_pos (show digR (lawW w ls) w a.toInt b.toInt < 0 by omega)]; exact e_0), (by unfold digW rmU; rw [if_pos (show digR (lawW w ls) w a.toInt b.toInt < 0 by omega), if_pos (show digR (lawW w ls) w a.toInt b.toInt < 0 by omega)]; exact e_1), e_2⟩
                  · refine br0 c53 ?_
                    have g62 : 0 ≤ (Int32.toInt (f_h0_world_term (0 : Int32).toNatClampNeg)) ∧ (Int32.toInt (f_h0_world_term (0 : Int32).toNatClampNeg)) ≤ 9999 := TE.at_0 h_f_h0_world_term (rfl : ((0 : Nat) : Int) = 0) (by omega) (by omega)
                    have t63 : (Int32.toInt (f_h0_world_term (0 : Int32).toNatClampNeg)) = w (7) := RkW.z l_te (i := 0) rfl (by omega)
                    have t64 : (Int32.toInt ((f_h0_world_term (0 : Int32).toNatClampNeg) + r49)) = (Int32.toInt (f_h0_world_term (0 : Int32).toNatClampNeg)) + (Int32.toInt r49) := add_z rfl rfl (by omega) (by omega)
                    have d65 := nlt_z (x := 9999) (y := (Int32.toInt ((f_h0_world_term (0 : Int32).toNatClampNeg) + r49))) rfl rfl c53
                    refine z_cpassN (RXw.wk e_0) (by first | with_reducible assumption | exact ⟨by omega, by omega⟩)  (by first | with_reducible assumption | exact ⟨by omega, by omega⟩) (fun r66 x67 x68 x69 H70 => ?_)
                    have j71 := H70.1
                    have j72 := H70.2.1
                    rw [← hF] at j72
                    have j73 := H70.2.2
                    refine un3_i ?_
                    by_cases c74 : r66 = 0
                    · refine br1 c74 ?_
                      have d75 := eq_z (x := (Int32.toInt r66)) (y := 0) rfl rfl c74
                      have k76 : Int32.toInt (-3) = (-3) := (by decide)
                      have hR77 : digR (lawW w ls) w a.toInt b.toInt = (-3) := by unfold digR; rw [← j22]; (repeat' split) <;> omega
                      exact hq _ _ _ _ _ _ _ _ _ _ _ _ _ _ _ _ ⟨(by decide), h_f_h0_world_crew_cell, (by first | with_reducible assumption | exact ⟨by omega, by omega⟩), h_f_h0_world_term, (by first | with_reducible assumption | exact ⟨by omega, by omega⟩), (by first | with_reducible assumption | exact ⟨by omega, by omega⟩), hR77.symm, (by unfold digW; rw [if_pos (show digR (lawW w ls) w a.toInt b.toInt < 0 by omega)]; exact e_0), (by unfold digW rmU; rw [if_pos (show digR (lawW w ls) w a.toInt b.toInt < 0 by omega), if_pos (show digR (lawW w ls) w a.toInt b.toInt < 0 by omega)]; exact e_1), e_2⟩
                    · refine br0 c74 ?_
                      have d78 := ne_z (x := (Int32.toInt r66)) (y := 0) rfl rfl c74
                      have k79 : Int32.toInt 0 = 0 := rfl
                      refine s_X2_addz 0 a (f_h0_world_crew_cell a.toNatClampNeg) 0 (f_h0_world_term (0 : Int32).toNatClampNeg) h0_diary_kept h0_diary_latest (f_h0_diary_deed) (f_h0_diary_whose) (f_h0_diary_before) (f_h0_diary_bucketsBefore) (f_h0_diary_dayBefore) (w₉ := (digC w (Int32.toInt a) (Int32.toInt r18) (Int32.toInt r49))) (by first | with_reducible assumption | exact ⟨by omega, by omega⟩) (by first | with_reducible assumption | exact ⟨by omega, by omega⟩) e_2 (by unfold DR; omega) e_1 (fun j _ _ => by rw [show (Int32.toInt (f_h0_world_crew_cell a.toNatClampNeg)) = w (10 + ((Int32.toInt a)).toNat) by omega, show (Int32.toInt (f_h0_world_term (0 : Int32).toNatClampNeg)) = w (7) by omega]; exact inv_dig (by omega) j) (fun q => absurd q (by decide)) (fun u80 u81 u82 u83 u84 u85 u86 H87 => ?_)
                      have j88 := H87.2.2.1
                      have j89 := H87.2.2.2
                      have j90 := H87.1
                      have j91 := H87.2.1
                      refine un7_i ?_
                      refine o_X6_mark _ _ _ ?_
                      refine ⟨vpi (x := (Int32.toInt a)) rfl (by omega) (by omega), ?_⟩
                      have t92 := i32_hi r18
                      have R93 : CE (upd f_h0_world_crew_cell a.toNatClampNeg r18) := CE.up_0 h_f_h0_world_crew_cell (tnz (x := (Int32.toInt a)) rfl (by omega)) (by omega) (by omega) (w := (Int32.toInt r18)) rfl (by omega) (by omega)
                      have R94 : TE (upd f_h0_world_term 0 ((f_h0_world_term (0 : Int32).toNatClampNeg) + r49)) := TE.up_0 h_f_h0_world_term (rfl : ((0 : Nat) : Int) = 0) (by omega) (by omega) (w := (Int32.toInt ((f_h0_world_term (0 : Int32).toNatClampNeg) + r49))) rfl (by omega) (by omega)
                      have hR95 : digR (lawW w ls) w a.toInt b.toInt = (Int32.toInt r18) := by unfold digR; rw [← j22]; (repeat' split) <;> omega
                      exact hq _ _ _ _ _ _ _ _ _ _ _ _ _ _ _ _ ⟨(by first | with_reducible assumption | exact ⟨by omega, by omega⟩), R93, (by first | with_reducible assumption | exact ⟨by omega, by omega⟩), R94, (by first | with_reducible assumption | exact ⟨by omega, by omega⟩), (by first | with_reducible assumption | exact ⟨by omega, by omega⟩), hR95.symm, (by unfold digW; rw [if_neg (show ¬ digR (lawW w ls) w a.toInt b.toInt < 0 by omega)]; unfold digO; rw [← j22]; rw [← j52]; unfold digC; exact RXw.u_ce (RXw.u_dgm (RXw.u_te e_0 (k := 0) (i := 0) rfl (by decide) (by omega)) (by omega) (by omega)) rfl (by omega) rfl), (by unfold digW rmU; rw [if_neg (show ¬ digR (lawW w ls) w a.toInt b.toInt < 0 by omega), if_neg (show ¬ digR (lawW w ls) w a.toInt b.toInt < 0 by omega)]; unfold digO; rw [← j22]; rw [← j52]; exact j89), j88⟩
                · refine br0 c47 ?_
                  have d96 := ne_z (x := (Int32.toInt r43)) (y := 0) rfl rfl c47
                  have k97 : Int32.toInt (-3) = (-3) := (by decide)
                  have hR98 : digR (lawW w ls) w a.toInt b.toInt = (-3) := by unfold digR; rw [← j22]; (repeat' split) <;> omega
                  exact hq _ _ _ _ _ _ _ _ _ _ _ _ _ _ _ _ ⟨(by decide), h_f_h0_world_crew_cell, (by first | with_reducible assumption | exact ⟨by omega, by omega⟩), h_f_h0_world_term, (by first | with_reducible assumption | exact ⟨by omega, by omega⟩), (by first | with_reducible assumption | exact ⟨by omega, by omega⟩), hR98.symm, (by unfold digW; rw [if_pos (show digR (lawW w ls) w a.toInt b.toInt < 0 by omega)]; exact e_0), (by unfold digW rmU; rw [if_pos (show digR (lawW w ls) w a.toInt b.toInt < 0 by omega), if_pos (show digR (lawW w ls) w a.toInt b.toInt < 0 by omega)]; exact e_1), e_2⟩
    · refine br0 c6 ?_
      have d99 := nle_z (x := (Int32.toInt b)) (y := 2) rfl rfl c6
      have k100 : Int32.toInt (-1) = (-1) := (by decide)
      have hR101 : digR (lawW w ls) w a.toInt b.toInt = (-1) := by unfold digR; (repeat' split) <;> omega
      exact hq _ _ _ _ _ _ _ _ _ _ _ _ _ _ _ _ ⟨(by decide), h_f_h0_world_crew_cell, (by first | with_reducible assumption | exact ⟨by omega, by omega⟩), h_f_h0_world_term, (by first | with_reducible assumption | exact ⟨by omega, by omega⟩), (by first | with_reducible assumption | exact ⟨by omega, by omega⟩), hR101.symm, (by unfold digW; rw [if_pos (show digR (lawW w ls) w a.toInt b.toInt < 0 by omega)]; exact e_0), (by unfold digW rmU; rw [if_pos (show digR (lawW w ls) w a.toInt b.toInt < 0 by omega), if_pos (show digR (lawW w ls) w a.toInt b.toInt < 0 by omega)]; exact e_1), e_2⟩


set_option maxRecDepth 100000 in
theorem s_X7_tryDig_Tz (a : Int32) (b : Int32) (h0_world : Nat) (h0_world_lawCount : Int32) (h0_world_force : Int32) (h0_world_crew_count : Int32) (f_h0_world_crew_cell : Nat → Int32) (h0_world_rock_dug : Int64) (f_h0_world_rock_kind : Nat → Int32) (f_h0_world_laws : Nat → Option Nat) (h0_asker_world : Value) (h0_asker_law : Value) (h0_asker_cell : Int32) (h0_asker_shaft : Int32) (h0_asker_kind : Int32) (h0_asker_done : Int32) (h0_asker_latest : Int32) (h0_asker_value : Int32) (f_h0_world_term : Nat → Int32) (f_h0_world_rock_hard : Nat → Int32) (t : Nat) (t_clauses : Int32) (t_length : Int32) (n_t_heads : Nat) (f_t_heads : Nat → Int32) (n_t_code : Nat) (f_t_code : Nat → Int32) (f_h0_asker_stack : Nat → Int64) (h0_world_folk_listeners : Int32) (f_h0_world_folk_column : Nat → Int32) (f_h0_world_rock_water : Nat → Int32) (f_h0_world_crew_buckets : Nat → Int32) (h0_diary_kept : Int32) (h0_diary_latest : Int32) (f_h0_diary_deed : Nat → Int32) (f_h0_diary_whose : Nat → Int32) (f_h0_diary_before : Nat → Int32) (f_h0_diary_bucketsBefore : Nat → Int32) (f_h0_diary_dayBefore : Nat → Int32) {w : Nat → Int} {U : UL} {ls : Nat → List Cls} {g_ea : Nat → Int32} {g_nc : Nat → Int32} {g_nl : Nat → Int32} {g_ns : Int32} {g_hu : Int32} {g_hc : Nat → Int32} {g_hl : Nat → Int32} {g_hs : Int32} {g_so : Nat → Int32} {g_we : Nat → Int32} {g_wl : Int32} (h_h0_world_lawCount : 0 ≤ h0_world_lawCount.toInt ∧ h0_world_lawCount.toInt ≤ 6) (h_h0_world_force : 0 ≤ h0_world_force.toInt ∧ h0_world_force.toInt ≤ 5) (h_h0_world_crew_count : 0 ≤ h0_world_crew_count.toInt ∧ h0_world_crew_count.toInt ≤ 6) (h_f_h0_world_crew_cell : CE f_h0_world_crew_cell) (h_f_h0_world_rock_kind : KI f_h0_world_rock_kind) (h_h0_asker_cell : 0 ≤ h0_asker_cell.toInt ∧ h0_asker_cell.toInt ≤ 39) (h_f_h0_world_term : TE f_h0_world_term) (h_f_h0_world_rock_hard : HA f_h0_world_rock_hard) (h_t_clauses : 0 ≤ t_clauses.toInt ∧ t_clauses.toInt ≤ 12) (h_t_length : 0 ≤ t_length.toInt ∧ t_length.toInt ≤ 400) (h_f_t_code : CD f_t_code) (h_h0_world_folk_listeners : 0 ≤ h0_world_folk_listeners.toInt ∧ h0_world_folk_listeners.toInt ≤ 5) (h_f_h0_world_folk_column : CO f_h0_world_folk_column) (h_f_h0_world_rock_water : WA f_h0_world_rock_water) (h_f_h0_world_crew_buckets : BU f_h0_world_crew_buckets) (h_h0_diary_kept : 0 ≤ h0_diary_kept.toInt ∧ h0_diary_kept.toInt ≤ 16) (h_h0_diary_latest : 0 ≤ h0_diary_latest.toInt ∧ h0_diary_latest.toInt ≤ 15) (e_0 : RXw f_h0_world_rock_kind f_h0_world_rock_hard f_h0_world_rock_water h0_world_rock_dug f_h0_world_crew_cell f_h0_world_crew_buckets h0_world_crew_count f_h0_world_folk_column g_ea h0_world_folk_listeners g_nc g_nl g_ns g_hu g_hc g_hl g_hs g_so g_we g_wl f_h0_world_term h0_world_lawCount h0_world_force w) (e_1 : RXu f_h0_diary_deed f_h0_diary_whose f_h0_diary_before f_h0_diary_bucketsBefore f_h0_diary_dayBefore h0_diary_kept h0_diary_latest w U) (e_2 : DI f_h0_diary_deed f_h0_diary_whose f_h0_diary_before f_h0_diary_bucketsBefore f_h0_diary_dayBefore) (e_3 : XTx t_clauses t_length n_t_heads f_t_heads n_t_code f_t_code (ls (w 6).toNat)) (e_4 : ∀ q ∈ ls (w 6).toNat, okC q) (e_5 : n_t_heads < 100000) (e_6 : t_length.toInt ≤ (n_t_code : Int)) (e_7 : h0_world_force.toInt < h0_world_lawCount.toInt) (e_8 : f_h0_world_laws (Int32.toNatClampNeg h0_world_force) = some t) {Q : Int32 → ((Nat → Int32) × Int64 × Value × Value × Int32 × Int32 × Int32 × Int32 × (Nat → Int32) × (Nat → Int64) × Int32 × Int32 × (Nat → Int32) × (Nat → Int32) × (Nat → Int32) × (Nat → Int32) × (Nat → Int32)) → Prop} (hq : ∀ (r : Int32) (u_0 : Nat → Int32) (u_1 : Int64) (u_2 : Value) (u_3 : Value) (u_4 : Int32) (u_5 : Int32) (u_6 : Int32) (u_7 : Int32) (u_8 : Nat → Int32) (u_9 : Nat → Int64) (u_10 : Int32) (u_11 : Int32) (u_12 : Nat → Int32) (u_13 : Nat → Int32) (u_14 : Nat → Int32) (u_15 : Nat → Int32) (u_16 : Nat → Int32), ((-3) ≤ r.toInt ∧ r.toInt ≤ 2147483647) ∧ (CE u_0) ∧ (0 ≤ u_4.toInt ∧ u_4.toInt ≤ 39) ∧ (TE u_8) ∧ (0 ≤ u_10.toInt ∧ u_10.toInt ≤ 16) ∧ (0 ≤ u_11.toInt ∧ u_11.toInt ≤ 15) ∧ (r.toInt = digR (lawW w ls) w a.toInt b.toInt) ∧ (RXw f_h0_world_rock_kind f_h0_world_rock_hard f_h0_world_rock_water u_1 u_0 f_h0_world_crew_buckets h0_world_crew_count f_h0_world_folk_column g_ea h0_world_folk_listeners g_nc g_nl g_ns g_hu g_hc g_hl g_hs g_so g_we g_wl u_8 h0_world_lawCount h0_world_force (digW (lawW w ls) w a.toInt b.toInt)) ∧ (RXu u_12 u_13 u_14 u_15 u_16 u_10 u_11 (digW (lawW w ls) w a.toInt b.toInt) (rmU (digR (lawW w ls) w a.toInt b.toInt) 0 w U)) ∧ (DI u_12 u_13 u_14 u_15 u_16) → Q r (u_0, u_1, u_2, u_3, u_4, u_5, u_6, u_7, u_8, u_9, u_10, u_11, u_12, u_13, u_14, u_15, u_16)) : wp_X7_tryDig_T a b h0_world h0_world_lawCount h0_world_force h0_world_crew_count f_h0_world_crew_cell h0_world_rock_dug f_h0_world_rock_kind f_h0_world_laws h0_asker_world h0_asker_law h0_asker_cell h0_asker_shaft h0_asker_kind h0_asker_done h0_asker_latest h0_asker_value f_h0_world_term f_h0_world_rock_hard t t_clauses t_length n_t_heads f_t_heads n_t_code f_t_code f_h0_asker_stack h0_world_folk_listeners f_h0_world_folk_column f_h0_world_rock_water f_h0_world_crew_buckets h0_diary_kept h0_diary_latest f_h0_diary_deed f_h0_diary_whose f_h0_diary_before f_h0_diary_bucketsBefore f_h0_diary_dayBefore Q := by
  unfold wp_X7_tryDig_T
  have l_kd := RXw.kd e_0
  have l_hd := RXw.hd e_0
  have l_wt := RXw.wt e_0
  have l_ce := RXw.ce e_0
  have l_bu := RXw.bu e_0
  have l_cc : h0_world_crew_count.toInt = w 0 := RXw.cc e_0
  have l_co := RXw.co e_0
  have l_ls : h0_world_folk_listeners.toInt = w 1 := RXw.ls e_0
  have l_te := RXw.te e_0
  have l_lc : h0_world_lawCount.toInt = w 5 := RXw.lc e_0
  have l_fo : h0_world_force.toInt = w 6 := RXw.fo e_0
  have hF : lawW w ls = some (ls (w 6).toNat) := lawW_s (by omega)
  by_cases c1 : b < 0
  · refine br1 c1 ?_
    have d2 := lt_z (x := (Int32.toInt b)) (y := 0) rfl rfl c1
    have k3 : Int32.toInt (-1) = (-1) := (by decide)
    have hR4 : digR (lawW w ls) w a.toInt b.toInt = (-1) := by unfold digR; (repeat' split) <;> omega
    exact hq _ _ _ _ _ _ _ _ _ _ _ _ _ _ _ _ _ _ ⟨(by decide), h_f_h0_world_crew_cell, (by first | with_reducible assumption | exact ⟨by omega, by omega⟩), h_f_h0_world_term, (by first | with_reducible assumption | exact ⟨by omega, by omega⟩), (by first | with_reducible assumption | exact ⟨by omega, by omega⟩), hR4.symm, (by unfold digW; rw [if_pos (show digR (lawW w ls) w a.toInt b.toInt < 0 by omega)]; exact e_0), (by unfold digW rmU; rw [if_pos (show digR (lawW w ls) w a.toInt b.toInt < 0 by omega), if_pos (show digR (lawW w ls) w a.toInt b.toInt < 0 by omega)]; exact e_1), e_2⟩
  · refine br0 c1 ?_
    have d5 := nlt_z (x := (Int32.toInt b)) (y := 0) rfl rfl c1
    by_cases c6 : b ≤ 2
    · refine br1 c6 ?_
      have d7 := le_z (x := (Int32.toInt b)) (y := 2) rfl rfl c6
      refine o_X11_isWithin _ _ _ ?_
      by_cases c8 : a < 0
      · refine br1 c8 ?_
        have d9 := lt_z (x := (Int32.toInt a)) (y := 0) rfl rfl c8
        refine br1 (by decide) ?_
        have k10 : Int32.toInt (-2) = (-2) := (by decide)
        have hR11 : digR (lawW w ls) w a.toInt b.toInt = (-2) := by unfold digR; (repeat' split) <;> omega
        exact hq _ _ _ _ _ _ _ _ _ _ _ _ _ _ _ _ _ _ ⟨(by decide), h_f_h0_world_crew_cell, (by first | with_reducible assumption | exact ⟨by omega, by omega⟩), h_f_h0_world_term, (by first | with_reducible assumption | exact ⟨by omega, by omega⟩), (by first | with_reducible assumption | exact ⟨by omega, by omega⟩), hR11.symm, (by unfold digW; rw [if_pos (show digR (lawW w ls) w a.toInt b.toInt < 0 by omega)]; exact e_0), (by unfold digW rmU; rw [if_pos (show digR (lawW w ls) w a.toInt b.toInt < 0 by omega), if_pos (show digR (lawW w ls) w a.toInt b.toInt < 0 by omega)]; exact e_1), e_2⟩
      · refine br0 c8 ?_
        have d12 := nlt_z (x := (Int32.toInt a)) (y := 0) rfl rfl c8
        by_cases c13 : h0_world_crew_count ≤ a
        · refine br1 c13 ?_
          have d14 := le_z (x := (Int32.toInt h0_world_crew_count)) (y := (Int32.toInt a)) rfl rfl c13
          refine br1 (by decide) ?_
          have k15 : Int32.toInt (-2) = (-2) := (by decide)
          have hR16 : digR (lawW w ls) w a.toInt b.toInt = (-2) := by unfold digR; (repeat' split) <;> omega
          exact hq _ _ _ _ _ _ _ _ _ _ _ _ _ _ _ _ _ _ ⟨(by decide), h_f_h0_world_crew_cell, (by first | with_reducible assumption | exact ⟨by omega, by omega⟩), h_f_h0_world_term, (by first | with_reducible assumption | exact ⟨by omega, by omega⟩), (by first | with_reducible assumption | exact ⟨by omega, by omega⟩), hR16.symm, (by unfold digW; rw [if_pos (show digR (lawW w ls) w a.toInt b.toInt < 0 by omega)]; exact e_0), (by unfold digW rmU; rw [if_pos (show digR (lawW w ls) w a.toInt b.toInt < 0 by omega), if_pos (show digR (lawW w ls) w a.toInt b.toInt < 0 by omega)]; exact e_1), e_2⟩
        · refine br0 c13 ?_
          have d17 := nle_z (x := (Int32.toInt h0_world_crew_count)) (y := (Int32.toInt a)) rfl rfl c13
          refine br0 (by decide) ?_
          refine ⟨vpi (x := (Int32.toInt a)) rfl (by omega) (by omega), ?_⟩
          have g19 : 0 ≤ (Int32.toInt (f_h0_world_crew_cell a.toNatClampNeg)) ∧ (Int32.toInt (f_h0_world_crew_cell a.toNatClampNeg)) ≤ 39 := CE.at_0 h_f_h0_world_crew_cell (tnz (x := (Int32.toInt a)) rfl (by omega)) (by omega) (by omega)
          have t20 : (Int32.toInt (f_h0_world_crew_cell a.toNatClampNeg)) = w (10 + ((Int32.toInt a)).toNat) := RkW.z l_ce (i := ((Int32.toInt a)).toNat) rfl (by omega)
          refine z_neigh (z := w (10 + ((Int32.toInt a)).toNat)) (by omega) (by first | with_reducible assumption | exact ⟨by omega, by omega⟩) (by first | with_reducible assumption | exact ⟨by omega, by omega⟩) (fun r18 H21 => ?_)
          have j23 := H21.1
          have j22 := H21.2
          refine o_X10_mayBeDugOn _ _ _ _ ?_
          refine ⟨vpi (x := (Int32.toInt a)) rfl (by omega) (by omega), ?_⟩
          refine o_X6_endsAWay _ _ _ ?_
          refine ⟨vpi (x := (Int32.toInt (f_h0_world_crew_cell a.toNatClampNeg))) rfl (by omega) (by omega), ?_⟩
          by_cases c24 : (f_h0_world_rock_kind (f_h0_world_crew_cell a.toNatClampNeg).toNatClampNeg) = 2
          · refine br1 c24 ?_
            have g25 : 0 ≤ (Int32.toInt (f_h0_world_rock_kind (f_h0_world_crew_cell a.toNatClampNeg).toNatClampNeg)) ∧ (Int32.toInt (f_h0_world_rock_kind (f_h0_world_crew_cell a.toNatClampNeg).toNatClampNeg)) ≤ 3 := KI.at_0 h_f_h0_world_rock_kind (tnz (x := (Int32.toInt (f_h0_world_crew_cell a.toNatClampNeg))) rfl (by omega)) (by omega) (by omega)
            have t26 : (Int32.toInt (f_h0_world_rock_kind (f_h0_world_crew_cell a.toNatClampNeg).toNatClampNeg)) = w (113 + (w (10 + ((Int32.toInt a)).toNat)).toNat) := RkW.z l_kd (i := (w (10 + ((Int32.toInt a)).toNat)).toNat) (show Int.toNat _ = Int.toNat _ by omega) (by omega)
            have d27 := eq_z (x := (Int32.toInt (f_h0_world_rock_kind (f_h0_world_crew_cell a.toNatClampNeg).toNatClampNeg))) (y := 2) rfl rfl c24
            refine br0 (by decide) ?_
            refine br1 (by decide) ?_
            have k28 : Int32.toInt (-3) = (-3) := (by decide)
            have hR29 : digR (lawW w ls) w a.toInt b.toInt = (-3) := by unfold digR; rw [← j22]; (repeat' split) <;> omega
            exact hq _ _ _ _ _ _ _ _ _ _ _ _ _ _ _ _ _ _ ⟨(by decide), h_f_h0_world_crew_cell, (by first | with_reducible assumption | exact ⟨by omega, by omega⟩), h_f_h0_world_term, (by first | with_reducible assumption | exact ⟨by omega, by omega⟩), (by first | with_reducible assumption | exact ⟨by omega, by omega⟩), hR29.symm, (by unfold digW; rw [if_pos (show digR (lawW w ls) w a.toInt b.toInt < 0 by omega)]; exact e_0), (by unfold digW rmU; rw [if_pos (show digR (lawW w ls) w a.toInt b.toInt < 0 by omega), if_pos (show digR (lawW w ls) w a.toInt b.toInt < 0 by omega)]; exact e_1), e_2⟩
          · refine br0 c24 ?_
            have g30 : 0 ≤ (Int32.toInt (f_h0_world_rock_kind (f_h0_world_crew_cell a.toNatClampNeg).toNatClampNeg)) ∧ (Int32.toInt (f_h0_world_rock_kind (f_h0_world_crew_cell a.toNatClampNeg).toNatClampNeg)) ≤ 3 := KI.at_0 h_f_h0_world_rock_kind (tnz (x := (Int32.toInt (f_h0_world_crew_cell a.toNatClampNeg))) rfl (by omega)) (by omega) (by omega)
            have t31 : (Int32.toInt (f_h0_world_rock_kind (f_h0_world_crew_cell a.toNatClampNeg).toNatClampNeg)) = w (113 + (w (10 + ((Int32.toInt a)).toNat)).toNat) := RkW.z l_kd (i := (w (10 + ((Int32.toInt a)).toNat)).toNat) (show Int.toNat _ = Int.toNat _ by omega) (by omega)
            have d32 := ne_z (x := (Int32.toInt (f_h0_world_rock_kind (f_h0_world_crew_cell a.toNatClampNeg).toNatClampNeg))) (y := 2) rfl rfl c24
            refine ⟨vpi (x := (Int32.toInt (f_h0_world_crew_cell a.toNatClampNeg))) rfl (by omega) (by omega), ?_⟩
            by_cases c33 : (f_h0_world_rock_kind (f_h0_world_crew_cell a.toNatClampNeg).toNatClampNeg) = 3
            · refine br1 c33 ?_
              have d34 := eq_z (x := (Int32.toInt (f_h0_world_rock_kind (f_h0_world_crew_cell a.toNatClampNeg).toNatClampNeg))) (y := 3) rfl rfl c33
              refine br0 (by decide) ?_
              refine br1 (by decide) ?_
              have k35 : Int32.toInt (-3) = (-3) := (by decide)
              have hR36 : digR (lawW w ls) w a.toInt b.toInt = (-3) := by unfold digR; rw [← j22]; (repeat' split) <;> omega
              exact hq _ _ _ _ _ _ _ _ _ _ _ _ _ _ _ _ _ _ ⟨(by decide), h_f_h0_world_crew_cell, (by first | with_reducible assumption | exact ⟨by omega, by omega⟩), h_f_h0_world_term, (by first | with_reducible assumption | exact ⟨by omega, by omega⟩), (by first | with_reducible assumption | exact ⟨by omega, by omega⟩), hR36.symm, (by unfold digW; rw [if_pos (show digR (lawW w ls) w a.toInt b.toInt < 0 by omega)]; exact e_0), (by unfold digW rmU; rw [if_pos (show digR (lawW w ls) w a.toInt b.toInt < 0 by omega), if_pos (show digR (lawW w ls) w a.toInt b.toInt < 0 by omega)]; exact e_1), e_2⟩
            · refine br0 c33 ?_
              have d37 := ne_z (x := (Int32.toInt (f_h0_world_rock_kind (f_h0_world_crew_cell a.toNatClampNeg).toNatClampNeg))) (y := 3) rfl rfl c33
              refine br1 (by decide) ?_
              refine br0 (by decide) ?_
              by_cases c38 : r18 = (-1)
              · refine br1 c38 ?_
                have d39 := eq_z (x := (Int32.toInt r18)) (y := (-1)) rfl (by decide) c38
                have k40 : Int32.toInt (-3) = (-3) := (by decide)
                have hR41 : digR (lawW w ls) w a.toInt b.toInt = (-3) := by unfold digR; rw [← j22]; (repeat' split) <;> omega
                exact hq _ _ _ _ _ _ _ _ _ _ _ _ _ _ _ _ _ _ ⟨(by decide), h_f_h0_world_crew_cell, (by first | with_reducible assumption | exact ⟨by omega, by omega⟩), h_f_h0_world_term, (by first | with_reducible assumption | exact ⟨by omega, by omega⟩), (by first | with_reducible assumption | exact ⟨by omega, by omega⟩), hR41.symm, (by unfold digW; rw [if_pos (show digR (lawW w ls) w a.toInt b.toInt < 0 by omega)]; exact e_0), (by unfold digW rmU; rw [if_pos (show digR (lawW w ls) w a.toInt b.toInt < 0 by omega), if_pos (show digR (lawW w ls) w a.toInt b.toInt < 0 by omega)]; exact e_1), e_2⟩
              · refine br0 c38 ?_
                have d42 := ne_z (x := (Int32.toInt r18)) (y := (-1)) rfl (by decide) c38
                refine s_X6_isDugz r18 h0_world_rock_dug (by first | with_reducible assumption | exact ⟨by omega, by omega⟩) (RXw.dg e_0) (fun r43 H44 => ?_)
                have j45 := H44.1
                have j46 := H44.2
                by_cases c47 : r43 = 0
                · refine br1 c47 ?_
                  have d48 := eq_z (x := (Int32.toInt r43)) (y := 0) rfl rfl c47
                  refine o_X10_lawInForce_T _ _ _ _ _ ?_
                  refine o_X10_lawOf_T _ _ _ _ _ ?_
                  refine br0 (z_nlt (x := (Int32.toInt h0_world_force)) (y := 0) rfl rfl (by omega)) ?_
                  by_cases c49 : h0_world_lawCount ≤ h0_world_force
                  · refine br1 c49 ?_
                    have d50 := le_z (x := (Int32.toInt h0_world_lawCount)) (y := (Int32.toInt h0_world_force)) rfl rfl c49
                    exfalso
                    omega
                  · refine br0 c49 ?_
                    have d51 := nle_z (x := (Int32.toInt h0_world_lawCount)) (y := (Int32.toInt h0_world_force)) rfl rfl c49
                    refine br0 (z_nle (x := 6) (y := (Int32.toInt h0_world_force)) rfl rfl (by omega)) ?_
                    refine ⟨vpi (x := (Int32.toInt h0_world_force)) rfl (by omega) (by omega), ?_⟩
                    refine ⟨by assumption, ?_⟩
                    refine o_X0_turnTo_T _ ?_
                    refine z_cdigsT e_3 e_4 (RXw.wk e_0) (LwB.of h_f_h0_world_rock_kind h_f_h0_world_rock_hard h_f_h0_world_rock_water h_f_h0_world_term) (by first | with_reducible assumption | exact ⟨by omega, by omega⟩) (by first | with_reducible assumption | exact ⟨by omega, by omega⟩) (fun r52 v53 st54 H55 => ?_)
                    have j56 := H55.1
                    have j57 := H55.2
                    rw [← hF] at j57
                    refine un5_i ?_
                    by_cases c58 : 9999 < ((f_h0_world_term (0 : Int32).toNatClampNeg) + r52)
                    · refine br1 c58 ?_
                      have g59 : 0 ≤ (Int32.toInt (f_h0_world_term (0 : Int32).toNatClampNeg)) ∧ (Int32.toInt (f_h0_world_term (0 : Int32).toNatClampNeg)) ≤ 9999 := TE.at_0 h_f_h0_world_term (rfl : ((0 : Nat) : Int) = 0) (by omega) (by omega)
                      have t60 : (Int32.toInt (f_h0_world_term (0 : Int32).toNatClampNeg)) = w (7) := RkW.z l_te (i := 0) rfl (by omega)
                      have t61 : (Int32.toInt ((f_h0_world_term (0 : Int32).toNatClampNeg) + r52)) = (Int32.toInt (f_h0_world_term (0 : Int32).toNatClampNeg)) + (Int32.toInt r52) := add_z rfl rfl (by omega) (by omega)
                      have d62 := lt_z (x := 9999) (y := (Int32.toInt ((f_h0_world_term (0 : Int32).toNatClampNeg) + r52))) rfl rfl c58
                      have k63 : Int32.toInt (-3) = (-3) := (by decide)
                      have g64 : 0 ≤ (Int32.toInt (f_h0_world_rock_kind r18.toNatClampNeg)) ∧ (Int32.toInt (f_h0_world_rock_kind r18.toNatClampNeg)) ≤ 3 := KI.at_0 h_f_h0_world_rock_kind (tnz (x := (Int32.toInt r18)) rfl (by omega)) (by omega) (by omega)
                      have t65 : (Int32.toInt (f_h0_world_rock_kind r18.toNatClampNeg)) = w (113 + ((Int32.toInt r18)).toNat) := RkW.z l_kd (i := ((Int32.toInt r18)).toNat) rfl (by omega)
                      have hR66 : digR (lawW w ls) w a.toInt b.toInt = (-3) := by unfold digR; rw [← j22]; (repeat' split) <;> omega
                      exact hq _ _ _ _ _ _ _ _ _ _ _ _ _ _ _ _ _ _ ⟨(by decide), h_f_h0_world_crew_cell, (by first | with_reducible assumption | exact ⟨by omega, by omega⟩), h_f_h0_world_term, (by first | with_reducible assumption | exact ⟨by omega, by omega⟩), (by first | with_reducible assumption | exact ⟨by omega, by omega⟩), hR66.symm, (by unfold digW; rw [if_pos (show digR (lawW w ls) w a.toInt b.toInt < 0 by omega)]; exact e_0), (by unfold digW rmU; rw [if_pos (show digR (lawW w ls) w a.toInt b.toInt < 0 by omega), if_pos (show digR (lawW w ls) w a.toInt b.toInt < 0 by omega)]; exact e_1), e_2⟩
                    · refine br0 c58 ?_
                      have g67 : 0 ≤ (Int32.toInt (f_h0_world_term (0 : Int32).toNatClampNeg)) ∧ (Int32.toInt (f_h0_world_term (0 : Int32).toNatClampNeg)) ≤ 9999 := TE.at_0 h_f_h0_world_term (rfl : ((0 : Nat) : Int) = 0) (by omega) (by omega)
                      have t68 : (Int32.toInt (f_h0_world_term (0 : Int32).toNatClampNeg)) = w (7) := RkW.z l_te (i := 0) rfl (by omega)
                      have t69 : (Int32.toInt ((f_h0_world_term (0 : Int32).toNatClampNeg) + r52)) = (Int32.toInt (f_h0_world_term (0 : Int32).toNatClampNeg)) + (Int32.toInt r52) := add_z rfl rfl (by omega) (by omega)
                      have d70 := nlt_z (x := 9999) (y := (Int32.toInt ((f_h0_world_term (0 : Int32).toNatClampNeg) + r52))) rfl rfl c58
                      refine z_cpassT e_3 e_4 (RXw.wk e_0) (LwB.of h_f_h0_world_rock_kind h_f_h0_world_rock_hard h_f_h0_world_rock_water h_f_h0_world_term) (by first | with_reducible assumption | exact ⟨by omega, by omega⟩) (by first | with_reducible assumption | exact ⟨by omega, by omega⟩) (by first | with_reducible assumption | exact ⟨by omega, by omega⟩) (fun r71 x72 x73 x74 v75 st76 H77 => ?_)
                      have j78 := H77.1
                      have j79 := H77.2.1
                      rw [← hF] at j79
                      have j80 := H77.2.2
                      refine un5_i ?_
                      by_cases c81 : r71 = 0
                      · refine br1 c81 ?_
                        have d82 := eq_z (x := (Int32.toInt r71)) (y := 0) rfl rfl c81
                        have k83 : Int32.toInt (-3) = (-3) := (by decide)
                        have hR84 : digR (lawW w ls) w a.toInt b.toInt = (-3) := by unfold digR; rw [← j22]; (repeat' split) <;> omega
                        exact hq _ _ _ _ _ _ _ _ _ _ _ _ _ _ _ _ _ _ ⟨(by decide), h_f_h0_world_crew_cell, (by first | with_reducible assumption | exact ⟨by omega, by omega⟩), h_f_h0_world_term, (by first | with_reducible assumption | exact ⟨by omega, by omega⟩), (by first | with_reducible assumption | exact ⟨by omega, by omega⟩), hR84.symm, (by unfold digW; rw [if_pos (show digR (lawW w ls) w a.toInt b.toInt < 0 by omega)]; exact e_0), (by unfold digW rmU; rw [if_pos (show digR (lawW w ls) w a.toInt b.toInt < 0 by omega), if_pos (show digR (lawW w ls) w a.toInt b.toInt < 0 by omega)]; exact e_1), e_2⟩
                      · refine br0 c81 ?_
                        have d85 := ne_z (x := (Int32.toInt r71)) (y := 0) rfl rfl c81
                        have k86 : Int32.toInt 0 = 0 := rfl
                        refine s_X2_addz 0 a (f_h0_world_crew_cell a.toNatClampNeg) 0 (f_h0_world_term (0 : Int32).toNatClampNeg) h0_diary_kept h0_diary_latest (f_h0_diary_deed) (f_h0_diary_whose) (f_h0_diary_before) (f_h0_diary_bucketsBefore) (f_h0_diary_dayBefore) (w₉ := (digC w (Int32.toInt a) (Int32.toInt r18) (Int32.toInt r52))) (by first | with_reducible assumption | exact ⟨by omega, by omega⟩) (by first | with_reducible assumption | exact ⟨by omega, by omega⟩) e_2 (by unfold DR; omega) e_1 (fun j _ _ => by rw [show (Int32.toInt (f_h0_world_crew_cell a.toNatClampNeg)) = w (10 + ((Int32.toInt a)).toNat) by omega, show (Int32.toInt (f_h0_world_term (0 : Int32).toNatClampNeg)) = w (7) by omega]; exact inv_dig (by omega) j) (fun q => absurd q (by decide)) (fun u87 u88 u89 u90 u91 u92 u93 H94 => ?_)
                        have j95 := H94.2.2.1
                        have j96 := H94.2.2.2
                        have j97 := H94.1
                        have j98 := H94.2.1
                        refine un7_i ?_
                        refine o_X6_mark _ _ _ ?_
                        refine ⟨vpi (x := (Int32.toInt a)) rfl (by omega) (by omega), ?_⟩
                        have t99 := i32_hi r18
                        have R100 : CE (upd f_h0_world_crew_cell a.toNatClampNeg r18) := CE.up_0 h_f_h0_world_crew_cell (tnz (x := (Int32.toInt a)) rfl (by omega)) (by omega) (by omega) (w := (Int32.toInt r18)) rfl (by omega) (by omega)
                        have R101 : TE (upd f_h0_world_term 0 ((f_h0_world_term (0 : Int32).toNatClampNeg) + r52)) := TE.up_0 h_f_h0_world_term (rfl : ((0 : Nat) : Int) = 0) (by omega) (by omega) (w := (Int32.toInt ((f_h0_world_term (0 : Int32).toNatClampNeg) + r52))) rfl (by omega) (by omega)
                        have hR102 : digR (lawW w ls) w a.toInt b.toInt = (Int32.toInt r18) := by unfold digR; rw [← j22]; (repeat' split) <;> omega
                        exact hq _ _ _ _ _ _ _ _ _ _ _ _ _ _ _ _ _ _ ⟨(by first | with_reducible assumption | exact ⟨by omega, by omega⟩), R100, (by first | with_reducible assumption | exact ⟨by omega, by omega⟩), R101, (by first | with_reducible assumption | exact ⟨by omega, by omega⟩), (by first | with_reducible assumption | exact ⟨by omega, by omega⟩), hR102.symm, (by unfold digW; rw [if_neg (show ¬ digR (lawW w ls) w a.toInt b.toInt < 0 by omega)]; unfold digO; rw [← j22]; rw [← j57]; unfold digC; exact RXw.u_ce (RXw.u_dgm (RXw.u_te e_0 (k := 0) (i := 0) rfl (by decide) (by omega)) (by omega) (by omega)) rfl (by omega) rfl), (by unfold digW rmU; rw [if_neg (show ¬ digR (lawW w ls) w a.toInt b.toInt < 0 by omega), if_neg (show ¬ digR (lawW w ls) w a.toInt b.toInt < 0 by omega)]; unfold digO; rw [← j22]; rw [← j57]; exact j96), j95⟩
                · refine br0 c47 ?_
                  have d103 := ne_z (x := (Int32.toInt r43)) (y := 0) rfl rfl c47
                  have k104 : Int32.toInt (-3) = (-3) := (by decide)
                  have hR105 : digR (lawW w ls) w a.toInt b.toInt = (-3) := by unfold digR; rw [← j22]; (repeat' split) <;> omega
                  exact hq _ _ _ _ _ _ _ _ _ _ _ _ _ _ _ _ _ _ ⟨(by decide), h_f_h0_world_crew_cell, (by first | with_reducible assumption | exact ⟨by omega, by omega⟩), h_f_h0_world_term, (by first | with_reducible assumption | exact ⟨by omega, by omega⟩), (by first | with_reducible assumption | exact ⟨by omega, by omega⟩), hR105.symm, (by unfold digW; rw [if_pos (show digR (lawW w ls) w a.toInt b.toInt < 0 by omega)]; exact e_0), (by unfold digW rmU; rw [if_pos (show digR (lawW w ls) w a.toInt b.toInt < 0 by omega), if_pos (show digR (lawW w ls) w a.toInt b.toInt < 0 by omega)]; exact e_1), e_2⟩
    · refine br0 c6 ?_
      have d106 := nle_z (x := (Int32.toInt b)) (y := 2) rfl rfl c6
      have k107 : Int32.toInt (-1) = (-1) := (by decide)
      have hR108 : digR (lawW w ls) w a.toInt b.toInt = (-1) := by unfold digR; (repeat' split) <;> omega
      exact hq _ _ _ _ _ _ _ _ _ _ _ _ _ _ _ _ _ _ ⟨(by decide), h_f_h0_world_crew_cell, (by first | with_reducible assumption | exact ⟨by omega, by omega⟩), h_f_h0_world_term, (by first | with_reducible assumption | exact ⟨by omega, by omega⟩), (by first | with_reducible assumption | exact ⟨by omega, by omega⟩), hR108.symm, (by unfold digW; rw [if_pos (show digR (lawW w ls) w a.toInt b.toInt < 0 by omega)]; exact e_0), (by unfold digW rmU; rw [if_pos (show digR (lawW w ls) w a.toInt b.toInt < 0 by omega), if_pos (show digR (lawW w ls) w a.toInt b.toInt < 0 by omega)]; exact e_1), e_2⟩


set_option maxRecDepth 100000 in
theorem s_X7_tryHaul_Nz (a : Int32) (h0_world : Nat) (h0_world_lawCount : Int32) (h0_world_force : Int32) (h0_world_crew_count : Int32) (f_h0_world_crew_cell : Nat → Int32) (f_h0_world_term : Nat → Int32) (f_h0_world_rock_kind : Nat → Int32) (f_h0_world_laws : Nat → Option Nat) (h0_asker_world : Value) (h0_asker_law : Value) (h0_asker_cell : Int32) (h0_asker_shaft : Int32) (h0_asker_kind : Int32) (f_h0_world_rock_water : Nat → Int32) (f_h0_world_crew_buckets : Nat → Int32) (h0_diary_kept : Int32) (h0_diary_latest : Int32) (f_h0_diary_deed : Nat → Int32) (f_h0_diary_whose : Nat → Int32) (f_h0_diary_before : Nat → Int32) (f_h0_diary_bucketsBefore : Nat → Int32) (f_h0_diary_dayBefore : Nat → Int32) {w : Nat → Int} {U : UL} {ls : Nat → List Cls} {g_hd : Nat → Int32} {g_dg : Int64} {g_co : Nat → Int32} {g_ea : Nat → Int32} {g_ls : Int32} {g_nc : Nat → Int32} {g_nl : Nat → Int32} {g_ns : Int32} {g_hu : Int32} {g_hc : Nat → Int32} {g_hl : Nat → Int32} {g_hs : Int32} {g_so : Nat → Int32} {g_we : Nat → Int32} {g_wl : Int32} (h_h0_world_lawCount : 0 ≤ h0_world_lawCount.toInt ∧ h0_world_lawCount.toInt ≤ 6) (h_h0_world_force : (-1) ≤ h0_world_force.toInt ∧ h0_world_force.toInt ≤ (-1)) (h_h0_world_crew_count : 0 ≤ h0_world_crew_count.toInt ∧ h0_world_crew_count.toInt ≤ 6) (h_f_h0_world_crew_cell : CE f_h0_world_crew_cell) (h_f_h0_world_term : TE f_h0_world_term) (h_f_h0_world_rock_kind : KI f_h0_world_rock_kind) (h_h0_asker_cell : 0 ≤ h0_asker_cell.toInt ∧ h0_asker_cell.toInt ≤ 39) (h_f_h0_world_rock_water : WA f_h0_world_rock_water) (h_f_h0_world_crew_buckets : BU f_h0_world_crew_buckets) (h_h0_diary_kept : 0 ≤ h0_diary_kept.toInt ∧ h0_diary_kept.toInt ≤ 16) (h_h0_diary_latest : 0 ≤ h0_diary_latest.toInt ∧ h0_diary_latest.toInt ≤ 15) (e_0 : RXw f_h0_world_rock_kind g_hd f_h0_world_rock_water g_dg f_h0_world_crew_cell f_h0_world_crew_buckets h0_world_crew_count g_co g_ea g_ls g_nc g_nl g_ns g_hu g_hc g_hl g_hs g_so g_we g_wl f_h0_world_term h0_world_lawCount h0_world_force w) (e_1 : RXu f_h0_diary_deed f_h0_diary_whose f_h0_diary_before f_h0_diary_bucketsBefore f_h0_diary_dayBefore h0_diary_kept h0_diary_latest w U) (e_2 : DI f_h0_diary_deed f_h0_diary_whose f_h0_diary_before f_h0_diary_bucketsBefore f_h0_diary_dayBefore) {Q : Int32 → ((Nat → Int32) × Value × Value × Int32 × Int32 × Int32 × (Nat → Int32) × (Nat → Int32) × Int32 × Int32 × (Nat → Int32) × (Nat → Int32) × (Nat → Int32) × (Nat → Int32) × (Nat → Int32)) → Prop} (hq : ∀ (r : Int32) (u_0 : Nat → Int32) (u_1 : Value) (u_2 : Value) (u_3 : Int32) (u_4 : Int32) (u_5 : Int32) (u_6 : Nat → Int32) (u_7 : Nat → Int32) (u_8 : Int32) (u_9 : Int32) (u_10 : Nat → Int32) (u_11 : Nat → Int32) (u_12 : Nat → Int32) (u_13 : Nat → Int32) (u_14 : Nat → Int32), ((-3) ≤ r.toInt ∧ r.toInt ≤ 2147483647) ∧ (TE u_0) ∧ (0 ≤ u_3.toInt ∧ u_3.toInt ≤ 39) ∧ (WA u_6) ∧ (BU u_7) ∧ (0 ≤ u_8.toInt ∧ u_8.toInt ≤ 16) ∧ (0 ≤ u_9.toInt ∧ u_9.toInt ≤ 15) ∧ (r.toInt = haulR (lawW w ls) w a.toInt) ∧ (RXw f_h0_world_rock_kind g_hd u_6 g_dg f_h0_world_crew_cell u_7 h0_world_crew_count g_co g_ea g_ls g_nc g_nl g_ns g_hu g_hc g_hl g_hs g_so g_we g_wl u_0 h0_world_lawCount h0_world_force (haulW (lawW w ls) w a.toInt)) ∧ (RXu u_10 u_11 u_12 u_13 u_14 u_8 u_9 (haulW (lawW w ls) w a.toInt) (rmU (haulR (lawW w ls) w a.toInt) 1 w U)) ∧ (DI u_10 u_11 u_12 u_13 u_14) → Q r (u_0, u_1, u_2, u_3, u_4, u_5, u_6, u_7, u_8, u_9, u_10, u_11, u_12, u_13, u_14)) : wp_X7_tryHaul_N a h0_world h0_world_lawCount h0_world_force h0_world_crew_count f_h0_world_crew_cell f_h0_world_term f_h0_world_rock_kind f_h0_world_laws h0_asker_world h0_asker_law h0_asker_cell h0_asker_shaft h0_asker_kind f_h0_world_rock_water f_h0_world_crew_buckets h0_diary_kept h0_diary_latest f_h0_diary_deed f_h0_diary_whose f_h0_diary_before f_h0_diary_bucketsBefore f_h0_diary_dayBefore Q := by
  unfold wp_X7_tryHaul_N
  have l_kd := RXw.kd e_0
  have l_wt := RXw.wt e_0
  have l_ce := RXw.ce e_0
  have l_bu := RXw.bu e_0
  have l_cc : h0_world_crew_count.toInt = w 0 := RXw.cc e_0
  have l_te := RXw.te e_0
  have l_lc : h0_world_lawCount.toInt = w 5 := RXw.lc e_0
  have l_fo : h0_world_force.toInt = w 6 := RXw.fo e_0
  have hF : lawW w ls = none := lawW_n (by omega)
  refine o_X11_isWithin _ _ _ ?_
  by_cases c1 : a < 0
  · refine br1 c1 ?_
    have d2 := lt_z (x := (Int32.toInt a)) (y := 0) rfl rfl c1
    refine br1 (by decide) ?_
    have k3 : Int32.toInt (-2) = (-2) := (by decide)
    have hR4 : haulR (lawW w ls) w a.toInt = (-2) := by unfold haulR; (repeat' split) <;> omega
    exact hq _ _ _ _ _ _ _ _ _ _ _ _ _ _ _ _ ⟨(by decide), h_f_h0_world_term, (by first | with_reducible assumption | exact ⟨by omega, by omega⟩), h_f_h0_world_rock_water, h_f_h0_world_crew_buckets, (by first | with_reducible assumption | exact ⟨by omega, by omega⟩), (by first | with_reducible assumption | exact ⟨by omega, by omega⟩), hR4.symm, (by unfold haulW; rw [if_pos (show haulR (lawW w ls) w a.toInt < 0 by omega)]; exact e_0), (by unfold haulW rmU; rw [if_pos (show haulR (lawW w ls) w a.toInt < 0 by omega), if_pos (show haulR (lawW w ls) w a.toInt < 0 by omega)]; exact e_1), e_2⟩
  · refine br0 c1 ?_
    have d5 := nlt_z (x := (Int32.toInt a)) (y := 0) rfl rfl c1
    by_cases c6 : h0_world_crew_count ≤ a
    · refine br1 c6 ?_
      have d7 := le_z (x := (Int32.toInt h0_world_crew_count)) (y := (Int32.toInt a)) rfl rfl c6
      refine br1 (by decide) ?_
      have k8 : Int32.toInt (-2) = (-2) := (by decide)
      have hR9 : haulR (lawW w ls) w a.toInt = (-2) := by unfold haulR; (repeat' split) <;> omega
      exact hq _ _ _ _ _ _ _ _ _ _ _ _ _ _ _ _ ⟨(by decide), h_f_h0_world_term, (by first | with_reducible assumption | exact ⟨by omega, by omega⟩), h_f_h0_world_rock_water, h_f_h0_world_crew_buckets, (by first | with_reducible assumption | exact ⟨by omega, by omega⟩), (by first | with_reducible assumption | exact ⟨by omega, by omega⟩), hR9.symm, (by unfold haulW; rw [if_pos (show haulR (lawW w ls) w a.toInt < 0 by omega)]; exact e_0), (by unfold haulW rmU; rw [if_pos (show haulR (lawW w ls) w a.toInt < 0 by omega), if_pos (show haulR (lawW w ls) w a.toInt < 0 by omega)]; exact e_1), e_2⟩
    · refine br0 c6 ?_
      have d10 := nle_z (x := (Int32.toInt h0_world_crew_count)) (y := (Int32.toInt a)) rfl rfl c6
      refine br0 (by decide) ?_
      refine ⟨vpi (x := (Int32.toInt a)) rfl (by omega) (by omega), ?_⟩
      have g11 : 0 ≤ (Int32.toInt (f_h0_world_crew_cell a.toNatClampNeg)) ∧ (Int32.toInt (f_h0_world_crew_cell a.toNatClampNeg)) ≤ 39 := CE.at_0 h_f_h0_world_crew_cell (tnz (x := (Int32.toInt a)) rfl (by omega)) (by omega) (by omega)
      have t12 : (Int32.toInt (f_h0_world_crew_cell a.toNatClampNeg)) = w (10 + ((Int32.toInt a)).toNat) := RkW.z l_ce (i := ((Int32.toInt a)).toNat) rfl (by omega)
      refine ⟨vpi (x := (Int32.toInt (f_h0_world_crew_cell a.toNatClampNeg))) rfl (by omega) (by omega), ?_⟩
      by_cases c13 : (f_h0_world_rock_kind (f_h0_world_crew_cell a.toNatClampNeg).toNatClampNeg) = 3
      · refine br1 c13 ?_
        have g14 : 0 ≤ (Int32.toInt (f_h0_world_rock_kind (f_h0_world_crew_cell a.toNatClampNeg).toNatClampNeg)) ∧ (Int32.toInt (f_h0_world_rock_kind (f_h0_world_crew_cell a.toNatClampNeg).toNatClampNeg)) ≤ 3 := KI.at_0 h_f_h0_world_rock_kind (tnz (x := (Int32.toInt (f_h0_world_crew_cell a.toNatClampNeg))) rfl (by omega)) (by omega) (by omega)
        have t15 : (Int32.toInt (f_h0_world_rock_kind (f_h0_world_crew_cell a.toNatClampNeg).toNatClampNeg)) = w (113 + (w (10 + ((Int32.toInt a)).toNat)).toNat) := RkW.z l_kd (i := (w (10 + ((Int32.toInt a)).toNat)).toNat) (show Int.toNat _ = Int.toNat _ by omega) (by omega)
        have d16 := eq_z (x := (Int32.toInt (f_h0_world_rock_kind (f_h0_world_crew_cell a.toNatClampNeg).toNatClampNeg))) (y := 3) rfl rfl c13
        by_cases c17 : (f_h0_world_term (0 : Int32).toNatClampNeg) < 9999
        · refine br1 c17 ?_
          have g18 : 0 ≤ (Int32.toInt (f_h0_world_term (0 : Int32).toNatClampNeg)) ∧ (Int32.toInt (f_h0_world_term (0 : Int32).toNatClampNeg)) ≤ 9999 := TE.at_0 h_f_h0_world_term (rfl : ((0 : Nat) : Int) = 0) (by omega) (by omega)
          have t19 : (Int32.toInt (f_h0_world_term (0 : Int32).toNatClampNeg)) = w (7) := RkW.z l_te (i := 0) rfl (by omega)
          have d20 := lt_z (x := (Int32.toInt (f_h0_world_term (0 : Int32).toNatClampNeg))) (y := 9999) rfl rfl c17
          refine o_X10_lawInForce_N _ _ _ _ ?_
          refine o_X10_lawOf_N _ _ _ _ ?_
          refine br1 (z_lt (x := (Int32.toInt h0_world_force)) (y := 0) rfl rfl (by omega)) ?_
          refine o_X0_turnTo_N _ ?_
          refine z_cgivesN (RXw.wk e_0) h_f_h0_world_rock_water (by first | with_reducible assumption | exact ⟨by omega, by omega⟩)  (fun r21 H22 => ?_)
          have j23 := H22.1
          have j24 := H22.2.1
          rw [← hF] at j24
          have j25 := H22.2.2
          rw [show (Int32.toInt (f_h0_world_crew_cell a.toNatClampNeg)) = w (10 + ((Int32.toInt a)).toNat) by omega] at j24
          refine un3_i ?_
          refine ⟨vpi (x := (Int32.toInt a)) rfl (by omega) (by omega), ?_⟩
          refine ⟨vpi (x := (Int32.toInt (f_h0_world_crew_cell a.toNatClampNeg))) rfl (by omega) (by omega), ?_⟩
          have k26 : Int32.toInt 1 = 1 := rfl
          have g27 : 0 ≤ (Int32.toInt (f_h0_world_rock_water (f_h0_world_crew_cell a.toNatClampNeg).toNatClampNeg)) ∧ (Int32.toInt (f_h0_world_rock_water (f_h0_world_crew_cell a.toNatClampNeg).toNatClampNeg)) ≤ 99 := WA.at_0 h_f_h0_world_rock_water (tnz (x := (Int32.toInt (f_h0_world_crew_cell a.toNatClampNeg))) rfl (by omega)) (by omega) (by omega)
          have t28 : (Int32.toInt (f_h0_world_rock_water (f_h0_world_crew_cell a.toNatClampNeg).toNatClampNeg)) = w (73 + (w (10 + ((Int32.toInt a)).toNat)).toNat) := RkW.z l_wt (i := (w (10 + ((Int32.toInt a)).toNat)).toNat) (show Int.toNat _ = Int.toNat _ by omega) (by omega)
          have g29 : 0 ≤ (Int32.toInt (f_h0_world_crew_buckets a.toNatClampNeg)) ∧ (Int32.toInt (f_h0_world_crew_buckets a.toNatClampNeg)) ≤ 9999 := BU.at_0 h_f_h0_world_crew_buckets (tnz (x := (Int32.toInt a)) rfl (by omega)) (by omega) (by omega)
          have t30 : (Int32.toInt (f_h0_world_crew_buckets a.toNatClampNeg)) = w (16 + ((Int32.toInt a)).toNat) := RkW.z l_bu (i := ((Int32.toInt a)).toNat) rfl (by omega)
          refine s_X2_addz 1 a (f_h0_world_rock_water (f_h0_world_crew_cell a.toNatClampNeg).toNatClampNeg) (f_h0_world_crew_buckets a.toNatClampNeg) (f_h0_world_term (0 : Int32).toNatClampNeg) h0_diary_kept h0_diary_latest (f_h0_diary_deed) (f_h0_diary_whose) (f_h0_diary_before) (f_h0_diary_bucketsBefore) (f_h0_diary_dayBefore) (w₉ := (haulC w (Int32.toInt a) (w (10 + ((Int32.toInt a)).toNat)) (Int32.toInt r21))) (by first | with_reducible assumption | exact ⟨by omega, by omega⟩) (by first | with_reducible assumption | exact ⟨by omega, by omega⟩) e_2 (by unfold DR; omega) e_1 (fun j _ _ => by rw [show (Int32.toInt (f_h0_world_rock_water (f_h0_world_crew_cell a.toNatClampNeg).toNatClampNeg)) = w (73 + (w (10 + ((Int32.toInt a)).toNat)).toNat) by omega, show (Int32.toInt (f_h0_world_crew_buckets a.toNatClampNeg)) = w (16 + ((Int32.toInt a)).toNat) by omega, show (Int32.toInt (f_h0_world_term (0 : Int32).toNatClampNeg)) = w (7) by omega]; exact inv_haul (by omega) j) (fun q => absurd q (by decide)) (fun u31 u32 u33 u34 u35 u36 u37 H38 => ?_)
          have j39 := H38.2.2.1
          have j40 := H38.2.2.2
          have j41 := H38.1
          have j42 := H38.2.1
          refine un7_i ?_
          refine ⟨vpi (x := (Int32.toInt (f_h0_world_crew_cell a.toNatClampNeg))) rfl (by omega) (by omega), ?_⟩
          refine ⟨vpi (x := (Int32.toInt (f_h0_world_crew_cell a.toNatClampNeg))) rfl (by omega) (by omega), ?_⟩
          refine ⟨vpi (x := (Int32.toInt a)) rfl (by omega) (by omega), ?_⟩
          have t43 := i32_hi r21
          have t44 : (Int32.toInt ((f_h0_world_term (0 : Int32).toNatClampNeg) + 1)) = (Int32.toInt (f_h0_world_term (0 : Int32).toNatClampNeg)) + 1 := add_z rfl rfl (by omega) (by omega)
          have R45 : TE (upd f_h0_world_term 0 ((f_h0_world_term (0 : Int32).toNatClampNeg) + 1)) := TE.up_0 h_f_h0_world_term (rfl : ((0 : Nat) : Int) = 0) (by omega) (by omega) (w := (Int32.toInt ((f_h0_world_term (0 : Int32).toNatClampNeg) + 1))) rfl (by omega) (by omega)
          have t46 : (Int32.toInt ((f_h0_world_rock_water (f_h0_world_crew_cell a.toNatClampNeg).toNatClampNeg) - r21)) = (Int32.toInt (f_h0_world_rock_water (f_h0_world_crew_cell a.toNatClampNeg).toNatClampNeg)) - (Int32.toInt r21) := sub_z rfl rfl (by omega) (by omega)
          have R47 : WA (upd f_h0_world_rock_water (f_h0_world_crew_cell a.toNatClampNeg).toNatClampNeg ((f_h0_world_rock_water (f_h0_world_crew_cell a.toNatClampNeg).toNatClampNeg) - r21)) := WA.up_0 h_f_h0_world_rock_water (tnz (x := (Int32.toInt (f_h0_world_crew_cell a.toNatClampNeg))) rfl (by omega)) (by omega) (by omega) (w := (Int32.toInt ((f_h0_world_rock_water (f_h0_world_crew_cell a.toNatClampNeg).toNatClampNeg) - r21))) rfl (by omega) (by omega)
          have t48 : (Int32.toInt ((f_h0_world_crew_buckets a.toNatClampNeg) + r21)) = (Int32.toInt (f_h0_world_crew_buckets a.toNatClampNeg)) + (Int32.toInt r21) := add_z rfl rfl (by omega) (by omega)
          have t49 := mn_z (a := 9999) (b := ((f_h0_world_crew_buckets a.toNatClampNeg) + r21))
          have k50 : Int32.toInt 9999 = 9999 := rfl
          have R51 : BU (upd f_h0_world_crew_buckets a.toNatClampNeg (if ((f_h0_world_crew_buckets a.toNatClampNeg) + r21) < 9999 then ((f_h0_world_crew_buckets a.toNatClampNeg) + r21) else 9999)) := BU.up_0 h_f_h0_world_crew_buckets (tnz (x := (Int32.toInt a)) rfl (by omega)) (by omega) (by omega) (w := (Int32.toInt (if ((f_h0_world_crew_buckets a.toNatClampNeg) + r21) < 9999 then ((f_h0_world_crew_buckets a.toNatClampNeg) + r21) else 9999))) rfl (by omega) (by omega)
          have hR52 : haulR (lawW w ls) w a.toInt = (Int32.toInt r21) := by unfold haulR; (repeat' split) <;> omega
          exact hq _ _ _ _ _ _ _ _ _ _ _ _ _ _ _ _ ⟨(by first | with_reducible assumption | exact ⟨by omega, by omega⟩), R45, (by first | with_reducible assumption | exact ⟨by omega, by omega⟩), R47, R51, (by first | with_reducible assumption | exact ⟨by omega, by omega⟩), (by first | with_reducible assumption | exact ⟨by omega, by omega⟩), hR52.symm, (by unfold haulW; rw [if_neg (show ¬ haulR (lawW w ls) w a.toInt < 0 by omega)]; unfold haulO; rw [← j24]; unfold haulC; exact RXw.u_te (RXw.u_bu (i := a.toInt.toNat) (RXw.u_wt e_0 (show Int.toNat _ = Int.toNat _ by omega) (by omega) (by omega)) rfl (by omega) (by first | omega | ((repeat' split) <;> omega))) (k := 0) (i := 0) rfl (by decide) (by omega)), (by unfold haulW rmU; rw [if_neg (show ¬ haulR (lawW w ls) w a.toInt < 0 by omega), if_neg (show ¬ haulR (lawW w ls) w a.toInt < 0 by omega)]; unfold haulO; rw [← j24]; exact j40), j39⟩
        · refine br0 c17 ?_
          have g53 : 0 ≤ (Int32.toInt (f_h0_world_term (0 : Int32).toNatClampNeg)) ∧ (Int32.toInt (f_h0_world_term (0 : Int32).toNatClampNeg)) ≤ 9999 := TE.at_0 h_f_h0_world_term (rfl : ((0 : Nat) : Int) = 0) (by omega) (by omega)
          have t54 : (Int32.toInt (f_h0_world_term (0 : Int32).toNatClampNeg)) = w (7) := RkW.z l_te (i := 0) rfl (by omega)
          have d55 := nlt_z (x := (Int32.toInt (f_h0_world_term (0 : Int32).toNatClampNeg))) (y := 9999) rfl rfl c17
          have k56 : Int32.toInt (-3) = (-3) := (by decide)
          have hR57 : haulR (lawW w ls) w a.toInt = (-3) := by unfold haulR; (repeat' split) <;> omega
          exact hq _ _ _ _ _ _ _ _ _ _ _ _ _ _ _ _ ⟨(by decide), h_f_h0_world_term, (by first | with_reducible assumption | exact ⟨by omega, by omega⟩), h_f_h0_world_rock_water, h_f_h0_world_crew_buckets, (by first | with_reducible assumption | exact ⟨by omega, by omega⟩), (by first | with_reducible assumption | exact ⟨by omega, by omega⟩), hR57.symm, (by unfold haulW; rw [if_pos (show haulR (lawW w ls) w a.toInt < 0 by omega)]; exact e_0), (by unfold haulW rmU; rw [if_pos (show haulR (lawW w ls) w a.toInt < 0 by omega), if_pos (show haulR (lawW w ls) w a.toInt < 0 by omega)]; exact e_1), e_2⟩
      · refine br0 c13 ?_
        have g58 : 0 ≤ (Int32.toInt (f_h0_world_rock_kind (f_h0_world_crew_cell a.toNatClampNeg).toNatClampNeg)) ∧ (Int32.toInt (f_h0_world_rock_kind (f_h0_world_crew_cell a.toNatClampNeg).toNatClampNeg)) ≤ 3 := KI.at_0 h_f_h0_world_rock_kind (tnz (x := (Int32.toInt (f_h0_world_crew_cell a.toNatClampNeg))) rfl (by omega)) (by omega) (by omega)
        have t59 : (Int32.toInt (f_h0_world_rock_kind (f_h0_world_crew_cell a.toNatClampNeg).toNatClampNeg)) = w (113 + (w (10 + ((Int32.toInt a)).toNat)).toNat) := RkW.z l_kd (i := (w (10 + ((Int32.toInt a)).toNat)).toNat) (show Int.toNat _ = Int.toNat _ by omega) (by omega)
        have d60 := ne_z (x := (Int32.toInt (f_h0_world_rock_kind (f_h0_world_crew_cell a.toNatClampNeg).toNatClampNeg))) (y := 3) rfl rfl c13
        have k61 : Int32.toInt (-3) = (-3) := (by decide)
        have hR62 : haulR (lawW w ls) w a.toInt = (-3) := by unfold haulR; (repeat' split) <;> omega
        exact hq _ _ _ _ _ _ _ _ _ _ _ _ _ _ _ _ ⟨(by decide), h_f_h0_world_term, (by first | with_reducible assumption | exact ⟨by omega, by omega⟩), h_f_h0_world_rock_water, h_f_h0_world_crew_buckets, (by first | with_reducible assumption | exact ⟨by omega, by omega⟩), (by first | with_reducible assumption | exact ⟨by omega, by omega⟩), hR62.symm, (by unfold haulW; rw [if_pos (show haulR (lawW w ls) w a.toInt < 0 by omega)]; exact e_0), (by unfold haulW rmU; rw [if_pos (show haulR (lawW w ls) w a.toInt < 0 by omega), if_pos (show haulR (lawW w ls) w a.toInt < 0 by omega)]; exact e_1), e_2⟩


set_option maxRecDepth 100000 in
theorem s_X7_tryHaul_Tz (a : Int32) (h0_world : Nat) (h0_world_lawCount : Int32) (h0_world_force : Int32) (h0_world_crew_count : Int32) (f_h0_world_crew_cell : Nat → Int32) (f_h0_world_term : Nat → Int32) (f_h0_world_rock_kind : Nat → Int32) (f_h0_world_laws : Nat → Option Nat) (h0_asker_world : Value) (h0_asker_law : Value) (h0_asker_cell : Int32) (h0_asker_shaft : Int32) (h0_asker_kind : Int32) (h0_asker_done : Int32) (h0_asker_latest : Int32) (h0_asker_value : Int32) (t : Nat) (t_clauses : Int32) (t_length : Int32) (n_t_heads : Nat) (f_t_heads : Nat → Int32) (n_t_code : Nat) (f_t_code : Nat → Int32) (f_h0_asker_stack : Nat → Int64) (h0_world_folk_listeners : Int32) (f_h0_world_folk_column : Nat → Int32) (f_h0_world_rock_hard : Nat → Int32) (f_h0_world_rock_water : Nat → Int32) (f_h0_world_crew_buckets : Nat → Int32) (h0_diary_kept : Int32) (h0_diary_latest : Int32) (f_h0_diary_deed : Nat → Int32) (f_h0_diary_whose : Nat → Int32) (f_h0_diary_before : Nat → Int32) (f_h0_diary_bucketsBefore : Nat → Int32) (f_h0_diary_dayBefore : Nat → Int32) {w : Nat → Int} {U : UL} {ls : Nat → List Cls} {g_dg : Int64} {g_ea : Nat → Int32} {g_nc : Nat → Int32} {g_nl : Nat → Int32} {g_ns : Int32} {g_hu : Int32} {g_hc : Nat → Int32} {g_hl : Nat → Int32} {g_hs : Int32} {g_so : Nat → Int32} {g_we : Nat → Int32} {g_wl : Int32} (h_h0_world_lawCount : 0 ≤ h0_world_lawCount.toInt ∧ h0_world_lawCount.toInt ≤ 6) (h_h0_world_force : 0 ≤ h0_world_force.toInt ∧ h0_world_force.toInt ≤ 5) (h_h0_world_crew_count : 0 ≤ h0_world_crew_count.toInt ∧ h0_world_crew_count.toInt ≤ 6) (h_f_h0_world_crew_cell : CE f_h0_world_crew_cell) (h_f_h0_world_term : TE f_h0_world_term) (h_f_h0_world_rock_kind : KI f_h0_world_rock_kind) (h_h0_asker_cell : 0 ≤ h0_asker_cell.toInt ∧ h0_asker_cell.toInt ≤ 39) (h_t_clauses : 0 ≤ t_clauses.toInt ∧ t_clauses.toInt ≤ 12) (h_t_length : 0 ≤ t_length.toInt ∧ t_length.toInt ≤ 400) (h_f_t_code : CD f_t_code) (h_h0_world_folk_listeners : 0 ≤ h0_world_folk_listeners.toInt ∧ h0_world_folk_listeners.toInt ≤ 5) (h_f_h0_world_folk_column : CO f_h0_world_folk_column) (h_f_h0_world_rock_hard : HA f_h0_world_rock_hard) (h_f_h0_world_rock_water : WA f_h0_world_rock_water) (h_f_h0_world_crew_buckets : BU f_h0_world_crew_buckets) (h_h0_diary_kept : 0 ≤ h0_diary_kept.toInt ∧ h0_diary_kept.toInt ≤ 16) (h_h0_diary_latest : 0 ≤ h0_diary_latest.toInt ∧ h0_diary_latest.toInt ≤ 15) (e_0 : RXw f_h0_world_rock_kind f_h0_world_rock_hard f_h0_world_rock_water g_dg f_h0_world_crew_cell f_h0_world_crew_buckets h0_world_crew_count f_h0_world_folk_column g_ea h0_world_folk_listeners g_nc g_nl g_ns g_hu g_hc g_hl g_hs g_so g_we g_wl f_h0_world_term h0_world_lawCount h0_world_force w) (e_1 : RXu f_h0_diary_deed f_h0_diary_whose f_h0_diary_before f_h0_diary_bucketsBefore f_h0_diary_dayBefore h0_diary_kept h0_diary_latest w U) (e_2 : DI f_h0_diary_deed f_h0_diary_whose f_h0_diary_before f_h0_diary_bucketsBefore f_h0_diary_dayBefore) (e_3 : XTx t_clauses t_length n_t_heads f_t_heads n_t_code f_t_code (ls (w 6).toNat)) (e_4 : ∀ q ∈ ls (w 6).toNat, okC q) (e_5 : n_t_heads < 100000) (e_6 : t_length.toInt ≤ (n_t_code : Int)) (e_7 : h0_world_force.toInt < h0_world_lawCount.toInt) (e_8 : f_h0_world_laws (Int32.toNatClampNeg h0_world_force) = some t) {Q : Int32 → ((Nat → Int32) × Value × Value × Int32 × Int32 × Int32 × Int32 × (Nat → Int64) × (Nat → Int32) × (Nat → Int32) × Int32 × Int32 × (Nat → Int32) × (Nat → Int32) × (Nat → Int32) × (Nat → Int32) × (Nat → Int32)) → Prop} (hq : ∀ (r : Int32) (u_0 : Nat → Int32) (u_1 : Value) (u_2 : Value) (u_3 : Int32) (u_4 : Int32) (u_5 : Int32) (u_6 : Int32) (u_7 : Nat → Int64) (u_8 : Nat → Int32) (u_9 : Nat → Int32) (u_10 : Int32) (u_11 : Int32) (u_12 : Nat → Int32) (u_13 : Nat → Int32) (u_14 : Nat → Int32) (u_15 : Nat → Int32) (u_16 : Nat → Int32), ((-3) ≤ r.toInt ∧ r.toInt ≤ 2147483647) ∧ (TE u_0) ∧ (0 ≤ u_3.toInt ∧ u_3.toInt ≤ 39) ∧ (WA u_8) ∧ (BU u_9) ∧ (0 ≤ u_10.toInt ∧ u_10.toInt ≤ 16) ∧ (0 ≤ u_11.toInt ∧ u_11.toInt ≤ 15) ∧ (r.toInt = haulR (lawW w ls) w a.toInt) ∧ (RXw f_h0_world_rock_kind f_h0_world_rock_hard u_8 g_dg f_h0_world_crew_cell u_9 h0_world_crew_count f_h0_world_folk_column g_ea h0_world_folk_listeners g_nc g_nl g_ns g_hu g_hc g_hl g_hs g_so g_we g_wl u_0 h0_world_lawCount h0_world_force (haulW (lawW w ls) w a.toInt)) ∧ (RXu u_12 u_13 u_14 u_15 u_16 u_10 u_11 (haulW (lawW w ls) w a.toInt) (rmU (haulR (lawW w ls) w a.toInt) 1 w U)) ∧ (DI u_12 u_13 u_14 u_15 u_16) → Q r (u_0, u_1, u_2, u_3, u_4, u_5, u_6, u_7, u_8, u_9, u_10, u_11, u_12, u_13, u_14, u_15, u_16)) : wp_X7_tryHaul_T a h0_world h0_world_lawCount h0_world_force h0_world_crew_count f_h0_world_crew_cell f_h0_world_term f_h0_world_rock_kind f_h0_world_laws h0_asker_world h0_asker_law h0_asker_cell h0_asker_shaft h0_asker_kind h0_asker_done h0_asker_latest h0_asker_value t t_clauses t_length n_t_heads f_t_heads n_t_code f_t_code f_h0_asker_stack h0_world_folk_listeners f_h0_world_folk_column f_h0_world_rock_hard f_h0_world_rock_water f_h0_world_crew_buckets h0_diary_kept h0_diary_latest f_h0_diary_deed f_h0_diary_whose f_h0_diary_before f_h0_diary_bucketsBefore f_h0_diary_dayBefore Q := by
  unfold wp_X7_tryHaul_T
  have l_kd := RXw.kd e_0
  have l_hd := RXw.hd e_0
  have l_wt := RXw.wt e_0
  have l_ce := RXw.ce e_0
  have l_bu := RXw.bu e_0
  have l_cc : h0_world_crew_count.toInt = w 0 := RXw.cc e_0
  have l_co := RXw.co e_0
  have l_ls : h0_world_folk_listeners.toInt = w 1 := RXw.ls e_0
  have l_te := RXw.te e_0
  have l_lc : h0_world_lawCount.toInt = w 5 := RXw.lc e_0
  have l_fo : h0_world_force.toInt = w 6 := RXw.fo e_0
  have hF : lawW w ls = some (ls (w 6).toNat) := lawW_s (by omega)
  refine o_X11_isWithin _ _ _ ?_
  by_cases c1 : a < 0
  · refine br1 c1 ?_
    have d2 := lt_z (x := (Int32.toInt a)) (y := 0) rfl rfl c1
    refine br1 (by decide) ?_
    have k3 : Int32.toInt (-2) = (-2) := (by decide)
    have hR4 : haulR (lawW w ls) w a.toInt = (-2) := by unfold haulR; (repeat' split) <;> omega
    exact hq _ _ _ _ _ _ _ _ _ _ _ _ _ _ _ _ _ _ ⟨(by decide), h_f_h0_world_term, (by first | with_reducible assumption | exact ⟨by omega, by omega⟩), h_f_h0_world_rock_water, h_f_h0_world_crew_buckets, (by first | with_reducible assumption | exact ⟨by omega, by omega⟩), (by first | with_reducible assumption | exact ⟨by omega, by omega⟩), hR4.symm, (by unfold haulW; rw [if_pos (show haulR (lawW w ls) w a.toInt < 0 by omega)]; exact e_0), (by unfold haulW rmU; rw [if_pos (show haulR (lawW w ls) w a.toInt < 0 by omega), if_pos (show haulR (lawW w ls) w a.toInt < 0 by omega)]; exact e_1), e_2⟩
  · refine br0 c1 ?_
    have d5 := nlt_z (x := (Int32.toInt a)) (y := 0) rfl rfl c1
    by_cases c6 : h0_world_crew_count ≤ a
    · refine br1 c6 ?_
      have d7 := le_z (x := (Int32.toInt h0_world_crew_count)) (y := (Int32.toInt a)) rfl rfl c6
      refine br1 (by decide) ?_
      have k8 : Int32.toInt (-2) = (-2) := (by decide)
      have hR9 : haulR (lawW w ls) w a.toInt = (-2) := by unfold haulR; (repeat' split) <;> omega
      exact hq _ _ _ _ _ _ _ _ _ _ _ _ _ _ _ _ _ _ ⟨(by decide), h_f_h0_world_term, (by first | with_reducible assumption | exact ⟨by omega, by omega⟩), h_f_h0_world_rock_water, h_f_h0_world_crew_buckets, (by first | with_reducible assumption | exact ⟨by omega, by omega⟩), (by first | with_reducible assumption | exact ⟨by omega, by omega⟩), hR9.symm, (by unfold haulW; rw [if_pos (show haulR (lawW w ls) w a.toInt < 0 by omega)]; exact e_0), (by unfold haulW rmU; rw [if_pos (show haulR (lawW w ls) w a.toInt < 0 by omega), if_pos (show haulR (lawW w ls) w a.toInt < 0 by omega)]; exact e_1), e_2⟩
    · refine br0 c6 ?_
      have d10 := nle_z (x := (Int32.toInt h0_world_crew_count)) (y := (Int32.toInt a)) rfl rfl c6
      refine br0 (by decide) ?_
      refine ⟨vpi (x := (Int32.toInt a)) rfl (by omega) (by omega), ?_⟩
      have g11 : 0 ≤ (Int32.toInt (f_h0_world_crew_cell a.toNatClampNeg)) ∧ (Int32.toInt (f_h0_world_crew_cell a.toNatClampNeg)) ≤ 39 := CE.at_0 h_f_h0_world_crew_cell (tnz (x := (Int32.toInt a)) rfl (by omega)) (by omega) (by omega)
      have t12 : (Int32.toInt (f_h0_world_crew_cell a.toNatClampNeg)) = w (10 + ((Int32.toInt a)).toNat) := RkW.z l_ce (i := ((Int32.toInt a)).toNat) rfl (by omega)
      refine ⟨vpi (x := (Int32.toInt (f_h0_world_crew_cell a.toNatClampNeg))) rfl (by omega) (by omega), ?_⟩
      by_cases c13 : (f_h0_world_rock_kind (f_h0_world_crew_cell a.toNatClampNeg).toNatClampNeg) = 3
      · refine br1 c13 ?_
        have g14 : 0 ≤ (Int32.toInt (f_h0_world_rock_kind (f_h0_world_crew_cell a.toNatClampNeg).toNatClampNeg)) ∧ (Int32.toInt (f_h0_world_rock_kind (f_h0_world_crew_cell a.toNatClampNeg).toNatClampNeg)) ≤ 3 := KI.at_0 h_f_h0_world_rock_kind (tnz (x := (Int32.toInt (f_h0_world_crew_cell a.toNatClampNeg))) rfl (by omega)) (by omega) (by omega)
        have t15 : (Int32.toInt (f_h0_world_rock_kind (f_h0_world_crew_cell a.toNatClampNeg).toNatClampNeg)) = w (113 + (w (10 + ((Int32.toInt a)).toNat)).toNat) := RkW.z l_kd (i := (w (10 + ((Int32.toInt a)).toNat)).toNat) (show Int.toNat _ = Int.toNat _ by omega) (by omega)
        have d16 := eq_z (x := (Int32.toInt (f_h0_world_rock_kind (f_h0_world_crew_cell a.toNatClampNeg).toNatClampNeg))) (y := 3) rfl rfl c13
        by_cases c17 : (f_h0_world_term (0 : Int32).toNatClampNeg) < 9999
        · refine br1 c17 ?_
          have g18 : 0 ≤ (Int32.toInt (f_h0_world_term (0 : Int32).toNatClampNeg)) ∧ (Int32.toInt (f_h0_world_term (0 : Int32).toNatClampNeg)) ≤ 9999 := TE.at_0 h_f_h0_world_term (rfl : ((0 : Nat) : Int) = 0) (by omega) (by omega)
          have t19 : (Int32.toInt (f_h0_world_term (0 : Int32).toNatClampNeg)) = w (7) := RkW.z l_te (i := 0) rfl (by omega)
          have d20 := lt_z (x := (Int32.toInt (f_h0_world_term (0 : Int32).toNatClampNeg))) (y := 9999) rfl rfl c17
          refine o_X10_lawInForce_T _ _ _ _ _ ?_
          refine o_X10_lawOf_T _ _ _ _ _ ?_
          refine br0 (z_nlt (x := (Int32.toInt h0_world_force)) (y := 0) rfl rfl (by omega)) ?_
          by_cases c21 : h0_world_lawCount ≤ h0_world_force
          · refine br1 c21 ?_
            have d22 := le_z (x := (Int32.toInt h0_world_lawCount)) (y := (Int32.toInt h0_world_force)) rfl rfl c21
            exfalso
            omega
          · refine br0 c21 ?_
            have d23 := nle_z (x := (Int32.toInt h0_world_lawCount)) (y := (Int32.toInt h0_world_force)) rfl rfl c21
            refine br0 (z_nle (x := 6) (y := (Int32.toInt h0_world_force)) rfl rfl (by omega)) ?_
            refine ⟨vpi (x := (Int32.toInt h0_world_force)) rfl (by omega) (by omega), ?_⟩
            refine ⟨by assumption, ?_⟩
            refine o_X0_turnTo_T _ ?_
            refine z_cgivesT e_3 e_4 (RXw.wk e_0) (LwB.of h_f_h0_world_rock_kind h_f_h0_world_rock_hard h_f_h0_world_rock_water h_f_h0_world_term) (by first | with_reducible assumption | exact ⟨by omega, by omega⟩) (by first | with_reducible assumption | exact ⟨by omega, by omega⟩) (fun r24 v25 st26 H27 => ?_)
            have j28 := H27.1
            have j29 := H27.2.1
            rw [← hF] at j29
            have j30 := H27.2.2
            rw [show (Int32.toInt (f_h0_world_crew_cell a.toNatClampNeg)) = w (10 + ((Int32.toInt a)).toNat) by omega] at j29
            refine un5_i ?_
            refine ⟨vpi (x := (Int32.toInt a)) rfl (by omega) (by omega), ?_⟩
            refine ⟨vpi (x := (Int32.toInt (f_h0_world_crew_cell a.toNatClampNeg))) rfl (by omega) (by omega), ?_⟩
            have k31 : Int32.toInt 1 = 1 := rfl
            have g32 : 0 ≤ (Int32.toInt (f_h0_world_rock_water (f_h0_world_crew_cell a.toNatClampNeg).toNatClampNeg)) ∧ (Int32.toInt (f_h0_world_rock_water (f_h0_world_crew_cell a.toNatClampNeg).toNatClampNeg)) ≤ 99 := WA.at_0 h_f_h0_world_rock_water (tnz (x := (Int32.toInt (f_h0_world_crew_cell a.toNatClampNeg))) rfl (by omega)) (by omega) (by omega)
            have t33 : (Int32.toInt (f_h0_world_rock_water (f_h0_world_crew_cell a.toNatClampNeg).toNatClampNeg)) = w (73 + (w (10 + ((Int32.toInt a)).toNat)).toNat) := RkW.z l_wt (i := (w (10 + ((Int32.toInt a)).toNat)).toNat) (show Int.toNat _ = Int.toNat _ by omega) (by omega)
            have g34 : 0 ≤ (Int32.toInt (f_h0_world_crew_buckets a.toNatClampNeg)) ∧ (Int32.toInt (f_h0_world_crew_buckets a.toNatClampNeg)) ≤ 9999 := BU.at_0 h_f_h0_world_crew_buckets (tnz (x := (Int32.toInt a)) rfl (by omega)) (by omega) (by omega)
            have t35 : (Int32.toInt (f_h0_world_crew_buckets a.toNatClampNeg)) = w (16 + ((Int32.toInt a)).toNat) := RkW.z l_bu (i := ((Int32.toInt a)).toNat) rfl (by omega)
            refine s_X2_addz 1 a (f_h0_world_rock_water (f_h0_world_crew_cell a.toNatClampNeg).toNatClampNeg) (f_h0_world_crew_buckets a.toNatClampNeg) (f_h0_world_term (0 : Int32).toNatClampNeg) h0_diary_kept h0_diary_latest (f_h0_diary_deed) (f_h0_diary_whose) (f_h0_diary_before) (f_h0_diary_bucketsBefore) (f_h0_diary_dayBefore) (w₉ := (haulC w (Int32.toInt a) (w (10 + ((Int32.toInt a)).toNat)) (Int32.toInt r24))) (by first | with_reducible assumption | exact ⟨by omega, by omega⟩) (by first | with_reducible assumption | exact ⟨by omega, by omega⟩) e_2 (by unfold DR; omega) e_1 (fun j _ _ => by rw [show (Int32.toInt (f_h0_world_rock_water (f_h0_world_crew_cell a.toNatClampNeg).toNatClampNeg)) = w (73 + (w (10 + ((Int32.toInt a)).toNat)).toNat) by omega, show (Int32.toInt (f_h0_world_crew_buckets a.toNatClampNeg)) = w (16 + ((Int32.toInt a)).toNat) by omega, show (Int32.toInt (f_h0_world_term (0 : Int32).toNatClampNeg)) = w (7) by omega]; exact inv_haul (by omega) j) (fun q => absurd q (by decide)) (fun u36 u37 u38 u39 u40 u41 u42 H43 => ?_)
            have j44 := H43.2.2.1
            have j45 := H43.2.2.2
            have j46 := H43.1
            have j47 := H43.2.1
            refine un7_i ?_
            refine ⟨vpi (x := (Int32.toInt (f_h0_world_crew_cell a.toNatClampNeg))) rfl (by omega) (by omega), ?_⟩
            refine ⟨vpi (x := (Int32.toInt (f_h0_world_crew_cell a.toNatClampNeg))) rfl (by omega) (by omega), ?_⟩
            refine ⟨vpi (x := (Int32.toInt a)) rfl (by omega) (by omega), ?_⟩
            have t48 := i32_hi r24
            have t49 : (Int32.toInt ((f_h0_world_term (0 : Int32).toNatClampNeg) + 1)) = (Int32.toInt (f_h0_world_term (0 : Int32).toNatClampNeg)) + 1 := add_z rfl rfl (by omega) (by omega)
            have R50 : TE (upd f_h0_world_term 0 ((f_h0_world_term (0 : Int32).toNatClampNeg) + 1)) := TE.up_0 h_f_h0_world_term (rfl : ((0 : Nat) : Int) = 0) (by omega) (by omega) (w := (Int32.toInt ((f_h0_world_term (0 : Int32).toNatClampNeg) + 1))) rfl (by omega) (by omega)
            have t51 : (Int32.toInt ((f_h0_world_rock_water (f_h0_world_crew_cell a.toNatClampNeg).toNatClampNeg) - r24)) = (Int32.toInt (f_h0_world_rock_water (f_h0_world_crew_cell a.toNatClampNeg).toNatClampNeg)) - (Int32.toInt r24) := sub_z rfl rfl (by omega) (by omega)
            have R52 : WA (upd f_h0_world_rock_water (f_h0_world_crew_cell a.toNatClampNeg).toNatClampNeg ((f_h0_world_rock_water (f_h0_world_crew_cell a.toNatClampNeg).toNatClampNeg) - r24)) := WA.up_0 h_f_h0_world_rock_water (tnz (x := (Int32.toInt (f_h0_world_crew_cell a.toNatClampNeg))) rfl (by omega)) (by omega) (by omega) (w := (Int32.toInt ((f_h0_world_rock_water (f_h0_world_crew_cell a.toNatClampNeg).toNatClampNeg) - r24))) rfl (by omega) (by omega)
            have t53 : (Int32.toInt ((f_h0_world_crew_buckets a.toNatClampNeg) + r24)) = (Int32.toInt (f_h0_world_crew_buckets a.toNatClampNeg)) + (Int32.toInt r24) := add_z rfl rfl (by omega) (by omega)
            have t54 := mn_z (a := 9999) (b := ((f_h0_world_crew_buckets a.toNatClampNeg) + r24))
            have k55 : Int32.toInt 9999 = 9999 := rfl
            have R56 : BU (upd f_h0_world_crew_buckets a.toNatClampNeg (if ((f_h0_world_crew_buckets a.toNatClampNeg) + r24) < 9999 then ((f_h0_world_crew_buckets a.toNatClampNeg) + r24) else 9999)) := BU.up_0 h_f_h0_world_crew_buckets (tnz (x := (Int32.toInt a)) rfl (by omega)) (by omega) (by omega) (w := (Int32.toInt (if ((f_h0_world_crew_buckets a.toNatClampNeg) + r24) < 9999 then ((f_h0_world_crew_buckets a.toNatClampNeg) + r24) else 9999))) rfl (by omega) (by omega)
            have hR57 : haulR (lawW w ls) w a.toInt = (Int32.toInt r24) := by unfold haulR; (repeat' split) <;> omega
            exact hq _ _ _ _ _ _ _ _ _ _ _ _ _ _ _ _ _ _ ⟨(by first | with_reducible assumption | exact ⟨by omega, by omega⟩), R50, (by first | with_reducible assumption | exact ⟨by omega, by omega⟩), R52, R56, (by first | with_reducible assumption | exact ⟨by omega, by omega⟩), (by first | with_reducible assumption | exact ⟨by omega, by omega⟩), hR57.symm, (by unfold haulW; rw [if_neg (show ¬ haulR (lawW w ls) w a.toInt < 0 by omega)]; unfold haulO; rw [← j29]; unfold haulC; exact RXw.u_te (RXw.u_bu (i := a.toInt.toNat) (RXw.u_wt e_0 (show Int.toNat _ = Int.toNat _ by omega) (by omega) (by omega)) rfl (by omega) (by first | omega | ((repeat' split) <;> omega))) (k := 0) (i := 0) rfl (by decide) (by omega)), (by unfold haulW rmU; rw [if_neg (show ¬ haulR (lawW w ls) w a.toInt < 0 by omega), if_neg (show ¬ haulR (lawW w ls) w a.toInt < 0 by omega)]; unfold haulO; rw [← j29]; exact j45), j44⟩
        · refine br0 c17 ?_
          have g58 : 0 ≤ (Int32.toInt (f_h0_world_term (0 : Int32).toNatClampNeg)) ∧ (Int32.toInt (f_h0_world_term (0 : Int32).toNatClampNeg)) ≤ 9999 := TE.at_0 h_f_h0_world_term (rfl : ((0 : Nat) : Int) = 0) (by omega) (by omega)
          have t59 : (Int32.toInt (f_h0_world_term (0 : Int32).toNatClampNeg)) = w (7) := RkW.z l_te (i := 0) rfl (by omega)
          have d60 := nlt_z (x := (Int32.toInt (f_h0_world_term (0 : Int32).toNatClampNeg))) (y := 9999) rfl rfl c17
          have k61 : Int32.toInt (-3) = (-3) := (by decide)
          have hR62 : haulR (lawW w ls) w a.toInt = (-3) := by unfold haulR; (repeat' split) <;> omega
          exact hq _ _ _ _ _ _ _ _ _ _ _ _ _ _ _ _ _ _ ⟨(by decide), h_f_h0_world_term, (by first | with_reducible assumption | exact ⟨by omega, by omega⟩), h_f_h0_world_rock_water, h_f_h0_world_crew_buckets, (by first | with_reducible assumption | exact ⟨by omega, by omega⟩), (by first | with_reducible assumption | exact ⟨by omega, by omega⟩), hR62.symm, (by unfold haulW; rw [if_pos (show haulR (lawW w ls) w a.toInt < 0 by omega)]; exact e_0), (by unfold haulW rmU; rw [if_pos (show haulR (lawW w ls) w a.toInt < 0 by omega), if_pos (show haulR (lawW w ls) w a.toInt < 0 by omega)]; exact e_1), e_2⟩
      · refine br0 c13 ?_
        have g63 : 0 ≤ (Int32.toInt (f_h0_world_rock_kind (f_h0_world_crew_cell a.toNatClampNeg).toNatClampNeg)) ∧ (Int32.toInt (f_h0_world_rock_kind (f_h0_world_crew_cell a.toNatClampNeg).toNatClampNeg)) ≤ 3 := KI.at_0 h_f_h0_world_rock_kind (tnz (x := (Int32.toInt (f_h0_world_crew_cell a.toNatClampNeg))) rfl (by omega)) (by omega) (by omega)
        have t64 : (Int32.toInt (f_h0_world_rock_kind (f_h0_world_crew_cell a.toNatClampNeg).toNatClampNeg)) = w (113 + (w (10 + ((Int32.toInt a)).toNat)).toNat) := RkW.z l_kd (i := (w (10 + ((Int32.toInt a)).toNat)).toNat) (show Int.toNat _ = Int.toNat _ by omega) (by omega)
        have d65 := ne_z (x := (Int32.toInt (f_h0_world_rock_kind (f_h0_world_crew_cell a.toNatClampNeg).toNatClampNeg))) (y := 3) rfl rfl c13
        have k66 : Int32.toInt (-3) = (-3) := (by decide)
        have hR67 : haulR (lawW w ls) w a.toInt = (-3) := by unfold haulR; (repeat' split) <;> omega
        exact hq _ _ _ _ _ _ _ _ _ _ _ _ _ _ _ _ _ _ ⟨(by decide), h_f_h0_world_term, (by first | with_reducible assumption | exact ⟨by omega, by omega⟩), h_f_h0_world_rock_water, h_f_h0_world_crew_buckets, (by first | with_reducible assumption | exact ⟨by omega, by omega⟩), (by first | with_reducible assumption | exact ⟨by omega, by omega⟩), hR67.symm, (by unfold haulW; rw [if_pos (show haulR (lawW w ls) w a.toInt < 0 by omega)]; exact e_0), (by unfold haulW rmU; rw [if_pos (show haulR (lawW w ls) w a.toInt < 0 by omega), if_pos (show haulR (lawW w ls) w a.toInt < 0 by omega)]; exact e_1), e_2⟩


set_option maxRecDepth 100000 in
theorem s_X7_tryHushz (a : Int32) (h0_world_folk_noises : Int32) (h0_world_folk_hushed : Int32) (h0_diary_kept : Int32) (h0_diary_latest : Int32) (f_h0_diary_deed : Nat → Int32) (f_h0_diary_whose : Nat → Int32) (f_h0_diary_before : Nat → Int32) (f_h0_diary_bucketsBefore : Nat → Int32) (f_h0_diary_dayBefore : Nat → Int32) (f_h0_world_folk_noiseColumn : Nat → Int32) (f_h0_world_folk_noiseLoud : Nat → Int32) {w : Nat → Int} {U : UL} {g_kd : Nat → Int32} {g_hd : Nat → Int32} {g_wt : Nat → Int32} {g_dg : Int64} {g_ce : Nat → Int32} {g_bu : Nat → Int32} {g_cc : Int32} {g_co : Nat → Int32} {g_ea : Nat → Int32} {g_ls : Int32} {g_hc : Nat → Int32} {g_hl : Nat → Int32} {g_hs : Int32} {g_so : Nat → Int32} {g_we : Nat → Int32} {g_wl : Int32} {g_te : Nat → Int32} {g_lc : Int32} {g_fo : Int32} (h_h0_world_folk_noises : 0 ≤ h0_world_folk_noises.toInt ∧ h0_world_folk_noises.toInt ≤ 6) (h_h0_diary_kept : 0 ≤ h0_diary_kept.toInt ∧ h0_diary_kept.toInt ≤ 16) (h_h0_diary_latest : 0 ≤ h0_diary_latest.toInt ∧ h0_diary_latest.toInt ≤ 15) (h_f_h0_world_folk_noiseColumn : NC f_h0_world_folk_noiseColumn) (h_f_h0_world_folk_noiseLoud : NL f_h0_world_folk_noiseLoud) (e_0 : RXw g_kd g_hd g_wt g_dg g_ce g_bu g_cc g_co g_ea g_ls f_h0_world_folk_noiseColumn f_h0_world_folk_noiseLoud h0_world_folk_noises h0_world_folk_hushed g_hc g_hl g_hs g_so g_we g_wl g_te g_lc g_fo w) (e_1 : RXu f_h0_diary_deed f_h0_diary_whose f_h0_diary_before f_h0_diary_bucketsBefore f_h0_diary_dayBefore h0_diary_kept h0_diary_latest w U) (e_2 : DI f_h0_diary_deed f_h0_diary_whose f_h0_diary_before f_h0_diary_bucketsBefore f_h0_diary_dayBefore) {Q : Int32 → (Int32 × Int32 × Int32 × (Nat → Int32) × (Nat → Int32) × (Nat → Int32) × (Nat → Int32) × (Nat → Int32)) → Prop} (hq : ∀ (r : Int32) (u_0 : Int32) (u_1 : Int32) (u_2 : Int32) (u_3 : Nat → Int32) (u_4 : Nat → Int32) (u_5 : Nat → Int32) (u_6 : Nat → Int32) (u_7 : Nat → Int32), ((-3) ≤ r.toInt ∧ r.toInt ≤ 2147483647) ∧ (0 ≤ u_1.toInt ∧ u_1.toInt ≤ 16) ∧ (0 ≤ u_2.toInt ∧ u_2.toInt ≤ 15) ∧ (r.toInt = hushR w a.toInt) ∧ (RXw g_kd g_hd g_wt g_dg g_ce g_bu g_cc g_co g_ea g_ls f_h0_world_folk_noiseColumn f_h0_world_folk_noiseLoud h0_world_folk_noises u_0 g_hc g_hl g_hs g_so g_we g_wl g_te g_lc g_fo (hushW w a.toInt)) ∧ (RXu u_3 u_4 u_5 u_6 u_7 u_1 u_2 (hushW w a.toInt) (rmU (hushR w a.toInt) 2 w U)) ∧ (DI u_3 u_4 u_5 u_6 u_7) → Q r (u_0, u_1, u_2, u_3, u_4, u_5, u_6, u_7)) : wp_X7_tryHush a h0_world_folk_noises h0_world_folk_hushed h0_diary_kept h0_diary_latest f_h0_diary_deed f_h0_diary_whose f_h0_diary_before f_h0_diary_bucketsBefore f_h0_diary_dayBefore f_h0_world_folk_noiseColumn f_h0_world_folk_noiseLoud Q := by
  unfold wp_X7_tryHush
  have l_nc := RXw.nc e_0
  have l_nl := RXw.nl e_0
  have l_ns : h0_world_folk_noises.toInt = w 2 := RXw.ns e_0
  refine o_X11_isWithin _ _ _ ?_
  by_cases c1 : a < 0
  · refine br1 c1 ?_
    have d2 := lt_z (x := (Int32.toInt a)) (y := 0) rfl rfl c1
    refine br1 (by decide) ?_
    have k3 : Int32.toInt (-2) = (-2) := (by decide)
    have hR4 : hushR w a.toInt = (-2) := by unfold hushR; (repeat' split) <;> omega
    exact hq _ _ _ _ _ _ _ _ _ ⟨(by decide), (by first | with_reducible assumption | exact ⟨by omega, by omega⟩), (by first | with_reducible assumption | exact ⟨by omega, by omega⟩), hR4.symm, (by unfold hushW; rw [if_pos (show hushR w a.toInt < 0 by omega)]; exact e_0), (by unfold hushW rmU; rw [if_pos (show hushR w a.toInt < 0 by omega), if_pos (show hushR w a.toInt < 0 by omega)]; exact e_1), e_2⟩
  · refine br0 c1 ?_
    have d5 := nlt_z (x := (Int32.toInt a)) (y := 0) rfl rfl c1
    by_cases c6 : h0_world_folk_noises ≤ a
    · refine br1 c6 ?_
      have d7 := le_z (x := (Int32.toInt h0_world_folk_noises)) (y := (Int32.toInt a)) rfl rfl c6
      refine br1 (by decide) ?_
      have k8 : Int32.toInt (-2) = (-2) := (by decide)
      have hR9 : hushR w a.toInt = (-2) := by unfold hushR; (repeat' split) <;> omega
      exact hq _ _ _ _ _ _ _ _ _ ⟨(by decide), (by first | with_reducible assumption | exact ⟨by omega, by omega⟩), (by first | with_reducible assumption | exact ⟨by omega, by omega⟩), hR9.symm, (by unfold hushW; rw [if_pos (show hushR w a.toInt < 0 by omega)]; exact e_0), (by unfold hushW rmU; rw [if_pos (show hushR w a.toInt < 0 by omega), if_pos (show hushR w a.toInt < 0 by omega)]; exact e_1), e_2⟩
    · refine br0 c6 ?_
      have d10 := nle_z (x := (Int32.toInt h0_world_folk_noises)) (y := (Int32.toInt a)) rfl rfl c6
      refine br0 (by decide) ?_
      by_cases c11 : ((h0_world_folk_hushed >>> (a &&& 31)) &&& 1) = 0
      · refine br1 c11 ?_
        have t12 : 0 ≤ (Int32.toInt ((h0_world_folk_hushed >>> (a &&& 31)) &&& 1)) ∧ (Int32.toInt ((h0_world_folk_hushed >>> (a &&& 31)) &&& 1)) ≤ 1 := and_z (by decide)
        have d13 := eq_z (x := (Int32.toInt ((h0_world_folk_hushed >>> (a &&& 31)) &&& 1))) (y := 0) rfl rfl c11
        have hh14 := (RH.at (RXw.hu e_0) (by omega) (by omega)).mp c11
        have hh15 := RH.b (RXw.hu e_0) (i := a.toInt.toNat) (by omega)
        have k16 : Int32.toInt 2 = 2 := rfl
        have k17 : Int32.toInt 0 = 0 := rfl
        refine s_X2_addz 2 a 0 0 0 h0_diary_kept h0_diary_latest (f_h0_diary_deed) (f_h0_diary_whose) (f_h0_diary_before) (f_h0_diary_bucketsBefore) (f_h0_diary_dayBefore) (w₉ := (hushO w (Int32.toInt a))) (by first | with_reducible assumption | exact ⟨by omega, by omega⟩) (by first | with_reducible assumption | exact ⟨by omega, by omega⟩) e_2 (by unfold DR; omega) e_1 (fun j _ _ => inv_hush (by omega) j) (fun _ => (by first | with_reducible assumption | exact ⟨by omega, by omega⟩)) (fun u18 u19 u20 u21 u22 u23 u24 H25 => ?_)
        have j26 := H25.2.2.1
        have j27 := H25.2.2.2
        have j28 := H25.1
        have j29 := H25.2.1
        refine un7_i ?_
        refine ⟨vpi (x := (Int32.toInt a)) rfl (by omega) (by omega), ?_⟩
        have g31 : 0 ≤ (Int32.toInt (f_h0_world_folk_noiseColumn a.toNatClampNeg)) ∧ (Int32.toInt (f_h0_world_folk_noiseColumn a.toNatClampNeg)) ≤ 7 := NC.at_0 h_f_h0_world_folk_noiseColumn (tnz (x := (Int32.toInt a)) rfl (by omega)) (by omega) (by omega)
        have t32 : (Int32.toInt (f_h0_world_folk_noiseColumn a.toNatClampNeg)) = w (198 + ((Int32.toInt a)).toNat) := RkW.z l_nc (i := ((Int32.toInt a)).toNat) rfl (by omega)
        refine s_X4_noiseInz (f_h0_world_folk_noiseColumn a.toNatClampNeg) 0 h0_world_folk_noises (h0_world_folk_hushed ||| ((1 : Int32) <<< (a &&& 31))) (f_h0_world_folk_noiseColumn) (f_h0_world_folk_noiseLoud) (w := (hushO w a.toInt)) (by first | with_reducible assumption | exact ⟨by omega, by omega⟩) (by first | with_reducible assumption | exact ⟨by omega, by omega⟩) h_f_h0_world_folk_noiseColumn h_f_h0_world_folk_noiseLoud (RXw.nz (RXw.u_hus e_0 (by omega) (by omega) (by omega))) (fun r30 H33 => ?_)
        have j34 := H33.1
        have j35 : r30.toInt = nsS (uI w (22 + a.toInt.toNat) 1) (w (198 + ((Int32.toInt a)).toNat)) (fun _ => false) (w 2).toNat := by have q := H33.2; rw [show (Int32.toInt (f_h0_world_folk_noiseColumn a.toNatClampNeg)) = w (198 + ((Int32.toInt a)).toNat) by omega, show hushO w a.toInt 2 = w 2 from uI_n (by omega)] at q; rw [q]; exact nsS_0 (fun i _ => bh_0 i)
        have t36 := i32_hi r30
        have t37 : 1 ≤ (Int32.toInt ((1 : Int32) <<< (a &&& 31))) ∧ (Int32.toInt ((1 : Int32) <<< (a &&& 31))) ≤ 32 := shl1_c (by omega) (by omega)
        have hR38 : hushR w a.toInt = (Int32.toInt r30) := by unfold hushR; (repeat' split) <;> omega
        exact hq _ _ _ _ _ _ _ _ _ ⟨(by first | with_reducible assumption | exact ⟨by omega, by omega⟩), (by first | with_reducible assumption | exact ⟨by omega, by omega⟩), (by first | with_reducible assumption | exact ⟨by omega, by omega⟩), hR38.symm, (by unfold hushW; rw [if_neg (show ¬ hushR w a.toInt < 0 by omega)]; unfold hushO; exact RXw.u_hus e_0 (by omega) (by omega) (by omega)), (by unfold hushW rmU; rw [if_neg (show ¬ hushR w a.toInt < 0 by omega), if_neg (show ¬ hushR w a.toInt < 0 by omega)]; unfold hushO; exact j27), j26⟩
      · refine br0 c11 ?_
        have t39 : 0 ≤ (Int32.toInt ((h0_world_folk_hushed >>> (a &&& 31)) &&& 1)) ∧ (Int32.toInt ((h0_world_folk_hushed >>> (a &&& 31)) &&& 1)) ≤ 1 := and_z (by decide)
        have d40 := ne_z (x := (Int32.toInt ((h0_world_folk_hushed >>> (a &&& 31)) &&& 1))) (y := 0) rfl rfl c11
        have hh41 : ¬ w (22 + a.toInt.toNat) = 0 := fun q => c11 ((RH.at (RXw.hu e_0) (by omega) (by omega)).mpr q)
        have hh42 := RH.b (RXw.hu e_0) (i := a.toInt.toNat) (by omega)
        have k43 : Int32.toInt (-3) = (-3) := (by decide)
        have hR44 : hushR w a.toInt = (-3) := by unfold hushR; (repeat' split) <;> omega
        exact hq _ _ _ _ _ _ _ _ _ ⟨(by decide), (by first | with_reducible assumption | exact ⟨by omega, by omega⟩), (by first | with_reducible assumption | exact ⟨by omega, by omega⟩), hR44.symm, (by unfold hushW; rw [if_pos (show hushR w a.toInt < 0 by omega)]; exact e_0), (by unfold hushW rmU; rw [if_pos (show hushR w a.toInt < 0 by omega), if_pos (show hushR w a.toInt < 0 by omega)]; exact e_1), e_2⟩


set_option maxRecDepth 100000 in
theorem s_X7_tryLiez (a : Int32) (b : Int32) (h0_world_folk_listeners : Int32) (f_h0_world_folk_column : Nat → Int32) (h0_diary_kept : Int32) (h0_diary_latest : Int32) (f_h0_diary_deed : Nat → Int32) (f_h0_diary_whose : Nat → Int32) (f_h0_diary_before : Nat → Int32) (f_h0_diary_bucketsBefore : Nat → Int32) (f_h0_diary_dayBefore : Nat → Int32) {w : Nat → Int} {U : UL} {g_kd : Nat → Int32} {g_hd : Nat → Int32} {g_wt : Nat → Int32} {g_dg : Int64} {g_ce : Nat → Int32} {g_bu : Nat → Int32} {g_cc : Int32} {g_ea : Nat → Int32} {g_nc : Nat → Int32} {g_nl : Nat → Int32} {g_ns : Int32} {g_hu : Int32} {g_hc : Nat → Int32} {g_hl : Nat → Int32} {g_hs : Int32} {g_so : Nat → Int32} {g_we : Nat → Int32} {g_wl : Int32} {g_te : Nat → Int32} {g_lc : Int32} {g_fo : Int32} (h_h0_world_folk_listeners : 0 ≤ h0_world_folk_listeners.toInt ∧ h0_world_folk_listeners.toInt ≤ 5) (h_f_h0_world_folk_column : CO f_h0_world_folk_column) (h_h0_diary_kept : 0 ≤ h0_diary_kept.toInt ∧ h0_diary_kept.toInt ≤ 16) (h_h0_diary_latest : 0 ≤ h0_diary_latest.toInt ∧ h0_diary_latest.toInt ≤ 15) (e_0 : RXw g_kd g_hd g_wt g_dg g_ce g_bu g_cc f_h0_world_folk_column g_ea h0_world_folk_listeners g_nc g_nl g_ns g_hu g_hc g_hl g_hs g_so g_we g_wl g_te g_lc g_fo w) (e_1 : RXu f_h0_diary_deed f_h0_diary_whose f_h0_diary_before f_h0_diary_bucketsBefore f_h0_diary_dayBefore h0_diary_kept h0_diary_latest w U) (e_2 : DI f_h0_diary_deed f_h0_diary_whose f_h0_diary_before f_h0_diary_bucketsBefore f_h0_diary_dayBefore) {Q : Int32 → ((Nat → Int32) × Int32 × Int32 × (Nat → Int32) × (Nat → Int32) × (Nat → Int32) × (Nat → Int32) × (Nat → Int32)) → Prop} (hq : ∀ (r : Int32) (u_0 : Nat → Int32) (u_1 : Int32) (u_2 : Int32) (u_3 : Nat → Int32) (u_4 : Nat → Int32) (u_5 : Nat → Int32) (u_6 : Nat → Int32) (u_7 : Nat → Int32), ((-3) ≤ r.toInt ∧ r.toInt ≤ 2147483647) ∧ (CO u_0) ∧ (0 ≤ u_1.toInt ∧ u_1.toInt ≤ 16) ∧ (0 ≤ u_2.toInt ∧ u_2.toInt ≤ 15) ∧ (r.toInt = lieR w a.toInt b.toInt) ∧ (RXw g_kd g_hd g_wt g_dg g_ce g_bu g_cc u_0 g_ea h0_world_folk_listeners g_nc g_nl g_ns g_hu g_hc g_hl g_hs g_so g_we g_wl g_te g_lc g_fo (lieW w a.toInt b.toInt)) ∧ (RXu u_3 u_4 u_5 u_6 u_7 u_1 u_2 (lieW w a.toInt b.toInt) (rmU (lieR w a.toInt b.toInt) 3 w U)) ∧ (DI u_3 u_4 u_5 u_6 u_7) → Q r (u_0, u_1, u_2, u_3, u_4, u_5, u_6, u_7)) : wp_X7_tryLie a b h0_world_folk_listeners f_h0_world_folk_column h0_diary_kept h0_diary_latest f_h0_diary_deed f_h0_diary_whose f_h0_diary_before f_h0_diary_bucketsBefore f_h0_diary_dayBefore Q := by
  unfold wp_X7_tryLie
  have l_co := RXw.co e_0
  have l_ls : h0_world_folk_listeners.toInt = w 1 := RXw.ls e_0
  refine o_X11_isWithin _ _ _ ?_
  by_cases c1 : b < 0
  · refine br1 c1 ?_
    have d2 := lt_z (x := (Int32.toInt b)) (y := 0) rfl rfl c1
    refine br1 (by decide) ?_
    have k3 : Int32.toInt (-1) = (-1) := (by decide)
    have hR4 : lieR w a.toInt b.toInt = (-1) := by unfold lieR; (repeat' split) <;> omega
    exact hq _ _ _ _ _ _ _ _ _ ⟨(by decide), h_f_h0_world_folk_column, (by first | with_reducible assumption | exact ⟨by omega, by omega⟩), (by first | with_reducible assumption | exact ⟨by omega, by omega⟩), hR4.symm, (by unfold lieW; rw [if_pos (show lieR w a.toInt b.toInt < 0 by omega)]; exact e_0), (by unfold lieW rmU; rw [if_pos (show lieR w a.toInt b.toInt < 0 by omega), if_pos (show lieR w a.toInt b.toInt < 0 by omega)]; exact e_1), e_2⟩
  · refine br0 c1 ?_
    have d5 := nlt_z (x := (Int32.toInt b)) (y := 0) rfl rfl c1
    by_cases c6 : 8 ≤ b
    · refine br1 c6 ?_
      have d7 := le_z (x := 8) (y := (Int32.toInt b)) rfl rfl c6
      refine br1 (by decide) ?_
      have k8 : Int32.toInt (-1) = (-1) := (by decide)
      have hR9 : lieR w a.toInt b.toInt = (-1) := by unfold lieR; (repeat' split) <;> omega
      exact hq _ _ _ _ _ _ _ _ _ ⟨(by decide), h_f_h0_world_folk_column, (by first | with_reducible assumption | exact ⟨by omega, by omega⟩), (by first | with_reducible assumption | exact ⟨by omega, by omega⟩), hR9.symm, (by unfold lieW; rw [if_pos (show lieR w a.toInt b.toInt < 0 by omega)]; exact e_0), (by unfold lieW rmU; rw [if_pos (show lieR w a.toInt b.toInt < 0 by omega), if_pos (show lieR w a.toInt b.toInt < 0 by omega)]; exact e_1), e_2⟩
    · refine br0 c6 ?_
      have d10 := nle_z (x := 8) (y := (Int32.toInt b)) rfl rfl c6
      refine br0 (by decide) ?_
      refine o_X11_isWithin _ _ _ ?_
      by_cases c11 : a < 0
      · refine br1 c11 ?_
        have d12 := lt_z (x := (Int32.toInt a)) (y := 0) rfl rfl c11
        refine br1 (by decide) ?_
        have k13 : Int32.toInt (-2) = (-2) := (by decide)
        have hR14 : lieR w a.toInt b.toInt = (-2) := by unfold lieR; (repeat' split) <;> omega
        exact hq _ _ _ _ _ _ _ _ _ ⟨(by decide), h_f_h0_world_folk_column, (by first | with_reducible assumption | exact ⟨by omega, by omega⟩), (by first | with_reducible assumption | exact ⟨by omega, by omega⟩), hR14.symm, (by unfold lieW; rw [if_pos (show lieR w a.toInt b.toInt < 0 by omega)]; exact e_0), (by unfold lieW rmU; rw [if_pos (show lieR w a.toInt b.toInt < 0 by omega), if_pos (show lieR w a.toInt b.toInt < 0 by omega)]; exact e_1), e_2⟩
      · refine br0 c11 ?_
        have d15 := nlt_z (x := (Int32.toInt a)) (y := 0) rfl rfl c11
        by_cases c16 : h0_world_folk_listeners ≤ a
        · refine br1 c16 ?_
          have d17 := le_z (x := (Int32.toInt h0_world_folk_listeners)) (y := (Int32.toInt a)) rfl rfl c16
          refine br1 (by decide) ?_
          have k18 : Int32.toInt (-2) = (-2) := (by decide)
          have hR19 : lieR w a.toInt b.toInt = (-2) := by unfold lieR; (repeat' split) <;> omega
          exact hq _ _ _ _ _ _ _ _ _ ⟨(by decide), h_f_h0_world_folk_column, (by first | with_reducible assumption | exact ⟨by omega, by omega⟩), (by first | with_reducible assumption | exact ⟨by omega, by omega⟩), hR19.symm, (by unfold lieW; rw [if_pos (show lieR w a.toInt b.toInt < 0 by omega)]; exact e_0), (by unfold lieW rmU; rw [if_pos (show lieR w a.toInt b.toInt < 0 by omega), if_pos (show lieR w a.toInt b.toInt < 0 by omega)]; exact e_1), e_2⟩
        · refine br0 c16 ?_
          have d20 := nle_z (x := (Int32.toInt h0_world_folk_listeners)) (y := (Int32.toInt a)) rfl rfl c16
          refine br0 (by decide) ?_
          refine ⟨vpi (x := (Int32.toInt a)) rfl (by omega) (by omega), ?_⟩
          have k21 : Int32.toInt 3 = 3 := rfl
          have g22 : 0 ≤ (Int32.toInt (f_h0_world_folk_column a.toNatClampNeg)) ∧ (Int32.toInt (f_h0_world_folk_column a.toNatClampNeg)) ≤ 7 := CO.at_0 h_f_h0_world_folk_column (tnz (x := (Int32.toInt a)) rfl (by omega)) (by omega) (by omega)
          have t23 : (Int32.toInt (f_h0_world_folk_column a.toNatClampNeg)) = w (28 + ((Int32.toInt a)).toNat) := RkW.z l_co (i := ((Int32.toInt a)).toNat) rfl (by omega)
          have k24 : Int32.toInt 0 = 0 := rfl
          refine s_X2_addz 3 a (f_h0_world_folk_column a.toNatClampNeg) 0 0 h0_diary_kept h0_diary_latest (f_h0_diary_deed) (f_h0_diary_whose) (f_h0_diary_before) (f_h0_diary_bucketsBefore) (f_h0_diary_dayBefore) (w₉ := (lieO w (Int32.toInt a) b.toInt)) (by first | with_reducible assumption | exact ⟨by omega, by omega⟩) (by first | with_reducible assumption | exact ⟨by omega, by omega⟩) e_2 (by unfold DR; omega) e_1 (fun j _ _ => by rw [show (Int32.toInt (f_h0_world_folk_column a.toNatClampNeg)) = w (28 + ((Int32.toInt a)).toNat) by omega]; exact inv_lie j) (fun q => absurd q (by decide)) (fun u25 u26 u27 u28 u29 u30 u31 H32 => ?_)
          have j33 := H32.2.2.1
          have j34 := H32.2.2.2
          have j35 := H32.1
          have j36 := H32.2.1
          refine un7_i ?_
          refine ⟨vpi (x := (Int32.toInt a)) rfl (by omega) (by omega), ?_⟩
          have t37 := i32_hi (f_h0_world_folk_column a.toNatClampNeg)
          have R38 : CO (upd f_h0_world_folk_column a.toNatClampNeg b) := CO.up_0 h_f_h0_world_folk_column (tnz (x := (Int32.toInt a)) rfl (by omega)) (by omega) (by omega) (w := (Int32.toInt b)) rfl (by omega) (by omega)
          have hR39 : lieR w a.toInt b.toInt = (Int32.toInt (f_h0_world_folk_column a.toNatClampNeg)) := by unfold lieR; (repeat' split) <;> omega
          exact hq _ _ _ _ _ _ _ _ _ ⟨(by first | with_reducible assumption | exact ⟨by omega, by omega⟩), R38, (by first | with_reducible assumption | exact ⟨by omega, by omega⟩), (by first | with_reducible assumption | exact ⟨by omega, by omega⟩), hR39.symm, (by unfold lieW; rw [if_neg (show ¬ lieR w a.toInt b.toInt < 0 by omega)]; unfold lieO; exact RXw.u_co e_0 rfl (by omega) rfl), (by unfold lieW rmU; rw [if_neg (show ¬ lieR w a.toInt b.toInt < 0 by omega), if_neg (show ¬ lieR w a.toInt b.toInt < 0 by omega)]; unfold lieO; exact j34), j33⟩
end
section
theorem o_X12_canDig (a : Int32) (b : Int32) (h0_ordered : Int32) (h0_law : Int32) (h0_broken : Int32) (h0_value : Int64) (h0_sum : Int64) (f_row : Nat → Int32) (f_set : Nat → Int64) (f_nOp : Nat → Int32) (f_nArg : Nat → Int32) (f_rest : Nat → Int64) (f_now : Nat → Int64) (Q : Int32 → (Int32 × Int32 × Int64 × Int64 × (Nat → Int64) × (Nat → Int64)) → Prop) (h : (vp_in (10 + a) 5650 ∧ (wp_X12_cellBy (f_row (10 + a).toNatClampNeg) b (fun (r_10 : Int32) => (wp_X12_mayDig a (f_row) (fun (r_16 : Int32) => (if r_16 = 0 then (Q 0 (h0_law, h0_broken, h0_value, h0_sum, f_set, f_rest)) else (if r_10 = (-1) then (Q 0 (h0_law, h0_broken, h0_value, h0_sum, f_set, f_rest)) else (vp_in (33 + r_10) 5650 ∧ (if (f_row (33 + r_10).toNatClampNeg) = 0 then (wp_X12_isPassed a r_10 h0_ordered h0_law h0_broken h0_value h0_sum (f_row) (f_set) (f_nOp) (f_nArg) (f_rest) (f_now) (fun (r_42 : Int32) => (un6 (fun (u_42_0 : Int32) (u_42_1 : Int32) (u_42_2 : Int64) (u_42_3 : Int64) (u_42_4 : Nat → Int64) (u_42_5 : Nat → Int64) => (if r_42 = 0 then (Q 0 (u_42_0, u_42_1, u_42_2, u_42_3, u_42_4, u_42_5)) else (wp_X12_digsOf a r_10 h0_ordered u_42_0 u_42_1 u_42_2 u_42_3 (f_row) (u_42_4) (f_nOp) (f_nArg) (u_42_5) (f_now) (fun (r_58 : Int32) => (un6 (fun (u_58_0 : Int32) (u_58_1 : Int32) (u_58_2 : Int64) (u_58_3 : Int64) (u_58_4 : Nat → Int64) (u_58_5 : Nat → Int64) => (if 9999 < ((f_row (7 : Int32).toNatClampNeg) + r_58) then (Q 0 (u_58_0, u_58_1, u_58_2, u_58_3, u_58_4, u_58_5)) else (Q 1 (u_58_0, u_58_1, u_58_2, u_58_3, u_58_4, u_58_5)))))))))))) else (Q 0 (h0_law, h0_broken, h0_value, h0_sum, f_set, f_rest)))))))))))) : wp_X12_canDig a b h0_ordered h0_law h0_broken h0_value h0_sum f_row f_set f_nOp f_nArg f_rest f_now Q := h
theorem o_X12_digIt (a : Int32) (b : Int32) (h0_ordered : Int32) (h0_law : Int32) (h0_broken : Int32) (h0_value : Int64) (h0_sum : Int64) (f_row : Nat → Int32) (f_set : Nat → Int64) (f_nOp : Nat → Int32) (f_nArg : Nat → Int32) (f_rest : Nat → Int64) (f_now : Nat → Int64) (Q : Int32 → (Int32 × Int32 × Int64 × Int64 × (Nat → Int32) × (Nat → Int64) × (Nat → Int64)) → Prop) (h : (vp_in (10 + a) 5650 ∧ (wp_X12_cellBy (f_row (10 + a).toNatClampNeg) b (fun (r_10 : Int32) => (wp_X12_digsOf a r_10 h0_ordered h0_law h0_broken h0_value h0_sum (f_row) (f_set) (f_nOp) (f_nArg) (f_rest) (f_now) (fun (r_25 : Int32) => (un6 (fun (u_25_0 : Int32) (u_25_1 : Int32) (u_25_2 : Int64) (u_25_3 : Int64) (u_25_4 : Nat → Int64) (u_25_5 : Nat → Int64) => (vp_in (33 + r_10) 5650 ∧ (vp_in (10 + a) 5650 ∧ (Q r_10 (u_25_0, u_25_1, u_25_2, u_25_3, (upd (upd (upd f_row 7 ((f_row (7 : Int32).toNatClampNeg) + r_25)) (33 + r_10).toNatClampNeg 1) (10 + a).toNatClampNeg r_10), u_25_4, u_25_5)))))))))))) : wp_X12_digIt a b h0_ordered h0_law h0_broken h0_value h0_sum f_row f_set f_nOp f_nArg f_rest f_now Q := h
theorem o_X12_haulIt (a : Int32) (h0_ordered : Int32) (h0_law : Int32) (h0_broken : Int32) (h0_value : Int64) (h0_sum : Int64) (f_row : Nat → Int32) (f_set : Nat → Int64) (f_nOp : Nat → Int32) (f_nArg : Nat → Int32) (f_rest : Nat → Int64) (f_now : Nat → Int64) (Q : Int32 → (Int32 × Int32 × Int64 × Int64 × (Nat → Int32) × (Nat → Int64) × (Nat → Int64)) → Prop) (h : (vp_in (10 + a) 5650 ∧ (wp_X12_givesOf a (f_row (10 + a).toNatClampNeg) h0_ordered h0_law h0_broken h0_value h0_sum (f_row) (f_set) (f_nOp) (f_nArg) (f_rest) (f_now) (fun (r_11 : Int32) => (un6 (fun (u_11_0 : Int32) (u_11_1 : Int32) (u_11_2 : Int64) (u_11_3 : Int64) (u_11_4 : Nat → Int64) (u_11_5 : Nat → Int64) => (vp_in (10 + a) 5650 ∧ (vp_in (73 + (f_row (10 + a).toNatClampNeg)) 5650 ∧ (vp_in (73 + (f_row (10 + a).toNatClampNeg)) 5650 ∧ (vp_in (16 + a) 5650 ∧ (wp_X12_within (((upd f_row (73 + (f_row (10 + a).toNatClampNeg)).toNatClampNeg ((f_row (73 + (f_row (10 + a).toNatClampNeg)).toNatClampNeg) - r_11)) (16 + a).toNatClampNeg) + r_11).toInt64 0 9999 (fun (r_60 : Int32) => (vp_in (16 + a) 5650 ∧ (Q r_11 (u_11_0, u_11_1, u_11_2, u_11_3, (upd (upd (upd f_row (73 + (f_row (10 + a).toNatClampNeg)).toNatClampNeg ((f_row (73 + (f_row (10 + a).toNatClampNeg)).toNatClampNeg) - r_11)) (16 + a).toNatClampNeg r_60) 7 (((upd (upd f_row (73 + (f_row (10 + a).toNatClampNeg)).toNatClampNeg ((f_row (73 + (f_row (10 + a).toNatClampNeg)).toNatClampNeg) - r_11)) (16 + a).toNatClampNeg r_60) (7 : Int32).toNatClampNeg) + 1)), u_11_4, u_11_5))))))))))))))) : wp_X12_haulIt a h0_ordered h0_law h0_broken h0_value h0_sum f_row f_set f_nOp f_nArg f_rest f_now Q := h
set_option maxRecDepth 100000 in
theorem s_X12_digNowz (a : Int32) (b : Int32) (h0_nUndo : Int32) (h0_ordered : Int32) (h0_law : Int32) (h0_broken : Int32) (h0_value : Int64) (h0_sum : Int64) (f_row : Nat → Int32) (f_set : Nat → Int64) (f_nOp : Nat → Int32) (f_nArg : Nat → Int32) (f_rest : Nat → Int64) (f_now : Nat → Int64) (f_undos : Nat → Int32) (f_sorts : Nat → Int32) {w : Nat → Int} {U : UL} {ls : Nat → List Cls} (h_h0_nUndo : 0 ≤ h0_nUndo.toInt ∧ h0_nUndo.toInt ≤ 16) (h_h0_ordered : 0 ≤ h0_ordered.toInt ∧ h0_ordered.toInt ≤ 0) (h_h0_broken : 0 ≤ h0_broken.toInt ∧ h0_broken.toInt ≤ 1) (h_f_row : RLW f_row) (h_f_undos : UN f_undos) (h_f_sorts : SO f_sorts) (e_0 : RMw f_row w) (e_1 : RMu f_undos f_sorts h0_nUndo U) (e_2 : RML f_row ls) {Q : Int32 → (Int32 × Int32 × Int32 × Int64 × Int64 × (Nat → Int32) × (Nat → Int64) × (Nat → Int64) × (Nat → Int32) × (Nat → Int32)) → Prop} (hq : ∀ (r : Int32) (u_0 : Int32) (u_1 : Int32) (u_2 : Int32) (u_3 : Int64) (u_4 : Int64) (u_5 : Nat → Int32) (u_6 : Nat → Int64) (u_7 : Nat → Int64) (u_8 : Nat → Int32) (u_9 : Nat → Int32), ((-3) ≤ r.toInt ∧ r.toInt ≤ 2147483647) ∧ (0 ≤ u_0.toInt ∧ u_0.toInt ≤ 16) ∧ (0 ≤ u_2.toInt ∧ u_2.toInt ≤ 1) ∧ (RLW u_5) ∧ (UN u_8) ∧ (SO u_9) ∧ (r.toInt = digR (lawW w ls) w a.toInt b.toInt) ∧ (RMw u_5 (digW (lawW w ls) w a.toInt b.toInt)) ∧ (RMu u_8 u_9 u_0 (rmU (digR (lawW w ls) w a.toInt b.toInt) 0 w U)) ∧ (RML u_5 ls) ∧ (∀ j, 1696 ≤ j → u_8 j = f_undos j) → Q r (u_0, u_1, u_2, u_3, u_4, u_5, u_6, u_7, u_8, u_9)) : wp_X12_digNow a b h0_nUndo h0_ordered h0_law h0_broken h0_value h0_sum f_row f_set f_nOp f_nArg f_rest f_now f_undos f_sorts Q := by
  unfold wp_X12_digNow
  obtain rfl : h0_ordered = 0 := z_eq (y := 0) rfl rfl (by omega)
  refine o_X12_in _ _ _ _ ?_
  by_cases c1 : (lg_cmp b.toInt64 0) < 0
  · refine br1 c1 ?_
    have t2 : (Int64.toInt b.toInt64) = (Int32.toInt b) := i2l_z rfl
    have d3 := c_lt (x := (Int64.toInt b.toInt64)) (y := 0) rfl rfl c1
    refine br1 (by decide) ?_
    have k4 : Int32.toInt (-1) = (-1) := (by decide)
    have hR5 : digR (lawW w ls) w a.toInt b.toInt = (-1) := by unfold digR; (repeat' split) <;> omega
    exact hq _ _ _ _ _ _ _ _ _ _ _ ⟨(by decide), (by first | with_reducible assumption | exact ⟨by omega, by omega⟩), (by first | with_reducible assumption | exact ⟨by omega, by omega⟩), h_f_row, h_f_undos, h_f_sorts, hR5.symm, (by unfold digW; rw [if_pos (show digR (lawW w ls) w a.toInt b.toInt < 0 by omega)]; exact e_0), (by unfold rmU; rw [if_pos (show digR (lawW w ls) w a.toInt b.toInt < 0 by omega)]; exact e_1), e_2, (fun j _ => rfl)⟩
  · refine br0 c1 ?_
    have t6 : (Int64.toInt b.toInt64) = (Int32.toInt b) := i2l_z rfl
    have d7 := c_nlt (x := (Int64.toInt b.toInt64)) (y := 0) rfl rfl c1
    by_cases c8 : 0 < (lg_cmp b.toInt64 2)
    · refine br1 c8 ?_
      have d9 := c_gt (x := (Int64.toInt b.toInt64)) (y := 2) rfl rfl c8
      refine br1 (by decide) ?_
      have k10 : Int32.toInt (-1) = (-1) := (by decide)
      have hR11 : digR (lawW w ls) w a.toInt b.toInt = (-1) := by unfold digR; (repeat' split) <;> omega
      exact hq _ _ _ _ _ _ _ _ _ _ _ ⟨(by decide), (by first | with_reducible assumption | exact ⟨by omega, by omega⟩), (by first | with_reducible assumption | exact ⟨by omega, by omega⟩), h_f_row, h_f_undos, h_f_sorts, hR11.symm, (by unfold digW; rw [if_pos (show digR (lawW w ls) w a.toInt b.toInt < 0 by omega)]; exact e_0), (by unfold rmU; rw [if_pos (show digR (lawW w ls) w a.toInt b.toInt < 0 by omega)]; exact e_1), e_2, (fun j _ => rfl)⟩
    · refine br0 c8 ?_
      have d12 := c_ngt (x := (Int64.toInt b.toInt64)) (y := 2) rfl rfl c8
      refine br0 (by decide) ?_
      refine o_X12_isShaft _ _ _ ?_
      refine o_X12_in _ _ _ _ ?_
      by_cases c13 : (lg_cmp a.toInt64 0) < 0
      · refine br1 c13 ?_
        have t14 : (Int64.toInt a.toInt64) = (Int32.toInt a) := i2l_z rfl
        have d15 := c_lt (x := (Int64.toInt a.toInt64)) (y := 0) rfl rfl c13
        refine br1 (by decide) ?_
        have k16 : Int32.toInt (-2) = (-2) := (by decide)
        have hR17 : digR (lawW w ls) w a.toInt b.toInt = (-2) := by unfold digR; (repeat' split) <;> omega
        exact hq _ _ _ _ _ _ _ _ _ _ _ ⟨(by decide), (by first | with_reducible assumption | exact ⟨by omega, by omega⟩), (by first | with_reducible assumption | exact ⟨by omega, by omega⟩), h_f_row, h_f_undos, h_f_sorts, hR17.symm, (by unfold digW; rw [if_pos (show digR (lawW w ls) w a.toInt b.toInt < 0 by omega)]; exact e_0), (by unfold rmU; rw [if_pos (show digR (lawW w ls) w a.toInt b.toInt < 0 by omega)]; exact e_1), e_2, (fun j _ => rfl)⟩
      · refine br0 c13 ?_
        have t18 : (Int64.toInt a.toInt64) = (Int32.toInt a) := i2l_z rfl
        have d19 := c_nlt (x := (Int64.toInt a.toInt64)) (y := 0) rfl rfl c13
        by_cases c20 : 0 < (lg_cmp a.toInt64 ((f_row (0 : Int32).toNatClampNeg).toInt64 - 1))
        · refine br1 c20 ?_
          have g21 : 0 ≤ (Int32.toInt (f_row (0 : Int32).toNatClampNeg)) ∧ (Int32.toInt (f_row (0 : Int32).toNatClampNeg)) ≤ 6 := RLW.at_0 h_f_row (rfl : ((0 : Nat) : Int) = 0) (by omega) (by omega)
          have t22 : (Int32.toInt (f_row (0 : Int32).toNatClampNeg)) = w (0) := RMw.z e_0 (i := 0) rfl (by omega)
          have t23 : (Int64.toInt (f_row (0 : Int32).toNatClampNeg).toInt64) = (Int32.toInt (f_row (0 : Int32).toNatClampNeg)) := i2l_z rfl
          have t24 : (Int64.toInt ((f_row (0 : Int32).toNatClampNeg).toInt64 - 1)) = (Int64.toInt (f_row (0 : Int32).toNatClampNeg).toInt64) - 1 := lsub_z rfl rfl (by omega) (by omega)
          have d25 := c_gt (x := (Int64.toInt a.toInt64)) (y := (Int64.toInt ((f_row (0 : Int32).toNatClampNeg).toInt64 - 1))) rfl rfl c20
          refine br1 (by decide) ?_
          have k26 : Int32.toInt (-2) = (-2) := (by decide)
          have hR27 : digR (lawW w ls) w a.toInt b.toInt = (-2) := by unfold digR; (repeat' split) <;> omega
          exact hq _ _ _ _ _ _ _ _ _ _ _ ⟨(by decide), (by first | with_reducible assumption | exact ⟨by omega, by omega⟩), (by first | with_reducible assumption | exact ⟨by omega, by omega⟩), h_f_row, h_f_undos, h_f_sorts, hR27.symm, (by unfold digW; rw [if_pos (show digR (lawW w ls) w a.toInt b.toInt < 0 by omega)]; exact e_0), (by unfold rmU; rw [if_pos (show digR (lawW w ls) w a.toInt b.toInt < 0 by omega)]; exact e_1), e_2, (fun j _ => rfl)⟩
        · refine br0 c20 ?_
          have g28 : 0 ≤ (Int32.toInt (f_row (0 : Int32).toNatClampNeg)) ∧ (Int32.toInt (f_row (0 : Int32).toNatClampNeg)) ≤ 6 := RLW.at_0 h_f_row (rfl : ((0 : Nat) : Int) = 0) (by omega) (by omega)
          have t29 : (Int32.toInt (f_row (0 : Int32).toNatClampNeg)) = w (0) := RMw.z e_0 (i := 0) rfl (by omega)
          have t30 : (Int64.toInt (f_row (0 : Int32).toNatClampNeg).toInt64) = (Int32.toInt (f_row (0 : Int32).toNatClampNeg)) := i2l_z rfl
          have t31 : (Int64.toInt ((f_row (0 : Int32).toNatClampNeg).toInt64 - 1)) = (Int64.toInt (f_row (0 : Int32).toNatClampNeg).toInt64) - 1 := lsub_z rfl rfl (by omega) (by omega)
          have d32 := c_ngt (x := (Int64.toInt a.toInt64)) (y := (Int64.toInt ((f_row (0 : Int32).toNatClampNeg).toInt64 - 1))) rfl rfl c20
          refine br0 (by decide) ?_
          refine o_X12_canDig _ _ _ _ _ _ _ _ _ _ _ _ _ _ ?_
          have t33 : (Int32.toInt (10 + a)) = 10 + (Int32.toInt a) := add_z rfl rfl (by omega) (by omega)
          refine ⟨vpi (x := (Int32.toInt (10 + a))) rfl (by omega) (by omega), ?_⟩
          have g35 : 0 ≤ (Int32.toInt (f_row (10 + a).toNatClampNeg)) ∧ (Int32.toInt (f_row (10 + a).toNatClampNeg)) ≤ 39 := RLW.at_10 h_f_row (tnz (x := (Int32.toInt (10 + a))) rfl (by omega)) (by omega) (by omega)
          have t36 : (Int32.toInt (f_row (10 + a).toNatClampNeg)) = w (10 + ((Int32.toInt a)).toNat) := RMw.z e_0 (i := 10 + ((Int32.toInt a)).toNat) (show Int.toNat _ = _ by omega) (by omega)
          refine z_cellBy (z := w (10 + ((Int32.toInt a)).toNat)) (by omega) (by first | with_reducible assumption | exact ⟨by omega, by omega⟩) (by first | with_reducible assumption | exact ⟨by omega, by omega⟩) (fun r34 H37 => ?_)
          have j39 := H37.1
          have j38 := H37.2
          refine o_X12_mayDig _ _ _ ?_
          refine o_X12_isSpoilt _ _ _ ?_
          refine ⟨vpi (x := (Int32.toInt (10 + a))) rfl (by omega) (by omega), ?_⟩
          have t40 : (Int32.toInt (113 + (f_row (10 + a).toNatClampNeg))) = 113 + (Int32.toInt (f_row (10 + a).toNatClampNeg)) := add_z rfl rfl (by omega) (by omega)
          refine ⟨vpi (x := (Int32.toInt (113 + (f_row (10 + a).toNatClampNeg)))) rfl (by omega) (by omega), ?_⟩
          by_cases c41 : (f_row (113 + (f_row (10 + a).toNatClampNeg)).toNatClampNeg) = 2
          · refine br1 c41 ?_
            have g42 : 0 ≤ (Int32.toInt (f_row (113 + (f_row (10 + a).toNatClampNeg)).toNatClampNeg)) ∧ (Int32.toInt (f_row (113 + (f_row (10 + a).toNatClampNeg)).toNatClampNeg)) ≤ 3 := RLW.at_113 h_f_row (tnz (x := (Int32.toInt (113 + (f_row (10 + a).toNatClampNeg)))) rfl (by omega)) (by omega) (by omega)
            have t43 : (Int32.toInt (f_row (113 + (f_row (10 + a).toNatClampNeg)).toNatClampNeg)) = w (113 + (w (10 + ((Int32.toInt a)).toNat)).toNat) := RMw.z e_0 (i := 113 + (w (10 + ((Int32.toInt a)).toNat)).toNat) (show Int.toNat _ = _ by omega) (by omega)
            have d44 := eq_z (x := (Int32.toInt (f_row (113 + (f_row (10 + a).toNatClampNeg)).toNatClampNeg))) (y := 2) rfl rfl c41
            refine br0 (by decide) ?_
            refine br1 (by decide) ?_
            refine un6_i ?_
            refine br1 (by decide) ?_
            have k45 : Int32.toInt (-3) = (-3) := (by decide)
            have hR46 : digR (lawW w ls) w a.toInt b.toInt = (-3) := by unfold digR; rw [← j38]; (repeat' split) <;> omega
            exact hq _ _ _ _ _ _ _ _ _ _ _ ⟨(by decide), (by first | with_reducible assumption | exact ⟨by omega, by omega⟩), (by first | with_reducible assumption | exact ⟨by omega, by omega⟩), h_f_row, h_f_undos, h_f_sorts, hR46.symm, (by unfold digW; rw [if_pos (show digR (lawW w ls) w a.toInt b.toInt < 0 by omega)]; exact e_0), (by unfold rmU; rw [if_pos (show digR (lawW w ls) w a.toInt b.toInt < 0 by omega)]; exact e_1), e_2, (fun j _ => rfl)⟩
          · refine br0 c41 ?_
            have g47 : 0 ≤ (Int32.toInt (f_row (113 + (f_row (10 + a).toNatClampNeg)).toNatClampNeg)) ∧ (Int32.toInt (f_row (113 + (f_row (10 + a).toNatClampNeg)).toNatClampNeg)) ≤ 3 := RLW.at_113 h_f_row (tnz (x := (Int32.toInt (113 + (f_row (10 + a).toNatClampNeg)))) rfl (by omega)) (by omega) (by omega)
            have t48 : (Int32.toInt (f_row (113 + (f_row (10 + a).toNatClampNeg)).toNatClampNeg)) = w (113 + (w (10 + ((Int32.toInt a)).toNat)).toNat) := RMw.z e_0 (i := 113 + (w (10 + ((Int32.toInt a)).toNat)).toNat) (show Int.toNat _ = _ by omega) (by omega)
            have d49 := ne_z (x := (Int32.toInt (f_row (113 + (f_row (10 + a).toNatClampNeg)).toNatClampNeg))) (y := 2) rfl rfl c41
            refine br1 (by decide) ?_
            refine o_X12_hasFound _ _ _ ?_
            refine ⟨vpi (x := (Int32.toInt (10 + a))) rfl (by omega) (by omega), ?_⟩
            refine ⟨vpi (x := (Int32.toInt (113 + (f_row (10 + a).toNatClampNeg)))) rfl (by omega) (by omega), ?_⟩
            by_cases c50 : (f_row (113 + (f_row (10 + a).toNatClampNeg)).toNatClampNeg) = 3
            · refine br1 c50 ?_
              have d51 := eq_z (x := (Int32.toInt (f_row (113 + (f_row (10 + a).toNatClampNeg)).toNatClampNeg))) (y := 3) rfl rfl c50
              refine br0 (by decide) ?_
              refine br1 (by decide) ?_
              refine un6_i ?_
              refine br1 (by decide) ?_
              have k52 : Int32.toInt (-3) = (-3) := (by decide)
              have hR53 : digR (lawW w ls) w a.toInt b.toInt = (-3) := by unfold digR; rw [← j38]; (repeat' split) <;> omega
              exact hq _ _ _ _ _ _ _ _ _ _ _ ⟨(by decide), (by first | with_reducible assumption | exact ⟨by omega, by omega⟩), (by first | with_reducible assumption | exact ⟨by omega, by omega⟩), h_f_row, h_f_undos, h_f_sorts, hR53.symm, (by unfold digW; rw [if_pos (show digR (lawW w ls) w a.toInt b.toInt < 0 by omega)]; exact e_0), (by unfold rmU; rw [if_pos (show digR (lawW w ls) w a.toInt b.toInt < 0 by omega)]; exact e_1), e_2, (fun j _ => rfl)⟩
            · refine br0 c50 ?_
              have d54 := ne_z (x := (Int32.toInt (f_row (113 + (f_row (10 + a).toNatClampNeg)).toNatClampNeg))) (y := 3) rfl rfl c50
              refine br1 (by decide) ?_
              refine br0 (by decide) ?_
              by_cases c55 : r34 = (-1)
              · refine br1 c55 ?_
                have d56 := eq_z (x := (Int32.toInt r34)) (y := (-1)) rfl (by decide) c55
                refine un6_i ?_
                refine br1 (by decide) ?_
                have k57 : Int32.toInt (-3) = (-3) := (by decide)
                have hR58 : digR (lawW w ls) w a.toInt b.toInt = (-3) := by unfold digR; rw [← j38]; (repeat' split) <;> omega
                exact hq _ _ _ _ _ _ _ _ _ _ _ ⟨(by decide), (by first | with_reducible assumption | exact ⟨by omega, by omega⟩), (by first | with_reducible assumption | exact ⟨by omega, by omega⟩), h_f_row, h_f_undos, h_f_sorts, hR58.symm, (by unfold digW; rw [if_pos (show digR (lawW w ls) w a.toInt b.toInt < 0 by omega)]; exact e_0), (by unfold rmU; rw [if_pos (show digR (lawW w ls) w a.toInt b.toInt < 0 by omega)]; exact e_1), e_2, (fun j _ => rfl)⟩
              · refine br0 c55 ?_
                have d59 := ne_z (x := (Int32.toInt r34)) (y := (-1)) rfl (by decide) c55
                have t60 : (Int32.toInt (33 + r34)) = 33 + (Int32.toInt r34) := add_z rfl rfl (by omega) (by omega)
                refine ⟨vpi (x := (Int32.toInt (33 + r34))) rfl (by omega) (by omega), ?_⟩
                by_cases c61 : (f_row (33 + r34).toNatClampNeg) = 0
                · refine br1 c61 ?_
                  have g62 : 0 ≤ (Int32.toInt (f_row (33 + r34).toNatClampNeg)) ∧ (Int32.toInt (f_row (33 + r34).toNatClampNeg)) ≤ 1 := RLW.at_33 h_f_row (tnz (x := (Int32.toInt (33 + r34))) rfl (by omega)) (by omega) (by omega)
                  have t63 : (Int32.toInt (f_row (33 + r34).toNatClampNeg)) = w (33 + ((Int32.toInt r34)).toNat) := RMw.z e_0 (i := 33 + ((Int32.toInt r34)).toNat) (show Int.toNat _ = _ by omega) (by omega)
                  have d64 := eq_z (x := (Int32.toInt (f_row (33 + r34).toNatClampNeg))) (y := 0) rfl rfl c61
                  refine z_mpass e_2 e_0 h_f_row (by first | with_reducible assumption | exact ⟨by omega, by omega⟩) (by first | with_reducible assumption | exact ⟨by omega, by omega⟩) (fun r65 q66 q67 q68 q69 q70 q71 H72 => ?_)
                  have j73 := H72.1
                  have j74 := H72.2.1
                  have j75 := H72.2.2
                  refine un6_i ?_
                  by_cases c76 : r65 = 0
                  · refine br1 c76 ?_
                    have d77 := eq_z (x := (Int32.toInt r65)) (y := 0) rfl rfl c76
                    refine un6_i ?_
                    refine br1 (by decide) ?_
                    have k78 : Int32.toInt (-3) = (-3) := (by decide)
                    have hR79 : digR (lawW w ls) w a.toInt b.toInt = (-3) := by unfold digR; rw [← j38]; (repeat' split) <;> omega
                    exact hq _ _ _ _ _ _ _ _ _ _ _ ⟨(by decide), (by first | with_reducible assumption | exact ⟨by omega, by omega⟩), (by first | with_reducible assumption | exact ⟨by omega, by omega⟩), h_f_row, h_f_undos, h_f_sorts, hR79.symm, (by unfold digW; rw [if_pos (show digR (lawW w ls) w a.toInt b.toInt < 0 by omega)]; exact e_0), (by unfold rmU; rw [if_pos (show digR (lawW w ls) w a.toInt b.toInt < 0 by omega)]; exact e_1), e_2, (fun j _ => rfl)⟩
                  · refine br0 c76 ?_
                    have d80 := ne_z (x := (Int32.toInt r65)) (y := 0) rfl rfl c76
                    refine z_mdigs e_2 e_0 h_f_row (by first | with_reducible assumption | exact ⟨by omega, by omega⟩) (by first | with_reducible assumption | exact ⟨by omega, by omega⟩) (fun r81 q82 q83 q84 q85 q86 q87 H88 => ?_)
                    have j89 := H88.1
                    have j90 := H88.2.1
                    have j91 := H88.2.2
                    refine un6_i ?_
                    by_cases c92 : 9999 < ((f_row (7 : Int32).toNatClampNeg) + r81)
                    · refine br1 c92 ?_
                      have g93 : 0 ≤ (Int32.toInt (f_row (7 : Int32).toNatClampNeg)) ∧ (Int32.toInt (f_row (7 : Int32).toNatClampNeg)) ≤ 9999 := RLW.at_7 h_f_row (rfl : ((7 : Nat) : Int) = 7) (by omega) (by omega)
                      have t94 : (Int32.toInt (f_row (7 : Int32).toNatClampNeg)) = w (7) := RMw.z e_0 (i := 7) rfl (by omega)
                      have t95 : (Int32.toInt ((f_row (7 : Int32).toNatClampNeg) + r81)) = (Int32.toInt (f_row (7 : Int32).toNatClampNeg)) + (Int32.toInt r81) := add_z rfl rfl (by omega) (by omega)
                      have d96 := lt_z (x := 9999) (y := (Int32.toInt ((f_row (7 : Int32).toNatClampNeg) + r81))) rfl rfl c92
                      refine un6_i ?_
                      refine br1 (by decide) ?_
                      have k97 : Int32.toInt (-3) = (-3) := (by decide)
                      have hR98 : digR (lawW w ls) w a.toInt b.toInt = (-3) := by unfold digR; rw [← j38]; (repeat' split) <;> omega
                      exact hq _ _ _ _ _ _ _ _ _ _ _ ⟨(by decide), (by first | with_reducible assumption | exact ⟨by omega, by omega⟩), (by first | with_reducible assumption | exact ⟨by omega, by omega⟩), h_f_row, h_f_undos, h_f_sorts, hR98.symm, (by unfold digW; rw [if_pos (show digR (lawW w ls) w a.toInt b.toInt < 0 by omega)]; exact e_0), (by unfold rmU; rw [if_pos (show digR (lawW w ls) w a.toInt b.toInt < 0 by omega)]; exact e_1), e_2, (fun j _ => rfl)⟩
                    · refine br0 c92 ?_
                      have g99 : 0 ≤ (Int32.toInt (f_row (7 : Int32).toNatClampNeg)) ∧ (Int32.toInt (f_row (7 : Int32).toNatClampNeg)) ≤ 9999 := RLW.at_7 h_f_row (rfl : ((7 : Nat) : Int) = 7) (by omega) (by omega)
                      have t100 : (Int32.toInt (f_row (7 : Int32).toNatClampNeg)) = w (7) := RMw.z e_0 (i := 7) rfl (by omega)
                      have t101 : (Int32.toInt ((f_row (7 : Int32).toNatClampNeg) + r81)) = (Int32.toInt (f_row (7 : Int32).toNatClampNeg)) + (Int32.toInt r81) := add_z rfl rfl (by omega) (by omega)
                      have d102 := nlt_z (x := 9999) (y := (Int32.toInt ((f_row (7 : Int32).toNatClampNeg) + r81))) rfl rfl c92
                      refine un6_i ?_
                      refine br0 (by decide) ?_
                      have k106 : Int32.toInt 0 = 0 := rfl
                      refine s_X12_rememberz 0 h0_nUndo (f_undos) (f_sorts) (f_row) ⟨by decide, by decide⟩ h_h0_nUndo h_f_undos h_f_sorts h_f_row e_0 e_1 (fun u103 u104 u105 H107 => ?_)
                      have j108 := H107.1
                      have j109 := H107.2.1
                      have j110 := H107.2.2.1
                      have j111 := H107.2.2.2.1
                      have j112 := H107.2.2.2.2
                      refine un3_i ?_
                      refine o_X12_digIt _ _ _ _ _ _ _ _ _ _ _ _ _ _ ?_
                      refine ⟨vpi (x := (Int32.toInt (10 + a))) rfl (by omega) (by omega), ?_⟩
                      refine z_cellBy (z := w (10 + ((Int32.toInt a)).toNat)) (by omega) (by first | with_reducible assumption | exact ⟨by omega, by omega⟩) (by first | with_reducible assumption | exact ⟨by omega, by omega⟩) (fun r113 H114 => ?_)
                      have j116 := H114.1
                      have j115 := H114.2
                      have j117 : (Int32.toInt r113) = (Int32.toInt r34) := by rw [j115, j38]
                      refine z_mdigs e_2 e_0 h_f_row (by first | with_reducible assumption | exact ⟨by omega, by omega⟩) (by first | with_reducible assumption | exact ⟨by omega, by omega⟩) (fun r118 q119 q120 q121 q122 q123 q124 H125 => ?_)
                      have j126 := H125.1
                      have j127 := H125.2.1
                      have j128 := H125.2.2
                      rw [show (Int32.toInt r113) = (Int32.toInt r34) by omega] at j127
                      refine un6_i ?_
                      have t129 : (Int32.toInt (33 + r113)) = 33 + (Int32.toInt r113) := add_z rfl rfl (by omega) (by omega)
                      refine ⟨vpi (x := (Int32.toInt (33 + r113))) rfl (by omega) (by omega), ?_⟩
                      refine ⟨vpi (x := (Int32.toInt (10 + a))) rfl (by omega) (by omega), ?_⟩
                      refine un7_i ?_
                      have t130 := i32_hi r113
                      have t131 : (Int32.toInt ((f_row (7 : Int32).toNatClampNeg) + r118)) = (Int32.toInt (f_row (7 : Int32).toNatClampNeg)) + (Int32.toInt r118) := add_z rfl rfl (by omega) (by omega)
                      have R132 : RLW (upd f_row 7 ((f_row (7 : Int32).toNatClampNeg) + r118)) := RLW.up_7 h_f_row (rfl : ((7 : Nat) : Int) = 7) (by omega) (by omega) (w := (Int32.toInt ((f_row (7 : Int32).toNatClampNeg) + r118))) rfl (by omega) (by omega)
                      have R133 : RLW (upd (upd f_row 7 ((f_row (7 : Int32).toNatClampNeg) + r118)) (33 + r113).toNatClampNeg 1) := RLW.up_33 R132 (tnz (x := (Int32.toInt (33 + r113))) rfl (by omega)) (by omega) (by omega) (w := 1) rfl (by omega) (by omega)
                      have R134 : RLW (upd (upd (upd f_row 7 ((f_row (7 : Int32).toNatClampNeg) + r118)) (33 + r113).toNatClampNeg 1) (10 + a).toNatClampNeg r113) := RLW.up_10 R133 (tnz (x := (Int32.toInt (10 + a))) rfl (by omega)) (by omega) (by omega) (w := (Int32.toInt r113)) rfl (by omega) (by omega)
                      have hR135 : digR (lawW w ls) w a.toInt b.toInt = (Int32.toInt r113) := by unfold digR; rw [← j38]; (repeat' split) <;> omega
                      have k136 : Int32.toInt 1 = 1 := rfl
                      exact hq _ _ _ _ _ _ _ _ _ _ _ ⟨(by first | with_reducible assumption | exact ⟨by omega, by omega⟩), (by first | with_reducible assumption | exact ⟨by omega, by omega⟩), (by first | with_reducible assumption | exact ⟨by omega, by omega⟩), R134, j109, j110, hR135.symm, (by unfold digW; rw [if_neg (show ¬ digR (lawW w ls) w a.toInt b.toInt < 0 by omega)]; unfold digO; rw [← j38]; rw [← j127]; unfold digC; exact (RMw.up (RMw.up (RMw.up e_0 (by first | rfl | (show Int.toNat _ = _; omega)) (by first | rfl | omega | (split <;> omega))) (by first | rfl | (show Int.toNat _ = _; omega)) (by first | rfl | omega | (split <;> omega))) (by first | rfl | (show Int.toNat _ = _; omega)) (by first | rfl | omega | (split <;> omega)))), (by unfold rmU; rw [if_neg (show ¬ digR (lawW w ls) w a.toInt b.toInt < 0 by omega)]; exact j111), (RML.up (RML.up (RML.up e_2 (rfl : ((7 : Nat) : Int) = 7) (by omega) (by omega)) (tnz (x := (Int32.toInt (33 + r113))) rfl (by omega)) (by omega) (by omega)) (tnz (x := (Int32.toInt (10 + a))) rfl (by omega)) (by omega) (by omega)), j112⟩
                · refine br0 c61 ?_
                  have g137 : 0 ≤ (Int32.toInt (f_row (33 + r34).toNatClampNeg)) ∧ (Int32.toInt (f_row (33 + r34).toNatClampNeg)) ≤ 1 := RLW.at_33 h_f_row (tnz (x := (Int32.toInt (33 + r34))) rfl (by omega)) (by omega) (by omega)
                  have t138 : (Int32.toInt (f_row (33 + r34).toNatClampNeg)) = w (33 + ((Int32.toInt r34)).toNat) := RMw.z e_0 (i := 33 + ((Int32.toInt r34)).toNat) (show Int.toNat _ = _ by omega) (by omega)
                  have d139 := ne_z (x := (Int32.toInt (f_row (33 + r34).toNatClampNeg))) (y := 0) rfl rfl c61
                  refine un6_i ?_
                  refine br1 (by decide) ?_
                  have k140 : Int32.toInt (-3) = (-3) := (by decide)
                  have hR141 : digR (lawW w ls) w a.toInt b.toInt = (-3) := by unfold digR; rw [← j38]; (repeat' split) <;> omega
                  exact hq _ _ _ _ _ _ _ _ _ _ _ ⟨(by decide), (by first | with_reducible assumption | exact ⟨by omega, by omega⟩), (by first | with_reducible assumption | exact ⟨by omega, by omega⟩), h_f_row, h_f_undos, h_f_sorts, hR141.symm, (by unfold digW; rw [if_pos (show digR (lawW w ls) w a.toInt b.toInt < 0 by omega)]; exact e_0), (by unfold rmU; rw [if_pos (show digR (lawW w ls) w a.toInt b.toInt < 0 by omega)]; exact e_1), e_2, (fun j _ => rfl)⟩


set_option maxRecDepth 100000 in
theorem s_X12_haulNowz (a : Int32) (h0_nUndo : Int32) (h0_ordered : Int32) (h0_law : Int32) (h0_broken : Int32) (h0_value : Int64) (h0_sum : Int64) (f_row : Nat → Int32) (f_undos : Nat → Int32) (f_sorts : Nat → Int32) (f_set : Nat → Int64) (f_nOp : Nat → Int32) (f_nArg : Nat → Int32) (f_rest : Nat → Int64) (f_now : Nat → Int64) {w : Nat → Int} {U : UL} {ls : Nat → List Cls} (h_h0_nUndo : 0 ≤ h0_nUndo.toInt ∧ h0_nUndo.toInt ≤ 16) (h_h0_ordered : 0 ≤ h0_ordered.toInt ∧ h0_ordered.toInt ≤ 0) (h_h0_broken : 0 ≤ h0_broken.toInt ∧ h0_broken.toInt ≤ 1) (h_f_row : RLW f_row) (h_f_undos : UN f_undos) (h_f_sorts : SO f_sorts) (e_0 : RMw f_row w) (e_1 : RMu f_undos f_sorts h0_nUndo U) (e_2 : RML f_row ls) {Q : Int32 → (Int32 × Int32 × Int32 × Int64 × Int64 × (Nat → Int32) × (Nat → Int32) × (Nat → Int32) × (Nat → Int64) × (Nat → Int64)) → Prop} (hq : ∀ (r : Int32) (u_0 : Int32) (u_1 : Int32) (u_2 : Int32) (u_3 : Int64) (u_4 : Int64) (u_5 : Nat → Int32) (u_6 : Nat → Int32) (u_7 : Nat → Int32) (u_8 : Nat → Int64) (u_9 : Nat → Int64), ((-3) ≤ r.toInt ∧ r.toInt ≤ 2147483647) ∧ (0 ≤ u_0.toInt ∧ u_0.toInt ≤ 16) ∧ (0 ≤ u_2.toInt ∧ u_2.toInt ≤ 1) ∧ (RLW u_5) ∧ (UN u_6) ∧ (SO u_7) ∧ (r.toInt = haulR (lawW w ls) w a.toInt) ∧ (RMw u_5 (haulW (lawW w ls) w a.toInt)) ∧ (RMu u_6 u_7 u_0 (rmU (haulR (lawW w ls) w a.toInt) 1 w U)) ∧ (RML u_5 ls) ∧ (∀ j, 1696 ≤ j → u_6 j = f_undos j) → Q r (u_0, u_1, u_2, u_3, u_4, u_5, u_6, u_7, u_8, u_9)) : wp_X12_haulNow a h0_nUndo h0_ordered h0_law h0_broken h0_value h0_sum f_row f_undos f_sorts f_set f_nOp f_nArg f_rest f_now Q := by
  unfold wp_X12_haulNow
  obtain rfl : h0_ordered = 0 := z_eq (y := 0) rfl rfl (by omega)
  refine o_X12_isShaft _ _ _ ?_
  refine o_X12_in _ _ _ _ ?_
  by_cases c1 : (lg_cmp a.toInt64 0) < 0
  · refine br1 c1 ?_
    have t2 : (Int64.toInt a.toInt64) = (Int32.toInt a) := i2l_z rfl
    have d3 := c_lt (x := (Int64.toInt a.toInt64)) (y := 0) rfl rfl c1
    refine br1 (by decide) ?_
    have k4 : Int32.toInt (-2) = (-2) := (by decide)
    have hR5 : haulR (lawW w ls) w a.toInt = (-2) := by unfold haulR; (repeat' split) <;> omega
    exact hq _ _ _ _ _ _ _ _ _ _ _ ⟨(by decide), (by first | with_reducible assumption | exact ⟨by omega, by omega⟩), (by first | with_reducible assumption | exact ⟨by omega, by omega⟩), h_f_row, h_f_undos, h_f_sorts, hR5.symm, (by unfold haulW; rw [if_pos (show haulR (lawW w ls) w a.toInt < 0 by omega)]; exact e_0), (by unfold rmU; rw [if_pos (show haulR (lawW w ls) w a.toInt < 0 by omega)]; exact e_1), e_2, (fun j _ => rfl)⟩
  · refine br0 c1 ?_
    have t6 : (Int64.toInt a.toInt64) = (Int32.toInt a) := i2l_z rfl
    have d7 := c_nlt (x := (Int64.toInt a.toInt64)) (y := 0) rfl rfl c1
    by_cases c8 : 0 < (lg_cmp a.toInt64 ((f_row (0 : Int32).toNatClampNeg).toInt64 - 1))
    · refine br1 c8 ?_
      have g9 : 0 ≤ (Int32.toInt (f_row (0 : Int32).toNatClampNeg)) ∧ (Int32.toInt (f_row (0 : Int32).toNatClampNeg)) ≤ 6 := RLW.at_0 h_f_row (rfl : ((0 : Nat) : Int) = 0) (by omega) (by omega)
      have t10 : (Int32.toInt (f_row (0 : Int32).toNatClampNeg)) = w (0) := RMw.z e_0 (i := 0) rfl (by omega)
      have t11 : (Int64.toInt (f_row (0 : Int32).toNatClampNeg).toInt64) = (Int32.toInt (f_row (0 : Int32).toNatClampNeg)) := i2l_z rfl
      have t12 : (Int64.toInt ((f_row (0 : Int32).toNatClampNeg).toInt64 - 1)) = (Int64.toInt (f_row (0 : Int32).toNatClampNeg).toInt64) - 1 := lsub_z rfl rfl (by omega) (by omega)
      have d13 := c_gt (x := (Int64.toInt a.toInt64)) (y := (Int64.toInt ((f_row (0 : Int32).toNatClampNeg).toInt64 - 1))) rfl rfl c8
      refine br1 (by decide) ?_
      have k14 : Int32.toInt (-2) = (-2) := (by decide)
      have hR15 : haulR (lawW w ls) w a.toInt = (-2) := by unfold haulR; (repeat' split) <;> omega
      exact hq _ _ _ _ _ _ _ _ _ _ _ ⟨(by decide), (by first | with_reducible assumption | exact ⟨by omega, by omega⟩), (by first | with_reducible assumption | exact ⟨by omega, by omega⟩), h_f_row, h_f_undos, h_f_sorts, hR15.symm, (by unfold haulW; rw [if_pos (show haulR (lawW w ls) w a.toInt < 0 by omega)]; exact e_0), (by unfold rmU; rw [if_pos (show haulR (lawW w ls) w a.toInt < 0 by omega)]; exact e_1), e_2, (fun j _ => rfl)⟩
    · refine br0 c8 ?_
      have g16 : 0 ≤ (Int32.toInt (f_row (0 : Int32).toNatClampNeg)) ∧ (Int32.toInt (f_row (0 : Int32).toNatClampNeg)) ≤ 6 := RLW.at_0 h_f_row (rfl : ((0 : Nat) : Int) = 0) (by omega) (by omega)
      have t17 : (Int32.toInt (f_row (0 : Int32).toNatClampNeg)) = w (0) := RMw.z e_0 (i := 0) rfl (by omega)
      have t18 : (Int64.toInt (f_row (0 : Int32).toNatClampNeg).toInt64) = (Int32.toInt (f_row (0 : Int32).toNatClampNeg)) := i2l_z rfl
      have t19 : (Int64.toInt ((f_row (0 : Int32).toNatClampNeg).toInt64 - 1)) = (Int64.toInt (f_row (0 : Int32).toNatClampNeg).toInt64) - 1 := lsub_z rfl rfl (by omega) (by omega)
      have d20 := c_ngt (x := (Int64.toInt a.toInt64)) (y := (Int64.toInt ((f_row (0 : Int32).toNatClampNeg).toInt64 - 1))) rfl rfl c8
      refine br0 (by decide) ?_
      refine o_X12_canHaul _ _ _ ?_
      refine o_X12_hasFound _ _ _ ?_
      have t21 : (Int32.toInt (10 + a)) = 10 + (Int32.toInt a) := add_z rfl rfl (by omega) (by omega)
      refine ⟨vpi (x := (Int32.toInt (10 + a))) rfl (by omega) (by omega), ?_⟩
      have g22 : 0 ≤ (Int32.toInt (f_row (10 + a).toNatClampNeg)) ∧ (Int32.toInt (f_row (10 + a).toNatClampNeg)) ≤ 39 := RLW.at_10 h_f_row (tnz (x := (Int32.toInt (10 + a))) rfl (by omega)) (by omega) (by omega)
      have t23 : (Int32.toInt (f_row (10 + a).toNatClampNeg)) = w (10 + ((Int32.toInt a)).toNat) := RMw.z e_0 (i := 10 + ((Int32.toInt a)).toNat) (show Int.toNat _ = _ by omega) (by omega)
      have t24 : (Int32.toInt (113 + (f_row (10 + a).toNatClampNeg))) = 113 + (Int32.toInt (f_row (10 + a).toNatClampNeg)) := add_z rfl rfl (by omega) (by omega)
      refine ⟨vpi (x := (Int32.toInt (113 + (f_row (10 + a).toNatClampNeg)))) rfl (by omega) (by omega), ?_⟩
      by_cases c25 : (f_row (113 + (f_row (10 + a).toNatClampNeg)).toNatClampNeg) = 3
      · refine br1 c25 ?_
        have g26 : 0 ≤ (Int32.toInt (f_row (113 + (f_row (10 + a).toNatClampNeg)).toNatClampNeg)) ∧ (Int32.toInt (f_row (113 + (f_row (10 + a).toNatClampNeg)).toNatClampNeg)) ≤ 3 := RLW.at_113 h_f_row (tnz (x := (Int32.toInt (113 + (f_row (10 + a).toNatClampNeg)))) rfl (by omega)) (by omega) (by omega)
        have t27 : (Int32.toInt (f_row (113 + (f_row (10 + a).toNatClampNeg)).toNatClampNeg)) = w (113 + (w (10 + ((Int32.toInt a)).toNat)).toNat) := RMw.z e_0 (i := 113 + (w (10 + ((Int32.toInt a)).toNat)).toNat) (show Int.toNat _ = _ by omega) (by omega)
        have d28 := eq_z (x := (Int32.toInt (f_row (113 + (f_row (10 + a).toNatClampNeg)).toNatClampNeg))) (y := 3) rfl rfl c25
        refine br0 (by decide) ?_
        by_cases c29 : 9999 ≤ (f_row (7 : Int32).toNatClampNeg)
        · refine br1 c29 ?_
          have g30 : 0 ≤ (Int32.toInt (f_row (7 : Int32).toNatClampNeg)) ∧ (Int32.toInt (f_row (7 : Int32).toNatClampNeg)) ≤ 9999 := RLW.at_7 h_f_row (rfl : ((7 : Nat) : Int) = 7) (by omega) (by omega)
          have t31 : (Int32.toInt (f_row (7 : Int32).toNatClampNeg)) = w (7) := RMw.z e_0 (i := 7) rfl (by omega)
          have d32 := le_z (x := 9999) (y := (Int32.toInt (f_row (7 : Int32).toNatClampNeg))) rfl rfl c29
          refine br1 (by decide) ?_
          have k33 : Int32.toInt (-3) = (-3) := (by decide)
          have hR34 : haulR (lawW w ls) w a.toInt = (-3) := by unfold haulR; (repeat' split) <;> omega
          exact hq _ _ _ _ _ _ _ _ _ _ _ ⟨(by decide), (by first | with_reducible assumption | exact ⟨by omega, by omega⟩), (by first | with_reducible assumption | exact ⟨by omega, by omega⟩), h_f_row, h_f_undos, h_f_sorts, hR34.symm, (by unfold haulW; rw [if_pos (show haulR (lawW w ls) w a.toInt < 0 by omega)]; exact e_0), (by unfold rmU; rw [if_pos (show haulR (lawW w ls) w a.toInt < 0 by omega)]; exact e_1), e_2, (fun j _ => rfl)⟩
        · refine br0 c29 ?_
          have g35 : 0 ≤ (Int32.toInt (f_row (7 : Int32).toNatClampNeg)) ∧ (Int32.toInt (f_row (7 : Int32).toNatClampNeg)) ≤ 9999 := RLW.at_7 h_f_row (rfl : ((7 : Nat) : Int) = 7) (by omega) (by omega)
          have t36 : (Int32.toInt (f_row (7 : Int32).toNatClampNeg)) = w (7) := RMw.z e_0 (i := 7) rfl (by omega)
          have d37 := nle_z (x := 9999) (y := (Int32.toInt (f_row (7 : Int32).toNatClampNeg))) rfl rfl c29
          refine br0 (by decide) ?_
          have k41 : Int32.toInt 1 = 1 := rfl
          refine s_X12_rememberz 1 h0_nUndo (f_undos) (f_sorts) (f_row) ⟨by decide, by decide⟩ h_h0_nUndo h_f_undos h_f_sorts h_f_row e_0 e_1 (fun u38 u39 u40 H42 => ?_)
          have j43 := H42.1
          have j44 := H42.2.1
          have j45 := H42.2.2.1
          have j46 := H42.2.2.2.1
          have j47 := H42.2.2.2.2
          refine un3_i ?_
          refine o_X12_haulIt _ _ _ _ _ _ _ _ _ _ _ _ _ ?_
          refine ⟨vpi (x := (Int32.toInt (10 + a))) rfl (by omega) (by omega), ?_⟩
          refine z_mgives e_2 e_0 h_f_row (by first | with_reducible assumption | exact ⟨by omega, by omega⟩) (by first | with_reducible assumption | exact ⟨by omega, by omega⟩) (fun r48 q49 q50 q51 q52 q53 q54 H55 => ?_)
          have j56 := H55.1
          have j57 := H55.2.1
          have j58 := H55.2.2.1
          have j59 := H55.2.2.2
          rw [show (Int32.toInt (f_row (10 + a).toNatClampNeg)) = w (10 + ((Int32.toInt a)).toNat) by omega] at j57
          rw [show (Int32.toInt (f_row (10 + a).toNatClampNeg)) = w (10 + ((Int32.toInt a)).toNat) by omega] at j58
          refine un6_i ?_
          refine ⟨vpi (x := (Int32.toInt (10 + a))) rfl (by omega) (by omega), ?_⟩
          have t60 : (Int32.toInt (73 + (f_row (10 + a).toNatClampNeg))) = 73 + (Int32.toInt (f_row (10 + a).toNatClampNeg)) := add_z rfl rfl (by omega) (by omega)
          refine ⟨vpi (x := (Int32.toInt (73 + (f_row (10 + a).toNatClampNeg)))) rfl (by omega) (by omega), ?_⟩
          refine ⟨vpi (x := (Int32.toInt (73 + (f_row (10 + a).toNatClampNeg)))) rfl (by omega) (by omega), ?_⟩
          have t61 : (Int32.toInt (16 + a)) = 16 + (Int32.toInt a) := add_z rfl rfl (by omega) (by omega)
          refine ⟨vpi (x := (Int32.toInt (16 + a))) rfl (by omega) (by omega), ?_⟩
          refine o_X12_within _ _ _ _ ?_
          have g62 : 0 ≤ (Int32.toInt (f_row (16 + a).toNatClampNeg)) ∧ (Int32.toInt (f_row (16 + a).toNatClampNeg)) ≤ 9999 := RLW.at_16 h_f_row (tnz (x := (Int32.toInt (16 + a))) rfl (by omega)) (by omega) (by omega)
          have t63 : (Int32.toInt (f_row (16 + a).toNatClampNeg)) = w (16 + ((Int32.toInt a)).toNat) := RMw.z e_0 (i := 16 + ((Int32.toInt a)).toNat) (show Int.toNat _ = _ by omega) (by omega)
          have t64 : (Int32.toInt ((upd f_row (73 + (f_row (10 + a).toNatClampNeg)).toNatClampNeg ((f_row (73 + (f_row (10 + a).toNatClampNeg)).toNatClampNeg) - r48)) (16 + a).toNatClampNeg)) = (Int32.toInt (f_row (16 + a).toNatClampNeg)) := congrArg Int32.toInt (pk_un (ne_n (tnz (x := (Int32.toInt (16 + a))) rfl (by omega)) (tnz (x := (Int32.toInt (73 + (f_row (10 + a).toNatClampNeg)))) rfl (by omega)) (by omega)))
          have t65 : (Int32.toInt (((upd f_row (73 + (f_row (10 + a).toNatClampNeg)).toNatClampNeg ((f_row (73 + (f_row (10 + a).toNatClampNeg)).toNatClampNeg) - r48)) (16 + a).toNatClampNeg) + r48)) = (Int32.toInt ((upd f_row (73 + (f_row (10 + a).toNatClampNeg)).toNatClampNeg ((f_row (73 + (f_row (10 + a).toNatClampNeg)).toNatClampNeg) - r48)) (16 + a).toNatClampNeg)) + (Int32.toInt r48) := add_z rfl rfl (by omega) (by omega)
          have t66 : (Int64.toInt (((upd f_row (73 + (f_row (10 + a).toNatClampNeg)).toNatClampNeg ((f_row (73 + (f_row (10 + a).toNatClampNeg)).toNatClampNeg) - r48)) (16 + a).toNatClampNeg) + r48).toInt64) = (Int32.toInt (((upd f_row (73 + (f_row (10 + a).toNatClampNeg)).toNatClampNeg ((f_row (73 + (f_row (10 + a).toNatClampNeg)).toNatClampNeg) - r48)) (16 + a).toNatClampNeg) + r48)) := i2l_z rfl
          refine br1 (k_ge (x := (Int64.toInt (((upd f_row (73 + (f_row (10 + a).toNatClampNeg)).toNatClampNeg ((f_row (73 + (f_row (10 + a).toNatClampNeg)).toNatClampNeg) - r48)) (16 + a).toNatClampNeg) + r48).toInt64)) (y := 0) rfl rfl (by omega)) ?_
          by_cases c67 : (lg_cmp (((upd f_row (73 + (f_row (10 + a).toNatClampNeg)).toNatClampNeg ((f_row (73 + (f_row (10 + a).toNatClampNeg)).toNatClampNeg) - r48)) (16 + a).toNatClampNeg) + r48).toInt64 ((9999 : Int32).toInt64 : Int64)) ≤ 0
          · refine br1 c67 ?_
            have d68 := c_le (x := (Int64.toInt (((upd f_row (73 + (f_row (10 + a).toNatClampNeg)).toNatClampNeg ((f_row (73 + (f_row (10 + a).toNatClampNeg)).toNatClampNeg) - r48)) (16 + a).toNatClampNeg) + r48).toInt64)) (y := 9999) rfl rfl c67
            refine ⟨vpi (x := (Int32.toInt (16 + a))) rfl (by omega) (by omega), ?_⟩
            refine un7_i ?_
            have t69 := i32_hi r48
            have g70 : 0 ≤ (Int32.toInt (f_row (73 + (f_row (10 + a).toNatClampNeg)).toNatClampNeg)) ∧ (Int32.toInt (f_row (73 + (f_row (10 + a).toNatClampNeg)).toNatClampNeg)) ≤ 99 := RLW.at_73 h_f_row (tnz (x := (Int32.toInt (73 + (f_row (10 + a).toNatClampNeg)))) rfl (by omega)) (by omega) (by omega)
            have t71 : (Int32.toInt (f_row (73 + (f_row (10 + a).toNatClampNeg)).toNatClampNeg)) = w (73 + (w (10 + ((Int32.toInt a)).toNat)).toNat) := RMw.z e_0 (i := 73 + (w (10 + ((Int32.toInt a)).toNat)).toNat) (show Int.toNat _ = _ by omega) (by omega)
            have t72 : (Int32.toInt ((f_row (73 + (f_row (10 + a).toNatClampNeg)).toNatClampNeg) - r48)) = (Int32.toInt (f_row (73 + (f_row (10 + a).toNatClampNeg)).toNatClampNeg)) - (Int32.toInt r48) := sub_z rfl rfl (by omega) (by omega)
            have R73 : RLW (upd f_row (73 + (f_row (10 + a).toNatClampNeg)).toNatClampNeg ((f_row (73 + (f_row (10 + a).toNatClampNeg)).toNatClampNeg) - r48)) := RLW.up_73 h_f_row (tnz (x := (Int32.toInt (73 + (f_row (10 + a).toNatClampNeg)))) rfl (by omega)) (by omega) (by omega) (w := (Int32.toInt ((f_row (73 + (f_row (10 + a).toNatClampNeg)).toNatClampNeg) - r48))) rfl (by omega) (by omega)
            have t74 : (Int32.toInt (((upd f_row (73 + (f_row (10 + a).toNatClampNeg)).toNatClampNeg ((f_row (73 + (f_row (10 + a).toNatClampNeg)).toNatClampNeg) - r48)) (16 + a).toNatClampNeg) + r48).toInt64.toInt32) = (Int64.toInt (((upd f_row (73 + (f_row (10 + a).toNatClampNeg)).toNatClampNeg ((f_row (73 + (f_row (10 + a).toNatClampNeg)).toNatClampNeg) - r48)) (16 + a).toNatClampNeg) + r48).toInt64) := l2i_z rfl (by omega) (by omega)
            have R75 : RLW (upd (upd f_row (73 + (f_row (10 + a).toNatClampNeg)).toNatClampNeg ((f_row (73 + (f_row (10 + a).toNatClampNeg)).toNatClampNeg) - r48)) (16 + a).toNatClampNeg (((upd f_row (73 + (f_row (10 + a).toNatClampNeg)).toNatClampNeg ((f_row (73 + (f_row (10 + a).toNatClampNeg)).toNatClampNeg) - r48)) (16 + a).toNatClampNeg) + r48).toInt64.toInt32) := RLW.up_16 R73 (tnz (x := (Int32.toInt (16 + a))) rfl (by omega)) (by omega) (by omega) (w := (Int32.toInt (((upd f_row (73 + (f_row (10 + a).toNatClampNeg)).toNatClampNeg ((f_row (73 + (f_row (10 + a).toNatClampNeg)).toNatClampNeg) - r48)) (16 + a).toNatClampNeg) + r48).toInt64.toInt32)) rfl (by omega) (by omega)
            have t76 : (Int32.toInt ((upd f_row (73 + (f_row (10 + a).toNatClampNeg)).toNatClampNeg ((f_row (73 + (f_row (10 + a).toNatClampNeg)).toNatClampNeg) - r48)) (7 : Int32).toNatClampNeg)) = (Int32.toInt (f_row (7 : Int32).toNatClampNeg)) := congrArg Int32.toInt (pk_un (ne_n (rfl : ((7 : Nat) : Int) = 7) (tnz (x := (Int32.toInt (73 + (f_row (10 + a).toNatClampNeg)))) rfl (by omega)) (by omega)))
            have t77 : (Int32.toInt ((upd (upd f_row (73 + (f_row (10 + a).toNatClampNeg)).toNatClampNeg ((f_row (73 + (f_row (10 + a).toNatClampNeg)).toNatClampNeg) - r48)) (16 + a).toNatClampNeg (((upd f_row (73 + (f_row (10 + a).toNatClampNeg)).toNatClampNeg ((f_row (73 + (f_row (10 + a).toNatClampNeg)).toNatClampNeg) - r48)) (16 + a).toNatClampNeg) + r48).toInt64.toInt32) (7 : Int32).toNatClampNeg)) = (Int32.toInt ((upd f_row (73 + (f_row (10 + a).toNatClampNeg)).toNatClampNeg ((f_row (73 + (f_row (10 + a).toNatClampNeg)).toNatClampNeg) - r48)) (7 : Int32).toNatClampNeg)) := congrArg Int32.toInt (pk_un (ne_n (rfl : ((7 : Nat) : Int) = 7) (tnz (x := (Int32.toInt (16 + a))) rfl (by omega)) (by omega)))
            have t78 : (Int32.toInt (((upd (upd f_row (73 + (f_row (10 + a).toNatClampNeg)).toNatClampNeg ((f_row (73 + (f_row (10 + a).toNatClampNeg)).toNatClampNeg) - r48)) (16 + a).toNatClampNeg (((upd f_row (73 + (f_row (10 + a).toNatClampNeg)).toNatClampNeg ((f_row (73 + (f_row (10 + a).toNatClampNeg)).toNatClampNeg) - r48)) (16 + a).toNatClampNeg) + r48).toInt64.toInt32) (7 : Int32).toNatClampNeg) + 1)) = (Int32.toInt ((upd (upd f_row (73 + (f_row (10 + a).toNatClampNeg)).toNatClampNeg ((f_row (73 + (f_row (10 + a).toNatClampNeg)).toNatClampNeg) - r48)) (16 + a).toNatClampNeg (((upd f_row (73 + (f_row (10 + a).toNatClampNeg)).toNatClampNeg ((f_row (73 + (f_row (10 + a).toNatClampNeg)).toNatClampNeg) - r48)) (16 + a).toNatClampNeg) + r48).toInt64.toInt32) (7 : Int32).toNatClampNeg)) + 1 := add_z rfl rfl (by omega) (by omega)
            have R79 : RLW (upd (upd (upd f_row (73 + (f_row (10 + a).toNatClampNeg)).toNatClampNeg ((f_row (73 + (f_row (10 + a).toNatClampNeg)).toNatClampNeg) - r48)) (16 + a).toNatClampNeg (((upd f_row (73 + (f_row (10 + a).toNatClampNeg)).toNatClampNeg ((f_row (73 + (f_row (10 + a).toNatClampNeg)).toNatClampNeg) - r48)) (16 + a).toNatClampNeg) + r48).toInt64.toInt32) 7 (((upd (upd f_row (73 + (f_row (10 + a).toNatClampNeg)).toNatClampNeg ((f_row (73 + (f_row (10 + a).toNatClampNeg)).toNatClampNeg) - r48)) (16 + a).toNatClampNeg (((upd f_row (73 + (f_row (10 + a).toNatClampNeg)).toNatClampNeg ((f_row (73 + (f_row (10 + a).toNatClampNeg)).toNatClampNeg) - r48)) (16 + a).toNatClampNeg) + r48).toInt64.toInt32) (7 : Int32).toNatClampNeg) + 1)) := RLW.up_7 R75 (rfl : ((7 : Nat) : Int) = 7) (by omega) (by omega) (w := (Int32.toInt (((upd (upd f_row (73 + (f_row (10 + a).toNatClampNeg)).toNatClampNeg ((f_row (73 + (f_row (10 + a).toNatClampNeg)).toNatClampNeg) - r48)) (16 + a).toNatClampNeg (((upd f_row (73 + (f_row (10 + a).toNatClampNeg)).toNatClampNeg ((f_row (73 + (f_row (10 + a).toNatClampNeg)).toNatClampNeg) - r48)) (16 + a).toNatClampNeg) + r48).toInt64.toInt32) (7 : Int32).toNatClampNeg) + 1))) rfl (by omega) (by omega)
            have hR80 : haulR (lawW w ls) w a.toInt = (Int32.toInt r48) := by unfold haulR; (repeat' split) <;> omega
            exact hq _ _ _ _ _ _ _ _ _ _ _ ⟨(by first | with_reducible assumption | exact ⟨by omega, by omega⟩), (by first | with_reducible assumption | exact ⟨by omega, by omega⟩), (by first | with_reducible assumption | exact ⟨by omega, by omega⟩), R79, j44, j45, hR80.symm, (by unfold haulW; rw [if_neg (show ¬ haulR (lawW w ls) w a.toInt < 0 by omega)]; unfold haulO; rw [← j57]; unfold haulC; exact (RMw.up (RMw.up (RMw.up e_0 (by first | rfl | (show Int.toNat _ = _; omega)) (by first | rfl | omega | (split <;> omega))) (by first | rfl | (show Int.toNat _ = _; omega)) (by first | rfl | omega | (split <;> omega))) (by first | rfl | (show Int.toNat _ = _; omega)) (by first | rfl | omega | (split <;> omega)))), (by unfold rmU; rw [if_neg (show ¬ haulR (lawW w ls) w a.toInt < 0 by omega)]; exact j46), (RML.up (RML.up (RML.up e_2 (tnz (x := (Int32.toInt (73 + (f_row (10 + a).toNatClampNeg)))) rfl (by omega)) (by omega) (by omega)) (tnz (x := (Int32.toInt (16 + a))) rfl (by omega)) (by omega) (by omega)) (rfl : ((7 : Nat) : Int) = 7) (by omega) (by omega)), j47⟩
          · refine br0 c67 ?_
            have d81 := c_nle (x := (Int64.toInt (((upd f_row (73 + (f_row (10 + a).toNatClampNeg)).toNatClampNeg ((f_row (73 + (f_row (10 + a).toNatClampNeg)).toNatClampNeg) - r48)) (16 + a).toNatClampNeg) + r48).toInt64)) (y := 9999) rfl rfl c67
            refine ⟨vpi (x := (Int32.toInt (16 + a))) rfl (by omega) (by omega), ?_⟩
            refine un7_i ?_
            have t82 := i32_hi r48
            have g83 : 0 ≤ (Int32.toInt (f_row (73 + (f_row (10 + a).toNatClampNeg)).toNatClampNeg)) ∧ (Int32.toInt (f_row (73 + (f_row (10 + a).toNatClampNeg)).toNatClampNeg)) ≤ 99 := RLW.at_73 h_f_row (tnz (x := (Int32.toInt (73 + (f_row (10 + a).toNatClampNeg)))) rfl (by omega)) (by omega) (by omega)
            have t84 : (Int32.toInt (f_row (73 + (f_row (10 + a).toNatClampNeg)).toNatClampNeg)) = w (73 + (w (10 + ((Int32.toInt a)).toNat)).toNat) := RMw.z e_0 (i := 73 + (w (10 + ((Int32.toInt a)).toNat)).toNat) (show Int.toNat _ = _ by omega) (by omega)
            have t85 : (Int32.toInt ((f_row (73 + (f_row (10 + a).toNatClampNeg)).toNatClampNeg) - r48)) = (Int32.toInt (f_row (73 + (f_row (10 + a).toNatClampNeg)).toNatClampNeg)) - (Int32.toInt r48) := sub_z rfl rfl (by omega) (by omega)
            have R86 : RLW (upd f_row (73 + (f_row (10 + a).toNatClampNeg)).toNatClampNeg ((f_row (73 + (f_row (10 + a).toNatClampNeg)).toNatClampNeg) - r48)) := RLW.up_73 h_f_row (tnz (x := (Int32.toInt (73 + (f_row (10 + a).toNatClampNeg)))) rfl (by omega)) (by omega) (by omega) (w := (Int32.toInt ((f_row (73 + (f_row (10 + a).toNatClampNeg)).toNatClampNeg) - r48))) rfl (by omega) (by omega)
            have R87 : RLW (upd (upd f_row (73 + (f_row (10 + a).toNatClampNeg)).toNatClampNeg ((f_row (73 + (f_row (10 + a).toNatClampNeg)).toNatClampNeg) - r48)) (16 + a).toNatClampNeg 9999) := RLW.up_16 R86 (tnz (x := (Int32.toInt (16 + a))) rfl (by omega)) (by omega) (by omega) (w := 9999) rfl (by omega) (by omega)
            have t88 : (Int32.toInt ((upd f_row (73 + (f_row (10 + a).toNatClampNeg)).toNatClampNeg ((f_row (73 + (f_row (10 + a).toNatClampNeg)).toNatClampNeg) - r48)) (7 : Int32).toNatClampNeg)) = (Int32.toInt (f_row (7 : Int32).toNatClampNeg)) := congrArg Int32.toInt (pk_un (ne_n (rfl : ((7 : Nat) : Int) = 7) (tnz (x := (Int32.toInt (73 + (f_row (10 + a).toNatClampNeg)))) rfl (by omega)) (by omega)))
            have t89 : (Int32.toInt ((upd (upd f_row (73 + (f_row (10 + a).toNatClampNeg)).toNatClampNeg ((f_row (73 + (f_row (10 + a).toNatClampNeg)).toNatClampNeg) - r48)) (16 + a).toNatClampNeg 9999) (7 : Int32).toNatClampNeg)) = (Int32.toInt ((upd f_row (73 + (f_row (10 + a).toNatClampNeg)).toNatClampNeg ((f_row (73 + (f_row (10 + a).toNatClampNeg)).toNatClampNeg) - r48)) (7 : Int32).toNatClampNeg)) := congrArg Int32.toInt (pk_un (ne_n (rfl : ((7 : Nat) : Int) = 7) (tnz (x := (Int32.toInt (16 + a))) rfl (by omega)) (by omega)))
            have t90 : (Int32.toInt (((upd (upd f_row (73 + (f_row (10 + a).toNatClampNeg)).toNatClampNeg ((f_row (73 + (f_row (10 + a).toNatClampNeg)).toNatClampNeg) - r48)) (16 + a).toNatClampNeg 9999) (7 : Int32).toNatClampNeg) + 1)) = (Int32.toInt ((upd (upd f_row (73 + (f_row (10 + a).toNatClampNeg)).toNatClampNeg ((f_row (73 + (f_row (10 + a).toNatClampNeg)).toNatClampNeg) - r48)) (16 + a).toNatClampNeg 9999) (7 : Int32).toNatClampNeg)) + 1 := add_z rfl rfl (by omega) (by omega)
            have R91 : RLW (upd (upd (upd f_row (73 + (f_row (10 + a).toNatClampNeg)).toNatClampNeg ((f_row (73 + (f_row (10 + a).toNatClampNeg)).toNatClampNeg) - r48)) (16 + a).toNatClampNeg 9999) 7 (((upd (upd f_row (73 + (f_row (10 + a).toNatClampNeg)).toNatClampNeg ((f_row (73 + (f_row (10 + a).toNatClampNeg)).toNatClampNeg) - r48)) (16 + a).toNatClampNeg 9999) (7 : Int32).toNatClampNeg) + 1)) := RLW.up_7 R87 (rfl : ((7 : Nat) : Int) = 7) (by omega) (by omega) (w := (Int32.toInt (((upd (upd f_row (73 + (f_row (10 + a).toNatClampNeg)).toNatClampNeg ((f_row (73 + (f_row (10 + a).toNatClampNeg)).toNatClampNeg) - r48)) (16 + a).toNatClampNeg 9999) (7 : Int32).toNatClampNeg) + 1))) rfl (by omega) (by omega)
            have hR92 : haulR (lawW w ls) w a.toInt = (Int32.toInt r48) := by unfold haulR; (repeat' split) <;> omega
            have k93 : Int32.toInt 9999 = 9999 := rfl
            exact hq _ _ _ _ _ _ _ _ _ _ _ ⟨(by first | with_reducible assumption | exact ⟨by omega, by omega⟩), (by first | with_reducible assumption | exact ⟨by omega, by omega⟩), (by first | with_reducible assumption | exact ⟨by omega, by omega⟩), R91, j44, j45, hR92.symm, (by unfold haulW; rw [if_neg (show ¬ haulR (lawW w ls) w a.toInt < 0 by omega)]; unfold haulO; rw [← j57]; unfold haulC; exact (RMw.up (RMw.up (RMw.up e_0 (by first | rfl | (show Int.toNat _ = _; omega)) (by first | rfl | omega | (split <;> omega))) (by first | rfl | (show Int.toNat _ = _; omega)) (by first | rfl | omega | (split <;> omega))) (by first | rfl | (show Int.toNat _ = _; omega)) (by first | rfl | omega | (split <;> omega)))), (by unfold rmU; rw [if_neg (show ¬ haulR (lawW w ls) w a.toInt < 0 by omega)]; exact j46), (RML.up (RML.up (RML.up e_2 (tnz (x := (Int32.toInt (73 + (f_row (10 + a).toNatClampNeg)))) rfl (by omega)) (by omega) (by omega)) (tnz (x := (Int32.toInt (16 + a))) rfl (by omega)) (by omega) (by omega)) (rfl : ((7 : Nat) : Int) = 7) (by omega) (by omega)), j47⟩
      · refine br0 c25 ?_
        have g94 : 0 ≤ (Int32.toInt (f_row (113 + (f_row (10 + a).toNatClampNeg)).toNatClampNeg)) ∧ (Int32.toInt (f_row (113 + (f_row (10 + a).toNatClampNeg)).toNatClampNeg)) ≤ 3 := RLW.at_113 h_f_row (tnz (x := (Int32.toInt (113 + (f_row (10 + a).toNatClampNeg)))) rfl (by omega)) (by omega) (by omega)
        have t95 : (Int32.toInt (f_row (113 + (f_row (10 + a).toNatClampNeg)).toNatClampNeg)) = w (113 + (w (10 + ((Int32.toInt a)).toNat)).toNat) := RMw.z e_0 (i := 113 + (w (10 + ((Int32.toInt a)).toNat)).toNat) (show Int.toNat _ = _ by omega) (by omega)
        have d96 := ne_z (x := (Int32.toInt (f_row (113 + (f_row (10 + a).toNatClampNeg)).toNatClampNeg))) (y := 3) rfl rfl c25
        refine br1 (by decide) ?_
        refine br1 (by decide) ?_
        have k97 : Int32.toInt (-3) = (-3) := (by decide)
        have hR98 : haulR (lawW w ls) w a.toInt = (-3) := by unfold haulR; (repeat' split) <;> omega
        exact hq _ _ _ _ _ _ _ _ _ _ _ ⟨(by decide), (by first | with_reducible assumption | exact ⟨by omega, by omega⟩), (by first | with_reducible assumption | exact ⟨by omega, by omega⟩), h_f_row, h_f_undos, h_f_sorts, hR98.symm, (by unfold haulW; rw [if_pos (show haulR (lawW w ls) w a.toInt < 0 by omega)]; exact e_0), (by unfold rmU; rw [if_pos (show haulR (lawW w ls) w a.toInt < 0 by omega)]; exact e_1), e_2, (fun j _ => rfl)⟩


set_option maxRecDepth 100000 in
theorem s_X12_hushNowz (a : Int32) (h0_nUndo : Int32) (f_row : Nat → Int32) (f_undos : Nat → Int32) (f_sorts : Nat → Int32) {w : Nat → Int} {U : UL} {ls : Nat → List Cls} (h_h0_nUndo : 0 ≤ h0_nUndo.toInt ∧ h0_nUndo.toInt ≤ 16) (h_f_row : RLW f_row) (h_f_undos : UN f_undos) (h_f_sorts : SO f_sorts) (e_0 : RMw f_row w) (e_1 : RMu f_undos f_sorts h0_nUndo U) (e_2 : RML f_row ls) {Q : Int32 → (Int32 × (Nat → Int32) × (Nat → Int32) × (Nat → Int32)) → Prop} (hq : ∀ (r : Int32) (u_0 : Int32) (u_1 : Nat → Int32) (u_2 : Nat → Int32) (u_3 : Nat → Int32), ((-3) ≤ r.toInt ∧ r.toInt ≤ 2147483647) ∧ (0 ≤ u_0.toInt ∧ u_0.toInt ≤ 16) ∧ (RLW u_1) ∧ (UN u_2) ∧ (SO u_3) ∧ (r.toInt = hushR w a.toInt) ∧ (RMw u_1 (hushW w a.toInt)) ∧ (RMu u_2 u_3 u_0 (rmU (hushR w a.toInt) 2 w U)) ∧ (RML u_1 ls) ∧ (∀ j, 1696 ≤ j → u_2 j = f_undos j) → Q r (u_0, u_1, u_2, u_3)) : wp_X12_hushNow a h0_nUndo f_row f_undos f_sorts Q := by
  unfold wp_X12_hushNow
  refine o_X12_isNoise _ _ _ ?_
  refine o_X12_in _ _ _ _ ?_
  by_cases c1 : (lg_cmp a.toInt64 0) < 0
  · refine br1 c1 ?_
    have t2 : (Int64.toInt a.toInt64) = (Int32.toInt a) := i2l_z rfl
    have d3 := c_lt (x := (Int64.toInt a.toInt64)) (y := 0) rfl rfl c1
    refine br1 (by decide) ?_
    have k4 : Int32.toInt (-2) = (-2) := (by decide)
    have hR5 : hushR w a.toInt = (-2) := by unfold hushR; (repeat' split) <;> omega
    exact hq _ _ _ _ _ ⟨(by decide), (by first | with_reducible assumption | exact ⟨by omega, by omega⟩), h_f_row, h_f_undos, h_f_sorts, hR5.symm, (by unfold hushW; rw [if_pos (show hushR w a.toInt < 0 by omega)]; exact e_0), (by unfold rmU; rw [if_pos (show hushR w a.toInt < 0 by omega)]; exact e_1), e_2, (fun j _ => rfl)⟩
  · refine br0 c1 ?_
    have t6 : (Int64.toInt a.toInt64) = (Int32.toInt a) := i2l_z rfl
    have d7 := c_nlt (x := (Int64.toInt a.toInt64)) (y := 0) rfl rfl c1
    by_cases c8 : 0 < (lg_cmp a.toInt64 ((f_row (2 : Int32).toNatClampNeg).toInt64 - 1))
    · refine br1 c8 ?_
      have g9 : 0 ≤ (Int32.toInt (f_row (2 : Int32).toNatClampNeg)) ∧ (Int32.toInt (f_row (2 : Int32).toNatClampNeg)) ≤ 6 := RLW.at_2 h_f_row (rfl : ((2 : Nat) : Int) = 2) (by omega) (by omega)
      have t10 : (Int32.toInt (f_row (2 : Int32).toNatClampNeg)) = w (2) := RMw.z e_0 (i := 2) rfl (by omega)
      have t11 : (Int64.toInt (f_row (2 : Int32).toNatClampNeg).toInt64) = (Int32.toInt (f_row (2 : Int32).toNatClampNeg)) := i2l_z rfl
      have t12 : (Int64.toInt ((f_row (2 : Int32).toNatClampNeg).toInt64 - 1)) = (Int64.toInt (f_row (2 : Int32).toNatClampNeg).toInt64) - 1 := lsub_z rfl rfl (by omega) (by omega)
      have d13 := c_gt (x := (Int64.toInt a.toInt64)) (y := (Int64.toInt ((f_row (2 : Int32).toNatClampNeg).toInt64 - 1))) rfl rfl c8
      refine br1 (by decide) ?_
      have k14 : Int32.toInt (-2) = (-2) := (by decide)
      have hR15 : hushR w a.toInt = (-2) := by unfold hushR; (repeat' split) <;> omega
      exact hq _ _ _ _ _ ⟨(by decide), (by first | with_reducible assumption | exact ⟨by omega, by omega⟩), h_f_row, h_f_undos, h_f_sorts, hR15.symm, (by unfold hushW; rw [if_pos (show hushR w a.toInt < 0 by omega)]; exact e_0), (by unfold rmU; rw [if_pos (show hushR w a.toInt < 0 by omega)]; exact e_1), e_2, (fun j _ => rfl)⟩
    · refine br0 c8 ?_
      have g16 : 0 ≤ (Int32.toInt (f_row (2 : Int32).toNatClampNeg)) ∧ (Int32.toInt (f_row (2 : Int32).toNatClampNeg)) ≤ 6 := RLW.at_2 h_f_row (rfl : ((2 : Nat) : Int) = 2) (by omega) (by omega)
      have t17 : (Int32.toInt (f_row (2 : Int32).toNatClampNeg)) = w (2) := RMw.z e_0 (i := 2) rfl (by omega)
      have t18 : (Int64.toInt (f_row (2 : Int32).toNatClampNeg).toInt64) = (Int32.toInt (f_row (2 : Int32).toNatClampNeg)) := i2l_z rfl
      have t19 : (Int64.toInt ((f_row (2 : Int32).toNatClampNeg).toInt64 - 1)) = (Int64.toInt (f_row (2 : Int32).toNatClampNeg).toInt64) - 1 := lsub_z rfl rfl (by omega) (by omega)
      have d20 := c_ngt (x := (Int64.toInt a.toInt64)) (y := (Int64.toInt ((f_row (2 : Int32).toNatClampNeg).toInt64 - 1))) rfl rfl c8
      refine br0 (by decide) ?_
      have t21 : (Int32.toInt (22 + a)) = 22 + (Int32.toInt a) := add_z rfl rfl (by omega) (by omega)
      refine ⟨vpi (x := (Int32.toInt (22 + a))) rfl (by omega) (by omega), ?_⟩
      by_cases c22 : (f_row (22 + a).toNatClampNeg) = 1
      · refine br1 c22 ?_
        have g23 : 0 ≤ (Int32.toInt (f_row (22 + a).toNatClampNeg)) ∧ (Int32.toInt (f_row (22 + a).toNatClampNeg)) ≤ 1 := RLW.at_22 h_f_row (tnz (x := (Int32.toInt (22 + a))) rfl (by omega)) (by omega) (by omega)
        have t24 : (Int32.toInt (f_row (22 + a).toNatClampNeg)) = w (22 + ((Int32.toInt a)).toNat) := RMw.z e_0 (i := 22 + ((Int32.toInt a)).toNat) (show Int.toNat _ = _ by omega) (by omega)
        have d25 := eq_z (x := (Int32.toInt (f_row (22 + a).toNatClampNeg))) (y := 1) rfl rfl c22
        have k26 : Int32.toInt (-3) = (-3) := (by decide)
        have hR27 : hushR w a.toInt = (-3) := by unfold hushR; (repeat' split) <;> omega
        exact hq _ _ _ _ _ ⟨(by decide), (by first | with_reducible assumption | exact ⟨by omega, by omega⟩), h_f_row, h_f_undos, h_f_sorts, hR27.symm, (by unfold hushW; rw [if_pos (show hushR w a.toInt < 0 by omega)]; exact e_0), (by unfold rmU; rw [if_pos (show hushR w a.toInt < 0 by omega)]; exact e_1), e_2, (fun j _ => rfl)⟩
      · refine br0 c22 ?_
        have g28 : 0 ≤ (Int32.toInt (f_row (22 + a).toNatClampNeg)) ∧ (Int32.toInt (f_row (22 + a).toNatClampNeg)) ≤ 1 := RLW.at_22 h_f_row (tnz (x := (Int32.toInt (22 + a))) rfl (by omega)) (by omega) (by omega)
        have t29 : (Int32.toInt (f_row (22 + a).toNatClampNeg)) = w (22 + ((Int32.toInt a)).toNat) := RMw.z e_0 (i := 22 + ((Int32.toInt a)).toNat) (show Int.toNat _ = _ by omega) (by omega)
        have d30 := ne_z (x := (Int32.toInt (f_row (22 + a).toNatClampNeg))) (y := 1) rfl rfl c22
        have k34 : Int32.toInt 2 = 2 := rfl
        refine s_X12_rememberz 2 h0_nUndo (f_undos) (f_sorts) (f_row) ⟨by decide, by decide⟩ h_h0_nUndo h_f_undos h_f_sorts h_f_row e_0 e_1 (fun u31 u32 u33 H35 => ?_)
        have j36 := H35.1
        have j37 := H35.2.1
        have j38 := H35.2.2.1
        have j39 := H35.2.2.2.1
        have j40 := H35.2.2.2.2
        refine un3_i ?_
        refine ⟨vpi (x := (Int32.toInt (22 + a))) rfl (by omega) (by omega), ?_⟩
        have t41 : (Int32.toInt (198 + a)) = 198 + (Int32.toInt a) := add_z rfl rfl (by omega) (by omega)
        refine ⟨vpi (x := (Int32.toInt (198 + a))) rfl (by omega) (by omega), ?_⟩
        have g43 : 0 ≤ (Int32.toInt (f_row (198 + a).toNatClampNeg)) ∧ (Int32.toInt (f_row (198 + a).toNatClampNeg)) ≤ 7 := RLW.at_198 h_f_row (tnz (x := (Int32.toInt (198 + a))) rfl (by omega)) (by omega) (by omega)
        have t44 : (Int32.toInt (f_row (198 + a).toNatClampNeg)) = w (198 + ((Int32.toInt a)).toNat) := RMw.z e_0 (i := 198 + ((Int32.toInt a)).toNat) (show Int.toNat _ = _ by omega) (by omega)
        have t45 : (Int32.toInt ((upd f_row (22 + a).toNatClampNeg 1) (198 + a).toNatClampNeg)) = (Int32.toInt (f_row (198 + a).toNatClampNeg)) := congrArg Int32.toInt (pk_un (ne_n (tnz (x := (Int32.toInt (198 + a))) rfl (by omega)) (tnz (x := (Int32.toInt (22 + a))) rfl (by omega)) (by omega)))
        have R46 : RLW (upd f_row (22 + a).toNatClampNeg 1) := RLW.up_22 h_f_row (tnz (x := (Int32.toInt (22 + a))) rfl (by omega)) (by omega) (by omega) (w := 1) rfl (by omega) (by omega)
        refine s_X12_dinButz ((upd f_row (22 + a).toNatClampNeg 1) (198 + a).toNatClampNeg) 0 ((upd f_row (22 + a).toNatClampNeg 1)) (w := (hushO w a.toInt)) (by first | with_reducible assumption | exact ⟨by omega, by omega⟩) R46 (RMw.up e_0 (by first | rfl | (show Int.toNat _ = _; omega)) rfl : RMw (upd f_row (22 + a).toNatClampNeg 1) (hushO w a.toInt)) (fun r42 H47 => ?_)
        have j48 := H47.1
        have j49 : r42.toInt = nsS (uI w (22 + a.toInt.toNat) 1) (w (198 + a.toInt.toNat)) (fun _ => false) (w 2).toNat := by have q := H47.2; rw [show (Int32.toInt ((upd f_row (22 + a).toNatClampNeg 1) (198 + a).toNatClampNeg)) = w (198 + a.toInt.toNat) by omega, show hushO w a.toInt 2 = w 2 from uI_n (by omega)] at q; rw [q]; exact nsS_0 (fun i _ => bh_0 i)
        have t50 := i32_hi r42
        have hR51 : hushR w a.toInt = (Int32.toInt r42) := by unfold hushR; (repeat' split) <;> omega
        have k52 : Int32.toInt 1 = 1 := rfl
        exact hq _ _ _ _ _ ⟨(by first | with_reducible assumption | exact ⟨by omega, by omega⟩), (by first | with_reducible assumption | exact ⟨by omega, by omega⟩), R46, j37, j38, hR51.symm, (by unfold hushW; rw [if_neg (show ¬ hushR w a.toInt < 0 by omega)]; unfold hushO; exact (RMw.up e_0 (by first | rfl | (show Int.toNat _ = _; omega)) (by first | rfl | omega | (split <;> omega)))), (by unfold rmU; rw [if_neg (show ¬ hushR w a.toInt < 0 by omega)]; exact j39), (RML.up e_2 (tnz (x := (Int32.toInt (22 + a))) rfl (by omega)) (by omega) (by omega)), j40⟩


set_option maxRecDepth 100000 in
theorem s_X12_lieNowz (a : Int32) (b : Int32) (h0_nUndo : Int32) (f_row : Nat → Int32) (f_undos : Nat → Int32) (f_sorts : Nat → Int32) {w : Nat → Int} {U : UL} {ls : Nat → List Cls} (h_h0_nUndo : 0 ≤ h0_nUndo.toInt ∧ h0_nUndo.toInt ≤ 16) (h_f_row : RLW f_row) (h_f_undos : UN f_undos) (h_f_sorts : SO f_sorts) (e_0 : RMw f_row w) (e_1 : RMu f_undos f_sorts h0_nUndo U) (e_2 : RML f_row ls) {Q : Int32 → (Int32 × (Nat → Int32) × (Nat → Int32) × (Nat → Int32)) → Prop} (hq : ∀ (r : Int32) (u_0 : Int32) (u_1 : Nat → Int32) (u_2 : Nat → Int32) (u_3 : Nat → Int32), ((-3) ≤ r.toInt ∧ r.toInt ≤ 2147483647) ∧ (0 ≤ u_0.toInt ∧ u_0.toInt ≤ 16) ∧ (RLW u_1) ∧ (UN u_2) ∧ (SO u_3) ∧ (r.toInt = lieR w a.toInt b.toInt) ∧ (RMw u_1 (lieW w a.toInt b.toInt)) ∧ (RMu u_2 u_3 u_0 (rmU (lieR w a.toInt b.toInt) 3 w U)) ∧ (RML u_1 ls) ∧ (∀ j, 1696 ≤ j → u_2 j = f_undos j) → Q r (u_0, u_1, u_2, u_3)) : wp_X12_lieNow a b h0_nUndo f_row f_undos f_sorts Q := by
  unfold wp_X12_lieNow
  refine o_X12_isColumn _ _ ?_
  refine o_X12_in _ _ _ _ ?_
  by_cases c1 : (lg_cmp b.toInt64 0) < 0
  · refine br1 c1 ?_
    have t2 : (Int64.toInt b.toInt64) = (Int32.toInt b) := i2l_z rfl
    have d3 := c_lt (x := (Int64.toInt b.toInt64)) (y := 0) rfl rfl c1
    refine br1 (by decide) ?_
    have k4 : Int32.toInt (-1) = (-1) := (by decide)
    have hR5 : lieR w a.toInt b.toInt = (-1) := by unfold lieR; (repeat' split) <;> omega
    exact hq _ _ _ _ _ ⟨(by decide), (by first | with_reducible assumption | exact ⟨by omega, by omega⟩), h_f_row, h_f_undos, h_f_sorts, hR5.symm, (by unfold lieW; rw [if_pos (show lieR w a.toInt b.toInt < 0 by omega)]; exact e_0), (by unfold rmU; rw [if_pos (show lieR w a.toInt b.toInt < 0 by omega)]; exact e_1), e_2, (fun j _ => rfl)⟩
  · refine br0 c1 ?_
    have t6 : (Int64.toInt b.toInt64) = (Int32.toInt b) := i2l_z rfl
    have d7 := c_nlt (x := (Int64.toInt b.toInt64)) (y := 0) rfl rfl c1
    by_cases c8 : 0 < (lg_cmp b.toInt64 7)
    · refine br1 c8 ?_
      have d9 := c_gt (x := (Int64.toInt b.toInt64)) (y := 7) rfl rfl c8
      refine br1 (by decide) ?_
      have k10 : Int32.toInt (-1) = (-1) := (by decide)
      have hR11 : lieR w a.toInt b.toInt = (-1) := by unfold lieR; (repeat' split) <;> omega
      exact hq _ _ _ _ _ ⟨(by decide), (by first | with_reducible assumption | exact ⟨by omega, by omega⟩), h_f_row, h_f_undos, h_f_sorts, hR11.symm, (by unfold lieW; rw [if_pos (show lieR w a.toInt b.toInt < 0 by omega)]; exact e_0), (by unfold rmU; rw [if_pos (show lieR w a.toInt b.toInt < 0 by omega)]; exact e_1), e_2, (fun j _ => rfl)⟩
    · refine br0 c8 ?_
      have d12 := c_ngt (x := (Int64.toInt b.toInt64)) (y := 7) rfl rfl c8
      refine br0 (by decide) ?_
      refine o_X12_isEar _ _ _ ?_
      refine o_X12_in _ _ _ _ ?_
      by_cases c13 : (lg_cmp a.toInt64 0) < 0
      · refine br1 c13 ?_
        have t14 : (Int64.toInt a.toInt64) = (Int32.toInt a) := i2l_z rfl
        have d15 := c_lt (x := (Int64.toInt a.toInt64)) (y := 0) rfl rfl c13
        refine br1 (by decide) ?_
        have k16 : Int32.toInt (-2) = (-2) := (by decide)
        have hR17 : lieR w a.toInt b.toInt = (-2) := by unfold lieR; (repeat' split) <;> omega
        exact hq _ _ _ _ _ ⟨(by decide), (by first | with_reducible assumption | exact ⟨by omega, by omega⟩), h_f_row, h_f_undos, h_f_sorts, hR17.symm, (by unfold lieW; rw [if_pos (show lieR w a.toInt b.toInt < 0 by omega)]; exact e_0), (by unfold rmU; rw [if_pos (show lieR w a.toInt b.toInt < 0 by omega)]; exact e_1), e_2, (fun j _ => rfl)⟩
      · refine br0 c13 ?_
        have t18 : (Int64.toInt a.toInt64) = (Int32.toInt a) := i2l_z rfl
        have d19 := c_nlt (x := (Int64.toInt a.toInt64)) (y := 0) rfl rfl c13
        by_cases c20 : 0 < (lg_cmp a.toInt64 ((f_row (1 : Int32).toNatClampNeg).toInt64 - 1))
        · refine br1 c20 ?_
          have g21 : 0 ≤ (Int32.toInt (f_row (1 : Int32).toNatClampNeg)) ∧ (Int32.toInt (f_row (1 : Int32).toNatClampNeg)) ≤ 5 := RLW.at_1 h_f_row (rfl : ((1 : Nat) : Int) = 1) (by omega) (by omega)
          have t22 : (Int32.toInt (f_row (1 : Int32).toNatClampNeg)) = w (1) := RMw.z e_0 (i := 1) rfl (by omega)
          have t23 : (Int64.toInt (f_row (1 : Int32).toNatClampNeg).toInt64) = (Int32.toInt (f_row (1 : Int32).toNatClampNeg)) := i2l_z rfl
          have t24 : (Int64.toInt ((f_row (1 : Int32).toNatClampNeg).toInt64 - 1)) = (Int64.toInt (f_row (1 : Int32).toNatClampNeg).toInt64) - 1 := lsub_z rfl rfl (by omega) (by omega)
          have d25 := c_gt (x := (Int64.toInt a.toInt64)) (y := (Int64.toInt ((f_row (1 : Int32).toNatClampNeg).toInt64 - 1))) rfl rfl c20
          refine br1 (by decide) ?_
          have k26 : Int32.toInt (-2) = (-2) := (by decide)
          have hR27 : lieR w a.toInt b.toInt = (-2) := by unfold lieR; (repeat' split) <;> omega
          exact hq _ _ _ _ _ ⟨(by decide), (by first | with_reducible assumption | exact ⟨by omega, by omega⟩), h_f_row, h_f_undos, h_f_sorts, hR27.symm, (by unfold lieW; rw [if_pos (show lieR w a.toInt b.toInt < 0 by omega)]; exact e_0), (by unfold rmU; rw [if_pos (show lieR w a.toInt b.toInt < 0 by omega)]; exact e_1), e_2, (fun j _ => rfl)⟩
        · refine br0 c20 ?_
          have g28 : 0 ≤ (Int32.toInt (f_row (1 : Int32).toNatClampNeg)) ∧ (Int32.toInt (f_row (1 : Int32).toNatClampNeg)) ≤ 5 := RLW.at_1 h_f_row (rfl : ((1 : Nat) : Int) = 1) (by omega) (by omega)
          have t29 : (Int32.toInt (f_row (1 : Int32).toNatClampNeg)) = w (1) := RMw.z e_0 (i := 1) rfl (by omega)
          have t30 : (Int64.toInt (f_row (1 : Int32).toNatClampNeg).toInt64) = (Int32.toInt (f_row (1 : Int32).toNatClampNeg)) := i2l_z rfl
          have t31 : (Int64.toInt ((f_row (1 : Int32).toNatClampNeg).toInt64 - 1)) = (Int64.toInt (f_row (1 : Int32).toNatClampNeg).toInt64) - 1 := lsub_z rfl rfl (by omega) (by omega)
          have d32 := c_ngt (x := (Int64.toInt a.toInt64)) (y := (Int64.toInt ((f_row (1 : Int32).toNatClampNeg).toInt64 - 1))) rfl rfl c20
          refine br0 (by decide) ?_
          have k36 : Int32.toInt 3 = 3 := rfl
          refine s_X12_rememberz 3 h0_nUndo (f_undos) (f_sorts) (f_row) ⟨by decide, by decide⟩ h_h0_nUndo h_f_undos h_f_sorts h_f_row e_0 e_1 (fun u33 u34 u35 H37 => ?_)
          have j38 := H37.1
          have j39 := H37.2.1
          have j40 := H37.2.2.1
          have j41 := H37.2.2.2.1
          have j42 := H37.2.2.2.2
          refine un3_i ?_
          have t43 : (Int32.toInt (28 + a)) = 28 + (Int32.toInt a) := add_z rfl rfl (by omega) (by omega)
          refine ⟨vpi (x := (Int32.toInt (28 + a))) rfl (by omega) (by omega), ?_⟩
          refine ⟨vpi (x := (Int32.toInt (28 + a))) rfl (by omega) (by omega), ?_⟩
          have g44 : 0 ≤ (Int32.toInt (f_row (28 + a).toNatClampNeg)) ∧ (Int32.toInt (f_row (28 + a).toNatClampNeg)) ≤ 7 := RLW.at_28 h_f_row (tnz (x := (Int32.toInt (28 + a))) rfl (by omega)) (by omega) (by omega)
          have t45 : (Int32.toInt (f_row (28 + a).toNatClampNeg)) = w (28 + ((Int32.toInt a)).toNat) := RMw.z e_0 (i := 28 + ((Int32.toInt a)).toNat) (show Int.toNat _ = _ by omega) (by omega)
          have t46 := i32_hi (f_row (28 + a).toNatClampNeg)
          have R47 : RLW (upd f_row (28 + a).toNatClampNeg b) := RLW.up_28 h_f_row (tnz (x := (Int32.toInt (28 + a))) rfl (by omega)) (by omega) (by omega) (w := (Int32.toInt b)) rfl (by omega) (by omega)
          have hR48 : lieR w a.toInt b.toInt = (Int32.toInt (f_row (28 + a).toNatClampNeg)) := by unfold lieR; (repeat' split) <;> omega
          exact hq _ _ _ _ _ ⟨(by first | with_reducible assumption | exact ⟨by omega, by omega⟩), (by first | with_reducible assumption | exact ⟨by omega, by omega⟩), R47, j39, j40, hR48.symm, (by unfold lieW; rw [if_neg (show ¬ lieR w a.toInt b.toInt < 0 by omega)]; unfold lieO; exact (RMw.up e_0 (by first | rfl | (show Int.toNat _ = _; omega)) (by first | rfl | omega | (split <;> omega)))), (by unfold rmU; rw [if_neg (show ¬ lieR w a.toInt b.toInt < 0 by omega)]; exact j41), (RML.up e_2 (tnz (x := (Int32.toInt (28 + a))) rfl (by omega)) (by omega) (by omega)), j42⟩
end
section
/-! undo, of both sides -/
def undoR (U : UL) : Int := match U with | [] => -3 | (s, _) :: _ => s
def undoW (w : Nat → Int) (U : UL) : Nat → Int := match U with | [] => w | (_, v) :: _ => fun j => if 7 ≤ j ∧ j < 113 then v j else w j
def undoU (U : UL) : UL := U.tail
theorem undo_sn {w v : Nat → Int} {d wh b k y : Int} (hd : d = 0 ∨ d = 1 → 0 ≤ wh ∧ wh ≤ 5) (h2 : d = 2 → 0 ≤ wh ∧ wh ≤ 5) (h3 : ¬ d = 0 ∧ ¬ d = 1 ∧ ¬ d = 2 → 0 ≤ wh ∧ wh ≤ 4) (hc : d = 0 ∨ d = 1 → 0 ≤ w (10 + wh.toNat) ∧ w (10 + wh.toNat) ≤ 39) (he : ∀ j, 7 ≤ j → j < 113 → v j = invD d wh b k y w j) : ∀ j, (if 7 ≤ j ∧ j < 113 then v j else w j) = invD d wh b k y w j := by
  intro j
  by_cases c : 7 ≤ j ∧ j < 113
  · rw [if_pos c]; exact he j c.1 c.2
  · rw [if_neg c]
    unfold invD
    by_cases c0 : d = 0
    · have := hd (Or.inl c0)
      have := hc (Or.inl c0)
      rw [if_pos c0, uI_n (by omega), uI_n (by omega), uI_n (by omega)]
    · rw [if_neg c0]
      by_cases c1 : d = 1
      · have := hd (Or.inr c1)
        have := hc (Or.inr c1)
        rw [if_pos c1, uI_n (by omega), uI_n (by omega), uI_n (by omega)]
      · rw [if_neg c1]
        by_cases c2 : d = 2
        · have := h2 c2
          rw [if_pos c2, uI_n (by omega)]
        · have := h3 ⟨c0, c1, c2⟩
          rw [if_neg c2, uI_n (by omega)]
theorem RXu.drop {de wh be bb db : Nat → Int32} {kp kp₉ lt lt₉ : Int32} {w : Nat → Int} {s : Int} {v : Nat → Int} {U : UL} (hD : DI de wh be bb db) (h : RXu de wh be bb db kp lt w ((s, v) :: U)) (h1 : kp₉.toInt = kp.toInt - 1) (h2 : lt₉.toInt = (lt.toInt + 15) % 16) : RXu de wh be bb db kp₉ lt₉ (fun j => if 7 ≤ j ∧ j < 113 then v j else w j) U := by
  obtain ⟨e1, e2, e3, e4, e5⟩ := h
  have e2 : U.length + 1 ≤ 16 := e2
  have e1 : kp.toInt = ((U.length + 1 : Nat) : Int) := e1
  refine ⟨by omega, by omega, by omega, by omega, ?_⟩
  have q := e5.2.2.2
  rw [show (lt.toInt.toNat + 15) % 16 = lt₉.toInt.toNat by omega] at q
  exact RXd.ext hD (by omega) q (fun j a b => by show (if 7 ≤ j ∧ j < 113 then v j else w j) = v j; rw [if_pos ⟨a, b⟩])
theorem dropz {kp lt : Int32} (hk : 1 ≤ kp.toInt ∧ kp.toInt ≤ 16) (hl : 0 ≤ lt.toInt ∧ lt.toInt ≤ 15) {Q : (Int32 × Int32) → Prop} (hq : ∀ kp₉ lt₉ : Int32, kp₉.toInt = kp.toInt - 1 → lt₉.toInt = (lt.toInt + 15) % 16 → Q (kp₉, lt₉)) : wp_X2_dropLatest kp lt Q := by
  unfold wp_X2_dropLatest
  have a1 : (lt + 16).toInt = lt.toInt + 16 := add_z rfl (b := 16) (y := 16) rfl (by omega) (by omega)
  have a2 : (lt + 16 - 1).toInt = lt.toInt + 15 := by rw [sub_z a1 (b := 1) (y := 1) rfl (by omega) (by omega)]; omega
  have a3 : ((lt + 16 - 1) - (lt + 16 - 1) / 16 * 16).toInt = (lt.toInt + 15) % 16 := rem_z a2 (b := 16) (y := 16) rfl (by omega) (by omega)
  have b1 : (kp - 1).toInt = kp.toInt - 1 := sub_z rfl (b := 1) (y := 1) rfl (by omega) (by omega)
  have m := mx_z (a := 0) (b := kp - 1)
  have z0 : (0 : Int32).toInt = 0 := rfl
  exact hq _ _ (by omega) a3
set_option maxHeartbeats 1000000 in
theorem z_takeBack {kd hd wt : Nat → Int32} {dg : Int64} {ce bu : Nat → Int32} {cc : Int32} {co ea : Nat → Int32} {ls : Int32} {nc nl : Nat → Int32} {ns hu : Int32} {hc hl : Nat → Int32} {hs : Int32} {so we : Nat → Int32} {wl : Int32} {te : Nat → Int32} {lc fo : Int32} {w : Nat → Int} {U : UL} {de wh be bb db : Nat → Int32} {kp lt : Int32} (hX : RXw kd hd wt dg ce bu cc co ea ls nc nl ns hu hc hl hs so we wl te lc fo w) (hU : RXu de wh be bb db kp lt w U) (hD : DI de wh be bb db) (h_ce : CE ce) (h_te : TE te) (h_wt : WA wt) (h_bu : BU bu) (h_co : CO co) {Q : Int32 → (Int32 × Int32 × (Nat → Int32) × Int64 × (Nat → Int32) × (Nat → Int32) × (Nat → Int32) × Int32 × (Nat → Int32)) → Prop}
    (hq : ∀ (r kp₉ lt₉ : Int32) (ce₉ : Nat → Int32) (dg₉ : Int64) (te₉ wt₉ bu₉ : Nat → Int32) (hu₉ : Int32) (co₉ : Nat → Int32), (-3 ≤ r.toInt ∧ r.toInt ≤ 3) ∧ (0 ≤ kp₉.toInt ∧ kp₉.toInt ≤ 16) ∧ (0 ≤ lt₉.toInt ∧ lt₉.toInt ≤ 15) ∧ CE ce₉ ∧ TE te₉ ∧ WA wt₉ ∧ BU bu₉ ∧ CO co₉ ∧ r.toInt = undoR U ∧ RXw kd hd wt₉ dg₉ ce₉ bu₉ cc co₉ ea ls nc nl ns hu₉ hc hl hs so we wl te₉ lc fo (undoW w U) ∧ RXu de wh be bb db kp₉ lt₉ (undoW w U) (undoU U) → Q r (kp₉, lt₉, ce₉, dg₉, te₉, wt₉, bu₉, hu₉, co₉)) : wp_X7_takeBack kp lt wh de ce dg be db te wt bb bu hu co Q := by
  unfold wp_X7_takeBack
  obtain ⟨e1, e2, e3, e4, e5⟩ := id hU
  cases U with
  | nil =>
    have e1 : kp.toInt = 0 := e1
    exact br1 (z_eq (y := 0) e1 rfl rfl) (hq _ _ _ _ _ _ _ _ _ _ ⟨by decide, (by first | with_reducible assumption | exact ⟨by omega, by omega⟩), ⟨e3, e4⟩, h_ce, h_te, h_wt, h_bu, h_co, rfl, hX, hU⟩)
  | cons x U =>
    obtain ⟨s, v⟩ := x
    have e1 : kp.toInt = ((U.length + 1 : Nat) : Int) := e1
    have e2 : U.length + 1 ≤ 16 := e2
    obtain ⟨d1, d2, d3, d4⟩ := e5
    have vl : vp_in lt 16 := vpi (x := lt.toInt) rfl (by omega) (by omega)
    refine br0 (z_ne (y := 0) e1 rfl (by omega)) ⟨vl, vl, dropz (by omega) ⟨e3, e4⟩ (fun kp₉ lt₉ k1 k2 => un2_i ?_)⟩
    have eL : lt.toNatClampNeg = lt.toInt.toNat := rfl
    rw [eL]
    have D := hD lt.toInt.toNat (by omega)
    unfold DR at D
    have ru := RXu.drop hD hU k1 k2
    have fin : ∀ (r : Int32) (ce₉ : Nat → Int32) (dg₉ : Int64) (te₉ wt₉ bu₉ : Nat → Int32) (hu₉ : Int32) (co₉ : Nat → Int32), r.toInt = s → CE ce₉ → TE te₉ → WA wt₉ → BU bu₉ → CO co₉ → RXw kd hd wt₉ dg₉ ce₉ bu₉ cc co₉ ea ls nc nl ns hu₉ hc hl hs so we wl te₉ lc fo (invD (de lt.toInt.toNat).toInt (wh lt.toInt.toNat).toInt (be lt.toInt.toNat).toInt (bb lt.toInt.toNat).toInt (db lt.toInt.toNat).toInt w) → (((de lt.toInt.toNat).toInt = 0 ∨ (de lt.toInt.toNat).toInt = 1) → 0 ≤ w (10 + (wh lt.toInt.toNat).toInt.toNat) ∧ w (10 + (wh lt.toInt.toNat).toInt.toNat) ≤ 39) → Q r (kp₉, lt₉, ce₉, dg₉, te₉, wt₉, bu₉, hu₉, co₉) := fun r ce₉ dg₉ te₉ wt₉ bu₉ hu₉ co₉ g1 g2 g3 g4 g5 g6 g7 g8 => by
      refine hq _ _ _ _ _ _ _ _ _ _ ⟨by omega, (by first | with_reducible assumption | exact ⟨by omega, by omega⟩), (by first | with_reducible assumption | exact ⟨by omega, by omega⟩), g2, g3, g4, g5, g6, g1, RXw.ext g7 (fun j _ => ?_), ru⟩
      exact undo_sn (fun q => by omega) (fun q => d3 (by omega)) (fun q => by omega) g8 d2 j
    by_cases c0 : de lt.toInt.toNat = 0
    · have c0₉ := eq_z (y := 0) rfl rfl c0
      have vw : vp_in (wh lt.toInt.toNat) 6 := vpi (x := (wh lt.toInt.toNat).toInt) rfl (by omega) (by omega)
      have wc := hX.ce ((wh lt.toInt.toNat).toInt.toNat) (by omega)
      have rc := CE.at_0 h_ce (n := (wh lt.toInt.toNat).toInt.toNat) rfl (by omega) (by omega)
      have ew : (wh lt.toInt.toNat).toNatClampNeg = (wh lt.toInt.toNat).toInt.toNat := rfl
      refine br1 c0 ⟨vw, ?_⟩
      unfold wp_X6_unmark
      rw [ew]
      refine ⟨vl, vw, vl, fin _ _ _ _ _ _ _ _ (by omega) (CE.up_0 h_ce (n := (wh lt.toInt.toNat).toInt.toNat) rfl (by omega) (by omega) rfl (by omega) (by omega)) (TE.up_0 h_te (n := 0) rfl (by decide) (by decide) rfl (by omega) (by omega)) h_wt h_bu h_co ?_ (fun _ => by omega)⟩
      unfold invD
      rw [if_pos c0₉]
      exact RXw.u_te (RXw.u_ce (RXw.u_dgu hX (by omega) (by omega)) rfl (by omega) rfl) (k := 0) (i := 0) rfl (by decide) rfl
    · have c0₉ := ne_z (y := 0) rfl rfl c0
      refine br0 c0 ?_
      by_cases c1 : de lt.toInt.toNat = 1
      · have c1₉ := eq_z (y := 1) rfl rfl c1
        have vw : vp_in (wh lt.toInt.toNat) 6 := vpi (x := (wh lt.toInt.toNat).toInt) rfl (by omega) (by omega)
        have wc := hX.ce ((wh lt.toInt.toNat).toInt.toNat) (by omega)
        have rc := CE.at_0 h_ce (n := (wh lt.toInt.toNat).toInt.toNat) rfl (by omega) (by omega)
        have ew : (wh lt.toInt.toNat).toNatClampNeg = (wh lt.toInt.toNat).toInt.toNat := rfl
        refine br1 c1 ?_
        rw [ew]
        have vc : vp_in (ce (wh lt.toInt.toNat).toInt.toNat) 40 := vpi (x := (ce (wh lt.toInt.toNat).toInt.toNat).toInt) rfl (by omega) (by omega)
        have ec : (ce (wh lt.toInt.toNat).toInt.toNat).toNatClampNeg = (ce (wh lt.toInt.toNat).toInt.toNat).toInt.toNat := rfl
        rw [ec]
        refine ⟨vw, vl, vc, vl, vw, vl, fin _ _ _ _ _ _ _ _ (by omega) h_ce (TE.up_0 h_te (n := 0) rfl (by decide) (by decide) rfl (by omega) (by omega)) (WA.up_0 h_wt (n := (ce (wh lt.toInt.toNat).toInt.toNat).toInt.toNat) rfl (by omega) (by omega) rfl (by omega) (by omega)) (BU.up_0 h_bu (n := (wh lt.toInt.toNat).toInt.toNat) rfl (by omega) (by omega) rfl (by omega) (by omega)) h_co ?_ (fun _ => by omega)⟩
        unfold invD
        rw [if_neg c0₉, if_pos c1₉]
        exact RXw.u_te (RXw.u_bu (RXw.u_wt hX (by omega) (by omega) rfl) rfl (by omega) rfl) (k := 0) (i := 0) rfl (by decide) rfl
      · have c1₉ := ne_z (y := 1) rfl rfl c1
        refine br0 c1 ?_
        by_cases c2 : de lt.toInt.toNat = 2
        · have c2₉ := eq_z (y := 2) rfl rfl c2
          have w6 := d3 (by omega)
          refine br1 c2 (fin _ _ _ _ _ _ _ _ (by omega) h_ce h_te h_wt h_bu h_co ?_ (fun q => by omega))
          unfold invD
          rw [if_neg c0₉, if_neg c1₉, if_pos c2₉]
          exact RXw.u_huc hX (by omega) (by omega)
        · have c2₉ := ne_z (y := 2) rfl rfl c2
          have vw : vp_in (wh lt.toInt.toNat) 5 := vpi (x := (wh lt.toInt.toNat).toInt) rfl (by omega) (by omega)
          have ew : (wh lt.toInt.toNat).toNatClampNeg = (wh lt.toInt.toNat).toInt.toNat := rfl
          refine br0 c2 ?_
          rw [ew]
          refine ⟨vl, vw, fin _ _ _ _ _ _ _ _ (by omega) h_ce h_te h_wt h_bu (CO.up_0 h_co (n := (wh lt.toInt.toNat).toInt.toNat) rfl (by omega) (by omega) rfl (by omega) (by omega)) ?_ (fun q => by omega)⟩
          unfold invD
          rw [if_neg c0₉, if_neg c1₉, if_neg c2₉]
          exact RXw.u_co hX rfl (by omega) rfl
theorem RMd.tl {un so : Nat → Int32} {s : Int} {v : Nat → Int} {U : UL} (h : RMd un so ((s, v) :: U)) : RMd un so U := h.2.2
theorem LW.ext₉ {f g : Nat → Int32} (h : LW f) (e : ∀ k : Nat, 250 ≤ k → g k = f k) : LW g := by
  intro m hm
  obtain ⟨h1, h2⟩ := h m hm
  rw [e _ (by omega)]
  refine ⟨h1, fun c hc => ?_⟩
  obtain ⟨p3, p4, p5, p6, q3, q4, q5, q6, q7, q8, q9, q10, s1, s2⟩ := h2 c hc
  have eo : (fun i => g (348 + 900 * m + 2 * i)) = (fun i => f (348 + 900 * m + 2 * i)) := funext fun i => e _ (by omega)
  have ea : (fun i => g (348 + 900 * m + 2 * i + 1)) = (fun i => f (348 + 900 * m + 2 * i + 1)) := funext fun i => e _ (by omega)
  refine ⟨p3, p4, p5, p6, ?_, ?_, ?_, ?_, q7, q8, q9, q10, ?_, ?_⟩
  · rw [e _ (by omega)]; exact q3
  · rw [e _ (by omega)]; exact q4
  · rw [e _ (by omega)]; exact q5
  · rw [e _ (by omega)]; exact q6
  · rw [eo, ea]; exact s1
  · rw [eo, ea]; exact s2
theorem RLW.pb {un row : Nat → Int32} {A : Nat} (hr : RLW row) (hu : UN un) : RLW (pbI A 106 un row) := by
  refine ⟨fun j => ?_, hr.2.ext₉ (fun j hj => ?_)⟩
  · unfold pbI
    by_cases c : 7 ≤ j ∧ j < 7 + 106
    · rw [if_pos c]
      have := hu (106 * A + (j - 7))
      rw [show 7 + (106 * A + (j - 7)) % 106 = j by omega] at this
      exact this
    · rw [if_neg c]; exact hr.1 j
  · unfold pbI; rw [if_neg (by omega)]
theorem RML.pb {un row : Nat → Int32} {A : Nat} {ls : Nat → List Cls} (h : RML row ls) : RML (pbI A 106 un row) ls := by
  have e : ∀ j, j < 7 ∨ 113 ≤ j → pbI A 106 un row j = row j := fun j hj => by unfold pbI; rw [if_neg (by omega)]
  refine ⟨by rw [e 6 (by omega), e 5 (by omega)]; exact h.1, fun k hk => ?_⟩
  rw [e 5 (by omega)] at hk
  exact ⟨(h.2 k hk).1.ext (fun j h2 h3 => e j (by omega)), (h.2 k hk).2⟩
theorem s_X12_undoz (h0_nUndo : Int32) (f_undos f_row f_sorts f_refusals : Nat → Int32) {w : Nat → Int} {U : UL} {rf : Nat → Int32} {ls : Nat → List Cls} (hn : 0 ≤ h0_nUndo.toInt ∧ h0_nUndo.toInt ≤ 16) (hu : UN f_undos) (hr : RLW f_row) (hs : SO f_sorts) (hR : RMw f_row w) (hU : RMu f_undos f_sorts h0_nUndo U) (hL : RML f_row ls) (hF : RF f_refusals rf) {Q : Int32 → (Int32 × Int32 × Int32 × (Nat → Int32) × (Nat → Int32)) → Prop} (hq : ∀ (r u_0 u_1 u_2 : Int32) (u_3 u_4 : Nat → Int32), (0 ≤ u_2.toInt ∧ u_2.toInt ≤ 16) ∧ (RLW u_3) ∧ (r.toInt = undoR U) ∧ (RMw u_3 (undoW w U)) ∧ (RMu f_undos f_sorts u_2 (undoU U)) ∧ (RML u_3 ls) ∧ (u_1.toInt = tlS (undoR U)) ∧ (RF u_4 (tlR rf (undoR U))) → Q r (u_0, u_1, u_2, u_3, u_4)) : wp_X12_undo h0_nUndo f_undos f_row f_sorts f_refusals Q := by
  unfold wp_X12_undo
  obtain ⟨e1, e2, e3⟩ := id hU
  cases U with
  | nil =>
    have e1 : h0_nUndo.toInt = 0 := e1
    refine br1 (z_eq (y := 0) e1 rfl rfl) (s_X12_tellz (-3) _ (by decide) hF (fun r u0 u1 h => un2_i (hq _ _ _ _ _ _ ⟨hn, hr, ?_, hR, hU, hL, ?_, ?_⟩)))
    · rw [h.1]; decide
    · have q := h.2.1; rw [h.1] at q; exact q
    · have q := h.2.2; rw [h.1] at q; exact q
  | cons x U =>
    obtain ⟨s, v⟩ := x
    have e1 : h0_nUndo.toInt = ((U.length + 1 : Nat) : Int) := e1
    have e2 : U.length + 1 ≤ 16 := e2
    obtain ⟨d1, d2, d3⟩ := e3
    have k1 := sub1 e1
    refine br0 (z_ne (y := 0) e1 rfl (by omega)) (x_putBack k1 (by omega) ⟨vpi k1 (by omega) (by omega), ?_⟩)
    rw [tnN k1]
    have rs := SO.at_0 hs (n := U.length) rfl (by omega) (by omega)
    refine s_X12_tellz _ _ (by first | with_reducible assumption | exact ⟨by omega, by omega⟩) hF (fun r u0 u1 h => un2_i (hq _ _ _ _ _ _ ⟨(by first | with_reducible assumption | exact ⟨by omega, by omega⟩), hr.pb hu, ?_, fun j hj => ?_, ⟨k1, by show U.length ≤ 16; omega, d3⟩, hL.pb, ?_, ?_⟩))
    · show r.toInt = s; omega
    · show (pbI U.length 106 f_undos f_row j).toInt = (if 7 ≤ j ∧ j < 113 then v j else w j)
      unfold pbI
      by_cases c : 7 ≤ j ∧ j < 113
      · rw [if_pos c, if_pos (by omega), d2 (j - 7) (by omega), show 7 + (j - 7) = j by omega]
      · rw [if_neg c, if_neg (by omega)]; exact hR j hj
    · have q := h.2.1; rw [show r.toInt = s by omega] at q; exact q
    · have q := h.2.2; rw [show r.toInt = s by omega] at q; exact q
end
section
/-! ORDERS, in plain numbers -/
def vI (x : Int64) : Int := x.toInt32.toInt
/-- what the words of ORDERS stand for -/
def ovW (w : Nat → Int) (dn lt : Int) (o a : Nat) : Int64 :=
  if o = 1 then Int64.ofInt (w 7) else if o = 2 then Int64.ofInt dn else if o = 3 then Int64.ofInt lt
  else if o = 4 then (if (a : Int) < w 0 then Int64.ofInt (w (10 + a)) else -1)
  else if o = 6 then (if (a : Int) < w 1 then Int64.ofInt (w (28 + a)) else -1)
  else (if (a : Int) < w 0 then Int64.ofInt (w (16 + a)) else -1)
set_option maxHeartbeats 1000000 in
theorem x_evO {cell shaft kind dn lt ls cc : Int32} {col hard water term cel buk : Nat → Int32} {w : Nat → Int} (h7 : RkW term 7 3 w) (hcc : RsW cc 0 w) (hls : RsW ls 1 w) (hcol : RkW col 28 5 w) (hcel : RkW cel 10 6 w) (hbuk : RkW buk 16 6 w) (h6 : cc.toInt ≤ 6) (h5 : ls.toInt ≤ 5) : EvX true (ovW w dn.toInt lt.toInt) cell shaft kind dn lt ls col hard water term cc cel buk := by
  have hcc : cc.toInt = w 0 := hcc
  have hls : ls.toInt = w 1 := hls
  intro o b O B Q ho hb h13 h64 hop hq
  have hO : O = 13 ∨ O = 36 ∨ O = 45 ∨ O = 46 ∨ O = 47 ∨ O = 48 := by
    have T : ∀ n : Nat, n < 64 → (13 ≤ n ∧ ¬ opm true (n : Int) = 0) → (n = 13 ∨ n = 36 ∨ n = 45 ∨ n = 46 ∨ n = 47 ∨ n = 48) := by decide
    exact T O h64 ⟨h13, hop⟩
  have hy : (o - 20).toInt = (O : Int) - 20 := sub_z ho (b := 20) (y := 20) rfl (by omega) (by omega)
  unfold wp_X0_wordValue
  refine jn_s ?_
  have n13 : ¬ O = 13 → ¬ o = 13 := fun q => z_ne (y := 13) ho rfl (by omega)
  rcases hO with rfl | rfl | rfl | rfl | rfl | rfl
  · have e13 : o = 13 := z_eq (y := 13) ho rfl (by decide)
    have eo : opm true ((13 : Nat) : Int) = 6 := by decide
    rw [eo] at hq
    refine br1 e13 (br1 rfl ?_)
    by_cases c : ls ≤ b
    · have c₉ := le_z rfl hb c
      refine br1 c (hq _ ?_)
      show _ = ovW w dn.toInt lt.toInt 6 B
      unfold ovW
      rw [if_neg (by decide), if_neg (by decide), if_neg (by decide), if_neg (by decide), if_pos rfl, if_neg (by omega)]
      decide
    · have c₉ := nle_z rfl hb c
      refine br0 c ⟨vpi hb (by omega) (by omega), hq _ ?_⟩
      rw [tnN hb]
      show _ = ovW w dn.toInt lt.toInt 6 B
      unfold ovW
      rw [if_neg (by decide), if_neg (by decide), if_neg (by decide), if_neg (by decide), if_pos rfl, if_pos (by omega), ← hcol B (by omega)]
      exact (Int64.ofInt_int32ToInt _).symm
  · have ey : o - 20 = 16 := z_eq (y := 16) hy rfl (by decide)
    have eo : opm true ((36 : Nat) : Int) = 1 := by decide
    rw [eo] at hq
    rw [ey]
    refine br0 (n13 (by decide)) (br0 (by decide) (br0 (by decide) (br0 (by decide) (br0 (by decide) (br0 (by decide) (br0 (by decide) (br0 (by decide) (br0 (by decide) (br0 (by decide) (br0 (by decide) (br0 (by decide) (br0 (by decide) (br0 (by decide) (br0 (by decide) (br0 (by decide) (br0 (by decide) (br0 (by decide) (br1 rfl ?_))))))))))))))))))
    refine hq _ ?_
    show _ = ovW w dn.toInt lt.toInt 1 B
    unfold ovW
    rw [if_pos rfl, ← h7 0 (by decide)]
    exact (Int64.ofInt_int32ToInt _).symm
  · have ey : o - 20 = 25 := z_eq (y := 25) hy rfl (by decide)
    have eo : opm true ((45 : Nat) : Int) = 2 := by decide
    rw [eo] at hq
    rw [ey]
    refine br0 (n13 (by decide)) (br0 (by decide) (br0 (by decide) (br0 (by decide) (br0 (by decide) (br0 (by decide) (br0 (by decide) (br0 (by decide) (br0 (by decide) (br0 (by decide) (br0 (by decide) (br0 (by decide) (br0 (by decide) (br0 (by decide) (br0 (by decide) (br0 (by decide) (br0 (by decide) (br0 (by decide) (br0 (by decide) (br0 (by decide) (br0 (by decide) (br0 (by decide) (br0 (by decide) (br0 (by decide) (br0 (by decide) (br0 (by decide) (br0 (by decide) (br1 rfl ?_)))))))))))))))))))))))))))
    refine hq _ ?_
    show _ = ovW w dn.toInt lt.toInt 2 B
    unfold ovW
    rw [if_neg (by decide), if_pos rfl]
    exact (Int64.ofInt_int32ToInt _).symm
  · have ey : o - 20 = 26 := z_eq (y := 26) hy rfl (by decide)
    have eo : opm true ((46 : Nat) : Int) = 3 := by decide
    rw [eo] at hq
    rw [ey]
    refine br0 (n13 (by decide)) (br0 (by decide) (br0 (by decide) (br0 (by decide) (br0 (by decide) (br0 (by decide) (br0 (by decide) (br0 (by decide) (br0 (by decide) (br0 (by decide) (br0 (by decide) (br0 (by decide) (br0 (by decide) (br0 (by decide) (br0 (by decide) (br0 (by decide) (br0 (by decide) (br0 (by decide) (br0 (by decide) (br0 (by decide) (br0 (by decide) (br0 (by decide) (br0 (by decide) (br0 (by decide) (br0 (by decide) (br0 (by decide) (br0 (by decide) (br0 (by decide) (br1 rfl ?_))))))))))))))))))))))))))))
    refine hq _ ?_
    show _ = ovW w dn.toInt lt.toInt 3 B
    unfold ovW
    rw [if_neg (by decide), if_neg (by decide), if_pos rfl]
    exact (Int64.ofInt_int32ToInt _).symm
  · have ey : o - 20 = 27 := z_eq (y := 27) hy rfl (by decide)
    have eo : opm true ((47 : Nat) : Int) = 4 := by decide
    rw [eo] at hq
    rw [ey]
    refine br0 (n13 (by decide)) (br0 (by decide) (br0 (by decide) (br0 (by decide) (br0 (by decide) (br0 (by decide) (br0 (by decide) (br0 (by decide) (br0 (by decide) (br0 (by decide) (br0 (by decide) (br0 (by decide) (br0 (by decide) (br0 (by decide) (br0 (by decide) (br0 (by decide) (br0 (by decide) (br0 (by decide) (br0 (by decide) (br0 (by decide) (br0 (by decide) (br0 (by decide) (br0 (by decide) (br0 (by decide) (br0 (by decide) (br0 (by decide) (br0 (by decide) (br0 (by decide) (br0 (by decide) (br1 rfl ?_)))))))))))))))))))))))))))))
    by_cases c : cc ≤ b
    · have c₉ := le_z rfl hb c
      refine br1 c (hq _ ?_)
      show _ = ovW w dn.toInt lt.toInt 4 B
      unfold ovW
      rw [if_neg (by decide), if_neg (by decide), if_neg (by decide), if_pos rfl, if_neg (by omega)]
      decide
    · have c₉ := nle_z rfl hb c
      refine br0 c ⟨vpi hb (by omega) (by omega), hq _ ?_⟩
      rw [tnN hb]
      show _ = ovW w dn.toInt lt.toInt 4 B
      unfold ovW
      rw [if_neg (by decide), if_neg (by decide), if_neg (by decide), if_pos rfl, if_pos (by omega), ← hcel B (by omega)]
      exact (Int64.ofInt_int32ToInt _).symm
  · have ey : o - 20 = 28 := z_eq (y := 28) hy rfl (by decide)
    have eo : opm true ((48 : Nat) : Int) = 5 := by decide
    rw [eo] at hq
    rw [ey]
    refine br0 (n13 (by decide)) (br0 (by decide) (br0 (by decide) (br0 (by decide) (br0 (by decide) (br0 (by decide) (br0 (by decide) (br0 (by decide) (br0 (by decide) (br0 (by decide) (br0 (by decide) (br0 (by decide) (br0 (by decide) (br0 (by decide) (br0 (by decide) (br0 (by decide) (br0 (by decide) (br0 (by decide) (br0 (by decide) (br0 (by decide) (br0 (by decide) (br0 (by decide) (br0 (by decide) (br0 (by decide) (br0 (by decide) (br0 (by decide) (br0 (by decide) (br0 (by decide) (br0 (by decide) (br0 (by decide) (br1 rfl ?_))))))))))))))))))))))))))))))
    by_cases c : cc ≤ b
    · have c₉ := le_z rfl hb c
      refine br1 c (hq _ ?_)
      show _ = ovW w dn.toInt lt.toInt 5 B
      unfold ovW
      rw [if_neg (by decide), if_neg (by decide), if_neg (by decide), if_neg (by decide), if_neg (by decide), if_neg (by omega)]
      decide
    · have c₉ := nle_z rfl hb c
      refine br0 c ⟨vpi hb (by omega) (by omega), hq _ ?_⟩
      rw [tnN hb]
      show _ = ovW w dn.toInt lt.toInt 5 B
      unfold ovW
      rw [if_neg (by decide), if_neg (by decide), if_neg (by decide), if_neg (by decide), if_neg (by decide), if_pos (by omega), ← hbuk B (by omega)]
      exact (Int64.ofInt_int32ToInt _).symm
theorem RXw.evO {kd hd wt : Nat → Int32} {dg : Int64} {ce bu : Nat → Int32} {cc : Int32} {co ea : Nat → Int32} {ls : Int32} {nc nl : Nat → Int32} {ns hu : Int32} {hc hl : Nat → Int32} {hs : Int32} {so we : Nat → Int32} {wl : Int32} {te : Nat → Int32} {lc fo : Int32} {w : Nat → Int} (h : RXw kd hd wt dg ce bu cc co ea ls nc nl ns hu hc hl hs so we wl te lc fo w) {cell shaft kind dn lt : Int32} {hard water : Nat → Int32} (h6 : cc.toInt ≤ 6) (h5 : ls.toInt ≤ 5) : EvX true (ovW w dn.toInt lt.toInt) cell shaft kind dn lt ls co hard water te cc ce bu := x_evO h.te h.cc h.ls h.co h.ce h.bu h6 h5
/-- the answer of an ORDER₉s deed; -3 where a SUM is BROKEN -/
def rnR (F : Option (List Cls)) (w : Nat → Int) (cl : Cls) (v : Nat → Nat → Int64) : Int :=
  match cl.2.1.bind (fun s => s v) with
  | none => -3
  | some x => if cl.1 = 2 then hushR w (vI x) else if cl.1 = 1 then haulR F w (vI x) else
    match cl.2.2.1.bind (fun s => s v) with
    | none => -3
    | some y => if cl.1 = 3 then lieR w (vI x) (vI y) else digR F w (vI x) (vI y)
def rnW (F : Option (List Cls)) (w : Nat → Int) (cl : Cls) (v : Nat → Nat → Int64) : Nat → Int :=
  match cl.2.1.bind (fun s => s v) with
  | none => w
  | some x => if cl.1 = 2 then hushW w (vI x) else if cl.1 = 1 then haulW F w (vI x) else
    match cl.2.2.1.bind (fun s => s v) with
    | none => w
    | some y => if cl.1 = 3 then lieW w (vI x) (vI y) else digW F w (vI x) (vI y)
theorem rnR_0 {F : Option (List Cls)} {w : Nat → Int} {cl : Cls} {v : Nat → Nat → Int64} (h : cl.2.1.bind (fun s => s v) = none) : rnR F w cl v = -3 := by unfold rnR; rw [h]
theorem rnR_hush {F : Option (List Cls)} {w : Nat → Int} {cl : Cls} {v : Nat → Nat → Int64} {x : Int64} (h : cl.2.1.bind (fun s => s v) = some x) (c : cl.1 = 2) : rnR F w cl v = hushR w (vI x) := by unfold rnR; rw [h]; exact if_pos c
theorem rnR_haul {F : Option (List Cls)} {w : Nat → Int} {cl : Cls} {v : Nat → Nat → Int64} {x : Int64} (h : cl.2.1.bind (fun s => s v) = some x) (c : cl.1 = 1) : rnR F w cl v = haulR F w (vI x) := by unfold rnR; rw [h]; show (if cl.1 = 2 then _ else if cl.1 = 1 then _ else _) = _; rw [if_neg (by omega), if_pos c]
theorem rnR_1 {F : Option (List Cls)} {w : Nat → Int} {cl : Cls} {v : Nat → Nat → Int64} {x : Int64} (h : cl.2.1.bind (fun s => s v) = some x) (h2 : cl.2.2.1.bind (fun s => s v) = none) (c : ¬ cl.1 = 2 ∧ ¬ cl.1 = 1) : rnR F w cl v = -3 := by unfold rnR; rw [h, h2]; show (if cl.1 = 2 then _ else if cl.1 = 1 then _ else _) = _; rw [if_neg c.1, if_neg c.2]
theorem rnR_lie {F : Option (List Cls)} {w : Nat → Int} {cl : Cls} {v : Nat → Nat → Int64} {x y : Int64} (h : cl.2.1.bind (fun s => s v) = some x) (h2 : cl.2.2.1.bind (fun s => s v) = some y) (c : cl.1 = 3) : rnR F w cl v = lieR w (vI x) (vI y) := by unfold rnR; rw [h, h2]; show (if cl.1 = 2 then _ else if cl.1 = 1 then _ else (if cl.1 = 3 then _ else _)) = _; rw [if_neg (by omega), if_neg (by omega), if_pos c]
theorem rnR_dg {F : Option (List Cls)} {w : Nat → Int} {cl : Cls} {v : Nat → Nat → Int64} {x y : Int64} (h : cl.2.1.bind (fun s => s v) = some x) (h2 : cl.2.2.1.bind (fun s => s v) = some y) (c : ¬ cl.1 = 2 ∧ ¬ cl.1 = 1 ∧ ¬ cl.1 = 3) : rnR F w cl v = digR F w (vI x) (vI y) := by unfold rnR; rw [h, h2]; show (if cl.1 = 2 then _ else if cl.1 = 1 then _ else (if cl.1 = 3 then _ else _)) = _; rw [if_neg c.1, if_neg c.2.1, if_neg c.2.2]
theorem rnR_dig {F : Option (List Cls)} {w : Nat → Int} {cl : Cls} {v : Nat → Nat → Int64} {x y : Int64} (h : cl.2.1.bind (fun s => s v) = some x) (h2 : cl.2.2.1.bind (fun s => s v) = some y) (c : cl.1 = 0) : rnR F w cl v = digR F w (vI x) (vI y) := rnR_dg h h2 ⟨by omega, by omega, by omega⟩
theorem rnW_0 {F : Option (List Cls)} {w : Nat → Int} {cl : Cls} {v : Nat → Nat → Int64} (h : cl.2.1.bind (fun s => s v) = none) : rnW F w cl v = w := by unfold rnW; rw [h]
theorem rnW_hush {F : Option (List Cls)} {w : Nat → Int} {cl : Cls} {v : Nat → Nat → Int64} {x : Int64} (h : cl.2.1.bind (fun s => s v) = some x) (c : cl.1 = 2) : rnW F w cl v = hushW w (vI x) := by unfold rnW; rw [h]; exact if_pos c
theorem rnW_haul {F : Option (List Cls)} {w : Nat → Int} {cl : Cls} {v : Nat → Nat → Int64} {x : Int64} (h : cl.2.1.bind (fun s => s v) = some x) (c : cl.1 = 1) : rnW F w cl v = haulW F w (vI x) := by unfold rnW; rw [h]; show (if cl.1 = 2 then _ else if cl.1 = 1 then _ else _) = _; rw [if_neg (by omega), if_pos c]
theorem rnW_1 {F : Option (List Cls)} {w : Nat → Int} {cl : Cls} {v : Nat → Nat → Int64} {x : Int64} (h : cl.2.1.bind (fun s => s v) = some x) (h2 : cl.2.2.1.bind (fun s => s v) = none) (c : ¬ cl.1 = 2 ∧ ¬ cl.1 = 1) : rnW F w cl v = w := by unfold rnW; rw [h, h2]; show (if cl.1 = 2 then _ else if cl.1 = 1 then _ else _) = _; rw [if_neg c.1, if_neg c.2]
theorem rnW_lie {F : Option (List Cls)} {w : Nat → Int} {cl : Cls} {v : Nat → Nat → Int64} {x y : Int64} (h : cl.2.1.bind (fun s => s v) = some x) (h2 : cl.2.2.1.bind (fun s => s v) = some y) (c : cl.1 = 3) : rnW F w cl v = lieW w (vI x) (vI y) := by unfold rnW; rw [h, h2]; show (if cl.1 = 2 then _ else if cl.1 = 1 then _ else (if cl.1 = 3 then _ else _)) = _; rw [if_neg (by omega), if_neg (by omega), if_pos c]
theorem rnW_dg {F : Option (List Cls)} {w : Nat → Int} {cl : Cls} {v : Nat → Nat → Int64} {x y : Int64} (h : cl.2.1.bind (fun s => s v) = some x) (h2 : cl.2.2.1.bind (fun s => s v) = some y) (c : ¬ cl.1 = 2 ∧ ¬ cl.1 = 1 ∧ ¬ cl.1 = 3) : rnW F w cl v = digW F w (vI x) (vI y) := by unfold rnW; rw [h, h2]; show (if cl.1 = 2 then _ else if cl.1 = 1 then _ else (if cl.1 = 3 then _ else _)) = _; rw [if_neg c.1, if_neg c.2.1, if_neg c.2.2]
theorem rnW_dig {F : Option (List Cls)} {w : Nat → Int} {cl : Cls} {v : Nat → Nat → Int64} {x y : Int64} (h : cl.2.1.bind (fun s => s v) = some x) (h2 : cl.2.2.1.bind (fun s => s v) = some y) (c : cl.1 = 0) : rnW F w cl v = digW F w (vI x) (vI y) := rnW_dg h h2 ⟨by omega, by omega, by omega⟩
theorem rnW_n {F : Option (List Cls)} {w : Nat → Int} {cl : Cls} {v : Nat → Nat → Int64} (h : rnR F w cl v < 0) : rnW F w cl v = w := by
  cases b1 : cl.2.1.bind (fun s => s v) with
  | none => exact rnW_0 b1
  | some x =>
    by_cases c2 : cl.1 = 2
    · rw [rnR_hush b1 c2] at h; rw [rnW_hush b1 c2]; exact if_pos h
    · by_cases c1 : cl.1 = 1
      · rw [rnR_haul b1 c1] at h; rw [rnW_haul b1 c1]; exact if_pos h
      · cases b2 : cl.2.2.1.bind (fun s => s v) with
        | none => exact rnW_1 b1 b2 ⟨c2, c1⟩
        | some y =>
          by_cases c3 : cl.1 = 3
          · rw [rnR_lie b1 b2 c3] at h; rw [rnW_lie b1 b2 c3]; exact if_pos h
          · rw [rnR_dg b1 b2 ⟨c2, c1, c3⟩] at h; rw [rnW_dg b1 b2 ⟨c2, c1, c3⟩]; exact if_pos h
/-- whether its "if" holds -/
def rnG (t : Option Sem) (v : Nat → Nat → Int64) : Bool := match t with | none => true | some t => decide (t v = some 1)
theorem rnG_s {t : Sem} {v : Nat → Nat → Int64} : rnG (some t) v = true ↔ t v = some 1 := by unfold rnG; exact decide_eq_true_iff
/-- the state while ORDERS are run: the numbers, what can be undone, DONE, the latest answer -/
abbrev OSt : Type := (Nat → Int) × UL × Int × Int
def rn1 (ls : Nat → List Cls) (cl : Cls) (s : OSt) : Option OSt :=
  if rnG cl.2.2.2.2 (ovW s.1 s.2.2.1 s.2.2.2) = true then
    (if rnR (lawW s.1 ls) s.1 cl (ovW s.1 s.2.2.1 s.2.2.2) < 0 then none
     else some (rnW (lawW s.1 ls) s.1 cl (ovW s.1 s.2.2.1 s.2.2.2), rmb (cl.1 : Int) s.1 s.2.1, s.2.2.1 + 1, if cl.1 < 2 then rnR (lawW s.1 ls) s.1 cl (ovW s.1 s.2.2.1 s.2.2.2) else s.2.2.2))
  else some s
def rnT (ls : Nat → List Cls) (cl : Cls) : Nat → OSt → Option OSt
  | 0, s => some s
  | n + 1, s => (rn1 ls cl s).bind (rnT ls cl n)
/-- all CLAUSES: the state behind them, or which can₉t be -/
def ordF (ls : Nat → List Cls) : Nat → List Cls → OSt → Option OSt × Int
  | _, [], s => (some s, -1)
  | k, cl :: r, s => match rnT ls cl cl.2.2.2.1 s with | none => (none, (k : Int)) | some s₉ => ordF ls (k + 1) r s₉
theorem ordF_f {ls : Nat → List Cls} {k : Nat} {cl : Cls} {r : List Cls} {s : OSt} (h : rnT ls cl cl.2.2.2.1 s = none) : ordF ls k (cl :: r) s = (none, (k : Int)) := by
  show (match rnT ls cl cl.2.2.2.1 s with | none => (none, (k : Int)) | some s₉ => ordF ls (k + 1) r s₉) = _
  rw [h]
theorem ordF_c {ls : Nat → List Cls} {k : Nat} {cl : Cls} {r : List Cls} {s s₉ : OSt} (h : rnT ls cl cl.2.2.2.1 s = some s₉) : ordF ls k (cl :: r) s = ordF ls (k + 1) r s₉ := by
  show (match rnT ls cl cl.2.2.2.1 s with | none => (none, (k : Int)) | some s₉ => ordF ls (k + 1) r s₉) = _
  rw [h]
theorem ordF_b {ls : Nat → List Cls} : ∀ (r : List Cls) (k : Nat) (s : OSt), ((ordF ls k r s).2 = -1 ∧ ∃ s₉, (ordF ls k r s).1 = some s₉) ∨ (0 ≤ (ordF ls k r s).2 ∧ (ordF ls k r s).1 = none) := by
  intro r
  induction r with
  | nil => intro k s; exact Or.inl ⟨rfl, s, rfl⟩
  | cons cl r ih =>
    intro k s
    cases h : rnT ls cl cl.2.2.2.1 s with
    | none => rw [ordF_f h]; exact Or.inr ⟨by show (0 : Int) ≤ (k : Int); omega, rfl⟩
    | some s₉ => rw [ordF_c h]; exact ih (k + 1) s₉
theorem rn1_s {ls : Nat → List Cls} {cl : Cls} {s : OSt} (h : ¬ rnG cl.2.2.2.2 (ovW s.1 s.2.2.1 s.2.2.2) = true) : rn1 ls cl s = some s := by unfold rn1; exact if_neg h
theorem rn1_f {ls : Nat → List Cls} {cl : Cls} {s : OSt} (h : rnG cl.2.2.2.2 (ovW s.1 s.2.2.1 s.2.2.2) = true) (h2 : rnR (lawW s.1 ls) s.1 cl (ovW s.1 s.2.2.1 s.2.2.2) < 0) : rn1 ls cl s = none := by unfold rn1; rw [if_pos h, if_pos h2]
theorem rn1_g {ls : Nat → List Cls} {cl : Cls} {s : OSt} (h : rnG cl.2.2.2.2 (ovW s.1 s.2.2.1 s.2.2.2) = true) (h2 : 0 ≤ rnR (lawW s.1 ls) s.1 cl (ovW s.1 s.2.2.1 s.2.2.2)) : rn1 ls cl s = some (rnW (lawW s.1 ls) s.1 cl (ovW s.1 s.2.2.1 s.2.2.2), rmb (cl.1 : Int) s.1 s.2.1, s.2.2.1 + 1, if cl.1 < 2 then rnR (lawW s.1 ls) s.1 cl (ovW s.1 s.2.2.1 s.2.2.2) else s.2.2.2) := by unfold rn1; rw [if_pos h, if_neg (by omega)]
theorem rnT_f {ls : Nat → List Cls} {cl : Cls} {s : OSt} {n m : Nat} (h : rn1 ls cl s = none) (hn : n = m + 1) : rnT ls cl n s = none := by subst hn; show (rn1 ls cl s).bind _ = _; rw [h]; rfl
theorem rnT_c {ls : Nat → List Cls} {cl : Cls} {s s₉ : OSt} {n m : Nat} (h : rn1 ls cl s = some s₉) (hn : n = m + 1) : rnT ls cl n s = rnT ls cl m s₉ := by subst hn; show (rn1 ls cl s).bind _ = _; rw [h]; rfl
theorem rmU_p {r k : Int} {w : Nat → Int} {U : UL} (h : 0 ≤ r) : rmU r k w U = rmb k w U := by unfold rmU; exact if_neg (by omega)
theorem rmU_n {r k : Int} {w : Nat → Int} {U : UL} (h : r < 0) : rmU r k w U = U := by unfold rmU; exact if_pos h
/-- ORDERS as they can be read -/
def okO (cl : Cls) : Prop := cl.1 ≤ 3 ∧ (∃ s, cl.2.1 = some s) ∧ (cl.1 = 0 ∨ cl.1 = 3 → ∃ s, cl.2.2.1 = some s) ∧ (cl.1 = 1 ∨ cl.1 = 2 → cl.2.2.1 = none) ∧ (1 ≤ cl.2.2.2.1 ∧ cl.2.2.2.1 ≤ 20) ∧ ∀ t, cl.2.2.2.2 = some t → tsT t
theorem rd_tms_ok {T : Nat → Int} {h i l : Nat} {s t : Option Sem} (z : (rd_tms T h s t i l).1 = true) : (rd_tms T h s t i l).2.2.2.1 = h ∧ (rd_tms T h s t i l).2.2.2.2.1 = s ∧ (rd_tms T h s t i l).2.2.2.2.2.1 = t ∧ (1 ≤ (rd_tms T h s t i l).2.2.2.2.2.2.1 ∧ (rd_tms T h s t i l).2.2.2.2.2.2.1 ≤ 20) ∧ ∀ q, (rd_tms T h s t i l).2.2.2.2.2.2.2 = some q → tsT q := by
  unfold rd_tms at z ⊢
  by_cases c : T i = 24
  · rw [if_pos c] at z ⊢
    by_cases c2 : 1 ≤ T (i + 1) - 1000 ∧ T (i + 1) - 1000 ≤ 20
    · rw [if_pos c2] at z ⊢
      obtain ⟨a1, a2, a3, a4⟩ := rd_if_c z
      exact ⟨a1, a2, a3, by rw [a4]; omega, rd_if_ok z⟩
    · rw [if_neg c2] at z; exact absurd z (by show ¬ false = true; decide)
  · rw [if_neg c] at z ⊢
    obtain ⟨a1, a2, a3, a4⟩ := rd_if_c z
    exact ⟨a1, a2, a3, by rw [a4]; omega, rd_if_ok z⟩
theorem rd_act_b {t : Int} : rd_act t ≤ 4 := by unfold rd_act; (repeat' split) <;> omega
theorem rd_order_ok {T : Nat → Int} {i l : Nat} (z : (rd_order T i l).1 = true) : okO (rd_order T i l).2.2.2 := by
  have hb := rd_act_b (t := T i)
  unfold rd_order at z ⊢
  by_cases c0 : rd_act (T i) = 0
  · rw [if_pos c0] at z; exact absurd z (by show ¬ false = true; decide)
  · rw [if_neg c0] at z ⊢
    by_cases c1 : (rd_sumL T true 8 (i + 1) l).1 = true
    · rw [if_pos c1] at z ⊢
      by_cases c2 : rd_act (T i) = 1 ∨ rd_act (T i) = 4
      · rw [if_pos c2] at z ⊢
        by_cases c3 : T (rd_sumL T true 8 (i + 1) l).2.1 = (if rd_act (T i) = 1 then 19 else 23)
        · rw [if_pos c3] at z ⊢
          by_cases c4 : (rd_sumL T true 8 ((rd_sumL T true 8 (i + 1) l).2.1 + 1) (rd_sumL T true 8 (i + 1) l).2.2.1).1 = true
          · rw [if_pos c4] at z ⊢
            obtain ⟨a1, a2, a3, a4, a5⟩ := rd_tms_ok z
            exact ⟨by omega, ⟨_, a2⟩, fun _ => ⟨_, a3⟩, fun q => by omega, a4, a5⟩
          · rw [if_neg c4] at z; exact absurd z (by show ¬ false = true; decide)
        · rw [if_neg c3] at z; exact absurd z (by show ¬ false = true; decide)
      · rw [if_neg c2] at z ⊢
        obtain ⟨a1, a2, a3, a4, a5⟩ := rd_tms_ok z
        exact ⟨by omega, ⟨_, a2⟩, fun q => by omega, fun _ => a3, a4, a5⟩
    · rw [if_neg c1] at z; exact absurd z (by show ¬ false = true; decide)
theorem rd_ord_ok {T : Nat → Int} : ∀ c ∈ (rd_ord T).2.2, okO c := rd_txt_ok (fun i l h => rd_order_ok h) 12 0 0 [] (fun c hc => by cases hc)
/-! the class reads its own heads, reckons its own code -/
theorem vbT {h : Nat} (h3 : h ≤ 3) : (vbX true h = 18 ↔ h = 0) ∧ (vbX true h = 20 ↔ h = 1) ∧ (vbX true h = 21 ↔ h = 2) ∧ (vbX true h = 22 ↔ h = 3) ∧ 18 ≤ vbX true h ∧ vbX true h ≤ 22 := by
  have T : ∀ n : Nat, n ≤ 3 → ((vbX true n = 18 ↔ n = 0) ∧ (vbX true n = 20 ↔ n = 1) ∧ (vbX true n = 21 ↔ n = 2) ∧ (vbX true n = 22 ↔ n = 3) ∧ 18 ≤ vbX true n ∧ vbX true n ≤ 22) := by decide
  exact T h h3
theorem z_hd0 {a : Int32} {nh c : Nat} {fh code : Nat → Int32} {cl : Cls} (hX : XC true fh code c a.toInt.toNat cl) (h0 : 0 ≤ a.toInt) (hn : 5 * a.toInt.toNat + 5 ≤ nh) (h6 : nh ≤ 60) {Q : Int32 → Prop} (hq : ∀ r : Int32, r.toInt = vbX true cl.1 → Q r) : wp_X8_headOf a 0 nh fh Q := x_headOf (A := a.toInt.toNat) (B := 0) (by omega) rfl (by omega) h6 (hq _ hX.1)
theorem z_hd1 {a : Int32} {nh c : Nat} {fh code : Nat → Int32} {cl : Cls} (hX : XC true fh code c a.toInt.toNat cl) (h0 : 0 ≤ a.toInt) (hn : 5 * a.toInt.toNat + 5 ≤ nh) (h6 : nh ≤ 60) {Q : Int32 → Prop} (hq : ∀ r : Int32, sgX true code c r cl.2.1 → Q r) : wp_X8_headOf a 1 nh fh Q := x_headOf (A := a.toInt.toNat) (B := 1) (by omega) rfl (by omega) h6 (hq _ hX.2.1)
theorem z_hd2 {a : Int32} {nh c : Nat} {fh code : Nat → Int32} {cl : Cls} (hX : XC true fh code c a.toInt.toNat cl) (h0 : 0 ≤ a.toInt) (hn : 5 * a.toInt.toNat + 5 ≤ nh) (h6 : nh ≤ 60) {Q : Int32 → Prop} (hq : ∀ r : Int32, sgX true code c r cl.2.2.1 → Q r) : wp_X8_headOf a 2 nh fh Q := x_headOf (A := a.toInt.toNat) (B := 2) (by omega) rfl (by omega) h6 (hq _ hX.2.2.1)
theorem z_hd3 {a : Int32} {nh c : Nat} {fh code : Nat → Int32} {cl : Cls} (hX : XC true fh code c a.toInt.toNat cl) (h0 : 0 ≤ a.toInt) (hn : 5 * a.toInt.toNat + 5 ≤ nh) (h6 : nh ≤ 60) {Q : Int32 → Prop} (hq : ∀ r : Int32, sgX true code c r cl.2.2.2.2 → Q r) : wp_X8_headOf a 3 nh fh Q := x_headOf (A := a.toInt.toNat) (B := 3) (by omega) rfl (by omega) h6 (hq _ hX.2.2.2.1)
theorem z_hd4 {a : Int32} {nh c : Nat} {fh code : Nat → Int32} {cl : Cls} (hX : XC true fh code c a.toInt.toNat cl) (h0 : 0 ≤ a.toInt) (hn : 5 * a.toInt.toNat + 5 ≤ nh) (h6 : nh ≤ 60) {Q : Int32 → Prop} (hq : ∀ r : Int32, r.toInt = (cl.2.2.2.1 : Int) → Q r) : wp_X8_headOf a 4 nh fh Q := x_headOf (A := a.toInt.toNat) (B := 4) (by omega) rfl (by omega) h6 (hq _ hX.2.2.2.2)
theorem z_rsum {ord : Bool} {v : Nat → Nat → Int64} {b cell shaft kind dn lt val len ls cc : Int32} {nc c : Nat} {code col hard water term cel buk : Nat → Int32} {stk : Nat → Int64} {s : Sem} (hv : EvX ord v cell shaft kind dn lt ls col hard water term cc cel buk) (hl : len.toInt = (c : Int)) (h4 : c ≤ 400) (hnc : c ≤ nc) (hs : sgX ord code c b (some s)) {Q : Int32 → (Int32 × (Nat → Int64)) → Prop} (hq : ∀ (r val₉ : Int32) (stk₉ : Nat → Int64), ((r.toInt = 1 ∧ ∃ x, s v = some x ∧ val₉.toInt = vI x) ∨ (r.toInt = 0 ∧ s v = none)) → Q r (val₉, stk₉)) : wp_X0_reckon b cell shaft kind dn lt val len nc code stk ls col hard water term cc cel buk Q := by
  obtain ⟨q, e, k, h1, h2, h3, h5, h6, h7⟩ := hs
  exact x_reckon hv hl hnc h4 h5 h1 h2 h3 h6 h7 (fun x hx stk₉ => hq 1 _ stk₉ (Or.inl ⟨rfl, x, hx, rfl⟩)) (fun hn stk₉ => hq 0 _ stk₉ (Or.inr ⟨rfl, hn⟩))
theorem vI_01 {x : Int64} (h : x = 0 ∨ x = 1) : (vI x = 1 ∧ x = 1) ∨ (vI x = 0 ∧ x = 0) := by
  rcases h with h | h
  · rw [h]; exact Or.inr ⟨by decide, rfl⟩
  · rw [h]; exact Or.inl ⟨by decide, rfl⟩
theorem z_rtst {ord : Bool} {v : Nat → Nat → Int64} {b cell shaft kind dn lt val len ls cc : Int32} {nc c : Nat} {code col hard water term cel buk : Nat → Int32} {stk : Nat → Int64} {t : Option Sem} (hv : EvX ord v cell shaft kind dn lt ls col hard water term cc cel buk) (hl : len.toInt = (c : Int)) (h4 : c ≤ 400) (hnc : c ≤ nc) (hs : sgX ord code c b t) (hb : ¬ b.toInt = -1) (hT : ∀ q, t = some q → tsT q) {Q : Int32 → (Int32 × (Nat → Int64)) → Prop} (hq : ∀ (r val₉ : Int32) (stk₉ : Nat → Int64), ((r.toInt = 1 ∧ val₉.toInt = 1 ∧ rnG t v = true) ∨ (r.toInt = 1 ∧ val₉.toInt = 0 ∧ ¬ rnG t v = true) ∨ (r.toInt = 0 ∧ ¬ rnG t v = true)) → Q r (val₉, stk₉)) : wp_X0_reckon b cell shaft kind dn lt val len nc code stk ls col hard water term cc cel buk Q := by
  cases t with
  | none => exact absurd (by rw [show b = -1 from hs]; decide) hb
  | some t =>
    refine z_rsum hv hl h4 hnc hs (fun r val₉ stk₉ h => hq r val₉ stk₉ ?_)
    rcases h with ⟨h1, x, hx, h2⟩ | ⟨h1, hn⟩
    · rcases vI_01 (hT t rfl v x hx) with ⟨a, b⟩ | ⟨a, b⟩
      · exact Or.inl ⟨h1, by omega, rnG_s.mpr (by rw [hx, b])⟩
      · exact Or.inr (Or.inl ⟨h1, by omega, fun g => by have := rnG_s.mp g; rw [hx, b] at this; injection this with this; exact absurd this (by decide)⟩)
    · exact Or.inr (Or.inr ⟨h1, fun g => by have := rnG_s.mp g; rw [hn] at this; cases this⟩)
theorem z_tst0 {ord : Bool} {b : Int32} {c : Nat} {code : Nat → Int32} {t : Option Sem} {v : Nat → Nat → Int64} (hs : sgX ord code c b t) (hb : b.toInt = -1) : rnG t v = true := by
  cases t with
  | none => rfl
  | some t =>
    obtain ⟨q, e, k, h1, _⟩ := hs
    omega
theorem ifz1 {R r : Int} (h : r = if R < 0 then 0 else 1) (h2 : ¬ r = 0) : 0 ≤ R := by
  by_cases c : R < 0
  · rw [if_pos c] at h; exact absurd h h2
  · omega
theorem ifz0 {R r : Int} (h : r = if R < 0 then 0 else 1) (h2 : r = 0) : R < 0 := by
  by_cases c : R < 0
  · exact c
  · rw [if_neg c] at h; omega
theorem ncons {α : Type} {r : List α} (h : 0 < r.length) : ∃ c t, r = c :: t := by
  cases r with
  | nil => exact absurd h (by simp)
  | cons a b => exact ⟨a, b, rfl⟩
theorem nnil {α : Type} {r : List α} (h : r.length = 0) : r = [] := List.eq_nil_of_length_eq_zero h
end
section
set_option maxRecDepth 100000 in
theorem s_X7_runOrder_Nz (b : Int32) (h0_world : Nat) (h0_latest : Int32) (p0_length : Int32) (n_p0_heads : Nat) (f_p0_heads : Nat → Int32) (h0_asker_law : Value) (h0_asker_cell : Int32) (h0_asker_shaft : Int32) (h0_asker_kind : Int32) (h0_asker_done : Int32) (h0_asker_latest : Int32) (h0_asker_value : Int32) (n_p0_code : Nat) (f_p0_code : Nat → Int32) (f_h0_asker_stack : Nat → Int64) (h0_world_lawCount : Int32) (h0_world_force : Int32) (h0_world_folk_listeners : Int32) (h0_world_folk_noises : Int32) (h0_world_folk_hushed : Int32) (f_h0_world_folk_column : Nat → Int32) (h0_world_rock_dug : Int64) (f_h0_world_rock_hard : Nat → Int32) (f_h0_world_rock_water : Nat → Int32) (f_h0_world_term : Nat → Int32) (h0_world_crew_count : Int32) (f_h0_world_crew_cell : Nat → Int32) (f_h0_world_crew_buckets : Nat → Int32) (f_h0_world_rock_kind : Nat → Int32) (f_h0_world_laws : Nat → Option Nat) (h0_diary_kept : Int32) (h0_diary_latest : Int32) (f_h0_diary_deed : Nat → Int32) (f_h0_diary_whose : Nat → Int32) (f_h0_diary_before : Nat → Int32) (f_h0_diary_bucketsBefore : Nat → Int32) (f_h0_diary_dayBefore : Nat → Int32) (f_h0_world_folk_noiseColumn : Nat → Int32) (f_h0_world_folk_noiseLoud : Nat → Int32) {w : Nat → Int} {U : UL} {ls : Nat → List Cls} {cl : Cls} {c0 : Nat} {g_ea : Nat → Int32} {g_hc : Nat → Int32} {g_hl : Nat → Int32} {g_hs : Int32} {g_so : Nat → Int32} {g_we : Nat → Int32} {g_wl : Int32} (h_b : 0 ≤ b.toInt ∧ b.toInt ≤ 11) (h_p0_length : 0 ≤ p0_length.toInt ∧ p0_length.toInt ≤ 400) (h_f_p0_heads : HD f_p0_heads) (h_h0_asker_cell : 0 ≤ h0_asker_cell.toInt ∧ h0_asker_cell.toInt ≤ 39) (h_f_p0_code : CD f_p0_code) (h_h0_world_lawCount : 0 ≤ h0_world_lawCount.toInt ∧ h0_world_lawCount.toInt ≤ 6) (h_h0_world_force : (-1) ≤ h0_world_force.toInt ∧ h0_world_force.toInt ≤ (-1)) (h_h0_world_folk_listeners : 0 ≤ h0_world_folk_listeners.toInt ∧ h0_world_folk_listeners.toInt ≤ 5) (h_h0_world_folk_noises : 0 ≤ h0_world_folk_noises.toInt ∧ h0_world_folk_noises.toInt ≤ 6) (h_f_h0_world_folk_column : CO f_h0_world_folk_column) (h_f_h0_world_rock_hard : HA f_h0_world_rock_hard) (h_f_h0_world_rock_water : WA f_h0_world_rock_water) (h_f_h0_world_term : TE f_h0_world_term) (h_h0_world_crew_count : 0 ≤ h0_world_crew_count.toInt ∧ h0_world_crew_count.toInt ≤ 6) (h_f_h0_world_crew_cell : CE f_h0_world_crew_cell) (h_f_h0_world_crew_buckets : BU f_h0_world_crew_buckets) (h_f_h0_world_rock_kind : KI f_h0_world_rock_kind) (h_h0_diary_kept : 0 ≤ h0_diary_kept.toInt ∧ h0_diary_kept.toInt ≤ 16) (h_h0_diary_latest : 0 ≤ h0_diary_latest.toInt ∧ h0_diary_latest.toInt ≤ 15) (h_f_h0_world_folk_noiseColumn : NC f_h0_world_folk_noiseColumn) (h_f_h0_world_folk_noiseLoud : NL f_h0_world_folk_noiseLoud) (e_0 : RXw f_h0_world_rock_kind f_h0_world_rock_hard f_h0_world_rock_water h0_world_rock_dug f_h0_world_crew_cell f_h0_world_crew_buckets h0_world_crew_count f_h0_world_folk_column g_ea h0_world_folk_listeners f_h0_world_folk_noiseColumn f_h0_world_folk_noiseLoud h0_world_folk_noises h0_world_folk_hushed g_hc g_hl g_hs g_so g_we g_wl f_h0_world_term h0_world_lawCount h0_world_force w) (e_1 : RXu f_h0_diary_deed f_h0_diary_whose f_h0_diary_before f_h0_diary_bucketsBefore f_h0_diary_dayBefore h0_diary_kept h0_diary_latest w U) (e_2 : DI f_h0_diary_deed f_h0_diary_whose f_h0_diary_before f_h0_diary_bucketsBefore f_h0_diary_dayBefore) (e_3 : XC true f_p0_heads f_p0_code c0 (b.toInt).toNat cl) (e_4 : okO cl) (e_5 : p0_length.toInt = (c0 : Int)) (e_6 : c0 ≤ 400) (e_7 : c0 ≤ n_p0_code) (e_8 : 5 * (b.toInt).toNat + 5 ≤ n_p0_heads) (e_9 : n_p0_heads ≤ 60) {Q : Int32 → (Int32 × Value × Value × Int32 × Int32 × Int32 × Int32 × (Nat → Int64) × Int32 × (Nat → Int32) × Int64 × (Nat → Int32) × (Nat → Int32) × (Nat → Int32) × (Nat → Int32) × Int32 × Int32 × (Nat → Int32) × (Nat → Int32) × (Nat → Int32) × (Nat → Int32) × (Nat → Int32)) → Prop} (hq : ∀ (r : Int32) (u_0 : Int32) (u_1 : Value) (u_2 : Value) (u_3 : Int32) (u_4 : Int32) (u_5 : Int32) (u_6 : Int32) (u_7 : Nat → Int64) (u_8 : Int32) (u_9 : Nat → Int32) (u_10 : Int64) (u_11 : Nat → Int32) (u_12 : Nat → Int32) (u_13 : Nat → Int32) (u_14 : Nat → Int32) (u_15 : Int32) (u_16 : Int32) (u_17 : Nat → Int32) (u_18 : Nat → Int32) (u_19 : Nat → Int32) (u_20 : Nat → Int32) (u_21 : Nat → Int32), (0 ≤ r.toInt ∧ r.toInt ≤ 1) ∧ (0 ≤ u_3.toInt ∧ u_3.toInt ≤ 39) ∧ (CO u_9) ∧ (WA u_11) ∧ (TE u_12) ∧ (CE u_13) ∧ (BU u_14) ∧ (0 ≤ u_15.toInt ∧ u_15.toInt ≤ 16) ∧ (0 ≤ u_16.toInt ∧ u_16.toInt ≤ 15) ∧ (r.toInt = (if rnR (lawW w ls) w cl (ovW w h0_asker_done.toInt h0_asker_latest.toInt) < 0 then 0 else 1)) ∧ (RXw f_h0_world_rock_kind f_h0_world_rock_hard u_11 u_10 u_13 u_14 h0_world_crew_count u_9 g_ea h0_world_folk_listeners f_h0_world_folk_noiseColumn f_h0_world_folk_noiseLoud h0_world_folk_noises u_8 g_hc g_hl g_hs g_so g_we g_wl u_12 h0_world_lawCount h0_world_force (rnW (lawW w ls) w cl (ovW w h0_asker_done.toInt h0_asker_latest.toInt))) ∧ (RXu u_17 u_18 u_19 u_20 u_21 u_15 u_16 (rnW (lawW w ls) w cl (ovW w h0_asker_done.toInt h0_asker_latest.toInt)) (rmU (rnR (lawW w ls) w cl (ovW w h0_asker_done.toInt h0_asker_latest.toInt)) (cl.1 : Int) w U)) ∧ (DI u_17 u_18 u_19 u_20 u_21) ∧ (0 ≤ rnR (lawW w ls) w cl (ovW w h0_asker_done.toInt h0_asker_latest.toInt) → u_0.toInt = (if cl.1 < 2 then rnR (lawW w ls) w cl (ovW w h0_asker_done.toInt h0_asker_latest.toInt) else h0_latest.toInt)) → Q r (u_0, u_1, u_2, u_3, u_4, u_5, u_6, u_7, u_8, u_9, u_10, u_11, u_12, u_13, u_14, u_15, u_16, u_17, u_18, u_19, u_20, u_21)) : wp_X7_runOrder_N b h0_world h0_latest p0_length n_p0_heads f_p0_heads h0_asker_law h0_asker_cell h0_asker_shaft h0_asker_kind h0_asker_done h0_asker_latest h0_asker_value n_p0_code f_p0_code f_h0_asker_stack h0_world_lawCount h0_world_force h0_world_folk_listeners h0_world_folk_noises h0_world_folk_hushed f_h0_world_folk_column h0_world_rock_dug f_h0_world_rock_hard f_h0_world_rock_water f_h0_world_term h0_world_crew_count f_h0_world_crew_cell f_h0_world_crew_buckets f_h0_world_rock_kind f_h0_world_laws h0_diary_kept h0_diary_latest f_h0_diary_deed f_h0_diary_whose f_h0_diary_before f_h0_diary_bucketsBefore f_h0_diary_dayBefore f_h0_world_folk_noiseColumn f_h0_world_folk_noiseLoud Q := by
  unfold wp_X7_runOrder_N
  have l_kd := RXw.kd e_0
  have l_hd := RXw.hd e_0
  have l_wt := RXw.wt e_0
  have l_ce := RXw.ce e_0
  have l_bu := RXw.bu e_0
  have l_cc : h0_world_crew_count.toInt = w 0 := RXw.cc e_0
  have l_co := RXw.co e_0
  have l_ls : h0_world_folk_listeners.toInt = w 1 := RXw.ls e_0
  have l_nc := RXw.nc e_0
  have l_nl := RXw.nl e_0
  have l_ns : h0_world_folk_noises.toInt = w 2 := RXw.ns e_0
  have l_te := RXw.te e_0
  have l_lc : h0_world_lawCount.toInt = w 5 := RXw.lc e_0
  have l_fo : h0_world_force.toInt = w 6 := RXw.fo e_0
  have vb := vbT e_4.1
  have o3 := e_4.1
  obtain ⟨s1, hs1⟩ := e_4.2.1
  have k2 : Int32.toInt 1 = 1 := rfl
  refine z_hd1 e_3 (by omega) (by omega) (by omega) (fun r1 H3 => ?_)
  have sg4 := H3
  rw [hs1] at sg4
  refine z_rsum (RXw.evO e_0 (by omega) (by omega)) (by omega) (by omega) (by omega) sg4 (fun r6 v7 st8 H13 => ?_)
  refine un2_i ?_
  rcases H13 with ⟨e9, x5, hx11, hv12⟩ | ⟨e9, hx11⟩
  · skip
    refine br0 (z_ne (x := (Int32.toInt r6)) (y := 0) rfl rfl (by omega)) ?_
    refine o_X0_reckoned _ _ ?_
    have k15 : Int32.toInt 0 = 0 := rfl
    refine z_hd0 e_3 (by omega) (by omega) (by omega) (fun r14 H16 => ?_)
    have sg17 := H16
    by_cases c18 : r14 = 21
    · refine br1 c18 ?_
      have d19 := eq_z (x := (Int32.toInt r14)) (y := 21) rfl rfl c18
      refine s_X7_tryHushz v7 h0_world_folk_noises h0_world_folk_hushed h0_diary_kept h0_diary_latest (f_h0_diary_deed) (f_h0_diary_whose) (f_h0_diary_before) (f_h0_diary_bucketsBefore) (f_h0_diary_dayBefore) (f_h0_world_folk_noiseColumn) (f_h0_world_folk_noiseLoud) (by first | with_reducible assumption | exact ⟨by omega, by omega⟩) (by first | with_reducible assumption | exact ⟨by omega, by omega⟩) (by first | with_reducible assumption | exact ⟨by omega, by omega⟩) h_f_h0_world_folk_noiseColumn h_f_h0_world_folk_noiseLoud e_0 e_1 e_2 (fun r20 u21_0 u21_1 u21_2 u21_3 u21_4 u21_5 u21_6 u21_7 H22 => ?_)
      have j23 := H22.1
      have j24 := H22.2.1
      have j25 := H22.2.2.1
      have j26 := H22.2.2.2.1
      have j27 := H22.2.2.2.2.1
      have j28 := H22.2.2.2.2.2.1
      have j29 := H22.2.2.2.2.2.2
      refine un8_i ?_
      by_cases c30 : r20 < 0
      · refine br1 c30 ?_
        have d31 := lt_z (x := (Int32.toInt r20)) (y := 0) rfl rfl c30
        have hR32 : rnR (lawW w ls) w cl (ovW w h0_asker_done.toInt h0_asker_latest.toInt) = r20.toInt := (rnR_hush (by rw [hs1]; exact hx11) (by omega)).trans (by rw [← hv12]; exact j26.symm)
        exact hq _ _ _ _ _ _ _ _ _ _ _ _ _ _ _ _ _ _ _ _ _ _ _ ⟨(by decide), (by first | with_reducible assumption | exact ⟨by omega, by omega⟩), h_f_h0_world_folk_column, h_f_h0_world_rock_water, h_f_h0_world_term, h_f_h0_world_crew_cell, h_f_h0_world_crew_buckets, (by first | with_reducible assumption | exact ⟨by omega, by omega⟩), (by first | with_reducible assumption | exact ⟨by omega, by omega⟩), (by rw [hR32, if_pos (by omega)]; rfl), (by rw [rnW_hush (by rw [hs1]; exact hx11) (by omega), ← hv12]; exact j27), (by rw [rnW_hush (by rw [hs1]; exact hx11) (by omega), rnR_hush (by rw [hs1]; exact hx11) (by omega), show (cl.1 : Int) = 2 by omega, ← hv12]; exact j28), j29, (fun q => absurd q (by rw [hR32]; omega))⟩
      · refine br0 c30 ?_
        have d33 := nlt_z (x := (Int32.toInt r20)) (y := 0) rfl rfl c30
        have hR34 : rnR (lawW w ls) w cl (ovW w h0_asker_done.toInt h0_asker_latest.toInt) = r20.toInt := (rnR_hush (by rw [hs1]; exact hx11) (by omega)).trans (by rw [← hv12]; exact j26.symm)
        exact hq _ _ _ _ _ _ _ _ _ _ _ _ _ _ _ _ _ _ _ _ _ _ _ ⟨(by decide), (by first | with_reducible assumption | exact ⟨by omega, by omega⟩), h_f_h0_world_folk_column, h_f_h0_world_rock_water, h_f_h0_world_term, h_f_h0_world_crew_cell, h_f_h0_world_crew_buckets, (by first | with_reducible assumption | exact ⟨by omega, by omega⟩), (by first | with_reducible assumption | exact ⟨by omega, by omega⟩), (by rw [hR34, if_neg (by omega)]; rfl), (by rw [rnW_hush (by rw [hs1]; exact hx11) (by omega), ← hv12]; exact j27), (by rw [rnW_hush (by rw [hs1]; exact hx11) (by omega), rnR_hush (by rw [hs1]; exact hx11) (by omega), show (cl.1 : Int) = 2 by omega, ← hv12]; exact j28), j29, (fun _ => by rw [if_neg (by omega)])⟩
    · refine br0 c18 ?_
      have d35 := ne_z (x := (Int32.toInt r14)) (y := 21) rfl rfl c18
      by_cases c36 : r14 = 20
      · refine br1 c36 ?_
        have d37 := eq_z (x := (Int32.toInt r14)) (y := 20) rfl rfl c36
        refine s_X7_tryHaul_Nz (ls := ls) v7 h0_world h0_world_lawCount h0_world_force h0_world_crew_count (f_h0_world_crew_cell) (f_h0_world_term) (f_h0_world_rock_kind) (f_h0_world_laws) (Value.ref h0_world) h0_asker_law h0_asker_cell h0_asker_shaft h0_asker_kind (f_h0_world_rock_water) (f_h0_world_crew_buckets) h0_diary_kept h0_diary_latest (f_h0_diary_deed) (f_h0_diary_whose) (f_h0_diary_before) (f_h0_diary_bucketsBefore) (f_h0_diary_dayBefore) (by first | with_reducible assumption | exact ⟨by omega, by omega⟩) (by first | with_reducible assumption | exact ⟨by omega, by omega⟩) (by first | with_reducible assumption | exact ⟨by omega, by omega⟩) h_f_h0_world_crew_cell h_f_h0_world_term h_f_h0_world_rock_kind (by first | with_reducible assumption | exact ⟨by omega, by omega⟩) h_f_h0_world_rock_water h_f_h0_world_crew_buckets (by first | with_reducible assumption | exact ⟨by omega, by omega⟩) (by first | with_reducible assumption | exact ⟨by omega, by omega⟩) e_0 e_1 e_2 (fun r38 u39_0 u39_1 u39_2 u39_3 u39_4 u39_5 u39_6 u39_7 u39_8 u39_9 u39_10 u39_11 u39_12 u39_13 u39_14 H40 => ?_)
        have j41 := H40.1
        have j42 := H40.2.1
        have j43 := H40.2.2.1
        have j44 := H40.2.2.2.1
        have j45 := H40.2.2.2.2.1
        have j46 := H40.2.2.2.2.2.1
        have j47 := H40.2.2.2.2.2.2.1
        have j48 := H40.2.2.2.2.2.2.2.1
        have j49 := H40.2.2.2.2.2.2.2.2.1
        have j50 := H40.2.2.2.2.2.2.2.2.2.1
        have j51 := H40.2.2.2.2.2.2.2.2.2.2
        refine un15_i ?_
        by_cases c52 : r38 < 0
        · refine br1 c52 ?_
          have d53 := lt_z (x := (Int32.toInt r38)) (y := 0) rfl rfl c52
          have hR54 : rnR (lawW w ls) w cl (ovW w h0_asker_done.toInt h0_asker_latest.toInt) = r38.toInt := (rnR_haul (by rw [hs1]; exact hx11) (by omega)).trans (by rw [← hv12]; exact j48.symm)
          exact hq _ _ _ _ _ _ _ _ _ _ _ _ _ _ _ _ _ _ _ _ _ _ _ ⟨(by decide), (by first | with_reducible assumption | exact ⟨by omega, by omega⟩), h_f_h0_world_folk_column, j44, j42, h_f_h0_world_crew_cell, j45, (by first | with_reducible assumption | exact ⟨by omega, by omega⟩), (by first | with_reducible assumption | exact ⟨by omega, by omega⟩), (by rw [hR54, if_pos (by omega)]; rfl), (by rw [rnW_haul (by rw [hs1]; exact hx11) (by omega), ← hv12]; exact j49), (by rw [rnW_haul (by rw [hs1]; exact hx11) (by omega), rnR_haul (by rw [hs1]; exact hx11) (by omega), show (cl.1 : Int) = 1 by omega, ← hv12]; exact j50), j51, (fun q => absurd q (by rw [hR54]; omega))⟩
        · refine br0 c52 ?_
          have d55 := nlt_z (x := (Int32.toInt r38)) (y := 0) rfl rfl c52
          have hR56 : rnR (lawW w ls) w cl (ovW w h0_asker_done.toInt h0_asker_latest.toInt) = r38.toInt := (rnR_haul (by rw [hs1]; exact hx11) (by omega)).trans (by rw [← hv12]; exact j48.symm)
          exact hq _ _ _ _ _ _ _ _ _ _ _ _ _ _ _ _ _ _ _ _ _ _ _ ⟨(by decide), (by first | with_reducible assumption | exact ⟨by omega, by omega⟩), h_f_h0_world_folk_column, j44, j42, h_f_h0_world_crew_cell, j45, (by first | with_reducible assumption | exact ⟨by omega, by omega⟩), (by first | with_reducible assumption | exact ⟨by omega, by omega⟩), (by rw [hR56, if_neg (by omega)]; rfl), (by rw [rnW_haul (by rw [hs1]; exact hx11) (by omega), ← hv12]; exact j49), (by rw [rnW_haul (by rw [hs1]; exact hx11) (by omega), rnR_haul (by rw [hs1]; exact hx11) (by omega), show (cl.1 : Int) = 1 by omega, ← hv12]; exact j50), j51, (fun _ => by rw [if_pos (by omega), hR56])⟩
      · refine br0 c36 ?_
        have d57 := ne_z (x := (Int32.toInt r14)) (y := 20) rfl rfl c36
        have k59 : Int32.toInt 2 = 2 := rfl
        refine z_hd2 e_3 (by omega) (by omega) (by omega) (fun r58 H60 => ?_)
        have sg61 := H60
        obtain ⟨s2, hs2⟩ := e_4.2.2.1 (by omega)
        rw [hs2] at sg61
        refine z_rsum (RXw.evO e_0 (by omega) (by omega)) (by omega) (by omega) (by omega) sg61 (fun r63 v64 st65 H70 => ?_)
        refine un2_i ?_
        rcases H70 with ⟨e66, x62, hx68, hv69⟩ | ⟨e66, hx68⟩
        · skip
          refine br0 (z_ne (x := (Int32.toInt r63)) (y := 0) rfl rfl (by omega)) ?_
          refine o_X0_reckoned _ _ ?_
          by_cases c71 : r14 = 22
          · refine br1 c71 ?_
            have d72 := eq_z (x := (Int32.toInt r14)) (y := 22) rfl rfl c71
            refine s_X7_tryLiez v7 v64 h0_world_folk_listeners (f_h0_world_folk_column) h0_diary_kept h0_diary_latest (f_h0_diary_deed) (f_h0_diary_whose) (f_h0_diary_before) (f_h0_diary_bucketsBefore) (f_h0_diary_dayBefore) (by first | with_reducible assumption | exact ⟨by omega, by omega⟩) h_f_h0_world_folk_column (by first | with_reducible assumption | exact ⟨by omega, by omega⟩) (by first | with_reducible assumption | exact ⟨by omega, by omega⟩) e_0 e_1 e_2 (fun r73 u74_0 u74_1 u74_2 u74_3 u74_4 u74_5 u74_6 u74_7 H75 => ?_)
            have j76 := H75.1
            have j77 := H75.2.1
            have j78 := H75.2.2.1
            have j79 := H75.2.2.2.1
            have j80 := H75.2.2.2.2.1
            have j81 := H75.2.2.2.2.2.1
            have j82 := H75.2.2.2.2.2.2.1
            have j83 := H75.2.2.2.2.2.2.2
            refine un8_i ?_
            by_cases c84 : r73 < 0
            · refine br1 c84 ?_
              have d85 := lt_z (x := (Int32.toInt r73)) (y := 0) rfl rfl c84
              have hR86 : rnR (lawW w ls) w cl (ovW w h0_asker_done.toInt h0_asker_latest.toInt) = r73.toInt := (rnR_lie (by rw [hs1]; exact hx11) (by rw [hs2]; exact hx68) (by omega)).trans (by rw [← hv12, ← hv69]; exact j80.symm)
              exact hq _ _ _ _ _ _ _ _ _ _ _ _ _ _ _ _ _ _ _ _ _ _ _ ⟨(by decide), (by first | with_reducible assumption | exact ⟨by omega, by omega⟩), j77, h_f_h0_world_rock_water, h_f_h0_world_term, h_f_h0_world_crew_cell, h_f_h0_world_crew_buckets, (by first | with_reducible assumption | exact ⟨by omega, by omega⟩), (by first | with_reducible assumption | exact ⟨by omega, by omega⟩), (by rw [hR86, if_pos (by omega)]; rfl), (by rw [rnW_lie (by rw [hs1]; exact hx11) (by rw [hs2]; exact hx68) (by omega), ← hv12, ← hv69]; exact j81), (by rw [rnW_lie (by rw [hs1]; exact hx11) (by rw [hs2]; exact hx68) (by omega), rnR_lie (by rw [hs1]; exact hx11) (by rw [hs2]; exact hx68) (by omega), show (cl.1 : Int) = 3 by omega, ← hv12, ← hv69]; exact j82), j83, (fun q => absurd q (by rw [hR86]; omega))⟩
            · refine br0 c84 ?_
              have d87 := nlt_z (x := (Int32.toInt r73)) (y := 0) rfl rfl c84
              have hR88 : rnR (lawW w ls) w cl (ovW w h0_asker_done.toInt h0_asker_latest.toInt) = r73.toInt := (rnR_lie (by rw [hs1]; exact hx11) (by rw [hs2]; exact hx68) (by omega)).trans (by rw [← hv12, ← hv69]; exact j80.symm)
              exact hq _ _ _ _ _ _ _ _ _ _ _ _ _ _ _ _ _ _ _ _ _ _ _ ⟨(by decide), (by first | with_reducible assumption | exact ⟨by omega, by omega⟩), j77, h_f_h0_world_rock_water, h_f_h0_world_term, h_f_h0_world_crew_cell, h_f_h0_world_crew_buckets, (by first | with_reducible assumption | exact ⟨by omega, by omega⟩), (by first | with_reducible assumption | exact ⟨by omega, by omega⟩), (by rw [hR88, if_neg (by omega)]; rfl), (by rw [rnW_lie (by rw [hs1]; exact hx11) (by rw [hs2]; exact hx68) (by omega), ← hv12, ← hv69]; exact j81), (by rw [rnW_lie (by rw [hs1]; exact hx11) (by rw [hs2]; exact hx68) (by omega), rnR_lie (by rw [hs1]; exact hx11) (by rw [hs2]; exact hx68) (by omega), show (cl.1 : Int) = 3 by omega, ← hv12, ← hv69]; exact j82), j83, (fun _ => by rw [if_neg (by omega)])⟩
          · refine br0 c71 ?_
            have d89 := ne_z (x := (Int32.toInt r14)) (y := 22) rfl rfl c71
            refine s_X7_tryDig_Nz (ls := ls) v7 v64 h0_world h0_world_lawCount h0_world_force h0_world_crew_count (f_h0_world_crew_cell) h0_world_rock_dug (f_h0_world_rock_kind) (f_h0_world_laws) (Value.ref h0_world) h0_asker_law h0_asker_cell h0_asker_shaft h0_asker_kind (f_h0_world_term) (f_h0_world_rock_hard) h0_diary_kept h0_diary_latest (f_h0_diary_deed) (f_h0_diary_whose) (f_h0_diary_before) (f_h0_diary_bucketsBefore) (f_h0_diary_dayBefore) (by first | with_reducible assumption | exact ⟨by omega, by omega⟩) (by first | with_reducible assumption | exact ⟨by omega, by omega⟩) (by first | with_reducible assumption | exact ⟨by omega, by omega⟩) h_f_h0_world_crew_cell h_f_h0_world_rock_kind (by first | with_reducible assumption | exact ⟨by omega, by omega⟩) h_f_h0_world_term h_f_h0_world_rock_hard (by first | with_reducible assumption | exact ⟨by omega, by omega⟩) (by first | with_reducible assumption | exact ⟨by omega, by omega⟩) e_0 e_1 e_2 (fun r90 u91_0 u91_1 u91_2 u91_3 u91_4 u91_5 u91_6 u91_7 u91_8 u91_9 u91_10 u91_11 u91_12 u91_13 u91_14 H92 => ?_)
            have j93 := H92.1
            have j94 := H92.2.1
            have j95 := H92.2.2.1
            have j96 := H92.2.2.2.1
            have j97 := H92.2.2.2.2.1
            have j98 := H92.2.2.2.2.2.1
            have j99 := H92.2.2.2.2.2.2.1
            have j100 := H92.2.2.2.2.2.2.2.1
            have j101 := H92.2.2.2.2.2.2.2.2.1
            have j102 := H92.2.2.2.2.2.2.2.2.2
            refine un15_i ?_
            by_cases c103 : r90 < 0
            · refine br1 c103 ?_
              have d104 := lt_z (x := (Int32.toInt r90)) (y := 0) rfl rfl c103
              have hR105 : rnR (lawW w ls) w cl (ovW w h0_asker_done.toInt h0_asker_latest.toInt) = r90.toInt := (rnR_dig (by rw [hs1]; exact hx11) (by rw [hs2]; exact hx68) (by omega)).trans (by rw [← hv12, ← hv69]; exact j99.symm)
              exact hq _ _ _ _ _ _ _ _ _ _ _ _ _ _ _ _ _ _ _ _ _ _ _ ⟨(by decide), (by first | with_reducible assumption | exact ⟨by omega, by omega⟩), h_f_h0_world_folk_column, h_f_h0_world_rock_water, j96, j94, h_f_h0_world_crew_buckets, (by first | with_reducible assumption | exact ⟨by omega, by omega⟩), (by first | with_reducible assumption | exact ⟨by omega, by omega⟩), (by rw [hR105, if_pos (by omega)]; rfl), (by rw [rnW_dig (by rw [hs1]; exact hx11) (by rw [hs2]; exact hx68) (by omega), ← hv12, ← hv69]; exact j100), (by rw [rnW_dig (by rw [hs1]; exact hx11) (by rw [hs2]; exact hx68) (by omega), rnR_dig (by rw [hs1]; exact hx11) (by rw [hs2]; exact hx68) (by omega), show (cl.1 : Int) = 0 by omega, ← hv12, ← hv69]; exact j101), j102, (fun q => absurd q (by rw [hR105]; omega))⟩
            · refine br0 c103 ?_
              have d106 := nlt_z (x := (Int32.toInt r90)) (y := 0) rfl rfl c103
              have hR107 : rnR (lawW w ls) w cl (ovW w h0_asker_done.toInt h0_asker_latest.toInt) = r90.toInt := (rnR_dig (by rw [hs1]; exact hx11) (by rw [hs2]; exact hx68) (by omega)).trans (by rw [← hv12, ← hv69]; exact j99.symm)
              exact hq _ _ _ _ _ _ _ _ _ _ _ _ _ _ _ _ _ _ _ _ _ _ _ ⟨(by decide), (by first | with_reducible assumption | exact ⟨by omega, by omega⟩), h_f_h0_world_folk_column, h_f_h0_world_rock_water, j96, j94, h_f_h0_world_crew_buckets, (by first | with_reducible assumption | exact ⟨by omega, by omega⟩), (by first | with_reducible assumption | exact ⟨by omega, by omega⟩), (by rw [hR107, if_neg (by omega)]; rfl), (by rw [rnW_dig (by rw [hs1]; exact hx11) (by rw [hs2]; exact hx68) (by omega), ← hv12, ← hv69]; exact j100), (by rw [rnW_dig (by rw [hs1]; exact hx11) (by rw [hs2]; exact hx68) (by omega), rnR_dig (by rw [hs1]; exact hx11) (by rw [hs2]; exact hx68) (by omega), show (cl.1 : Int) = 0 by omega, ← hv12, ← hv69]; exact j101), j102, (fun _ => by rw [if_pos (by omega), hR107])⟩
        · skip
          refine br1 (z_eq (x := (Int32.toInt r63)) (y := 0) rfl rfl (by omega)) ?_
          have hR108 : rnR (lawW w ls) w cl (ovW w h0_asker_done.toInt h0_asker_latest.toInt) = -3 := rnR_1 (by rw [hs1]; exact hx11) (by rw [hs2]; exact hx68) (by first | with_reducible assumption | exact ⟨by omega, by omega⟩)
          exact hq _ _ _ _ _ _ _ _ _ _ _ _ _ _ _ _ _ _ _ _ _ _ _ ⟨(by decide), (by first | with_reducible assumption | exact ⟨by omega, by omega⟩), h_f_h0_world_folk_column, h_f_h0_world_rock_water, h_f_h0_world_term, h_f_h0_world_crew_cell, h_f_h0_world_crew_buckets, (by first | with_reducible assumption | exact ⟨by omega, by omega⟩), (by first | with_reducible assumption | exact ⟨by omega, by omega⟩), (by rw [hR108, if_pos (by omega)]; rfl), (by rw [rnW_1 (by rw [hs1]; exact hx11) (by rw [hs2]; exact hx68) (by first | with_reducible assumption | exact ⟨by omega, by omega⟩)]; exact e_0), (by rw [rnW_1 (by rw [hs1]; exact hx11) (by rw [hs2]; exact hx68) (by first | with_reducible assumption | exact ⟨by omega, by omega⟩), rnR_1 (by rw [hs1]; exact hx11) (by rw [hs2]; exact hx68) (by first | with_reducible assumption | exact ⟨by omega, by omega⟩), rmU_n (by decide)]; exact e_1), e_2, (fun q => absurd q (by rw [hR108]; omega))⟩
  · skip
    refine br1 (z_eq (x := (Int32.toInt r6)) (y := 0) rfl rfl (by omega)) ?_
    have k109 : Int32.toInt 0 = 0 := rfl
    have hR110 : rnR (lawW w ls) w cl (ovW w h0_asker_done.toInt h0_asker_latest.toInt) = -3 := rnR_0 (by rw [hs1]; exact hx11)
    exact hq _ _ _ _ _ _ _ _ _ _ _ _ _ _ _ _ _ _ _ _ _ _ _ ⟨(by decide), (by first | with_reducible assumption | exact ⟨by omega, by omega⟩), h_f_h0_world_folk_column, h_f_h0_world_rock_water, h_f_h0_world_term, h_f_h0_world_crew_cell, h_f_h0_world_crew_buckets, (by first | with_reducible assumption | exact ⟨by omega, by omega⟩), (by first | with_reducible assumption | exact ⟨by omega, by omega⟩), (by rw [hR110, if_pos (by omega)]; rfl), (by rw [rnW_0 (by rw [hs1]; exact hx11)]; exact e_0), (by rw [rnW_0 (by rw [hs1]; exact hx11), rnR_0 (by rw [hs1]; exact hx11), rmU_n (by decide)]; exact e_1), e_2, (fun q => absurd q (by rw [hR110]; omega))⟩


set_option maxRecDepth 100000 in
theorem s_X7_runOrder_Tz (b : Int32) (h0_world : Nat) (h0_latest : Int32) (p0_length : Int32) (n_p0_heads : Nat) (f_p0_heads : Nat → Int32) (h0_asker_law : Value) (h0_asker_cell : Int32) (h0_asker_shaft : Int32) (h0_asker_kind : Int32) (h0_asker_done : Int32) (h0_asker_latest : Int32) (h0_asker_value : Int32) (n_p0_code : Nat) (f_p0_code : Nat → Int32) (f_h0_asker_stack : Nat → Int64) (h0_world_lawCount : Int32) (h0_world_force : Int32) (h0_world_folk_listeners : Int32) (h0_world_folk_noises : Int32) (h0_world_folk_hushed : Int32) (f_h0_world_folk_column : Nat → Int32) (h0_world_rock_dug : Int64) (f_h0_world_rock_hard : Nat → Int32) (f_h0_world_rock_water : Nat → Int32) (f_h0_world_term : Nat → Int32) (h0_world_crew_count : Int32) (f_h0_world_crew_cell : Nat → Int32) (f_h0_world_crew_buckets : Nat → Int32) (f_h0_world_rock_kind : Nat → Int32) (f_h0_world_laws : Nat → Option Nat) (t : Nat) (t_clauses : Int32) (t_length : Int32) (n_t_heads : Nat) (f_t_heads : Nat → Int32) (n_t_code : Nat) (f_t_code : Nat → Int32) (h0_diary_kept : Int32) (h0_diary_latest : Int32) (f_h0_diary_deed : Nat → Int32) (f_h0_diary_whose : Nat → Int32) (f_h0_diary_before : Nat → Int32) (f_h0_diary_bucketsBefore : Nat → Int32) (f_h0_diary_dayBefore : Nat → Int32) (f_h0_world_folk_noiseColumn : Nat → Int32) (f_h0_world_folk_noiseLoud : Nat → Int32) {w : Nat → Int} {U : UL} {ls : Nat → List Cls} {cl : Cls} {c0 : Nat} {g_ea : Nat → Int32} {g_hc : Nat → Int32} {g_hl : Nat → Int32} {g_hs : Int32} {g_so : Nat → Int32} {g_we : Nat → Int32} {g_wl : Int32} (h_b : 0 ≤ b.toInt ∧ b.toInt ≤ 11) (h_p0_length : 0 ≤ p0_length.toInt ∧ p0_length.toInt ≤ 400) (h_f_p0_heads : HD f_p0_heads) (h_h0_asker_cell : 0 ≤ h0_asker_cell.toInt ∧ h0_asker_cell.toInt ≤ 39) (h_f_p0_code : CD f_p0_code) (h_h0_world_lawCount : 0 ≤ h0_world_lawCount.toInt ∧ h0_world_lawCount.toInt ≤ 6) (h_h0_world_force : 0 ≤ h0_world_force.toInt ∧ h0_world_force.toInt ≤ 5) (h_h0_world_folk_listeners : 0 ≤ h0_world_folk_listeners.toInt ∧ h0_world_folk_listeners.toInt ≤ 5) (h_h0_world_folk_noises : 0 ≤ h0_world_folk_noises.toInt ∧ h0_world_folk_noises.toInt ≤ 6) (h_f_h0_world_folk_column : CO f_h0_world_folk_column) (h_f_h0_world_rock_hard : HA f_h0_world_rock_hard) (h_f_h0_world_rock_water : WA f_h0_world_rock_water) (h_f_h0_world_term : TE f_h0_world_term) (h_h0_world_crew_count : 0 ≤ h0_world_crew_count.toInt ∧ h0_world_crew_count.toInt ≤ 6) (h_f_h0_world_crew_cell : CE f_h0_world_crew_cell) (h_f_h0_world_crew_buckets : BU f_h0_world_crew_buckets) (h_f_h0_world_rock_kind : KI f_h0_world_rock_kind) (h_t_clauses : 0 ≤ t_clauses.toInt ∧ t_clauses.toInt ≤ 12) (h_t_length : 0 ≤ t_length.toInt ∧ t_length.toInt ≤ 400) (h_f_t_code : CD f_t_code) (h_h0_diary_kept : 0 ≤ h0_diary_kept.toInt ∧ h0_diary_kept.toInt ≤ 16) (h_h0_diary_latest : 0 ≤ h0_diary_latest.toInt ∧ h0_diary_latest.toInt ≤ 15) (h_f_h0_world_folk_noiseColumn : NC f_h0_world_folk_noiseColumn) (h_f_h0_world_folk_noiseLoud : NL f_h0_world_folk_noiseLoud) (e_0 : RXw f_h0_world_rock_kind f_h0_world_rock_hard f_h0_world_rock_water h0_world_rock_dug f_h0_world_crew_cell f_h0_world_crew_buckets h0_world_crew_count f_h0_world_folk_column g_ea h0_world_folk_listeners f_h0_world_folk_noiseColumn f_h0_world_folk_noiseLoud h0_world_folk_noises h0_world_folk_hushed g_hc g_hl g_hs g_so g_we g_wl f_h0_world_term h0_world_lawCount h0_world_force w) (e_1 : RXu f_h0_diary_deed f_h0_diary_whose f_h0_diary_before f_h0_diary_bucketsBefore f_h0_diary_dayBefore h0_diary_kept h0_diary_latest w U) (e_2 : DI f_h0_diary_deed f_h0_diary_whose f_h0_diary_before f_h0_diary_bucketsBefore f_h0_diary_dayBefore) (e_3 : XTx t_clauses t_length n_t_heads f_t_heads n_t_code f_t_code (ls (w 6).toNat)) (e_4 : ∀ q ∈ ls (w 6).toNat, okC q) (e_5 : XC true f_p0_heads f_p0_code c0 (b.toInt).toNat cl) (e_6 : okO cl) (e_7 : p0_length.toInt = (c0 : Int)) (e_8 : c0 ≤ 400) (e_9 : c0 ≤ n_p0_code) (e_10 : 5 * (b.toInt).toNat + 5 ≤ n_p0_heads) (e_11 : n_p0_heads ≤ 60) (e_12 : n_t_heads < 100000) (e_13 : t_length.toInt ≤ (n_t_code : Int)) (e_14 : h0_world_force.toInt < h0_world_lawCount.toInt) (e_15 : f_h0_world_laws (Int32.toNatClampNeg h0_world_force) = some t) {Q : Int32 → (Int32 × Value × Value × Int32 × Int32 × Int32 × Int32 × (Nat → Int64) × Int32 × (Nat → Int32) × Int64 × (Nat → Int32) × (Nat → Int32) × (Nat → Int32) × (Nat → Int32) × Int32 × Int32 × (Nat → Int32) × (Nat → Int32) × (Nat → Int32) × (Nat → Int32) × (Nat → Int32)) → Prop} (hq : ∀ (r : Int32) (u_0 : Int32) (u_1 : Value) (u_2 : Value) (u_3 : Int32) (u_4 : Int32) (u_5 : Int32) (u_6 : Int32) (u_7 : Nat → Int64) (u_8 : Int32) (u_9 : Nat → Int32) (u_10 : Int64) (u_11 : Nat → Int32) (u_12 : Nat → Int32) (u_13 : Nat → Int32) (u_14 : Nat → Int32) (u_15 : Int32) (u_16 : Int32) (u_17 : Nat → Int32) (u_18 : Nat → Int32) (u_19 : Nat → Int32) (u_20 : Nat → Int32) (u_21 : Nat → Int32), (0 ≤ r.toInt ∧ r.toInt ≤ 1) ∧ (0 ≤ u_3.toInt ∧ u_3.toInt ≤ 39) ∧ (CO u_9) ∧ (WA u_11) ∧ (TE u_12) ∧ (CE u_13) ∧ (BU u_14) ∧ (0 ≤ u_15.toInt ∧ u_15.toInt ≤ 16) ∧ (0 ≤ u_16.toInt ∧ u_16.toInt ≤ 15) ∧ (r.toInt = (if rnR (lawW w ls) w cl (ovW w h0_asker_done.toInt h0_asker_latest.toInt) < 0 then 0 else 1)) ∧ (RXw f_h0_world_rock_kind f_h0_world_rock_hard u_11 u_10 u_13 u_14 h0_world_crew_count u_9 g_ea h0_world_folk_listeners f_h0_world_folk_noiseColumn f_h0_world_folk_noiseLoud h0_world_folk_noises u_8 g_hc g_hl g_hs g_so g_we g_wl u_12 h0_world_lawCount h0_world_force (rnW (lawW w ls) w cl (ovW w h0_asker_done.toInt h0_asker_latest.toInt))) ∧ (RXu u_17 u_18 u_19 u_20 u_21 u_15 u_16 (rnW (lawW w ls) w cl (ovW w h0_asker_done.toInt h0_asker_latest.toInt)) (rmU (rnR (lawW w ls) w cl (ovW w h0_asker_done.toInt h0_asker_latest.toInt)) (cl.1 : Int) w U)) ∧ (DI u_17 u_18 u_19 u_20 u_21) ∧ (0 ≤ rnR (lawW w ls) w cl (ovW w h0_asker_done.toInt h0_asker_latest.toInt) → u_0.toInt = (if cl.1 < 2 then rnR (lawW w ls) w cl (ovW w h0_asker_done.toInt h0_asker_latest.toInt) else h0_latest.toInt)) → Q r (u_0, u_1, u_2, u_3, u_4, u_5, u_6, u_7, u_8, u_9, u_10, u_11, u_12, u_13, u_14, u_15, u_16, u_17, u_18, u_19, u_20, u_21)) : wp_X7_runOrder_T b h0_world h0_latest p0_length n_p0_heads f_p0_heads h0_asker_law h0_asker_cell h0_asker_shaft h0_asker_kind h0_asker_done h0_asker_latest h0_asker_value n_p0_code f_p0_code f_h0_asker_stack h0_world_lawCount h0_world_force h0_world_folk_listeners h0_world_folk_noises h0_world_folk_hushed f_h0_world_folk_column h0_world_rock_dug f_h0_world_rock_hard f_h0_world_rock_water f_h0_world_term h0_world_crew_count f_h0_world_crew_cell f_h0_world_crew_buckets f_h0_world_rock_kind f_h0_world_laws t t_clauses t_length n_t_heads f_t_heads n_t_code f_t_code h0_diary_kept h0_diary_latest f_h0_diary_deed f_h0_diary_whose f_h0_diary_before f_h0_diary_bucketsBefore f_h0_diary_dayBefore f_h0_world_folk_noiseColumn f_h0_world_folk_noiseLoud Q := by
  unfold wp_X7_runOrder_T
  have l_kd := RXw.kd e_0
  have l_hd := RXw.hd e_0
  have l_wt := RXw.wt e_0
  have l_ce := RXw.ce e_0
  have l_bu := RXw.bu e_0
  have l_cc : h0_world_crew_count.toInt = w 0 := RXw.cc e_0
  have l_co := RXw.co e_0
  have l_ls : h0_world_folk_listeners.toInt = w 1 := RXw.ls e_0
  have l_nc := RXw.nc e_0
  have l_nl := RXw.nl e_0
  have l_ns : h0_world_folk_noises.toInt = w 2 := RXw.ns e_0
  have l_te := RXw.te e_0
  have l_lc : h0_world_lawCount.toInt = w 5 := RXw.lc e_0
  have l_fo : h0_world_force.toInt = w 6 := RXw.fo e_0
  have vb := vbT e_6.1
  have o3 := e_6.1
  obtain ⟨s1, hs1⟩ := e_6.2.1
  have k2 : Int32.toInt 1 = 1 := rfl
  refine z_hd1 e_5 (by omega) (by omega) (by omega) (fun r1 H3 => ?_)
  have sg4 := H3
  rw [hs1] at sg4
  refine z_rsum (RXw.evO e_0 (by omega) (by omega)) (by omega) (by omega) (by omega) sg4 (fun r6 v7 st8 H13 => ?_)
  refine un2_i ?_
  rcases H13 with ⟨e9, x5, hx11, hv12⟩ | ⟨e9, hx11⟩
  · skip
    refine br0 (z_ne (x := (Int32.toInt r6)) (y := 0) rfl rfl (by omega)) ?_
    refine o_X0_reckoned _ _ ?_
    have k15 : Int32.toInt 0 = 0 := rfl
    refine z_hd0 e_5 (by omega) (by omega) (by omega) (fun r14 H16 => ?_)
    have sg17 := H16
    by_cases c18 : r14 = 21
    · refine br1 c18 ?_
      have d19 := eq_z (x := (Int32.toInt r14)) (y := 21) rfl rfl c18
      refine s_X7_tryHushz v7 h0_world_folk_noises h0_world_folk_hushed h0_diary_kept h0_diary_latest (f_h0_diary_deed) (f_h0_diary_whose) (f_h0_diary_before) (f_h0_diary_bucketsBefore) (f_h0_diary_dayBefore) (f_h0_world_folk_noiseColumn) (f_h0_world_folk_noiseLoud) (by first | with_reducible assumption | exact ⟨by omega, by omega⟩) (by first | with_reducible assumption | exact ⟨by omega, by omega⟩) (by first | with_reducible assumption | exact ⟨by omega, by omega⟩) h_f_h0_world_folk_noiseColumn h_f_h0_world_folk_noiseLoud e_0 e_1 e_2 (fun r20 u21_0 u21_1 u21_2 u21_3 u21_4 u21_5 u21_6 u21_7 H22 => ?_)
      have j23 := H22.1
      have j24 := H22.2.1
      have j25 := H22.2.2.1
      have j26 := H22.2.2.2.1
      have j27 := H22.2.2.2.2.1
      have j28 := H22.2.2.2.2.2.1
      have j29 := H22.2.2.2.2.2.2
      refine un8_i ?_
      by_cases c30 : r20 < 0
      · refine br1 c30 ?_
        have d31 := lt_z (x := (Int32.toInt r20)) (y := 0) rfl rfl c30
        have hR32 : rnR (lawW w ls) w cl (ovW w h0_asker_done.toInt h0_asker_latest.toInt) = r20.toInt := (rnR_hush (by rw [hs1]; exact hx11) (by omega)).trans (by rw [← hv12]; exact j26.symm)
        exact hq _ _ _ _ _ _ _ _ _ _ _ _ _ _ _ _ _ _ _ _ _ _ _ ⟨(by decide), (by first | with_reducible assumption | exact ⟨by omega, by omega⟩), h_f_h0_world_folk_column, h_f_h0_world_rock_water, h_f_h0_world_term, h_f_h0_world_crew_cell, h_f_h0_world_crew_buckets, (by first | with_reducible assumption | exact ⟨by omega, by omega⟩), (by first | with_reducible assumption | exact ⟨by omega, by omega⟩), (by rw [hR32, if_pos (by omega)]; rfl), (by rw [rnW_hush (by rw [hs1]; exact hx11) (by omega), ← hv12]; exact j27), (by rw [rnW_hush (by rw [hs1]; exact hx11) (by omega), rnR_hush (by rw [hs1]; exact hx11) (by omega), show (cl.1 : Int) = 2 by omega, ← hv12]; exact j28), j29, (fun q => absurd q (by rw [hR32]; omega))⟩
      · refine br0 c30 ?_
        have d33 := nlt_z (x := (Int32.toInt r20)) (y := 0) rfl rfl c30
        have hR34 : rnR (lawW w ls) w cl (ovW w h0_asker_done.toInt h0_asker_latest.toInt) = r20.toInt := (rnR_hush (by rw [hs1]; exact hx11) (by omega)).trans (by rw [← hv12]; exact j26.symm)
        exact hq _ _ _ _ _ _ _ _ _ _ _ _ _ _ _ _ _ _ _ _ _ _ _ ⟨(by decide), (by first | with_reducible assumption | exact ⟨by omega, by omega⟩), h_f_h0_world_folk_column, h_f_h0_world_rock_water, h_f_h0_world_term, h_f_h0_world_crew_cell, h_f_h0_world_crew_buckets, (by first | with_reducible assumption | exact ⟨by omega, by omega⟩), (by first | with_reducible assumption | exact ⟨by omega, by omega⟩), (by rw [hR34, if_neg (by omega)]; rfl), (by rw [rnW_hush (by rw [hs1]; exact hx11) (by omega), ← hv12]; exact j27), (by rw [rnW_hush (by rw [hs1]; exact hx11) (by omega), rnR_hush (by rw [hs1]; exact hx11) (by omega), show (cl.1 : Int) = 2 by omega, ← hv12]; exact j28), j29, (fun _ => by rw [if_neg (by omega)])⟩
    · refine br0 c18 ?_
      have d35 := ne_z (x := (Int32.toInt r14)) (y := 21) rfl rfl c18
      by_cases c36 : r14 = 20
      · refine br1 c36 ?_
        have d37 := eq_z (x := (Int32.toInt r14)) (y := 20) rfl rfl c36
        refine s_X7_tryHaul_Tz (ls := ls) v7 h0_world h0_world_lawCount h0_world_force h0_world_crew_count (f_h0_world_crew_cell) (f_h0_world_term) (f_h0_world_rock_kind) (f_h0_world_laws) (Value.ref h0_world) h0_asker_law h0_asker_cell h0_asker_shaft h0_asker_kind h0_asker_done h0_asker_latest v7 t t_clauses t_length n_t_heads (f_t_heads) n_t_code (f_t_code) (st8) h0_world_folk_listeners (f_h0_world_folk_column) (f_h0_world_rock_hard) (f_h0_world_rock_water) (f_h0_world_crew_buckets) h0_diary_kept h0_diary_latest (f_h0_diary_deed) (f_h0_diary_whose) (f_h0_diary_before) (f_h0_diary_bucketsBefore) (f_h0_diary_dayBefore) (by first | with_reducible assumption | exact ⟨by omega, by omega⟩) (by first | with_reducible assumption | exact ⟨by omega, by omega⟩) (by first | with_reducible assumption | exact ⟨by omega, by omega⟩) h_f_h0_world_crew_cell h_f_h0_world_term h_f_h0_world_rock_kind (by first | with_reducible assumption | exact ⟨by omega, by omega⟩) (by first | with_reducible assumption | exact ⟨by omega, by omega⟩) (by first | with_reducible assumption | exact ⟨by omega, by omega⟩) h_f_t_code (by first | with_reducible assumption | exact ⟨by omega, by omega⟩) h_f_h0_world_folk_column h_f_h0_world_rock_hard h_f_h0_world_rock_water h_f_h0_world_crew_buckets (by first | with_reducible assumption | exact ⟨by omega, by omega⟩) (by first | with_reducible assumption | exact ⟨by omega, by omega⟩) e_0 e_1 e_2 e_3 e_4 (by omega) (by omega) (by omega) (by assumption) (fun r38 u39_0 u39_1 u39_2 u39_3 u39_4 u39_5 u39_6 u39_7 u39_8 u39_9 u39_10 u39_11 u39_12 u39_13 u39_14 u39_15 u39_16 H40 => ?_)
        have j41 := H40.1
        have j42 := H40.2.1
        have j43 := H40.2.2.1
        have j44 := H40.2.2.2.1
        have j45 := H40.2.2.2.2.1
        have j46 := H40.2.2.2.2.2.1
        have j47 := H40.2.2.2.2.2.2.1
        have j48 := H40.2.2.2.2.2.2.2.1
        have j49 := H40.2.2.2.2.2.2.2.2.1
        have j50 := H40.2.2.2.2.2.2.2.2.2.1
        have j51 := H40.2.2.2.2.2.2.2.2.2.2
        refine un17_i ?_
        by_cases c52 : r38 < 0
        · refine br1 c52 ?_
          have d53 := lt_z (x := (Int32.toInt r38)) (y := 0) rfl rfl c52
          have hR54 : rnR (lawW w ls) w cl (ovW w h0_asker_done.toInt h0_asker_latest.toInt) = r38.toInt := (rnR_haul (by rw [hs1]; exact hx11) (by omega)).trans (by rw [← hv12]; exact j48.symm)
          exact hq _ _ _ _ _ _ _ _ _ _ _ _ _ _ _ _ _ _ _ _ _ _ _ ⟨(by decide), (by first | with_reducible assumption | exact ⟨by omega, by omega⟩), h_f_h0_world_folk_column, j44, j42, h_f_h0_world_crew_cell, j45, (by first | with_reducible assumption | exact ⟨by omega, by omega⟩), (by first | with_reducible assumption | exact ⟨by omega, by omega⟩), (by rw [hR54, if_pos (by omega)]; rfl), (by rw [rnW_haul (by rw [hs1]; exact hx11) (by omega), ← hv12]; exact j49), (by rw [rnW_haul (by rw [hs1]; exact hx11) (by omega), rnR_haul (by rw [hs1]; exact hx11) (by omega), show (cl.1 : Int) = 1 by omega, ← hv12]; exact j50), j51, (fun q => absurd q (by rw [hR54]; omega))⟩
        · refine br0 c52 ?_
          have d55 := nlt_z (x := (Int32.toInt r38)) (y := 0) rfl rfl c52
          have hR56 : rnR (lawW w ls) w cl (ovW w h0_asker_done.toInt h0_asker_latest.toInt) = r38.toInt := (rnR_haul (by rw [hs1]; exact hx11) (by omega)).trans (by rw [← hv12]; exact j48.symm)
          exact hq _ _ _ _ _ _ _ _ _ _ _ _ _ _ _ _ _ _ _ _ _ _ _ ⟨(by decide), (by first | with_reducible assumption | exact ⟨by omega, by omega⟩), h_f_h0_world_folk_column, j44, j42, h_f_h0_world_crew_cell, j45, (by first | with_reducible assumption | exact ⟨by omega, by omega⟩), (by first | with_reducible assumption | exact ⟨by omega, by omega⟩), (by rw [hR56, if_neg (by omega)]; rfl), (by rw [rnW_haul (by rw [hs1]; exact hx11) (by omega), ← hv12]; exact j49), (by rw [rnW_haul (by rw [hs1]; exact hx11) (by omega), rnR_haul (by rw [hs1]; exact hx11) (by omega), show (cl.1 : Int) = 1 by omega, ← hv12]; exact j50), j51, (fun _ => by rw [if_pos (by omega), hR56])⟩
      · refine br0 c36 ?_
        have d57 := ne_z (x := (Int32.toInt r14)) (y := 20) rfl rfl c36
        have k59 : Int32.toInt 2 = 2 := rfl
        refine z_hd2 e_5 (by omega) (by omega) (by omega) (fun r58 H60 => ?_)
        have sg61 := H60
        obtain ⟨s2, hs2⟩ := e_6.2.2.1 (by omega)
        rw [hs2] at sg61
        refine z_rsum (RXw.evO e_0 (by omega) (by omega)) (by omega) (by omega) (by omega) sg61 (fun r63 v64 st65 H70 => ?_)
        refine un2_i ?_
        rcases H70 with ⟨e66, x62, hx68, hv69⟩ | ⟨e66, hx68⟩
        · skip
          refine br0 (z_ne (x := (Int32.toInt r63)) (y := 0) rfl rfl (by omega)) ?_
          refine o_X0_reckoned _ _ ?_
          by_cases c71 : r14 = 22
          · refine br1 c71 ?_
            have d72 := eq_z (x := (Int32.toInt r14)) (y := 22) rfl rfl c71
            refine s_X7_tryLiez v7 v64 h0_world_folk_listeners (f_h0_world_folk_column) h0_diary_kept h0_diary_latest (f_h0_diary_deed) (f_h0_diary_whose) (f_h0_diary_before) (f_h0_diary_bucketsBefore) (f_h0_diary_dayBefore) (by first | with_reducible assumption | exact ⟨by omega, by omega⟩) h_f_h0_world_folk_column (by first | with_reducible assumption | exact ⟨by omega, by omega⟩) (by first | with_reducible assumption | exact ⟨by omega, by omega⟩) e_0 e_1 e_2 (fun r73 u74_0 u74_1 u74_2 u74_3 u74_4 u74_5 u74_6 u74_7 H75 => ?_)
            have j76 := H75.1
            have j77 := H75.2.1
            have j78 := H75.2.2.1
            have j79 := H75.2.2.2.1
            have j80 := H75.2.2.2.2.1
            have j81 := H75.2.2.2.2.2.1
            have j82 := H75.2.2.2.2.2.2.1
            have j83 := H75.2.2.2.2.2.2.2
            refine un8_i ?_
            by_cases c84 : r73 < 0
            · refine br1 c84 ?_
              have d85 := lt_z (x := (Int32.toInt r73)) (y := 0) rfl rfl c84
              have hR86 : rnR (lawW w ls) w cl (ovW w h0_asker_done.toInt h0_asker_latest.toInt) = r73.toInt := (rnR_lie (by rw [hs1]; exact hx11) (by rw [hs2]; exact hx68) (by omega)).trans (by rw [← hv12, ← hv69]; exact j80.symm)
              exact hq _ _ _ _ _ _ _ _ _ _ _ _ _ _ _ _ _ _ _ _ _ _ _ ⟨(by decide), (by first | with_reducible assumption | exact ⟨by omega, by omega⟩), j77, h_f_h0_world_rock_water, h_f_h0_world_term, h_f_h0_world_crew_cell, h_f_h0_world_crew_buckets, (by first | with_reducible assumption | exact ⟨by omega, by omega⟩), (by first | with_reducible assumption | exact ⟨by omega, by omega⟩), (by rw [hR86, if_pos (by omega)]; rfl), (by rw [rnW_lie (by rw [hs1]; exact hx11) (by rw [hs2]; exact hx68) (by omega), ← hv12, ← hv69]; exact j81), (by rw [rnW_lie (by rw [hs1]; exact hx11) (by rw [hs2]; exact hx68) (by omega), rnR_lie (by rw [hs1]; exact hx11) (by rw [hs2]; exact hx68) (by omega), show (cl.1 : Int) = 3 by omega, ← hv12, ← hv69]; exact j82), j83, (fun q => absurd q (by rw [hR86]; omega))⟩
            · refine br0 c84 ?_
              have d87 := nlt_z (x := (Int32.toInt r73)) (y := 0) rfl rfl c84
              have hR88 : rnR (lawW w ls) w cl (ovW w h0_asker_done.toInt h0_asker_latest.toInt) = r73.toInt := (rnR_lie (by rw [hs1]; exact hx11) (by rw [hs2]; exact hx68) (by omega)).trans (by rw [← hv12, ← hv69]; exact j80.symm)
              exact hq _ _ _ _ _ _ _ _ _ _ _ _ _ _ _ _ _ _ _ _ _ _ _ ⟨(by decide), (by first | with_reducible assumption | exact ⟨by omega, by omega⟩), j77, h_f_h0_world_rock_water, h_f_h0_world_term, h_f_h0_world_crew_cell, h_f_h0_world_crew_buckets, (by first | with_reducible assumption | exact ⟨by omega, by omega⟩), (by first | with_reducible assumption | exact ⟨by omega, by omega⟩), (by rw [hR88, if_neg (by omega)]; rfl), (by rw [rnW_lie (by rw [hs1]; exact hx11) (by rw [hs2]; exact hx68) (by omega), ← hv12, ← hv69]; exact j81), (by rw [rnW_lie (by rw [hs1]; exact hx11) (by rw [hs2]; exact hx68) (by omega), rnR_lie (by rw [hs1]; exact hx11) (by rw [hs2]; exact hx68) (by omega), show (cl.1 : Int) = 3 by omega, ← hv12, ← hv69]; exact j82), j83, (fun _ => by rw [if_neg (by omega)])⟩
          · refine br0 c71 ?_
            have d89 := ne_z (x := (Int32.toInt r14)) (y := 22) rfl rfl c71
            refine s_X7_tryDig_Tz (ls := ls) v7 v64 h0_world h0_world_lawCount h0_world_force h0_world_crew_count (f_h0_world_crew_cell) h0_world_rock_dug (f_h0_world_rock_kind) (f_h0_world_laws) (Value.ref h0_world) h0_asker_law h0_asker_cell h0_asker_shaft h0_asker_kind h0_asker_done h0_asker_latest v64 (f_h0_world_term) (f_h0_world_rock_hard) t t_clauses t_length n_t_heads (f_t_heads) n_t_code (f_t_code) (st65) h0_world_folk_listeners (f_h0_world_folk_column) (f_h0_world_rock_water) (f_h0_world_crew_buckets) h0_diary_kept h0_diary_latest (f_h0_diary_deed) (f_h0_diary_whose) (f_h0_diary_before) (f_h0_diary_bucketsBefore) (f_h0_diary_dayBefore) (by first | with_reducible assumption | exact ⟨by omega, by omega⟩) (by first | with_reducible assumption | exact ⟨by omega, by omega⟩) (by first | with_reducible assumption | exact ⟨by omega, by omega⟩) h_f_h0_world_crew_cell h_f_h0_world_rock_kind (by first | with_reducible assumption | exact ⟨by omega, by omega⟩) h_f_h0_world_term h_f_h0_world_rock_hard (by first | with_reducible assumption | exact ⟨by omega, by omega⟩) (by first | with_reducible assumption | exact ⟨by omega, by omega⟩) h_f_t_code (by first | with_reducible assumption | exact ⟨by omega, by omega⟩) h_f_h0_world_folk_column h_f_h0_world_rock_water h_f_h0_world_crew_buckets (by first | with_reducible assumption | exact ⟨by omega, by omega⟩) (by first | with_reducible assumption | exact ⟨by omega, by omega⟩) e_0 e_1 e_2 e_3 e_4 (by omega) (by omega) (by omega) (by assumption) (fun r90 u91_0 u91_1 u91_2 u91_3 u91_4 u91_5 u91_6 u91_7 u91_8 u91_9 u91_10 u91_11 u91_12 u91_13 u91_14 u91_15 u91_16 H92 => ?_)
            have j93 := H92.1
            have j94 := H92.2.1
            have j95 := H92.2.2.1
            have j96 := H92.2.2.2.1
            have j97 := H92.2.2.2.2.1
            have j98 := H92.2.2.2.2.2.1
            have j99 := H92.2.2.2.2.2.2.1
            have j100 := H92.2.2.2.2.2.2.2.1
            have j101 := H92.2.2.2.2.2.2.2.2.1
            have j102 := H92.2.2.2.2.2.2.2.2.2
            refine un17_i ?_
            by_cases c103 : r90 < 0
            · refine br1 c103 ?_
              have d104 := lt_z (x := (Int32.toInt r90)) (y := 0) rfl rfl c103
              have hR105 : rnR (lawW w ls) w cl (ovW w h0_asker_done.toInt h0_asker_latest.toInt) = r90.toInt := (rnR_dig (by rw [hs1]; exact hx11) (by rw [hs2]; exact hx68) (by omega)).trans (by rw [← hv12, ← hv69]; exact j99.symm)
              exact hq _ _ _ _ _ _ _ _ _ _ _ _ _ _ _ _ _ _ _ _ _ _ _ ⟨(by decide), (by first | with_reducible assumption | exact ⟨by omega, by omega⟩), h_f_h0_world_folk_column, h_f_h0_world_rock_water, j96, j94, h_f_h0_world_crew_buckets, (by first | with_reducible assumption | exact ⟨by omega, by omega⟩), (by first | with_reducible assumption | exact ⟨by omega, by omega⟩), (by rw [hR105, if_pos (by omega)]; rfl), (by rw [rnW_dig (by rw [hs1]; exact hx11) (by rw [hs2]; exact hx68) (by omega), ← hv12, ← hv69]; exact j100), (by rw [rnW_dig (by rw [hs1]; exact hx11) (by rw [hs2]; exact hx68) (by omega), rnR_dig (by rw [hs1]; exact hx11) (by rw [hs2]; exact hx68) (by omega), show (cl.1 : Int) = 0 by omega, ← hv12, ← hv69]; exact j101), j102, (fun q => absurd q (by rw [hR105]; omega))⟩
            · refine br0 c103 ?_
              have d106 := nlt_z (x := (Int32.toInt r90)) (y := 0) rfl rfl c103
              have hR107 : rnR (lawW w ls) w cl (ovW w h0_asker_done.toInt h0_asker_latest.toInt) = r90.toInt := (rnR_dig (by rw [hs1]; exact hx11) (by rw [hs2]; exact hx68) (by omega)).trans (by rw [← hv12, ← hv69]; exact j99.symm)
              exact hq _ _ _ _ _ _ _ _ _ _ _ _ _ _ _ _ _ _ _ _ _ _ _ ⟨(by decide), (by first | with_reducible assumption | exact ⟨by omega, by omega⟩), h_f_h0_world_folk_column, h_f_h0_world_rock_water, j96, j94, h_f_h0_world_crew_buckets, (by first | with_reducible assumption | exact ⟨by omega, by omega⟩), (by first | with_reducible assumption | exact ⟨by omega, by omega⟩), (by rw [hR107, if_neg (by omega)]; rfl), (by rw [rnW_dig (by rw [hs1]; exact hx11) (by rw [hs2]; exact hx68) (by omega), ← hv12, ← hv69]; exact j100), (by rw [rnW_dig (by rw [hs1]; exact hx11) (by rw [hs2]; exact hx68) (by omega), rnR_dig (by rw [hs1]; exact hx11) (by rw [hs2]; exact hx68) (by omega), show (cl.1 : Int) = 0 by omega, ← hv12, ← hv69]; exact j101), j102, (fun _ => by rw [if_pos (by omega), hR107])⟩
        · skip
          refine br1 (z_eq (x := (Int32.toInt r63)) (y := 0) rfl rfl (by omega)) ?_
          have hR108 : rnR (lawW w ls) w cl (ovW w h0_asker_done.toInt h0_asker_latest.toInt) = -3 := rnR_1 (by rw [hs1]; exact hx11) (by rw [hs2]; exact hx68) (by first | with_reducible assumption | exact ⟨by omega, by omega⟩)
          exact hq _ _ _ _ _ _ _ _ _ _ _ _ _ _ _ _ _ _ _ _ _ _ _ ⟨(by decide), (by first | with_reducible assumption | exact ⟨by omega, by omega⟩), h_f_h0_world_folk_column, h_f_h0_world_rock_water, h_f_h0_world_term, h_f_h0_world_crew_cell, h_f_h0_world_crew_buckets, (by first | with_reducible assumption | exact ⟨by omega, by omega⟩), (by first | with_reducible assumption | exact ⟨by omega, by omega⟩), (by rw [hR108, if_pos (by omega)]; rfl), (by rw [rnW_1 (by rw [hs1]; exact hx11) (by rw [hs2]; exact hx68) (by first | with_reducible assumption | exact ⟨by omega, by omega⟩)]; exact e_0), (by rw [rnW_1 (by rw [hs1]; exact hx11) (by rw [hs2]; exact hx68) (by first | with_reducible assumption | exact ⟨by omega, by omega⟩), rnR_1 (by rw [hs1]; exact hx11) (by rw [hs2]; exact hx68) (by first | with_reducible assumption | exact ⟨by omega, by omega⟩), rmU_n (by decide)]; exact e_1), e_2, (fun q => absurd q (by rw [hR108]; omega))⟩
  · skip
    refine br1 (z_eq (x := (Int32.toInt r6)) (y := 0) rfl rfl (by omega)) ?_
    have k109 : Int32.toInt 0 = 0 := rfl
    have hR110 : rnR (lawW w ls) w cl (ovW w h0_asker_done.toInt h0_asker_latest.toInt) = -3 := rnR_0 (by rw [hs1]; exact hx11)
    exact hq _ _ _ _ _ _ _ _ _ _ _ _ _ _ _ _ _ _ _ _ _ _ _ ⟨(by decide), (by first | with_reducible assumption | exact ⟨by omega, by omega⟩), h_f_h0_world_folk_column, h_f_h0_world_rock_water, h_f_h0_world_term, h_f_h0_world_crew_cell, h_f_h0_world_crew_buckets, (by first | with_reducible assumption | exact ⟨by omega, by omega⟩), (by first | with_reducible assumption | exact ⟨by omega, by omega⟩), (by rw [hR110, if_pos (by omega)]; rfl), (by rw [rnW_0 (by rw [hs1]; exact hx11)]; exact e_0), (by rw [rnW_0 (by rw [hs1]; exact hx11), rnR_0 (by rw [hs1]; exact hx11), rmU_n (by decide)]; exact e_1), e_2, (fun q => absurd q (by rw [hR110]; omega))⟩


set_option maxRecDepth 100000 in
theorem sl_X7_runOrders_N_38z (h0_world : Nat) (p0_length : Int32) (n_p0_heads : Nat) (f_p0_heads : Nat → Int32) (n_p0_code : Nat) (f_p0_code : Nat → Int32) (h0_world_lawCount : Int32) (h0_world_force : Int32) (h0_world_folk_listeners : Int32) (h0_world_folk_noises : Int32) (f_h0_world_rock_hard : Nat → Int32) (h0_world_crew_count : Int32) (f_h0_world_rock_kind : Nat → Int32) (f_h0_world_laws : Nat → Option Nat) (f_h0_world_folk_noiseColumn : Nat → Int32) (f_h0_world_folk_noiseLoud : Nat → Int32) (x_12_0 : Int32) (r_23 : Int32) (r_30 : Int32) (w : Nat → Int) (U : UL) (ls : Nat → List Cls) (L : List Cls) (c0 : Nat) (g_ea : Nat → Int32) (g_hc : Nat → Int32) (g_hl : Nat → Int32) (g_hs : Int32) (g_so : Nat → Int32) (g_we : Nat → Int32) (g_wl : Int32) (cl : Cls) (r1 : List Cls) (s0 : OSt) (h_p0_length : 0 ≤ p0_length.toInt ∧ p0_length.toInt ≤ 400) (h_f_p0_heads : HD f_p0_heads) (h_f_p0_code : CD f_p0_code) (h_h0_world_lawCount : 0 ≤ h0_world_lawCount.toInt ∧ h0_world_lawCount.toInt ≤ 6) (h_h0_world_force : (-1) ≤ h0_world_force.toInt ∧ h0_world_force.toInt ≤ (-1)) (h_h0_world_folk_listeners : 0 ≤ h0_world_folk_listeners.toInt ∧ h0_world_folk_listeners.toInt ≤ 5) (h_h0_world_folk_noises : 0 ≤ h0_world_folk_noises.toInt ∧ h0_world_folk_noises.toInt ≤ 6) (h_f_h0_world_rock_hard : HA f_h0_world_rock_hard) (h_h0_world_crew_count : 0 ≤ h0_world_crew_count.toInt ∧ h0_world_crew_count.toInt ≤ 6) (h_f_h0_world_rock_kind : KI f_h0_world_rock_kind) (h_f_h0_world_folk_noiseColumn : NC f_h0_world_folk_noiseColumn) (h_f_h0_world_folk_noiseLoud : NL f_h0_world_folk_noiseLoud) (h_x_12_0 : 0 ≤ x_12_0.toInt ∧ x_12_0.toInt ≤ 11) (h_r_23 : 1 ≤ r_23.toInt ∧ r_23.toInt ≤ 20) (z23 : r_23.toInt = (cl.2.2.2.1 : Int)) (hxc : XC true f_p0_heads f_p0_code c0 x_12_0.toInt.toNat cl) (hokO : okO cl) (hsg3 : sgX true f_p0_code c0 r_30 cl.2.2.2.2) (zl : p0_length.toInt = (c0 : Int) ∧ c0 ≤ 400 ∧ c0 ≤ n_p0_code ∧ n_p0_heads = 60 ∧ x_12_0.toInt ≤ 11) (hO : ordF ls 0 L (w, U, 0, -1) = ordF ls x_12_0.toInt.toNat (cl :: r1) s0) (z_n_p0_heads : n_p0_heads < 100000) (z_n_p0_code : p0_length.toInt ≤ (n_p0_code : Int)) {Q : Int32 → (Int32 × Int32 × Value × Value × Int32 × Int32 × Int32 × Int32 × Int32 × Int32 × (Nat → Int64) × Int32 × (Nat → Int32) × Int64 × (Nat → Int32) × (Nat → Int32) × (Nat → Int32) × (Nat → Int32) × Int32 × Int32 × (Nat → Int32) × (Nat → Int32) × (Nat → Int32) × (Nat → Int32) × (Nat → Int32)) → Prop} (hq : ∀ (r : Int32) (u_0 : Int32) (u_1 : Int32) (u_2 : Value) (u_3 : Value) (u_4 : Int32) (u_5 : Int32) (u_6 : Int32) (u_7 : Int32) (u_8 : Int32) (u_9 : Int32) (u_10 : Nat → Int64) (u_11 : Int32) (u_12 : Nat → Int32) (u_13 : Int64) (u_14 : Nat → Int32) (u_15 : Nat → Int32) (u_16 : Nat → Int32) (u_17 : Nat → Int32) (u_18 : Int32) (u_19 : Int32) (u_20 : Nat → Int32) (u_21 : Nat → Int32) (u_22 : Nat → Int32) (u_23 : Nat → Int32) (u_24 : Nat → Int32), ((-1) ≤ r.toInt ∧ r.toInt ≤ 11) ∧ (0 ≤ u_0.toInt ∧ u_0.toInt ≤ 240) ∧ (0 ≤ u_4.toInt ∧ u_4.toInt ≤ 39) ∧ (CO u_12) ∧ (WA u_14) ∧ (TE u_15) ∧ (CE u_16) ∧ (BU u_17) ∧ (0 ≤ u_18.toInt ∧ u_18.toInt ≤ 16) ∧ (0 ≤ u_19.toInt ∧ u_19.toInt ≤ 15) ∧ (r.toInt = (ordF ls 0 L (w, U, 0, -1)).2 ∧ ∀ s : OSt, (ordF ls 0 L (w, U, 0, -1)).1 = some s → RXw f_h0_world_rock_kind f_h0_world_rock_hard u_14 u_13 u_16 u_17 h0_world_crew_count u_12 g_ea h0_world_folk_listeners f_h0_world_folk_noiseColumn f_h0_world_folk_noiseLoud h0_world_folk_noises u_11 g_hc g_hl g_hs g_so g_we g_wl u_15 h0_world_lawCount h0_world_force s.1 ∧ RXu u_20 u_21 u_22 u_23 u_24 u_18 u_19 s.1 s.2.1 ∧ u_0.toInt = s.2.2.1) ∧ (DI u_20 u_21 u_22 u_23 u_24) → Q r (u_0, u_1, u_2, u_3, u_4, u_5, u_6, u_7, u_8, u_9, u_10, u_11, u_12, u_13, u_14, u_15, u_16, u_17, u_18, u_19, u_20, u_21, u_22, u_23, u_24)) (Qb : Int32 → Int32 → Int32 → Value → Value → Int32 → Int32 → Int32 → Int32 → Int32 → Int32 → (Nat → Int64) → Int32 → (Nat → Int32) → Int64 → (Nat → Int32) → (Nat → Int32) → (Nat → Int32) → (Nat → Int32) → Int32 → Int32 → (Nat → Int32) → (Nat → Int32) → (Nat → Int32) → (Nat → Int32) → (Nat → Int32) → Prop) (KX : ∀ (x_38_0 : Int32) (x_38_1 : Int32) (x_38_2 : Int32) (x_38_3 : Value) (x_38_4 : Value) (x_38_5 : Int32) (x_38_6 : Int32) (x_38_7 : Int32) (x_38_8 : Int32) (x_38_9 : Int32) (x_38_10 : Int32) (x_38_11 : Nat → Int64) (x_38_12 : Int32) (x_38_13 : Nat → Int32) (x_38_14 : Int64) (x_38_15 : Nat → Int32) (x_38_16 : Nat → Int32) (x_38_17 : Nat → Int32) (x_38_18 : Nat → Int32) (x_38_19 : Int32) (x_38_20 : Int32) (x_38_21 : Nat → Int32) (x_38_22 : Nat → Int32) (x_38_23 : Nat → Int32) (x_38_24 : Nat → Int32) (x_38_25 : Nat → Int32), (1 ≤ x_38_0.toInt ∧ x_38_0.toInt ≤ 20) ∧ (0 ≤ x_38_1.toInt ∧ x_38_1.toInt ≤ 240) ∧ (0 ≤ x_38_5.toInt ∧ x_38_5.toInt ≤ 39) ∧ (CO x_38_13) ∧ (WA x_38_15) ∧ (TE x_38_16) ∧ (CE x_38_17) ∧ (BU x_38_18) ∧ (0 ≤ x_38_19.toInt ∧ x_38_19.toInt ≤ 16) ∧ (0 ≤ x_38_20.toInt ∧ x_38_20.toInt ≤ 15) ∧ (DI x_38_21 x_38_22 x_38_23 x_38_24 x_38_25) ∧ (x_38_1.toInt ≤ 20 * x_12_0.toInt + x_38_0.toInt) ∧ (∃ s : OSt, rnT ls cl cl.2.2.2.1 s0 = rnT ls cl (cl.2.2.2.1 - (x_38_0.toInt).toNat) s ∧ RXw f_h0_world_rock_kind f_h0_world_rock_hard x_38_15 x_38_14 x_38_17 x_38_18 h0_world_crew_count x_38_13 g_ea h0_world_folk_listeners f_h0_world_folk_noiseColumn f_h0_world_folk_noiseLoud h0_world_folk_noises x_38_12 g_hc g_hl g_hs g_so g_we g_wl x_38_16 h0_world_lawCount h0_world_force s.1 ∧ RXu x_38_21 x_38_22 x_38_23 x_38_24 x_38_25 x_38_19 x_38_20 s.1 s.2.1 ∧ x_38_1.toInt = s.2.2.1 ∧ x_38_2.toInt = s.2.2.2) ∧ (∃ s : OSt, rnT ls cl cl.2.2.2.1 s0 = some s ∧ RXw f_h0_world_rock_kind f_h0_world_rock_hard x_38_15 x_38_14 x_38_17 x_38_18 h0_world_crew_count x_38_13 g_ea h0_world_folk_listeners f_h0_world_folk_noiseColumn f_h0_world_folk_noiseLoud h0_world_folk_noises x_38_12 g_hc g_hl g_hs g_so g_we g_wl x_38_16 h0_world_lawCount h0_world_force s.1 ∧ RXu x_38_21 x_38_22 x_38_23 x_38_24 x_38_25 x_38_19 x_38_20 s.1 s.2.1 ∧ x_38_1.toInt = s.2.2.1 ∧ x_38_2.toInt = s.2.2.2) → Qb x_38_0 x_38_1 x_38_2 x_38_3 x_38_4 x_38_5 x_38_6 x_38_7 x_38_8 x_38_9 x_38_10 x_38_11 x_38_12 x_38_13 x_38_14 x_38_15 x_38_16 x_38_17 x_38_18 x_38_19 x_38_20 x_38_21 x_38_22 x_38_23 x_38_24 x_38_25) : ∀ (n : Nat) (x_38_0 : Int32) (x_38_1 : Int32) (x_38_2 : Int32) (x_38_3 : Value) (x_38_4 : Value) (x_38_5 : Int32) (x_38_6 : Int32) (x_38_7 : Int32) (x_38_8 : Int32) (x_38_9 : Int32) (x_38_10 : Int32) (x_38_11 : Nat → Int64) (x_38_12 : Int32) (x_38_13 : Nat → Int32) (x_38_14 : Int64) (x_38_15 : Nat → Int32) (x_38_16 : Nat → Int32) (x_38_17 : Nat → Int32) (x_38_18 : Nat → Int32) (x_38_19 : Int32) (x_38_20 : Int32) (x_38_21 : Nat → Int32) (x_38_22 : Nat → Int32) (x_38_23 : Nat → Int32) (x_38_24 : Nat → Int32) (x_38_25 : Nat → Int32), (0 ≤ x_38_0.toInt ∧ x_38_0.toInt ≤ 20) ∧ (0 ≤ x_38_1.toInt ∧ x_38_1.toInt ≤ 240) ∧ (0 ≤ x_38_5.toInt ∧ x_38_5.toInt ≤ 39) ∧ (CO x_38_13) ∧ (WA x_38_15) ∧ (TE x_38_16) ∧ (CE x_38_17) ∧ (BU x_38_18) ∧ (0 ≤ x_38_19.toInt ∧ x_38_19.toInt ≤ 16) ∧ (0 ≤ x_38_20.toInt ∧ x_38_20.toInt ≤ 15) ∧ (DI x_38_21 x_38_22 x_38_23 x_38_24 x_38_25) ∧ (x_38_1.toInt ≤ 20 * x_12_0.toInt + x_38_0.toInt) ∧ (∃ s : OSt, rnT ls cl cl.2.2.2.1 s0 = rnT ls cl (cl.2.2.2.1 - (x_38_0.toInt).toNat) s ∧ RXw f_h0_world_rock_kind f_h0_world_rock_hard x_38_15 x_38_14 x_38_17 x_38_18 h0_world_crew_count x_38_13 g_ea h0_world_folk_listeners f_h0_world_folk_noiseColumn f_h0_world_folk_noiseLoud h0_world_folk_noises x_38_12 g_hc g_hl g_hs g_so g_we g_wl x_38_16 h0_world_lawCount h0_world_force s.1 ∧ RXu x_38_21 x_38_22 x_38_23 x_38_24 x_38_25 x_38_19 x_38_20 s.1 s.2.1 ∧ x_38_1.toInt = s.2.2.1 ∧ x_38_2.toInt = s.2.2.2) → 21 - x_38_0.toInt < (n : Int) → wl_X7_runOrders_N_38 h0_world p0_length n_p0_heads f_p0_heads n_p0_code f_p0_code h0_world_lawCount h0_world_force h0_world_folk_listeners h0_world_folk_noises f_h0_world_rock_hard h0_world_crew_count f_h0_world_rock_kind f_h0_world_laws f_h0_world_folk_noiseColumn f_h0_world_folk_noiseLoud x_12_0 r_23 r_30 Q Qb n x_38_0 x_38_1 x_38_2 x_38_3 x_38_4 x_38_5 x_38_6 x_38_7 x_38_8 x_38_9 x_38_10 x_38_11 x_38_12 x_38_13 x_38_14 x_38_15 x_38_16 x_38_17 x_38_18 x_38_19 x_38_20 x_38_21 x_38_22 x_38_23 x_38_24 x_38_25 := by
  intro n
  induction n with
  | zero =>
    intro x_38_0 x_38_1 x_38_2 x_38_3 x_38_4 x_38_5 x_38_6 x_38_7 x_38_8 x_38_9 x_38_10 x_38_11 x_38_12 x_38_13 x_38_14 x_38_15 x_38_16 x_38_17 x_38_18 x_38_19 x_38_20 x_38_21 x_38_22 x_38_23 x_38_24 x_38_25 hI hm
    exfalso; have hm : 21 - x_38_0.toInt < 0 := hm; omega
  | succ n ih =>
    intro x_38_0 x_38_1 x_38_2 x_38_3 x_38_4 x_38_5 x_38_6 x_38_7 x_38_8 x_38_9 x_38_10 x_38_11 x_38_12 x_38_13 x_38_14 x_38_15 x_38_16 x_38_17 x_38_18 x_38_19 x_38_20 x_38_21 x_38_22 x_38_23 x_38_24 x_38_25 hI hm
    have hm : 21 - x_38_0.toInt < (n : Int) + 1 := by simpa using hm
    have h_x_38_0 := hI.1
    have h_x_38_1 := hI.2.1
    have h_x_38_5 := hI.2.2.1
    have h_x_38_13 := hI.2.2.2.1
    have h_x_38_15 := hI.2.2.2.2.1
    have h_x_38_16 := hI.2.2.2.2.2.1
    have h_x_38_17 := hI.2.2.2.2.2.2.1
    have h_x_38_18 := hI.2.2.2.2.2.2.2.1
    have h_x_38_19 := hI.2.2.2.2.2.2.2.2.1
    have h_x_38_20 := hI.2.2.2.2.2.2.2.2.2.1
    have h_rel0 := hI.2.2.2.2.2.2.2.2.2.2.1
    have h_rel1 := hI.2.2.2.2.2.2.2.2.2.2.2.1
    have h_rel2 := hI.2.2.2.2.2.2.2.2.2.2.2.2
    unfold wl_X7_runOrders_N_38
    have ol := hokO.2.2.2.2.1
    obtain ⟨zl1, zl2, zl3, zl4, zl5⟩ := zl
    obtain ⟨⟨w1, U1, dn1, lt1⟩, hI, hX, hU, hd, hl⟩ := h_rel2
    have hd : x_38_1.toInt = dn1 := hd
    have hl : x_38_2.toInt = lt1 := hl
    subst hd
    subst hl
    have l_kd := RXw.kd hX
    have l_hd := RXw.hd hX
    have l_wt := RXw.wt hX
    have l_ce := RXw.ce hX
    have l_bu := RXw.bu hX
    have l_cc : h0_world_crew_count.toInt = w1 0 := RXw.cc hX
    have l_co := RXw.co hX
    have l_ls : h0_world_folk_listeners.toInt = w1 1 := RXw.ls hX
    have l_nc := RXw.nc hX
    have l_nl := RXw.nl hX
    have l_ns : h0_world_folk_noises.toInt = w1 2 := RXw.ns hX
    have l_te := RXw.te hX
    have l_lc : h0_world_lawCount.toInt = w1 5 := RXw.lc hX
    have l_fo : h0_world_force.toInt = w1 6 := RXw.fo hX
    by_cases c12 : r_23 ≤ x_38_0
    · refine br1 c12 ?_
      have d13 := le_z (x := (Int32.toInt r_23)) (y := (Int32.toInt x_38_0)) rfl rfl c12
      exact KX _ _ _ _ _ _ _ _ _ _ _ _ _ _ _ _ _ _ _ _ _ _ _ _ _ _ ⟨(by first | with_reducible assumption | exact ⟨by omega, by omega⟩), (by first | with_reducible assumption | exact ⟨by omega, by omega⟩), (by first | with_reducible assumption | exact ⟨by omega, by omega⟩), h_x_38_13, h_x_38_15, h_x_38_16, h_x_38_17, h_x_38_18, (by first | with_reducible assumption | exact ⟨by omega, by omega⟩), (by first | with_reducible assumption | exact ⟨by omega, by omega⟩), h_rel0, (by omega), ⟨(w1, U1, x_38_1.toInt, x_38_2.toInt), hI, hX, hU, rfl, rfl⟩, ⟨(w1, U1, x_38_1.toInt, x_38_2.toInt), by rw [hI, show cl.2.2.2.1 - x_38_0.toInt.toNat = 0 by omega]; rfl, hX, hU, rfl, rfl⟩⟩
    · refine br0 c12 ?_
      have d14 := nle_z (x := (Int32.toInt r_23)) (y := (Int32.toInt x_38_0)) rfl rfl c12
      refine o_X0_turnToOrders _ _ _ ?_
      refine un2_i ?_
      refine jn_s ?_
      by_cases c15 : r_30 = (-1)
      · refine br1 c15 ?_
        have d16 := eq_z (x := (Int32.toInt r_30)) (y := (-1)) rfl (by decide) c15
        have hg17 := z_tst0 (v := ovW w1 x_38_1.toInt x_38_2.toInt) hsg3 (by omega)
        refine un2_i ?_
        refine s_X7_runOrder_Nz (ls := ls) x_12_0 h0_world x_38_2 p0_length n_p0_heads (f_p0_heads) x_38_4 x_38_5 x_38_6 x_38_7 x_38_1 x_38_2 x_38_10 n_p0_code (f_p0_code) (x_38_11) h0_world_lawCount h0_world_force h0_world_folk_listeners h0_world_folk_noises x_38_12 (x_38_13) x_38_14 (f_h0_world_rock_hard) (x_38_15) (x_38_16) h0_world_crew_count (x_38_17) (x_38_18) (f_h0_world_rock_kind) (f_h0_world_laws) x_38_19 x_38_20 (x_38_21) (x_38_22) (x_38_23) (x_38_24) (x_38_25) (f_h0_world_folk_noiseColumn) (f_h0_world_folk_noiseLoud) (by first | with_reducible assumption | exact ⟨by omega, by omega⟩) (by first | with_reducible assumption | exact ⟨by omega, by omega⟩) h_f_p0_heads (by first | with_reducible assumption | exact ⟨by omega, by omega⟩) h_f_p0_code (by first | with_reducible assumption | exact ⟨by omega, by omega⟩) (by first | with_reducible assumption | exact ⟨by omega, by omega⟩) (by first | with_reducible assumption | exact ⟨by omega, by omega⟩) (by first | with_reducible assumption | exact ⟨by omega, by omega⟩) h_x_38_13 h_f_h0_world_rock_hard h_x_38_15 h_x_38_16 (by first | with_reducible assumption | exact ⟨by omega, by omega⟩) h_x_38_17 h_x_38_18 h_f_h0_world_rock_kind (by first | with_reducible assumption | exact ⟨by omega, by omega⟩) (by first | with_reducible assumption | exact ⟨by omega, by omega⟩) h_f_h0_world_folk_noiseColumn h_f_h0_world_folk_noiseLoud hX hU h_rel0 hxc hokO (by omega) (by omega) (by omega) (by omega) (by omega) (fun r18 u19_0 u19_1 u19_2 u19_3 u19_4 u19_5 u19_6 u19_7 u19_8 u19_9 u19_10 u19_11 u19_12 u19_13 u19_14 u19_15 u19_16 u19_17 u19_18 u19_19 u19_20 u19_21 H20 => ?_)
        have j21 := H20.1
        have j22 := H20.2.1
        have j23 := H20.2.2.1
        have j24 := H20.2.2.2.1
        have j25 := H20.2.2.2.2.1
        have j26 := H20.2.2.2.2.2.1
        have j27 := H20.2.2.2.2.2.2.1
        have j28 := H20.2.2.2.2.2.2.2.1
        have j29 := H20.2.2.2.2.2.2.2.2.1
        have j30 := H20.2.2.2.2.2.2.2.2.2.1
        have j31 := H20.2.2.2.2.2.2.2.2.2.2.1
        have j32 := H20.2.2.2.2.2.2.2.2.2.2.2.1
        have j33 := H20.2.2.2.2.2.2.2.2.2.2.2.2.1
        have j34 := H20.2.2.2.2.2.2.2.2.2.2.2.2.2
        refine un22_i ?_
        have an35 := j30
        by_cases c36 : r18 = 0
        · refine br1 c36 ?_
          have d37 := eq_z (x := (Int32.toInt r18)) (y := 0) rfl rfl c36
          have hp38 := ifz0 an35 (by omega)
          exact hq _ _ _ _ _ _ _ _ _ _ _ _ _ _ _ _ _ _ _ _ _ _ _ _ _ _ ⟨(by first | with_reducible assumption | exact ⟨by omega, by omega⟩), (by first | with_reducible assumption | exact ⟨by omega, by omega⟩), (by first | with_reducible assumption | exact ⟨by omega, by omega⟩), j23, j24, j25, j26, j27, (by first | with_reducible assumption | exact ⟨by omega, by omega⟩), (by first | with_reducible assumption | exact ⟨by omega, by omega⟩), ⟨by rw [hO, ordF_f (hI.trans (rnT_f (rn1_f (s := (w1, U1, x_38_1.toInt, x_38_2.toInt)) hg17 hp38) (m := cl.2.2.2.1 - x_38_0.toInt.toNat - 1) (by omega)))]; show x_12_0.toInt = ((x_12_0.toInt.toNat : Nat) : Int); omega, fun s hs => by rw [hO, ordF_f (hI.trans (rnT_f (rn1_f (s := (w1, U1, x_38_1.toInt, x_38_2.toInt)) hg17 hp38) (m := cl.2.2.2.1 - x_38_0.toInt.toNat - 1) (by omega)))] at hs; cases hs⟩, j33⟩
        · refine br0 c36 ?_
          have d39 := ne_z (x := (Int32.toInt r18)) (y := 0) rfl rfl c36
          have hp40 := ifz1 an35 (by omega)
          have t41 : (Int32.toInt (x_38_0 + 1)) = (Int32.toInt x_38_0) + 1 := add_z rfl rfl (by omega) (by omega)
          have t42 : (Int32.toInt (x_38_1 + 1)) = (Int32.toInt x_38_1) + 1 := add_z rfl rfl (by omega) (by omega)
          exact ih _ _ _ _ _ _ _ _ _ _ _ _ _ _ _ _ _ _ _ _ _ _ _ _ _ _ ⟨(by first | with_reducible assumption | exact ⟨by omega, by omega⟩), (by first | with_reducible assumption | exact ⟨by omega, by omega⟩), (by first | with_reducible assumption | exact ⟨by omega, by omega⟩), j23, j24, j25, j26, j27, (by first | with_reducible assumption | exact ⟨by omega, by omega⟩), (by first | with_reducible assumption | exact ⟨by omega, by omega⟩), j33, (by omega), ⟨_, by rw [hI, rnT_c (rn1_g (s := (w1, U1, x_38_1.toInt, x_38_2.toInt)) hg17 hp40) (show cl.2.2.2.1 - x_38_0.toInt.toNat = (cl.2.2.2.1 - (x_38_0 + 1).toInt.toNat) + 1 by omega)], j31, by have q := j32; rw [rmU_p hp40] at q; exact q, by omega, j34 hp40⟩⟩ (by omega)
      · refine br0 c15 ?_
        have d43 := ne_z (x := (Int32.toInt r_30)) (y := (-1)) rfl (by decide) c15
        refine z_rtst (RXw.evO hX (by omega) (by omega)) (by omega) (by omega) (by omega) hsg3 (by omega) hokO.2.2.2.2.2 (fun r45 v46 st47 H52 => ?_)
        refine un2_i ?_
        rcases H52 with ⟨e48, e51, hg50⟩ | ⟨e48, e51, hg50⟩ | ⟨e48, hg50⟩
        · skip
          refine br0 (z_ne (x := (Int32.toInt r45)) (y := 0) rfl rfl (by omega)) ?_
          refine o_X0_reckoned _ _ ?_
          refine br1 (z_eq (x := (Int32.toInt v46)) (y := 1) rfl rfl (by omega)) ?_
          refine un2_i ?_
          refine s_X7_runOrder_Nz (ls := ls) x_12_0 h0_world x_38_2 p0_length n_p0_heads (f_p0_heads) x_38_4 x_38_5 x_38_6 x_38_7 x_38_1 x_38_2 v46 n_p0_code (f_p0_code) (st47) h0_world_lawCount h0_world_force h0_world_folk_listeners h0_world_folk_noises x_38_12 (x_38_13) x_38_14 (f_h0_world_rock_hard) (x_38_15) (x_38_16) h0_world_crew_count (x_38_17) (x_38_18) (f_h0_world_rock_kind) (f_h0_world_laws) x_38_19 x_38_20 (x_38_21) (x_38_22) (x_38_23) (x_38_24) (x_38_25) (f_h0_world_folk_noiseColumn) (f_h0_world_folk_noiseLoud) (by first | with_reducible assumption | exact ⟨by omega, by omega⟩) (by first | with_reducible assumption | exact ⟨by omega, by omega⟩) h_f_p0_heads (by first | with_reducible assumption | exact ⟨by omega, by omega⟩) h_f_p0_code (by first | with_reducible assumption | exact ⟨by omega, by omega⟩) (by first | with_reducible assumption | exact ⟨by omega, by omega⟩) (by first | with_reducible assumption | exact ⟨by omega, by omega⟩) (by first | with_reducible assumption | exact ⟨by omega, by omega⟩) h_x_38_13 h_f_h0_world_rock_hard h_x_38_15 h_x_38_16 (by first | with_reducible assumption | exact ⟨by omega, by omega⟩) h_x_38_17 h_x_38_18 h_f_h0_world_rock_kind (by first | with_reducible assumption | exact ⟨by omega, by omega⟩) (by first | with_reducible assumption | exact ⟨by omega, by omega⟩) h_f_h0_world_folk_noiseColumn h_f_h0_world_folk_noiseLoud hX hU h_rel0 hxc hokO (by omega) (by omega) (by omega) (by omega) (by omega) (fun r53 u54_0 u54_1 u54_2 u54_3 u54_4 u54_5 u54_6 u54_7 u54_8 u54_9 u54_10 u54_11 u54_12 u54_13 u54_14 u54_15 u54_16 u54_17 u54_18 u54_19 u54_20 u54_21 H55 => ?_)
          have j56 := H55.1
          have j57 := H55.2.1
          have j58 := H55.2.2.1
          have j59 := H55.2.2.2.1
          have j60 := H55.2.2.2.2.1
          have j61 := H55.2.2.2.2.2.1
          have j62 := H55.2.2.2.2.2.2.1
          have j63 := H55.2.2.2.2.2.2.2.1
          have j64 := H55.2.2.2.2.2.2.2.2.1
          have j65 := H55.2.2.2.2.2.2.2.2.2.1
          have j66 := H55.2.2.2.2.2.2.2.2.2.2.1
          have j67 := H55.2.2.2.2.2.2.2.2.2.2.2.1
          have j68 := H55.2.2.2.2.2.2.2.2.2.2.2.2.1
          have j69 := H55.2.2.2.2.2.2.2.2.2.2.2.2.2
          refine un22_i ?_
          have an70 := j65
          by_cases c71 : r53 = 0
          · refine br1 c71 ?_
            have d72 := eq_z (x := (Int32.toInt r53)) (y := 0) rfl rfl c71
            have hp73 := ifz0 an70 (by omega)
            exact hq _ _ _ _ _ _ _ _ _ _ _ _ _ _ _ _ _ _ _ _ _ _ _ _ _ _ ⟨(by first | with_reducible assumption | exact ⟨by omega, by omega⟩), (by first | with_reducible assumption | exact ⟨by omega, by omega⟩), (by first | with_reducible assumption | exact ⟨by omega, by omega⟩), j58, j59, j60, j61, j62, (by first | with_reducible assumption | exact ⟨by omega, by omega⟩), (by first | with_reducible assumption | exact ⟨by omega, by omega⟩), ⟨by rw [hO, ordF_f (hI.trans (rnT_f (rn1_f (s := (w1, U1, x_38_1.toInt, x_38_2.toInt)) hg50 hp73) (m := cl.2.2.2.1 - x_38_0.toInt.toNat - 1) (by omega)))]; show x_12_0.toInt = ((x_12_0.toInt.toNat : Nat) : Int); omega, fun s hs => by rw [hO, ordF_f (hI.trans (rnT_f (rn1_f (s := (w1, U1, x_38_1.toInt, x_38_2.toInt)) hg50 hp73) (m := cl.2.2.2.1 - x_38_0.toInt.toNat - 1) (by omega)))] at hs; cases hs⟩, j68⟩
          · refine br0 c71 ?_
            have d74 := ne_z (x := (Int32.toInt r53)) (y := 0) rfl rfl c71
            have hp75 := ifz1 an70 (by omega)
            have t76 : (Int32.toInt (x_38_0 + 1)) = (Int32.toInt x_38_0) + 1 := add_z rfl rfl (by omega) (by omega)
            have t77 : (Int32.toInt (x_38_1 + 1)) = (Int32.toInt x_38_1) + 1 := add_z rfl rfl (by omega) (by omega)
            exact ih _ _ _ _ _ _ _ _ _ _ _ _ _ _ _ _ _ _ _ _ _ _ _ _ _ _ ⟨(by first | with_reducible assumption | exact ⟨by omega, by omega⟩), (by first | with_reducible assumption | exact ⟨by omega, by omega⟩), (by first | with_reducible assumption | exact ⟨by omega, by omega⟩), j58, j59, j60, j61, j62, (by first | with_reducible assumption | exact ⟨by omega, by omega⟩), (by first | with_reducible assumption | exact ⟨by omega, by omega⟩), j68, (by omega), ⟨_, by rw [hI, rnT_c (rn1_g (s := (w1, U1, x_38_1.toInt, x_38_2.toInt)) hg50 hp75) (show cl.2.2.2.1 - x_38_0.toInt.toNat = (cl.2.2.2.1 - (x_38_0 + 1).toInt.toNat) + 1 by omega)], j66, by have q := j67; rw [rmU_p hp75] at q; exact q, by omega, j69 hp75⟩⟩ (by omega)
        · skip
          refine br0 (z_ne (x := (Int32.toInt r45)) (y := 0) rfl rfl (by omega)) ?_
          refine o_X0_reckoned _ _ ?_
          refine br0 (z_ne (x := (Int32.toInt v46)) (y := 1) rfl rfl (by omega)) ?_
          have t78 : (Int32.toInt (x_38_0 + 1)) = (Int32.toInt x_38_0) + 1 := add_z rfl rfl (by omega) (by omega)
          exact ih _ _ _ _ _ _ _ _ _ _ _ _ _ _ _ _ _ _ _ _ _ _ _ _ _ _ ⟨(by first | with_reducible assumption | exact ⟨by omega, by omega⟩), (by first | with_reducible assumption | exact ⟨by omega, by omega⟩), (by first | with_reducible assumption | exact ⟨by omega, by omega⟩), h_x_38_13, h_x_38_15, h_x_38_16, h_x_38_17, h_x_38_18, (by first | with_reducible assumption | exact ⟨by omega, by omega⟩), (by first | with_reducible assumption | exact ⟨by omega, by omega⟩), h_rel0, (by omega), ⟨(w1, U1, x_38_1.toInt, x_38_2.toInt), by rw [hI, rnT_c (rn1_s (s := (w1, U1, x_38_1.toInt, x_38_2.toInt)) hg50) (show cl.2.2.2.1 - x_38_0.toInt.toNat = (cl.2.2.2.1 - (x_38_0 + 1).toInt.toNat) + 1 by omega)], hX, hU, rfl, rfl⟩⟩ (by omega)
        · skip
          refine br1 (z_eq (x := (Int32.toInt r45)) (y := 0) rfl rfl (by omega)) ?_
          have t79 : (Int32.toInt (x_38_0 + 1)) = (Int32.toInt x_38_0) + 1 := add_z rfl rfl (by omega) (by omega)
          exact ih _ _ _ _ _ _ _ _ _ _ _ _ _ _ _ _ _ _ _ _ _ _ _ _ _ _ ⟨(by first | with_reducible assumption | exact ⟨by omega, by omega⟩), (by first | with_reducible assumption | exact ⟨by omega, by omega⟩), (by first | with_reducible assumption | exact ⟨by omega, by omega⟩), h_x_38_13, h_x_38_15, h_x_38_16, h_x_38_17, h_x_38_18, (by first | with_reducible assumption | exact ⟨by omega, by omega⟩), (by first | with_reducible assumption | exact ⟨by omega, by omega⟩), h_rel0, (by omega), ⟨(w1, U1, x_38_1.toInt, x_38_2.toInt), by rw [hI, rnT_c (rn1_s (s := (w1, U1, x_38_1.toInt, x_38_2.toInt)) hg50) (show cl.2.2.2.1 - x_38_0.toInt.toNat = (cl.2.2.2.1 - (x_38_0 + 1).toInt.toNat) + 1 by omega)], hX, hU, rfl, rfl⟩⟩ (by omega)
set_option maxRecDepth 100000 in
theorem sl_X7_runOrders_N_12z (h0_world : Nat) (p0_clauses : Int32) (p0_length : Int32) (n_p0_heads : Nat) (f_p0_heads : Nat → Int32) (n_p0_code : Nat) (f_p0_code : Nat → Int32) (h0_world_lawCount : Int32) (h0_world_force : Int32) (h0_world_folk_listeners : Int32) (h0_world_folk_noises : Int32) (f_h0_world_rock_hard : Nat → Int32) (h0_world_crew_count : Int32) (f_h0_world_rock_kind : Nat → Int32) (f_h0_world_laws : Nat → Option Nat) (f_h0_world_folk_noiseColumn : Nat → Int32) (f_h0_world_folk_noiseLoud : Nat → Int32) (w : Nat → Int) (U : UL) (ls : Nat → List Cls) (L : List Cls) (c0 : Nat) (g_ea : Nat → Int32) (g_hc : Nat → Int32) (g_hl : Nat → Int32) (g_hs : Int32) (g_so : Nat → Int32) (g_we : Nat → Int32) (g_wl : Int32) (h_p0_clauses : 0 ≤ p0_clauses.toInt ∧ p0_clauses.toInt ≤ 12) (h_p0_length : 0 ≤ p0_length.toInt ∧ p0_length.toInt ≤ 400) (h_f_p0_heads : HD f_p0_heads) (h_f_p0_code : CD f_p0_code) (h_h0_world_lawCount : 0 ≤ h0_world_lawCount.toInt ∧ h0_world_lawCount.toInt ≤ 6) (h_h0_world_force : (-1) ≤ h0_world_force.toInt ∧ h0_world_force.toInt ≤ (-1)) (h_h0_world_folk_listeners : 0 ≤ h0_world_folk_listeners.toInt ∧ h0_world_folk_listeners.toInt ≤ 5) (h_h0_world_folk_noises : 0 ≤ h0_world_folk_noises.toInt ∧ h0_world_folk_noises.toInt ≤ 6) (h_f_h0_world_rock_hard : HA f_h0_world_rock_hard) (h_h0_world_crew_count : 0 ≤ h0_world_crew_count.toInt ∧ h0_world_crew_count.toInt ≤ 6) (h_f_h0_world_rock_kind : KI f_h0_world_rock_kind) (h_f_h0_world_folk_noiseColumn : NC f_h0_world_folk_noiseColumn) (h_f_h0_world_folk_noiseLoud : NL f_h0_world_folk_noiseLoud) (zp : p0_clauses.toInt = (L.length : Int) ∧ L.length ≤ 12 ∧ p0_length.toInt = (c0 : Int) ∧ c0 ≤ 400 ∧ c0 ≤ n_p0_code ∧ n_p0_heads = 60) (z_n_p0_heads : n_p0_heads < 100000) (z_n_p0_code : p0_length.toInt ≤ (n_p0_code : Int)) {Q : Int32 → (Int32 × Int32 × Value × Value × Int32 × Int32 × Int32 × Int32 × Int32 × Int32 × (Nat → Int64) × Int32 × (Nat → Int32) × Int64 × (Nat → Int32) × (Nat → Int32) × (Nat → Int32) × (Nat → Int32) × Int32 × Int32 × (Nat → Int32) × (Nat → Int32) × (Nat → Int32) × (Nat → Int32) × (Nat → Int32)) → Prop} (hq : ∀ (r : Int32) (u_0 : Int32) (u_1 : Int32) (u_2 : Value) (u_3 : Value) (u_4 : Int32) (u_5 : Int32) (u_6 : Int32) (u_7 : Int32) (u_8 : Int32) (u_9 : Int32) (u_10 : Nat → Int64) (u_11 : Int32) (u_12 : Nat → Int32) (u_13 : Int64) (u_14 : Nat → Int32) (u_15 : Nat → Int32) (u_16 : Nat → Int32) (u_17 : Nat → Int32) (u_18 : Int32) (u_19 : Int32) (u_20 : Nat → Int32) (u_21 : Nat → Int32) (u_22 : Nat → Int32) (u_23 : Nat → Int32) (u_24 : Nat → Int32), ((-1) ≤ r.toInt ∧ r.toInt ≤ 11) ∧ (0 ≤ u_0.toInt ∧ u_0.toInt ≤ 240) ∧ (0 ≤ u_4.toInt ∧ u_4.toInt ≤ 39) ∧ (CO u_12) ∧ (WA u_14) ∧ (TE u_15) ∧ (CE u_16) ∧ (BU u_17) ∧ (0 ≤ u_18.toInt ∧ u_18.toInt ≤ 16) ∧ (0 ≤ u_19.toInt ∧ u_19.toInt ≤ 15) ∧ (r.toInt = (ordF ls 0 L (w, U, 0, -1)).2 ∧ ∀ s : OSt, (ordF ls 0 L (w, U, 0, -1)).1 = some s → RXw f_h0_world_rock_kind f_h0_world_rock_hard u_14 u_13 u_16 u_17 h0_world_crew_count u_12 g_ea h0_world_folk_listeners f_h0_world_folk_noiseColumn f_h0_world_folk_noiseLoud h0_world_folk_noises u_11 g_hc g_hl g_hs g_so g_we g_wl u_15 h0_world_lawCount h0_world_force s.1 ∧ RXu u_20 u_21 u_22 u_23 u_24 u_18 u_19 s.1 s.2.1 ∧ u_0.toInt = s.2.2.1) ∧ (DI u_20 u_21 u_22 u_23 u_24) → Q r (u_0, u_1, u_2, u_3, u_4, u_5, u_6, u_7, u_8, u_9, u_10, u_11, u_12, u_13, u_14, u_15, u_16, u_17, u_18, u_19, u_20, u_21, u_22, u_23, u_24)) (Qb : Int32 → Int32 → Int32 → Value → Value → Int32 → Int32 → Int32 → Int32 → Int32 → Int32 → (Nat → Int64) → Int32 → (Nat → Int32) → Int64 → (Nat → Int32) → (Nat → Int32) → (Nat → Int32) → (Nat → Int32) → Int32 → Int32 → (Nat → Int32) → (Nat → Int32) → (Nat → Int32) → (Nat → Int32) → (Nat → Int32) → Prop) (KX : ∀ (x_12_0 : Int32) (x_12_1 : Int32) (x_12_2 : Int32) (x_12_3 : Value) (x_12_4 : Value) (x_12_5 : Int32) (x_12_6 : Int32) (x_12_7 : Int32) (x_12_8 : Int32) (x_12_9 : Int32) (x_12_10 : Int32) (x_12_11 : Nat → Int64) (x_12_12 : Int32) (x_12_13 : Nat → Int32) (x_12_14 : Int64) (x_12_15 : Nat → Int32) (x_12_16 : Nat → Int32) (x_12_17 : Nat → Int32) (x_12_18 : Nat → Int32) (x_12_19 : Int32) (x_12_20 : Int32) (x_12_21 : Nat → Int32) (x_12_22 : Nat → Int32) (x_12_23 : Nat → Int32) (x_12_24 : Nat → Int32) (x_12_25 : Nat → Int32), (0 ≤ x_12_0.toInt ∧ x_12_0.toInt ≤ 12) ∧ (0 ≤ x_12_1.toInt ∧ x_12_1.toInt ≤ 240) ∧ (0 ≤ x_12_5.toInt ∧ x_12_5.toInt ≤ 39) ∧ (CO x_12_13) ∧ (WA x_12_15) ∧ (TE x_12_16) ∧ (CE x_12_17) ∧ (BU x_12_18) ∧ (0 ≤ x_12_19.toInt ∧ x_12_19.toInt ≤ 16) ∧ (0 ≤ x_12_20.toInt ∧ x_12_20.toInt ≤ 15) ∧ (DI x_12_21 x_12_22 x_12_23 x_12_24 x_12_25) ∧ (x_12_1.toInt ≤ 20 * x_12_0.toInt) ∧ (∃ (s : OSt) (r : List Cls), ordF ls 0 L (w, U, 0, -1) = ordF ls (x_12_0.toInt).toNat r s ∧ x_12_0.toInt + (r.length : Int) = (L.length : Int) ∧ XCs true f_p0_heads f_p0_code c0 (x_12_0.toInt).toNat r ∧ (∀ q ∈ r, okO q) ∧ RXw f_h0_world_rock_kind f_h0_world_rock_hard x_12_15 x_12_14 x_12_17 x_12_18 h0_world_crew_count x_12_13 g_ea h0_world_folk_listeners f_h0_world_folk_noiseColumn f_h0_world_folk_noiseLoud h0_world_folk_noises x_12_12 g_hc g_hl g_hs g_so g_we g_wl x_12_16 h0_world_lawCount h0_world_force s.1 ∧ RXu x_12_21 x_12_22 x_12_23 x_12_24 x_12_25 x_12_19 x_12_20 s.1 s.2.1 ∧ x_12_1.toInt = s.2.2.1 ∧ x_12_2.toInt = s.2.2.2) ∧ (∃ s : OSt, ordF ls 0 L (w, U, 0, -1) = (some s, -1) ∧ RXw f_h0_world_rock_kind f_h0_world_rock_hard x_12_15 x_12_14 x_12_17 x_12_18 h0_world_crew_count x_12_13 g_ea h0_world_folk_listeners f_h0_world_folk_noiseColumn f_h0_world_folk_noiseLoud h0_world_folk_noises x_12_12 g_hc g_hl g_hs g_so g_we g_wl x_12_16 h0_world_lawCount h0_world_force s.1 ∧ RXu x_12_21 x_12_22 x_12_23 x_12_24 x_12_25 x_12_19 x_12_20 s.1 s.2.1 ∧ x_12_1.toInt = s.2.2.1) → Qb x_12_0 x_12_1 x_12_2 x_12_3 x_12_4 x_12_5 x_12_6 x_12_7 x_12_8 x_12_9 x_12_10 x_12_11 x_12_12 x_12_13 x_12_14 x_12_15 x_12_16 x_12_17 x_12_18 x_12_19 x_12_20 x_12_21 x_12_22 x_12_23 x_12_24 x_12_25) : ∀ (n : Nat) (x_12_0 : Int32) (x_12_1 : Int32) (x_12_2 : Int32) (x_12_3 : Value) (x_12_4 : Value) (x_12_5 : Int32) (x_12_6 : Int32) (x_12_7 : Int32) (x_12_8 : Int32) (x_12_9 : Int32) (x_12_10 : Int32) (x_12_11 : Nat → Int64) (x_12_12 : Int32) (x_12_13 : Nat → Int32) (x_12_14 : Int64) (x_12_15 : Nat → Int32) (x_12_16 : Nat → Int32) (x_12_17 : Nat → Int32) (x_12_18 : Nat → Int32) (x_12_19 : Int32) (x_12_20 : Int32) (x_12_21 : Nat → Int32) (x_12_22 : Nat → Int32) (x_12_23 : Nat → Int32) (x_12_24 : Nat → Int32) (x_12_25 : Nat → Int32), (0 ≤ x_12_0.toInt ∧ x_12_0.toInt ≤ 12) ∧ (0 ≤ x_12_1.toInt ∧ x_12_1.toInt ≤ 240) ∧ (0 ≤ x_12_5.toInt ∧ x_12_5.toInt ≤ 39) ∧ (CO x_12_13) ∧ (WA x_12_15) ∧ (TE x_12_16) ∧ (CE x_12_17) ∧ (BU x_12_18) ∧ (0 ≤ x_12_19.toInt ∧ x_12_19.toInt ≤ 16) ∧ (0 ≤ x_12_20.toInt ∧ x_12_20.toInt ≤ 15) ∧ (DI x_12_21 x_12_22 x_12_23 x_12_24 x_12_25) ∧ (x_12_1.toInt ≤ 20 * x_12_0.toInt) ∧ (∃ (s : OSt) (r : List Cls), ordF ls 0 L (w, U, 0, -1) = ordF ls (x_12_0.toInt).toNat r s ∧ x_12_0.toInt + (r.length : Int) = (L.length : Int) ∧ XCs true f_p0_heads f_p0_code c0 (x_12_0.toInt).toNat r ∧ (∀ q ∈ r, okO q) ∧ RXw f_h0_world_rock_kind f_h0_world_rock_hard x_12_15 x_12_14 x_12_17 x_12_18 h0_world_crew_count x_12_13 g_ea h0_world_folk_listeners f_h0_world_folk_noiseColumn f_h0_world_folk_noiseLoud h0_world_folk_noises x_12_12 g_hc g_hl g_hs g_so g_we g_wl x_12_16 h0_world_lawCount h0_world_force s.1 ∧ RXu x_12_21 x_12_22 x_12_23 x_12_24 x_12_25 x_12_19 x_12_20 s.1 s.2.1 ∧ x_12_1.toInt = s.2.2.1 ∧ x_12_2.toInt = s.2.2.2) → 13 - x_12_0.toInt < (n : Int) → wl_X7_runOrders_N_12 h0_world p0_clauses p0_length n_p0_heads f_p0_heads n_p0_code f_p0_code h0_world_lawCount h0_world_force h0_world_folk_listeners h0_world_folk_noises f_h0_world_rock_hard h0_world_crew_count f_h0_world_rock_kind f_h0_world_laws f_h0_world_folk_noiseColumn f_h0_world_folk_noiseLoud Q Qb n x_12_0 x_12_1 x_12_2 x_12_3 x_12_4 x_12_5 x_12_6 x_12_7 x_12_8 x_12_9 x_12_10 x_12_11 x_12_12 x_12_13 x_12_14 x_12_15 x_12_16 x_12_17 x_12_18 x_12_19 x_12_20 x_12_21 x_12_22 x_12_23 x_12_24 x_12_25 := by
  intro n
  induction n with
  | zero =>
    intro x_12_0 x_12_1 x_12_2 x_12_3 x_12_4 x_12_5 x_12_6 x_12_7 x_12_8 x_12_9 x_12_10 x_12_11 x_12_12 x_12_13 x_12_14 x_12_15 x_12_16 x_12_17 x_12_18 x_12_19 x_12_20 x_12_21 x_12_22 x_12_23 x_12_24 x_12_25 hI hm
    exfalso; have hm : 13 - x_12_0.toInt < 0 := hm; omega
  | succ n ih =>
    intro x_12_0 x_12_1 x_12_2 x_12_3 x_12_4 x_12_5 x_12_6 x_12_7 x_12_8 x_12_9 x_12_10 x_12_11 x_12_12 x_12_13 x_12_14 x_12_15 x_12_16 x_12_17 x_12_18 x_12_19 x_12_20 x_12_21 x_12_22 x_12_23 x_12_24 x_12_25 hI hm
    have hm : 13 - x_12_0.toInt < (n : Int) + 1 := by simpa using hm
    have h_x_12_0 := hI.1
    have h_x_12_1 := hI.2.1
    have h_x_12_5 := hI.2.2.1
    have h_x_12_13 := hI.2.2.2.1
    have h_x_12_15 := hI.2.2.2.2.1
    have h_x_12_16 := hI.2.2.2.2.2.1
    have h_x_12_17 := hI.2.2.2.2.2.2.1
    have h_x_12_18 := hI.2.2.2.2.2.2.2.1
    have h_x_12_19 := hI.2.2.2.2.2.2.2.2.1
    have h_x_12_20 := hI.2.2.2.2.2.2.2.2.2.1
    have h_rel0 := hI.2.2.2.2.2.2.2.2.2.2.1
    have h_rel1 := hI.2.2.2.2.2.2.2.2.2.2.2.1
    have h_rel2 := hI.2.2.2.2.2.2.2.2.2.2.2.2
    unfold wl_X7_runOrders_N_12
    obtain ⟨zp1, zp2, zp3, zp4, zp5, zp6⟩ := zp
    obtain ⟨⟨w1, U1, dn1, lt1⟩, rr, hI, hlen, hXC, hok12, hX, hU, hd, hl⟩ := h_rel2
    have hd : x_12_1.toInt = dn1 := hd
    have hl : x_12_2.toInt = lt1 := hl
    subst hd
    subst hl
    have l_kd := RXw.kd hX
    have l_hd := RXw.hd hX
    have l_wt := RXw.wt hX
    have l_ce := RXw.ce hX
    have l_bu := RXw.bu hX
    have l_cc : h0_world_crew_count.toInt = w1 0 := RXw.cc hX
    have l_co := RXw.co hX
    have l_ls : h0_world_folk_listeners.toInt = w1 1 := RXw.ls hX
    have l_nc := RXw.nc hX
    have l_nl := RXw.nl hX
    have l_ns : h0_world_folk_noises.toInt = w1 2 := RXw.ns hX
    have l_te := RXw.te hX
    have l_lc : h0_world_lawCount.toInt = w1 5 := RXw.lc hX
    have l_fo : h0_world_force.toInt = w1 6 := RXw.fo hX
    by_cases c1 : p0_clauses ≤ x_12_0
    · refine br1 c1 ?_
      have d2 := le_z (x := (Int32.toInt p0_clauses)) (y := (Int32.toInt x_12_0)) rfl rfl c1
      exact KX _ _ _ _ _ _ _ _ _ _ _ _ _ _ _ _ _ _ _ _ _ _ _ _ _ _ ⟨(by first | with_reducible assumption | exact ⟨by omega, by omega⟩), (by first | with_reducible assumption | exact ⟨by omega, by omega⟩), (by first | with_reducible assumption | exact ⟨by omega, by omega⟩), h_x_12_13, h_x_12_15, h_x_12_16, h_x_12_17, h_x_12_18, (by first | with_reducible assumption | exact ⟨by omega, by omega⟩), (by first | with_reducible assumption | exact ⟨by omega, by omega⟩), h_rel0, (by omega), ⟨_, rr, hI, hlen, hXC, hok12, hX, hU, rfl, rfl⟩, ⟨(w1, U1, x_12_1.toInt, x_12_2.toInt), by have q := nnil (r := rr) (by omega); subst q; exact hI, hX, hU, rfl⟩⟩
    · refine br0 c1 ?_
      have d3 := nle_z (x := (Int32.toInt p0_clauses)) (y := (Int32.toInt x_12_0)) rfl rfl c1
      obtain ⟨cl1, r1, erc⟩ := ncons (r := rr) (by omega)
      subst erc
      have hlen : x_12_0.toInt + ((r1.length : Int) + 1) = (L.length : Int) := hlen
      have okt := (hok12 cl1 List.mem_cons_self).2.2.2.2.1
      have k5 : Int32.toInt 4 = 4 := rfl
      refine z_hd4 hXC.1 (by omega) (by omega) (by omega) (fun r4 H6 => ?_)
      have sg7 := H6
      have k9 : Int32.toInt 3 = 3 := rfl
      refine z_hd3 hXC.1 (by omega) (by omega) (by omega) (fun r8 H10 => ?_)
      have sg11 := H10
      have k14 : Int32.toInt 0 = 0 := rfl
      refine sl_X7_runOrders_N_38z h0_world p0_length n_p0_heads (f_p0_heads) n_p0_code (f_p0_code) h0_world_lawCount h0_world_force h0_world_folk_listeners h0_world_folk_noises (f_h0_world_rock_hard) h0_world_crew_count (f_h0_world_rock_kind) f_h0_world_laws (f_h0_world_folk_noiseColumn) (f_h0_world_folk_noiseLoud) x_12_0 r4 r8 w U ls L c0 g_ea g_hc g_hl g_hs g_so g_we g_wl cl1 r1 (w1, U1, x_12_1.toInt, x_12_2.toInt) (by first | with_reducible assumption | exact ⟨by omega, by omega⟩) h_f_p0_heads h_f_p0_code (by first | with_reducible assumption | exact ⟨by omega, by omega⟩) (by first | with_reducible assumption | exact ⟨by omega, by omega⟩) (by first | with_reducible assumption | exact ⟨by omega, by omega⟩) (by first | with_reducible assumption | exact ⟨by omega, by omega⟩) h_f_h0_world_rock_hard (by first | with_reducible assumption | exact ⟨by omega, by omega⟩) h_f_h0_world_rock_kind h_f_h0_world_folk_noiseColumn h_f_h0_world_folk_noiseLoud (by first | with_reducible assumption | exact ⟨by omega, by omega⟩) (by first | with_reducible assumption | exact ⟨by omega, by omega⟩) sg7 hXC.1 (hok12 cl1 List.mem_cons_self) sg11 ⟨by omega, by omega, by omega, by omega, by omega⟩ hI (by omega) (by omega) hq _ (fun x12_0 x12_1 x12_2 x12_3 x12_4 x12_5 x12_6 x12_7 x12_8 x12_9 x12_10 x12_11 x12_12 x12_13 x12_14 x12_15 x12_16 x12_17 x12_18 x12_19 x12_20 x12_21 x12_22 x12_23 x12_24 x12_25 X13 => ?_) 1000000000000 0 x_12_1 x_12_2 x_12_3 x_12_4 x_12_5 x_12_6 x_12_7 x_12_8 x_12_9 x_12_10 (x_12_11) x_12_12 (x_12_13) x_12_14 (x_12_15) (x_12_16) (x_12_17) (x_12_18) x_12_19 x_12_20 (x_12_21) (x_12_22) (x_12_23) (x_12_24) (x_12_25) ⟨(by decide), (by first | with_reducible assumption | exact ⟨by omega, by omega⟩), (by first | with_reducible assumption | exact ⟨by omega, by omega⟩), h_x_12_13, h_x_12_15, h_x_12_16, h_x_12_17, h_x_12_18, (by first | with_reducible assumption | exact ⟨by omega, by omega⟩), (by first | with_reducible assumption | exact ⟨by omega, by omega⟩), h_rel0, (by omega), ⟨_, rfl, hX, hU, rfl, rfl⟩⟩ (by omega)
      have j15 := X13.1
      have j16 := X13.2.1
      have j17 := X13.2.2.1
      have j18 := X13.2.2.2.1
      have j19 := X13.2.2.2.2.1
      have j20 := X13.2.2.2.2.2.1
      have j21 := X13.2.2.2.2.2.2.1
      have j22 := X13.2.2.2.2.2.2.2.1
      have j23 := X13.2.2.2.2.2.2.2.2.1
      have j24 := X13.2.2.2.2.2.2.2.2.2.1
      have j25 := X13.2.2.2.2.2.2.2.2.2.2.1
      have j26 := X13.2.2.2.2.2.2.2.2.2.2.2.1
      have j27 := X13.2.2.2.2.2.2.2.2.2.2.2.2.1
      have j28 := X13.2.2.2.2.2.2.2.2.2.2.2.2.2
      obtain ⟨s9, k9, hX9, hU9, hd9, hl9⟩ := j28
      have t29 : (Int32.toInt (x_12_0 + 1)) = (Int32.toInt x_12_0) + 1 := add_z rfl rfl (by omega) (by omega)
      exact ih _ _ _ _ _ _ _ _ _ _ _ _ _ _ _ _ _ _ _ _ _ _ _ _ _ _ ⟨(by first | with_reducible assumption | exact ⟨by omega, by omega⟩), (by first | with_reducible assumption | exact ⟨by omega, by omega⟩), (by first | with_reducible assumption | exact ⟨by omega, by omega⟩), j18, j19, j20, j21, j22, (by first | with_reducible assumption | exact ⟨by omega, by omega⟩), (by first | with_reducible assumption | exact ⟨by omega, by omega⟩), j25, (by omega), ⟨s9, r1, by rw [hI, ordF_c k9, show (x_12_0 + 1).toInt.toNat = x_12_0.toInt.toNat + 1 by omega], by omega, by rw [show (x_12_0 + 1).toInt.toNat = x_12_0.toInt.toNat + 1 by omega]; exact hXC.2, fun q hq9 => hok12 q (List.mem_cons_of_mem _ hq9), hX9, hU9, hd9, hl9⟩⟩ (by omega)
set_option maxRecDepth 100000 in
theorem s_X7_runOrders_Nz (h0_world : Nat) (p0_clauses : Int32) (p0_length : Int32) (n_p0_heads : Nat) (f_p0_heads : Nat → Int32) (h0_asker_world : Value) (h0_asker_law : Value) (h0_asker_cell : Int32) (h0_asker_shaft : Int32) (h0_asker_kind : Int32) (h0_asker_done : Int32) (h0_asker_latest : Int32) (h0_asker_value : Int32) (n_p0_code : Nat) (f_p0_code : Nat → Int32) (f_h0_asker_stack : Nat → Int64) (h0_world_lawCount : Int32) (h0_world_force : Int32) (h0_world_folk_listeners : Int32) (h0_world_folk_noises : Int32) (h0_world_folk_hushed : Int32) (f_h0_world_folk_column : Nat → Int32) (h0_world_rock_dug : Int64) (f_h0_world_rock_hard : Nat → Int32) (f_h0_world_rock_water : Nat → Int32) (f_h0_world_term : Nat → Int32) (h0_world_crew_count : Int32) (f_h0_world_crew_cell : Nat → Int32) (f_h0_world_crew_buckets : Nat → Int32) (f_h0_world_rock_kind : Nat → Int32) (f_h0_world_laws : Nat → Option Nat) (h0_diary_kept : Int32) (h0_diary_latest : Int32) (f_h0_diary_deed : Nat → Int32) (f_h0_diary_whose : Nat → Int32) (f_h0_diary_before : Nat → Int32) (f_h0_diary_bucketsBefore : Nat → Int32) (f_h0_diary_dayBefore : Nat → Int32) (f_h0_world_folk_noiseColumn : Nat → Int32) (f_h0_world_folk_noiseLoud : Nat → Int32) {w : Nat → Int} {U : UL} {ls : Nat → List Cls} {L : List Cls} {c0 : Nat} {g_ea : Nat → Int32} {g_hc : Nat → Int32} {g_hl : Nat → Int32} {g_hs : Int32} {g_so : Nat → Int32} {g_we : Nat → Int32} {g_wl : Int32} (h_p0_clauses : 0 ≤ p0_clauses.toInt ∧ p0_clauses.toInt ≤ 12) (h_p0_length : 0 ≤ p0_length.toInt ∧ p0_length.toInt ≤ 400) (h_f_p0_heads : HD f_p0_heads) (h_h0_asker_cell : 0 ≤ h0_asker_cell.toInt ∧ h0_asker_cell.toInt ≤ 39) (h_f_p0_code : CD f_p0_code) (h_h0_world_lawCount : 0 ≤ h0_world_lawCount.toInt ∧ h0_world_lawCount.toInt ≤ 6) (h_h0_world_force : (-1) ≤ h0_world_force.toInt ∧ h0_world_force.toInt ≤ (-1)) (h_h0_world_folk_listeners : 0 ≤ h0_world_folk_listeners.toInt ∧ h0_world_folk_listeners.toInt ≤ 5) (h_h0_world_folk_noises : 0 ≤ h0_world_folk_noises.toInt ∧ h0_world_folk_noises.toInt ≤ 6) (h_f_h0_world_folk_column : CO f_h0_world_folk_column) (h_f_h0_world_rock_hard : HA f_h0_world_rock_hard) (h_f_h0_world_rock_water : WA f_h0_world_rock_water) (h_f_h0_world_term : TE f_h0_world_term) (h_h0_world_crew_count : 0 ≤ h0_world_crew_count.toInt ∧ h0_world_crew_count.toInt ≤ 6) (h_f_h0_world_crew_cell : CE f_h0_world_crew_cell) (h_f_h0_world_crew_buckets : BU f_h0_world_crew_buckets) (h_f_h0_world_rock_kind : KI f_h0_world_rock_kind) (h_h0_diary_kept : 0 ≤ h0_diary_kept.toInt ∧ h0_diary_kept.toInt ≤ 16) (h_h0_diary_latest : 0 ≤ h0_diary_latest.toInt ∧ h0_diary_latest.toInt ≤ 15) (h_f_h0_world_folk_noiseColumn : NC f_h0_world_folk_noiseColumn) (h_f_h0_world_folk_noiseLoud : NL f_h0_world_folk_noiseLoud) (e_0 : RXw f_h0_world_rock_kind f_h0_world_rock_hard f_h0_world_rock_water h0_world_rock_dug f_h0_world_crew_cell f_h0_world_crew_buckets h0_world_crew_count f_h0_world_folk_column g_ea h0_world_folk_listeners f_h0_world_folk_noiseColumn f_h0_world_folk_noiseLoud h0_world_folk_noises h0_world_folk_hushed g_hc g_hl g_hs g_so g_we g_wl f_h0_world_term h0_world_lawCount h0_world_force w) (e_1 : RXu f_h0_diary_deed f_h0_diary_whose f_h0_diary_before f_h0_diary_bucketsBefore f_h0_diary_dayBefore h0_diary_kept h0_diary_latest w U) (e_2 : DI f_h0_diary_deed f_h0_diary_whose f_h0_diary_before f_h0_diary_bucketsBefore f_h0_diary_dayBefore) (e_3 : XCs true f_p0_heads f_p0_code c0 0 L) (e_4 : ∀ q ∈ L, okO q) (e_5 : p0_clauses.toInt = (L.length : Int)) (e_6 : L.length ≤ 12) (e_7 : p0_length.toInt = (c0 : Int)) (e_8 : c0 ≤ 400) (e_9 : c0 ≤ n_p0_code) (e_10 : n_p0_heads = 60) {Q : Int32 → (Int32 × Int32 × Value × Value × Int32 × Int32 × Int32 × Int32 × Int32 × Int32 × (Nat → Int64) × Int32 × (Nat → Int32) × Int64 × (Nat → Int32) × (Nat → Int32) × (Nat → Int32) × (Nat → Int32) × Int32 × Int32 × (Nat → Int32) × (Nat → Int32) × (Nat → Int32) × (Nat → Int32) × (Nat → Int32)) → Prop} (hq : ∀ (r : Int32) (u_0 : Int32) (u_1 : Int32) (u_2 : Value) (u_3 : Value) (u_4 : Int32) (u_5 : Int32) (u_6 : Int32) (u_7 : Int32) (u_8 : Int32) (u_9 : Int32) (u_10 : Nat → Int64) (u_11 : Int32) (u_12 : Nat → Int32) (u_13 : Int64) (u_14 : Nat → Int32) (u_15 : Nat → Int32) (u_16 : Nat → Int32) (u_17 : Nat → Int32) (u_18 : Int32) (u_19 : Int32) (u_20 : Nat → Int32) (u_21 : Nat → Int32) (u_22 : Nat → Int32) (u_23 : Nat → Int32) (u_24 : Nat → Int32), ((-1) ≤ r.toInt ∧ r.toInt ≤ 11) ∧ (0 ≤ u_0.toInt ∧ u_0.toInt ≤ 240) ∧ (0 ≤ u_4.toInt ∧ u_4.toInt ≤ 39) ∧ (CO u_12) ∧ (WA u_14) ∧ (TE u_15) ∧ (CE u_16) ∧ (BU u_17) ∧ (0 ≤ u_18.toInt ∧ u_18.toInt ≤ 16) ∧ (0 ≤ u_19.toInt ∧ u_19.toInt ≤ 15) ∧ (r.toInt = (ordF ls 0 L (w, U, 0, -1)).2 ∧ ∀ s : OSt, (ordF ls 0 L (w, U, 0, -1)).1 = some s → RXw f_h0_world_rock_kind f_h0_world_rock_hard u_14 u_13 u_16 u_17 h0_world_crew_count u_12 g_ea h0_world_folk_listeners f_h0_world_folk_noiseColumn f_h0_world_folk_noiseLoud h0_world_folk_noises u_11 g_hc g_hl g_hs g_so g_we g_wl u_15 h0_world_lawCount h0_world_force s.1 ∧ RXu u_20 u_21 u_22 u_23 u_24 u_18 u_19 s.1 s.2.1 ∧ u_0.toInt = s.2.2.1) ∧ (DI u_20 u_21 u_22 u_23 u_24) → Q r (u_0, u_1, u_2, u_3, u_4, u_5, u_6, u_7, u_8, u_9, u_10, u_11, u_12, u_13, u_14, u_15, u_16, u_17, u_18, u_19, u_20, u_21, u_22, u_23, u_24)) : wp_X7_runOrders_N h0_world p0_clauses p0_length n_p0_heads f_p0_heads h0_asker_world h0_asker_law h0_asker_cell h0_asker_shaft h0_asker_kind h0_asker_done h0_asker_latest h0_asker_value n_p0_code f_p0_code f_h0_asker_stack h0_world_lawCount h0_world_force h0_world_folk_listeners h0_world_folk_noises h0_world_folk_hushed f_h0_world_folk_column h0_world_rock_dug f_h0_world_rock_hard f_h0_world_rock_water f_h0_world_term h0_world_crew_count f_h0_world_crew_cell f_h0_world_crew_buckets f_h0_world_rock_kind f_h0_world_laws h0_diary_kept h0_diary_latest f_h0_diary_deed f_h0_diary_whose f_h0_diary_before f_h0_diary_bucketsBefore f_h0_diary_dayBefore f_h0_world_folk_noiseColumn f_h0_world_folk_noiseLoud Q := by
  unfold wp_X7_runOrders_N
  have k3 : Int32.toInt 0 = 0 := rfl
  have k4 : Int32.toInt (-1) = (-1) := (by decide)
  refine sl_X7_runOrders_N_12z h0_world p0_clauses p0_length n_p0_heads (f_p0_heads) n_p0_code (f_p0_code) h0_world_lawCount h0_world_force h0_world_folk_listeners h0_world_folk_noises (f_h0_world_rock_hard) h0_world_crew_count (f_h0_world_rock_kind) f_h0_world_laws (f_h0_world_folk_noiseColumn) (f_h0_world_folk_noiseLoud) w U ls L c0 g_ea g_hc g_hl g_hs g_so g_we g_wl (by first | with_reducible assumption | exact ⟨by omega, by omega⟩) (by first | with_reducible assumption | exact ⟨by omega, by omega⟩) h_f_p0_heads h_f_p0_code (by first | with_reducible assumption | exact ⟨by omega, by omega⟩) (by first | with_reducible assumption | exact ⟨by omega, by omega⟩) (by first | with_reducible assumption | exact ⟨by omega, by omega⟩) (by first | with_reducible assumption | exact ⟨by omega, by omega⟩) h_f_h0_world_rock_hard (by first | with_reducible assumption | exact ⟨by omega, by omega⟩) h_f_h0_world_rock_kind h_f_h0_world_folk_noiseColumn h_f_h0_world_folk_noiseLoud ⟨by omega, by omega, by omega, by omega, by omega, by omega⟩ (by omega) (by omega) hq _ (fun x1_0 x1_1 x1_2 x1_3 x1_4 x1_5 x1_6 x1_7 x1_8 x1_9 x1_10 x1_11 x1_12 x1_13 x1_14 x1_15 x1_16 x1_17 x1_18 x1_19 x1_20 x1_21 x1_22 x1_23 x1_24 x1_25 X2 => ?_) 1000000000000 0 0 (-1) h0_asker_world h0_asker_law h0_asker_cell h0_asker_shaft h0_asker_kind h0_asker_done h0_asker_latest h0_asker_value (f_h0_asker_stack) h0_world_folk_hushed (f_h0_world_folk_column) h0_world_rock_dug (f_h0_world_rock_water) (f_h0_world_term) (f_h0_world_crew_cell) (f_h0_world_crew_buckets) h0_diary_kept h0_diary_latest (f_h0_diary_deed) (f_h0_diary_whose) (f_h0_diary_before) (f_h0_diary_bucketsBefore) (f_h0_diary_dayBefore) ⟨(by decide), (by decide), (by first | with_reducible assumption | exact ⟨by omega, by omega⟩), h_f_h0_world_folk_column, h_f_h0_world_rock_water, h_f_h0_world_term, h_f_h0_world_crew_cell, h_f_h0_world_crew_buckets, (by first | with_reducible assumption | exact ⟨by omega, by omega⟩), (by first | with_reducible assumption | exact ⟨by omega, by omega⟩), e_2, (by omega), ⟨(w, U, 0, -1), L, rfl, by show (0 : Int) + _ = _; omega, e_3, e_4, e_0, e_1, rfl, (show (-1 : Int32).toInt = -1 by decide)⟩⟩ (by omega)
  have j5 := X2.1
  have j6 := X2.2.1
  have j7 := X2.2.2.1
  have j8 := X2.2.2.2.1
  have j9 := X2.2.2.2.2.1
  have j10 := X2.2.2.2.2.2.1
  have j11 := X2.2.2.2.2.2.2.1
  have j12 := X2.2.2.2.2.2.2.2.1
  have j13 := X2.2.2.2.2.2.2.2.2.1
  have j14 := X2.2.2.2.2.2.2.2.2.2.1
  have j15 := X2.2.2.2.2.2.2.2.2.2.2.1
  have j16 := X2.2.2.2.2.2.2.2.2.2.2.2.1
  have j17 := X2.2.2.2.2.2.2.2.2.2.2.2.2.1
  have j18 := X2.2.2.2.2.2.2.2.2.2.2.2.2.2
  obtain ⟨s8, k8, hX8, hU8, hd8⟩ := j18
  exact hq _ _ _ _ _ _ _ _ _ _ _ _ _ _ _ _ _ _ _ _ _ _ _ _ _ _ ⟨(by decide), (by first | with_reducible assumption | exact ⟨by omega, by omega⟩), (by first | with_reducible assumption | exact ⟨by omega, by omega⟩), j8, j9, j10, j11, j12, (by first | with_reducible assumption | exact ⟨by omega, by omega⟩), (by first | with_reducible assumption | exact ⟨by omega, by omega⟩), ⟨by rw [k8]; rfl, fun s hs => by rw [k8] at hs; injection hs with hs; subst hs; exact ⟨hX8, hU8, hd8⟩⟩, j15⟩


set_option maxRecDepth 100000 in
theorem sl_X7_runOrders_T_38z (h0_world : Nat) (p0_length : Int32) (n_p0_heads : Nat) (f_p0_heads : Nat → Int32) (n_p0_code : Nat) (f_p0_code : Nat → Int32) (h0_world_lawCount : Int32) (h0_world_force : Int32) (h0_world_folk_listeners : Int32) (h0_world_folk_noises : Int32) (f_h0_world_rock_hard : Nat → Int32) (h0_world_crew_count : Int32) (f_h0_world_rock_kind : Nat → Int32) (f_h0_world_laws : Nat → Option Nat) (t : Nat) (t_clauses : Int32) (t_length : Int32) (n_t_heads : Nat) (f_t_heads : Nat → Int32) (n_t_code : Nat) (f_t_code : Nat → Int32) (f_h0_world_folk_noiseColumn : Nat → Int32) (f_h0_world_folk_noiseLoud : Nat → Int32) (x_12_0 : Int32) (r_23 : Int32) (r_30 : Int32) (w : Nat → Int) (U : UL) (ls : Nat → List Cls) (L : List Cls) (c0 : Nat) (g_ea : Nat → Int32) (g_hc : Nat → Int32) (g_hl : Nat → Int32) (g_hs : Int32) (g_so : Nat → Int32) (g_we : Nat → Int32) (g_wl : Int32) (cl : Cls) (r1 : List Cls) (s0 : OSt) (h_p0_length : 0 ≤ p0_length.toInt ∧ p0_length.toInt ≤ 400) (h_f_p0_heads : HD f_p0_heads) (h_f_p0_code : CD f_p0_code) (h_h0_world_lawCount : 0 ≤ h0_world_lawCount.toInt ∧ h0_world_lawCount.toInt ≤ 6) (h_h0_world_force : 0 ≤ h0_world_force.toInt ∧ h0_world_force.toInt ≤ 5) (h_h0_world_folk_listeners : 0 ≤ h0_world_folk_listeners.toInt ∧ h0_world_folk_listeners.toInt ≤ 5) (h_h0_world_folk_noises : 0 ≤ h0_world_folk_noises.toInt ∧ h0_world_folk_noises.toInt ≤ 6) (h_f_h0_world_rock_hard : HA f_h0_world_rock_hard) (h_h0_world_crew_count : 0 ≤ h0_world_crew_count.toInt ∧ h0_world_crew_count.toInt ≤ 6) (h_f_h0_world_rock_kind : KI f_h0_world_rock_kind) (h_t_clauses : 0 ≤ t_clauses.toInt ∧ t_clauses.toInt ≤ 12) (h_t_length : 0 ≤ t_length.toInt ∧ t_length.toInt ≤ 400) (h_f_t_code : CD f_t_code) (h_f_h0_world_folk_noiseColumn : NC f_h0_world_folk_noiseColumn) (h_f_h0_world_folk_noiseLoud : NL f_h0_world_folk_noiseLoud) (h_x_12_0 : 0 ≤ x_12_0.toInt ∧ x_12_0.toInt ≤ 11) (h_r_23 : 1 ≤ r_23.toInt ∧ r_23.toInt ≤ 20) (zlaw : f_h0_world_laws (Int32.toNatClampNeg h0_world_force) = some t) (zfo : h0_world_force.toInt < h0_world_lawCount.toInt) (z23 : r_23.toInt = (cl.2.2.2.1 : Int)) (hxc : XC true f_p0_heads f_p0_code c0 x_12_0.toInt.toNat cl) (hokO : okO cl) (hsg3 : sgX true f_p0_code c0 r_30 cl.2.2.2.2) (zl : p0_length.toInt = (c0 : Int) ∧ c0 ≤ 400 ∧ c0 ≤ n_p0_code ∧ n_p0_heads = 60 ∧ x_12_0.toInt ≤ 11) (hO : ordF ls 0 L (w, U, 0, -1) = ordF ls x_12_0.toInt.toNat (cl :: r1) s0) (htx : XTx t_clauses t_length n_t_heads f_t_heads n_t_code f_t_code (ls h0_world_force.toInt.toNat)) (hok : ∀ q ∈ ls h0_world_force.toInt.toNat, okC q) (z_n_p0_heads : n_p0_heads < 100000) (z_n_p0_code : p0_length.toInt ≤ (n_p0_code : Int)) (z_n_t_heads : n_t_heads < 100000) (z_n_t_code : t_length.toInt ≤ (n_t_code : Int)) {Q : Int32 → (Int32 × Int32 × Value × Value × Int32 × Int32 × Int32 × Int32 × Int32 × Int32 × (Nat → Int64) × Int32 × (Nat → Int32) × Int64 × (Nat → Int32) × (Nat → Int32) × (Nat → Int32) × (Nat → Int32) × Int32 × Int32 × (Nat → Int32) × (Nat → Int32) × (Nat → Int32) × (Nat → Int32) × (Nat → Int32)) → Prop} (hq : ∀ (r : Int32) (u_0 : Int32) (u_1 : Int32) (u_2 : Value) (u_3 : Value) (u_4 : Int32) (u_5 : Int32) (u_6 : Int32) (u_7 : Int32) (u_8 : Int32) (u_9 : Int32) (u_10 : Nat → Int64) (u_11 : Int32) (u_12 : Nat → Int32) (u_13 : Int64) (u_14 : Nat → Int32) (u_15 : Nat → Int32) (u_16 : Nat → Int32) (u_17 : Nat → Int32) (u_18 : Int32) (u_19 : Int32) (u_20 : Nat → Int32) (u_21 : Nat → Int32) (u_22 : Nat → Int32) (u_23 : Nat → Int32) (u_24 : Nat → Int32), ((-1) ≤ r.toInt ∧ r.toInt ≤ 11) ∧ (0 ≤ u_0.toInt ∧ u_0.toInt ≤ 240) ∧ (0 ≤ u_4.toInt ∧ u_4.toInt ≤ 39) ∧ (CO u_12) ∧ (WA u_14) ∧ (TE u_15) ∧ (CE u_16) ∧ (BU u_17) ∧ (0 ≤ u_18.toInt ∧ u_18.toInt ≤ 16) ∧ (0 ≤ u_19.toInt ∧ u_19.toInt ≤ 15) ∧ (r.toInt = (ordF ls 0 L (w, U, 0, -1)).2 ∧ ∀ s : OSt, (ordF ls 0 L (w, U, 0, -1)).1 = some s → RXw f_h0_world_rock_kind f_h0_world_rock_hard u_14 u_13 u_16 u_17 h0_world_crew_count u_12 g_ea h0_world_folk_listeners f_h0_world_folk_noiseColumn f_h0_world_folk_noiseLoud h0_world_folk_noises u_11 g_hc g_hl g_hs g_so g_we g_wl u_15 h0_world_lawCount h0_world_force s.1 ∧ RXu u_20 u_21 u_22 u_23 u_24 u_18 u_19 s.1 s.2.1 ∧ u_0.toInt = s.2.2.1) ∧ (DI u_20 u_21 u_22 u_23 u_24) → Q r (u_0, u_1, u_2, u_3, u_4, u_5, u_6, u_7, u_8, u_9, u_10, u_11, u_12, u_13, u_14, u_15, u_16, u_17, u_18, u_19, u_20, u_21, u_22, u_23, u_24)) (Qb : Int32 → Int32 → Int32 → Value → Value → Int32 → Int32 → Int32 → Int32 → Int32 → Int32 → (Nat → Int64) → Int32 → (Nat → Int32) → Int64 → (Nat → Int32) → (Nat → Int32) → (Nat → Int32) → (Nat → Int32) → Int32 → Int32 → (Nat → Int32) → (Nat → Int32) → (Nat → Int32) → (Nat → Int32) → (Nat → Int32) → Prop) (KX : ∀ (x_38_0 : Int32) (x_38_1 : Int32) (x_38_2 : Int32) (x_38_3 : Value) (x_38_4 : Value) (x_38_5 : Int32) (x_38_6 : Int32) (x_38_7 : Int32) (x_38_8 : Int32) (x_38_9 : Int32) (x_38_10 : Int32) (x_38_11 : Nat → Int64) (x_38_12 : Int32) (x_38_13 : Nat → Int32) (x_38_14 : Int64) (x_38_15 : Nat → Int32) (x_38_16 : Nat → Int32) (x_38_17 : Nat → Int32) (x_38_18 : Nat → Int32) (x_38_19 : Int32) (x_38_20 : Int32) (x_38_21 : Nat → Int32) (x_38_22 : Nat → Int32) (x_38_23 : Nat → Int32) (x_38_24 : Nat → Int32) (x_38_25 : Nat → Int32), (1 ≤ x_38_0.toInt ∧ x_38_0.toInt ≤ 20) ∧ (0 ≤ x_38_1.toInt ∧ x_38_1.toInt ≤ 240) ∧ (0 ≤ x_38_5.toInt ∧ x_38_5.toInt ≤ 39) ∧ (CO x_38_13) ∧ (WA x_38_15) ∧ (TE x_38_16) ∧ (CE x_38_17) ∧ (BU x_38_18) ∧ (0 ≤ x_38_19.toInt ∧ x_38_19.toInt ≤ 16) ∧ (0 ≤ x_38_20.toInt ∧ x_38_20.toInt ≤ 15) ∧ (DI x_38_21 x_38_22 x_38_23 x_38_24 x_38_25) ∧ (x_38_1.toInt ≤ 20 * x_12_0.toInt + x_38_0.toInt) ∧ (∃ s : OSt, rnT ls cl cl.2.2.2.1 s0 = rnT ls cl (cl.2.2.2.1 - (x_38_0.toInt).toNat) s ∧ RXw f_h0_world_rock_kind f_h0_world_rock_hard x_38_15 x_38_14 x_38_17 x_38_18 h0_world_crew_count x_38_13 g_ea h0_world_folk_listeners f_h0_world_folk_noiseColumn f_h0_world_folk_noiseLoud h0_world_folk_noises x_38_12 g_hc g_hl g_hs g_so g_we g_wl x_38_16 h0_world_lawCount h0_world_force s.1 ∧ RXu x_38_21 x_38_22 x_38_23 x_38_24 x_38_25 x_38_19 x_38_20 s.1 s.2.1 ∧ x_38_1.toInt = s.2.2.1 ∧ x_38_2.toInt = s.2.2.2) ∧ (∃ s : OSt, rnT ls cl cl.2.2.2.1 s0 = some s ∧ RXw f_h0_world_rock_kind f_h0_world_rock_hard x_38_15 x_38_14 x_38_17 x_38_18 h0_world_crew_count x_38_13 g_ea h0_world_folk_listeners f_h0_world_folk_noiseColumn f_h0_world_folk_noiseLoud h0_world_folk_noises x_38_12 g_hc g_hl g_hs g_so g_we g_wl x_38_16 h0_world_lawCount h0_world_force s.1 ∧ RXu x_38_21 x_38_22 x_38_23 x_38_24 x_38_25 x_38_19 x_38_20 s.1 s.2.1 ∧ x_38_1.toInt = s.2.2.1 ∧ x_38_2.toInt = s.2.2.2) → Qb x_38_0 x_38_1 x_38_2 x_38_3 x_38_4 x_38_5 x_38_6 x_38_7 x_38_8 x_38_9 x_38_10 x_38_11 x_38_12 x_38_13 x_38_14 x_38_15 x_38_16 x_38_17 x_38_18 x_38_19 x_38_20 x_38_21 x_38_22 x_38_23 x_38_24 x_38_25) : ∀ (n : Nat) (x_38_0 : Int32) (x_38_1 : Int32) (x_38_2 : Int32) (x_38_3 : Value) (x_38_4 : Value) (x_38_5 : Int32) (x_38_6 : Int32) (x_38_7 : Int32) (x_38_8 : Int32) (x_38_9 : Int32) (x_38_10 : Int32) (x_38_11 : Nat → Int64) (x_38_12 : Int32) (x_38_13 : Nat → Int32) (x_38_14 : Int64) (x_38_15 : Nat → Int32) (x_38_16 : Nat → Int32) (x_38_17 : Nat → Int32) (x_38_18 : Nat → Int32) (x_38_19 : Int32) (x_38_20 : Int32) (x_38_21 : Nat → Int32) (x_38_22 : Nat → Int32) (x_38_23 : Nat → Int32) (x_38_24 : Nat → Int32) (x_38_25 : Nat → Int32), (0 ≤ x_38_0.toInt ∧ x_38_0.toInt ≤ 20) ∧ (0 ≤ x_38_1.toInt ∧ x_38_1.toInt ≤ 240) ∧ (0 ≤ x_38_5.toInt ∧ x_38_5.toInt ≤ 39) ∧ (CO x_38_13) ∧ (WA x_38_15) ∧ (TE x_38_16) ∧ (CE x_38_17) ∧ (BU x_38_18) ∧ (0 ≤ x_38_19.toInt ∧ x_38_19.toInt ≤ 16) ∧ (0 ≤ x_38_20.toInt ∧ x_38_20.toInt ≤ 15) ∧ (DI x_38_21 x_38_22 x_38_23 x_38_24 x_38_25) ∧ (x_38_1.toInt ≤ 20 * x_12_0.toInt + x_38_0.toInt) ∧ (∃ s : OSt, rnT ls cl cl.2.2.2.1 s0 = rnT ls cl (cl.2.2.2.1 - (x_38_0.toInt).toNat) s ∧ RXw f_h0_world_rock_kind f_h0_world_rock_hard x_38_15 x_38_14 x_38_17 x_38_18 h0_world_crew_count x_38_13 g_ea h0_world_folk_listeners f_h0_world_folk_noiseColumn f_h0_world_folk_noiseLoud h0_world_folk_noises x_38_12 g_hc g_hl g_hs g_so g_we g_wl x_38_16 h0_world_lawCount h0_world_force s.1 ∧ RXu x_38_21 x_38_22 x_38_23 x_38_24 x_38_25 x_38_19 x_38_20 s.1 s.2.1 ∧ x_38_1.toInt = s.2.2.1 ∧ x_38_2.toInt = s.2.2.2) → 21 - x_38_0.toInt < (n : Int) → wl_X7_runOrders_T_38 h0_world p0_length n_p0_heads f_p0_heads n_p0_code f_p0_code h0_world_lawCount h0_world_force h0_world_folk_listeners h0_world_folk_noises f_h0_world_rock_hard h0_world_crew_count f_h0_world_rock_kind f_h0_world_laws t t_clauses t_length n_t_heads f_t_heads n_t_code f_t_code f_h0_world_folk_noiseColumn f_h0_world_folk_noiseLoud x_12_0 r_23 r_30 Q Qb n x_38_0 x_38_1 x_38_2 x_38_3 x_38_4 x_38_5 x_38_6 x_38_7 x_38_8 x_38_9 x_38_10 x_38_11 x_38_12 x_38_13 x_38_14 x_38_15 x_38_16 x_38_17 x_38_18 x_38_19 x_38_20 x_38_21 x_38_22 x_38_23 x_38_24 x_38_25 := by
  intro n
  induction n with
  | zero =>
    intro x_38_0 x_38_1 x_38_2 x_38_3 x_38_4 x_38_5 x_38_6 x_38_7 x_38_8 x_38_9 x_38_10 x_38_11 x_38_12 x_38_13 x_38_14 x_38_15 x_38_16 x_38_17 x_38_18 x_38_19 x_38_20 x_38_21 x_38_22 x_38_23 x_38_24 x_38_25 hI hm
    exfalso; have hm : 21 - x_38_0.toInt < 0 := hm; omega
  | succ n ih =>
    intro x_38_0 x_38_1 x_38_2 x_38_3 x_38_4 x_38_5 x_38_6 x_38_7 x_38_8 x_38_9 x_38_10 x_38_11 x_38_12 x_38_13 x_38_14 x_38_15 x_38_16 x_38_17 x_38_18 x_38_19 x_38_20 x_38_21 x_38_22 x_38_23 x_38_24 x_38_25 hI hm
    have hm : 21 - x_38_0.toInt < (n : Int) + 1 := by simpa using hm
    have h_x_38_0 := hI.1
    have h_x_38_1 := hI.2.1
    have h_x_38_5 := hI.2.2.1
    have h_x_38_13 := hI.2.2.2.1
    have h_x_38_15 := hI.2.2.2.2.1
    have h_x_38_16 := hI.2.2.2.2.2.1
    have h_x_38_17 := hI.2.2.2.2.2.2.1
    have h_x_38_18 := hI.2.2.2.2.2.2.2.1
    have h_x_38_19 := hI.2.2.2.2.2.2.2.2.1
    have h_x_38_20 := hI.2.2.2.2.2.2.2.2.2.1
    have h_rel0 := hI.2.2.2.2.2.2.2.2.2.2.1
    have h_rel1 := hI.2.2.2.2.2.2.2.2.2.2.2.1
    have h_rel2 := hI.2.2.2.2.2.2.2.2.2.2.2.2
    unfold wl_X7_runOrders_T_38
    have ol := hokO.2.2.2.2.1
    obtain ⟨zl1, zl2, zl3, zl4, zl5⟩ := zl
    obtain ⟨⟨w1, U1, dn1, lt1⟩, hI, hX, hU, hd, hl⟩ := h_rel2
    have hd : x_38_1.toInt = dn1 := hd
    have hl : x_38_2.toInt = lt1 := hl
    subst hd
    subst hl
    have l_kd := RXw.kd hX
    have l_hd := RXw.hd hX
    have l_wt := RXw.wt hX
    have l_ce := RXw.ce hX
    have l_bu := RXw.bu hX
    have l_cc : h0_world_crew_count.toInt = w1 0 := RXw.cc hX
    have l_co := RXw.co hX
    have l_ls : h0_world_folk_listeners.toInt = w1 1 := RXw.ls hX
    have l_nc := RXw.nc hX
    have l_nl := RXw.nl hX
    have l_ns : h0_world_folk_noises.toInt = w1 2 := RXw.ns hX
    have l_te := RXw.te hX
    have l_lc : h0_world_lawCount.toInt = w1 5 := RXw.lc hX
    have l_fo : h0_world_force.toInt = w1 6 := RXw.fo hX
    have htx1 : XTx t_clauses t_length n_t_heads f_t_heads n_t_code f_t_code (ls (w1 6).toNat) := by rw [show w1 6 = h0_world_force.toInt from (RXw.fo hX).symm]; exact htx
    have hok1 : ∀ q ∈ ls (w1 6).toNat, okC q := by rw [show w1 6 = h0_world_force.toInt from (RXw.fo hX).symm]; exact hok
    by_cases c12 : r_23 ≤ x_38_0
    · refine br1 c12 ?_
      have d13 := le_z (x := (Int32.toInt r_23)) (y := (Int32.toInt x_38_0)) rfl rfl c12
      exact KX _ _ _ _ _ _ _ _ _ _ _ _ _ _ _ _ _ _ _ _ _ _ _ _ _ _ ⟨(by first | with_reducible assumption | exact ⟨by omega, by omega⟩), (by first | with_reducible assumption | exact ⟨by omega, by omega⟩), (by first | with_reducible assumption | exact ⟨by omega, by omega⟩), h_x_38_13, h_x_38_15, h_x_38_16, h_x_38_17, h_x_38_18, (by first | with_reducible assumption | exact ⟨by omega, by omega⟩), (by first | with_reducible assumption | exact ⟨by omega, by omega⟩), h_rel0, (by omega), ⟨(w1, U1, x_38_1.toInt, x_38_2.toInt), hI, hX, hU, rfl, rfl⟩, ⟨(w1, U1, x_38_1.toInt, x_38_2.toInt), by rw [hI, show cl.2.2.2.1 - x_38_0.toInt.toNat = 0 by omega]; rfl, hX, hU, rfl, rfl⟩⟩
    · refine br0 c12 ?_
      have d14 := nle_z (x := (Int32.toInt r_23)) (y := (Int32.toInt x_38_0)) rfl rfl c12
      refine o_X0_turnToOrders _ _ _ ?_
      refine un2_i ?_
      refine jn_s ?_
      by_cases c15 : r_30 = (-1)
      · refine br1 c15 ?_
        have d16 := eq_z (x := (Int32.toInt r_30)) (y := (-1)) rfl (by decide) c15
        have hg17 := z_tst0 (v := ovW w1 x_38_1.toInt x_38_2.toInt) hsg3 (by omega)
        refine un2_i ?_
        refine s_X7_runOrder_Tz (ls := ls) x_12_0 h0_world x_38_2 p0_length n_p0_heads (f_p0_heads) x_38_4 x_38_5 x_38_6 x_38_7 x_38_1 x_38_2 x_38_10 n_p0_code (f_p0_code) (x_38_11) h0_world_lawCount h0_world_force h0_world_folk_listeners h0_world_folk_noises x_38_12 (x_38_13) x_38_14 (f_h0_world_rock_hard) (x_38_15) (x_38_16) h0_world_crew_count (x_38_17) (x_38_18) (f_h0_world_rock_kind) (f_h0_world_laws) t t_clauses t_length n_t_heads (f_t_heads) n_t_code (f_t_code) x_38_19 x_38_20 (x_38_21) (x_38_22) (x_38_23) (x_38_24) (x_38_25) (f_h0_world_folk_noiseColumn) (f_h0_world_folk_noiseLoud) (by first | with_reducible assumption | exact ⟨by omega, by omega⟩) (by first | with_reducible assumption | exact ⟨by omega, by omega⟩) h_f_p0_heads (by first | with_reducible assumption | exact ⟨by omega, by omega⟩) h_f_p0_code (by first | with_reducible assumption | exact ⟨by omega, by omega⟩) (by first | with_reducible assumption | exact ⟨by omega, by omega⟩) (by first | with_reducible assumption | exact ⟨by omega, by omega⟩) (by first | with_reducible assumption | exact ⟨by omega, by omega⟩) h_x_38_13 h_f_h0_world_rock_hard h_x_38_15 h_x_38_16 (by first | with_reducible assumption | exact ⟨by omega, by omega⟩) h_x_38_17 h_x_38_18 h_f_h0_world_rock_kind (by first | with_reducible assumption | exact ⟨by omega, by omega⟩) (by first | with_reducible assumption | exact ⟨by omega, by omega⟩) h_f_t_code (by first | with_reducible assumption | exact ⟨by omega, by omega⟩) (by first | with_reducible assumption | exact ⟨by omega, by omega⟩) h_f_h0_world_folk_noiseColumn h_f_h0_world_folk_noiseLoud hX hU h_rel0 htx1 hok1 hxc hokO (by omega) (by omega) (by omega) (by omega) (by omega) (by omega) (by omega) (by omega) (by assumption) (fun r18 u19_0 u19_1 u19_2 u19_3 u19_4 u19_5 u19_6 u19_7 u19_8 u19_9 u19_10 u19_11 u19_12 u19_13 u19_14 u19_15 u19_16 u19_17 u19_18 u19_19 u19_20 u19_21 H20 => ?_)
        have j21 := H20.1
        have j22 := H20.2.1
        have j23 := H20.2.2.1
        have j24 := H20.2.2.2.1
        have j25 := H20.2.2.2.2.1
        have j26 := H20.2.2.2.2.2.1
        have j27 := H20.2.2.2.2.2.2.1
        have j28 := H20.2.2.2.2.2.2.2.1
        have j29 := H20.2.2.2.2.2.2.2.2.1
        have j30 := H20.2.2.2.2.2.2.2.2.2.1
        have j31 := H20.2.2.2.2.2.2.2.2.2.2.1
        have j32 := H20.2.2.2.2.2.2.2.2.2.2.2.1
        have j33 := H20.2.2.2.2.2.2.2.2.2.2.2.2.1
        have j34 := H20.2.2.2.2.2.2.2.2.2.2.2.2.2
        refine un22_i ?_
        have an35 := j30
        by_cases c36 : r18 = 0
        · refine br1 c36 ?_
          have d37 := eq_z (x := (Int32.toInt r18)) (y := 0) rfl rfl c36
          have hp38 := ifz0 an35 (by omega)
          exact hq _ _ _ _ _ _ _ _ _ _ _ _ _ _ _ _ _ _ _ _ _ _ _ _ _ _ ⟨(by first | with_reducible assumption | exact ⟨by omega, by omega⟩), (by first | with_reducible assumption | exact ⟨by omega, by omega⟩), (by first | with_reducible assumption | exact ⟨by omega, by omega⟩), j23, j24, j25, j26, j27, (by first | with_reducible assumption | exact ⟨by omega, by omega⟩), (by first | with_reducible assumption | exact ⟨by omega, by omega⟩), ⟨by rw [hO, ordF_f (hI.trans (rnT_f (rn1_f (s := (w1, U1, x_38_1.toInt, x_38_2.toInt)) hg17 hp38) (m := cl.2.2.2.1 - x_38_0.toInt.toNat - 1) (by omega)))]; show x_12_0.toInt = ((x_12_0.toInt.toNat : Nat) : Int); omega, fun s hs => by rw [hO, ordF_f (hI.trans (rnT_f (rn1_f (s := (w1, U1, x_38_1.toInt, x_38_2.toInt)) hg17 hp38) (m := cl.2.2.2.1 - x_38_0.toInt.toNat - 1) (by omega)))] at hs; cases hs⟩, j33⟩
        · refine br0 c36 ?_
          have d39 := ne_z (x := (Int32.toInt r18)) (y := 0) rfl rfl c36
          have hp40 := ifz1 an35 (by omega)
          have t41 : (Int32.toInt (x_38_0 + 1)) = (Int32.toInt x_38_0) + 1 := add_z rfl rfl (by omega) (by omega)
          have t42 : (Int32.toInt (x_38_1 + 1)) = (Int32.toInt x_38_1) + 1 := add_z rfl rfl (by omega) (by omega)
          exact ih _ _ _ _ _ _ _ _ _ _ _ _ _ _ _ _ _ _ _ _ _ _ _ _ _ _ ⟨(by first | with_reducible assumption | exact ⟨by omega, by omega⟩), (by first | with_reducible assumption | exact ⟨by omega, by omega⟩), (by first | with_reducible assumption | exact ⟨by omega, by omega⟩), j23, j24, j25, j26, j27, (by first | with_reducible assumption | exact ⟨by omega, by omega⟩), (by first | with_reducible assumption | exact ⟨by omega, by omega⟩), j33, (by omega), ⟨_, by rw [hI, rnT_c (rn1_g (s := (w1, U1, x_38_1.toInt, x_38_2.toInt)) hg17 hp40) (show cl.2.2.2.1 - x_38_0.toInt.toNat = (cl.2.2.2.1 - (x_38_0 + 1).toInt.toNat) + 1 by omega)], j31, by have q := j32; rw [rmU_p hp40] at q; exact q, by omega, j34 hp40⟩⟩ (by omega)
      · refine br0 c15 ?_
        have d43 := ne_z (x := (Int32.toInt r_30)) (y := (-1)) rfl (by decide) c15
        refine z_rtst (RXw.evO hX (by omega) (by omega)) (by omega) (by omega) (by omega) hsg3 (by omega) hokO.2.2.2.2.2 (fun r45 v46 st47 H52 => ?_)
        refine un2_i ?_
        rcases H52 with ⟨e48, e51, hg50⟩ | ⟨e48, e51, hg50⟩ | ⟨e48, hg50⟩
        · skip
          refine br0 (z_ne (x := (Int32.toInt r45)) (y := 0) rfl rfl (by omega)) ?_
          refine o_X0_reckoned _ _ ?_
          refine br1 (z_eq (x := (Int32.toInt v46)) (y := 1) rfl rfl (by omega)) ?_
          refine un2_i ?_
          refine s_X7_runOrder_Tz (ls := ls) x_12_0 h0_world x_38_2 p0_length n_p0_heads (f_p0_heads) x_38_4 x_38_5 x_38_6 x_38_7 x_38_1 x_38_2 v46 n_p0_code (f_p0_code) (st47) h0_world_lawCount h0_world_force h0_world_folk_listeners h0_world_folk_noises x_38_12 (x_38_13) x_38_14 (f_h0_world_rock_hard) (x_38_15) (x_38_16) h0_world_crew_count (x_38_17) (x_38_18) (f_h0_world_rock_kind) (f_h0_world_laws) t t_clauses t_length n_t_heads (f_t_heads) n_t_code (f_t_code) x_38_19 x_38_20 (x_38_21) (x_38_22) (x_38_23) (x_38_24) (x_38_25) (f_h0_world_folk_noiseColumn) (f_h0_world_folk_noiseLoud) (by first | with_reducible assumption | exact ⟨by omega, by omega⟩) (by first | with_reducible assumption | exact ⟨by omega, by omega⟩) h_f_p0_heads (by first | with_reducible assumption | exact ⟨by omega, by omega⟩) h_f_p0_code (by first | with_reducible assumption | exact ⟨by omega, by omega⟩) (by first | with_reducible assumption | exact ⟨by omega, by omega⟩) (by first | with_reducible assumption | exact ⟨by omega, by omega⟩) (by first | with_reducible assumption | exact ⟨by omega, by omega⟩) h_x_38_13 h_f_h0_world_rock_hard h_x_38_15 h_x_38_16 (by first | with_reducible assumption | exact ⟨by omega, by omega⟩) h_x_38_17 h_x_38_18 h_f_h0_world_rock_kind (by first | with_reducible assumption | exact ⟨by omega, by omega⟩) (by first | with_reducible assumption | exact ⟨by omega, by omega⟩) h_f_t_code (by first | with_reducible assumption | exact ⟨by omega, by omega⟩) (by first | with_reducible assumption | exact ⟨by omega, by omega⟩) h_f_h0_world_folk_noiseColumn h_f_h0_world_folk_noiseLoud hX hU h_rel0 htx1 hok1 hxc hokO (by omega) (by omega) (by omega) (by omega) (by omega) (by omega) (by omega) (by omega) (by assumption) (fun r53 u54_0 u54_1 u54_2 u54_3 u54_4 u54_5 u54_6 u54_7 u54_8 u54_9 u54_10 u54_11 u54_12 u54_13 u54_14 u54_15 u54_16 u54_17 u54_18 u54_19 u54_20 u54_21 H55 => ?_)
          have j56 := H55.1
          have j57 := H55.2.1
          have j58 := H55.2.2.1
          have j59 := H55.2.2.2.1
          have j60 := H55.2.2.2.2.1
          have j61 := H55.2.2.2.2.2.1
          have j62 := H55.2.2.2.2.2.2.1
          have j63 := H55.2.2.2.2.2.2.2.1
          have j64 := H55.2.2.2.2.2.2.2.2.1
          have j65 := H55.2.2.2.2.2.2.2.2.2.1
          have j66 := H55.2.2.2.2.2.2.2.2.2.2.1
          have j67 := H55.2.2.2.2.2.2.2.2.2.2.2.1
          have j68 := H55.2.2.2.2.2.2.2.2.2.2.2.2.1
          have j69 := H55.2.2.2.2.2.2.2.2.2.2.2.2.2
          refine un22_i ?_
          have an70 := j65
          by_cases c71 : r53 = 0
          · refine br1 c71 ?_
            have d72 := eq_z (x := (Int32.toInt r53)) (y := 0) rfl rfl c71
            have hp73 := ifz0 an70 (by omega)
            exact hq _ _ _ _ _ _ _ _ _ _ _ _ _ _ _ _ _ _ _ _ _ _ _ _ _ _ ⟨(by first | with_reducible assumption | exact ⟨by omega, by omega⟩), (by first | with_reducible assumption | exact ⟨by omega, by omega⟩), (by first | with_reducible assumption | exact ⟨by omega, by omega⟩), j58, j59, j60, j61, j62, (by first | with_reducible assumption | exact ⟨by omega, by omega⟩), (by first | with_reducible assumption | exact ⟨by omega, by omega⟩), ⟨by rw [hO, ordF_f (hI.trans (rnT_f (rn1_f (s := (w1, U1, x_38_1.toInt, x_38_2.toInt)) hg50 hp73) (m := cl.2.2.2.1 - x_38_0.toInt.toNat - 1) (by omega)))]; show x_12_0.toInt = ((x_12_0.toInt.toNat : Nat) : Int); omega, fun s hs => by rw [hO, ordF_f (hI.trans (rnT_f (rn1_f (s := (w1, U1, x_38_1.toInt, x_38_2.toInt)) hg50 hp73) (m := cl.2.2.2.1 - x_38_0.toInt.toNat - 1) (by omega)))] at hs; cases hs⟩, j68⟩
          · refine br0 c71 ?_
            have d74 := ne_z (x := (Int32.toInt r53)) (y := 0) rfl rfl c71
            have hp75 := ifz1 an70 (by omega)
            have t76 : (Int32.toInt (x_38_0 + 1)) = (Int32.toInt x_38_0) + 1 := add_z rfl rfl (by omega) (by omega)
            have t77 : (Int32.toInt (x_38_1 + 1)) = (Int32.toInt x_38_1) + 1 := add_z rfl rfl (by omega) (by omega)
            exact ih _ _ _ _ _ _ _ _ _ _ _ _ _ _ _ _ _ _ _ _ _ _ _ _ _ _ ⟨(by first | with_reducible assumption | exact ⟨by omega, by omega⟩), (by first | with_reducible assumption | exact ⟨by omega, by omega⟩), (by first | with_reducible assumption | exact ⟨by omega, by omega⟩), j58, j59, j60, j61, j62, (by first | with_reducible assumption | exact ⟨by omega, by omega⟩), (by first | with_reducible assumption | exact ⟨by omega, by omega⟩), j68, (by omega), ⟨_, by rw [hI, rnT_c (rn1_g (s := (w1, U1, x_38_1.toInt, x_38_2.toInt)) hg50 hp75) (show cl.2.2.2.1 - x_38_0.toInt.toNat = (cl.2.2.2.1 - (x_38_0 + 1).toInt.toNat) + 1 by omega)], j66, by have q := j67; rw [rmU_p hp75] at q; exact q, by omega, j69 hp75⟩⟩ (by omega)
        · skip
          refine br0 (z_ne (x := (Int32.toInt r45)) (y := 0) rfl rfl (by omega)) ?_
          refine o_X0_reckoned _ _ ?_
          refine br0 (z_ne (x := (Int32.toInt v46)) (y := 1) rfl rfl (by omega)) ?_
          have t78 : (Int32.toInt (x_38_0 + 1)) = (Int32.toInt x_38_0) + 1 := add_z rfl rfl (by omega) (by omega)
          exact ih _ _ _ _ _ _ _ _ _ _ _ _ _ _ _ _ _ _ _ _ _ _ _ _ _ _ ⟨(by first | with_reducible assumption | exact ⟨by omega, by omega⟩), (by first | with_reducible assumption | exact ⟨by omega, by omega⟩), (by first | with_reducible assumption | exact ⟨by omega, by omega⟩), h_x_38_13, h_x_38_15, h_x_38_16, h_x_38_17, h_x_38_18, (by first | with_reducible assumption | exact ⟨by omega, by omega⟩), (by first | with_reducible assumption | exact ⟨by omega, by omega⟩), h_rel0, (by omega), ⟨(w1, U1, x_38_1.toInt, x_38_2.toInt), by rw [hI, rnT_c (rn1_s (s := (w1, U1, x_38_1.toInt, x_38_2.toInt)) hg50) (show cl.2.2.2.1 - x_38_0.toInt.toNat = (cl.2.2.2.1 - (x_38_0 + 1).toInt.toNat) + 1 by omega)], hX, hU, rfl, rfl⟩⟩ (by omega)
        · skip
          refine br1 (z_eq (x := (Int32.toInt r45)) (y := 0) rfl rfl (by omega)) ?_
          have t79 : (Int32.toInt (x_38_0 + 1)) = (Int32.toInt x_38_0) + 1 := add_z rfl rfl (by omega) (by omega)
          exact ih _ _ _ _ _ _ _ _ _ _ _ _ _ _ _ _ _ _ _ _ _ _ _ _ _ _ ⟨(by first | with_reducible assumption | exact ⟨by omega, by omega⟩), (by first | with_reducible assumption | exact ⟨by omega, by omega⟩), (by first | with_reducible assumption | exact ⟨by omega, by omega⟩), h_x_38_13, h_x_38_15, h_x_38_16, h_x_38_17, h_x_38_18, (by first | with_reducible assumption | exact ⟨by omega, by omega⟩), (by first | with_reducible assumption | exact ⟨by omega, by omega⟩), h_rel0, (by omega), ⟨(w1, U1, x_38_1.toInt, x_38_2.toInt), by rw [hI, rnT_c (rn1_s (s := (w1, U1, x_38_1.toInt, x_38_2.toInt)) hg50) (show cl.2.2.2.1 - x_38_0.toInt.toNat = (cl.2.2.2.1 - (x_38_0 + 1).toInt.toNat) + 1 by omega)], hX, hU, rfl, rfl⟩⟩ (by omega)
set_option maxRecDepth 100000 in
theorem sl_X7_runOrders_T_12z (h0_world : Nat) (p0_clauses : Int32) (p0_length : Int32) (n_p0_heads : Nat) (f_p0_heads : Nat → Int32) (n_p0_code : Nat) (f_p0_code : Nat → Int32) (h0_world_lawCount : Int32) (h0_world_force : Int32) (h0_world_folk_listeners : Int32) (h0_world_folk_noises : Int32) (f_h0_world_rock_hard : Nat → Int32) (h0_world_crew_count : Int32) (f_h0_world_rock_kind : Nat → Int32) (f_h0_world_laws : Nat → Option Nat) (t : Nat) (t_clauses : Int32) (t_length : Int32) (n_t_heads : Nat) (f_t_heads : Nat → Int32) (n_t_code : Nat) (f_t_code : Nat → Int32) (f_h0_world_folk_noiseColumn : Nat → Int32) (f_h0_world_folk_noiseLoud : Nat → Int32) (w : Nat → Int) (U : UL) (ls : Nat → List Cls) (L : List Cls) (c0 : Nat) (g_ea : Nat → Int32) (g_hc : Nat → Int32) (g_hl : Nat → Int32) (g_hs : Int32) (g_so : Nat → Int32) (g_we : Nat → Int32) (g_wl : Int32) (h_p0_clauses : 0 ≤ p0_clauses.toInt ∧ p0_clauses.toInt ≤ 12) (h_p0_length : 0 ≤ p0_length.toInt ∧ p0_length.toInt ≤ 400) (h_f_p0_heads : HD f_p0_heads) (h_f_p0_code : CD f_p0_code) (h_h0_world_lawCount : 0 ≤ h0_world_lawCount.toInt ∧ h0_world_lawCount.toInt ≤ 6) (h_h0_world_force : 0 ≤ h0_world_force.toInt ∧ h0_world_force.toInt ≤ 5) (h_h0_world_folk_listeners : 0 ≤ h0_world_folk_listeners.toInt ∧ h0_world_folk_listeners.toInt ≤ 5) (h_h0_world_folk_noises : 0 ≤ h0_world_folk_noises.toInt ∧ h0_world_folk_noises.toInt ≤ 6) (h_f_h0_world_rock_hard : HA f_h0_world_rock_hard) (h_h0_world_crew_count : 0 ≤ h0_world_crew_count.toInt ∧ h0_world_crew_count.toInt ≤ 6) (h_f_h0_world_rock_kind : KI f_h0_world_rock_kind) (h_t_clauses : 0 ≤ t_clauses.toInt ∧ t_clauses.toInt ≤ 12) (h_t_length : 0 ≤ t_length.toInt ∧ t_length.toInt ≤ 400) (h_f_t_code : CD f_t_code) (h_f_h0_world_folk_noiseColumn : NC f_h0_world_folk_noiseColumn) (h_f_h0_world_folk_noiseLoud : NL f_h0_world_folk_noiseLoud) (zlaw : f_h0_world_laws (Int32.toNatClampNeg h0_world_force) = some t) (zfo : h0_world_force.toInt < h0_world_lawCount.toInt) (zp : p0_clauses.toInt = (L.length : Int) ∧ L.length ≤ 12 ∧ p0_length.toInt = (c0 : Int) ∧ c0 ≤ 400 ∧ c0 ≤ n_p0_code ∧ n_p0_heads = 60) (htx : XTx t_clauses t_length n_t_heads f_t_heads n_t_code f_t_code (ls h0_world_force.toInt.toNat)) (hok : ∀ q ∈ ls h0_world_force.toInt.toNat, okC q) (z_n_p0_heads : n_p0_heads < 100000) (z_n_p0_code : p0_length.toInt ≤ (n_p0_code : Int)) (z_n_t_heads : n_t_heads < 100000) (z_n_t_code : t_length.toInt ≤ (n_t_code : Int)) {Q : Int32 → (Int32 × Int32 × Value × Value × Int32 × Int32 × Int32 × Int32 × Int32 × Int32 × (Nat → Int64) × Int32 × (Nat → Int32) × Int64 × (Nat → Int32) × (Nat → Int32) × (Nat → Int32) × (Nat → Int32) × Int32 × Int32 × (Nat → Int32) × (Nat → Int32) × (Nat → Int32) × (Nat → Int32) × (Nat → Int32)) → Prop} (hq : ∀ (r : Int32) (u_0 : Int32) (u_1 : Int32) (u_2 : Value) (u_3 : Value) (u_4 : Int32) (u_5 : Int32) (u_6 : Int32) (u_7 : Int32) (u_8 : Int32) (u_9 : Int32) (u_10 : Nat → Int64) (u_11 : Int32) (u_12 : Nat → Int32) (u_13 : Int64) (u_14 : Nat → Int32) (u_15 : Nat → Int32) (u_16 : Nat → Int32) (u_17 : Nat → Int32) (u_18 : Int32) (u_19 : Int32) (u_20 : Nat → Int32) (u_21 : Nat → Int32) (u_22 : Nat → Int32) (u_23 : Nat → Int32) (u_24 : Nat → Int32), ((-1) ≤ r.toInt ∧ r.toInt ≤ 11) ∧ (0 ≤ u_0.toInt ∧ u_0.toInt ≤ 240) ∧ (0 ≤ u_4.toInt ∧ u_4.toInt ≤ 39) ∧ (CO u_12) ∧ (WA u_14) ∧ (TE u_15) ∧ (CE u_16) ∧ (BU u_17) ∧ (0 ≤ u_18.toInt ∧ u_18.toInt ≤ 16) ∧ (0 ≤ u_19.toInt ∧ u_19.toInt ≤ 15) ∧ (r.toInt = (ordF ls 0 L (w, U, 0, -1)).2 ∧ ∀ s : OSt, (ordF ls 0 L (w, U, 0, -1)).1 = some s → RXw f_h0_world_rock_kind f_h0_world_rock_hard u_14 u_13 u_16 u_17 h0_world_crew_count u_12 g_ea h0_world_folk_listeners f_h0_world_folk_noiseColumn f_h0_world_folk_noiseLoud h0_world_folk_noises u_11 g_hc g_hl g_hs g_so g_we g_wl u_15 h0_world_lawCount h0_world_force s.1 ∧ RXu u_20 u_21 u_22 u_23 u_24 u_18 u_19 s.1 s.2.1 ∧ u_0.toInt = s.2.2.1) ∧ (DI u_20 u_21 u_22 u_23 u_24) → Q r (u_0, u_1, u_2, u_3, u_4, u_5, u_6, u_7, u_8, u_9, u_10, u_11, u_12, u_13, u_14, u_15, u_16, u_17, u_18, u_19, u_20, u_21, u_22, u_23, u_24)) (Qb : Int32 → Int32 → Int32 → Value → Value → Int32 → Int32 → Int32 → Int32 → Int32 → Int32 → (Nat → Int64) → Int32 → (Nat → Int32) → Int64 → (Nat → Int32) → (Nat → Int32) → (Nat → Int32) → (Nat → Int32) → Int32 → Int32 → (Nat → Int32) → (Nat → Int32) → (Nat → Int32) → (Nat → Int32) → (Nat → Int32) → Prop) (KX : ∀ (x_12_0 : Int32) (x_12_1 : Int32) (x_12_2 : Int32) (x_12_3 : Value) (x_12_4 : Value) (x_12_5 : Int32) (x_12_6 : Int32) (x_12_7 : Int32) (x_12_8 : Int32) (x_12_9 : Int32) (x_12_10 : Int32) (x_12_11 : Nat → Int64) (x_12_12 : Int32) (x_12_13 : Nat → Int32) (x_12_14 : Int64) (x_12_15 : Nat → Int32) (x_12_16 : Nat → Int32) (x_12_17 : Nat → Int32) (x_12_18 : Nat → Int32) (x_12_19 : Int32) (x_12_20 : Int32) (x_12_21 : Nat → Int32) (x_12_22 : Nat → Int32) (x_12_23 : Nat → Int32) (x_12_24 : Nat → Int32) (x_12_25 : Nat → Int32), (0 ≤ x_12_0.toInt ∧ x_12_0.toInt ≤ 12) ∧ (0 ≤ x_12_1.toInt ∧ x_12_1.toInt ≤ 240) ∧ (0 ≤ x_12_5.toInt ∧ x_12_5.toInt ≤ 39) ∧ (CO x_12_13) ∧ (WA x_12_15) ∧ (TE x_12_16) ∧ (CE x_12_17) ∧ (BU x_12_18) ∧ (0 ≤ x_12_19.toInt ∧ x_12_19.toInt ≤ 16) ∧ (0 ≤ x_12_20.toInt ∧ x_12_20.toInt ≤ 15) ∧ (DI x_12_21 x_12_22 x_12_23 x_12_24 x_12_25) ∧ (x_12_1.toInt ≤ 20 * x_12_0.toInt) ∧ (∃ (s : OSt) (r : List Cls), ordF ls 0 L (w, U, 0, -1) = ordF ls (x_12_0.toInt).toNat r s ∧ x_12_0.toInt + (r.length : Int) = (L.length : Int) ∧ XCs true f_p0_heads f_p0_code c0 (x_12_0.toInt).toNat r ∧ (∀ q ∈ r, okO q) ∧ RXw f_h0_world_rock_kind f_h0_world_rock_hard x_12_15 x_12_14 x_12_17 x_12_18 h0_world_crew_count x_12_13 g_ea h0_world_folk_listeners f_h0_world_folk_noiseColumn f_h0_world_folk_noiseLoud h0_world_folk_noises x_12_12 g_hc g_hl g_hs g_so g_we g_wl x_12_16 h0_world_lawCount h0_world_force s.1 ∧ RXu x_12_21 x_12_22 x_12_23 x_12_24 x_12_25 x_12_19 x_12_20 s.1 s.2.1 ∧ x_12_1.toInt = s.2.2.1 ∧ x_12_2.toInt = s.2.2.2) ∧ (∃ s : OSt, ordF ls 0 L (w, U, 0, -1) = (some s, -1) ∧ RXw f_h0_world_rock_kind f_h0_world_rock_hard x_12_15 x_12_14 x_12_17 x_12_18 h0_world_crew_count x_12_13 g_ea h0_world_folk_listeners f_h0_world_folk_noiseColumn f_h0_world_folk_noiseLoud h0_world_folk_noises x_12_12 g_hc g_hl g_hs g_so g_we g_wl x_12_16 h0_world_lawCount h0_world_force s.1 ∧ RXu x_12_21 x_12_22 x_12_23 x_12_24 x_12_25 x_12_19 x_12_20 s.1 s.2.1 ∧ x_12_1.toInt = s.2.2.1) → Qb x_12_0 x_12_1 x_12_2 x_12_3 x_12_4 x_12_5 x_12_6 x_12_7 x_12_8 x_12_9 x_12_10 x_12_11 x_12_12 x_12_13 x_12_14 x_12_15 x_12_16 x_12_17 x_12_18 x_12_19 x_12_20 x_12_21 x_12_22 x_12_23 x_12_24 x_12_25) : ∀ (n : Nat) (x_12_0 : Int32) (x_12_1 : Int32) (x_12_2 : Int32) (x_12_3 : Value) (x_12_4 : Value) (x_12_5 : Int32) (x_12_6 : Int32) (x_12_7 : Int32) (x_12_8 : Int32) (x_12_9 : Int32) (x_12_10 : Int32) (x_12_11 : Nat → Int64) (x_12_12 : Int32) (x_12_13 : Nat → Int32) (x_12_14 : Int64) (x_12_15 : Nat → Int32) (x_12_16 : Nat → Int32) (x_12_17 : Nat → Int32) (x_12_18 : Nat → Int32) (x_12_19 : Int32) (x_12_20 : Int32) (x_12_21 : Nat → Int32) (x_12_22 : Nat → Int32) (x_12_23 : Nat → Int32) (x_12_24 : Nat → Int32) (x_12_25 : Nat → Int32), (0 ≤ x_12_0.toInt ∧ x_12_0.toInt ≤ 12) ∧ (0 ≤ x_12_1.toInt ∧ x_12_1.toInt ≤ 240) ∧ (0 ≤ x_12_5.toInt ∧ x_12_5.toInt ≤ 39) ∧ (CO x_12_13) ∧ (WA x_12_15) ∧ (TE x_12_16) ∧ (CE x_12_17) ∧ (BU x_12_18) ∧ (0 ≤ x_12_19.toInt ∧ x_12_19.toInt ≤ 16) ∧ (0 ≤ x_12_20.toInt ∧ x_12_20.toInt ≤ 15) ∧ (DI x_12_21 x_12_22 x_12_23 x_12_24 x_12_25) ∧ (x_12_1.toInt ≤ 20 * x_12_0.toInt) ∧ (∃ (s : OSt) (r : List Cls), ordF ls 0 L (w, U, 0, -1) = ordF ls (x_12_0.toInt).toNat r s ∧ x_12_0.toInt + (r.length : Int) = (L.length : Int) ∧ XCs true f_p0_heads f_p0_code c0 (x_12_0.toInt).toNat r ∧ (∀ q ∈ r, okO q) ∧ RXw f_h0_world_rock_kind f_h0_world_rock_hard x_12_15 x_12_14 x_12_17 x_12_18 h0_world_crew_count x_12_13 g_ea h0_world_folk_listeners f_h0_world_folk_noiseColumn f_h0_world_folk_noiseLoud h0_world_folk_noises x_12_12 g_hc g_hl g_hs g_so g_we g_wl x_12_16 h0_world_lawCount h0_world_force s.1 ∧ RXu x_12_21 x_12_22 x_12_23 x_12_24 x_12_25 x_12_19 x_12_20 s.1 s.2.1 ∧ x_12_1.toInt = s.2.2.1 ∧ x_12_2.toInt = s.2.2.2) → 13 - x_12_0.toInt < (n : Int) → wl_X7_runOrders_T_12 h0_world p0_clauses p0_length n_p0_heads f_p0_heads n_p0_code f_p0_code h0_world_lawCount h0_world_force h0_world_folk_listeners h0_world_folk_noises f_h0_world_rock_hard h0_world_crew_count f_h0_world_rock_kind f_h0_world_laws t t_clauses t_length n_t_heads f_t_heads n_t_code f_t_code f_h0_world_folk_noiseColumn f_h0_world_folk_noiseLoud Q Qb n x_12_0 x_12_1 x_12_2 x_12_3 x_12_4 x_12_5 x_12_6 x_12_7 x_12_8 x_12_9 x_12_10 x_12_11 x_12_12 x_12_13 x_12_14 x_12_15 x_12_16 x_12_17 x_12_18 x_12_19 x_12_20 x_12_21 x_12_22 x_12_23 x_12_24 x_12_25 := by
  intro n
  induction n with
  | zero =>
    intro x_12_0 x_12_1 x_12_2 x_12_3 x_12_4 x_12_5 x_12_6 x_12_7 x_12_8 x_12_9 x_12_10 x_12_11 x_12_12 x_12_13 x_12_14 x_12_15 x_12_16 x_12_17 x_12_18 x_12_19 x_12_20 x_12_21 x_12_22 x_12_23 x_12_24 x_12_25 hI hm
    exfalso; have hm : 13 - x_12_0.toInt < 0 := hm; omega
  | succ n ih =>
    intro x_12_0 x_12_1 x_12_2 x_12_3 x_12_4 x_12_5 x_12_6 x_12_7 x_12_8 x_12_9 x_12_10 x_12_11 x_12_12 x_12_13 x_12_14 x_12_15 x_12_16 x_12_17 x_12_18 x_12_19 x_12_20 x_12_21 x_12_22 x_12_23 x_12_24 x_12_25 hI hm
    have hm : 13 - x_12_0.toInt < (n : Int) + 1 := by simpa using hm
    have h_x_12_0 := hI.1
    have h_x_12_1 := hI.2.1
    have h_x_12_5 := hI.2.2.1
    have h_x_12_13 := hI.2.2.2.1
    have h_x_12_15 := hI.2.2.2.2.1
    have h_x_12_16 := hI.2.2.2.2.2.1
    have h_x_12_17 := hI.2.2.2.2.2.2.1
    have h_x_12_18 := hI.2.2.2.2.2.2.2.1
    have h_x_12_19 := hI.2.2.2.2.2.2.2.2.1
    have h_x_12_20 := hI.2.2.2.2.2.2.2.2.2.1
    have h_rel0 := hI.2.2.2.2.2.2.2.2.2.2.1
    have h_rel1 := hI.2.2.2.2.2.2.2.2.2.2.2.1
    have h_rel2 := hI.2.2.2.2.2.2.2.2.2.2.2.2
    unfold wl_X7_runOrders_T_12
    obtain ⟨zp1, zp2, zp3, zp4, zp5, zp6⟩ := zp
    obtain ⟨⟨w1, U1, dn1, lt1⟩, rr, hI, hlen, hXC, hok12, hX, hU, hd, hl⟩ := h_rel2
    have hd : x_12_1.toInt = dn1 := hd
    have hl : x_12_2.toInt = lt1 := hl
    subst hd
    subst hl
    have l_kd := RXw.kd hX
    have l_hd := RXw.hd hX
    have l_wt := RXw.wt hX
    have l_ce := RXw.ce hX
    have l_bu := RXw.bu hX
    have l_cc : h0_world_crew_count.toInt = w1 0 := RXw.cc hX
    have l_co := RXw.co hX
    have l_ls : h0_world_folk_listeners.toInt = w1 1 := RXw.ls hX
    have l_nc := RXw.nc hX
    have l_nl := RXw.nl hX
    have l_ns : h0_world_folk_noises.toInt = w1 2 := RXw.ns hX
    have l_te := RXw.te hX
    have l_lc : h0_world_lawCount.toInt = w1 5 := RXw.lc hX
    have l_fo : h0_world_force.toInt = w1 6 := RXw.fo hX
    by_cases c1 : p0_clauses ≤ x_12_0
    · refine br1 c1 ?_
      have d2 := le_z (x := (Int32.toInt p0_clauses)) (y := (Int32.toInt x_12_0)) rfl rfl c1
      exact KX _ _ _ _ _ _ _ _ _ _ _ _ _ _ _ _ _ _ _ _ _ _ _ _ _ _ ⟨(by first | with_reducible assumption | exact ⟨by omega, by omega⟩), (by first | with_reducible assumption | exact ⟨by omega, by omega⟩), (by first | with_reducible assumption | exact ⟨by omega, by omega⟩), h_x_12_13, h_x_12_15, h_x_12_16, h_x_12_17, h_x_12_18, (by first | with_reducible assumption | exact ⟨by omega, by omega⟩), (by first | with_reducible assumption | exact ⟨by omega, by omega⟩), h_rel0, (by omega), ⟨_, rr, hI, hlen, hXC, hok12, hX, hU, rfl, rfl⟩, ⟨(w1, U1, x_12_1.toInt, x_12_2.toInt), by have q := nnil (r := rr) (by omega); subst q; exact hI, hX, hU, rfl⟩⟩
    · refine br0 c1 ?_
      have d3 := nle_z (x := (Int32.toInt p0_clauses)) (y := (Int32.toInt x_12_0)) rfl rfl c1
      obtain ⟨cl1, r1, erc⟩ := ncons (r := rr) (by omega)
      subst erc
      have hlen : x_12_0.toInt + ((r1.length : Int) + 1) = (L.length : Int) := hlen
      have okt := (hok12 cl1 List.mem_cons_self).2.2.2.2.1
      have k5 : Int32.toInt 4 = 4 := rfl
      refine z_hd4 hXC.1 (by omega) (by omega) (by omega) (fun r4 H6 => ?_)
      have sg7 := H6
      have k9 : Int32.toInt 3 = 3 := rfl
      refine z_hd3 hXC.1 (by omega) (by omega) (by omega) (fun r8 H10 => ?_)
      have sg11 := H10
      have k14 : Int32.toInt 0 = 0 := rfl
      refine sl_X7_runOrders_T_38z h0_world p0_length n_p0_heads (f_p0_heads) n_p0_code (f_p0_code) h0_world_lawCount h0_world_force h0_world_folk_listeners h0_world_folk_noises (f_h0_world_rock_hard) h0_world_crew_count (f_h0_world_rock_kind) f_h0_world_laws t t_clauses t_length n_t_heads (f_t_heads) n_t_code (f_t_code) (f_h0_world_folk_noiseColumn) (f_h0_world_folk_noiseLoud) x_12_0 r4 r8 w U ls L c0 g_ea g_hc g_hl g_hs g_so g_we g_wl cl1 r1 (w1, U1, x_12_1.toInt, x_12_2.toInt) (by first | with_reducible assumption | exact ⟨by omega, by omega⟩) h_f_p0_heads h_f_p0_code (by first | with_reducible assumption | exact ⟨by omega, by omega⟩) (by first | with_reducible assumption | exact ⟨by omega, by omega⟩) (by first | with_reducible assumption | exact ⟨by omega, by omega⟩) (by first | with_reducible assumption | exact ⟨by omega, by omega⟩) h_f_h0_world_rock_hard (by first | with_reducible assumption | exact ⟨by omega, by omega⟩) h_f_h0_world_rock_kind (by first | with_reducible assumption | exact ⟨by omega, by omega⟩) (by first | with_reducible assumption | exact ⟨by omega, by omega⟩) h_f_t_code h_f_h0_world_folk_noiseColumn h_f_h0_world_folk_noiseLoud (by first | with_reducible assumption | exact ⟨by omega, by omega⟩) (by first | with_reducible assumption | exact ⟨by omega, by omega⟩) (by assumption) (by omega) sg7 hXC.1 (hok12 cl1 List.mem_cons_self) sg11 ⟨by omega, by omega, by omega, by omega, by omega⟩ hI htx hok (by omega) (by omega) (by omega) (by omega) hq _ (fun x12_0 x12_1 x12_2 x12_3 x12_4 x12_5 x12_6 x12_7 x12_8 x12_9 x12_10 x12_11 x12_12 x12_13 x12_14 x12_15 x12_16 x12_17 x12_18 x12_19 x12_20 x12_21 x12_22 x12_23 x12_24 x12_25 X13 => ?_) 1000000000000 0 x_12_1 x_12_2 x_12_3 x_12_4 x_12_5 x_12_6 x_12_7 x_12_8 x_12_9 x_12_10 (x_12_11) x_12_12 (x_12_13) x_12_14 (x_12_15) (x_12_16) (x_12_17) (x_12_18) x_12_19 x_12_20 (x_12_21) (x_12_22) (x_12_23) (x_12_24) (x_12_25) ⟨(by decide), (by first | with_reducible assumption | exact ⟨by omega, by omega⟩), (by first | with_reducible assumption | exact ⟨by omega, by omega⟩), h_x_12_13, h_x_12_15, h_x_12_16, h_x_12_17, h_x_12_18, (by first | with_reducible assumption | exact ⟨by omega, by omega⟩), (by first | with_reducible assumption | exact ⟨by omega, by omega⟩), h_rel0, (by omega), ⟨_, rfl, hX, hU, rfl, rfl⟩⟩ (by omega)
      have j15 := X13.1
      have j16 := X13.2.1
      have j17 := X13.2.2.1
      have j18 := X13.2.2.2.1
      have j19 := X13.2.2.2.2.1
      have j20 := X13.2.2.2.2.2.1
      have j21 := X13.2.2.2.2.2.2.1
      have j22 := X13.2.2.2.2.2.2.2.1
      have j23 := X13.2.2.2.2.2.2.2.2.1
      have j24 := X13.2.2.2.2.2.2.2.2.2.1
      have j25 := X13.2.2.2.2.2.2.2.2.2.2.1
      have j26 := X13.2.2.2.2.2.2.2.2.2.2.2.1
      have j27 := X13.2.2.2.2.2.2.2.2.2.2.2.2.1
      have j28 := X13.2.2.2.2.2.2.2.2.2.2.2.2.2
      obtain ⟨s9, k9, hX9, hU9, hd9, hl9⟩ := j28
      have t29 : (Int32.toInt (x_12_0 + 1)) = (Int32.toInt x_12_0) + 1 := add_z rfl rfl (by omega) (by omega)
      exact ih _ _ _ _ _ _ _ _ _ _ _ _ _ _ _ _ _ _ _ _ _ _ _ _ _ _ ⟨(by first | with_reducible assumption | exact ⟨by omega, by omega⟩), (by first | with_reducible assumption | exact ⟨by omega, by omega⟩), (by first | with_reducible assumption | exact ⟨by omega, by omega⟩), j18, j19, j20, j21, j22, (by first | with_reducible assumption | exact ⟨by omega, by omega⟩), (by first | with_reducible assumption | exact ⟨by omega, by omega⟩), j25, (by omega), ⟨s9, r1, by rw [hI, ordF_c k9, show (x_12_0 + 1).toInt.toNat = x_12_0.toInt.toNat + 1 by omega], by omega, by rw [show (x_12_0 + 1).toInt.toNat = x_12_0.toInt.toNat + 1 by omega]; exact hXC.2, fun q hq9 => hok12 q (List.mem_cons_of_mem _ hq9), hX9, hU9, hd9, hl9⟩⟩ (by omega)
set_option maxRecDepth 100000 in
theorem s_X7_runOrders_Tz (h0_world : Nat) (p0_clauses : Int32) (p0_length : Int32) (n_p0_heads : Nat) (f_p0_heads : Nat → Int32) (h0_asker_world : Value) (h0_asker_law : Value) (h0_asker_cell : Int32) (h0_asker_shaft : Int32) (h0_asker_kind : Int32) (h0_asker_done : Int32) (h0_asker_latest : Int32) (h0_asker_value : Int32) (n_p0_code : Nat) (f_p0_code : Nat → Int32) (f_h0_asker_stack : Nat → Int64) (h0_world_lawCount : Int32) (h0_world_force : Int32) (h0_world_folk_listeners : Int32) (h0_world_folk_noises : Int32) (h0_world_folk_hushed : Int32) (f_h0_world_folk_column : Nat → Int32) (h0_world_rock_dug : Int64) (f_h0_world_rock_hard : Nat → Int32) (f_h0_world_rock_water : Nat → Int32) (f_h0_world_term : Nat → Int32) (h0_world_crew_count : Int32) (f_h0_world_crew_cell : Nat → Int32) (f_h0_world_crew_buckets : Nat → Int32) (f_h0_world_rock_kind : Nat → Int32) (f_h0_world_laws : Nat → Option Nat) (t : Nat) (t_clauses : Int32) (t_length : Int32) (n_t_heads : Nat) (f_t_heads : Nat → Int32) (n_t_code : Nat) (f_t_code : Nat → Int32) (h0_diary_kept : Int32) (h0_diary_latest : Int32) (f_h0_diary_deed : Nat → Int32) (f_h0_diary_whose : Nat → Int32) (f_h0_diary_before : Nat → Int32) (f_h0_diary_bucketsBefore : Nat → Int32) (f_h0_diary_dayBefore : Nat → Int32) (f_h0_world_folk_noiseColumn : Nat → Int32) (f_h0_world_folk_noiseLoud : Nat → Int32) {w : Nat → Int} {U : UL} {ls : Nat → List Cls} {L : List Cls} {c0 : Nat} {g_ea : Nat → Int32} {g_hc : Nat → Int32} {g_hl : Nat → Int32} {g_hs : Int32} {g_so : Nat → Int32} {g_we : Nat → Int32} {g_wl : Int32} (h_p0_clauses : 0 ≤ p0_clauses.toInt ∧ p0_clauses.toInt ≤ 12) (h_p0_length : 0 ≤ p0_length.toInt ∧ p0_length.toInt ≤ 400) (h_f_p0_heads : HD f_p0_heads) (h_h0_asker_cell : 0 ≤ h0_asker_cell.toInt ∧ h0_asker_cell.toInt ≤ 39) (h_f_p0_code : CD f_p0_code) (h_h0_world_lawCount : 0 ≤ h0_world_lawCount.toInt ∧ h0_world_lawCount.toInt ≤ 6) (h_h0_world_force : 0 ≤ h0_world_force.toInt ∧ h0_world_force.toInt ≤ 5) (h_h0_world_folk_listeners : 0 ≤ h0_world_folk_listeners.toInt ∧ h0_world_folk_listeners.toInt ≤ 5) (h_h0_world_folk_noises : 0 ≤ h0_world_folk_noises.toInt ∧ h0_world_folk_noises.toInt ≤ 6) (h_f_h0_world_folk_column : CO f_h0_world_folk_column) (h_f_h0_world_rock_hard : HA f_h0_world_rock_hard) (h_f_h0_world_rock_water : WA f_h0_world_rock_water) (h_f_h0_world_term : TE f_h0_world_term) (h_h0_world_crew_count : 0 ≤ h0_world_crew_count.toInt ∧ h0_world_crew_count.toInt ≤ 6) (h_f_h0_world_crew_cell : CE f_h0_world_crew_cell) (h_f_h0_world_crew_buckets : BU f_h0_world_crew_buckets) (h_f_h0_world_rock_kind : KI f_h0_world_rock_kind) (h_t_clauses : 0 ≤ t_clauses.toInt ∧ t_clauses.toInt ≤ 12) (h_t_length : 0 ≤ t_length.toInt ∧ t_length.toInt ≤ 400) (h_f_t_code : CD f_t_code) (h_h0_diary_kept : 0 ≤ h0_diary_kept.toInt ∧ h0_diary_kept.toInt ≤ 16) (h_h0_diary_latest : 0 ≤ h0_diary_latest.toInt ∧ h0_diary_latest.toInt ≤ 15) (h_f_h0_world_folk_noiseColumn : NC f_h0_world_folk_noiseColumn) (h_f_h0_world_folk_noiseLoud : NL f_h0_world_folk_noiseLoud) (e_0 : RXw f_h0_world_rock_kind f_h0_world_rock_hard f_h0_world_rock_water h0_world_rock_dug f_h0_world_crew_cell f_h0_world_crew_buckets h0_world_crew_count f_h0_world_folk_column g_ea h0_world_folk_listeners f_h0_world_folk_noiseColumn f_h0_world_folk_noiseLoud h0_world_folk_noises h0_world_folk_hushed g_hc g_hl g_hs g_so g_we g_wl f_h0_world_term h0_world_lawCount h0_world_force w) (e_1 : RXu f_h0_diary_deed f_h0_diary_whose f_h0_diary_before f_h0_diary_bucketsBefore f_h0_diary_dayBefore h0_diary_kept h0_diary_latest w U) (e_2 : DI f_h0_diary_deed f_h0_diary_whose f_h0_diary_before f_h0_diary_bucketsBefore f_h0_diary_dayBefore) (e_3 : XTx t_clauses t_length n_t_heads f_t_heads n_t_code f_t_code (ls (h0_world_force.toInt).toNat)) (e_4 : ∀ q ∈ ls (h0_world_force.toInt).toNat, okC q) (e_5 : XCs true f_p0_heads f_p0_code c0 0 L) (e_6 : ∀ q ∈ L, okO q) (e_7 : p0_clauses.toInt = (L.length : Int)) (e_8 : L.length ≤ 12) (e_9 : p0_length.toInt = (c0 : Int)) (e_10 : c0 ≤ 400) (e_11 : c0 ≤ n_p0_code) (e_12 : n_p0_heads = 60) (e_13 : n_t_heads < 100000) (e_14 : t_length.toInt ≤ (n_t_code : Int)) (e_15 : h0_world_force.toInt < h0_world_lawCount.toInt) (e_16 : f_h0_world_laws (Int32.toNatClampNeg h0_world_force) = some t) {Q : Int32 → (Int32 × Int32 × Value × Value × Int32 × Int32 × Int32 × Int32 × Int32 × Int32 × (Nat → Int64) × Int32 × (Nat → Int32) × Int64 × (Nat → Int32) × (Nat → Int32) × (Nat → Int32) × (Nat → Int32) × Int32 × Int32 × (Nat → Int32) × (Nat → Int32) × (Nat → Int32) × (Nat → Int32) × (Nat → Int32)) → Prop} (hq : ∀ (r : Int32) (u_0 : Int32) (u_1 : Int32) (u_2 : Value) (u_3 : Value) (u_4 : Int32) (u_5 : Int32) (u_6 : Int32) (u_7 : Int32) (u_8 : Int32) (u_9 : Int32) (u_10 : Nat → Int64) (u_11 : Int32) (u_12 : Nat → Int32) (u_13 : Int64) (u_14 : Nat → Int32) (u_15 : Nat → Int32) (u_16 : Nat → Int32) (u_17 : Nat → Int32) (u_18 : Int32) (u_19 : Int32) (u_20 : Nat → Int32) (u_21 : Nat → Int32) (u_22 : Nat → Int32) (u_23 : Nat → Int32) (u_24 : Nat → Int32), ((-1) ≤ r.toInt ∧ r.toInt ≤ 11) ∧ (0 ≤ u_0.toInt ∧ u_0.toInt ≤ 240) ∧ (0 ≤ u_4.toInt ∧ u_4.toInt ≤ 39) ∧ (CO u_12) ∧ (WA u_14) ∧ (TE u_15) ∧ (CE u_16) ∧ (BU u_17) ∧ (0 ≤ u_18.toInt ∧ u_18.toInt ≤ 16) ∧ (0 ≤ u_19.toInt ∧ u_19.toInt ≤ 15) ∧ (r.toInt = (ordF ls 0 L (w, U, 0, -1)).2 ∧ ∀ s : OSt, (ordF ls 0 L (w, U, 0, -1)).1 = some s → RXw f_h0_world_rock_kind f_h0_world_rock_hard u_14 u_13 u_16 u_17 h0_world_crew_count u_12 g_ea h0_world_folk_listeners f_h0_world_folk_noiseColumn f_h0_world_folk_noiseLoud h0_world_folk_noises u_11 g_hc g_hl g_hs g_so g_we g_wl u_15 h0_world_lawCount h0_world_force s.1 ∧ RXu u_20 u_21 u_22 u_23 u_24 u_18 u_19 s.1 s.2.1 ∧ u_0.toInt = s.2.2.1) ∧ (DI u_20 u_21 u_22 u_23 u_24) → Q r (u_0, u_1, u_2, u_3, u_4, u_5, u_6, u_7, u_8, u_9, u_10, u_11, u_12, u_13, u_14, u_15, u_16, u_17, u_18, u_19, u_20, u_21, u_22, u_23, u_24)) : wp_X7_runOrders_T h0_world p0_clauses p0_length n_p0_heads f_p0_heads h0_asker_world h0_asker_law h0_asker_cell h0_asker_shaft h0_asker_kind h0_asker_done h0_asker_latest h0_asker_value n_p0_code f_p0_code f_h0_asker_stack h0_world_lawCount h0_world_force h0_world_folk_listeners h0_world_folk_noises h0_world_folk_hushed f_h0_world_folk_column h0_world_rock_dug f_h0_world_rock_hard f_h0_world_rock_water f_h0_world_term h0_world_crew_count f_h0_world_crew_cell f_h0_world_crew_buckets f_h0_world_rock_kind f_h0_world_laws t t_clauses t_length n_t_heads f_t_heads n_t_code f_t_code h0_diary_kept h0_diary_latest f_h0_diary_deed f_h0_diary_whose f_h0_diary_before f_h0_diary_bucketsBefore f_h0_diary_dayBefore f_h0_world_folk_noiseColumn f_h0_world_folk_noiseLoud Q := by
  unfold wp_X7_runOrders_T
  have k3 : Int32.toInt 0 = 0 := rfl
  have k4 : Int32.toInt (-1) = (-1) := (by decide)
  refine sl_X7_runOrders_T_12z h0_world p0_clauses p0_length n_p0_heads (f_p0_heads) n_p0_code (f_p0_code) h0_world_lawCount h0_world_force h0_world_folk_listeners h0_world_folk_noises (f_h0_world_rock_hard) h0_world_crew_count (f_h0_world_rock_kind) f_h0_world_laws t t_clauses t_length n_t_heads (f_t_heads) n_t_code (f_t_code) (f_h0_world_folk_noiseColumn) (f_h0_world_folk_noiseLoud) w U ls L c0 g_ea g_hc g_hl g_hs g_so g_we g_wl (by first | with_reducible assumption | exact ⟨by omega, by omega⟩) (by first | with_reducible assumption | exact ⟨by omega, by omega⟩) h_f_p0_heads h_f_p0_code (by first | with_reducible assumption | exact ⟨by omega, by omega⟩) (by first | with_reducible assumption | exact ⟨by omega, by omega⟩) (by first | with_reducible assumption | exact ⟨by omega, by omega⟩) (by first | with_reducible assumption | exact ⟨by omega, by omega⟩) h_f_h0_world_rock_hard (by first | with_reducible assumption | exact ⟨by omega, by omega⟩) h_f_h0_world_rock_kind (by first | with_reducible assumption | exact ⟨by omega, by omega⟩) (by first | with_reducible assumption | exact ⟨by omega, by omega⟩) h_f_t_code h_f_h0_world_folk_noiseColumn h_f_h0_world_folk_noiseLoud (by assumption) (by omega) ⟨by omega, by omega, by omega, by omega, by omega, by omega⟩ e_3 e_4 (by omega) (by omega) (by omega) (by omega) hq _ (fun x1_0 x1_1 x1_2 x1_3 x1_4 x1_5 x1_6 x1_7 x1_8 x1_9 x1_10 x1_11 x1_12 x1_13 x1_14 x1_15 x1_16 x1_17 x1_18 x1_19 x1_20 x1_21 x1_22 x1_23 x1_24 x1_25 X2 => ?_) 1000000000000 0 0 (-1) h0_asker_world h0_asker_law h0_asker_cell h0_asker_shaft h0_asker_kind h0_asker_done h0_asker_latest h0_asker_value (f_h0_asker_stack) h0_world_folk_hushed (f_h0_world_folk_column) h0_world_rock_dug (f_h0_world_rock_water) (f_h0_world_term) (f_h0_world_crew_cell) (f_h0_world_crew_buckets) h0_diary_kept h0_diary_latest (f_h0_diary_deed) (f_h0_diary_whose) (f_h0_diary_before) (f_h0_diary_bucketsBefore) (f_h0_diary_dayBefore) ⟨(by decide), (by decide), (by first | with_reducible assumption | exact ⟨by omega, by omega⟩), h_f_h0_world_folk_column, h_f_h0_world_rock_water, h_f_h0_world_term, h_f_h0_world_crew_cell, h_f_h0_world_crew_buckets, (by first | with_reducible assumption | exact ⟨by omega, by omega⟩), (by first | with_reducible assumption | exact ⟨by omega, by omega⟩), e_2, (by omega), ⟨(w, U, 0, -1), L, rfl, by show (0 : Int) + _ = _; omega, e_5, e_6, e_0, e_1, rfl, (show (-1 : Int32).toInt = -1 by decide)⟩⟩ (by omega)
  have j5 := X2.1
  have j6 := X2.2.1
  have j7 := X2.2.2.1
  have j8 := X2.2.2.2.1
  have j9 := X2.2.2.2.2.1
  have j10 := X2.2.2.2.2.2.1
  have j11 := X2.2.2.2.2.2.2.1
  have j12 := X2.2.2.2.2.2.2.2.1
  have j13 := X2.2.2.2.2.2.2.2.2.1
  have j14 := X2.2.2.2.2.2.2.2.2.2.1
  have j15 := X2.2.2.2.2.2.2.2.2.2.2.1
  have j16 := X2.2.2.2.2.2.2.2.2.2.2.2.1
  have j17 := X2.2.2.2.2.2.2.2.2.2.2.2.2.1
  have j18 := X2.2.2.2.2.2.2.2.2.2.2.2.2.2
  obtain ⟨s8, k8, hX8, hU8, hd8⟩ := j18
  exact hq _ _ _ _ _ _ _ _ _ _ _ _ _ _ _ _ _ _ _ _ _ _ _ _ _ _ ⟨(by decide), (by first | with_reducible assumption | exact ⟨by omega, by omega⟩), (by first | with_reducible assumption | exact ⟨by omega, by omega⟩), j8, j9, j10, j11, j12, (by first | with_reducible assumption | exact ⟨by omega, by omega⟩), (by first | with_reducible assumption | exact ⟨by omega, by omega⟩), ⟨by rw [k8]; rfl, fun s hs => by rw [k8] at hs; injection hs with hs; subst hs; exact ⟨hX8, hU8, hd8⟩⟩, j15⟩
end
