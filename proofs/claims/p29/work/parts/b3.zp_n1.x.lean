set_option maxRecDepth 100000 in
theorem s_X11_dinz (a : Int32) (h0_site_world_folk_noises : Int32) (h0_site_world_folk_hushed : Int32) (f_h0_site_world_folk_noiseColumn : Nat → Int32) (f_h0_site_world_folk_noiseLoud : Nat → Int32) {w : Nat → Int} {g_kd : Nat → Int32} {g_hd : Nat → Int32} {g_wt : Nat → Int32} {g_dg : Int64} {g_ce : Nat → Int32} {g_bu : Nat → Int32} {g_cc : Int32} {g_co : Nat → Int32} {g_ea : Nat → Int32} {g_ls : Int32} {g_hc : Nat → Int32} {g_hl : Nat → Int32} {g_hs : Int32} {g_so : Nat → Int32} {g_we : Nat → Int32} {g_wl : Int32} {g_te : Nat → Int32} {g_lc : Int32} {g_fo : Int32} (h_h0_site_world_folk_noises : 0 ≤ h0_site_world_folk_noises.toInt ∧ h0_site_world_folk_noises.toInt ≤ 6) (h_f_h0_site_world_folk_noiseColumn : NC f_h0_site_world_folk_noiseColumn) (h_f_h0_site_world_folk_noiseLoud : NL f_h0_site_world_folk_noiseLoud) (e_0 : RXw g_kd g_hd g_wt g_dg g_ce g_bu g_cc g_co g_ea g_ls f_h0_site_world_folk_noiseColumn f_h0_site_world_folk_noiseLoud h0_site_world_folk_noises h0_site_world_folk_hushed g_hc g_hl g_hs g_so g_we g_wl g_te g_lc g_fo w) {Q : Int32 → Prop} (hq : ∀ (r : Int32), (r.toInt = dinR w a.toInt) → Q r) : wp_X11_din a h0_site_world_folk_noises h0_site_world_folk_hushed f_h0_site_world_folk_noiseColumn f_h0_site_world_folk_noiseLoud Q := by
  unfold wp_X11_din
  have l_nc := RXw.nc e_0
  have l_nl := RXw.nl e_0
  have l_ns : h0_site_world_folk_noises.toInt = w 2 := RXw.ns e_0
  refine o_X11_isWithin _ _ _ ?_
  by_cases c1 : a < 0
  · refine br1 c1 ?_
    have d2 := lt_z (x := (Int32.toInt a)) (y := 0) rfl rfl c1
    refine br1 (by decide) ?_
    have k3 : Int32.toInt (-1) = (-1) := (by decide)
    exact hq _ (by unfold dinR; rw [if_pos (by omega)]; decide)
  · refine br0 c1 ?_
    have d4 := nlt_z (x := (Int32.toInt a)) (y := 0) rfl rfl c1
    by_cases c5 : 8 ≤ a
    · refine br1 c5 ?_
      have d6 := le_z (x := 8) (y := (Int32.toInt a)) rfl rfl c5
      refine br1 (by decide) ?_
      have k7 : Int32.toInt (-1) = (-1) := (by decide)
      exact hq _ (by unfold dinR; rw [if_pos (by omega)]; decide)
    · refine br0 c5 ?_
      have d8 := nle_z (x := 8) (y := (Int32.toInt a)) rfl rfl c5
      refine br0 (by decide) ?_
      refine s_X4_noiseInz a 0 h0_site_world_folk_noises h0_site_world_folk_hushed (f_h0_site_world_folk_noiseColumn) (f_h0_site_world_folk_noiseLoud) (w := w) ⟨by omega, by omega⟩ ⟨by omega, by omega⟩ h_f_h0_site_world_folk_noiseColumn h_f_h0_site_world_folk_noiseLoud (RXw.nz e_0) (fun r9 H10 => ?_)
      have j11 := H10.1
      have j12 := H10.2
      exact hq _ (by unfold dinR; rw [if_neg (by omega)]; exact j12.trans (nsS_0 (fun i _ => bh_0 i)))


set_option maxRecDepth 100000 in
theorem s_X11_at_Nz (a : Int32) (b : Int32) (h0_site_world : Nat) (h0_site_world_lawCount : Int32) (h0_site_world_force : Int32) (f_h0_site_world_laws : Nat → Option Nat) (h0_asker_world : Value) (h0_asker_law : Value) (h0_asker_cell : Int32) (h0_asker_shaft : Int32) (h0_asker_kind : Int32) (h0_site_world_rock_dug : Int64) (f_h0_site_world_rock_kind : Nat → Int32) (f_h0_site_world_rock_hard : Nat → Int32) (f_h0_site_world_rock_water : Nat → Int32) {w : Nat → Int} {ls : Nat → List Cls} {g_ce : Nat → Int32} {g_bu : Nat → Int32} {g_cc : Int32} {g_co : Nat → Int32} {g_ea : Nat → Int32} {g_ls : Int32} {g_nc : Nat → Int32} {g_nl : Nat → Int32} {g_ns : Int32} {g_hu : Int32} {g_hc : Nat → Int32} {g_hl : Nat → Int32} {g_hs : Int32} {g_so : Nat → Int32} {g_we : Nat → Int32} {g_wl : Int32} {g_te : Nat → Int32} (h_h0_site_world_lawCount : 0 ≤ h0_site_world_lawCount.toInt ∧ h0_site_world_lawCount.toInt ≤ 6) (h_h0_site_world_force : (-1) ≤ h0_site_world_force.toInt ∧ h0_site_world_force.toInt ≤ (-1)) (h_h0_asker_cell : 0 ≤ h0_asker_cell.toInt ∧ h0_asker_cell.toInt ≤ 39) (h_f_h0_site_world_rock_kind : KI f_h0_site_world_rock_kind) (h_f_h0_site_world_rock_hard : HA f_h0_site_world_rock_hard) (h_f_h0_site_world_rock_water : WA f_h0_site_world_rock_water) (e_0 : RXw f_h0_site_world_rock_kind f_h0_site_world_rock_hard f_h0_site_world_rock_water h0_site_world_rock_dug g_ce g_bu g_cc g_co g_ea g_ls g_nc g_nl g_ns g_hu g_hc g_hl g_hs g_so g_we g_wl g_te h0_site_world_lawCount h0_site_world_force w) {Q : Int32 → (Value × Value × Int32 × Int32 × Int32) → Prop} (hq : ∀ (r : Int32) (u_0 : Value) (u_1 : Value) (u_2 : Int32) (u_3 : Int32) (u_4 : Int32), (0 ≤ u_2.toInt ∧ u_2.toInt ≤ 39) ∧ (r.toInt = atR (lawW w ls) w a.toInt b.toInt) → Q r (u_0, u_1, u_2, u_3, u_4)) : wp_X11_at_N a b h0_site_world h0_site_world_lawCount h0_site_world_force f_h0_site_world_laws h0_asker_world h0_asker_law h0_asker_cell h0_asker_shaft h0_asker_kind h0_site_world_rock_dug f_h0_site_world_rock_kind f_h0_site_world_rock_hard f_h0_site_world_rock_water Q := by
  unfold wp_X11_at_N
  have l_kd := RXw.kd e_0
  have l_hd := RXw.hd e_0
  have l_wt := RXw.wt e_0
  have l_lc : h0_site_world_lawCount.toInt = w 5 := RXw.lc e_0
  have l_fo : h0_site_world_force.toInt = w 6 := RXw.fo e_0
  have hF : lawW w ls = none := lawW_n (by omega)
  refine o_X11_isWithin _ _ _ ?_
  by_cases c1 : a < 0
  · refine br1 c1 ?_
    have d2 := lt_z (x := (Int32.toInt a)) (y := 0) rfl rfl c1
    refine br1 (by decide) ?_
    have k3 : Int32.toInt (-1) = (-1) := (by decide)
    exact hq _ _ _ _ _ _ ⟨⟨by omega, by omega⟩, (by unfold atR; (repeat' split) <;> omega)⟩
  · refine br0 c1 ?_
    have d4 := nlt_z (x := (Int32.toInt a)) (y := 0) rfl rfl c1
    by_cases c5 : 40 ≤ a
    · refine br1 c5 ?_
      have d6 := le_z (x := 40) (y := (Int32.toInt a)) rfl rfl c5
      refine br1 (by decide) ?_
      have k7 : Int32.toInt (-1) = (-1) := (by decide)
      exact hq _ _ _ _ _ _ ⟨⟨by omega, by omega⟩, (by unfold atR; (repeat' split) <;> omega)⟩
    · refine br0 c5 ?_
      have d8 := nle_z (x := 40) (y := (Int32.toInt a)) rfl rfl c5
      refine br0 (by decide) ?_
      refine o_X10_lawInForce_N _ _ _ _ ?_
      refine o_X10_lawOf_N _ _ _ _ ?_
      refine br1 (z_lt (x := (Int32.toInt h0_site_world_force)) (y := 0) rfl rfl (by omega)) ?_
      refine o_X0_turnTo_N _ ?_
      by_cases c9 : b = 0
      · refine br1 c9 ?_
        have d10 := eq_z (x := (Int32.toInt b)) (y := 0) rfl rfl c9
        refine ⟨vpi (x := (Int32.toInt a)) rfl (by omega) (by omega), ?_⟩
        have g11 : 0 ≤ (Int32.toInt (f_h0_site_world_rock_kind a.toNatClampNeg)) ∧ (Int32.toInt (f_h0_site_world_rock_kind a.toNatClampNeg)) ≤ 3 := KI.at_0 h_f_h0_site_world_rock_kind (tnz (x := (Int32.toInt a)) rfl (by omega)) (by omega) (by omega)
        have t12 : (Int32.toInt (f_h0_site_world_rock_kind a.toNatClampNeg)) = w (113 + ((Int32.toInt a)).toNat) := RkW.z l_kd (i := ((Int32.toInt a)).toNat) rfl (by omega)
        exact hq _ _ _ _ _ _ ⟨⟨by omega, by omega⟩, (by unfold atR; (repeat' split) <;> omega)⟩
      · refine br0 c9 ?_
        have d13 := ne_z (x := (Int32.toInt b)) (y := 0) rfl rfl c9
        by_cases c14 : b = 1
        · refine br1 c14 ?_
          have d15 := eq_z (x := (Int32.toInt b)) (y := 1) rfl rfl c14
          refine ⟨vpi (x := (Int32.toInt a)) rfl (by omega) (by omega), ?_⟩
          have g16 : 1 ≤ (Int32.toInt (f_h0_site_world_rock_hard a.toNatClampNeg)) ∧ (Int32.toInt (f_h0_site_world_rock_hard a.toNatClampNeg)) ≤ 9 := HA.at_0 h_f_h0_site_world_rock_hard (tnz (x := (Int32.toInt a)) rfl (by omega)) (by omega) (by omega)
          have t17 : (Int32.toInt (f_h0_site_world_rock_hard a.toNatClampNeg)) = w (153 + ((Int32.toInt a)).toNat) := RkW.z l_hd (i := ((Int32.toInt a)).toNat) rfl (by omega)
          exact hq _ _ _ _ _ _ ⟨⟨by omega, by omega⟩, (by unfold atR; (repeat' split) <;> omega)⟩
        · refine br0 c14 ?_
          have d18 := ne_z (x := (Int32.toInt b)) (y := 1) rfl rfl c14
          by_cases c19 : b = 2
          · refine br1 c19 ?_
            have d20 := eq_z (x := (Int32.toInt b)) (y := 2) rfl rfl c19
            refine ⟨vpi (x := (Int32.toInt a)) rfl (by omega) (by omega), ?_⟩
            have g21 : 0 ≤ (Int32.toInt (f_h0_site_world_rock_water a.toNatClampNeg)) ∧ (Int32.toInt (f_h0_site_world_rock_water a.toNatClampNeg)) ≤ 99 := WA.at_0 h_f_h0_site_world_rock_water (tnz (x := (Int32.toInt a)) rfl (by omega)) (by omega) (by omega)
            have t22 : (Int32.toInt (f_h0_site_world_rock_water a.toNatClampNeg)) = w (73 + ((Int32.toInt a)).toNat) := RkW.z l_wt (i := ((Int32.toInt a)).toNat) rfl (by omega)
            exact hq _ _ _ _ _ _ ⟨⟨by omega, by omega⟩, (by unfold atR; (repeat' split) <;> omega)⟩
          · refine br0 c19 ?_
            have d23 := ne_z (x := (Int32.toInt b)) (y := 2) rfl rfl c19
            by_cases c24 : b = 3
            · refine br1 c24 ?_
              have d25 := eq_z (x := (Int32.toInt b)) (y := 3) rfl rfl c24
              refine s_X6_isDugz a h0_site_world_rock_dug ⟨by omega, by omega⟩ (RXw.dg e_0) (fun r26 H27 => ?_)
              have j28 := H27.1
              have j29 := H27.2
              by_cases c30 : r26 = 0
              · refine br1 c30 ?_
                have d31 := eq_z (x := (Int32.toInt r26)) (y := 0) rfl rfl c30
                have k32 : Int32.toInt 0 = 0 := rfl
                exact hq _ _ _ _ _ _ ⟨⟨by omega, by omega⟩, (by unfold atR; (repeat' split) <;> omega)⟩
              · refine br0 c30 ?_
                have d33 := ne_z (x := (Int32.toInt r26)) (y := 0) rfl rfl c30
                have k34 : Int32.toInt 1 = 1 := rfl
                exact hq _ _ _ _ _ _ ⟨⟨by omega, by omega⟩, (by unfold atR; (repeat' split) <;> omega)⟩
            · refine br0 c24 ?_
              have d35 := ne_z (x := (Int32.toInt b)) (y := 3) rfl rfl c24
              by_cases c36 : b = 4
              · refine br1 c36 ?_
                have d37 := eq_z (x := (Int32.toInt b)) (y := 4) rfl rfl c36
                refine ⟨vpi (x := (Int32.toInt a)) rfl (by omega) (by omega), ?_⟩
                have g39 : 0 ≤ (Int32.toInt (f_h0_site_world_rock_kind a.toNatClampNeg)) ∧ (Int32.toInt (f_h0_site_world_rock_kind a.toNatClampNeg)) ≤ 3 := KI.at_0 h_f_h0_site_world_rock_kind (tnz (x := (Int32.toInt a)) rfl (by omega)) (by omega) (by omega)
                have t40 : (Int32.toInt (f_h0_site_world_rock_kind a.toNatClampNeg)) = w (113 + ((Int32.toInt a)).toNat) := RkW.z l_kd (i := ((Int32.toInt a)).toNat) rfl (by omega)
                refine z_csaysN (RXw.wk e_0) ⟨by omega, by omega⟩ (fun r38 H41 => ?_)
                have j42 := H41.1
                have j43 := H41.2
                rw [← hF] at j43
                rw [show (Int32.toInt (f_h0_site_world_rock_kind a.toNatClampNeg)) = w (113 + ((Int32.toInt a)).toNat) by omega] at j43
                refine un3_i ?_
                have k44 : Int32.toInt (-1) = (-1) := (by decide)
                exact hq _ _ _ _ _ _ ⟨⟨by omega, by omega⟩, (by unfold atR; (repeat' split) <;> omega)⟩
              · refine br0 c36 ?_
                have d45 := ne_z (x := (Int32.toInt b)) (y := 4) rfl rfl c36
                by_cases c46 : b = 5
                · refine br1 c46 ?_
                  have d47 := eq_z (x := (Int32.toInt b)) (y := 5) rfl rfl c46
                  refine ⟨vpi (x := (Int32.toInt a)) rfl (by omega) (by omega), ?_⟩
                  have g49 : 0 ≤ (Int32.toInt (f_h0_site_world_rock_kind a.toNatClampNeg)) ∧ (Int32.toInt (f_h0_site_world_rock_kind a.toNatClampNeg)) ≤ 3 := KI.at_0 h_f_h0_site_world_rock_kind (tnz (x := (Int32.toInt a)) rfl (by omega)) (by omega) (by omega)
                  have t50 : (Int32.toInt (f_h0_site_world_rock_kind a.toNatClampNeg)) = w (113 + ((Int32.toInt a)).toNat) := RkW.z l_kd (i := ((Int32.toInt a)).toNat) rfl (by omega)
                  refine z_closesN (RXw.wk e_0) ⟨by omega, by omega⟩ (fun r48 H51 => ?_)
                  have j52 := H51.1
                  have j53 := H51.2
                  rw [← hF] at j53
                  rw [show (Int32.toInt (f_h0_site_world_rock_kind a.toNatClampNeg)) = w (113 + ((Int32.toInt a)).toNat) by omega] at j53
                  refine un3_i ?_
                  have k54 : Int32.toInt (-1) = (-1) := (by decide)
                  exact hq _ _ _ _ _ _ ⟨⟨by omega, by omega⟩, (by unfold atR; (repeat' split) <;> omega)⟩
                · refine br0 c46 ?_
                  have d55 := ne_z (x := (Int32.toInt b)) (y := 5) rfl rfl c46
                  have k56 : Int32.toInt (-1) = (-1) := (by decide)
                  exact hq _ _ _ _ _ _ ⟨⟨by omega, by omega⟩, (by unfold atR; (repeat' split) <;> omega)⟩


set_option maxRecDepth 100000 in
theorem s_X11_asks_Nz (a : Int32) (b : Int32) (d : Int32) (h0_site_world : Nat) (h0_site_world_lawCount : Int32) (h0_site_world_force : Int32) (h0_site_world_crew_count : Int32) (f_h0_site_world_laws : Nat → Option Nat) (h0_asker_world : Value) (h0_asker_law : Value) (h0_asker_cell : Int32) (h0_asker_shaft : Int32) (h0_asker_kind : Int32) (f_h0_site_world_rock_kind : Nat → Int32) (f_h0_site_world_rock_hard : Nat → Int32) (f_h0_site_world_rock_water : Nat → Int32) {w : Nat → Int} {ls : Nat → List Cls} {g_dg : Int64} {g_ce : Nat → Int32} {g_bu : Nat → Int32} {g_co : Nat → Int32} {g_ea : Nat → Int32} {g_ls : Int32} {g_nc : Nat → Int32} {g_nl : Nat → Int32} {g_ns : Int32} {g_hu : Int32} {g_hc : Nat → Int32} {g_hl : Nat → Int32} {g_hs : Int32} {g_so : Nat → Int32} {g_we : Nat → Int32} {g_wl : Int32} {g_te : Nat → Int32} (h_h0_site_world_lawCount : 0 ≤ h0_site_world_lawCount.toInt ∧ h0_site_world_lawCount.toInt ≤ 6) (h_h0_site_world_force : (-1) ≤ h0_site_world_force.toInt ∧ h0_site_world_force.toInt ≤ (-1)) (h_h0_site_world_crew_count : 0 ≤ h0_site_world_crew_count.toInt ∧ h0_site_world_crew_count.toInt ≤ 6) (h_h0_asker_cell : 0 ≤ h0_asker_cell.toInt ∧ h0_asker_cell.toInt ≤ 39) (h_f_h0_site_world_rock_kind : KI f_h0_site_world_rock_kind) (h_f_h0_site_world_rock_hard : HA f_h0_site_world_rock_hard) (h_f_h0_site_world_rock_water : WA f_h0_site_world_rock_water) (e_0 : RXw f_h0_site_world_rock_kind f_h0_site_world_rock_hard f_h0_site_world_rock_water g_dg g_ce g_bu h0_site_world_crew_count g_co g_ea g_ls g_nc g_nl g_ns g_hu g_hc g_hl g_hs g_so g_we g_wl g_te h0_site_world_lawCount h0_site_world_force w) {Q : Int32 → (Value × Value × Int32 × Int32 × Int32) → Prop} (hq : ∀ (r : Int32) (u_0 : Value) (u_1 : Value) (u_2 : Int32) (u_3 : Int32) (u_4 : Int32), (0 ≤ u_2.toInt ∧ u_2.toInt ≤ 39) ∧ (r.toInt = asksR (lawW w ls) w a.toInt b.toInt d.toInt) → Q r (u_0, u_1, u_2, u_3, u_4)) : wp_X11_asks_N a b d h0_site_world h0_site_world_lawCount h0_site_world_force h0_site_world_crew_count f_h0_site_world_laws h0_asker_world h0_asker_law h0_asker_cell h0_asker_shaft h0_asker_kind f_h0_site_world_rock_kind f_h0_site_world_rock_hard f_h0_site_world_rock_water Q := by
  unfold wp_X11_asks_N
  have l_kd := RXw.kd e_0
  have l_hd := RXw.hd e_0
  have l_wt := RXw.wt e_0
  have l_cc : h0_site_world_crew_count.toInt = w 0 := RXw.cc e_0
  have l_lc : h0_site_world_lawCount.toInt = w 5 := RXw.lc e_0
  have l_fo : h0_site_world_force.toInt = w 6 := RXw.fo e_0
  have hF : lawW w ls = none := lawW_n (by omega)
  refine o_X11_isWithin _ _ _ ?_
  by_cases c1 : a < 0
  · refine br1 c1 ?_
    have d2 := lt_z (x := (Int32.toInt a)) (y := 0) rfl rfl c1
    refine br1 (by decide) ?_
    have k3 : Int32.toInt (-1) = (-1) := (by decide)
    exact hq _ _ _ _ _ _ ⟨⟨by omega, by omega⟩, (by unfold asksR; (repeat' split) <;> omega)⟩
  · refine br0 c1 ?_
    have d4 := nlt_z (x := (Int32.toInt a)) (y := 0) rfl rfl c1
    by_cases c5 : h0_site_world_crew_count ≤ a
    · refine br1 c5 ?_
      have d6 := le_z (x := (Int32.toInt h0_site_world_crew_count)) (y := (Int32.toInt a)) rfl rfl c5
      refine br1 (by decide) ?_
      have k7 : Int32.toInt (-1) = (-1) := (by decide)
      exact hq _ _ _ _ _ _ ⟨⟨by omega, by omega⟩, (by unfold asksR; (repeat' split) <;> omega)⟩
    · refine br0 c5 ?_
      have d8 := nle_z (x := (Int32.toInt h0_site_world_crew_count)) (y := (Int32.toInt a)) rfl rfl c5
      refine br0 (by decide) ?_
      refine o_X11_isWithin _ _ _ ?_
      by_cases c9 : b < 0
      · refine br1 c9 ?_
        have d10 := lt_z (x := (Int32.toInt b)) (y := 0) rfl rfl c9
        refine br1 (by decide) ?_
        have k11 : Int32.toInt (-1) = (-1) := (by decide)
        exact hq _ _ _ _ _ _ ⟨⟨by omega, by omega⟩, (by unfold asksR; (repeat' split) <;> omega)⟩
      · refine br0 c9 ?_
        have d12 := nlt_z (x := (Int32.toInt b)) (y := 0) rfl rfl c9
        by_cases c13 : 40 ≤ b
        · refine br1 c13 ?_
          have d14 := le_z (x := 40) (y := (Int32.toInt b)) rfl rfl c13
          refine br1 (by decide) ?_
          have k15 : Int32.toInt (-1) = (-1) := (by decide)
          exact hq _ _ _ _ _ _ ⟨⟨by omega, by omega⟩, (by unfold asksR; (repeat' split) <;> omega)⟩
        · refine br0 c13 ?_
          have d16 := nle_z (x := 40) (y := (Int32.toInt b)) rfl rfl c13
          refine br0 (by decide) ?_
          refine o_X10_lawInForce_N _ _ _ _ ?_
          refine o_X10_lawOf_N _ _ _ _ ?_
          refine br1 (z_lt (x := (Int32.toInt h0_site_world_force)) (y := 0) rfl rfl (by omega)) ?_
          refine o_X0_turnTo_N _ ?_
          by_cases c17 : d = 0
          · refine br1 c17 ?_
            have d18 := eq_z (x := (Int32.toInt d)) (y := 0) rfl rfl c17
            refine z_cdigsN (RXw.wk e_0) ⟨by omega, by omega⟩  (fun r19 H20 => ?_)
            have j21 := H20.1
            have j22 := H20.2
            rw [← hF] at j22
            refine un3_i ?_
            have g23 : 0 ≤ (Int32.toInt (f_h0_site_world_rock_kind b.toNatClampNeg)) ∧ (Int32.toInt (f_h0_site_world_rock_kind b.toNatClampNeg)) ≤ 3 := KI.at_0 h_f_h0_site_world_rock_kind (tnz (x := (Int32.toInt b)) rfl (by omega)) (by omega) (by omega)
            have t24 : (Int32.toInt (f_h0_site_world_rock_kind b.toNatClampNeg)) = w (113 + ((Int32.toInt b)).toNat) := RkW.z l_kd (i := ((Int32.toInt b)).toNat) rfl (by omega)
            exact hq _ _ _ _ _ _ ⟨⟨by omega, by omega⟩, (by unfold asksR; (repeat' split) <;> omega)⟩
          · refine br0 c17 ?_
            have d25 := ne_z (x := (Int32.toInt d)) (y := 0) rfl rfl c17
            by_cases c26 : d = 1
            · refine br1 c26 ?_
              have d27 := eq_z (x := (Int32.toInt d)) (y := 1) rfl rfl c26
              refine z_cpassN (RXw.wk e_0) ⟨by omega, by omega⟩  ⟨by omega, by omega⟩ (fun r28 x29 x30 x31 H32 => ?_)
              have j33 := H32.1
              have j34 := H32.2.1
              rw [← hF] at j34
              have j35 := H32.2.2
              refine un3_i ?_
              by_cases c36 : r28 = 0
              · refine br1 c36 ?_
                have d37 := eq_z (x := (Int32.toInt r28)) (y := 0) rfl rfl c36
                have k38 : Int32.toInt 0 = 0 := rfl
                exact hq _ _ _ _ _ _ ⟨⟨by omega, by omega⟩, (by unfold asksR; (repeat' split) <;> omega)⟩
              · refine br0 c36 ?_
                have d39 := ne_z (x := (Int32.toInt r28)) (y := 0) rfl rfl c36
                have k40 : Int32.toInt 1 = 1 := rfl
                exact hq _ _ _ _ _ _ ⟨⟨by omega, by omega⟩, (by unfold asksR; (repeat' split) <;> omega)⟩
            · refine br0 c26 ?_
              have d41 := ne_z (x := (Int32.toInt d)) (y := 1) rfl rfl c26
              by_cases c42 : d = 2
              · refine br1 c42 ?_
                have d43 := eq_z (x := (Int32.toInt d)) (y := 2) rfl rfl c42
                refine z_cgivesN (RXw.wk e_0) h_f_h0_site_world_rock_water ⟨by omega, by omega⟩  (fun r44 H45 => ?_)
                have j46 := H45.1
                have j47 := H45.2.1
                rw [← hF] at j47
                have j48 := H45.2.2
                refine un3_i ?_
                have g49 : 0 ≤ (Int32.toInt (f_h0_site_world_rock_kind b.toNatClampNeg)) ∧ (Int32.toInt (f_h0_site_world_rock_kind b.toNatClampNeg)) ≤ 3 := KI.at_0 h_f_h0_site_world_rock_kind (tnz (x := (Int32.toInt b)) rfl (by omega)) (by omega) (by omega)
                have t50 : (Int32.toInt (f_h0_site_world_rock_kind b.toNatClampNeg)) = w (113 + ((Int32.toInt b)).toNat) := RkW.z l_kd (i := ((Int32.toInt b)).toNat) rfl (by omega)
                exact hq _ _ _ _ _ _ ⟨⟨by omega, by omega⟩, (by unfold asksR; (repeat' split) <;> omega)⟩
              · refine br0 c42 ?_
                have d51 := ne_z (x := (Int32.toInt d)) (y := 2) rfl rfl c42
                have k52 : Int32.toInt (-1) = (-1) := (by decide)
                exact hq _ _ _ _ _ _ ⟨⟨by omega, by omega⟩, (by unfold asksR; (repeat' split) <;> omega)⟩


set_option maxRecDepth 100000 in
theorem s_X11_loud_Nz (a : Int32) (b : Int32) (h0_site_world : Nat) (h0_site_world_lawCount : Int32) (h0_site_world_force : Int32) (f_h0_site_world_laws : Nat → Option Nat) (h0_asker_world : Value) (h0_asker_law : Value) (h0_asker_cell : Int32) (h0_asker_shaft : Int32) (h0_asker_kind : Int32) (f_h0_site_world_rock_kind : Nat → Int32) {w : Nat → Int} {ls : Nat → List Cls} {g_hd : Nat → Int32} {g_wt : Nat → Int32} {g_dg : Int64} {g_ce : Nat → Int32} {g_bu : Nat → Int32} {g_cc : Int32} {g_co : Nat → Int32} {g_ea : Nat → Int32} {g_ls : Int32} {g_nc : Nat → Int32} {g_nl : Nat → Int32} {g_ns : Int32} {g_hu : Int32} {g_hc : Nat → Int32} {g_hl : Nat → Int32} {g_hs : Int32} {g_so : Nat → Int32} {g_we : Nat → Int32} {g_wl : Int32} {g_te : Nat → Int32} (h_h0_site_world_lawCount : 0 ≤ h0_site_world_lawCount.toInt ∧ h0_site_world_lawCount.toInt ≤ 6) (h_h0_site_world_force : (-1) ≤ h0_site_world_force.toInt ∧ h0_site_world_force.toInt ≤ (-1)) (h_h0_asker_cell : 0 ≤ h0_asker_cell.toInt ∧ h0_asker_cell.toInt ≤ 39) (h_f_h0_site_world_rock_kind : KI f_h0_site_world_rock_kind) (e_0 : RXw f_h0_site_world_rock_kind g_hd g_wt g_dg g_ce g_bu g_cc g_co g_ea g_ls g_nc g_nl g_ns g_hu g_hc g_hl g_hs g_so g_we g_wl g_te h0_site_world_lawCount h0_site_world_force w) {Q : Int32 → (Value × Value × Int32 × Int32 × Int32) → Prop} (hq : ∀ (r : Int32) (u_0 : Value) (u_1 : Value) (u_2 : Int32) (u_3 : Int32) (u_4 : Int32), (0 ≤ u_2.toInt ∧ u_2.toInt ≤ 39) ∧ (r.toInt = loudR (lawW w ls) w a.toInt b.toInt) → Q r (u_0, u_1, u_2, u_3, u_4)) : wp_X11_loud_N a b h0_site_world h0_site_world_lawCount h0_site_world_force f_h0_site_world_laws h0_asker_world h0_asker_law h0_asker_cell h0_asker_shaft h0_asker_kind f_h0_site_world_rock_kind Q := by
  unfold wp_X11_loud_N
  have l_kd := RXw.kd e_0
  have l_lc : h0_site_world_lawCount.toInt = w 5 := RXw.lc e_0
  have l_fo : h0_site_world_force.toInt = w 6 := RXw.fo e_0
  have hF : lawW w ls = none := lawW_n (by omega)
  refine o_X11_isWithin _ _ _ ?_
  by_cases c1 : a < 0
  · refine br1 c1 ?_
    have d2 := lt_z (x := (Int32.toInt a)) (y := 0) rfl rfl c1
    refine br1 (by decide) ?_
    have k3 : Int32.toInt (-100000) = (-100000) := (by decide)
    exact hq _ _ _ _ _ _ ⟨⟨by omega, by omega⟩, (by unfold loudR; rw [if_pos (by omega)]; decide)⟩
  · refine br0 c1 ?_
    have d4 := nlt_z (x := (Int32.toInt a)) (y := 0) rfl rfl c1
    by_cases c5 : 40 ≤ a
    · refine br1 c5 ?_
      have d6 := le_z (x := 40) (y := (Int32.toInt a)) rfl rfl c5
      refine br1 (by decide) ?_
      have k7 : Int32.toInt (-100000) = (-100000) := (by decide)
      exact hq _ _ _ _ _ _ ⟨⟨by omega, by omega⟩, (by unfold loudR; rw [if_pos (by omega)]; decide)⟩
    · refine br0 c5 ?_
      have d8 := nle_z (x := 40) (y := (Int32.toInt a)) rfl rfl c5
      refine br0 (by decide) ?_
      refine o_X11_isWithin _ _ _ ?_
      by_cases c9 : b < 0
      · refine br1 c9 ?_
        have d10 := lt_z (x := (Int32.toInt b)) (y := 0) rfl rfl c9
        refine br1 (by decide) ?_
        have k11 : Int32.toInt (-100000) = (-100000) := (by decide)
        exact hq _ _ _ _ _ _ ⟨⟨by omega, by omega⟩, (by unfold loudR; rw [if_pos (by omega)]; decide)⟩
      · refine br0 c9 ?_
        have d12 := nlt_z (x := (Int32.toInt b)) (y := 0) rfl rfl c9
        by_cases c13 : 8 ≤ b
        · refine br1 c13 ?_
          have d14 := le_z (x := 8) (y := (Int32.toInt b)) rfl rfl c13
          refine br1 (by decide) ?_
          have k15 : Int32.toInt (-100000) = (-100000) := (by decide)
          exact hq _ _ _ _ _ _ ⟨⟨by omega, by omega⟩, (by unfold loudR; rw [if_pos (by omega)]; decide)⟩
        · refine br0 c13 ?_
          have d16 := nle_z (x := 8) (y := (Int32.toInt b)) rfl rfl c13
          refine br0 (by decide) ?_
          refine o_X10_lawInForce_N _ _ _ _ ?_
          refine o_X10_lawOf_N _ _ _ _ ?_
          refine br1 (z_lt (x := (Int32.toInt h0_site_world_force)) (y := 0) rfl rfl (by omega)) ?_
          refine o_X0_turnTo_N _ ?_
          refine ⟨vpi (x := (Int32.toInt a)) rfl (by omega) (by omega), ?_⟩
          have g18 : 0 ≤ (Int32.toInt (f_h0_site_world_rock_kind a.toNatClampNeg)) ∧ (Int32.toInt (f_h0_site_world_rock_kind a.toNatClampNeg)) ≤ 3 := KI.at_0 h_f_h0_site_world_rock_kind (tnz (x := (Int32.toInt a)) rfl (by omega)) (by omega) (by omega)
          have t19 : (Int32.toInt (f_h0_site_world_rock_kind a.toNatClampNeg)) = w (113 + ((Int32.toInt a)).toNat) := RkW.z l_kd (i := ((Int32.toInt a)).toNat) rfl (by omega)
          refine z_csaysN (RXw.wk e_0) ⟨by omega, by omega⟩ (fun r17 H20 => ?_)
          have j21 := H20.1
          have j22 := H20.2
          rw [← hF] at j22
          rw [show (Int32.toInt (f_h0_site_world_rock_kind a.toNatClampNeg)) = w (113 + ((Int32.toInt a)).toNat) by omega] at j22
          refine un3_i ?_
          refine z_steps ⟨by omega, by omega⟩ ⟨by omega, by omega⟩ (fun r23 H24 => ?_)
          have j26 := H24.1
          have j25 := H24.2
          refine z_closesN (RXw.wk e_0) ⟨by omega, by omega⟩ (fun r27 H28 => ?_)
          have j29 := H28.1
          have j30 := H28.2
          rw [← hF] at j30
          rw [show (Int32.toInt (f_h0_site_world_rock_kind a.toNatClampNeg)) = w (113 + ((Int32.toInt a)).toNat) by omega] at j30
          refine un3_i ?_
          have t31 : 0 ≤ (Int32.toInt (r23 * r27)) ∧ (Int32.toInt (r23 * r27)) ≤ 945 := mul_b (x := (Int32.toInt r23)) (y := (Int32.toInt r27)) (X := 105) (Y := 9) rfl rfl (by omega) (by omega) (by omega) (by omega) (by decide)
          have t32 : (Int32.toInt (r17 - (r23 * r27))) = (Int32.toInt r17) - (Int32.toInt (r23 * r27)) := sub_z rfl rfl (by omega) (by omega)
          have k33 : Int32.toInt (-1) = (-1) := (by decide)
          exact hq _ _ _ _ _ _ ⟨⟨by omega, by omega⟩, (by unfold loudR; rw [if_neg (by omega)]; exact loud_z j22 j25 j30 saysW_b (by have q := stpI_b (c := a.toInt) (col := b.toInt) (by omega) (by omega); omega) losesW_b)⟩


set_option maxRecDepth 100000 in
theorem s_X11_at_Tz (a : Int32) (b : Int32) (h0_site_world : Nat) (h0_site_world_lawCount : Int32) (h0_site_world_force : Int32) (f_h0_site_world_laws : Nat → Option Nat) (h0_asker_world : Value) (h0_asker_law : Value) (h0_asker_cell : Int32) (h0_asker_shaft : Int32) (h0_asker_kind : Int32) (h0_asker_done : Int32) (h0_asker_latest : Int32) (h0_asker_value : Int32) (h0_site_world_rock_dug : Int64) (f_h0_site_world_rock_kind : Nat → Int32) (f_h0_site_world_rock_hard : Nat → Int32) (f_h0_site_world_rock_water : Nat → Int32) (t : Nat) (t_clauses : Int32) (t_length : Int32) (n_t_heads : Nat) (f_t_heads : Nat → Int32) (n_t_code : Nat) (f_t_code : Nat → Int32) (f_h0_asker_stack : Nat → Int64) (h0_site_world_folk_listeners : Int32) (f_h0_site_world_folk_column : Nat → Int32) (f_h0_site_world_term : Nat → Int32) (h0_site_world_crew_count : Int32) (f_h0_site_world_crew_cell : Nat → Int32) (f_h0_site_world_crew_buckets : Nat → Int32) {w : Nat → Int} {ls : Nat → List Cls} {g_ea : Nat → Int32} {g_nc : Nat → Int32} {g_nl : Nat → Int32} {g_ns : Int32} {g_hu : Int32} {g_hc : Nat → Int32} {g_hl : Nat → Int32} {g_hs : Int32} {g_so : Nat → Int32} {g_we : Nat → Int32} {g_wl : Int32} (h_h0_site_world_lawCount : 0 ≤ h0_site_world_lawCount.toInt ∧ h0_site_world_lawCount.toInt ≤ 6) (h_h0_site_world_force : 0 ≤ h0_site_world_force.toInt ∧ h0_site_world_force.toInt ≤ 5) (h_h0_asker_cell : 0 ≤ h0_asker_cell.toInt ∧ h0_asker_cell.toInt ≤ 39) (h_f_h0_site_world_rock_kind : KI f_h0_site_world_rock_kind) (h_f_h0_site_world_rock_hard : HA f_h0_site_world_rock_hard) (h_f_h0_site_world_rock_water : WA f_h0_site_world_rock_water) (h_t_clauses : 0 ≤ t_clauses.toInt ∧ t_clauses.toInt ≤ 12) (h_t_length : 0 ≤ t_length.toInt ∧ t_length.toInt ≤ 400) (h_f_t_code : CD f_t_code) (h_h0_site_world_folk_listeners : 0 ≤ h0_site_world_folk_listeners.toInt ∧ h0_site_world_folk_listeners.toInt ≤ 5) (h_f_h0_site_world_folk_column : CO f_h0_site_world_folk_column) (h_f_h0_site_world_term : TE f_h0_site_world_term) (h_h0_site_world_crew_count : 0 ≤ h0_site_world_crew_count.toInt ∧ h0_site_world_crew_count.toInt ≤ 6) (h_f_h0_site_world_crew_cell : CE f_h0_site_world_crew_cell) (h_f_h0_site_world_crew_buckets : BU f_h0_site_world_crew_buckets) (e_0 : RXw f_h0_site_world_rock_kind f_h0_site_world_rock_hard f_h0_site_world_rock_water h0_site_world_rock_dug f_h0_site_world_crew_cell f_h0_site_world_crew_buckets h0_site_world_crew_count f_h0_site_world_folk_column g_ea h0_site_world_folk_listeners g_nc g_nl g_ns g_hu g_hc g_hl g_hs g_so g_we g_wl f_h0_site_world_term h0_site_world_lawCount h0_site_world_force w) (e_1 : XTx t_clauses t_length n_t_heads f_t_heads n_t_code f_t_code (ls (w 6).toNat)) (e_2 : ∀ q ∈ ls (w 6).toNat, okC q) (e_3 : n_t_heads < 100000) (e_4 : t_length.toInt ≤ (n_t_code : Int)) (e_5 : h0_site_world_force.toInt < h0_site_world_lawCount.toInt) (e_6 : f_h0_site_world_laws (Int32.toNatClampNeg h0_site_world_force) = some t) {Q : Int32 → (Value × Value × Int32 × Int32 × Int32 × Int32 × (Nat → Int64)) → Prop} (hq : ∀ (r : Int32) (u_0 : Value) (u_1 : Value) (u_2 : Int32) (u_3 : Int32) (u_4 : Int32) (u_5 : Int32) (u_6 : Nat → Int64), (0 ≤ u_2.toInt ∧ u_2.toInt ≤ 39) ∧ (r.toInt = atR (lawW w ls) w a.toInt b.toInt) → Q r (u_0, u_1, u_2, u_3, u_4, u_5, u_6)) : wp_X11_at_T a b h0_site_world h0_site_world_lawCount h0_site_world_force f_h0_site_world_laws h0_asker_world h0_asker_law h0_asker_cell h0_asker_shaft h0_asker_kind h0_asker_done h0_asker_latest h0_asker_value h0_site_world_rock_dug f_h0_site_world_rock_kind f_h0_site_world_rock_hard f_h0_site_world_rock_water t t_clauses t_length n_t_heads f_t_heads n_t_code f_t_code f_h0_asker_stack h0_site_world_folk_listeners f_h0_site_world_folk_column f_h0_site_world_term h0_site_world_crew_count f_h0_site_world_crew_cell f_h0_site_world_crew_buckets Q := by
  unfold wp_X11_at_T
  have l_kd := RXw.kd e_0
  have l_hd := RXw.hd e_0
  have l_wt := RXw.wt e_0
  have l_ce := RXw.ce e_0
  have l_bu := RXw.bu e_0
  have l_cc : h0_site_world_crew_count.toInt = w 0 := RXw.cc e_0
  have l_co := RXw.co e_0
  have l_ls : h0_site_world_folk_listeners.toInt = w 1 := RXw.ls e_0
  have l_te := RXw.te e_0
  have l_lc : h0_site_world_lawCount.toInt = w 5 := RXw.lc e_0
  have l_fo : h0_site_world_force.toInt = w 6 := RXw.fo e_0
  have hF : lawW w ls = some (ls (w 6).toNat) := lawW_s (by omega)
  refine o_X11_isWithin _ _ _ ?_
  by_cases c1 : a < 0
  · refine br1 c1 ?_
    have d2 := lt_z (x := (Int32.toInt a)) (y := 0) rfl rfl c1
    refine br1 (by decide) ?_
    have k3 : Int32.toInt (-1) = (-1) := (by decide)
    exact hq _ _ _ _ _ _ _ _ ⟨⟨by omega, by omega⟩, (by unfold atR; (repeat' split) <;> omega)⟩
  · refine br0 c1 ?_
    have d4 := nlt_z (x := (Int32.toInt a)) (y := 0) rfl rfl c1
    by_cases c5 : 40 ≤ a
    · refine br1 c5 ?_
      have d6 := le_z (x := 40) (y := (Int32.toInt a)) rfl rfl c5
      refine br1 (by decide) ?_
      have k7 : Int32.toInt (-1) = (-1) := (by decide)
      exact hq _ _ _ _ _ _ _ _ ⟨⟨by omega, by omega⟩, (by unfold atR; (repeat' split) <;> omega)⟩
    · refine br0 c5 ?_
      have d8 := nle_z (x := 40) (y := (Int32.toInt a)) rfl rfl c5
      refine br0 (by decide) ?_
      refine o_X10_lawInForce_T _ _ _ _ _ ?_
      refine o_X10_lawOf_T _ _ _ _ _ ?_
      refine br0 (z_nlt (x := (Int32.toInt h0_site_world_force)) (y := 0) rfl rfl (by omega)) ?_
      by_cases c9 : h0_site_world_lawCount ≤ h0_site_world_force
      · refine br1 c9 ?_
        have d10 := le_z (x := (Int32.toInt h0_site_world_lawCount)) (y := (Int32.toInt h0_site_world_force)) rfl rfl c9
        exfalso
        omega
      · refine br0 c9 ?_
        have d11 := nle_z (x := (Int32.toInt h0_site_world_lawCount)) (y := (Int32.toInt h0_site_world_force)) rfl rfl c9
        refine br0 (z_nle (x := 6) (y := (Int32.toInt h0_site_world_force)) rfl rfl (by omega)) ?_
        refine ⟨vpi (x := (Int32.toInt h0_site_world_force)) rfl (by omega) (by omega), ?_⟩
        refine ⟨by assumption, ?_⟩
        refine o_X0_turnTo_T _ ?_
        by_cases c12 : b = 0
        · refine br1 c12 ?_
          have d13 := eq_z (x := (Int32.toInt b)) (y := 0) rfl rfl c12
          refine ⟨vpi (x := (Int32.toInt a)) rfl (by omega) (by omega), ?_⟩
          have g14 : 0 ≤ (Int32.toInt (f_h0_site_world_rock_kind a.toNatClampNeg)) ∧ (Int32.toInt (f_h0_site_world_rock_kind a.toNatClampNeg)) ≤ 3 := KI.at_0 h_f_h0_site_world_rock_kind (tnz (x := (Int32.toInt a)) rfl (by omega)) (by omega) (by omega)
          have t15 : (Int32.toInt (f_h0_site_world_rock_kind a.toNatClampNeg)) = w (113 + ((Int32.toInt a)).toNat) := RkW.z l_kd (i := ((Int32.toInt a)).toNat) rfl (by omega)
          exact hq _ _ _ _ _ _ _ _ ⟨⟨by omega, by omega⟩, (by unfold atR; (repeat' split) <;> omega)⟩
        · refine br0 c12 ?_
          have d16 := ne_z (x := (Int32.toInt b)) (y := 0) rfl rfl c12
          by_cases c17 : b = 1
          · refine br1 c17 ?_
            have d18 := eq_z (x := (Int32.toInt b)) (y := 1) rfl rfl c17
            refine ⟨vpi (x := (Int32.toInt a)) rfl (by omega) (by omega), ?_⟩
            have g19 : 1 ≤ (Int32.toInt (f_h0_site_world_rock_hard a.toNatClampNeg)) ∧ (Int32.toInt (f_h0_site_world_rock_hard a.toNatClampNeg)) ≤ 9 := HA.at_0 h_f_h0_site_world_rock_hard (tnz (x := (Int32.toInt a)) rfl (by omega)) (by omega) (by omega)
            have t20 : (Int32.toInt (f_h0_site_world_rock_hard a.toNatClampNeg)) = w (153 + ((Int32.toInt a)).toNat) := RkW.z l_hd (i := ((Int32.toInt a)).toNat) rfl (by omega)
            exact hq _ _ _ _ _ _ _ _ ⟨⟨by omega, by omega⟩, (by unfold atR; (repeat' split) <;> omega)⟩
          · refine br0 c17 ?_
            have d21 := ne_z (x := (Int32.toInt b)) (y := 1) rfl rfl c17
            by_cases c22 : b = 2
            · refine br1 c22 ?_
              have d23 := eq_z (x := (Int32.toInt b)) (y := 2) rfl rfl c22
              refine ⟨vpi (x := (Int32.toInt a)) rfl (by omega) (by omega), ?_⟩
              have g24 : 0 ≤ (Int32.toInt (f_h0_site_world_rock_water a.toNatClampNeg)) ∧ (Int32.toInt (f_h0_site_world_rock_water a.toNatClampNeg)) ≤ 99 := WA.at_0 h_f_h0_site_world_rock_water (tnz (x := (Int32.toInt a)) rfl (by omega)) (by omega) (by omega)
              have t25 : (Int32.toInt (f_h0_site_world_rock_water a.toNatClampNeg)) = w (73 + ((Int32.toInt a)).toNat) := RkW.z l_wt (i := ((Int32.toInt a)).toNat) rfl (by omega)
              exact hq _ _ _ _ _ _ _ _ ⟨⟨by omega, by omega⟩, (by unfold atR; (repeat' split) <;> omega)⟩
            · refine br0 c22 ?_
              have d26 := ne_z (x := (Int32.toInt b)) (y := 2) rfl rfl c22
              by_cases c27 : b = 3
              · refine br1 c27 ?_
                have d28 := eq_z (x := (Int32.toInt b)) (y := 3) rfl rfl c27
                refine s_X6_isDugz a h0_site_world_rock_dug ⟨by omega, by omega⟩ (RXw.dg e_0) (fun r29 H30 => ?_)
                have j31 := H30.1
                have j32 := H30.2
                by_cases c33 : r29 = 0
                · refine br1 c33 ?_
                  have d34 := eq_z (x := (Int32.toInt r29)) (y := 0) rfl rfl c33
                  have k35 : Int32.toInt 0 = 0 := rfl
                  exact hq _ _ _ _ _ _ _ _ ⟨⟨by omega, by omega⟩, (by unfold atR; (repeat' split) <;> omega)⟩
                · refine br0 c33 ?_
                  have d36 := ne_z (x := (Int32.toInt r29)) (y := 0) rfl rfl c33
                  have k37 : Int32.toInt 1 = 1 := rfl
                  exact hq _ _ _ _ _ _ _ _ ⟨⟨by omega, by omega⟩, (by unfold atR; (repeat' split) <;> omega)⟩
              · refine br0 c27 ?_
                have d38 := ne_z (x := (Int32.toInt b)) (y := 3) rfl rfl c27
                by_cases c39 : b = 4
                · refine br1 c39 ?_
                  have d40 := eq_z (x := (Int32.toInt b)) (y := 4) rfl rfl c39
                  refine ⟨vpi (x := (Int32.toInt a)) rfl (by omega) (by omega), ?_⟩
                  have g42 : 0 ≤ (Int32.toInt (f_h0_site_world_rock_kind a.toNatClampNeg)) ∧ (Int32.toInt (f_h0_site_world_rock_kind a.toNatClampNeg)) ≤ 3 := KI.at_0 h_f_h0_site_world_rock_kind (tnz (x := (Int32.toInt a)) rfl (by omega)) (by omega) (by omega)
                  have t43 : (Int32.toInt (f_h0_site_world_rock_kind a.toNatClampNeg)) = w (113 + ((Int32.toInt a)).toNat) := RkW.z l_kd (i := ((Int32.toInt a)).toNat) rfl (by omega)
                  refine z_csaysT e_1 e_2 (RXw.wk e_0) (LwB.of h_f_h0_site_world_rock_kind h_f_h0_site_world_rock_hard h_f_h0_site_world_rock_water h_f_h0_site_world_term) ⟨by omega, by omega⟩ ⟨by omega, by omega⟩ (fun r41 v44 st45 H46 => ?_)
                  have j47 := H46.1
                  have j48 := H46.2
                  rw [← hF] at j48
                  rw [show (Int32.toInt (f_h0_site_world_rock_kind a.toNatClampNeg)) = w (113 + ((Int32.toInt a)).toNat) by omega] at j48
                  refine un5_i ?_
                  have k49 : Int32.toInt (-1) = (-1) := (by decide)
                  exact hq _ _ _ _ _ _ _ _ ⟨⟨by omega, by omega⟩, (by unfold atR; (repeat' split) <;> omega)⟩
                · refine br0 c39 ?_
                  have d50 := ne_z (x := (Int32.toInt b)) (y := 4) rfl rfl c39
                  by_cases c51 : b = 5
                  · refine br1 c51 ?_
                    have d52 := eq_z (x := (Int32.toInt b)) (y := 5) rfl rfl c51
                    refine ⟨vpi (x := (Int32.toInt a)) rfl (by omega) (by omega), ?_⟩
                    have g54 : 0 ≤ (Int32.toInt (f_h0_site_world_rock_kind a.toNatClampNeg)) ∧ (Int32.toInt (f_h0_site_world_rock_kind a.toNatClampNeg)) ≤ 3 := KI.at_0 h_f_h0_site_world_rock_kind (tnz (x := (Int32.toInt a)) rfl (by omega)) (by omega) (by omega)
                    have t55 : (Int32.toInt (f_h0_site_world_rock_kind a.toNatClampNeg)) = w (113 + ((Int32.toInt a)).toNat) := RkW.z l_kd (i := ((Int32.toInt a)).toNat) rfl (by omega)
                    refine z_closesT e_1 e_2 (RXw.wk e_0) (LwB.of h_f_h0_site_world_rock_kind h_f_h0_site_world_rock_hard h_f_h0_site_world_rock_water h_f_h0_site_world_term) ⟨by omega, by omega⟩ ⟨by omega, by omega⟩ (fun r53 v56 st57 H58 => ?_)
                    have j59 := H58.1
                    have j60 := H58.2
                    rw [← hF] at j60
                    rw [show (Int32.toInt (f_h0_site_world_rock_kind a.toNatClampNeg)) = w (113 + ((Int32.toInt a)).toNat) by omega] at j60
                    refine un5_i ?_
                    have k61 : Int32.toInt (-1) = (-1) := (by decide)
                    exact hq _ _ _ _ _ _ _ _ ⟨⟨by omega, by omega⟩, (by unfold atR; (repeat' split) <;> omega)⟩
                  · refine br0 c51 ?_
                    have d62 := ne_z (x := (Int32.toInt b)) (y := 5) rfl rfl c51
                    have k63 : Int32.toInt (-1) = (-1) := (by decide)
                    exact hq _ _ _ _ _ _ _ _ ⟨⟨by omega, by omega⟩, (by unfold atR; (repeat' split) <;> omega)⟩


set_option maxRecDepth 100000 in
theorem s_X11_asks_Tz (a : Int32) (b : Int32) (d : Int32) (h0_site_world : Nat) (h0_site_world_lawCount : Int32) (h0_site_world_force : Int32) (h0_site_world_crew_count : Int32) (f_h0_site_world_laws : Nat → Option Nat) (h0_asker_world : Value) (h0_asker_law : Value) (h0_asker_cell : Int32) (h0_asker_shaft : Int32) (h0_asker_kind : Int32) (h0_asker_done : Int32) (h0_asker_latest : Int32) (h0_asker_value : Int32) (f_h0_site_world_rock_kind : Nat → Int32) (f_h0_site_world_rock_hard : Nat → Int32) (t : Nat) (t_clauses : Int32) (t_length : Int32) (n_t_heads : Nat) (f_t_heads : Nat → Int32) (n_t_code : Nat) (f_t_code : Nat → Int32) (f_h0_asker_stack : Nat → Int64) (h0_site_world_folk_listeners : Int32) (f_h0_site_world_folk_column : Nat → Int32) (f_h0_site_world_rock_water : Nat → Int32) (f_h0_site_world_term : Nat → Int32) (f_h0_site_world_crew_cell : Nat → Int32) (f_h0_site_world_crew_buckets : Nat → Int32) {w : Nat → Int} {ls : Nat → List Cls} {g_dg : Int64} {g_ea : Nat → Int32} {g_nc : Nat → Int32} {g_nl : Nat → Int32} {g_ns : Int32} {g_hu : Int32} {g_hc : Nat → Int32} {g_hl : Nat → Int32} {g_hs : Int32} {g_so : Nat → Int32} {g_we : Nat → Int32} {g_wl : Int32} (h_h0_site_world_lawCount : 0 ≤ h0_site_world_lawCount.toInt ∧ h0_site_world_lawCount.toInt ≤ 6) (h_h0_site_world_force : 0 ≤ h0_site_world_force.toInt ∧ h0_site_world_force.toInt ≤ 5) (h_h0_site_world_crew_count : 0 ≤ h0_site_world_crew_count.toInt ∧ h0_site_world_crew_count.toInt ≤ 6) (h_h0_asker_cell : 0 ≤ h0_asker_cell.toInt ∧ h0_asker_cell.toInt ≤ 39) (h_f_h0_site_world_rock_kind : KI f_h0_site_world_rock_kind) (h_f_h0_site_world_rock_hard : HA f_h0_site_world_rock_hard) (h_t_clauses : 0 ≤ t_clauses.toInt ∧ t_clauses.toInt ≤ 12) (h_t_length : 0 ≤ t_length.toInt ∧ t_length.toInt ≤ 400) (h_f_t_code : CD f_t_code) (h_h0_site_world_folk_listeners : 0 ≤ h0_site_world_folk_listeners.toInt ∧ h0_site_world_folk_listeners.toInt ≤ 5) (h_f_h0_site_world_folk_column : CO f_h0_site_world_folk_column) (h_f_h0_site_world_rock_water : WA f_h0_site_world_rock_water) (h_f_h0_site_world_term : TE f_h0_site_world_term) (h_f_h0_site_world_crew_cell : CE f_h0_site_world_crew_cell) (h_f_h0_site_world_crew_buckets : BU f_h0_site_world_crew_buckets) (e_0 : RXw f_h0_site_world_rock_kind f_h0_site_world_rock_hard f_h0_site_world_rock_water g_dg f_h0_site_world_crew_cell f_h0_site_world_crew_buckets h0_site_world_crew_count f_h0_site_world_folk_column g_ea h0_site_world_folk_listeners g_nc g_nl g_ns g_hu g_hc g_hl g_hs g_so g_we g_wl f_h0_site_world_term h0_site_world_lawCount h0_site_world_force w) (e_1 : XTx t_clauses t_length n_t_heads f_t_heads n_t_code f_t_code (ls (w 6).toNat)) (e_2 : ∀ q ∈ ls (w 6).toNat, okC q) (e_3 : n_t_heads < 100000) (e_4 : t_length.toInt ≤ (n_t_code : Int)) (e_5 : h0_site_world_force.toInt < h0_site_world_lawCount.toInt) (e_6 : f_h0_site_world_laws (Int32.toNatClampNeg h0_site_world_force) = some t) {Q : Int32 → (Value × Value × Int32 × Int32 × Int32 × Int32 × (Nat → Int64)) → Prop} (hq : ∀ (r : Int32) (u_0 : Value) (u_1 : Value) (u_2 : Int32) (u_3 : Int32) (u_4 : Int32) (u_5 : Int32) (u_6 : Nat → Int64), (0 ≤ u_2.toInt ∧ u_2.toInt ≤ 39) ∧ (r.toInt = asksR (lawW w ls) w a.toInt b.toInt d.toInt) → Q r (u_0, u_1, u_2, u_3, u_4, u_5, u_6)) : wp_X11_asks_T a b d h0_site_world h0_site_world_lawCount h0_site_world_force h0_site_world_crew_count f_h0_site_world_laws h0_asker_world h0_asker_law h0_asker_cell h0_asker_shaft h0_asker_kind h0_asker_done h0_asker_latest h0_asker_value f_h0_site_world_rock_kind f_h0_site_world_rock_hard t t_clauses t_length n_t_heads f_t_heads n_t_code f_t_code f_h0_asker_stack h0_site_world_folk_listeners f_h0_site_world_folk_column f_h0_site_world_rock_water f_h0_site_world_term f_h0_site_world_crew_cell f_h0_site_world_crew_buckets Q := by
  unfold wp_X11_asks_T
  have l_kd := RXw.kd e_0
  have l_hd := RXw.hd e_0
  have l_wt := RXw.wt e_0
  have l_ce := RXw.ce e_0
  have l_bu := RXw.bu e_0
  have l_cc : h0_site_world_crew_count.toInt = w 0 := RXw.cc e_0
  have l_co := RXw.co e_0
  have l_ls : h0_site_world_folk_listeners.toInt = w 1 := RXw.ls e_0
  have l_te := RXw.te e_0
  have l_lc : h0_site_world_lawCount.toInt = w 5 := RXw.lc e_0
  have l_fo : h0_site_world_force.toInt = w 6 := RXw.fo e_0
  have hF : lawW w ls = some (ls (w 6).toNat) := lawW_s (by omega)
  refine o_X11_isWithin _ _ _ ?_
  by_cases c1 : a < 0
  · refine br1 c1 ?_
    have d2 := lt_z (x := (Int32.toInt a)) (y := 0) rfl rfl c1
    refine br1 (by decide) ?_
    have k3 : Int32.toInt (-1) = (-1) := (by decide)
    exact hq _ _ _ _ _ _ _ _ ⟨⟨by omega, by omega⟩, (by unfold asksR; (repeat' split) <;> omega)⟩
  · refine br0 c1 ?_
    have d4 := nlt_z (x := (Int32.toInt a)) (y := 0) rfl rfl c1
    by_cases c5 : h0_site_world_crew_count ≤ a
    · refine br1 c5 ?_
      have d6 := le_z (x := (Int32.toInt h0_site_world_crew_count)) (y := (Int32.toInt a)) rfl rfl c5
      refine br1 (by decide) ?_
      have k7 : Int32.toInt (-1) = (-1) := (by decide)
      exact hq _ _ _ _ _ _ _ _ ⟨⟨by omega, by omega⟩, (by unfold asksR; (repeat' split) <;> omega)⟩
    · refine br0 c5 ?_
      have d8 := nle_z (x := (Int32.toInt h0_site_world_crew_count)) (y := (Int32.toInt a)) rfl rfl c5
      refine br0 (by decide) ?_
      refine o_X11_isWithin _ _ _ ?_
      by_cases c9 : b < 0
      · refine br1 c9 ?_
        have d10 := lt_z (x := (Int32.toInt b)) (y := 0) rfl rfl c9
        refine br1 (by decide) ?_
        have k11 : Int32.toInt (-1) = (-1) := (by decide)
        exact hq _ _ _ _ _ _ _ _ ⟨⟨by omega, by omega⟩, (by unfold asksR; (repeat' split) <;> omega)⟩
      · refine br0 c9 ?_
        have d12 := nlt_z (x := (Int32.toInt b)) (y := 0) rfl rfl c9
        by_cases c13 : 40 ≤ b
        · refine br1 c13 ?_
          have d14 := le_z (x := 40) (y := (Int32.toInt b)) rfl rfl c13
          refine br1 (by decide) ?_
          have k15 : Int32.toInt (-1) = (-1) := (by decide)
          exact hq _ _ _ _ _ _ _ _ ⟨⟨by omega, by omega⟩, (by unfold asksR; (repeat' split) <;> omega)⟩
        · refine br0 c13 ?_
          have d16 := nle_z (x := 40) (y := (Int32.toInt b)) rfl rfl c13
          refine br0 (by decide) ?_
          refine o_X10_lawInForce_T _ _ _ _ _ ?_
          refine o_X10_lawOf_T _ _ _ _ _ ?_
          refine br0 (z_nlt (x := (Int32.toInt h0_site_world_force)) (y := 0) rfl rfl (by omega)) ?_
          by_cases c17 : h0_site_world_lawCount ≤ h0_site_world_force
          · refine br1 c17 ?_
            have d18 := le_z (x := (Int32.toInt h0_site_world_lawCount)) (y := (Int32.toInt h0_site_world_force)) rfl rfl c17
            exfalso
            omega
          · refine br0 c17 ?_
            have d19 := nle_z (x := (Int32.toInt h0_site_world_lawCount)) (y := (Int32.toInt h0_site_world_force)) rfl rfl c17
            refine br0 (z_nle (x := 6) (y := (Int32.toInt h0_site_world_force)) rfl rfl (by omega)) ?_
            refine ⟨vpi (x := (Int32.toInt h0_site_world_force)) rfl (by omega) (by omega), ?_⟩
            refine ⟨by assumption, ?_⟩
            refine o_X0_turnTo_T _ ?_
            by_cases c20 : d = 0
            · refine br1 c20 ?_
              have d21 := eq_z (x := (Int32.toInt d)) (y := 0) rfl rfl c20
              refine z_cdigsT e_1 e_2 (RXw.wk e_0) (LwB.of h_f_h0_site_world_rock_kind h_f_h0_site_world_rock_hard h_f_h0_site_world_rock_water h_f_h0_site_world_term) ⟨by omega, by omega⟩ ⟨by omega, by omega⟩ (fun r22 v23 st24 H25 => ?_)
              have j26 := H25.1
              have j27 := H25.2
              rw [← hF] at j27
              refine un5_i ?_
              have g28 : 0 ≤ (Int32.toInt (f_h0_site_world_rock_kind b.toNatClampNeg)) ∧ (Int32.toInt (f_h0_site_world_rock_kind b.toNatClampNeg)) ≤ 3 := KI.at_0 h_f_h0_site_world_rock_kind (tnz (x := (Int32.toInt b)) rfl (by omega)) (by omega) (by omega)
              have t29 : (Int32.toInt (f_h0_site_world_rock_kind b.toNatClampNeg)) = w (113 + ((Int32.toInt b)).toNat) := RkW.z l_kd (i := ((Int32.toInt b)).toNat) rfl (by omega)
              exact hq _ _ _ _ _ _ _ _ ⟨⟨by omega, by omega⟩, (by unfold asksR; (repeat' split) <;> omega)⟩
            · refine br0 c20 ?_
              have d30 := ne_z (x := (Int32.toInt d)) (y := 0) rfl rfl c20
              by_cases c31 : d = 1
              · refine br1 c31 ?_
                have d32 := eq_z (x := (Int32.toInt d)) (y := 1) rfl rfl c31
                refine z_cpassT e_1 e_2 (RXw.wk e_0) (LwB.of h_f_h0_site_world_rock_kind h_f_h0_site_world_rock_hard h_f_h0_site_world_rock_water h_f_h0_site_world_term) ⟨by omega, by omega⟩ ⟨by omega, by omega⟩ ⟨by omega, by omega⟩ (fun r33 x34 x35 x36 v37 st38 H39 => ?_)
                have j40 := H39.1
                have j41 := H39.2.1
                rw [← hF] at j41
                have j42 := H39.2.2
                refine un5_i ?_
                by_cases c43 : r33 = 0
                · refine br1 c43 ?_
                  have d44 := eq_z (x := (Int32.toInt r33)) (y := 0) rfl rfl c43
                  have k45 : Int32.toInt 0 = 0 := rfl
                  exact hq _ _ _ _ _ _ _ _ ⟨⟨by omega, by omega⟩, (by unfold asksR; (repeat' split) <;> omega)⟩
                · refine br0 c43 ?_
                  have d46 := ne_z (x := (Int32.toInt r33)) (y := 0) rfl rfl c43
                  have k47 : Int32.toInt 1 = 1 := rfl
                  exact hq _ _ _ _ _ _ _ _ ⟨⟨by omega, by omega⟩, (by unfold asksR; (repeat' split) <;> omega)⟩
              · refine br0 c31 ?_
                have d48 := ne_z (x := (Int32.toInt d)) (y := 1) rfl rfl c31
                by_cases c49 : d = 2
                · refine br1 c49 ?_
                  have d50 := eq_z (x := (Int32.toInt d)) (y := 2) rfl rfl c49
                  refine z_cgivesT e_1 e_2 (RXw.wk e_0) (LwB.of h_f_h0_site_world_rock_kind h_f_h0_site_world_rock_hard h_f_h0_site_world_rock_water h_f_h0_site_world_term) ⟨by omega, by omega⟩ ⟨by omega, by omega⟩ (fun r51 v52 st53 H54 => ?_)
                  have j55 := H54.1
                  have j56 := H54.2.1
                  rw [← hF] at j56
                  have j57 := H54.2.2
                  refine un5_i ?_
                  have g58 : 0 ≤ (Int32.toInt (f_h0_site_world_rock_kind b.toNatClampNeg)) ∧ (Int32.toInt (f_h0_site_world_rock_kind b.toNatClampNeg)) ≤ 3 := KI.at_0 h_f_h0_site_world_rock_kind (tnz (x := (Int32.toInt b)) rfl (by omega)) (by omega) (by omega)
                  have t59 : (Int32.toInt (f_h0_site_world_rock_kind b.toNatClampNeg)) = w (113 + ((Int32.toInt b)).toNat) := RkW.z l_kd (i := ((Int32.toInt b)).toNat) rfl (by omega)
                  exact hq _ _ _ _ _ _ _ _ ⟨⟨by omega, by omega⟩, (by unfold asksR; (repeat' split) <;> omega)⟩
                · refine br0 c49 ?_
                  have d60 := ne_z (x := (Int32.toInt d)) (y := 2) rfl rfl c49
                  have k61 : Int32.toInt (-1) = (-1) := (by decide)
                  exact hq _ _ _ _ _ _ _ _ ⟨⟨by omega, by omega⟩, (by unfold asksR; (repeat' split) <;> omega)⟩


set_option maxRecDepth 100000 in
theorem s_X11_loud_Tz (a : Int32) (b : Int32) (h0_site_world : Nat) (h0_site_world_lawCount : Int32) (h0_site_world_force : Int32) (f_h0_site_world_laws : Nat → Option Nat) (h0_asker_world : Value) (h0_asker_law : Value) (h0_asker_cell : Int32) (h0_asker_shaft : Int32) (h0_asker_kind : Int32) (h0_asker_done : Int32) (h0_asker_latest : Int32) (h0_asker_value : Int32) (f_h0_site_world_rock_kind : Nat → Int32) (t : Nat) (t_clauses : Int32) (t_length : Int32) (n_t_heads : Nat) (f_t_heads : Nat → Int32) (n_t_code : Nat) (f_t_code : Nat → Int32) (f_h0_asker_stack : Nat → Int64) (h0_site_world_folk_listeners : Int32) (f_h0_site_world_folk_column : Nat → Int32) (f_h0_site_world_rock_hard : Nat → Int32) (f_h0_site_world_rock_water : Nat → Int32) (f_h0_site_world_term : Nat → Int32) (h0_site_world_crew_count : Int32) (f_h0_site_world_crew_cell : Nat → Int32) (f_h0_site_world_crew_buckets : Nat → Int32) {w : Nat → Int} {ls : Nat → List Cls} {g_dg : Int64} {g_ea : Nat → Int32} {g_nc : Nat → Int32} {g_nl : Nat → Int32} {g_ns : Int32} {g_hu : Int32} {g_hc : Nat → Int32} {g_hl : Nat → Int32} {g_hs : Int32} {g_so : Nat → Int32} {g_we : Nat → Int32} {g_wl : Int32} (h_h0_site_world_lawCount : 0 ≤ h0_site_world_lawCount.toInt ∧ h0_site_world_lawCount.toInt ≤ 6) (h_h0_site_world_force : 0 ≤ h0_site_world_force.toInt ∧ h0_site_world_force.toInt ≤ 5) (h_h0_asker_cell : 0 ≤ h0_asker_cell.toInt ∧ h0_asker_cell.toInt ≤ 39) (h_f_h0_site_world_rock_kind : KI f_h0_site_world_rock_kind) (h_t_clauses : 0 ≤ t_clauses.toInt ∧ t_clauses.toInt ≤ 12) (h_t_length : 0 ≤ t_length.toInt ∧ t_length.toInt ≤ 400) (h_f_t_code : CD f_t_code) (h_h0_site_world_folk_listeners : 0 ≤ h0_site_world_folk_listeners.toInt ∧ h0_site_world_folk_listeners.toInt ≤ 5) (h_f_h0_site_world_folk_column : CO f_h0_site_world_folk_column) (h_f_h0_site_world_rock_hard : HA f_h0_site_world_rock_hard) (h_f_h0_site_world_rock_water : WA f_h0_site_world_rock_water) (h_f_h0_site_world_term : TE f_h0_site_world_term) (h_h0_site_world_crew_count : 0 ≤ h0_site_world_crew_count.toInt ∧ h0_site_world_crew_count.toInt ≤ 6) (h_f_h0_site_world_crew_cell : CE f_h0_site_world_crew_cell) (h_f_h0_site_world_crew_buckets : BU f_h0_site_world_crew_buckets) (e_0 : RXw f_h0_site_world_rock_kind f_h0_site_world_rock_hard f_h0_site_world_rock_water g_dg f_h0_site_world_crew_cell f_h0_site_world_crew_buckets h0_site_world_crew_count f_h0_site_world_folk_column g_ea h0_site_world_folk_listeners g_nc g_nl g_ns g_hu g_hc g_hl g_hs g_so g_we g_wl f_h0_site_world_term h0_site_world_lawCount h0_site_world_force w) (e_1 : XTx t_clauses t_length n_t_heads f_t_heads n_t_code f_t_code (ls (w 6).toNat)) (e_2 : ∀ q ∈ ls (w 6).toNat, okC q) (e_3 : n_t_heads < 100000) (e_4 : t_length.toInt ≤ (n_t_code : Int)) (e_5 : h0_site_world_force.toInt < h0_site_world_lawCount.toInt) (e_6 : f_h0_site_world_laws (Int32.toNatClampNeg h0_site_world_force) = some t) {Q : Int32 → (Value × Value × Int32 × Int32 × Int32 × Int32 × (Nat → Int64)) → Prop} (hq : ∀ (r : Int32) (u_0 : Value) (u_1 : Value) (u_2 : Int32) (u_3 : Int32) (u_4 : Int32) (u_5 : Int32) (u_6 : Nat → Int64), (0 ≤ u_2.toInt ∧ u_2.toInt ≤ 39) ∧ (r.toInt = loudR (lawW w ls) w a.toInt b.toInt) → Q r (u_0, u_1, u_2, u_3, u_4, u_5, u_6)) : wp_X11_loud_T a b h0_site_world h0_site_world_lawCount h0_site_world_force f_h0_site_world_laws h0_asker_world h0_asker_law h0_asker_cell h0_asker_shaft h0_asker_kind h0_asker_done h0_asker_latest h0_asker_value f_h0_site_world_rock_kind t t_clauses t_length n_t_heads f_t_heads n_t_code f_t_code f_h0_asker_stack h0_site_world_folk_listeners f_h0_site_world_folk_column f_h0_site_world_rock_hard f_h0_site_world_rock_water f_h0_site_world_term h0_site_world_crew_count f_h0_site_world_crew_cell f_h0_site_world_crew_buckets Q := by
  unfold wp_X11_loud_T
  have l_kd := RXw.kd e_0
  have l_hd := RXw.hd e_0
  have l_wt := RXw.wt e_0
  have l_ce := RXw.ce e_0
  have l_bu := RXw.bu e_0
  have l_cc : h0_site_world_crew_count.toInt = w 0 := RXw.cc e_0
  have l_co := RXw.co e_0
  have l_ls : h0_site_world_folk_listeners.toInt = w 1 := RXw.ls e_0
  have l_te := RXw.te e_0
  have l_lc : h0_site_world_lawCount.toInt = w 5 := RXw.lc e_0
  have l_fo : h0_site_world_force.toInt = w 6 := RXw.fo e_0
  have hF : lawW w ls = some (ls (w 6).toNat) := lawW_s (by omega)
  refine o_X11_isWithin _ _ _ ?_
  by_cases c1 : a < 0
  · refine br1 c1 ?_
    have d2 := lt_z (x := (Int32.toInt a)) (y := 0) rfl rfl c1
    refine br1 (by decide) ?_
    have k3 : Int32.toInt (-100000) = (-100000) := (by decide)
    exact hq _ _ _ _ _ _ _ _ ⟨⟨by omega, by omega⟩, (by unfold loudR; rw [if_pos (by omega)]; decide)⟩
  · refine br0 c1 ?_
    have d4 := nlt_z (x := (Int32.toInt a)) (y := 0) rfl rfl c1
    by_cases c5 : 40 ≤ a
    · refine br1 c5 ?_
      have d6 := le_z (x := 40) (y := (Int32.toInt a)) rfl rfl c5
      refine br1 (by decide) ?_
      have k7 : Int32.toInt (-100000) = (-100000) := (by decide)
      exact hq _ _ _ _ _ _ _ _ ⟨⟨by omega, by omega⟩, (by unfold loudR; rw [if_pos (by omega)]; decide)⟩
    · refine br0 c5 ?_
      have d8 := nle_z (x := 40) (y := (Int32.toInt a)) rfl rfl c5
      refine br0 (by decide) ?_
      refine o_X11_isWithin _ _ _ ?_
      by_cases c9 : b < 0
      · refine br1 c9 ?_
        have d10 := lt_z (x := (Int32.toInt b)) (y := 0) rfl rfl c9
        refine br1 (by decide) ?_
        have k11 : Int32.toInt (-100000) = (-100000) := (by decide)
        exact hq _ _ _ _ _ _ _ _ ⟨⟨by omega, by omega⟩, (by unfold loudR; rw [if_pos (by omega)]; decide)⟩
      · refine br0 c9 ?_
        have d12 := nlt_z (x := (Int32.toInt b)) (y := 0) rfl rfl c9
        by_cases c13 : 8 ≤ b
        · refine br1 c13 ?_
          have d14 := le_z (x := 8) (y := (Int32.toInt b)) rfl rfl c13
          refine br1 (by decide) ?_
          have k15 : Int32.toInt (-100000) = (-100000) := (by decide)
          exact hq _ _ _ _ _ _ _ _ ⟨⟨by omega, by omega⟩, (by unfold loudR; rw [if_pos (by omega)]; decide)⟩
        · refine br0 c13 ?_
          have d16 := nle_z (x := 8) (y := (Int32.toInt b)) rfl rfl c13
          refine br0 (by decide) ?_
          refine o_X10_lawInForce_T _ _ _ _ _ ?_
          refine o_X10_lawOf_T _ _ _ _ _ ?_
          refine br0 (z_nlt (x := (Int32.toInt h0_site_world_force)) (y := 0) rfl rfl (by omega)) ?_
          by_cases c17 : h0_site_world_lawCount ≤ h0_site_world_force
          · refine br1 c17 ?_
            have d18 := le_z (x := (Int32.toInt h0_site_world_lawCount)) (y := (Int32.toInt h0_site_world_force)) rfl rfl c17
            exfalso
            omega
          · refine br0 c17 ?_
            have d19 := nle_z (x := (Int32.toInt h0_site_world_lawCount)) (y := (Int32.toInt h0_site_world_force)) rfl rfl c17
            refine br0 (z_nle (x := 6) (y := (Int32.toInt h0_site_world_force)) rfl rfl (by omega)) ?_
            refine ⟨vpi (x := (Int32.toInt h0_site_world_force)) rfl (by omega) (by omega), ?_⟩
            refine ⟨by assumption, ?_⟩
            refine o_X0_turnTo_T _ ?_
            refine ⟨vpi (x := (Int32.toInt a)) rfl (by omega) (by omega), ?_⟩
            have g21 : 0 ≤ (Int32.toInt (f_h0_site_world_rock_kind a.toNatClampNeg)) ∧ (Int32.toInt (f_h0_site_world_rock_kind a.toNatClampNeg)) ≤ 3 := KI.at_0 h_f_h0_site_world_rock_kind (tnz (x := (Int32.toInt a)) rfl (by omega)) (by omega) (by omega)
            have t22 : (Int32.toInt (f_h0_site_world_rock_kind a.toNatClampNeg)) = w (113 + ((Int32.toInt a)).toNat) := RkW.z l_kd (i := ((Int32.toInt a)).toNat) rfl (by omega)
            refine z_csaysT e_1 e_2 (RXw.wk e_0) (LwB.of h_f_h0_site_world_rock_kind h_f_h0_site_world_rock_hard h_f_h0_site_world_rock_water h_f_h0_site_world_term) ⟨by omega, by omega⟩ ⟨by omega, by omega⟩ (fun r20 v23 st24 H25 => ?_)
            have j26 := H25.1
            have j27 := H25.2
            rw [← hF] at j27
            rw [show (Int32.toInt (f_h0_site_world_rock_kind a.toNatClampNeg)) = w (113 + ((Int32.toInt a)).toNat) by omega] at j27
            refine un5_i ?_
            refine z_steps ⟨by omega, by omega⟩ ⟨by omega, by omega⟩ (fun r28 H29 => ?_)
            have j31 := H29.1
            have j30 := H29.2
            refine z_closesT e_1 e_2 (RXw.wk e_0) (LwB.of h_f_h0_site_world_rock_kind h_f_h0_site_world_rock_hard h_f_h0_site_world_rock_water h_f_h0_site_world_term) ⟨by omega, by omega⟩ ⟨by omega, by omega⟩ (fun r32 v33 st34 H35 => ?_)
            have j36 := H35.1
            have j37 := H35.2
            rw [← hF] at j37
            rw [show (Int32.toInt (f_h0_site_world_rock_kind a.toNatClampNeg)) = w (113 + ((Int32.toInt a)).toNat) by omega] at j37
            refine un5_i ?_
            have t38 : 0 ≤ (Int32.toInt (r28 * r32)) ∧ (Int32.toInt (r28 * r32)) ≤ 945 := mul_b (x := (Int32.toInt r28)) (y := (Int32.toInt r32)) (X := 105) (Y := 9) rfl rfl (by omega) (by omega) (by omega) (by omega) (by decide)
            have t39 : (Int32.toInt (r20 - (r28 * r32))) = (Int32.toInt r20) - (Int32.toInt (r28 * r32)) := sub_z rfl rfl (by omega) (by omega)
            have k40 : Int32.toInt (-1) = (-1) := (by decide)
            exact hq _ _ _ _ _ _ _ _ ⟨⟨by omega, by omega⟩, (by unfold loudR; rw [if_neg (by omega)]; exact loud_z j27 j30 j37 saysW_b (by have q := stpI_b (c := a.toInt) (col := b.toInt) (by omega) (by omega); omega) losesW_b)⟩

