theorem o_X1_add (a : Int32) (h0_count : Int32) (h0cf : Nat → Int32) (h0bf : Nat → Int32) (Q : (Int32 × (Nat → Int32) × (Nat → Int32)) → Prop) (h : (if 6 ≤ h0_count then (Q (h0_count, h0cf, h0bf)) else (vp_in h0_count 6 ∧ (vp_in h0_count 6 ∧ (Q ((h0_count + 1), (upd h0cf h0_count.toNatClampNeg a), (upd h0bf h0_count.toNatClampNeg 0))))))) : wp_X1_add a h0_count h0cf h0bf Q := h
theorem o_X4_addHearsay (a : Int32) (b : Int32) (h0_hearsay : Int32) (h0hearnf : Nat → Int32) (h0heardf : Nat → Int32) (Q : (Int32 × (Nat → Int32) × (Nat → Int32)) → Prop) (h : (if 8 ≤ h0_hearsay then (Q (h0_hearsay, h0hearnf, h0heardf)) else (vp_in h0_hearsay 8 ∧ (vp_in h0_hearsay 8 ∧ (Q ((h0_hearsay + 1), (upd h0hearnf h0_hearsay.toNatClampNeg a), (upd h0heardf h0_hearsay.toNatClampNeg b))))))) : wp_X4_addHearsay a b h0_hearsay h0hearnf h0heardf Q := h
theorem o_X4_addListener (a : Int32) (b : Int32) (h0_listeners : Int32) (h0colunf : Nat → Int32) (h0earrf : Nat → Int32) (Q : (Int32 × (Nat → Int32) × (Nat → Int32)) → Prop) (h : (if 5 ≤ h0_listeners then (Q (h0_listeners, h0colunf, h0earrf)) else (vp_in h0_listeners 5 ∧ (vp_in h0_listeners 5 ∧ (Q ((h0_listeners + 1), (upd h0colunf h0_listeners.toNatClampNeg a), (upd h0earrf h0_listeners.toNatClampNeg b))))))) : wp_X4_addListener a b h0_listeners h0colunf h0earrf Q := h
theorem o_X4_addNoise (a : Int32) (b : Int32) (h0_noises : Int32) (h0noisnf : Nat → Int32) (h0noisdf : Nat → Int32) (Q : (Int32 × (Nat → Int32) × (Nat → Int32)) → Prop) (h : (if 6 ≤ h0_noises then (Q (h0_noises, h0noisnf, h0noisdf)) else (vp_in h0_noises 6 ∧ (vp_in h0_noises 6 ∧ (Q ((h0_noises + 1), (upd h0noisnf h0_noises.toNatClampNeg a), (upd h0noisdf h0_noises.toNatClampNeg b))))))) : wp_X4_addNoise a b h0_noises h0noisnf h0noisdf Q := h
theorem o_X4_addWell (a : Int32) (b : Int32) (h0_wells : Int32) (h0sounsf : Nat → Int32) (h0wettf : Nat → Int32) (Q : (Int32 × (Nat → Int32) × (Nat → Int32)) → Prop) (h : (if 10 ≤ h0_wells then (Q (h0_wells, h0sounsf, h0wettf)) else (vp_in h0_wells 10 ∧ (vp_in h0_wells 10 ∧ (Q ((h0_wells + 1), (upd h0sounsf h0_wells.toNatClampNeg a), (upd h0wettf h0_wells.toNatClampNeg b))))))) : wp_X4_addWell a b h0_wells h0sounsf h0wettf Q := h
set_option maxRecDepth 100000 in
theorem s_X11_putz (a : Int32) (b : Int32) (d : Int32) (rfs : Nat → Int32) (aR_dug : Int64) (aRkf : Nat → Int32) (aRhf : Nat → Int32) (aRwf : Nat → Int32) (aD_kept : Int32) {w : Nat → Int} {U : UL} {rf : Nat → Int32} {g_ce : Nat → Int32} {g_bu : Nat → Int32} {g_cc : Int32} {g_co : Nat → Int32} {g_ea : Nat → Int32} {g_ls : Int32} {g_nc : Nat → Int32} {g_nl : Nat → Int32} {g_ns : Int32} {g_hu : Int32} {g_hc : Nat → Int32} {g_hl : Nat → Int32} {g_hs : Int32} {g_so : Nat → Int32} {g_we : Nat → Int32} {g_wl : Int32} {g_te : Nat → Int32} {g_lc : Int32} {g_fo : Int32} {gd_deed : Nat → Int32} {gd_whose : Nat → Int32} {gd_before : Nat → Int32} {gd_bucketsBefore : Nat → Int32} {gd_dayBefore : Nat → Int32} {gd_latest : Int32} (h_aRkf : KI aRkf) (h_aRhf : HA aRhf) (h_aRwf : WA aRwf) (h_aD_kept : 0 ≤ aD_kept.toInt ∧ aD_kept.toInt ≤ 16) (e_0 : RXw aRkf aRhf aRwf aR_dug g_ce g_bu g_cc g_co g_ea g_ls g_nc g_nl g_ns g_hu g_hc g_hl g_hs g_so g_we g_wl g_te g_lc g_fo w) (e_1 : RXu gd_deed gd_whose gd_before gd_bucketsBefore gd_dayBefore aD_kept gd_latest w U) (e_2 : DI gd_deed gd_whose gd_before gd_bucketsBefore gd_dayBefore) (e_3 : RF rfs rf) {Q : Int32 → (Int32 × (Nat → Int32) × (Nat → Int32) × (Nat → Int32) × (Nat → Int32) × Int32) → Prop} (hq : ∀ (r : Int32) (u_0 : Int32) (u_1 : Nat → Int32) (u_2 : Nat → Int32) (u_3 : Nat → Int32) (u_4 : Nat → Int32) (u_5 : Int32), (KI u_2) ∧ (HA u_3) ∧ (WA u_4) ∧ (0 ≤ u_5.toInt ∧ u_5.toInt ≤ 16) ∧ (r.toInt = putR w a.toInt b.toInt d.toInt) ∧ (RXw u_2 u_3 u_4 aR_dug g_ce g_bu g_cc g_co g_ea g_ls g_nc g_nl g_ns g_hu g_hc g_hl g_hs g_so g_we g_wl g_te g_lc g_fo (putW w a.toInt b.toInt d.toInt)) ∧ (RXu gd_deed gd_whose gd_before gd_bucketsBefore gd_dayBefore u_5 gd_latest (putW w a.toInt b.toInt d.toInt) (clr (putR w a.toInt b.toInt d.toInt) U)) ∧ (u_0.toInt = tlS (putR w a.toInt b.toInt d.toInt)) ∧ (RF u_1 (tlR rf (putR w a.toInt b.toInt d.toInt))) → Q r (u_0, u_1, u_2, u_3, u_4, u_5)) : wp_X11_put a b d rfs aR_dug aRkf aRhf aRwf aD_kept Q := by
  unfold wp_X11_put
  have l_kd := RXw.kd e_0
  have l_hd := RXw.hd e_0
  have l_wt := RXw.wt e_0
  refine o_X11_isWithin _ _ _ ?_
  by_cases c1 : a < 0
  · refine br1 c1 ?_
    have d2 := lt_z (x := (Int32.toInt a)) (y := 0) rfl rfl c1
    refine br1 (by decide) ?_
    have k3 : Int32.toInt (-1) = (-1) := (by decide)
    refine s_X11_settlez (-1) (rfs) (by decide) e_3 (fun r4 u5_0 u5_1 H6 => ?_)
    have j7 := H6.1
    have j8 := H6.2.1
    have j9 := H6.2.2
    refine un2_i ?_
    have hR10 : putR w a.toInt b.toInt d.toInt = (Int32.toInt r4) := by unfold putR; (repeat' split) <;> omega
    exact hq _ _ _ _ _ _ _ ⟨h_aRkf, h_aRhf, h_aRwf, ⟨by omega, by omega⟩, hR10.symm, (by unfold putW; rw [if_pos (by omega)]; exact e_0), (by unfold putW clr; rw [if_pos (by omega), if_pos (by omega)]; exact e_1), (by rw [hR10]; exact j8), (by rw [hR10]; exact j9)⟩
  · refine br0 c1 ?_
    have d11 := nlt_z (x := (Int32.toInt a)) (y := 0) rfl rfl c1
    by_cases c12 : 40 ≤ a
    · refine br1 c12 ?_
      have d13 := le_z (x := 40) (y := (Int32.toInt a)) rfl rfl c12
      refine br1 (by decide) ?_
      have k14 : Int32.toInt (-1) = (-1) := (by decide)
      refine s_X11_settlez (-1) (rfs) (by decide) e_3 (fun r15 u16_0 u16_1 H17 => ?_)
      have j18 := H17.1
      have j19 := H17.2.1
      have j20 := H17.2.2
      refine un2_i ?_
      have hR21 : putR w a.toInt b.toInt d.toInt = (Int32.toInt r15) := by unfold putR; (repeat' split) <;> omega
      exact hq _ _ _ _ _ _ _ ⟨h_aRkf, h_aRhf, h_aRwf, ⟨by omega, by omega⟩, hR21.symm, (by unfold putW; rw [if_pos (by omega)]; exact e_0), (by unfold putW clr; rw [if_pos (by omega), if_pos (by omega)]; exact e_1), (by rw [hR21]; exact j19), (by rw [hR21]; exact j20)⟩
    · refine br0 c12 ?_
      have d22 := nle_z (x := 40) (y := (Int32.toInt a)) rfl rfl c12
      refine br0 (by decide) ?_
      refine o_X6_canBe _ _ _ ?_
      by_cases c23 : b = 0
      · refine br1 c23 ?_
        have d24 := eq_z (x := (Int32.toInt b)) (y := 0) rfl rfl c23
        by_cases c25 : d < 0
        · refine br1 c25 ?_
          have d26 := lt_z (x := (Int32.toInt d)) (y := 0) rfl rfl c25
          refine br1 (by decide) ?_
          have k27 : Int32.toInt (-1) = (-1) := (by decide)
          refine s_X11_settlez (-1) (rfs) (by decide) e_3 (fun r28 u29_0 u29_1 H30 => ?_)
          have j31 := H30.1
          have j32 := H30.2.1
          have j33 := H30.2.2
          refine un2_i ?_
          have hR34 : putR w a.toInt b.toInt d.toInt = (Int32.toInt r28) := by unfold putR; (repeat' split) <;> omega
          exact hq _ _ _ _ _ _ _ ⟨h_aRkf, h_aRhf, h_aRwf, ⟨by omega, by omega⟩, hR34.symm, (by unfold putW; rw [if_pos (by omega)]; exact e_0), (by unfold putW clr; rw [if_pos (by omega), if_pos (by omega)]; exact e_1), (by rw [hR34]; exact j32), (by rw [hR34]; exact j33)⟩
        · refine br0 c25 ?_
          have d35 := nlt_z (x := (Int32.toInt d)) (y := 0) rfl rfl c25
          by_cases c36 : 3 < d
          · refine br1 c36 ?_
            have d37 := lt_z (x := 3) (y := (Int32.toInt d)) rfl rfl c36
            refine br1 (by decide) ?_
            have k38 : Int32.toInt (-1) = (-1) := (by decide)
            refine s_X11_settlez (-1) (rfs) (by decide) e_3 (fun r39 u40_0 u40_1 H41 => ?_)
            have j42 := H41.1
            have j43 := H41.2.1
            have j44 := H41.2.2
            refine un2_i ?_
            have hR45 : putR w a.toInt b.toInt d.toInt = (Int32.toInt r39) := by unfold putR; (repeat' split) <;> omega
            exact hq _ _ _ _ _ _ _ ⟨h_aRkf, h_aRhf, h_aRwf, ⟨by omega, by omega⟩, hR45.symm, (by unfold putW; rw [if_pos (by omega)]; exact e_0), (by unfold putW clr; rw [if_pos (by omega), if_pos (by omega)]; exact e_1), (by rw [hR45]; exact j43), (by rw [hR45]; exact j44)⟩
          · refine br0 c36 ?_
            have d46 := nlt_z (x := 3) (y := (Int32.toInt d)) rfl rfl c36
            refine br0 (by decide) ?_
            refine jn_s ?_
            refine br1 (z_eq (x := (Int32.toInt b)) (y := 0) rfl rfl (by omega)) ?_
            refine s_X6_isDugz a aR_dug ⟨by omega, by omega⟩ (RXw.dg e_0) (fun r47 H48 => ?_)
            have j49 := H48.1
            have j50 := H48.2
            by_cases c51 : r47 = 0
            · refine br1 c51 ?_
              have d52 := eq_z (x := (Int32.toInt r47)) (y := 0) rfl rfl c51
              refine br1 (z_eq (x := (Int32.toInt b)) (y := 0) rfl rfl (by omega)) ?_
              refine ⟨vpi (x := (Int32.toInt a)) rfl (by omega) (by omega), ?_⟩
              refine ⟨vpi (x := (Int32.toInt a)) rfl (by omega) (by omega), ?_⟩
              refine o_X2_clear _ ?_
              have g53 : 0 ≤ (Int32.toInt (aRkf a.toNatClampNeg)) ∧ (Int32.toInt (aRkf a.toNatClampNeg)) ≤ 3 := KI.at_0 h_aRkf (tnz (x := (Int32.toInt a)) rfl (by omega)) (by omega) (by omega)
              have t54 : (Int32.toInt (aRkf a.toNatClampNeg)) = w (113 + ((Int32.toInt a)).toNat) := RkW.z l_kd (i := ((Int32.toInt a)).toNat) rfl (by omega)
              have t55 := i32_hi (aRkf a.toNatClampNeg)
              refine s_X11_settlez (aRkf a.toNatClampNeg) (rfs) ⟨by omega, by omega⟩ e_3 (fun r56 u57_0 u57_1 H58 => ?_)
              have j59 := H58.1
              have j60 := H58.2.1
              have j61 := H58.2.2
              refine un2_i ?_
              have R62 : KI (upd aRkf a.toNatClampNeg d) := KI.up_0 h_aRkf (tnz (x := (Int32.toInt a)) rfl (by omega)) (by omega) (by omega) (w := (Int32.toInt d)) rfl (by omega) (by omega)
              have k63 : Int32.toInt 0 = 0 := rfl
              have hR64 : putR w a.toInt b.toInt d.toInt = (Int32.toInt r56) := by unfold putR; (repeat' split) <;> omega
              exact hq _ _ _ _ _ _ _ ⟨R62, h_aRhf, h_aRwf, (by decide), hR64.symm, (by unfold putW; rw [if_neg (by omega)]; unfold putO; first | (rw [if_pos (by omega)]; exact RXw.u_kd e_0 rfl (by omega) rfl) | (rw [if_neg (by omega), if_pos (by omega)]; exact RXw.u_hd e_0 rfl (by omega) rfl) | (rw [if_neg (by omega), if_neg (by omega)]; exact RXw.u_wt e_0 rfl (by omega) rfl)), (by unfold clr; rw [if_neg (by omega)]; exact RXu.nil e_1 rfl), (by rw [hR64]; exact j60), (by rw [hR64]; exact j61)⟩
            · refine br0 c51 ?_
              have d65 := ne_z (x := (Int32.toInt r47)) (y := 0) rfl rfl c51
              have k66 : Int32.toInt (-3) = (-3) := (by decide)
              refine s_X11_settlez (-3) (rfs) (by decide) e_3 (fun r67 u68_0 u68_1 H69 => ?_)
              have j70 := H69.1
              have j71 := H69.2.1
              have j72 := H69.2.2
              refine un2_i ?_
              have hR73 : putR w a.toInt b.toInt d.toInt = (Int32.toInt r67) := by unfold putR; (repeat' split) <;> omega
              exact hq _ _ _ _ _ _ _ ⟨h_aRkf, h_aRhf, h_aRwf, ⟨by omega, by omega⟩, hR73.symm, (by unfold putW; rw [if_pos (by omega)]; exact e_0), (by unfold putW clr; rw [if_pos (by omega), if_pos (by omega)]; exact e_1), (by rw [hR73]; exact j71), (by rw [hR73]; exact j72)⟩
      · refine br0 c23 ?_
        have d74 := ne_z (x := (Int32.toInt b)) (y := 0) rfl rfl c23
        by_cases c75 : b = 1
        · refine br1 c75 ?_
          have d76 := eq_z (x := (Int32.toInt b)) (y := 1) rfl rfl c75
          by_cases c77 : d < 1
          · refine br1 c77 ?_
            have d78 := lt_z (x := (Int32.toInt d)) (y := 1) rfl rfl c77
            refine br1 (by decide) ?_
            have k79 : Int32.toInt (-1) = (-1) := (by decide)
            refine s_X11_settlez (-1) (rfs) (by decide) e_3 (fun r80 u81_0 u81_1 H82 => ?_)
            have j83 := H82.1
            have j84 := H82.2.1
            have j85 := H82.2.2
            refine un2_i ?_
            have hR86 : putR w a.toInt b.toInt d.toInt = (Int32.toInt r80) := by unfold putR; (repeat' split) <;> omega
            exact hq _ _ _ _ _ _ _ ⟨h_aRkf, h_aRhf, h_aRwf, ⟨by omega, by omega⟩, hR86.symm, (by unfold putW; rw [if_pos (by omega)]; exact e_0), (by unfold putW clr; rw [if_pos (by omega), if_pos (by omega)]; exact e_1), (by rw [hR86]; exact j84), (by rw [hR86]; exact j85)⟩
          · refine br0 c77 ?_
            have d87 := nlt_z (x := (Int32.toInt d)) (y := 1) rfl rfl c77
            by_cases c88 : 9 < d
            · refine br1 c88 ?_
              have d89 := lt_z (x := 9) (y := (Int32.toInt d)) rfl rfl c88
              refine br1 (by decide) ?_
              have k90 : Int32.toInt (-1) = (-1) := (by decide)
              refine s_X11_settlez (-1) (rfs) (by decide) e_3 (fun r91 u92_0 u92_1 H93 => ?_)
              have j94 := H93.1
              have j95 := H93.2.1
              have j96 := H93.2.2
              refine un2_i ?_
              have hR97 : putR w a.toInt b.toInt d.toInt = (Int32.toInt r91) := by unfold putR; (repeat' split) <;> omega
              exact hq _ _ _ _ _ _ _ ⟨h_aRkf, h_aRhf, h_aRwf, ⟨by omega, by omega⟩, hR97.symm, (by unfold putW; rw [if_pos (by omega)]; exact e_0), (by unfold putW clr; rw [if_pos (by omega), if_pos (by omega)]; exact e_1), (by rw [hR97]; exact j95), (by rw [hR97]; exact j96)⟩
            · refine br0 c88 ?_
              have d98 := nlt_z (x := 9) (y := (Int32.toInt d)) rfl rfl c88
              refine br0 (by decide) ?_
              refine jn_s ?_
              refine br0 (z_ne (x := (Int32.toInt b)) (y := 0) rfl rfl (by omega)) ?_
              refine br0 (z_ne (x := (Int32.toInt b)) (y := 0) rfl rfl (by omega)) ?_
              refine br1 (z_eq (x := (Int32.toInt b)) (y := 1) rfl rfl (by omega)) ?_
              refine ⟨vpi (x := (Int32.toInt a)) rfl (by omega) (by omega), ?_⟩
              refine ⟨vpi (x := (Int32.toInt a)) rfl (by omega) (by omega), ?_⟩
              refine o_X2_clear _ ?_
              have g99 : 1 ≤ (Int32.toInt (aRhf a.toNatClampNeg)) ∧ (Int32.toInt (aRhf a.toNatClampNeg)) ≤ 9 := HA.at_0 h_aRhf (tnz (x := (Int32.toInt a)) rfl (by omega)) (by omega) (by omega)
              have t100 : (Int32.toInt (aRhf a.toNatClampNeg)) = w (153 + ((Int32.toInt a)).toNat) := RkW.z l_hd (i := ((Int32.toInt a)).toNat) rfl (by omega)
              have t101 := i32_hi (aRhf a.toNatClampNeg)
              refine s_X11_settlez (aRhf a.toNatClampNeg) (rfs) ⟨by omega, by omega⟩ e_3 (fun r102 u103_0 u103_1 H104 => ?_)
              have j105 := H104.1
              have j106 := H104.2.1
              have j107 := H104.2.2
              refine un2_i ?_
              have R108 : HA (upd aRhf a.toNatClampNeg d) := HA.up_0 h_aRhf (tnz (x := (Int32.toInt a)) rfl (by omega)) (by omega) (by omega) (w := (Int32.toInt d)) rfl (by omega) (by omega)
              have k109 : Int32.toInt 0 = 0 := rfl
              have hR110 : putR w a.toInt b.toInt d.toInt = (Int32.toInt r102) := by unfold putR; (repeat' split) <;> omega
              exact hq _ _ _ _ _ _ _ ⟨h_aRkf, R108, h_aRwf, (by decide), hR110.symm, (by unfold putW; rw [if_neg (by omega)]; unfold putO; first | (rw [if_pos (by omega)]; exact RXw.u_kd e_0 rfl (by omega) rfl) | (rw [if_neg (by omega), if_pos (by omega)]; exact RXw.u_hd e_0 rfl (by omega) rfl) | (rw [if_neg (by omega), if_neg (by omega)]; exact RXw.u_wt e_0 rfl (by omega) rfl)), (by unfold clr; rw [if_neg (by omega)]; exact RXu.nil e_1 rfl), (by rw [hR110]; exact j106), (by rw [hR110]; exact j107)⟩
        · refine br0 c75 ?_
          have d111 := ne_z (x := (Int32.toInt b)) (y := 1) rfl rfl c75
          by_cases c112 : b = 2
          · refine br1 c112 ?_
            have d113 := eq_z (x := (Int32.toInt b)) (y := 2) rfl rfl c112
            by_cases c114 : d < 0
            · refine br1 c114 ?_
              have d115 := lt_z (x := (Int32.toInt d)) (y := 0) rfl rfl c114
              refine br1 (by decide) ?_
              have k116 : Int32.toInt (-1) = (-1) := (by decide)
              refine s_X11_settlez (-1) (rfs) (by decide) e_3 (fun r117 u118_0 u118_1 H119 => ?_)
              have j120 := H119.1
              have j121 := H119.2.1
              have j122 := H119.2.2
              refine un2_i ?_
              have hR123 : putR w a.toInt b.toInt d.toInt = (Int32.toInt r117) := by unfold putR; (repeat' split) <;> omega
              exact hq _ _ _ _ _ _ _ ⟨h_aRkf, h_aRhf, h_aRwf, ⟨by omega, by omega⟩, hR123.symm, (by unfold putW; rw [if_pos (by omega)]; exact e_0), (by unfold putW clr; rw [if_pos (by omega), if_pos (by omega)]; exact e_1), (by rw [hR123]; exact j121), (by rw [hR123]; exact j122)⟩
            · refine br0 c114 ?_
              have d124 := nlt_z (x := (Int32.toInt d)) (y := 0) rfl rfl c114
              by_cases c125 : 99 < d
              · refine br1 c125 ?_
                have d126 := lt_z (x := 99) (y := (Int32.toInt d)) rfl rfl c125
                refine br1 (by decide) ?_
                have k127 : Int32.toInt (-1) = (-1) := (by decide)
                refine s_X11_settlez (-1) (rfs) (by decide) e_3 (fun r128 u129_0 u129_1 H130 => ?_)
                have j131 := H130.1
                have j132 := H130.2.1
                have j133 := H130.2.2
                refine un2_i ?_
                have hR134 : putR w a.toInt b.toInt d.toInt = (Int32.toInt r128) := by unfold putR; (repeat' split) <;> omega
                exact hq _ _ _ _ _ _ _ ⟨h_aRkf, h_aRhf, h_aRwf, ⟨by omega, by omega⟩, hR134.symm, (by unfold putW; rw [if_pos (by omega)]; exact e_0), (by unfold putW clr; rw [if_pos (by omega), if_pos (by omega)]; exact e_1), (by rw [hR134]; exact j132), (by rw [hR134]; exact j133)⟩
              · refine br0 c125 ?_
                have d135 := nlt_z (x := 99) (y := (Int32.toInt d)) rfl rfl c125
                refine br0 (by decide) ?_
                refine jn_s ?_
                refine br0 (z_ne (x := (Int32.toInt b)) (y := 0) rfl rfl (by omega)) ?_
                refine br0 (z_ne (x := (Int32.toInt b)) (y := 0) rfl rfl (by omega)) ?_
                refine br0 (z_ne (x := (Int32.toInt b)) (y := 1) rfl rfl (by omega)) ?_
                refine ⟨vpi (x := (Int32.toInt a)) rfl (by omega) (by omega), ?_⟩
                refine ⟨vpi (x := (Int32.toInt a)) rfl (by omega) (by omega), ?_⟩
                refine o_X2_clear _ ?_
                have g136 : 0 ≤ (Int32.toInt (aRwf a.toNatClampNeg)) ∧ (Int32.toInt (aRwf a.toNatClampNeg)) ≤ 99 := WA.at_0 h_aRwf (tnz (x := (Int32.toInt a)) rfl (by omega)) (by omega) (by omega)
                have t137 : (Int32.toInt (aRwf a.toNatClampNeg)) = w (73 + ((Int32.toInt a)).toNat) := RkW.z l_wt (i := ((Int32.toInt a)).toNat) rfl (by omega)
                have t138 := i32_hi (aRwf a.toNatClampNeg)
                refine s_X11_settlez (aRwf a.toNatClampNeg) (rfs) ⟨by omega, by omega⟩ e_3 (fun r139 u140_0 u140_1 H141 => ?_)
                have j142 := H141.1
                have j143 := H141.2.1
                have j144 := H141.2.2
                refine un2_i ?_
                have R145 : WA (upd aRwf a.toNatClampNeg d) := WA.up_0 h_aRwf (tnz (x := (Int32.toInt a)) rfl (by omega)) (by omega) (by omega) (w := (Int32.toInt d)) rfl (by omega) (by omega)
                have k146 : Int32.toInt 0 = 0 := rfl
                have hR147 : putR w a.toInt b.toInt d.toInt = (Int32.toInt r139) := by unfold putR; (repeat' split) <;> omega
                exact hq _ _ _ _ _ _ _ ⟨h_aRkf, h_aRhf, R145, (by decide), hR147.symm, (by unfold putW; rw [if_neg (by omega)]; unfold putO; first | (rw [if_pos (by omega)]; exact RXw.u_kd e_0 rfl (by omega) rfl) | (rw [if_neg (by omega), if_pos (by omega)]; exact RXw.u_hd e_0 rfl (by omega) rfl) | (rw [if_neg (by omega), if_neg (by omega)]; exact RXw.u_wt e_0 rfl (by omega) rfl)), (by unfold clr; rw [if_neg (by omega)]; exact RXu.nil e_1 rfl), (by rw [hR147]; exact j143), (by rw [hR147]; exact j144)⟩
          · refine br0 c112 ?_
            have d148 := ne_z (x := (Int32.toInt b)) (y := 2) rfl rfl c112
            refine br1 (by decide) ?_
            have k149 : Int32.toInt (-1) = (-1) := (by decide)
            refine s_X11_settlez (-1) (rfs) (by decide) e_3 (fun r150 u151_0 u151_1 H152 => ?_)
            have j153 := H152.1
            have j154 := H152.2.1
            have j155 := H152.2.2
            refine un2_i ?_
            have hR156 : putR w a.toInt b.toInt d.toInt = (Int32.toInt r150) := by unfold putR; (repeat' split) <;> omega
            exact hq _ _ _ _ _ _ _ ⟨h_aRkf, h_aRhf, h_aRwf, ⟨by omega, by omega⟩, hR156.symm, (by unfold putW; rw [if_pos (by omega)]; exact e_0), (by unfold putW clr; rw [if_pos (by omega), if_pos (by omega)]; exact e_1), (by rw [hR156]; exact j154), (by rw [hR156]; exact j155)⟩


set_option maxRecDepth 100000 in
theorem s_X11_sinkz (a : Int32) (rfs : Nat → Int32) (aR_dug : Int64) (aRkf : Nat → Int32) (aC_count : Int32) (aCcf : Nat → Int32) (aCbf : Nat → Int32) (aD_kept : Int32) {w : Nat → Int} {U : UL} {rf : Nat → Int32} {g_hd : Nat → Int32} {g_wt : Nat → Int32} {g_co : Nat → Int32} {g_ea : Nat → Int32} {g_ls : Int32} {g_nc : Nat → Int32} {g_nl : Nat → Int32} {g_ns : Int32} {g_hu : Int32} {g_hc : Nat → Int32} {g_hl : Nat → Int32} {g_hs : Int32} {g_so : Nat → Int32} {g_we : Nat → Int32} {g_wl : Int32} {g_te : Nat → Int32} {g_lc : Int32} {g_fo : Int32} {gd_deed : Nat → Int32} {gd_whose : Nat → Int32} {gd_before : Nat → Int32} {gd_bucketsBefore : Nat → Int32} {gd_dayBefore : Nat → Int32} {gd_latest : Int32} (h_aRkf : KI aRkf) (h_aC_count : 0 ≤ aC_count.toInt ∧ aC_count.toInt ≤ 6) (h_aCcf : CE aCcf) (h_aCbf : BU aCbf) (h_aD_kept : 0 ≤ aD_kept.toInt ∧ aD_kept.toInt ≤ 16) (e_0 : RXw aRkf g_hd g_wt aR_dug aCcf aCbf aC_count g_co g_ea g_ls g_nc g_nl g_ns g_hu g_hc g_hl g_hs g_so g_we g_wl g_te g_lc g_fo w) (e_1 : RXu gd_deed gd_whose gd_before gd_bucketsBefore gd_dayBefore aD_kept gd_latest w U) (e_2 : DI gd_deed gd_whose gd_before gd_bucketsBefore gd_dayBefore) (e_3 : RF rfs rf) {Q : Int32 → (Int32 × (Nat → Int32) × Int64 × Int32 × (Nat → Int32) × (Nat → Int32) × Int32) → Prop} (hq : ∀ (r : Int32) (u_0 : Int32) (u_1 : Nat → Int32) (u_2 : Int64) (u_3 : Int32) (u_4 : Nat → Int32) (u_5 : Nat → Int32) (u_6 : Int32), (0 ≤ u_3.toInt ∧ u_3.toInt ≤ 6) ∧ (CE u_4) ∧ (BU u_5) ∧ (0 ≤ u_6.toInt ∧ u_6.toInt ≤ 16) ∧ (r.toInt = sinkR w a.toInt) ∧ (RXw aRkf g_hd g_wt u_2 u_4 u_5 u_3 g_co g_ea g_ls g_nc g_nl g_ns g_hu g_hc g_hl g_hs g_so g_we g_wl g_te g_lc g_fo (sinkW w a.toInt)) ∧ (RXu gd_deed gd_whose gd_before gd_bucketsBefore gd_dayBefore u_6 gd_latest (sinkW w a.toInt) (clr (sinkR w a.toInt) U)) ∧ (u_0.toInt = tlS (sinkR w a.toInt)) ∧ (RF u_1 (tlR rf (sinkR w a.toInt))) → Q r (u_0, u_1, u_2, u_3, u_4, u_5, u_6)) : wp_X11_sink a rfs aR_dug aRkf aC_count aCcf aCbf aD_kept Q := by
  unfold wp_X11_sink
  have l_kd := RXw.kd e_0
  have l_ce := RXw.ce e_0
  have l_bu := RXw.bu e_0
  have l_cc : aC_count.toInt = w 0 := RXw.cc e_0
  refine o_X11_isWithin _ _ _ ?_
  by_cases c1 : a < 0
  · refine br1 c1 ?_
    have d2 := lt_z (x := (Int32.toInt a)) (y := 0) rfl rfl c1
    refine br1 (by decide) ?_
    have k3 : Int32.toInt (-1) = (-1) := (by decide)
    refine s_X11_settlez (-1) (rfs) (by decide) e_3 (fun r4 u5_0 u5_1 H6 => ?_)
    have j7 := H6.1
    have j8 := H6.2.1
    have j9 := H6.2.2
    refine un2_i ?_
    have hR10 : sinkR w a.toInt = (Int32.toInt r4) := by unfold sinkR; (repeat' split) <;> omega
    exact hq _ _ _ _ _ _ _ _ ⟨⟨by omega, by omega⟩, h_aCcf, h_aCbf, ⟨by omega, by omega⟩, hR10.symm, (by unfold sinkW; rw [if_pos (by omega)]; exact e_0), (by unfold sinkW clr; rw [if_pos (by omega), if_pos (by omega)]; exact e_1), (by rw [hR10]; exact j8), (by rw [hR10]; exact j9)⟩
  · refine br0 c1 ?_
    have d11 := nlt_z (x := (Int32.toInt a)) (y := 0) rfl rfl c1
    by_cases c12 : 8 ≤ a
    · refine br1 c12 ?_
      have d13 := le_z (x := 8) (y := (Int32.toInt a)) rfl rfl c12
      refine br1 (by decide) ?_
      have k14 : Int32.toInt (-1) = (-1) := (by decide)
      refine s_X11_settlez (-1) (rfs) (by decide) e_3 (fun r15 u16_0 u16_1 H17 => ?_)
      have j18 := H17.1
      have j19 := H17.2.1
      have j20 := H17.2.2
      refine un2_i ?_
      have hR21 : sinkR w a.toInt = (Int32.toInt r15) := by unfold sinkR; (repeat' split) <;> omega
      exact hq _ _ _ _ _ _ _ _ ⟨⟨by omega, by omega⟩, h_aCcf, h_aCbf, ⟨by omega, by omega⟩, hR21.symm, (by unfold sinkW; rw [if_pos (by omega)]; exact e_0), (by unfold sinkW clr; rw [if_pos (by omega), if_pos (by omega)]; exact e_1), (by rw [hR21]; exact j19), (by rw [hR21]; exact j20)⟩
    · refine br0 c12 ?_
      have d22 := nle_z (x := 8) (y := (Int32.toInt a)) rfl rfl c12
      refine br0 (by decide) ?_
      refine s_X6_isDugz a aR_dug ⟨by omega, by omega⟩ (RXw.dg e_0) (fun r23 H24 => ?_)
      have j25 := H24.1
      have j26 := H24.2
      by_cases c27 : r23 = 0
      · refine br1 c27 ?_
        have d28 := eq_z (x := (Int32.toInt r23)) (y := 0) rfl rfl c27
        refine ⟨vpi (x := (Int32.toInt a)) rfl (by omega) (by omega), ?_⟩
        by_cases c29 : (aRkf a.toNatClampNeg) = 1
        · refine br1 c29 ?_
          have g30 : 0 ≤ (Int32.toInt (aRkf a.toNatClampNeg)) ∧ (Int32.toInt (aRkf a.toNatClampNeg)) ≤ 3 := KI.at_0 h_aRkf (tnz (x := (Int32.toInt a)) rfl (by omega)) (by omega) (by omega)
          have t31 : (Int32.toInt (aRkf a.toNatClampNeg)) = w (113 + ((Int32.toInt a)).toNat) := RkW.z l_kd (i := ((Int32.toInt a)).toNat) rfl (by omega)
          have d32 := eq_z (x := (Int32.toInt (aRkf a.toNatClampNeg))) (y := 1) rfl rfl c29
          have k33 : Int32.toInt (-3) = (-3) := (by decide)
          refine s_X11_settlez (-3) (rfs) (by decide) e_3 (fun r34 u35_0 u35_1 H36 => ?_)
          have j37 := H36.1
          have j38 := H36.2.1
          have j39 := H36.2.2
          refine un2_i ?_
          have hR40 : sinkR w a.toInt = (Int32.toInt r34) := by unfold sinkR; (repeat' split) <;> omega
          exact hq _ _ _ _ _ _ _ _ ⟨⟨by omega, by omega⟩, h_aCcf, h_aCbf, ⟨by omega, by omega⟩, hR40.symm, (by unfold sinkW; rw [if_pos (by omega)]; exact e_0), (by unfold sinkW clr; rw [if_pos (by omega), if_pos (by omega)]; exact e_1), (by rw [hR40]; exact j38), (by rw [hR40]; exact j39)⟩
        · refine br0 c29 ?_
          have g41 : 0 ≤ (Int32.toInt (aRkf a.toNatClampNeg)) ∧ (Int32.toInt (aRkf a.toNatClampNeg)) ≤ 3 := KI.at_0 h_aRkf (tnz (x := (Int32.toInt a)) rfl (by omega)) (by omega) (by omega)
          have t42 : (Int32.toInt (aRkf a.toNatClampNeg)) = w (113 + ((Int32.toInt a)).toNat) := RkW.z l_kd (i := ((Int32.toInt a)).toNat) rfl (by omega)
          have d43 := ne_z (x := (Int32.toInt (aRkf a.toNatClampNeg))) (y := 1) rfl rfl c29
          by_cases c44 : aC_count < 6
          · refine br1 c44 ?_
            have d45 := lt_z (x := (Int32.toInt aC_count)) (y := 6) rfl rfl c44
            refine o_X6_mark _ _ _ ?_
            refine o_X1_add _ _ _ _ _ ?_
            refine br0 (z_nle (x := 6) (y := (Int32.toInt aC_count)) rfl rfl (by omega)) ?_
            refine ⟨vpi (x := (Int32.toInt aC_count)) rfl (by omega) (by omega), ?_⟩
            refine ⟨vpi (x := (Int32.toInt aC_count)) rfl (by omega) (by omega), ?_⟩
            refine un3_i ?_
            refine o_X2_clear _ ?_
            have t46 : (Int32.toInt (aC_count + 1)) = (Int32.toInt aC_count) + 1 := add_z rfl rfl (by omega) (by omega)
            have t47 : (Int32.toInt ((aC_count + 1) - 1)) = (Int32.toInt (aC_count + 1)) - 1 := sub_z rfl rfl (by omega) (by omega)
            have t48 := i32_hi ((aC_count + 1) - 1)
            refine s_X11_settlez ((aC_count + 1) - 1) (rfs) ⟨by omega, by omega⟩ e_3 (fun r49 u50_0 u50_1 H51 => ?_)
            have j52 := H51.1
            have j53 := H51.2.1
            have j54 := H51.2.2
            refine un2_i ?_
            have R55 : CE (upd aCcf aC_count.toNatClampNeg a) := CE.up_0 h_aCcf (tnz (x := (Int32.toInt aC_count)) rfl (by omega)) (by omega) (by omega) (w := (Int32.toInt a)) rfl (by omega) (by omega)
            have R56 : BU (upd aCbf aC_count.toNatClampNeg 0) := BU.up_0 h_aCbf (tnz (x := (Int32.toInt aC_count)) rfl (by omega)) (by omega) (by omega) (w := 0) rfl (by omega) (by omega)
            have k57 : Int32.toInt 0 = 0 := rfl
            have hR58 : sinkR w a.toInt = (Int32.toInt r49) := by unfold sinkR; (repeat' split) <;> omega
            exact hq _ _ _ _ _ _ _ _ ⟨⟨by omega, by omega⟩, R55, R56, (by decide), hR58.symm, (by unfold sinkW; rw [if_neg (by omega)]; unfold sinkO; exact (RXw.u_cc (RXw.u_dgm (RXw.u_bu (RXw.u_ce e_0 (show Int.toNat _ = Int.toNat _ by omega) (by omega) rfl) (show Int.toNat _ = Int.toNat _ by omega) (by omega) rfl) (by omega) (by omega)) (by omega))), (by unfold clr; rw [if_neg (by omega)]; exact RXu.nil e_1 rfl), (by rw [hR58]; exact j53), (by rw [hR58]; exact j54)⟩
          · refine br0 c44 ?_
            have d59 := nlt_z (x := (Int32.toInt aC_count)) (y := 6) rfl rfl c44
            have k60 : Int32.toInt (-5) = (-5) := (by decide)
            refine s_X11_settlez (-5) (rfs) (by decide) e_3 (fun r61 u62_0 u62_1 H63 => ?_)
            have j64 := H63.1
            have j65 := H63.2.1
            have j66 := H63.2.2
            refine un2_i ?_
            have hR67 : sinkR w a.toInt = (Int32.toInt r61) := by unfold sinkR; (repeat' split) <;> omega
            exact hq _ _ _ _ _ _ _ _ ⟨⟨by omega, by omega⟩, h_aCcf, h_aCbf, ⟨by omega, by omega⟩, hR67.symm, (by unfold sinkW; rw [if_pos (by omega)]; exact e_0), (by unfold sinkW clr; rw [if_pos (by omega), if_pos (by omega)]; exact e_1), (by rw [hR67]; exact j65), (by rw [hR67]; exact j66)⟩
      · refine br0 c27 ?_
        have d68 := ne_z (x := (Int32.toInt r23)) (y := 0) rfl rfl c27
        have k69 : Int32.toInt (-3) = (-3) := (by decide)
        refine s_X11_settlez (-3) (rfs) (by decide) e_3 (fun r70 u71_0 u71_1 H72 => ?_)
        have j73 := H72.1
        have j74 := H72.2.1
        have j75 := H72.2.2
        refine un2_i ?_
        have hR76 : sinkR w a.toInt = (Int32.toInt r70) := by unfold sinkR; (repeat' split) <;> omega
        exact hq _ _ _ _ _ _ _ _ ⟨⟨by omega, by omega⟩, h_aCcf, h_aCbf, ⟨by omega, by omega⟩, hR76.symm, (by unfold sinkW; rw [if_pos (by omega)]; exact e_0), (by unfold sinkW clr; rw [if_pos (by omega), if_pos (by omega)]; exact e_1), (by rw [hR76]; exact j74), (by rw [hR76]; exact j75)⟩


set_option maxRecDepth 100000 in
theorem s_X11_listenerz (a : Int32) (b : Int32) (f_h0_refusals : Nat → Int32) (h0_site_world_folk_listeners : Int32) (f_h0_site_world_folk_column : Nat → Int32) (f_h0_site_world_folk_ear : Nat → Int32) (h0_site_diary_kept : Int32) {w : Nat → Int} {U : UL} {rf : Nat → Int32} {g_kd : Nat → Int32} {g_hd : Nat → Int32} {g_wt : Nat → Int32} {g_dg : Int64} {g_ce : Nat → Int32} {g_bu : Nat → Int32} {g_cc : Int32} {g_nc : Nat → Int32} {g_nl : Nat → Int32} {g_ns : Int32} {g_hu : Int32} {g_hc : Nat → Int32} {g_hl : Nat → Int32} {g_hs : Int32} {g_so : Nat → Int32} {g_we : Nat → Int32} {g_wl : Int32} {g_te : Nat → Int32} {g_lc : Int32} {g_fo : Int32} {gd_deed : Nat → Int32} {gd_whose : Nat → Int32} {gd_before : Nat → Int32} {gd_bucketsBefore : Nat → Int32} {gd_dayBefore : Nat → Int32} {gd_latest : Int32} (h_h0_site_world_folk_listeners : 0 ≤ h0_site_world_folk_listeners.toInt ∧ h0_site_world_folk_listeners.toInt ≤ 5) (h_f_h0_site_world_folk_column : CO f_h0_site_world_folk_column) (h_f_h0_site_world_folk_ear : EA f_h0_site_world_folk_ear) (h_h0_site_diary_kept : 0 ≤ h0_site_diary_kept.toInt ∧ h0_site_diary_kept.toInt ≤ 16) (e_0 : RXw g_kd g_hd g_wt g_dg g_ce g_bu g_cc f_h0_site_world_folk_column f_h0_site_world_folk_ear h0_site_world_folk_listeners g_nc g_nl g_ns g_hu g_hc g_hl g_hs g_so g_we g_wl g_te g_lc g_fo w) (e_1 : RXu gd_deed gd_whose gd_before gd_bucketsBefore gd_dayBefore h0_site_diary_kept gd_latest w U) (e_2 : DI gd_deed gd_whose gd_before gd_bucketsBefore gd_dayBefore) (e_3 : RF f_h0_refusals rf) {Q : Int32 → (Int32 × (Nat → Int32) × Int32 × (Nat → Int32) × (Nat → Int32) × Int32) → Prop} (hq : ∀ (r : Int32) (u_0 : Int32) (u_1 : Nat → Int32) (u_2 : Int32) (u_3 : Nat → Int32) (u_4 : Nat → Int32) (u_5 : Int32), (0 ≤ u_2.toInt ∧ u_2.toInt ≤ 5) ∧ (CO u_3) ∧ (EA u_4) ∧ (0 ≤ u_5.toInt ∧ u_5.toInt ≤ 16) ∧ (r.toInt = listenerR w a.toInt b.toInt) ∧ (RXw g_kd g_hd g_wt g_dg g_ce g_bu g_cc u_3 u_4 u_2 g_nc g_nl g_ns g_hu g_hc g_hl g_hs g_so g_we g_wl g_te g_lc g_fo (listenerW w a.toInt b.toInt)) ∧ (RXu gd_deed gd_whose gd_before gd_bucketsBefore gd_dayBefore u_5 gd_latest (listenerW w a.toInt b.toInt) (clr (listenerR w a.toInt b.toInt) U)) ∧ (u_0.toInt = tlS (listenerR w a.toInt b.toInt)) ∧ (RF u_1 (tlR rf (listenerR w a.toInt b.toInt))) → Q r (u_0, u_1, u_2, u_3, u_4, u_5)) : wp_X11_listener a b f_h0_refusals h0_site_world_folk_listeners f_h0_site_world_folk_column f_h0_site_world_folk_ear h0_site_diary_kept Q := by
  unfold wp_X11_listener
  have l_co := RXw.co e_0
  have l_ea := RXw.ea e_0
  have l_ls : h0_site_world_folk_listeners.toInt = w 1 := RXw.ls e_0
  refine o_X11_isWithin _ _ _ ?_
  by_cases c1 : a < 0
  · refine br1 c1 ?_
    have d2 := lt_z (x := (Int32.toInt a)) (y := 0) rfl rfl c1
    refine br1 (by decide) ?_
    have k3 : Int32.toInt (-1) = (-1) := (by decide)
    refine s_X11_settlez (-1) (f_h0_refusals) (by decide) e_3 (fun r4 u5_0 u5_1 H6 => ?_)
    have j7 := H6.1
    have j8 := H6.2.1
    have j9 := H6.2.2
    refine un2_i ?_
    have hR10 : listenerR w a.toInt b.toInt = (Int32.toInt r4) := by unfold listenerR; (repeat' split) <;> omega
    exact hq _ _ _ _ _ _ _ ⟨⟨by omega, by omega⟩, h_f_h0_site_world_folk_column, h_f_h0_site_world_folk_ear, ⟨by omega, by omega⟩, hR10.symm, (by unfold listenerW; rw [if_pos (by omega)]; exact e_0), (by unfold listenerW clr; rw [if_pos (by omega), if_pos (by omega)]; exact e_1), (by rw [hR10]; exact j8), (by rw [hR10]; exact j9)⟩
  · refine br0 c1 ?_
    have d11 := nlt_z (x := (Int32.toInt a)) (y := 0) rfl rfl c1
    by_cases c12 : 8 ≤ a
    · refine br1 c12 ?_
      have d13 := le_z (x := 8) (y := (Int32.toInt a)) rfl rfl c12
      refine br1 (by decide) ?_
      have k14 : Int32.toInt (-1) = (-1) := (by decide)
      refine s_X11_settlez (-1) (f_h0_refusals) (by decide) e_3 (fun r15 u16_0 u16_1 H17 => ?_)
      have j18 := H17.1
      have j19 := H17.2.1
      have j20 := H17.2.2
      refine un2_i ?_
      have hR21 : listenerR w a.toInt b.toInt = (Int32.toInt r15) := by unfold listenerR; (repeat' split) <;> omega
      exact hq _ _ _ _ _ _ _ ⟨⟨by omega, by omega⟩, h_f_h0_site_world_folk_column, h_f_h0_site_world_folk_ear, ⟨by omega, by omega⟩, hR21.symm, (by unfold listenerW; rw [if_pos (by omega)]; exact e_0), (by unfold listenerW clr; rw [if_pos (by omega), if_pos (by omega)]; exact e_1), (by rw [hR21]; exact j19), (by rw [hR21]; exact j20)⟩
    · refine br0 c12 ?_
      have d22 := nle_z (x := 8) (y := (Int32.toInt a)) rfl rfl c12
      refine br0 (by decide) ?_
      refine o_X11_isWithin _ _ _ ?_
      by_cases c23 : b < 0
      · refine br1 c23 ?_
        have d24 := lt_z (x := (Int32.toInt b)) (y := 0) rfl rfl c23
        refine br1 (by decide) ?_
        have k25 : Int32.toInt (-1) = (-1) := (by decide)
        refine s_X11_settlez (-1) (f_h0_refusals) (by decide) e_3 (fun r26 u27_0 u27_1 H28 => ?_)
        have j29 := H28.1
        have j30 := H28.2.1
        have j31 := H28.2.2
        refine un2_i ?_
        have hR32 : listenerR w a.toInt b.toInt = (Int32.toInt r26) := by unfold listenerR; (repeat' split) <;> omega
        exact hq _ _ _ _ _ _ _ ⟨⟨by omega, by omega⟩, h_f_h0_site_world_folk_column, h_f_h0_site_world_folk_ear, ⟨by omega, by omega⟩, hR32.symm, (by unfold listenerW; rw [if_pos (by omega)]; exact e_0), (by unfold listenerW clr; rw [if_pos (by omega), if_pos (by omega)]; exact e_1), (by rw [hR32]; exact j30), (by rw [hR32]; exact j31)⟩
      · refine br0 c23 ?_
        have d33 := nlt_z (x := (Int32.toInt b)) (y := 0) rfl rfl c23
        by_cases c34 : 21 ≤ b
        · refine br1 c34 ?_
          have d35 := le_z (x := 21) (y := (Int32.toInt b)) rfl rfl c34
          refine br1 (by decide) ?_
          have k36 : Int32.toInt (-1) = (-1) := (by decide)
          refine s_X11_settlez (-1) (f_h0_refusals) (by decide) e_3 (fun r37 u38_0 u38_1 H39 => ?_)
          have j40 := H39.1
          have j41 := H39.2.1
          have j42 := H39.2.2
          refine un2_i ?_
          have hR43 : listenerR w a.toInt b.toInt = (Int32.toInt r37) := by unfold listenerR; (repeat' split) <;> omega
          exact hq _ _ _ _ _ _ _ ⟨⟨by omega, by omega⟩, h_f_h0_site_world_folk_column, h_f_h0_site_world_folk_ear, ⟨by omega, by omega⟩, hR43.symm, (by unfold listenerW; rw [if_pos (by omega)]; exact e_0), (by unfold listenerW clr; rw [if_pos (by omega), if_pos (by omega)]; exact e_1), (by rw [hR43]; exact j41), (by rw [hR43]; exact j42)⟩
        · refine br0 c34 ?_
          have d44 := nle_z (x := 21) (y := (Int32.toInt b)) rfl rfl c34
          refine br0 (by decide) ?_
          by_cases c45 : h0_site_world_folk_listeners < 5
          · refine br1 c45 ?_
            have d46 := lt_z (x := (Int32.toInt h0_site_world_folk_listeners)) (y := 5) rfl rfl c45
            refine o_X4_addListener _ _ _ _ _ _ ?_
            refine br0 (z_nle (x := 5) (y := (Int32.toInt h0_site_world_folk_listeners)) rfl rfl (by omega)) ?_
            refine ⟨vpi (x := (Int32.toInt h0_site_world_folk_listeners)) rfl (by omega) (by omega), ?_⟩
            refine ⟨vpi (x := (Int32.toInt h0_site_world_folk_listeners)) rfl (by omega) (by omega), ?_⟩
            refine un3_i ?_
            refine o_X2_clear _ ?_
            have t47 : (Int32.toInt (h0_site_world_folk_listeners + 1)) = (Int32.toInt h0_site_world_folk_listeners) + 1 := add_z rfl rfl (by omega) (by omega)
            have t48 : (Int32.toInt ((h0_site_world_folk_listeners + 1) - 1)) = (Int32.toInt (h0_site_world_folk_listeners + 1)) - 1 := sub_z rfl rfl (by omega) (by omega)
            have t49 := i32_hi ((h0_site_world_folk_listeners + 1) - 1)
            refine s_X11_settlez ((h0_site_world_folk_listeners + 1) - 1) (f_h0_refusals) ⟨by omega, by omega⟩ e_3 (fun r50 u51_0 u51_1 H52 => ?_)
            have j53 := H52.1
            have j54 := H52.2.1
            have j55 := H52.2.2
            refine un2_i ?_
            have R56 : CO (upd f_h0_site_world_folk_column h0_site_world_folk_listeners.toNatClampNeg a) := CO.up_0 h_f_h0_site_world_folk_column (tnz (x := (Int32.toInt h0_site_world_folk_listeners)) rfl (by omega)) (by omega) (by omega) (w := (Int32.toInt a)) rfl (by omega) (by omega)
            have R57 : EA (upd f_h0_site_world_folk_ear h0_site_world_folk_listeners.toNatClampNeg b) := EA.up_0 h_f_h0_site_world_folk_ear (tnz (x := (Int32.toInt h0_site_world_folk_listeners)) rfl (by omega)) (by omega) (by omega) (w := (Int32.toInt b)) rfl (by omega) (by omega)
            have k58 : Int32.toInt 0 = 0 := rfl
            have hR59 : listenerR w a.toInt b.toInt = (Int32.toInt r50) := by unfold listenerR; (repeat' split) <;> omega
            exact hq _ _ _ _ _ _ _ ⟨⟨by omega, by omega⟩, R56, R57, (by decide), hR59.symm, (by unfold listenerW; rw [if_neg (by omega)]; unfold listenerO; exact (RXw.u_ls (RXw.u_ea (RXw.u_co e_0 (show Int.toNat _ = Int.toNat _ by omega) (by omega) rfl) (show Int.toNat _ = Int.toNat _ by omega) (by omega) rfl) (by omega))), (by unfold clr; rw [if_neg (by omega)]; exact RXu.nil e_1 rfl), (by rw [hR59]; exact j54), (by rw [hR59]; exact j55)⟩
          · refine br0 c45 ?_
            have d60 := nlt_z (x := (Int32.toInt h0_site_world_folk_listeners)) (y := 5) rfl rfl c45
            have k61 : Int32.toInt (-5) = (-5) := (by decide)
            refine s_X11_settlez (-5) (f_h0_refusals) (by decide) e_3 (fun r62 u63_0 u63_1 H64 => ?_)
            have j65 := H64.1
            have j66 := H64.2.1
            have j67 := H64.2.2
            refine un2_i ?_
            have hR68 : listenerR w a.toInt b.toInt = (Int32.toInt r62) := by unfold listenerR; (repeat' split) <;> omega
            exact hq _ _ _ _ _ _ _ ⟨⟨by omega, by omega⟩, h_f_h0_site_world_folk_column, h_f_h0_site_world_folk_ear, ⟨by omega, by omega⟩, hR68.symm, (by unfold listenerW; rw [if_pos (by omega)]; exact e_0), (by unfold listenerW clr; rw [if_pos (by omega), if_pos (by omega)]; exact e_1), (by rw [hR68]; exact j66), (by rw [hR68]; exact j67)⟩


set_option maxRecDepth 100000 in
theorem s_X11_noisez (a : Int32) (b : Int32) (f_h0_refusals : Nat → Int32) (h0_site_world_folk_noises : Int32) (f_h0_site_world_folk_noiseColumn : Nat → Int32) (f_h0_site_world_folk_noiseLoud : Nat → Int32) (h0_site_diary_kept : Int32) {w : Nat → Int} {U : UL} {rf : Nat → Int32} {g_kd : Nat → Int32} {g_hd : Nat → Int32} {g_wt : Nat → Int32} {g_dg : Int64} {g_ce : Nat → Int32} {g_bu : Nat → Int32} {g_cc : Int32} {g_co : Nat → Int32} {g_ea : Nat → Int32} {g_ls : Int32} {g_hu : Int32} {g_hc : Nat → Int32} {g_hl : Nat → Int32} {g_hs : Int32} {g_so : Nat → Int32} {g_we : Nat → Int32} {g_wl : Int32} {g_te : Nat → Int32} {g_lc : Int32} {g_fo : Int32} {gd_deed : Nat → Int32} {gd_whose : Nat → Int32} {gd_before : Nat → Int32} {gd_bucketsBefore : Nat → Int32} {gd_dayBefore : Nat → Int32} {gd_latest : Int32} (h_h0_site_world_folk_noises : 0 ≤ h0_site_world_folk_noises.toInt ∧ h0_site_world_folk_noises.toInt ≤ 6) (h_f_h0_site_world_folk_noiseColumn : NC f_h0_site_world_folk_noiseColumn) (h_f_h0_site_world_folk_noiseLoud : NL f_h0_site_world_folk_noiseLoud) (h_h0_site_diary_kept : 0 ≤ h0_site_diary_kept.toInt ∧ h0_site_diary_kept.toInt ≤ 16) (e_0 : RXw g_kd g_hd g_wt g_dg g_ce g_bu g_cc g_co g_ea g_ls f_h0_site_world_folk_noiseColumn f_h0_site_world_folk_noiseLoud h0_site_world_folk_noises g_hu g_hc g_hl g_hs g_so g_we g_wl g_te g_lc g_fo w) (e_1 : RXu gd_deed gd_whose gd_before gd_bucketsBefore gd_dayBefore h0_site_diary_kept gd_latest w U) (e_2 : DI gd_deed gd_whose gd_before gd_bucketsBefore gd_dayBefore) (e_3 : RF f_h0_refusals rf) {Q : Int32 → (Int32 × (Nat → Int32) × Int32 × (Nat → Int32) × (Nat → Int32) × Int32) → Prop} (hq : ∀ (r : Int32) (u_0 : Int32) (u_1 : Nat → Int32) (u_2 : Int32) (u_3 : Nat → Int32) (u_4 : Nat → Int32) (u_5 : Int32), (0 ≤ u_2.toInt ∧ u_2.toInt ≤ 6) ∧ (NC u_3) ∧ (NL u_4) ∧ (0 ≤ u_5.toInt ∧ u_5.toInt ≤ 16) ∧ (r.toInt = noiseR w a.toInt b.toInt) ∧ (RXw g_kd g_hd g_wt g_dg g_ce g_bu g_cc g_co g_ea g_ls u_3 u_4 u_2 g_hu g_hc g_hl g_hs g_so g_we g_wl g_te g_lc g_fo (noiseW w a.toInt b.toInt)) ∧ (RXu gd_deed gd_whose gd_before gd_bucketsBefore gd_dayBefore u_5 gd_latest (noiseW w a.toInt b.toInt) (clr (noiseR w a.toInt b.toInt) U)) ∧ (u_0.toInt = tlS (noiseR w a.toInt b.toInt)) ∧ (RF u_1 (tlR rf (noiseR w a.toInt b.toInt))) → Q r (u_0, u_1, u_2, u_3, u_4, u_5)) : wp_X11_noise a b f_h0_refusals h0_site_world_folk_noises f_h0_site_world_folk_noiseColumn f_h0_site_world_folk_noiseLoud h0_site_diary_kept Q := by
  unfold wp_X11_noise
  have l_nc := RXw.nc e_0
  have l_nl := RXw.nl e_0
  have l_ns : h0_site_world_folk_noises.toInt = w 2 := RXw.ns e_0
  refine o_X11_isWithin _ _ _ ?_
  by_cases c1 : a < 0
  · refine br1 c1 ?_
    have d2 := lt_z (x := (Int32.toInt a)) (y := 0) rfl rfl c1
    refine br1 (by decide) ?_
    have k3 : Int32.toInt (-1) = (-1) := (by decide)
    refine s_X11_settlez (-1) (f_h0_refusals) (by decide) e_3 (fun r4 u5_0 u5_1 H6 => ?_)
    have j7 := H6.1
    have j8 := H6.2.1
    have j9 := H6.2.2
    refine un2_i ?_
    have hR10 : noiseR w a.toInt b.toInt = (Int32.toInt r4) := by unfold noiseR; (repeat' split) <;> omega
    exact hq _ _ _ _ _ _ _ ⟨⟨by omega, by omega⟩, h_f_h0_site_world_folk_noiseColumn, h_f_h0_site_world_folk_noiseLoud, ⟨by omega, by omega⟩, hR10.symm, (by unfold noiseW; rw [if_pos (by omega)]; exact e_0), (by unfold noiseW clr; rw [if_pos (by omega), if_pos (by omega)]; exact e_1), (by rw [hR10]; exact j8), (by rw [hR10]; exact j9)⟩
  · refine br0 c1 ?_
    have d11 := nlt_z (x := (Int32.toInt a)) (y := 0) rfl rfl c1
    by_cases c12 : 8 ≤ a
    · refine br1 c12 ?_
      have d13 := le_z (x := 8) (y := (Int32.toInt a)) rfl rfl c12
      refine br1 (by decide) ?_
      have k14 : Int32.toInt (-1) = (-1) := (by decide)
      refine s_X11_settlez (-1) (f_h0_refusals) (by decide) e_3 (fun r15 u16_0 u16_1 H17 => ?_)
      have j18 := H17.1
      have j19 := H17.2.1
      have j20 := H17.2.2
      refine un2_i ?_
      have hR21 : noiseR w a.toInt b.toInt = (Int32.toInt r15) := by unfold noiseR; (repeat' split) <;> omega
      exact hq _ _ _ _ _ _ _ ⟨⟨by omega, by omega⟩, h_f_h0_site_world_folk_noiseColumn, h_f_h0_site_world_folk_noiseLoud, ⟨by omega, by omega⟩, hR21.symm, (by unfold noiseW; rw [if_pos (by omega)]; exact e_0), (by unfold noiseW clr; rw [if_pos (by omega), if_pos (by omega)]; exact e_1), (by rw [hR21]; exact j19), (by rw [hR21]; exact j20)⟩
    · refine br0 c12 ?_
      have d22 := nle_z (x := 8) (y := (Int32.toInt a)) rfl rfl c12
      refine br0 (by decide) ?_
      refine o_X11_isWithin _ _ _ ?_
      by_cases c23 : b < 0
      · refine br1 c23 ?_
        have d24 := lt_z (x := (Int32.toInt b)) (y := 0) rfl rfl c23
        refine br1 (by decide) ?_
        have k25 : Int32.toInt (-1) = (-1) := (by decide)
        refine s_X11_settlez (-1) (f_h0_refusals) (by decide) e_3 (fun r26 u27_0 u27_1 H28 => ?_)
        have j29 := H28.1
        have j30 := H28.2.1
        have j31 := H28.2.2
        refine un2_i ?_
        have hR32 : noiseR w a.toInt b.toInt = (Int32.toInt r26) := by unfold noiseR; (repeat' split) <;> omega
        exact hq _ _ _ _ _ _ _ ⟨⟨by omega, by omega⟩, h_f_h0_site_world_folk_noiseColumn, h_f_h0_site_world_folk_noiseLoud, ⟨by omega, by omega⟩, hR32.symm, (by unfold noiseW; rw [if_pos (by omega)]; exact e_0), (by unfold noiseW clr; rw [if_pos (by omega), if_pos (by omega)]; exact e_1), (by rw [hR32]; exact j30), (by rw [hR32]; exact j31)⟩
      · refine br0 c23 ?_
        have d33 := nlt_z (x := (Int32.toInt b)) (y := 0) rfl rfl c23
        by_cases c34 : 21 ≤ b
        · refine br1 c34 ?_
          have d35 := le_z (x := 21) (y := (Int32.toInt b)) rfl rfl c34
          refine br1 (by decide) ?_
          have k36 : Int32.toInt (-1) = (-1) := (by decide)
          refine s_X11_settlez (-1) (f_h0_refusals) (by decide) e_3 (fun r37 u38_0 u38_1 H39 => ?_)
          have j40 := H39.1
          have j41 := H39.2.1
          have j42 := H39.2.2
          refine un2_i ?_
          have hR43 : noiseR w a.toInt b.toInt = (Int32.toInt r37) := by unfold noiseR; (repeat' split) <;> omega
          exact hq _ _ _ _ _ _ _ ⟨⟨by omega, by omega⟩, h_f_h0_site_world_folk_noiseColumn, h_f_h0_site_world_folk_noiseLoud, ⟨by omega, by omega⟩, hR43.symm, (by unfold noiseW; rw [if_pos (by omega)]; exact e_0), (by unfold noiseW clr; rw [if_pos (by omega), if_pos (by omega)]; exact e_1), (by rw [hR43]; exact j41), (by rw [hR43]; exact j42)⟩
        · refine br0 c34 ?_
          have d44 := nle_z (x := 21) (y := (Int32.toInt b)) rfl rfl c34
          refine br0 (by decide) ?_
          by_cases c45 : h0_site_world_folk_noises < 6
          · refine br1 c45 ?_
            have d46 := lt_z (x := (Int32.toInt h0_site_world_folk_noises)) (y := 6) rfl rfl c45
            refine o_X4_addNoise _ _ _ _ _ _ ?_
            refine br0 (z_nle (x := 6) (y := (Int32.toInt h0_site_world_folk_noises)) rfl rfl (by omega)) ?_
            refine ⟨vpi (x := (Int32.toInt h0_site_world_folk_noises)) rfl (by omega) (by omega), ?_⟩
            refine ⟨vpi (x := (Int32.toInt h0_site_world_folk_noises)) rfl (by omega) (by omega), ?_⟩
            refine un3_i ?_
            refine o_X2_clear _ ?_
            have t47 : (Int32.toInt (h0_site_world_folk_noises + 1)) = (Int32.toInt h0_site_world_folk_noises) + 1 := add_z rfl rfl (by omega) (by omega)
            have t48 : (Int32.toInt ((h0_site_world_folk_noises + 1) - 1)) = (Int32.toInt (h0_site_world_folk_noises + 1)) - 1 := sub_z rfl rfl (by omega) (by omega)
            have t49 := i32_hi ((h0_site_world_folk_noises + 1) - 1)
            refine s_X11_settlez ((h0_site_world_folk_noises + 1) - 1) (f_h0_refusals) ⟨by omega, by omega⟩ e_3 (fun r50 u51_0 u51_1 H52 => ?_)
            have j53 := H52.1
            have j54 := H52.2.1
            have j55 := H52.2.2
            refine un2_i ?_
            have R56 : NC (upd f_h0_site_world_folk_noiseColumn h0_site_world_folk_noises.toNatClampNeg a) := NC.up_0 h_f_h0_site_world_folk_noiseColumn (tnz (x := (Int32.toInt h0_site_world_folk_noises)) rfl (by omega)) (by omega) (by omega) (w := (Int32.toInt a)) rfl (by omega) (by omega)
            have R57 : NL (upd f_h0_site_world_folk_noiseLoud h0_site_world_folk_noises.toNatClampNeg b) := NL.up_0 h_f_h0_site_world_folk_noiseLoud (tnz (x := (Int32.toInt h0_site_world_folk_noises)) rfl (by omega)) (by omega) (by omega) (w := (Int32.toInt b)) rfl (by omega) (by omega)
            have k58 : Int32.toInt 0 = 0 := rfl
            have hR59 : noiseR w a.toInt b.toInt = (Int32.toInt r50) := by unfold noiseR; (repeat' split) <;> omega
            exact hq _ _ _ _ _ _ _ ⟨⟨by omega, by omega⟩, R56, R57, (by decide), hR59.symm, (by unfold noiseW; rw [if_neg (by omega)]; unfold noiseO; rw [uI_e (i := 22 + (w 2).toNat) (by rw [uI_n (by omega), uI_n (by omega)]; exact RXw.rn e_0 _ (by omega) (by omega))]; exact RXw.u_ns (RXw.u_nl (RXw.u_nc e_0 (show Int.toNat _ = Int.toNat _ by omega) (by omega) rfl) (show Int.toNat _ = Int.toNat _ by omega) (by omega) rfl) (by omega) (by omega)), (by unfold clr; rw [if_neg (by omega)]; exact RXu.nil e_1 rfl), (by rw [hR59]; exact j54), (by rw [hR59]; exact j55)⟩
          · refine br0 c45 ?_
            have d60 := nlt_z (x := (Int32.toInt h0_site_world_folk_noises)) (y := 6) rfl rfl c45
            have k61 : Int32.toInt (-5) = (-5) := (by decide)
            refine s_X11_settlez (-5) (f_h0_refusals) (by decide) e_3 (fun r62 u63_0 u63_1 H64 => ?_)
            have j65 := H64.1
            have j66 := H64.2.1
            have j67 := H64.2.2
            refine un2_i ?_
            have hR68 : noiseR w a.toInt b.toInt = (Int32.toInt r62) := by unfold noiseR; (repeat' split) <;> omega
            exact hq _ _ _ _ _ _ _ ⟨⟨by omega, by omega⟩, h_f_h0_site_world_folk_noiseColumn, h_f_h0_site_world_folk_noiseLoud, ⟨by omega, by omega⟩, hR68.symm, (by unfold noiseW; rw [if_pos (by omega)]; exact e_0), (by unfold noiseW clr; rw [if_pos (by omega), if_pos (by omega)]; exact e_1), (by rw [hR68]; exact j66), (by rw [hR68]; exact j67)⟩


set_option maxRecDepth 100000 in
theorem s_X11_termsz (a : Int32) (b : Int32) (rfs : Nat → Int32) (tf : Nat → Int32) (aD_kept : Int32) {w : Nat → Int} {U : UL} {rf : Nat → Int32} {g_kd : Nat → Int32} {g_hd : Nat → Int32} {g_wt : Nat → Int32} {g_dg : Int64} {g_ce : Nat → Int32} {g_bu : Nat → Int32} {g_cc : Int32} {g_co : Nat → Int32} {g_ea : Nat → Int32} {g_ls : Int32} {g_nc : Nat → Int32} {g_nl : Nat → Int32} {g_ns : Int32} {g_hu : Int32} {g_hc : Nat → Int32} {g_hl : Nat → Int32} {g_hs : Int32} {g_so : Nat → Int32} {g_we : Nat → Int32} {g_wl : Int32} {g_lc : Int32} {g_fo : Int32} {gd_deed : Nat → Int32} {gd_whose : Nat → Int32} {gd_before : Nat → Int32} {gd_bucketsBefore : Nat → Int32} {gd_dayBefore : Nat → Int32} {gd_latest : Int32} (h_tf : TE tf) (h_aD_kept : 0 ≤ aD_kept.toInt ∧ aD_kept.toInt ≤ 16) (e_0 : RXw g_kd g_hd g_wt g_dg g_ce g_bu g_cc g_co g_ea g_ls g_nc g_nl g_ns g_hu g_hc g_hl g_hs g_so g_we g_wl tf g_lc g_fo w) (e_1 : RXu gd_deed gd_whose gd_before gd_bucketsBefore gd_dayBefore aD_kept gd_latest w U) (e_2 : DI gd_deed gd_whose gd_before gd_bucketsBefore gd_dayBefore) (e_3 : RF rfs rf) {Q : Int32 → (Int32 × (Nat → Int32) × (Nat → Int32) × Int32) → Prop} (hq : ∀ (r : Int32) (u_0 : Int32) (u_1 : Nat → Int32) (u_2 : Nat → Int32) (u_3 : Int32), (TE u_2) ∧ (0 ≤ u_3.toInt ∧ u_3.toInt ≤ 16) ∧ (r.toInt = termsR w a.toInt b.toInt) ∧ (RXw g_kd g_hd g_wt g_dg g_ce g_bu g_cc g_co g_ea g_ls g_nc g_nl g_ns g_hu g_hc g_hl g_hs g_so g_we g_wl u_2 g_lc g_fo (termsW w a.toInt b.toInt)) ∧ (RXu gd_deed gd_whose gd_before gd_bucketsBefore gd_dayBefore u_3 gd_latest (termsW w a.toInt b.toInt) (clr (termsR w a.toInt b.toInt) U)) ∧ (u_0.toInt = tlS (termsR w a.toInt b.toInt)) ∧ (RF u_1 (tlR rf (termsR w a.toInt b.toInt))) → Q r (u_0, u_1, u_2, u_3)) : wp_X11_terms a b rfs tf aD_kept Q := by
  unfold wp_X11_terms
  have l_te := RXw.te e_0
  refine o_X10_termCanBe _ _ _ ?_
  by_cases c1 : a = 0
  · refine br1 c1 ?_
    have d2 := eq_z (x := (Int32.toInt a)) (y := 0) rfl rfl c1
    by_cases c3 : b < 0
    · refine br1 c3 ?_
      have d4 := lt_z (x := (Int32.toInt b)) (y := 0) rfl rfl c3
      refine br1 (by decide) ?_
      have k5 : Int32.toInt (-1) = (-1) := (by decide)
      refine s_X11_settlez (-1) (rfs) (by decide) e_3 (fun r6 u7_0 u7_1 H8 => ?_)
      have j9 := H8.1
      have j10 := H8.2.1
      have j11 := H8.2.2
      refine un2_i ?_
      have hR12 : termsR w a.toInt b.toInt = (Int32.toInt r6) := by unfold termsR; (repeat' split) <;> omega
      exact hq _ _ _ _ _ ⟨h_tf, ⟨by omega, by omega⟩, hR12.symm, (by unfold termsW; rw [if_pos (by omega)]; exact e_0), (by unfold termsW clr; rw [if_pos (by omega), if_pos (by omega)]; exact e_1), (by rw [hR12]; exact j10), (by rw [hR12]; exact j11)⟩
    · refine br0 c3 ?_
      have d13 := nlt_z (x := (Int32.toInt b)) (y := 0) rfl rfl c3
      by_cases c14 : 9999 < b
      · refine br1 c14 ?_
        have d15 := lt_z (x := 9999) (y := (Int32.toInt b)) rfl rfl c14
        refine br1 (by decide) ?_
        have k16 : Int32.toInt (-1) = (-1) := (by decide)
        refine s_X11_settlez (-1) (rfs) (by decide) e_3 (fun r17 u18_0 u18_1 H19 => ?_)
        have j20 := H19.1
        have j21 := H19.2.1
        have j22 := H19.2.2
        refine un2_i ?_
        have hR23 : termsR w a.toInt b.toInt = (Int32.toInt r17) := by unfold termsR; (repeat' split) <;> omega
        exact hq _ _ _ _ _ ⟨h_tf, ⟨by omega, by omega⟩, hR23.symm, (by unfold termsW; rw [if_pos (by omega)]; exact e_0), (by unfold termsW clr; rw [if_pos (by omega), if_pos (by omega)]; exact e_1), (by rw [hR23]; exact j21), (by rw [hR23]; exact j22)⟩
      · refine br0 c14 ?_
        have d24 := nlt_z (x := 9999) (y := (Int32.toInt b)) rfl rfl c14
        refine br0 (by decide) ?_
        refine ⟨vpi (x := (Int32.toInt a)) rfl (by omega) (by omega), ?_⟩
        refine ⟨vpi (x := (Int32.toInt a)) rfl (by omega) (by omega), ?_⟩
        refine o_X2_clear _ ?_
        have g25 : 0 ≤ (Int32.toInt (tf a.toNatClampNeg)) ∧ (Int32.toInt (tf a.toNatClampNeg)) ≤ 9999 := TE.at_0 h_tf (tnz (x := (Int32.toInt a)) rfl (by omega)) (by omega) (by omega)
        have t26 : (Int32.toInt (tf a.toNatClampNeg)) = w (7 + ((Int32.toInt a)).toNat) := RkW.z l_te (i := ((Int32.toInt a)).toNat) rfl (by omega)
        have t27 := i32_hi (tf a.toNatClampNeg)
        refine s_X11_settlez (tf a.toNatClampNeg) (rfs) ⟨by omega, by omega⟩ e_3 (fun r28 u29_0 u29_1 H30 => ?_)
        have j31 := H30.1
        have j32 := H30.2.1
        have j33 := H30.2.2
        refine un2_i ?_
        have R34 : TE (upd tf a.toNatClampNeg b) := TE.up_0 h_tf (tnz (x := (Int32.toInt a)) rfl (by omega)) (by omega) (by omega) (w := (Int32.toInt b)) rfl (by omega) (by omega)
        have k35 : Int32.toInt 0 = 0 := rfl
        have hR36 : termsR w a.toInt b.toInt = (Int32.toInt r28) := by unfold termsR; (repeat' split) <;> omega
        exact hq _ _ _ _ _ ⟨R34, (by decide), hR36.symm, (by unfold termsW; rw [if_neg (by omega)]; unfold termsO; exact RXw.u_te e_0 rfl (by omega) rfl), (by unfold clr; rw [if_neg (by omega)]; exact RXu.nil e_1 rfl), (by rw [hR36]; exact j32), (by rw [hR36]; exact j33)⟩
  · refine br0 c1 ?_
    have d37 := ne_z (x := (Int32.toInt a)) (y := 0) rfl rfl c1
    by_cases c38 : a = 1
    · refine br1 c38 ?_
      have d39 := eq_z (x := (Int32.toInt a)) (y := 1) rfl rfl c38
      by_cases c40 : b < 0
      · refine br1 c40 ?_
        have d41 := lt_z (x := (Int32.toInt b)) (y := 0) rfl rfl c40
        refine br1 (by decide) ?_
        have k42 : Int32.toInt (-1) = (-1) := (by decide)
        refine s_X11_settlez (-1) (rfs) (by decide) e_3 (fun r43 u44_0 u44_1 H45 => ?_)
        have j46 := H45.1
        have j47 := H45.2.1
        have j48 := H45.2.2
        refine un2_i ?_
        have hR49 : termsR w a.toInt b.toInt = (Int32.toInt r43) := by unfold termsR; (repeat' split) <;> omega
        exact hq _ _ _ _ _ ⟨h_tf, ⟨by omega, by omega⟩, hR49.symm, (by unfold termsW; rw [if_pos (by omega)]; exact e_0), (by unfold termsW clr; rw [if_pos (by omega), if_pos (by omega)]; exact e_1), (by rw [hR49]; exact j47), (by rw [hR49]; exact j48)⟩
      · refine br0 c40 ?_
        have d50 := nlt_z (x := (Int32.toInt b)) (y := 0) rfl rfl c40
        by_cases c51 : 10 < b
        · refine br1 c51 ?_
          have d52 := lt_z (x := 10) (y := (Int32.toInt b)) rfl rfl c51
          refine br1 (by decide) ?_
          have k53 : Int32.toInt (-1) = (-1) := (by decide)
          refine s_X11_settlez (-1) (rfs) (by decide) e_3 (fun r54 u55_0 u55_1 H56 => ?_)
          have j57 := H56.1
          have j58 := H56.2.1
          have j59 := H56.2.2
          refine un2_i ?_
          have hR60 : termsR w a.toInt b.toInt = (Int32.toInt r54) := by unfold termsR; (repeat' split) <;> omega
          exact hq _ _ _ _ _ ⟨h_tf, ⟨by omega, by omega⟩, hR60.symm, (by unfold termsW; rw [if_pos (by omega)]; exact e_0), (by unfold termsW clr; rw [if_pos (by omega), if_pos (by omega)]; exact e_1), (by rw [hR60]; exact j58), (by rw [hR60]; exact j59)⟩
        · refine br0 c51 ?_
          have d61 := nlt_z (x := 10) (y := (Int32.toInt b)) rfl rfl c51
          refine br0 (by decide) ?_
          refine ⟨vpi (x := (Int32.toInt a)) rfl (by omega) (by omega), ?_⟩
          refine ⟨vpi (x := (Int32.toInt a)) rfl (by omega) (by omega), ?_⟩
          refine o_X2_clear _ ?_
          have g62 : 0 ≤ (Int32.toInt (tf a.toNatClampNeg)) ∧ (Int32.toInt (tf a.toNatClampNeg)) ≤ 9999 := TE.at_0 h_tf (tnz (x := (Int32.toInt a)) rfl (by omega)) (by omega) (by omega)
          have t63 : (Int32.toInt (tf a.toNatClampNeg)) = w (7 + ((Int32.toInt a)).toNat) := RkW.z l_te (i := ((Int32.toInt a)).toNat) rfl (by omega)
          have t64 := i32_hi (tf a.toNatClampNeg)
          refine s_X11_settlez (tf a.toNatClampNeg) (rfs) ⟨by omega, by omega⟩ e_3 (fun r65 u66_0 u66_1 H67 => ?_)
          have j68 := H67.1
          have j69 := H67.2.1
          have j70 := H67.2.2
          refine un2_i ?_
          have R71 : TE (upd tf a.toNatClampNeg b) := TE.up_0 h_tf (tnz (x := (Int32.toInt a)) rfl (by omega)) (by omega) (by omega) (w := (Int32.toInt b)) rfl (by omega) (by omega)
          have k72 : Int32.toInt 0 = 0 := rfl
          have hR73 : termsR w a.toInt b.toInt = (Int32.toInt r65) := by unfold termsR; (repeat' split) <;> omega
          exact hq _ _ _ _ _ ⟨R71, (by decide), hR73.symm, (by unfold termsW; rw [if_neg (by omega)]; unfold termsO; exact RXw.u_te e_0 rfl (by omega) rfl), (by unfold clr; rw [if_neg (by omega)]; exact RXu.nil e_1 rfl), (by rw [hR73]; exact j69), (by rw [hR73]; exact j70)⟩
    · refine br0 c38 ?_
      have d74 := ne_z (x := (Int32.toInt a)) (y := 1) rfl rfl c38
      by_cases c75 : a = 2
      · refine br1 c75 ?_
        have d76 := eq_z (x := (Int32.toInt a)) (y := 2) rfl rfl c75
        by_cases c77 : b < 0
        · refine br1 c77 ?_
          have d78 := lt_z (x := (Int32.toInt b)) (y := 0) rfl rfl c77
          refine br1 (by decide) ?_
          have k79 : Int32.toInt (-1) = (-1) := (by decide)
          refine s_X11_settlez (-1) (rfs) (by decide) e_3 (fun r80 u81_0 u81_1 H82 => ?_)
          have j83 := H82.1
          have j84 := H82.2.1
          have j85 := H82.2.2
          refine un2_i ?_
          have hR86 : termsR w a.toInt b.toInt = (Int32.toInt r80) := by unfold termsR; (repeat' split) <;> omega
          exact hq _ _ _ _ _ ⟨h_tf, ⟨by omega, by omega⟩, hR86.symm, (by unfold termsW; rw [if_pos (by omega)]; exact e_0), (by unfold termsW clr; rw [if_pos (by omega), if_pos (by omega)]; exact e_1), (by rw [hR86]; exact j84), (by rw [hR86]; exact j85)⟩
        · refine br0 c77 ?_
          have d87 := nlt_z (x := (Int32.toInt b)) (y := 0) rfl rfl c77
          by_cases c88 : 9 < b
          · refine br1 c88 ?_
            have d89 := lt_z (x := 9) (y := (Int32.toInt b)) rfl rfl c88
            refine br1 (by decide) ?_
            have k90 : Int32.toInt (-1) = (-1) := (by decide)
            refine s_X11_settlez (-1) (rfs) (by decide) e_3 (fun r91 u92_0 u92_1 H93 => ?_)
            have j94 := H93.1
            have j95 := H93.2.1
            have j96 := H93.2.2
            refine un2_i ?_
            have hR97 : termsR w a.toInt b.toInt = (Int32.toInt r91) := by unfold termsR; (repeat' split) <;> omega
            exact hq _ _ _ _ _ ⟨h_tf, ⟨by omega, by omega⟩, hR97.symm, (by unfold termsW; rw [if_pos (by omega)]; exact e_0), (by unfold termsW clr; rw [if_pos (by omega), if_pos (by omega)]; exact e_1), (by rw [hR97]; exact j95), (by rw [hR97]; exact j96)⟩
          · refine br0 c88 ?_
            have d98 := nlt_z (x := 9) (y := (Int32.toInt b)) rfl rfl c88
            refine br0 (by decide) ?_
            refine ⟨vpi (x := (Int32.toInt a)) rfl (by omega) (by omega), ?_⟩
            refine ⟨vpi (x := (Int32.toInt a)) rfl (by omega) (by omega), ?_⟩
            refine o_X2_clear _ ?_
            have g99 : 0 ≤ (Int32.toInt (tf a.toNatClampNeg)) ∧ (Int32.toInt (tf a.toNatClampNeg)) ≤ 9999 := TE.at_0 h_tf (tnz (x := (Int32.toInt a)) rfl (by omega)) (by omega) (by omega)
            have t100 : (Int32.toInt (tf a.toNatClampNeg)) = w (7 + ((Int32.toInt a)).toNat) := RkW.z l_te (i := ((Int32.toInt a)).toNat) rfl (by omega)
            have t101 := i32_hi (tf a.toNatClampNeg)
            refine s_X11_settlez (tf a.toNatClampNeg) (rfs) ⟨by omega, by omega⟩ e_3 (fun r102 u103_0 u103_1 H104 => ?_)
            have j105 := H104.1
            have j106 := H104.2.1
            have j107 := H104.2.2
            refine un2_i ?_
            have R108 : TE (upd tf a.toNatClampNeg b) := TE.up_0 h_tf (tnz (x := (Int32.toInt a)) rfl (by omega)) (by omega) (by omega) (w := (Int32.toInt b)) rfl (by omega) (by omega)
            have k109 : Int32.toInt 0 = 0 := rfl
            have hR110 : termsR w a.toInt b.toInt = (Int32.toInt r102) := by unfold termsR; (repeat' split) <;> omega
            exact hq _ _ _ _ _ ⟨R108, (by decide), hR110.symm, (by unfold termsW; rw [if_neg (by omega)]; unfold termsO; exact RXw.u_te e_0 rfl (by omega) rfl), (by unfold clr; rw [if_neg (by omega)]; exact RXu.nil e_1 rfl), (by rw [hR110]; exact j106), (by rw [hR110]; exact j107)⟩
      · refine br0 c75 ?_
        have d111 := ne_z (x := (Int32.toInt a)) (y := 2) rfl rfl c75
        refine br1 (by decide) ?_
        have k112 : Int32.toInt (-1) = (-1) := (by decide)
        refine s_X11_settlez (-1) (rfs) (by decide) e_3 (fun r113 u114_0 u114_1 H115 => ?_)
        have j116 := H115.1
        have j117 := H115.2.1
        have j118 := H115.2.2
        refine un2_i ?_
        have hR119 : termsR w a.toInt b.toInt = (Int32.toInt r113) := by unfold termsR; (repeat' split) <;> omega
        exact hq _ _ _ _ _ ⟨h_tf, ⟨by omega, by omega⟩, hR119.symm, (by unfold termsW; rw [if_pos (by omega)]; exact e_0), (by unfold termsW clr; rw [if_pos (by omega), if_pos (by omega)]; exact e_1), (by rw [hR119]; exact j117), (by rw [hR119]; exact j118)⟩


set_option maxRecDepth 100000 in
theorem s_X11_heardz (a : Int32) (b : Int32) (rfs : Nat → Int32) (aF_hearsay : Int32) (aFhearnf : Nat → Int32) (aFheardf : Nat → Int32) {w : Nat → Int} {U : UL} {rf : Nat → Int32} {g_kd : Nat → Int32} {g_hd : Nat → Int32} {g_wt : Nat → Int32} {g_dg : Int64} {g_ce : Nat → Int32} {g_bu : Nat → Int32} {g_cc : Int32} {g_co : Nat → Int32} {g_ea : Nat → Int32} {g_ls : Int32} {g_nc : Nat → Int32} {g_nl : Nat → Int32} {g_ns : Int32} {g_hu : Int32} {g_so : Nat → Int32} {g_we : Nat → Int32} {g_wl : Int32} {g_te : Nat → Int32} {g_lc : Int32} {g_fo : Int32} {gd_deed : Nat → Int32} {gd_whose : Nat → Int32} {gd_before : Nat → Int32} {gd_bucketsBefore : Nat → Int32} {gd_dayBefore : Nat → Int32} {gd_kept : Int32} {gd_latest : Int32} (h_aF_hearsay : 0 ≤ aF_hearsay.toInt ∧ aF_hearsay.toInt ≤ 8) (h_aFhearnf : HC aFhearnf) (h_aFheardf : HL aFheardf) (e_0 : RXw g_kd g_hd g_wt g_dg g_ce g_bu g_cc g_co g_ea g_ls g_nc g_nl g_ns g_hu aFhearnf aFheardf aF_hearsay g_so g_we g_wl g_te g_lc g_fo w) (e_1 : RXu gd_deed gd_whose gd_before gd_bucketsBefore gd_dayBefore gd_kept gd_latest w U) (e_2 : DI gd_deed gd_whose gd_before gd_bucketsBefore gd_dayBefore) (e_3 : RF rfs rf) {Q : Int32 → (Int32 × (Nat → Int32) × Int32 × (Nat → Int32) × (Nat → Int32)) → Prop} (hq : ∀ (r : Int32) (u_0 : Int32) (u_1 : Nat → Int32) (u_2 : Int32) (u_3 : Nat → Int32) (u_4 : Nat → Int32), (0 ≤ u_2.toInt ∧ u_2.toInt ≤ 8) ∧ (HC u_3) ∧ (HL u_4) ∧ (r.toInt = heardR w a.toInt b.toInt) ∧ (RXw g_kd g_hd g_wt g_dg g_ce g_bu g_cc g_co g_ea g_ls g_nc g_nl g_ns g_hu u_3 u_4 u_2 g_so g_we g_wl g_te g_lc g_fo (heardW w a.toInt b.toInt)) ∧ (RXu gd_deed gd_whose gd_before gd_bucketsBefore gd_dayBefore gd_kept gd_latest (heardW w a.toInt b.toInt) (U)) ∧ (u_0.toInt = tlS (heardR w a.toInt b.toInt)) ∧ (RF u_1 (tlR rf (heardR w a.toInt b.toInt))) → Q r (u_0, u_1, u_2, u_3, u_4)) : wp_X11_heard a b rfs aF_hearsay aFhearnf aFheardf Q := by
  unfold wp_X11_heard
  have l_hc := RXw.hc e_0
  have l_hl := RXw.hl e_0
  have l_hs : aF_hearsay.toInt = w 3 := RXw.hs e_0
  refine o_X11_isWithin _ _ _ ?_
  by_cases c1 : a < 0
  · refine br1 c1 ?_
    have d2 := lt_z (x := (Int32.toInt a)) (y := 0) rfl rfl c1
    refine br1 (by decide) ?_
    have k3 : Int32.toInt (-1) = (-1) := (by decide)
    refine s_X11_settlez (-1) (rfs) (by decide) e_3 (fun r4 u5_0 u5_1 H6 => ?_)
    have j7 := H6.1
    have j8 := H6.2.1
    have j9 := H6.2.2
    refine un2_i ?_
    have hR10 : heardR w a.toInt b.toInt = (Int32.toInt r4) := by unfold heardR; (repeat' split) <;> omega
    exact hq _ _ _ _ _ _ ⟨⟨by omega, by omega⟩, h_aFhearnf, h_aFheardf, hR10.symm, (by unfold heardW; rw [if_pos (by omega)]; exact e_0), (by unfold heardW; rw [if_pos (by omega)]; exact e_1), (by rw [hR10]; exact j8), (by rw [hR10]; exact j9)⟩
  · refine br0 c1 ?_
    have d11 := nlt_z (x := (Int32.toInt a)) (y := 0) rfl rfl c1
    by_cases c12 : 8 ≤ a
    · refine br1 c12 ?_
      have d13 := le_z (x := 8) (y := (Int32.toInt a)) rfl rfl c12
      refine br1 (by decide) ?_
      have k14 : Int32.toInt (-1) = (-1) := (by decide)
      refine s_X11_settlez (-1) (rfs) (by decide) e_3 (fun r15 u16_0 u16_1 H17 => ?_)
      have j18 := H17.1
      have j19 := H17.2.1
      have j20 := H17.2.2
      refine un2_i ?_
      have hR21 : heardR w a.toInt b.toInt = (Int32.toInt r15) := by unfold heardR; (repeat' split) <;> omega
      exact hq _ _ _ _ _ _ ⟨⟨by omega, by omega⟩, h_aFhearnf, h_aFheardf, hR21.symm, (by unfold heardW; rw [if_pos (by omega)]; exact e_0), (by unfold heardW; rw [if_pos (by omega)]; exact e_1), (by rw [hR21]; exact j19), (by rw [hR21]; exact j20)⟩
    · refine br0 c12 ?_
      have d22 := nle_z (x := 8) (y := (Int32.toInt a)) rfl rfl c12
      refine br0 (by decide) ?_
      refine o_X11_isWithin _ _ _ ?_
      by_cases c23 : b < 0
      · refine br1 c23 ?_
        have d24 := lt_z (x := (Int32.toInt b)) (y := 0) rfl rfl c23
        refine br1 (by decide) ?_
        have k25 : Int32.toInt (-1) = (-1) := (by decide)
        refine s_X11_settlez (-1) (rfs) (by decide) e_3 (fun r26 u27_0 u27_1 H28 => ?_)
        have j29 := H28.1
        have j30 := H28.2.1
        have j31 := H28.2.2
        refine un2_i ?_
        have hR32 : heardR w a.toInt b.toInt = (Int32.toInt r26) := by unfold heardR; (repeat' split) <;> omega
        exact hq _ _ _ _ _ _ ⟨⟨by omega, by omega⟩, h_aFhearnf, h_aFheardf, hR32.symm, (by unfold heardW; rw [if_pos (by omega)]; exact e_0), (by unfold heardW; rw [if_pos (by omega)]; exact e_1), (by rw [hR32]; exact j30), (by rw [hR32]; exact j31)⟩
      · refine br0 c23 ?_
        have d33 := nlt_z (x := (Int32.toInt b)) (y := 0) rfl rfl c23
        by_cases c34 : 100 ≤ b
        · refine br1 c34 ?_
          have d35 := le_z (x := 100) (y := (Int32.toInt b)) rfl rfl c34
          refine br1 (by decide) ?_
          have k36 : Int32.toInt (-1) = (-1) := (by decide)
          refine s_X11_settlez (-1) (rfs) (by decide) e_3 (fun r37 u38_0 u38_1 H39 => ?_)
          have j40 := H39.1
          have j41 := H39.2.1
          have j42 := H39.2.2
          refine un2_i ?_
          have hR43 : heardR w a.toInt b.toInt = (Int32.toInt r37) := by unfold heardR; (repeat' split) <;> omega
          exact hq _ _ _ _ _ _ ⟨⟨by omega, by omega⟩, h_aFhearnf, h_aFheardf, hR43.symm, (by unfold heardW; rw [if_pos (by omega)]; exact e_0), (by unfold heardW; rw [if_pos (by omega)]; exact e_1), (by rw [hR43]; exact j41), (by rw [hR43]; exact j42)⟩
        · refine br0 c34 ?_
          have d44 := nle_z (x := 100) (y := (Int32.toInt b)) rfl rfl c34
          refine br0 (by decide) ?_
          by_cases c45 : aF_hearsay < 8
          · refine br1 c45 ?_
            have d46 := lt_z (x := (Int32.toInt aF_hearsay)) (y := 8) rfl rfl c45
            refine o_X4_addHearsay _ _ _ _ _ _ ?_
            refine br0 (z_nle (x := 8) (y := (Int32.toInt aF_hearsay)) rfl rfl (by omega)) ?_
            refine ⟨vpi (x := (Int32.toInt aF_hearsay)) rfl (by omega) (by omega), ?_⟩
            refine ⟨vpi (x := (Int32.toInt aF_hearsay)) rfl (by omega) (by omega), ?_⟩
            refine un3_i ?_
            have t47 : (Int32.toInt (aF_hearsay + 1)) = (Int32.toInt aF_hearsay) + 1 := add_z rfl rfl (by omega) (by omega)
            have t48 := i32_hi (aF_hearsay + 1)
            refine s_X11_settlez (aF_hearsay + 1) (rfs) ⟨by omega, by omega⟩ e_3 (fun r49 u50_0 u50_1 H51 => ?_)
            have j52 := H51.1
            have j53 := H51.2.1
            have j54 := H51.2.2
            refine un2_i ?_
            have R55 : HC (upd aFhearnf aF_hearsay.toNatClampNeg a) := HC.up_0 h_aFhearnf (tnz (x := (Int32.toInt aF_hearsay)) rfl (by omega)) (by omega) (by omega) (w := (Int32.toInt a)) rfl (by omega) (by omega)
            have R56 : HL (upd aFheardf aF_hearsay.toNatClampNeg b) := HL.up_0 h_aFheardf (tnz (x := (Int32.toInt aF_hearsay)) rfl (by omega)) (by omega) (by omega) (w := (Int32.toInt b)) rfl (by omega) (by omega)
            have hR57 : heardR w a.toInt b.toInt = (Int32.toInt r49) := by unfold heardR; (repeat' split) <;> omega
            exact hq _ _ _ _ _ _ ⟨⟨by omega, by omega⟩, R55, R56, hR57.symm, (by unfold heardW; rw [if_neg (by omega)]; unfold heardO; exact (RXw.u_hs (RXw.u_hl (RXw.u_hc e_0 (show Int.toNat _ = Int.toNat _ by omega) (by omega) rfl) (show Int.toNat _ = Int.toNat _ by omega) (by omega) rfl) (by omega))), (by unfold heardW; rw [if_neg (by omega)]; exact RXu.ext e_2 e_1 heardO.u), (by rw [hR57]; exact j53), (by rw [hR57]; exact j54)⟩
          · refine br0 c45 ?_
            have d58 := nlt_z (x := (Int32.toInt aF_hearsay)) (y := 8) rfl rfl c45
            have k59 : Int32.toInt (-5) = (-5) := (by decide)
            refine s_X11_settlez (-5) (rfs) (by decide) e_3 (fun r60 u61_0 u61_1 H62 => ?_)
            have j63 := H62.1
            have j64 := H62.2.1
            have j65 := H62.2.2
            refine un2_i ?_
            have hR66 : heardR w a.toInt b.toInt = (Int32.toInt r60) := by unfold heardR; (repeat' split) <;> omega
            exact hq _ _ _ _ _ _ ⟨⟨by omega, by omega⟩, h_aFhearnf, h_aFheardf, hR66.symm, (by unfold heardW; rw [if_pos (by omega)]; exact e_0), (by unfold heardW; rw [if_pos (by omega)]; exact e_1), (by rw [hR66]; exact j64), (by rw [hR66]; exact j65)⟩


set_option maxRecDepth 100000 in
theorem s_X11_wellz (a : Int32) (b : Int32) (rfs : Nat → Int32) (aF_wells : Int32) (aFsounsf : Nat → Int32) (aFwettf : Nat → Int32) {w : Nat → Int} {U : UL} {rf : Nat → Int32} {g_kd : Nat → Int32} {g_hd : Nat → Int32} {g_wt : Nat → Int32} {g_dg : Int64} {g_ce : Nat → Int32} {g_bu : Nat → Int32} {g_cc : Int32} {g_co : Nat → Int32} {g_ea : Nat → Int32} {g_ls : Int32} {g_nc : Nat → Int32} {g_nl : Nat → Int32} {g_ns : Int32} {g_hu : Int32} {g_hc : Nat → Int32} {g_hl : Nat → Int32} {g_hs : Int32} {g_te : Nat → Int32} {g_lc : Int32} {g_fo : Int32} {gd_deed : Nat → Int32} {gd_whose : Nat → Int32} {gd_before : Nat → Int32} {gd_bucketsBefore : Nat → Int32} {gd_dayBefore : Nat → Int32} {gd_kept : Int32} {gd_latest : Int32} (h_aF_wells : 0 ≤ aF_wells.toInt ∧ aF_wells.toInt ≤ 10) (e_0 : RXw g_kd g_hd g_wt g_dg g_ce g_bu g_cc g_co g_ea g_ls g_nc g_nl g_ns g_hu g_hc g_hl g_hs aFsounsf aFwettf aF_wells g_te g_lc g_fo w) (e_1 : RXu gd_deed gd_whose gd_before gd_bucketsBefore gd_dayBefore gd_kept gd_latest w U) (e_2 : DI gd_deed gd_whose gd_before gd_bucketsBefore gd_dayBefore) (e_3 : RF rfs rf) {Q : Int32 → (Int32 × (Nat → Int32) × Int32 × (Nat → Int32) × (Nat → Int32)) → Prop} (hq : ∀ (r : Int32) (u_0 : Int32) (u_1 : Nat → Int32) (u_2 : Int32) (u_3 : Nat → Int32) (u_4 : Nat → Int32), (0 ≤ u_2.toInt ∧ u_2.toInt ≤ 10) ∧ (r.toInt = wellR w a.toInt b.toInt) ∧ (RXw g_kd g_hd g_wt g_dg g_ce g_bu g_cc g_co g_ea g_ls g_nc g_nl g_ns g_hu g_hc g_hl g_hs u_3 u_4 u_2 g_te g_lc g_fo (wellW w a.toInt b.toInt)) ∧ (RXu gd_deed gd_whose gd_before gd_bucketsBefore gd_dayBefore gd_kept gd_latest (wellW w a.toInt b.toInt) (U)) ∧ (u_0.toInt = tlS (wellR w a.toInt b.toInt)) ∧ (RF u_1 (tlR rf (wellR w a.toInt b.toInt))) → Q r (u_0, u_1, u_2, u_3, u_4)) : wp_X11_well a b rfs aF_wells aFsounsf aFwettf Q := by
  unfold wp_X11_well
  have l_so := RXw.so e_0
  have l_we := RXw.we e_0
  have l_wl : aF_wells.toInt = w 4 := RXw.wl e_0
  refine o_X11_isWithin _ _ _ ?_
  by_cases c1 : a < 0
  · refine br1 c1 ?_
    have d2 := lt_z (x := (Int32.toInt a)) (y := 0) rfl rfl c1
    refine br1 (by decide) ?_
    have k3 : Int32.toInt (-1) = (-1) := (by decide)
    refine s_X11_settlez (-1) (rfs) (by decide) e_3 (fun r4 u5_0 u5_1 H6 => ?_)
    have j7 := H6.1
    have j8 := H6.2.1
    have j9 := H6.2.2
    refine un2_i ?_
    have hR10 : wellR w a.toInt b.toInt = (Int32.toInt r4) := by unfold wellR; (repeat' split) <;> omega
    exact hq _ _ _ _ _ _ ⟨⟨by omega, by omega⟩, hR10.symm, (by unfold wellW; rw [if_pos (by omega)]; exact e_0), (by unfold wellW; rw [if_pos (by omega)]; exact e_1), (by rw [hR10]; exact j8), (by rw [hR10]; exact j9)⟩
  · refine br0 c1 ?_
    have d11 := nlt_z (x := (Int32.toInt a)) (y := 0) rfl rfl c1
    by_cases c12 : 64 ≤ a
    · refine br1 c12 ?_
      have d13 := le_z (x := 64) (y := (Int32.toInt a)) rfl rfl c12
      refine br1 (by decide) ?_
      have k14 : Int32.toInt (-1) = (-1) := (by decide)
      refine s_X11_settlez (-1) (rfs) (by decide) e_3 (fun r15 u16_0 u16_1 H17 => ?_)
      have j18 := H17.1
      have j19 := H17.2.1
      have j20 := H17.2.2
      refine un2_i ?_
      have hR21 : wellR w a.toInt b.toInt = (Int32.toInt r15) := by unfold wellR; (repeat' split) <;> omega
      exact hq _ _ _ _ _ _ ⟨⟨by omega, by omega⟩, hR21.symm, (by unfold wellW; rw [if_pos (by omega)]; exact e_0), (by unfold wellW; rw [if_pos (by omega)]; exact e_1), (by rw [hR21]; exact j19), (by rw [hR21]; exact j20)⟩
    · refine br0 c12 ?_
      have d22 := nle_z (x := 64) (y := (Int32.toInt a)) rfl rfl c12
      refine br0 (by decide) ?_
      refine o_X11_isWithin _ _ _ ?_
      by_cases c23 : b < 0
      · refine br1 c23 ?_
        have d24 := lt_z (x := (Int32.toInt b)) (y := 0) rfl rfl c23
        refine br1 (by decide) ?_
        have k25 : Int32.toInt (-1) = (-1) := (by decide)
        refine s_X11_settlez (-1) (rfs) (by decide) e_3 (fun r26 u27_0 u27_1 H28 => ?_)
        have j29 := H28.1
        have j30 := H28.2.1
        have j31 := H28.2.2
        refine un2_i ?_
        have hR32 : wellR w a.toInt b.toInt = (Int32.toInt r26) := by unfold wellR; (repeat' split) <;> omega
        exact hq _ _ _ _ _ _ ⟨⟨by omega, by omega⟩, hR32.symm, (by unfold wellW; rw [if_pos (by omega)]; exact e_0), (by unfold wellW; rw [if_pos (by omega)]; exact e_1), (by rw [hR32]; exact j30), (by rw [hR32]; exact j31)⟩
      · refine br0 c23 ?_
        have d33 := nlt_z (x := (Int32.toInt b)) (y := 0) rfl rfl c23
        by_cases c34 : 2 ≤ b
        · refine br1 c34 ?_
          have d35 := le_z (x := 2) (y := (Int32.toInt b)) rfl rfl c34
          refine br1 (by decide) ?_
          have k36 : Int32.toInt (-1) = (-1) := (by decide)
          refine s_X11_settlez (-1) (rfs) (by decide) e_3 (fun r37 u38_0 u38_1 H39 => ?_)
          have j40 := H39.1
          have j41 := H39.2.1
          have j42 := H39.2.2
          refine un2_i ?_
          have hR43 : wellR w a.toInt b.toInt = (Int32.toInt r37) := by unfold wellR; (repeat' split) <;> omega
          exact hq _ _ _ _ _ _ ⟨⟨by omega, by omega⟩, hR43.symm, (by unfold wellW; rw [if_pos (by omega)]; exact e_0), (by unfold wellW; rw [if_pos (by omega)]; exact e_1), (by rw [hR43]; exact j41), (by rw [hR43]; exact j42)⟩
        · refine br0 c34 ?_
          have d44 := nle_z (x := 2) (y := (Int32.toInt b)) rfl rfl c34
          refine br0 (by decide) ?_
          by_cases c45 : aF_wells < 10
          · refine br1 c45 ?_
            have d46 := lt_z (x := (Int32.toInt aF_wells)) (y := 10) rfl rfl c45
            refine o_X4_addWell _ _ _ _ _ _ ?_
            refine br0 (z_nle (x := 10) (y := (Int32.toInt aF_wells)) rfl rfl (by omega)) ?_
            refine ⟨vpi (x := (Int32.toInt aF_wells)) rfl (by omega) (by omega), ?_⟩
            refine ⟨vpi (x := (Int32.toInt aF_wells)) rfl (by omega) (by omega), ?_⟩
            refine un3_i ?_
            have t47 : (Int32.toInt (aF_wells + 1)) = (Int32.toInt aF_wells) + 1 := add_z rfl rfl (by omega) (by omega)
            have t48 := i32_hi (aF_wells + 1)
            refine s_X11_settlez (aF_wells + 1) (rfs) ⟨by omega, by omega⟩ e_3 (fun r49 u50_0 u50_1 H51 => ?_)
            have j52 := H51.1
            have j53 := H51.2.1
            have j54 := H51.2.2
            refine un2_i ?_
            have hR55 : wellR w a.toInt b.toInt = (Int32.toInt r49) := by unfold wellR; (repeat' split) <;> omega
            exact hq _ _ _ _ _ _ ⟨⟨by omega, by omega⟩, hR55.symm, (by unfold wellW; rw [if_neg (by omega)]; unfold wellO; exact (RXw.u_wl (RXw.u_we (RXw.u_so e_0 (show Int.toNat _ = Int.toNat _ by omega) (by omega) rfl) (show Int.toNat _ = Int.toNat _ by omega) (by omega) rfl) (by omega))), (by unfold wellW; rw [if_neg (by omega)]; exact RXu.ext e_2 e_1 wellO.u), (by rw [hR55]; exact j53), (by rw [hR55]; exact j54)⟩
          · refine br0 c45 ?_
            have d56 := nlt_z (x := (Int32.toInt aF_wells)) (y := 10) rfl rfl c45
            have k57 : Int32.toInt (-5) = (-5) := (by decide)
            refine s_X11_settlez (-5) (rfs) (by decide) e_3 (fun r58 u59_0 u59_1 H60 => ?_)
            have j61 := H60.1
            have j62 := H60.2.1
            have j63 := H60.2.2
            refine un2_i ?_
            have hR64 : wellR w a.toInt b.toInt = (Int32.toInt r58) := by unfold wellR; (repeat' split) <;> omega
            exact hq _ _ _ _ _ _ ⟨⟨by omega, by omega⟩, hR64.symm, (by unfold wellW; rw [if_pos (by omega)]; exact e_0), (by unfold wellW; rw [if_pos (by omega)]; exact e_1), (by rw [hR64]; exact j62), (by rw [hR64]; exact j63)⟩


set_option maxRecDepth 100000 in
theorem s_X11_forgetz (aF_hearsay : Int32) (aF_wells : Int32) {w : Nat → Int} {U : UL} {rf : Nat → Int32} {g_kd : Nat → Int32} {g_hd : Nat → Int32} {g_wt : Nat → Int32} {g_dg : Int64} {g_ce : Nat → Int32} {g_bu : Nat → Int32} {g_cc : Int32} {g_co : Nat → Int32} {g_ea : Nat → Int32} {g_ls : Int32} {g_nc : Nat → Int32} {g_nl : Nat → Int32} {g_ns : Int32} {g_hu : Int32} {g_hc : Nat → Int32} {g_hl : Nat → Int32} {g_so : Nat → Int32} {g_we : Nat → Int32} {g_te : Nat → Int32} {g_lc : Int32} {g_fo : Int32} {gd_deed : Nat → Int32} {gd_whose : Nat → Int32} {gd_before : Nat → Int32} {gd_bucketsBefore : Nat → Int32} {gd_dayBefore : Nat → Int32} {gd_kept : Int32} {gd_latest : Int32} (h_aF_hearsay : 0 ≤ aF_hearsay.toInt ∧ aF_hearsay.toInt ≤ 8) (h_aF_wells : 0 ≤ aF_wells.toInt ∧ aF_wells.toInt ≤ 10) (e_0 : RXw g_kd g_hd g_wt g_dg g_ce g_bu g_cc g_co g_ea g_ls g_nc g_nl g_ns g_hu g_hc g_hl aF_hearsay g_so g_we aF_wells g_te g_lc g_fo w) (e_1 : RXu gd_deed gd_whose gd_before gd_bucketsBefore gd_dayBefore gd_kept gd_latest w U) (e_2 : DI gd_deed gd_whose gd_before gd_bucketsBefore gd_dayBefore) {Q : Int32 → (Int32 × Int32) → Prop} (hq : ∀ (r : Int32) (u_0 : Int32) (u_1 : Int32), (0 ≤ u_0.toInt ∧ u_0.toInt ≤ 8) ∧ (0 ≤ u_1.toInt ∧ u_1.toInt ≤ 10) ∧ (r.toInt = forgetR w) ∧ (RXw g_kd g_hd g_wt g_dg g_ce g_bu g_cc g_co g_ea g_ls g_nc g_nl g_ns g_hu g_hc g_hl u_0 g_so g_we u_1 g_te g_lc g_fo (forgetW w)) ∧ (RXu gd_deed gd_whose gd_before gd_bucketsBefore gd_dayBefore gd_kept gd_latest (forgetW w) (U)) → Q r (u_0, u_1)) : wp_X11_forget aF_hearsay aF_wells Q := by
  unfold wp_X11_forget
  have l_hs : aF_hearsay.toInt = w 3 := RXw.hs e_0
  have l_wl : aF_wells.toInt = w 4 := RXw.wl e_0
  have t1 : (Int32.toInt (aF_hearsay + aF_wells)) = (Int32.toInt aF_hearsay) + (Int32.toInt aF_wells) := add_z rfl rfl (by omega) (by omega)
  have k2 : Int32.toInt 0 = 0 := rfl
  have hR3 : forgetR w = (Int32.toInt (aF_hearsay + aF_wells)) := by unfold forgetR; (repeat' split) <;> omega
  exact hq _ _ _ ⟨(by decide), (by decide), hR3.symm, (by unfold forgetW; exact RXw.u_wl (RXw.u_hs e_0 rfl) rfl), (RXu.ext e_2 e_1 forgetW.u)⟩


set_option maxRecDepth 100000 in
theorem s_X11_forcez (a : Int32) (h0_site_world_lawCount : Int32) (h0_site_world_force : Int32) (f_h0_refusals : Nat → Int32) {w : Nat → Int} {U : UL} {rf : Nat → Int32} {g_kd : Nat → Int32} {g_hd : Nat → Int32} {g_wt : Nat → Int32} {g_dg : Int64} {g_ce : Nat → Int32} {g_bu : Nat → Int32} {g_cc : Int32} {g_co : Nat → Int32} {g_ea : Nat → Int32} {g_ls : Int32} {g_nc : Nat → Int32} {g_nl : Nat → Int32} {g_ns : Int32} {g_hu : Int32} {g_hc : Nat → Int32} {g_hl : Nat → Int32} {g_hs : Int32} {g_so : Nat → Int32} {g_we : Nat → Int32} {g_wl : Int32} {g_te : Nat → Int32} {gd_deed : Nat → Int32} {gd_whose : Nat → Int32} {gd_before : Nat → Int32} {gd_bucketsBefore : Nat → Int32} {gd_dayBefore : Nat → Int32} {gd_kept : Int32} {gd_latest : Int32} (h_h0_site_world_lawCount : 0 ≤ h0_site_world_lawCount.toInt ∧ h0_site_world_lawCount.toInt ≤ 6) (h_h0_site_world_force : (-1) ≤ h0_site_world_force.toInt ∧ h0_site_world_force.toInt ≤ 5) (e_0 : RXw g_kd g_hd g_wt g_dg g_ce g_bu g_cc g_co g_ea g_ls g_nc g_nl g_ns g_hu g_hc g_hl g_hs g_so g_we g_wl g_te h0_site_world_lawCount h0_site_world_force w) (e_1 : RXu gd_deed gd_whose gd_before gd_bucketsBefore gd_dayBefore gd_kept gd_latest w U) (e_2 : DI gd_deed gd_whose gd_before gd_bucketsBefore gd_dayBefore) (e_3 : RF f_h0_refusals rf) {Q : Int32 → (Int32 × Int32 × (Nat → Int32)) → Prop} (hq : ∀ (r : Int32) (u_0 : Int32) (u_1 : Int32) (u_2 : Nat → Int32), ((-1) ≤ u_1.toInt ∧ u_1.toInt ≤ 5) ∧ (r.toInt = forceR w a.toInt) ∧ (RXw g_kd g_hd g_wt g_dg g_ce g_bu g_cc g_co g_ea g_ls g_nc g_nl g_ns g_hu g_hc g_hl g_hs g_so g_we g_wl g_te h0_site_world_lawCount u_1 (forceW w a.toInt)) ∧ (RXu gd_deed gd_whose gd_before gd_bucketsBefore gd_dayBefore gd_kept gd_latest (forceW w a.toInt) (U)) ∧ (u_0.toInt = tlS (forceB w a.toInt)) ∧ (RF u_2 (tlR rf (forceB w a.toInt))) → Q r (u_0, u_1, u_2)) : wp_X11_force a h0_site_world_lawCount h0_site_world_force f_h0_refusals Q := by
  unfold wp_X11_force
  have l_lc : h0_site_world_lawCount.toInt = w 5 := RXw.lc e_0
  have l_fo : h0_site_world_force.toInt = w 6 := RXw.fo e_0
  refine o_X10_hasLaw _ _ _ ?_
  by_cases c1 : a < (-1)
  · refine br1 c1 ?_
    have d2 := lt_z (x := (Int32.toInt a)) (y := (-1)) rfl (by decide) c1
    refine br1 (by decide) ?_
    have k3 : Int32.toInt (-2) = (-2) := (by decide)
    refine s_X11_settlez (-2) (f_h0_refusals) (by decide) e_3 (fun r4 u5_0 u5_1 H6 => ?_)
    have j7 := H6.1
    have j8 := H6.2.1
    have j9 := H6.2.2
    refine un2_i ?_
    have hR10 : forceR w a.toInt = (Int32.toInt r4) := by unfold forceR; (repeat' split) <;> omega
    have hB11 : forceB w a.toInt = -2 := by unfold forceB; (repeat' split) <;> omega
    exact hq _ _ _ _ ⟨⟨by omega, by omega⟩, hR10.symm, (by unfold forceW; rw [if_pos (by omega)]; exact e_0), (by unfold forceW; rw [if_pos (by omega)]; exact e_1), (by rw [hB11]; have q := j8; rw [show (Int32.toInt r4) = -2 by omega] at q; exact q), (by rw [hB11]; have q := j9; rw [show (Int32.toInt r4) = -2 by omega] at q; exact q)⟩
  · refine br0 c1 ?_
    have d12 := nlt_z (x := (Int32.toInt a)) (y := (-1)) rfl (by decide) c1
    by_cases c13 : h0_site_world_lawCount ≤ a
    · refine br1 c13 ?_
      have d14 := le_z (x := (Int32.toInt h0_site_world_lawCount)) (y := (Int32.toInt a)) rfl rfl c13
      refine br1 (by decide) ?_
      have k15 : Int32.toInt (-2) = (-2) := (by decide)
      refine s_X11_settlez (-2) (f_h0_refusals) (by decide) e_3 (fun r16 u17_0 u17_1 H18 => ?_)
      have j19 := H18.1
      have j20 := H18.2.1
      have j21 := H18.2.2
      refine un2_i ?_
      have hR22 : forceR w a.toInt = (Int32.toInt r16) := by unfold forceR; (repeat' split) <;> omega
      have hB23 : forceB w a.toInt = -2 := by unfold forceB; (repeat' split) <;> omega
      exact hq _ _ _ _ ⟨⟨by omega, by omega⟩, hR22.symm, (by unfold forceW; rw [if_pos (by omega)]; exact e_0), (by unfold forceW; rw [if_pos (by omega)]; exact e_1), (by rw [hB23]; have q := j20; rw [show (Int32.toInt r16) = -2 by omega] at q; exact q), (by rw [hB23]; have q := j21; rw [show (Int32.toInt r16) = -2 by omega] at q; exact q)⟩
    · refine br0 c13 ?_
      have d24 := nle_z (x := (Int32.toInt h0_site_world_lawCount)) (y := (Int32.toInt a)) rfl rfl c13
      refine br0 (by decide) ?_
      have k25 : Int32.toInt 0 = 0 := rfl
      have hR26 : forceR w a.toInt = (Int32.toInt h0_site_world_force) := by unfold forceR; (repeat' split) <;> omega
      have hB27 : forceB w a.toInt = 0 := by unfold forceB; (repeat' split) <;> omega
      exact hq _ _ _ _ ⟨⟨by omega, by omega⟩, hR26.symm, (by unfold forceW; rw [if_neg (by omega)]; exact RXw.u_fo e_0 rfl), (by unfold forceW; rw [if_neg (by omega)]; exact RXu.ext e_2 e_1 (fun j h7 h1 => uI_n (by omega))), (by rw [hB27]; rfl), (by rw [hB27]; exact e_3)⟩

