set_option maxRecDepth 100000 in
theorem sl_X0_reckon_14 (h0_cell : Int32) (h0_shaft : Int32) (h0_kind : Int32) (h0_done : Int32) (h0_latest : Int32) (h0_value : Int32) (p0_length : Int32) (n_p0_code : Nat) (f_p0_code : Nat → Int32) (h0_world_folk_listeners : Int32) (f_h0_world_folk_column : Nat → Int32) (f_h0_world_rock_hard : Nat → Int32) (f_h0_world_rock_water : Nat → Int32) (f_h0_world_term : Nat → Int32) (h0_world_crew_count : Int32) (f_h0_world_crew_cell : Nat → Int32) (f_h0_world_crew_buckets : Nat → Int32) (h_h0_cell : 0 ≤ h0_cell.toInt ∧ h0_cell.toInt ≤ 39) (h_p0_length : 0 ≤ p0_length.toInt ∧ p0_length.toInt ≤ 400) (h_f_p0_code : CD f_p0_code) (h_h0_world_folk_listeners : 0 ≤ h0_world_folk_listeners.toInt ∧ h0_world_folk_listeners.toInt ≤ 5) (h_f_h0_world_folk_column : CO f_h0_world_folk_column) (h_f_h0_world_rock_hard : HA f_h0_world_rock_hard) (h_f_h0_world_rock_water : WA f_h0_world_rock_water) (h_f_h0_world_term : TE f_h0_world_term) (h_h0_world_crew_count : 0 ≤ h0_world_crew_count.toInt ∧ h0_world_crew_count.toInt ≤ 6) (h_f_h0_world_crew_cell : CE f_h0_world_crew_cell) (h_f_h0_world_crew_buckets : BU f_h0_world_crew_buckets) (z_n_p0_code : p0_length.toInt ≤ (n_p0_code : Int)) {Q : Int32 → (Int32 × (Nat → Int64)) → Prop} (hq : ∀ (r : Int32) (u_0 : Int32) (u_1 : Nat → Int64), (0 ≤ r.toInt ∧ r.toInt ≤ 1) → Q r (u_0, u_1)) (Qb : Int32 → Int32 → Int32 → (Nat → Int64) → Prop) (KX : ∀ (x_14_0 : Int32) (x_14_1 : Int32) (x_14_2 : Int32) (x_14_3 : Nat → Int64), (0 ≤ x_14_0.toInt ∧ x_14_0.toInt ≤ 400) ∧ ((-1) ≤ x_14_2.toInt ∧ x_14_2.toInt ≤ 63) → Qb x_14_0 x_14_1 x_14_2 x_14_3) : ∀ (n : Nat) (x_14_0 : Int32) (x_14_1 : Int32) (x_14_2 : Int32) (x_14_3 : Nat → Int64), (0 ≤ x_14_0.toInt ∧ x_14_0.toInt ≤ 400) ∧ ((-1) ≤ x_14_2.toInt ∧ x_14_2.toInt ≤ 63) → 401 - x_14_0.toInt < (n : Int) → wl_X0_reckon_14 h0_cell h0_shaft h0_kind h0_done h0_latest h0_value p0_length n_p0_code f_p0_code h0_world_folk_listeners f_h0_world_folk_column f_h0_world_rock_hard f_h0_world_rock_water f_h0_world_term h0_world_crew_count f_h0_world_crew_cell f_h0_world_crew_buckets Q Qb n x_14_0 x_14_1 x_14_2 x_14_3 := by
  intro n
  induction n with
  | zero =>
    intro x_14_0 x_14_1 x_14_2 x_14_3 hI hm
    exfalso; have hm : 401 - x_14_0.toInt < 0 := hm; omega
  | succ n ih =>
    intro x_14_0 x_14_1 x_14_2 x_14_3 hI hm
    have hm : 401 - x_14_0.toInt < (n : Int) + 1 := by simpa using hm
    have h_x_14_0 := hI.1
    have h_x_14_2 := hI.2
    unfold wl_X0_reckon_14
    by_cases c1 : 400 ≤ x_14_0
    · refine br1 c1 ?_
      have d2 := le_z (a := 400) (b := x_14_0) (x := 400) (y := (Int32.toInt x_14_0)) rfl rfl c1
      exact KX _ _ _ _ ⟨⟨by omega, by omega⟩, ⟨by omega, by omega⟩⟩
    · refine br0 c1 ?_
      have d3 := nle_z (a := 400) (b := x_14_0) (x := 400) (y := (Int32.toInt x_14_0)) rfl rfl c1
      by_cases c4 : x_14_1 < 0
      · refine br1 c4 ?_
        have d5 := lt_z (a := x_14_1) (b := 0) (x := (Int32.toInt x_14_1)) (y := 0) rfl rfl c4
        exact KX _ _ _ _ ⟨⟨by omega, by omega⟩, ⟨by omega, by omega⟩⟩
      · refine br0 c4 ?_
        have d6 := nlt_z (a := x_14_1) (b := 0) (x := (Int32.toInt x_14_1)) (y := 0) rfl rfl c4
        by_cases c7 : p0_length ≤ x_14_1
        · refine br1 c7 ?_
          have d8 := le_z (a := p0_length) (b := x_14_1) (x := (Int32.toInt p0_length)) (y := (Int32.toInt x_14_1)) rfl rfl c7
          exact KX _ _ _ _ ⟨⟨by omega, by omega⟩, ⟨by omega, by omega⟩⟩
        · refine br0 c7 ?_
          have d9 := nle_z (a := p0_length) (b := x_14_1) (x := (Int32.toInt p0_length)) (y := (Int32.toInt x_14_1)) rfl rfl c7
          refine ⟨vpi (x := (Int32.toInt x_14_1)) rfl (by omega) (by omega), ?_⟩
          refine ⟨vpi (x := (Int32.toInt x_14_1)) rfl (by omega) (by omega), ?_⟩
          by_cases c10 : ((f_p0_code x_14_1.toNatClampNeg) &&& 63) = 0
          · refine br1 c10 ?_
            have g11 : 0 ≤ (Int32.toInt (f_p0_code x_14_1.toNatClampNeg)) ∧ (Int32.toInt (f_p0_code x_14_1.toNatClampNeg)) ≤ 65535 := CD.at_0 h_f_p0_code (tnz (x := (Int32.toInt x_14_1)) rfl (by omega)) (by omega) (by omega)
            have t12 : 0 ≤ (Int32.toInt ((f_p0_code x_14_1.toNatClampNeg) &&& 63)) ∧ (Int32.toInt ((f_p0_code x_14_1.toNatClampNeg) &&& 63)) ≤ 63 := and_z (by decide)
            have d13 := eq_z (a := ((f_p0_code x_14_1.toNatClampNeg) &&& 63)) (b := 0) (x := (Int32.toInt ((f_p0_code x_14_1.toNatClampNeg) &&& 63))) (y := 0) rfl rfl c10
            by_cases c14 : x_14_2 = 0
            · refine br1 c14 ?_
              have d15 := eq_z (a := x_14_2) (b := 0) (x := (Int32.toInt x_14_2)) (y := 0) rfl rfl c14
              exact hq _ _ _ (by decide)
            · refine br0 c14 ?_
              have d16 := ne_z (a := x_14_2) (b := 0) (x := (Int32.toInt x_14_2)) (y := 0) rfl rfl c14
              exact hq _ _ _ (by decide)
          · refine br0 c10 ?_
            have g17 : 0 ≤ (Int32.toInt (f_p0_code x_14_1.toNatClampNeg)) ∧ (Int32.toInt (f_p0_code x_14_1.toNatClampNeg)) ≤ 65535 := CD.at_0 h_f_p0_code (tnz (x := (Int32.toInt x_14_1)) rfl (by omega)) (by omega) (by omega)
            have t18 : 0 ≤ (Int32.toInt ((f_p0_code x_14_1.toNatClampNeg) &&& 63)) ∧ (Int32.toInt ((f_p0_code x_14_1.toNatClampNeg) &&& 63)) ≤ 63 := and_z (by decide)
            have d19 := ne_z (a := ((f_p0_code x_14_1.toNatClampNeg) &&& 63)) (b := 0) (x := (Int32.toInt ((f_p0_code x_14_1.toNatClampNeg) &&& 63))) (y := 0) rfl rfl c10
            refine jn_s ?_
            by_cases c20 : ((f_p0_code x_14_1.toNatClampNeg) &&& 63) = 1
            · refine br1 c20 ?_
              have d21 := eq_z (a := ((f_p0_code x_14_1.toNatClampNeg) &&& 63)) (b := 1) (x := (Int32.toInt ((f_p0_code x_14_1.toNatClampNeg) &&& 63))) (y := 1) rfl rfl c20
              by_cases c22 : (x_14_2 + 1) < 64
              · refine br1 c22 ?_
                have t23 : (Int32.toInt (x_14_2 + 1)) = (Int32.toInt x_14_2) + 1 := add_z rfl rfl (by omega) (by omega)
                have d24 := lt_z (a := (x_14_2 + 1)) (b := 64) (x := (Int32.toInt (x_14_2 + 1))) (y := 64) rfl rfl c22
                refine br1 (z_eq (x := (Int32.toInt ((f_p0_code x_14_1.toNatClampNeg) &&& 63))) (y := 1) rfl rfl (by omega)) ?_
                refine ⟨vpi (x := (Int32.toInt (x_14_2 + 1))) rfl (by omega) (by omega), ?_⟩
                have t25 : (Int32.toInt (x_14_0 + 1)) = (Int32.toInt x_14_0) + 1 := add_z rfl rfl (by omega) (by omega)
                have t26 : (Int32.toInt (x_14_1 + 1)) = (Int32.toInt x_14_1) + 1 := add_z rfl rfl (by omega) (by omega)
                exact ih _ _ _ _ ⟨⟨by omega, by omega⟩, ⟨by omega, by omega⟩⟩ (by omega)
              · refine br0 c22 ?_
                have t27 : (Int32.toInt (x_14_2 + 1)) = (Int32.toInt x_14_2) + 1 := add_z rfl rfl (by omega) (by omega)
                have d28 := nlt_z (a := (x_14_2 + 1)) (b := 64) (x := (Int32.toInt (x_14_2 + 1))) (y := 64) rfl rfl c22
                exact hq _ _ _ (by decide)
            · refine br0 c20 ?_
              have d29 := ne_z (a := ((f_p0_code x_14_1.toNatClampNeg) &&& 63)) (b := 1) (x := (Int32.toInt ((f_p0_code x_14_1.toNatClampNeg) &&& 63))) (y := 1) rfl rfl c20
              by_cases c30 : ((f_p0_code x_14_1.toNatClampNeg) &&& 63) < 13
              · refine br1 c30 ?_
                have d31 := lt_z (a := ((f_p0_code x_14_1.toNatClampNeg) &&& 63)) (b := 13) (x := (Int32.toInt ((f_p0_code x_14_1.toNatClampNeg) &&& 63))) (y := 13) rfl rfl c30
                by_cases c32 : ((f_p0_code x_14_1.toNatClampNeg) &&& 63) < 10
                · refine br1 c32 ?_
                  have d33 := lt_z (a := ((f_p0_code x_14_1.toNatClampNeg) &&& 63)) (b := 10) (x := (Int32.toInt ((f_p0_code x_14_1.toNatClampNeg) &&& 63))) (y := 10) rfl rfl c32
                  by_cases c34 : 1 ≤ x_14_2
                  · refine br1 c34 ?_
                    have d35 := le_z (a := 1) (b := x_14_2) (x := 1) (y := (Int32.toInt x_14_2)) rfl rfl c34
                    obtain ⟨yg36, hyg36, tyg36⟩ : ∃ y : Int32, (x_14_2 + (-1)) = y ∧ Int32.toInt y = (Int32.toInt x_14_2) + (-1) := ⟨(x_14_2 + (-1)), rfl, add_z rfl (by decide) (by omega) (by omega)⟩
                    try rw [hyg36]
                    clear hyg36
                    refine ⟨vpi (x := (Int32.toInt yg36)) rfl (by omega) (by omega), ?_⟩
                    have t37 : (Int32.toInt (yg36 + 1)) = (Int32.toInt yg36) + 1 := add_z rfl rfl (by omega) (by omega)
                    refine ⟨vpi (x := (Int32.toInt (yg36 + 1))) rfl (by omega) (by omega), ?_⟩
                    refine s_X0_joined ((f_p0_code x_14_1.toNatClampNeg) &&& 63) (x_14_3 yg36.toNatClampNeg) (x_14_3 (yg36 + 1).toNatClampNeg)  (fun r38 H39 => ?_)
                    refine ⟨vpi (x := (Int32.toInt yg36)) rfl (by omega) (by omega), ?_⟩
                    refine ⟨vpi (x := (Int32.toInt yg36)) rfl (by omega) (by omega), ?_⟩
                    by_cases c40 : 0 < (lg_cmp r38 1000000000)
                    · refine br1 c40 ?_
                      have d41 := c_gt (a := r38) (b := 1000000000) (x := (Int64.toInt r38)) (y := 1000000000) rfl rfl c40
                      exact hq _ _ _ (by decide)
                    · refine br0 c40 ?_
                      have d42 := c_ngt (a := r38) (b := 1000000000) (x := (Int64.toInt r38)) (y := 1000000000) rfl rfl c40
                      refine ⟨vpi (x := (Int32.toInt yg36)) rfl (by omega) (by omega), ?_⟩
                      by_cases c43 : 0 ≤ (lg_cmp r38 (-1000000000))
                      · refine br1 c43 ?_
                        have d44 := c_ge (a := r38) (b := (-1000000000)) (x := (Int64.toInt r38)) (y := (-1000000000)) rfl (by decide +kernel) c43
                        have t45 : (Int32.toInt (x_14_0 + 1)) = (Int32.toInt x_14_0) + 1 := add_z rfl rfl (by omega) (by omega)
                        have t46 : (Int32.toInt (x_14_1 + 1)) = (Int32.toInt x_14_1) + 1 := add_z rfl rfl (by omega) (by omega)
                        exact ih _ _ _ _ ⟨⟨by omega, by omega⟩, ⟨by omega, by omega⟩⟩ (by omega)
                      · refine br0 c43 ?_
                        have d47 := c_nge (a := r38) (b := (-1000000000)) (x := (Int64.toInt r38)) (y := (-1000000000)) rfl (by decide +kernel) c43
                        exact hq _ _ _ (by decide)
                  · refine br0 c34 ?_
                    have d48 := nle_z (a := 1) (b := x_14_2) (x := 1) (y := (Int32.toInt x_14_2)) rfl rfl c34
                    exact hq _ _ _ (by decide)
                · refine br0 c32 ?_
                  have d49 := nlt_z (a := ((f_p0_code x_14_1.toNatClampNeg) &&& 63)) (b := 10) (x := (Int32.toInt ((f_p0_code x_14_1.toNatClampNeg) &&& 63))) (y := 10) rfl rfl c32
                  by_cases c50 : 0 ≤ x_14_2
                  · refine br1 c50 ?_
                    have d51 := le_z (a := 0) (b := x_14_2) (x := 0) (y := (Int32.toInt x_14_2)) rfl rfl c50
                    by_cases c52 : ((f_p0_code x_14_1.toNatClampNeg) &&& 63) = 10
                    · refine br1 c52 ?_
                      have d53 := eq_z (a := ((f_p0_code x_14_1.toNatClampNeg) &&& 63)) (b := 10) (x := (Int32.toInt ((f_p0_code x_14_1.toNatClampNeg) &&& 63))) (y := 10) rfl rfl c52
                      refine ⟨vpi (x := (Int32.toInt x_14_2)) rfl (by omega) (by omega), ?_⟩
                      refine ⟨vpi (x := (Int32.toInt x_14_2)) rfl (by omega) (by omega), ?_⟩
                      have t54 : (Int32.toInt (x_14_0 + 1)) = (Int32.toInt x_14_0) + 1 := add_z rfl rfl (by omega) (by omega)
                      have t55 : (Int32.toInt (x_14_1 + 1)) = (Int32.toInt x_14_1) + 1 := add_z rfl rfl (by omega) (by omega)
                      exact ih _ _ _ _ ⟨⟨by omega, by omega⟩, ⟨by omega, by omega⟩⟩ (by omega)
                    · refine br0 c52 ?_
                      have d56 := ne_z (a := ((f_p0_code x_14_1.toNatClampNeg) &&& 63)) (b := 10) (x := (Int32.toInt ((f_p0_code x_14_1.toNatClampNeg) &&& 63))) (y := 10) rfl rfl c52
                      refine ⟨vpi (x := (Int32.toInt x_14_2)) rfl (by omega) (by omega), ?_⟩
                      refine jn_s ?_
                      by_cases c57 : ((f_p0_code x_14_1.toNatClampNeg) &&& 63) = 12
                      · refine br1 c57 ?_
                        have d58 := eq_z (a := ((f_p0_code x_14_1.toNatClampNeg) &&& 63)) (b := 12) (x := (Int32.toInt ((f_p0_code x_14_1.toNatClampNeg) &&& 63))) (y := 12) rfl rfl c57
                        by_cases c59 : (lg_cmp (x_14_3 x_14_2.toNatClampNeg) ((1 : Int32).toInt64 : Int64)) = 0
                        · refine br1 c59 ?_
                          have d60 := c_eq (a := (x_14_3 x_14_2.toNatClampNeg)) (b := ((1 : Int32).toInt64 : Int64)) (x := (Int64.toInt (x_14_3 x_14_2.toNatClampNeg))) (y := 1) rfl rfl c59
                          have t61 : (Int32.toInt (x_14_0 + 1)) = (Int32.toInt x_14_0) + 1 := add_z rfl rfl (by omega) (by omega)
                          have t62 : (Int32.toInt ((f_p0_code x_14_1.toNatClampNeg) >>> ((6 : Int32) &&& 31))) = (Int32.toInt (f_p0_code x_14_1.toNatClampNeg)) / 64 := sr6_z
                          exact ih _ _ _ _ ⟨⟨by omega, by omega⟩, ⟨by omega, by omega⟩⟩ (by omega)
                        · refine br0 c59 ?_
                          have d63 := c_ne (a := (x_14_3 x_14_2.toNatClampNeg)) (b := ((1 : Int32).toInt64 : Int64)) (x := (Int64.toInt (x_14_3 x_14_2.toNatClampNeg))) (y := 1) rfl rfl c59
                          obtain ⟨yg64, hyg64, tyg64⟩ : ∃ y : Int32, (x_14_2 + (-1)) = y ∧ Int32.toInt y = (Int32.toInt x_14_2) + (-1) := ⟨(x_14_2 + (-1)), rfl, add_z rfl (by decide) (by omega) (by omega)⟩
                          try rw [hyg64]
                          clear hyg64
                          have t65 : (Int32.toInt (x_14_0 + 1)) = (Int32.toInt x_14_0) + 1 := add_z rfl rfl (by omega) (by omega)
                          have t66 : (Int32.toInt (x_14_1 + 1)) = (Int32.toInt x_14_1) + 1 := add_z rfl rfl (by omega) (by omega)
                          exact ih _ _ _ _ ⟨⟨by omega, by omega⟩, ⟨by omega, by omega⟩⟩ (by omega)
                      · refine br0 c57 ?_
                        have d67 := ne_z (a := ((f_p0_code x_14_1.toNatClampNeg) &&& 63)) (b := 12) (x := (Int32.toInt ((f_p0_code x_14_1.toNatClampNeg) &&& 63))) (y := 12) rfl rfl c57
                        by_cases c68 : (lg_cmp (x_14_3 x_14_2.toNatClampNeg) ((0 : Int32).toInt64 : Int64)) = 0
                        · refine br1 c68 ?_
                          have d69 := c_eq (a := (x_14_3 x_14_2.toNatClampNeg)) (b := ((0 : Int32).toInt64 : Int64)) (x := (Int64.toInt (x_14_3 x_14_2.toNatClampNeg))) (y := 0) rfl rfl c68
                          have t70 : (Int32.toInt (x_14_0 + 1)) = (Int32.toInt x_14_0) + 1 := add_z rfl rfl (by omega) (by omega)
                          have t71 : (Int32.toInt ((f_p0_code x_14_1.toNatClampNeg) >>> ((6 : Int32) &&& 31))) = (Int32.toInt (f_p0_code x_14_1.toNatClampNeg)) / 64 := sr6_z
                          exact ih _ _ _ _ ⟨⟨by omega, by omega⟩, ⟨by omega, by omega⟩⟩ (by omega)
                        · refine br0 c68 ?_
                          have d72 := c_ne (a := (x_14_3 x_14_2.toNatClampNeg)) (b := ((0 : Int32).toInt64 : Int64)) (x := (Int64.toInt (x_14_3 x_14_2.toNatClampNeg))) (y := 0) rfl rfl c68
                          obtain ⟨yg73, hyg73, tyg73⟩ : ∃ y : Int32, (x_14_2 + (-1)) = y ∧ Int32.toInt y = (Int32.toInt x_14_2) + (-1) := ⟨(x_14_2 + (-1)), rfl, add_z rfl (by decide) (by omega) (by omega)⟩
                          try rw [hyg73]
                          clear hyg73
                          have t74 : (Int32.toInt (x_14_0 + 1)) = (Int32.toInt x_14_0) + 1 := add_z rfl rfl (by omega) (by omega)
                          have t75 : (Int32.toInt (x_14_1 + 1)) = (Int32.toInt x_14_1) + 1 := add_z rfl rfl (by omega) (by omega)
                          exact ih _ _ _ _ ⟨⟨by omega, by omega⟩, ⟨by omega, by omega⟩⟩ (by omega)
                  · refine br0 c50 ?_
                    have d76 := nle_z (a := 0) (b := x_14_2) (x := 0) (y := (Int32.toInt x_14_2)) rfl rfl c50
                    exact hq _ _ _ (by decide)
              · refine br0 c30 ?_
                have d77 := nlt_z (a := ((f_p0_code x_14_1.toNatClampNeg) &&& 63)) (b := 13) (x := (Int32.toInt ((f_p0_code x_14_1.toNatClampNeg) &&& 63))) (y := 13) rfl rfl c30
                by_cases c78 : (x_14_2 + 1) < 64
                · refine br1 c78 ?_
                  have t79 : (Int32.toInt (x_14_2 + 1)) = (Int32.toInt x_14_2) + 1 := add_z rfl rfl (by omega) (by omega)
                  have d80 := lt_z (a := (x_14_2 + 1)) (b := 64) (x := (Int32.toInt (x_14_2 + 1))) (y := 64) rfl rfl c78
                  refine br0 (z_ne (x := (Int32.toInt ((f_p0_code x_14_1.toNatClampNeg) &&& 63))) (y := 1) rfl rfl (by omega)) ?_
                  have t81 : (Int32.toInt ((f_p0_code x_14_1.toNatClampNeg) >>> ((6 : Int32) &&& 31))) = (Int32.toInt (f_p0_code x_14_1.toNatClampNeg)) / 64 := sr6_z
                  refine s_X0_wordValue ((f_p0_code x_14_1.toNatClampNeg) &&& 63) ((f_p0_code x_14_1.toNatClampNeg) >>> ((6 : Int32) &&& 31)) h0_cell h0_shaft h0_kind h0_done h0_latest h0_world_folk_listeners (f_h0_world_folk_column) (f_h0_world_rock_hard) (f_h0_world_rock_water) (f_h0_world_term) h0_world_crew_count (f_h0_world_crew_cell) (f_h0_world_crew_buckets) ⟨by omega, by omega⟩ ⟨by omega, by omega⟩ ⟨by omega, by omega⟩ h_f_h0_world_folk_column h_f_h0_world_rock_hard h_f_h0_world_rock_water h_f_h0_world_term ⟨by omega, by omega⟩ h_f_h0_world_crew_cell h_f_h0_world_crew_buckets (fun r82 H83 => ?_)
                  refine ⟨vpi (x := (Int32.toInt (x_14_2 + 1))) rfl (by omega) (by omega), ?_⟩
                  have t84 : (Int32.toInt (x_14_0 + 1)) = (Int32.toInt x_14_0) + 1 := add_z rfl rfl (by omega) (by omega)
                  have t85 : (Int32.toInt (x_14_1 + 1)) = (Int32.toInt x_14_1) + 1 := add_z rfl rfl (by omega) (by omega)
                  exact ih _ _ _ _ ⟨⟨by omega, by omega⟩, ⟨by omega, by omega⟩⟩ (by omega)
                · refine br0 c78 ?_
                  have t86 : (Int32.toInt (x_14_2 + 1)) = (Int32.toInt x_14_2) + 1 := add_z rfl rfl (by omega) (by omega)
                  have d87 := nlt_z (a := (x_14_2 + 1)) (b := 64) (x := (Int32.toInt (x_14_2 + 1))) (y := 64) rfl rfl c78
                  exact hq _ _ _ (by decide)
set_option maxRecDepth 100000 in
theorem s_X0_reckon (b : Int32) (h0_cell : Int32) (h0_shaft : Int32) (h0_kind : Int32) (h0_done : Int32) (h0_latest : Int32) (h0_value : Int32) (p0_length : Int32) (n_p0_code : Nat) (f_p0_code : Nat → Int32) (f_h0_stack : Nat → Int64) (h0_world_folk_listeners : Int32) (f_h0_world_folk_column : Nat → Int32) (f_h0_world_rock_hard : Nat → Int32) (f_h0_world_rock_water : Nat → Int32) (f_h0_world_term : Nat → Int32) (h0_world_crew_count : Int32) (f_h0_world_crew_cell : Nat → Int32) (f_h0_world_crew_buckets : Nat → Int32) (h_h0_cell : 0 ≤ h0_cell.toInt ∧ h0_cell.toInt ≤ 39) (h_p0_length : 0 ≤ p0_length.toInt ∧ p0_length.toInt ≤ 400) (h_f_p0_code : CD f_p0_code) (h_h0_world_folk_listeners : 0 ≤ h0_world_folk_listeners.toInt ∧ h0_world_folk_listeners.toInt ≤ 5) (h_f_h0_world_folk_column : CO f_h0_world_folk_column) (h_f_h0_world_rock_hard : HA f_h0_world_rock_hard) (h_f_h0_world_rock_water : WA f_h0_world_rock_water) (h_f_h0_world_term : TE f_h0_world_term) (h_h0_world_crew_count : 0 ≤ h0_world_crew_count.toInt ∧ h0_world_crew_count.toInt ≤ 6) (h_f_h0_world_crew_cell : CE f_h0_world_crew_cell) (h_f_h0_world_crew_buckets : BU f_h0_world_crew_buckets) (e_0 : p0_length.toInt ≤ (n_p0_code : Int)) {Q : Int32 → (Int32 × (Nat → Int64)) → Prop} (hq : ∀ (r : Int32) (u_0 : Int32) (u_1 : Nat → Int64), (0 ≤ r.toInt ∧ r.toInt ≤ 1) → Q r (u_0, u_1)) : wp_X0_reckon b h0_cell h0_shaft h0_kind h0_done h0_latest h0_value p0_length n_p0_code f_p0_code f_h0_stack h0_world_folk_listeners f_h0_world_folk_column f_h0_world_rock_hard f_h0_world_rock_water f_h0_world_term h0_world_crew_count f_h0_world_crew_cell f_h0_world_crew_buckets Q := by
  unfold wp_X0_reckon
  have k3 : Int32.toInt 0 = 0 := rfl
  have k4 : Int32.toInt (-1) = (-1) := (by decide)
  refine sl_X0_reckon_14 h0_cell h0_shaft h0_kind h0_done h0_latest h0_value p0_length n_p0_code (f_p0_code) h0_world_folk_listeners (f_h0_world_folk_column) (f_h0_world_rock_hard) (f_h0_world_rock_water) (f_h0_world_term) h0_world_crew_count (f_h0_world_crew_cell) (f_h0_world_crew_buckets) ⟨by omega, by omega⟩ ⟨by omega, by omega⟩ h_f_p0_code ⟨by omega, by omega⟩ h_f_h0_world_folk_column h_f_h0_world_rock_hard h_f_h0_world_rock_water h_f_h0_world_term ⟨by omega, by omega⟩ h_f_h0_world_crew_cell h_f_h0_world_crew_buckets (by omega) hq _ (fun x1_0 x1_1 x1_2 x1_3 X2 => ?_) 1000000000000 0 b (-1) (f_h0_stack) ⟨(by decide), (by decide)⟩ (by omega)
  have j5 := X2.1
  have j6 := X2.2
  exact hq _ _ _ (by decide)

