set_option maxRecDepth 100000 in
theorem s_X11_at_T (a : Int32) (b : Int32) (h0_site_world : Nat) (h0_site_world_lawCount : Int32) (h0_site_world_force : Int32) (f_h0_site_world_laws : Nat → Option Nat) (h0_asker_world : Value) (h0_asker_law : Value) (h0_asker_cell : Int32) (h0_asker_shaft : Int32) (h0_asker_kind : Int32) (h0_asker_done : Int32) (h0_asker_latest : Int32) (h0_asker_value : Int32) (h0_site_world_rock_dug : Int64) (f_h0_site_world_rock_kind : Nat → Int32) (f_h0_site_world_rock_hard : Nat → Int32) (f_h0_site_world_rock_water : Nat → Int32) (t : Nat) (t_clauses : Int32) (t_length : Int32) (n_t_heads : Nat) (f_t_heads : Nat → Int32) (n_t_code : Nat) (f_t_code : Nat → Int32) (f_h0_asker_stack : Nat → Int64) (h0_site_world_folk_listeners : Int32) (f_h0_site_world_folk_column : Nat → Int32) (f_h0_site_world_term : Nat → Int32) (h0_site_world_crew_count : Int32) (f_h0_site_world_crew_cell : Nat → Int32) (f_h0_site_world_crew_buckets : Nat → Int32) (h_h0_site_world_lawCount : 0 ≤ h0_site_world_lawCount.toInt ∧ h0_site_world_lawCount.toInt ≤ 6) (h_h0_site_world_force : 0 ≤ h0_site_world_force.toInt ∧ h0_site_world_force.toInt ≤ 5) (h_h0_asker_cell : 0 ≤ h0_asker_cell.toInt ∧ h0_asker_cell.toInt ≤ 39) (h_f_h0_site_world_rock_kind : KI f_h0_site_world_rock_kind) (h_f_h0_site_world_rock_hard : HA f_h0_site_world_rock_hard) (h_f_h0_site_world_rock_water : WA f_h0_site_world_rock_water) (h_t_clauses : 0 ≤ t_clauses.toInt ∧ t_clauses.toInt ≤ 12) (h_t_length : 0 ≤ t_length.toInt ∧ t_length.toInt ≤ 400) (h_f_t_code : CD f_t_code) (h_h0_site_world_folk_listeners : 0 ≤ h0_site_world_folk_listeners.toInt ∧ h0_site_world_folk_listeners.toInt ≤ 5) (h_f_h0_site_world_folk_column : CO f_h0_site_world_folk_column) (h_f_h0_site_world_term : TE f_h0_site_world_term) (h_h0_site_world_crew_count : 0 ≤ h0_site_world_crew_count.toInt ∧ h0_site_world_crew_count.toInt ≤ 6) (h_f_h0_site_world_crew_cell : CE f_h0_site_world_crew_cell) (h_f_h0_site_world_crew_buckets : BU f_h0_site_world_crew_buckets) (e_0 : n_t_heads < 100000) (e_1 : t_length.toInt ≤ (n_t_code : Int)) (e_2 : h0_site_world_force.toInt < h0_site_world_lawCount.toInt) (e_3 : f_h0_site_world_laws (Int32.toNatClampNeg h0_site_world_force) = some t) {Q : Int32 → (Value × Value × Int32 × Int32 × Int32 × Int32 × (Nat → Int64)) → Prop} (hq : ∀ (r : Int32) (u_0 : Value) (u_1 : Value) (u_2 : Int32) (u_3 : Int32) (u_4 : Int32) (u_5 : Int32) (u_6 : Nat → Int64), (0 ≤ u_2.toInt ∧ u_2.toInt ≤ 39) → Q r (u_0, u_1, u_2, u_3, u_4, u_5, u_6)) : wp_X11_at_T a b h0_site_world h0_site_world_lawCount h0_site_world_force f_h0_site_world_laws h0_asker_world h0_asker_law h0_asker_cell h0_asker_shaft h0_asker_kind h0_asker_done h0_asker_latest h0_asker_value h0_site_world_rock_dug f_h0_site_world_rock_kind f_h0_site_world_rock_hard f_h0_site_world_rock_water t t_clauses t_length n_t_heads f_t_heads n_t_code f_t_code f_h0_asker_stack h0_site_world_folk_listeners f_h0_site_world_folk_column f_h0_site_world_term h0_site_world_crew_count f_h0_site_world_crew_cell f_h0_site_world_crew_buckets Q := by
  unfold wp_X11_at_T
  refine o_X11_isWithin _ _ _ ?_
  by_cases c1 : a < 0
  · refine br1 c1 ?_
    have d2 := lt_z (a := a) (b := 0) (x := (Int32.toInt a)) (y := 0) rfl rfl c1
    refine br1 (by decide) ?_
    exact hq _ _ _ _ _ _ _ _ ⟨by omega, by omega⟩
  · refine br0 c1 ?_
    have d3 := nlt_z (a := a) (b := 0) (x := (Int32.toInt a)) (y := 0) rfl rfl c1
    by_cases c4 : 40 ≤ a
    · refine br1 c4 ?_
      have d5 := le_z (a := 40) (b := a) (x := 40) (y := (Int32.toInt a)) rfl rfl c4
      refine br1 (by decide) ?_
      exact hq _ _ _ _ _ _ _ _ ⟨by omega, by omega⟩
    · refine br0 c4 ?_
      have d6 := nle_z (a := 40) (b := a) (x := 40) (y := (Int32.toInt a)) rfl rfl c4
      refine br0 (by decide) ?_
      refine o_X10_lawInForce_T _ _ _ _ _ ?_
      refine o_X10_lawOf_T _ _ _ _ _ ?_
      refine br0 (z_nlt (x := (Int32.toInt h0_site_world_force)) (y := 0) rfl rfl (by omega)) ?_
      by_cases c7 : h0_site_world_lawCount ≤ h0_site_world_force
      · refine br1 c7 ?_
        have d8 := le_z (a := h0_site_world_lawCount) (b := h0_site_world_force) (x := (Int32.toInt h0_site_world_lawCount)) (y := (Int32.toInt h0_site_world_force)) rfl rfl c7
        exfalso
        omega
      · refine br0 c7 ?_
        have d9 := nle_z (a := h0_site_world_lawCount) (b := h0_site_world_force) (x := (Int32.toInt h0_site_world_lawCount)) (y := (Int32.toInt h0_site_world_force)) rfl rfl c7
        refine br0 (z_nle (x := 6) (y := (Int32.toInt h0_site_world_force)) rfl rfl (by omega)) ?_
        refine ⟨vpi (x := (Int32.toInt h0_site_world_force)) rfl (by omega) (by omega), ?_⟩
        refine ⟨by assumption, ?_⟩
        refine o_X0_turnTo_T _ ?_
        by_cases c10 : b = 0
        · refine br1 c10 ?_
          have d11 := eq_z (a := b) (b := 0) (x := (Int32.toInt b)) (y := 0) rfl rfl c10
          refine ⟨vpi (x := (Int32.toInt a)) rfl (by omega) (by omega), ?_⟩
          have g12 : 0 ≤ (Int32.toInt (f_h0_site_world_rock_kind a.toNatClampNeg)) ∧ (Int32.toInt (f_h0_site_world_rock_kind a.toNatClampNeg)) ≤ 3 := KI.at_0 h_f_h0_site_world_rock_kind (tnz (x := (Int32.toInt a)) rfl (by omega)) (by omega) (by omega)
          exact hq _ _ _ _ _ _ _ _ ⟨by omega, by omega⟩
        · refine br0 c10 ?_
          have d13 := ne_z (a := b) (b := 0) (x := (Int32.toInt b)) (y := 0) rfl rfl c10
          by_cases c14 : b = 1
          · refine br1 c14 ?_
            have d15 := eq_z (a := b) (b := 1) (x := (Int32.toInt b)) (y := 1) rfl rfl c14
            refine ⟨vpi (x := (Int32.toInt a)) rfl (by omega) (by omega), ?_⟩
            have g16 : 1 ≤ (Int32.toInt (f_h0_site_world_rock_hard a.toNatClampNeg)) ∧ (Int32.toInt (f_h0_site_world_rock_hard a.toNatClampNeg)) ≤ 9 := HA.at_0 h_f_h0_site_world_rock_hard (tnz (x := (Int32.toInt a)) rfl (by omega)) (by omega) (by omega)
            exact hq _ _ _ _ _ _ _ _ ⟨by omega, by omega⟩
          · refine br0 c14 ?_
            have d17 := ne_z (a := b) (b := 1) (x := (Int32.toInt b)) (y := 1) rfl rfl c14
            by_cases c18 : b = 2
            · refine br1 c18 ?_
              have d19 := eq_z (a := b) (b := 2) (x := (Int32.toInt b)) (y := 2) rfl rfl c18
              refine ⟨vpi (x := (Int32.toInt a)) rfl (by omega) (by omega), ?_⟩
              have g20 : 0 ≤ (Int32.toInt (f_h0_site_world_rock_water a.toNatClampNeg)) ∧ (Int32.toInt (f_h0_site_world_rock_water a.toNatClampNeg)) ≤ 99 := WA.at_0 h_f_h0_site_world_rock_water (tnz (x := (Int32.toInt a)) rfl (by omega)) (by omega) (by omega)
              exact hq _ _ _ _ _ _ _ _ ⟨by omega, by omega⟩
            · refine br0 c18 ?_
              have d21 := ne_z (a := b) (b := 2) (x := (Int32.toInt b)) (y := 2) rfl rfl c18
              by_cases c22 : b = 3
              · refine br1 c22 ?_
                have d23 := eq_z (a := b) (b := 3) (x := (Int32.toInt b)) (y := 3) rfl rfl c22
                refine o_X6_isDug _ _ _ ?_
                by_cases c24 : (lg_cmp ((h0_site_world_rock_dug >>> (a.toInt64 &&& 63)) &&& 1) 0) = 0
                · refine br1 c24 ?_
                  have d25 := c_eq (a := ((h0_site_world_rock_dug >>> (a.toInt64 &&& 63)) &&& 1)) (b := 0) (x := (Int64.toInt ((h0_site_world_rock_dug >>> (a.toInt64 &&& 63)) &&& 1))) (y := 0) rfl rfl c24
                  refine br1 (by decide) ?_
                  exact hq _ _ _ _ _ _ _ _ ⟨by omega, by omega⟩
                · refine br0 c24 ?_
                  have d26 := c_ne (a := ((h0_site_world_rock_dug >>> (a.toInt64 &&& 63)) &&& 1)) (b := 0) (x := (Int64.toInt ((h0_site_world_rock_dug >>> (a.toInt64 &&& 63)) &&& 1))) (y := 0) rfl rfl c24
                  refine br0 (by decide) ?_
                  exact hq _ _ _ _ _ _ _ _ ⟨by omega, by omega⟩
              · refine br0 c22 ?_
                have d27 := ne_z (a := b) (b := 3) (x := (Int32.toInt b)) (y := 3) rfl rfl c22
                by_cases c28 : b = 4
                · refine br1 c28 ?_
                  have d29 := eq_z (a := b) (b := 4) (x := (Int32.toInt b)) (y := 4) rfl rfl c28
                  refine ⟨vpi (x := (Int32.toInt a)) rfl (by omega) (by omega), ?_⟩
                  refine s_X0_saysOf_T a (f_h0_site_world_rock_kind a.toNatClampNeg) h0_asker_done h0_asker_latest h0_asker_value t_clauses t_length n_t_heads (f_t_heads) n_t_code (f_t_code) (f_h0_asker_stack) h0_site_world_folk_listeners (f_h0_site_world_folk_column) (f_h0_site_world_rock_hard) (f_h0_site_world_rock_water) (f_h0_site_world_term) h0_site_world_crew_count (f_h0_site_world_crew_cell) (f_h0_site_world_crew_buckets) ⟨by omega, by omega⟩ ⟨by omega, by omega⟩ ⟨by omega, by omega⟩ h_f_t_code ⟨by omega, by omega⟩ h_f_h0_site_world_folk_column h_f_h0_site_world_rock_hard h_f_h0_site_world_rock_water h_f_h0_site_world_term ⟨by omega, by omega⟩ h_f_h0_site_world_crew_cell h_f_h0_site_world_crew_buckets (by omega) (by omega) (fun r30 u31_0 u31_1 u31_2 u31_3 u31_4 H32 => ?_)
                  have j33 := H32.1
                  have j34 := H32.2
                  refine un5_i ?_
                  exact hq _ _ _ _ _ _ _ _ ⟨by omega, by omega⟩
                · refine br0 c28 ?_
                  have d35 := ne_z (a := b) (b := 4) (x := (Int32.toInt b)) (y := 4) rfl rfl c28
                  by_cases c36 : b = 5
                  · refine br1 c36 ?_
                    have d37 := eq_z (a := b) (b := 5) (x := (Int32.toInt b)) (y := 5) rfl rfl c36
                    refine ⟨vpi (x := (Int32.toInt a)) rfl (by omega) (by omega), ?_⟩
                    refine s_X0_losesOf_T a (f_h0_site_world_rock_kind a.toNatClampNeg) h0_asker_done h0_asker_latest h0_asker_value t_clauses t_length n_t_heads (f_t_heads) n_t_code (f_t_code) (f_h0_asker_stack) h0_site_world_folk_listeners (f_h0_site_world_folk_column) (f_h0_site_world_rock_hard) (f_h0_site_world_rock_water) (f_h0_site_world_term) h0_site_world_crew_count (f_h0_site_world_crew_cell) (f_h0_site_world_crew_buckets) ⟨by omega, by omega⟩ ⟨by omega, by omega⟩ ⟨by omega, by omega⟩ h_f_t_code ⟨by omega, by omega⟩ h_f_h0_site_world_folk_column h_f_h0_site_world_rock_hard h_f_h0_site_world_rock_water h_f_h0_site_world_term ⟨by omega, by omega⟩ h_f_h0_site_world_crew_cell h_f_h0_site_world_crew_buckets (by omega) (by omega) (fun r38 u39_0 u39_1 u39_2 u39_3 u39_4 H40 => ?_)
                    have j41 := H40.1
                    have j42 := H40.2
                    refine un5_i ?_
                    exact hq _ _ _ _ _ _ _ _ ⟨by omega, by omega⟩
                  · refine br0 c36 ?_
                    have d43 := ne_z (a := b) (b := 5) (x := (Int32.toInt b)) (y := 5) rfl rfl c36
                    exact hq _ _ _ _ _ _ _ _ ⟨by omega, by omega⟩


set_option maxRecDepth 100000 in
theorem s_X11_asks_T (a : Int32) (b : Int32) (d : Int32) (h0_site_world : Nat) (h0_site_world_lawCount : Int32) (h0_site_world_force : Int32) (h0_site_world_crew_count : Int32) (f_h0_site_world_laws : Nat → Option Nat) (h0_asker_world : Value) (h0_asker_law : Value) (h0_asker_cell : Int32) (h0_asker_shaft : Int32) (h0_asker_kind : Int32) (h0_asker_done : Int32) (h0_asker_latest : Int32) (h0_asker_value : Int32) (f_h0_site_world_rock_kind : Nat → Int32) (f_h0_site_world_rock_hard : Nat → Int32) (t : Nat) (t_clauses : Int32) (t_length : Int32) (n_t_heads : Nat) (f_t_heads : Nat → Int32) (n_t_code : Nat) (f_t_code : Nat → Int32) (f_h0_asker_stack : Nat → Int64) (h0_site_world_folk_listeners : Int32) (f_h0_site_world_folk_column : Nat → Int32) (f_h0_site_world_rock_water : Nat → Int32) (f_h0_site_world_term : Nat → Int32) (f_h0_site_world_crew_cell : Nat → Int32) (f_h0_site_world_crew_buckets : Nat → Int32) (h_h0_site_world_lawCount : 0 ≤ h0_site_world_lawCount.toInt ∧ h0_site_world_lawCount.toInt ≤ 6) (h_h0_site_world_force : 0 ≤ h0_site_world_force.toInt ∧ h0_site_world_force.toInt ≤ 5) (h_h0_site_world_crew_count : 0 ≤ h0_site_world_crew_count.toInt ∧ h0_site_world_crew_count.toInt ≤ 6) (h_h0_asker_cell : 0 ≤ h0_asker_cell.toInt ∧ h0_asker_cell.toInt ≤ 39) (h_f_h0_site_world_rock_kind : KI f_h0_site_world_rock_kind) (h_f_h0_site_world_rock_hard : HA f_h0_site_world_rock_hard) (h_t_clauses : 0 ≤ t_clauses.toInt ∧ t_clauses.toInt ≤ 12) (h_t_length : 0 ≤ t_length.toInt ∧ t_length.toInt ≤ 400) (h_f_t_code : CD f_t_code) (h_h0_site_world_folk_listeners : 0 ≤ h0_site_world_folk_listeners.toInt ∧ h0_site_world_folk_listeners.toInt ≤ 5) (h_f_h0_site_world_folk_column : CO f_h0_site_world_folk_column) (h_f_h0_site_world_rock_water : WA f_h0_site_world_rock_water) (h_f_h0_site_world_term : TE f_h0_site_world_term) (h_f_h0_site_world_crew_cell : CE f_h0_site_world_crew_cell) (h_f_h0_site_world_crew_buckets : BU f_h0_site_world_crew_buckets) (e_0 : n_t_heads < 100000) (e_1 : t_length.toInt ≤ (n_t_code : Int)) (e_2 : h0_site_world_force.toInt < h0_site_world_lawCount.toInt) (e_3 : f_h0_site_world_laws (Int32.toNatClampNeg h0_site_world_force) = some t) {Q : Int32 → (Value × Value × Int32 × Int32 × Int32 × Int32 × (Nat → Int64)) → Prop} (hq : ∀ (r : Int32) (u_0 : Value) (u_1 : Value) (u_2 : Int32) (u_3 : Int32) (u_4 : Int32) (u_5 : Int32) (u_6 : Nat → Int64), (0 ≤ u_2.toInt ∧ u_2.toInt ≤ 39) → Q r (u_0, u_1, u_2, u_3, u_4, u_5, u_6)) : wp_X11_asks_T a b d h0_site_world h0_site_world_lawCount h0_site_world_force h0_site_world_crew_count f_h0_site_world_laws h0_asker_world h0_asker_law h0_asker_cell h0_asker_shaft h0_asker_kind h0_asker_done h0_asker_latest h0_asker_value f_h0_site_world_rock_kind f_h0_site_world_rock_hard t t_clauses t_length n_t_heads f_t_heads n_t_code f_t_code f_h0_asker_stack h0_site_world_folk_listeners f_h0_site_world_folk_column f_h0_site_world_rock_water f_h0_site_world_term f_h0_site_world_crew_cell f_h0_site_world_crew_buckets Q := by
  unfold wp_X11_asks_T
  refine o_X11_isWithin _ _ _ ?_
  by_cases c1 : a < 0
  · refine br1 c1 ?_
    have d2 := lt_z (a := a) (b := 0) (x := (Int32.toInt a)) (y := 0) rfl rfl c1
    refine br1 (by decide) ?_
    exact hq _ _ _ _ _ _ _ _ ⟨by omega, by omega⟩
  · refine br0 c1 ?_
    have d3 := nlt_z (a := a) (b := 0) (x := (Int32.toInt a)) (y := 0) rfl rfl c1
    by_cases c4 : h0_site_world_crew_count ≤ a
    · refine br1 c4 ?_
      have d5 := le_z (a := h0_site_world_crew_count) (b := a) (x := (Int32.toInt h0_site_world_crew_count)) (y := (Int32.toInt a)) rfl rfl c4
      refine br1 (by decide) ?_
      exact hq _ _ _ _ _ _ _ _ ⟨by omega, by omega⟩
    · refine br0 c4 ?_
      have d6 := nle_z (a := h0_site_world_crew_count) (b := a) (x := (Int32.toInt h0_site_world_crew_count)) (y := (Int32.toInt a)) rfl rfl c4
      refine br0 (by decide) ?_
      refine o_X11_isWithin _ _ _ ?_
      by_cases c7 : b < 0
      · refine br1 c7 ?_
        have d8 := lt_z (a := b) (b := 0) (x := (Int32.toInt b)) (y := 0) rfl rfl c7
        refine br1 (by decide) ?_
        exact hq _ _ _ _ _ _ _ _ ⟨by omega, by omega⟩
      · refine br0 c7 ?_
        have d9 := nlt_z (a := b) (b := 0) (x := (Int32.toInt b)) (y := 0) rfl rfl c7
        by_cases c10 : 40 ≤ b
        · refine br1 c10 ?_
          have d11 := le_z (a := 40) (b := b) (x := 40) (y := (Int32.toInt b)) rfl rfl c10
          refine br1 (by decide) ?_
          exact hq _ _ _ _ _ _ _ _ ⟨by omega, by omega⟩
        · refine br0 c10 ?_
          have d12 := nle_z (a := 40) (b := b) (x := 40) (y := (Int32.toInt b)) rfl rfl c10
          refine br0 (by decide) ?_
          refine o_X10_lawInForce_T _ _ _ _ _ ?_
          refine o_X10_lawOf_T _ _ _ _ _ ?_
          refine br0 (z_nlt (x := (Int32.toInt h0_site_world_force)) (y := 0) rfl rfl (by omega)) ?_
          by_cases c13 : h0_site_world_lawCount ≤ h0_site_world_force
          · refine br1 c13 ?_
            have d14 := le_z (a := h0_site_world_lawCount) (b := h0_site_world_force) (x := (Int32.toInt h0_site_world_lawCount)) (y := (Int32.toInt h0_site_world_force)) rfl rfl c13
            exfalso
            omega
          · refine br0 c13 ?_
            have d15 := nle_z (a := h0_site_world_lawCount) (b := h0_site_world_force) (x := (Int32.toInt h0_site_world_lawCount)) (y := (Int32.toInt h0_site_world_force)) rfl rfl c13
            refine br0 (z_nle (x := 6) (y := (Int32.toInt h0_site_world_force)) rfl rfl (by omega)) ?_
            refine ⟨vpi (x := (Int32.toInt h0_site_world_force)) rfl (by omega) (by omega), ?_⟩
            refine ⟨by assumption, ?_⟩
            refine o_X0_turnTo_T _ ?_
            by_cases c16 : d = 0
            · refine br1 c16 ?_
              have d17 := eq_z (a := d) (b := 0) (x := (Int32.toInt d)) (y := 0) rfl rfl c16
              refine s_X0_digsOf_T a b h0_asker_done h0_asker_latest h0_asker_value (f_h0_site_world_rock_kind) (f_h0_site_world_rock_hard) t_clauses t_length n_t_heads (f_t_heads) n_t_code (f_t_code) (f_h0_asker_stack) h0_site_world_folk_listeners (f_h0_site_world_folk_column) (f_h0_site_world_rock_water) (f_h0_site_world_term) h0_site_world_crew_count (f_h0_site_world_crew_cell) (f_h0_site_world_crew_buckets) ⟨by omega, by omega⟩ h_f_h0_site_world_rock_kind h_f_h0_site_world_rock_hard ⟨by omega, by omega⟩ ⟨by omega, by omega⟩ h_f_t_code ⟨by omega, by omega⟩ h_f_h0_site_world_folk_column h_f_h0_site_world_rock_water h_f_h0_site_world_term ⟨by omega, by omega⟩ h_f_h0_site_world_crew_cell h_f_h0_site_world_crew_buckets (by omega) (by omega) (fun r18 u19_0 u19_1 u19_2 u19_3 u19_4 H20 => ?_)
              have j21 := H20.1
              have j22 := H20.2
              refine un5_i ?_
              exact hq _ _ _ _ _ _ _ _ ⟨by omega, by omega⟩
            · refine br0 c16 ?_
              have d23 := ne_z (a := d) (b := 0) (x := (Int32.toInt d)) (y := 0) rfl rfl c16
              by_cases c24 : d = 1
              · refine br1 c24 ?_
                have d25 := eq_z (a := d) (b := 1) (x := (Int32.toInt d)) (y := 1) rfl rfl c24
                refine s_X0_passesOf_T a b h0_asker_cell h0_asker_shaft h0_asker_kind h0_asker_done h0_asker_latest h0_asker_value (f_h0_site_world_rock_kind) t_clauses t_length n_t_heads (f_t_heads) n_t_code (f_t_code) (f_h0_asker_stack) h0_site_world_folk_listeners (f_h0_site_world_folk_column) (f_h0_site_world_rock_hard) (f_h0_site_world_rock_water) (f_h0_site_world_term) h0_site_world_crew_count (f_h0_site_world_crew_cell) (f_h0_site_world_crew_buckets) ⟨by omega, by omega⟩ ⟨by omega, by omega⟩ h_f_h0_site_world_rock_kind ⟨by omega, by omega⟩ ⟨by omega, by omega⟩ h_f_t_code ⟨by omega, by omega⟩ h_f_h0_site_world_folk_column h_f_h0_site_world_rock_hard h_f_h0_site_world_rock_water h_f_h0_site_world_term ⟨by omega, by omega⟩ h_f_h0_site_world_crew_cell h_f_h0_site_world_crew_buckets (by omega) (by omega) (fun r26 u27_0 u27_1 u27_2 u27_3 u27_4 H28 => ?_)
                have j29 := H28.1
                have j30 := H28.2
                refine un5_i ?_
                by_cases c31 : r26 = 0
                · refine br1 c31 ?_
                  have d32 := eq_z (a := r26) (b := 0) (x := (Int32.toInt r26)) (y := 0) rfl rfl c31
                  exact hq _ _ _ _ _ _ _ _ ⟨by omega, by omega⟩
                · refine br0 c31 ?_
                  have d33 := ne_z (a := r26) (b := 0) (x := (Int32.toInt r26)) (y := 0) rfl rfl c31
                  exact hq _ _ _ _ _ _ _ _ ⟨by omega, by omega⟩
              · refine br0 c24 ?_
                have d34 := ne_z (a := d) (b := 1) (x := (Int32.toInt d)) (y := 1) rfl rfl c24
                by_cases c35 : d = 2
                · refine br1 c35 ?_
                  have d36 := eq_z (a := d) (b := 2) (x := (Int32.toInt d)) (y := 2) rfl rfl c35
                  refine s_X0_givesOf_T a b h0_asker_done h0_asker_latest h0_asker_value (f_h0_site_world_rock_kind) t_clauses t_length n_t_heads (f_t_heads) n_t_code (f_t_code) (f_h0_asker_stack) h0_site_world_folk_listeners (f_h0_site_world_folk_column) (f_h0_site_world_rock_hard) (f_h0_site_world_rock_water) (f_h0_site_world_term) h0_site_world_crew_count (f_h0_site_world_crew_cell) (f_h0_site_world_crew_buckets) ⟨by omega, by omega⟩ h_f_h0_site_world_rock_kind ⟨by omega, by omega⟩ ⟨by omega, by omega⟩ h_f_t_code ⟨by omega, by omega⟩ h_f_h0_site_world_folk_column h_f_h0_site_world_rock_hard h_f_h0_site_world_rock_water h_f_h0_site_world_term ⟨by omega, by omega⟩ h_f_h0_site_world_crew_cell h_f_h0_site_world_crew_buckets (by omega) (by omega) (fun r37 u38_0 u38_1 u38_2 u38_3 u38_4 H39 => ?_)
                  have j40 := H39.1
                  have j41 := H39.2
                  refine un5_i ?_
                  exact hq _ _ _ _ _ _ _ _ ⟨by omega, by omega⟩
                · refine br0 c35 ?_
                  have d42 := ne_z (a := d) (b := 2) (x := (Int32.toInt d)) (y := 2) rfl rfl c35
                  exact hq _ _ _ _ _ _ _ _ ⟨by omega, by omega⟩


set_option maxRecDepth 100000 in
theorem s_X11_loud_T (a : Int32) (b : Int32) (h0_site_world : Nat) (h0_site_world_lawCount : Int32) (h0_site_world_force : Int32) (f_h0_site_world_laws : Nat → Option Nat) (h0_asker_world : Value) (h0_asker_law : Value) (h0_asker_cell : Int32) (h0_asker_shaft : Int32) (h0_asker_kind : Int32) (h0_asker_done : Int32) (h0_asker_latest : Int32) (h0_asker_value : Int32) (f_h0_site_world_rock_kind : Nat → Int32) (t : Nat) (t_clauses : Int32) (t_length : Int32) (n_t_heads : Nat) (f_t_heads : Nat → Int32) (n_t_code : Nat) (f_t_code : Nat → Int32) (f_h0_asker_stack : Nat → Int64) (h0_site_world_folk_listeners : Int32) (f_h0_site_world_folk_column : Nat → Int32) (f_h0_site_world_rock_hard : Nat → Int32) (f_h0_site_world_rock_water : Nat → Int32) (f_h0_site_world_term : Nat → Int32) (h0_site_world_crew_count : Int32) (f_h0_site_world_crew_cell : Nat → Int32) (f_h0_site_world_crew_buckets : Nat → Int32) (h_h0_site_world_lawCount : 0 ≤ h0_site_world_lawCount.toInt ∧ h0_site_world_lawCount.toInt ≤ 6) (h_h0_site_world_force : 0 ≤ h0_site_world_force.toInt ∧ h0_site_world_force.toInt ≤ 5) (h_h0_asker_cell : 0 ≤ h0_asker_cell.toInt ∧ h0_asker_cell.toInt ≤ 39) (h_f_h0_site_world_rock_kind : KI f_h0_site_world_rock_kind) (h_t_clauses : 0 ≤ t_clauses.toInt ∧ t_clauses.toInt ≤ 12) (h_t_length : 0 ≤ t_length.toInt ∧ t_length.toInt ≤ 400) (h_f_t_code : CD f_t_code) (h_h0_site_world_folk_listeners : 0 ≤ h0_site_world_folk_listeners.toInt ∧ h0_site_world_folk_listeners.toInt ≤ 5) (h_f_h0_site_world_folk_column : CO f_h0_site_world_folk_column) (h_f_h0_site_world_rock_hard : HA f_h0_site_world_rock_hard) (h_f_h0_site_world_rock_water : WA f_h0_site_world_rock_water) (h_f_h0_site_world_term : TE f_h0_site_world_term) (h_h0_site_world_crew_count : 0 ≤ h0_site_world_crew_count.toInt ∧ h0_site_world_crew_count.toInt ≤ 6) (h_f_h0_site_world_crew_cell : CE f_h0_site_world_crew_cell) (h_f_h0_site_world_crew_buckets : BU f_h0_site_world_crew_buckets) (e_0 : n_t_heads < 100000) (e_1 : t_length.toInt ≤ (n_t_code : Int)) (e_2 : h0_site_world_force.toInt < h0_site_world_lawCount.toInt) (e_3 : f_h0_site_world_laws (Int32.toNatClampNeg h0_site_world_force) = some t) {Q : Int32 → (Value × Value × Int32 × Int32 × Int32 × Int32 × (Nat → Int64)) → Prop} (hq : ∀ (r : Int32) (u_0 : Value) (u_1 : Value) (u_2 : Int32) (u_3 : Int32) (u_4 : Int32) (u_5 : Int32) (u_6 : Nat → Int64), (0 ≤ u_2.toInt ∧ u_2.toInt ≤ 39) → Q r (u_0, u_1, u_2, u_3, u_4, u_5, u_6)) : wp_X11_loud_T a b h0_site_world h0_site_world_lawCount h0_site_world_force f_h0_site_world_laws h0_asker_world h0_asker_law h0_asker_cell h0_asker_shaft h0_asker_kind h0_asker_done h0_asker_latest h0_asker_value f_h0_site_world_rock_kind t t_clauses t_length n_t_heads f_t_heads n_t_code f_t_code f_h0_asker_stack h0_site_world_folk_listeners f_h0_site_world_folk_column f_h0_site_world_rock_hard f_h0_site_world_rock_water f_h0_site_world_term h0_site_world_crew_count f_h0_site_world_crew_cell f_h0_site_world_crew_buckets Q := by
  unfold wp_X11_loud_T
  refine o_X11_isWithin _ _ _ ?_
  by_cases c1 : a < 0
  · refine br1 c1 ?_
    have d2 := lt_z (a := a) (b := 0) (x := (Int32.toInt a)) (y := 0) rfl rfl c1
    refine br1 (by decide) ?_
    exact hq _ _ _ _ _ _ _ _ ⟨by omega, by omega⟩
  · refine br0 c1 ?_
    have d3 := nlt_z (a := a) (b := 0) (x := (Int32.toInt a)) (y := 0) rfl rfl c1
    by_cases c4 : 40 ≤ a
    · refine br1 c4 ?_
      have d5 := le_z (a := 40) (b := a) (x := 40) (y := (Int32.toInt a)) rfl rfl c4
      refine br1 (by decide) ?_
      exact hq _ _ _ _ _ _ _ _ ⟨by omega, by omega⟩
    · refine br0 c4 ?_
      have d6 := nle_z (a := 40) (b := a) (x := 40) (y := (Int32.toInt a)) rfl rfl c4
      refine br0 (by decide) ?_
      refine o_X11_isWithin _ _ _ ?_
      by_cases c7 : b < 0
      · refine br1 c7 ?_
        have d8 := lt_z (a := b) (b := 0) (x := (Int32.toInt b)) (y := 0) rfl rfl c7
        refine br1 (by decide) ?_
        exact hq _ _ _ _ _ _ _ _ ⟨by omega, by omega⟩
      · refine br0 c7 ?_
        have d9 := nlt_z (a := b) (b := 0) (x := (Int32.toInt b)) (y := 0) rfl rfl c7
        by_cases c10 : 8 ≤ b
        · refine br1 c10 ?_
          have d11 := le_z (a := 8) (b := b) (x := 8) (y := (Int32.toInt b)) rfl rfl c10
          refine br1 (by decide) ?_
          exact hq _ _ _ _ _ _ _ _ ⟨by omega, by omega⟩
        · refine br0 c10 ?_
          have d12 := nle_z (a := 8) (b := b) (x := 8) (y := (Int32.toInt b)) rfl rfl c10
          refine br0 (by decide) ?_
          refine o_X10_lawInForce_T _ _ _ _ _ ?_
          refine o_X10_lawOf_T _ _ _ _ _ ?_
          refine br0 (z_nlt (x := (Int32.toInt h0_site_world_force)) (y := 0) rfl rfl (by omega)) ?_
          by_cases c13 : h0_site_world_lawCount ≤ h0_site_world_force
          · refine br1 c13 ?_
            have d14 := le_z (a := h0_site_world_lawCount) (b := h0_site_world_force) (x := (Int32.toInt h0_site_world_lawCount)) (y := (Int32.toInt h0_site_world_force)) rfl rfl c13
            exfalso
            omega
          · refine br0 c13 ?_
            have d15 := nle_z (a := h0_site_world_lawCount) (b := h0_site_world_force) (x := (Int32.toInt h0_site_world_lawCount)) (y := (Int32.toInt h0_site_world_force)) rfl rfl c13
            refine br0 (z_nle (x := 6) (y := (Int32.toInt h0_site_world_force)) rfl rfl (by omega)) ?_
            refine ⟨vpi (x := (Int32.toInt h0_site_world_force)) rfl (by omega) (by omega), ?_⟩
            refine ⟨by assumption, ?_⟩
            refine o_X0_turnTo_T _ ?_
            refine ⟨vpi (x := (Int32.toInt a)) rfl (by omega) (by omega), ?_⟩
            refine s_X0_saysOf_T a (f_h0_site_world_rock_kind a.toNatClampNeg) h0_asker_done h0_asker_latest h0_asker_value t_clauses t_length n_t_heads (f_t_heads) n_t_code (f_t_code) (f_h0_asker_stack) h0_site_world_folk_listeners (f_h0_site_world_folk_column) (f_h0_site_world_rock_hard) (f_h0_site_world_rock_water) (f_h0_site_world_term) h0_site_world_crew_count (f_h0_site_world_crew_cell) (f_h0_site_world_crew_buckets) ⟨by omega, by omega⟩ ⟨by omega, by omega⟩ ⟨by omega, by omega⟩ h_f_t_code ⟨by omega, by omega⟩ h_f_h0_site_world_folk_column h_f_h0_site_world_rock_hard h_f_h0_site_world_rock_water h_f_h0_site_world_term ⟨by omega, by omega⟩ h_f_h0_site_world_crew_cell h_f_h0_site_world_crew_buckets (by omega) (by omega) (fun r16 u17_0 u17_1 u17_2 u17_3 u17_4 H18 => ?_)
            have j19 := H18.1
            have j20 := H18.2
            refine un5_i ?_
            refine s_X11_stepsTo a b ⟨by omega, by omega⟩ ⟨by omega, by omega⟩ (fun r21 H22 => ?_)
            have j23 := H22
            refine s_X0_losesOf_T a (f_h0_site_world_rock_kind a.toNatClampNeg) h0_asker_done h0_asker_latest u17_3 t_clauses t_length n_t_heads (f_t_heads) n_t_code (f_t_code) (u17_4) h0_site_world_folk_listeners (f_h0_site_world_folk_column) (f_h0_site_world_rock_hard) (f_h0_site_world_rock_water) (f_h0_site_world_term) h0_site_world_crew_count (f_h0_site_world_crew_cell) (f_h0_site_world_crew_buckets) ⟨by omega, by omega⟩ ⟨by omega, by omega⟩ ⟨by omega, by omega⟩ h_f_t_code ⟨by omega, by omega⟩ h_f_h0_site_world_folk_column h_f_h0_site_world_rock_hard h_f_h0_site_world_rock_water h_f_h0_site_world_term ⟨by omega, by omega⟩ h_f_h0_site_world_crew_cell h_f_h0_site_world_crew_buckets (by omega) (by omega) (fun r24 u25_0 u25_1 u25_2 u25_3 u25_4 H26 => ?_)
            have j27 := H26.1
            have j28 := H26.2
            refine un5_i ?_
            have t29 : 0 ≤ (Int32.toInt (r21 * r24)) ∧ (Int32.toInt (r21 * r24)) ≤ 180 := mul_b (x := (Int32.toInt r21)) (y := (Int32.toInt r24)) (X := 20) (Y := 9) rfl rfl (by omega) (by omega) (by omega) (by omega) (by decide)
            have t30 : (Int32.toInt (r16 - (r21 * r24))) = (Int32.toInt r16) - (Int32.toInt (r21 * r24)) := sub_z rfl rfl (by omega) (by omega)
            exact hq _ _ _ _ _ _ _ _ ⟨by omega, by omega⟩


set_option maxRecDepth 100000 in
theorem s_X3_measureCell_T (a : Int32) (h0_asker_done : Int32) (h0_asker_latest : Int32) (h0_asker_value : Int32) (h0_asker_law_clauses : Int32) (h0_asker_law_length : Int32) (n_h0_asker_law_heads : Nat) (f_h0_asker_law_heads : Nat → Int32) (n_h0_asker_law_code : Nat) (f_h0_asker_law_code : Nat → Int32) (f_h0_asker_stack : Nat → Int64) (h0_asker_world_folk_listeners : Int32) (f_h0_asker_world_folk_column : Nat → Int32) (f_h0_asker_world_rock_hard : Nat → Int32) (f_h0_asker_world_rock_water : Nat → Int32) (f_h0_asker_world_term : Nat → Int32) (h0_asker_world_crew_count : Int32) (f_h0_asker_world_crew_cell : Nat → Int32) (f_h0_asker_world_crew_buckets : Nat → Int32) (f_h0_said : Nat → Int32) (f_h0_lost : Nat → Int32) (h_a : 0 ≤ a.toInt ∧ a.toInt ≤ 39) (h_h0_asker_law_clauses : 0 ≤ h0_asker_law_clauses.toInt ∧ h0_asker_law_clauses.toInt ≤ 12) (h_h0_asker_law_length : 0 ≤ h0_asker_law_length.toInt ∧ h0_asker_law_length.toInt ≤ 400) (h_f_h0_asker_law_code : CD f_h0_asker_law_code) (h_h0_asker_world_folk_listeners : 0 ≤ h0_asker_world_folk_listeners.toInt ∧ h0_asker_world_folk_listeners.toInt ≤ 5) (h_f_h0_asker_world_folk_column : CO f_h0_asker_world_folk_column) (h_f_h0_asker_world_rock_hard : HA f_h0_asker_world_rock_hard) (h_f_h0_asker_world_rock_water : WA f_h0_asker_world_rock_water) (h_f_h0_asker_world_term : TE f_h0_asker_world_term) (h_h0_asker_world_crew_count : 0 ≤ h0_asker_world_crew_count.toInt ∧ h0_asker_world_crew_count.toInt ≤ 6) (h_f_h0_asker_world_crew_cell : CE f_h0_asker_world_crew_cell) (h_f_h0_asker_world_crew_buckets : BU f_h0_asker_world_crew_buckets) (h_f_h0_said : SA f_h0_said) (h_f_h0_lost : LO f_h0_lost) (e_0 : n_h0_asker_law_heads < 100000) (e_1 : h0_asker_law_length.toInt ≤ (n_h0_asker_law_code : Int)) {Q : (Int32 × Int32 × Int32 × Int32 × (Nat → Int64) × (Nat → Int32) × (Nat → Int32)) → Prop} (hq : ∀ (u_0 : Int32) (u_1 : Int32) (u_2 : Int32) (u_3 : Int32) (u_4 : Nat → Int64) (u_5 : Nat → Int32) (u_6 : Nat → Int32), (0 ≤ u_0.toInt ∧ u_0.toInt ≤ 39) ∧ (SA u_5) ∧ (LO u_6) → Q (u_0, u_1, u_2, u_3, u_4, u_5, u_6)) : wp_X3_measureCell_T a h0_asker_done h0_asker_latest h0_asker_value h0_asker_law_clauses h0_asker_law_length n_h0_asker_law_heads f_h0_asker_law_heads n_h0_asker_law_code f_h0_asker_law_code f_h0_asker_stack h0_asker_world_folk_listeners f_h0_asker_world_folk_column f_h0_asker_world_rock_hard f_h0_asker_world_rock_water f_h0_asker_world_term h0_asker_world_crew_count f_h0_asker_world_crew_cell f_h0_asker_world_crew_buckets f_h0_said f_h0_lost Q := by
  unfold wp_X3_measureCell_T
  refine s_X0_saysOf_T a 3 h0_asker_done h0_asker_latest h0_asker_value h0_asker_law_clauses h0_asker_law_length n_h0_asker_law_heads (f_h0_asker_law_heads) n_h0_asker_law_code (f_h0_asker_law_code) (f_h0_asker_stack) h0_asker_world_folk_listeners (f_h0_asker_world_folk_column) (f_h0_asker_world_rock_hard) (f_h0_asker_world_rock_water) (f_h0_asker_world_term) h0_asker_world_crew_count (f_h0_asker_world_crew_cell) (f_h0_asker_world_crew_buckets) ⟨by omega, by omega⟩ ⟨by omega, by omega⟩ ⟨by omega, by omega⟩ h_f_h0_asker_law_code ⟨by omega, by omega⟩ h_f_h0_asker_world_folk_column h_f_h0_asker_world_rock_hard h_f_h0_asker_world_rock_water h_f_h0_asker_world_term ⟨by omega, by omega⟩ h_f_h0_asker_world_crew_cell h_f_h0_asker_world_crew_buckets (by omega) (by omega) (fun r1 u2_0 u2_1 u2_2 u2_3 u2_4 H3 => ?_)
  have j4 := H3.1
  have j5 := H3.2
  refine un5_i ?_
  refine ⟨vpi (x := (Int32.toInt a)) rfl (by omega) (by omega), ?_⟩
  refine s_X0_losesOf_T a 3 h0_asker_done h0_asker_latest u2_3 h0_asker_law_clauses h0_asker_law_length n_h0_asker_law_heads (f_h0_asker_law_heads) n_h0_asker_law_code (f_h0_asker_law_code) (u2_4) h0_asker_world_folk_listeners (f_h0_asker_world_folk_column) (f_h0_asker_world_rock_hard) (f_h0_asker_world_rock_water) (f_h0_asker_world_term) h0_asker_world_crew_count (f_h0_asker_world_crew_cell) (f_h0_asker_world_crew_buckets) ⟨by omega, by omega⟩ ⟨by omega, by omega⟩ ⟨by omega, by omega⟩ h_f_h0_asker_law_code ⟨by omega, by omega⟩ h_f_h0_asker_world_folk_column h_f_h0_asker_world_rock_hard h_f_h0_asker_world_rock_water h_f_h0_asker_world_term ⟨by omega, by omega⟩ h_f_h0_asker_world_crew_cell h_f_h0_asker_world_crew_buckets (by omega) (by omega) (fun r6 u7_0 u7_1 u7_2 u7_3 u7_4 H8 => ?_)
  have j9 := H8.1
  have j10 := H8.2
  refine un5_i ?_
  refine ⟨vpi (x := (Int32.toInt a)) rfl (by omega) (by omega), ?_⟩
  have R11 : SA (upd f_h0_said a.toNatClampNeg r1) := SA.up_0 h_f_h0_said (tnz (x := (Int32.toInt a)) rfl (by omega)) (by omega) (by omega) (w := (Int32.toInt r1)) rfl (by omega) (by omega)
  have R12 : LO (upd f_h0_lost a.toNatClampNeg r6) := LO.up_0 h_f_h0_lost (tnz (x := (Int32.toInt a)) rfl (by omega)) (by omega) (by omega) (w := (Int32.toInt r6)) rfl (by omega) (by omega)
  exact hq _ _ _ _ _ _ _ ⟨⟨by omega, by omega⟩, R11, R12⟩


set_option maxRecDepth 100000 in
theorem sl_X3_measure_T_11 (h0_asker_done : Int32) (h0_asker_latest : Int32) (f_p0_rock_kind : Nat → Int32) (p1_clauses : Int32) (p1_length : Int32) (n_p1_heads : Nat) (f_p1_heads : Nat → Int32) (n_p1_code : Nat) (f_p1_code : Nat → Int32) (p0_folk_listeners : Int32) (f_p0_folk_column : Nat → Int32) (f_p0_rock_hard : Nat → Int32) (f_p0_rock_water : Nat → Int32) (f_p0_term : Nat → Int32) (p0_crew_count : Int32) (f_p0_crew_cell : Nat → Int32) (f_p0_crew_buckets : Nat → Int32) (h_f_p0_rock_kind : KI f_p0_rock_kind) (h_p1_clauses : 0 ≤ p1_clauses.toInt ∧ p1_clauses.toInt ≤ 12) (h_p1_length : 0 ≤ p1_length.toInt ∧ p1_length.toInt ≤ 400) (h_f_p1_code : CD f_p1_code) (h_p0_folk_listeners : 0 ≤ p0_folk_listeners.toInt ∧ p0_folk_listeners.toInt ≤ 5) (h_f_p0_folk_column : CO f_p0_folk_column) (h_f_p0_rock_hard : HA f_p0_rock_hard) (h_f_p0_rock_water : WA f_p0_rock_water) (h_f_p0_term : TE f_p0_term) (h_p0_crew_count : 0 ≤ p0_crew_count.toInt ∧ p0_crew_count.toInt ≤ 6) (h_f_p0_crew_cell : CE f_p0_crew_cell) (h_f_p0_crew_buckets : BU f_p0_crew_buckets) (z_n_p1_heads : n_p1_heads < 100000) (z_n_p1_code : p1_length.toInt ≤ (n_p1_code : Int)) (Qb : Int32 → (Nat → Int64) → (Nat → Int32) → (Nat → Int32) → Int32 → Int32 → Int32 → Int32 → Prop) (KX : ∀ (x_11_0 : Int32) (x_11_1 : Nat → Int64) (x_11_2 : Nat → Int32) (x_11_3 : Nat → Int32) (x_11_4 : Int32) (x_11_5 : Int32) (x_11_6 : Int32) (x_11_7 : Int32), (40 ≤ x_11_0.toInt ∧ x_11_0.toInt ≤ 40) ∧ (SA x_11_2) ∧ (LO x_11_3) ∧ (0 ≤ x_11_4.toInt ∧ x_11_4.toInt ≤ 39) → Qb x_11_0 x_11_1 x_11_2 x_11_3 x_11_4 x_11_5 x_11_6 x_11_7) : ∀ (n : Nat) (x_11_0 : Int32) (x_11_1 : Nat → Int64) (x_11_2 : Nat → Int32) (x_11_3 : Nat → Int32) (x_11_4 : Int32) (x_11_5 : Int32) (x_11_6 : Int32) (x_11_7 : Int32), (0 ≤ x_11_0.toInt ∧ x_11_0.toInt ≤ 40) ∧ (SA x_11_2) ∧ (LO x_11_3) ∧ (0 ≤ x_11_4.toInt ∧ x_11_4.toInt ≤ 39) → 41 - x_11_0.toInt < (n : Int) → wl_X3_measure_T_11 h0_asker_done h0_asker_latest f_p0_rock_kind p1_clauses p1_length n_p1_heads f_p1_heads n_p1_code f_p1_code p0_folk_listeners f_p0_folk_column f_p0_rock_hard f_p0_rock_water f_p0_term p0_crew_count f_p0_crew_cell f_p0_crew_buckets Qb n x_11_0 x_11_1 x_11_2 x_11_3 x_11_4 x_11_5 x_11_6 x_11_7 := by
  intro n
  induction n with
  | zero =>
    intro x_11_0 x_11_1 x_11_2 x_11_3 x_11_4 x_11_5 x_11_6 x_11_7 hI hm
    exfalso; have hm : 41 - x_11_0.toInt < 0 := hm; omega
  | succ n ih =>
    intro x_11_0 x_11_1 x_11_2 x_11_3 x_11_4 x_11_5 x_11_6 x_11_7 hI hm
    have hm : 41 - x_11_0.toInt < (n : Int) + 1 := by simpa using hm
    have h_x_11_0 := hI.1
    have h_x_11_2 := hI.2.1
    have h_x_11_3 := hI.2.2.1
    have h_x_11_4 := hI.2.2.2
    unfold wl_X3_measure_T_11
    by_cases c1 : 40 ≤ x_11_0
    · refine br1 c1 ?_
      have d2 := le_z (a := 40) (b := x_11_0) (x := 40) (y := (Int32.toInt x_11_0)) rfl rfl c1
      exact KX _ _ _ _ _ _ _ _ ⟨⟨by omega, by omega⟩, h_x_11_2, h_x_11_3, ⟨by omega, by omega⟩⟩
    · refine br0 c1 ?_
      have d3 := nle_z (a := 40) (b := x_11_0) (x := 40) (y := (Int32.toInt x_11_0)) rfl rfl c1
      refine ⟨vpi (x := (Int32.toInt x_11_0)) rfl (by omega) (by omega), ?_⟩
      by_cases c4 : (f_p0_rock_kind x_11_0.toNatClampNeg) = 3
      · refine br1 c4 ?_
        have g5 : 0 ≤ (Int32.toInt (f_p0_rock_kind x_11_0.toNatClampNeg)) ∧ (Int32.toInt (f_p0_rock_kind x_11_0.toNatClampNeg)) ≤ 3 := KI.at_0 h_f_p0_rock_kind (tnz (x := (Int32.toInt x_11_0)) rfl (by omega)) (by omega) (by omega)
        have d6 := eq_z (a := (f_p0_rock_kind x_11_0.toNatClampNeg)) (b := 3) (x := (Int32.toInt (f_p0_rock_kind x_11_0.toNatClampNeg))) (y := 3) rfl rfl c4
        refine s_X3_measureCell_T x_11_0 h0_asker_done h0_asker_latest x_11_7 p1_clauses p1_length n_p1_heads (f_p1_heads) n_p1_code (f_p1_code) (x_11_1) p0_folk_listeners (f_p0_folk_column) (f_p0_rock_hard) (f_p0_rock_water) (f_p0_term) p0_crew_count (f_p0_crew_cell) (f_p0_crew_buckets) (x_11_2) (x_11_3) ⟨by omega, by omega⟩ ⟨by omega, by omega⟩ ⟨by omega, by omega⟩ h_f_p1_code ⟨by omega, by omega⟩ h_f_p0_folk_column h_f_p0_rock_hard h_f_p0_rock_water h_f_p0_term ⟨by omega, by omega⟩ h_f_p0_crew_cell h_f_p0_crew_buckets h_x_11_2 h_x_11_3 (by omega) (by omega) (fun u7_0 u7_1 u7_2 u7_3 u7_4 u7_5 u7_6 H8 => ?_)
        have j9 := H8.1
        have j10 := H8.2.1
        have j11 := H8.2.2
        refine un7_i ?_
        have t12 : (Int32.toInt (x_11_0 + 1)) = (Int32.toInt x_11_0) + 1 := add_z rfl rfl (by omega) (by omega)
        exact ih _ _ _ _ _ _ _ _ ⟨⟨by omega, by omega⟩, j10, j11, ⟨by omega, by omega⟩⟩ (by omega)
      · refine br0 c4 ?_
        have g13 : 0 ≤ (Int32.toInt (f_p0_rock_kind x_11_0.toNatClampNeg)) ∧ (Int32.toInt (f_p0_rock_kind x_11_0.toNatClampNeg)) ≤ 3 := KI.at_0 h_f_p0_rock_kind (tnz (x := (Int32.toInt x_11_0)) rfl (by omega)) (by omega) (by omega)
        have d14 := ne_z (a := (f_p0_rock_kind x_11_0.toNatClampNeg)) (b := 3) (x := (Int32.toInt (f_p0_rock_kind x_11_0.toNatClampNeg))) (y := 3) rfl rfl c4
        have t15 : (Int32.toInt (x_11_0 + 1)) = (Int32.toInt x_11_0) + 1 := add_z rfl rfl (by omega) (by omega)
        exact ih _ _ _ _ _ _ _ _ ⟨⟨by omega, by omega⟩, h_x_11_2, h_x_11_3, ⟨by omega, by omega⟩⟩ (by omega)
set_option maxRecDepth 100000 in
theorem s_X3_measure_T (h0_asker_cell : Int32) (h0_asker_shaft : Int32) (h0_asker_kind : Int32) (h0_asker_done : Int32) (h0_asker_latest : Int32) (h0_asker_value : Int32) (f_p0_rock_kind : Nat → Int32) (p1_clauses : Int32) (p1_length : Int32) (n_p1_heads : Nat) (f_p1_heads : Nat → Int32) (n_p1_code : Nat) (f_p1_code : Nat → Int32) (f_h0_asker_stack : Nat → Int64) (p0_folk_listeners : Int32) (f_p0_folk_column : Nat → Int32) (f_p0_rock_hard : Nat → Int32) (f_p0_rock_water : Nat → Int32) (f_p0_term : Nat → Int32) (p0_crew_count : Int32) (f_p0_crew_cell : Nat → Int32) (f_p0_crew_buckets : Nat → Int32) (f_h0_said : Nat → Int32) (f_h0_lost : Nat → Int32) (h_h0_asker_cell : 0 ≤ h0_asker_cell.toInt ∧ h0_asker_cell.toInt ≤ 39) (h_f_p0_rock_kind : KI f_p0_rock_kind) (h_p1_clauses : 0 ≤ p1_clauses.toInt ∧ p1_clauses.toInt ≤ 12) (h_p1_length : 0 ≤ p1_length.toInt ∧ p1_length.toInt ≤ 400) (h_f_p1_code : CD f_p1_code) (h_p0_folk_listeners : 0 ≤ p0_folk_listeners.toInt ∧ p0_folk_listeners.toInt ≤ 5) (h_f_p0_folk_column : CO f_p0_folk_column) (h_f_p0_rock_hard : HA f_p0_rock_hard) (h_f_p0_rock_water : WA f_p0_rock_water) (h_f_p0_term : TE f_p0_term) (h_p0_crew_count : 0 ≤ p0_crew_count.toInt ∧ p0_crew_count.toInt ≤ 6) (h_f_p0_crew_cell : CE f_p0_crew_cell) (h_f_p0_crew_buckets : BU f_p0_crew_buckets) (h_f_h0_said : SA f_h0_said) (h_f_h0_lost : LO f_h0_lost) (e_0 : n_p1_heads < 100000) (e_1 : p1_length.toInt ≤ (n_p1_code : Int)) {Q : (Int32 × Int32 × Int32 × Int32 × (Nat → Int64) × (Nat → Int32) × (Nat → Int32)) → Prop} (hq : ∀ (u_0 : Int32) (u_1 : Int32) (u_2 : Int32) (u_3 : Int32) (u_4 : Nat → Int64) (u_5 : Nat → Int32) (u_6 : Nat → Int32), (0 ≤ u_0.toInt ∧ u_0.toInt ≤ 39) ∧ (SA u_5) ∧ (LO u_6) → Q (u_0, u_1, u_2, u_3, u_4, u_5, u_6)) : wp_X3_measure_T h0_asker_cell h0_asker_shaft h0_asker_kind h0_asker_done h0_asker_latest h0_asker_value f_p0_rock_kind p1_clauses p1_length n_p1_heads f_p1_heads n_p1_code f_p1_code f_h0_asker_stack p0_folk_listeners f_p0_folk_column f_p0_rock_hard f_p0_rock_water f_p0_term p0_crew_count f_p0_crew_cell f_p0_crew_buckets f_h0_said f_h0_lost Q := by
  unfold wp_X3_measure_T
  refine o_X0_turnTo_T _ ?_
  have k3 : Int32.toInt 0 = 0 := rfl
  refine sl_X3_measure_T_11 h0_asker_done h0_asker_latest (f_p0_rock_kind) p1_clauses p1_length n_p1_heads (f_p1_heads) n_p1_code (f_p1_code) p0_folk_listeners (f_p0_folk_column) (f_p0_rock_hard) (f_p0_rock_water) (f_p0_term) p0_crew_count (f_p0_crew_cell) (f_p0_crew_buckets) h_f_p0_rock_kind ⟨by omega, by omega⟩ ⟨by omega, by omega⟩ h_f_p1_code ⟨by omega, by omega⟩ h_f_p0_folk_column h_f_p0_rock_hard h_f_p0_rock_water h_f_p0_term ⟨by omega, by omega⟩ h_f_p0_crew_cell h_f_p0_crew_buckets (by omega) (by omega) _ (fun x1_0 x1_1 x1_2 x1_3 x1_4 x1_5 x1_6 x1_7 X2 => ?_) 1000000000000 0 (f_h0_asker_stack) (f_h0_said) (f_h0_lost) h0_asker_cell h0_asker_shaft h0_asker_kind h0_asker_value ⟨(by decide), h_f_h0_said, h_f_h0_lost, ⟨by omega, by omega⟩⟩ (by omega)
  have j4 := X2.1
  have j5 := X2.2.1
  have j6 := X2.2.2.1
  have j7 := X2.2.2.2
  exact hq _ _ _ _ _ _ _ ⟨⟨by omega, by omega⟩, j5, j6⟩


set_option maxRecDepth 100000 in
theorem s_X11_hears_T (a : Int32) (h0_site_world : Nat) (h0_site_world_lawCount : Int32) (h0_site_world_force : Int32) (h0_site_world_folk_listeners : Int32) (h0_site_world_folk_noises : Int32) (h0_site_world_folk_hushed : Int32) (f_h0_site_world_laws : Nat → Option Nat) (h0_asker_world : Value) (h0_asker_law : Value) (h0_asker_cell : Int32) (h0_asker_shaft : Int32) (h0_asker_kind : Int32) (h0_asker_done : Int32) (h0_asker_latest : Int32) (h0_asker_value : Int32) (f_h0_site_world_rock_kind : Nat → Int32) (t : Nat) (t_clauses : Int32) (t_length : Int32) (n_t_heads : Nat) (f_t_heads : Nat → Int32) (n_t_code : Nat) (f_t_code : Nat → Int32) (f_h0_asker_stack : Nat → Int64) (f_h0_site_world_folk_column : Nat → Int32) (f_h0_site_world_rock_hard : Nat → Int32) (f_h0_site_world_rock_water : Nat → Int32) (f_h0_site_world_term : Nat → Int32) (h0_site_world_crew_count : Int32) (f_h0_site_world_crew_cell : Nat → Int32) (f_h0_site_world_crew_buckets : Nat → Int32) (f_h0_ears_said : Nat → Int32) (f_h0_ears_lost : Nat → Int32) (f_h0_site_world_folk_noiseColumn : Nat → Int32) (f_h0_site_world_folk_noiseLoud : Nat → Int32) (f_h0_site_world_folk_ear : Nat → Int32) (h_h0_site_world_lawCount : 0 ≤ h0_site_world_lawCount.toInt ∧ h0_site_world_lawCount.toInt ≤ 6) (h_h0_site_world_force : 0 ≤ h0_site_world_force.toInt ∧ h0_site_world_force.toInt ≤ 5) (h_h0_site_world_folk_listeners : 0 ≤ h0_site_world_folk_listeners.toInt ∧ h0_site_world_folk_listeners.toInt ≤ 5) (h_h0_site_world_folk_noises : 0 ≤ h0_site_world_folk_noises.toInt ∧ h0_site_world_folk_noises.toInt ≤ 6) (h_h0_asker_cell : 0 ≤ h0_asker_cell.toInt ∧ h0_asker_cell.toInt ≤ 39) (h_f_h0_site_world_rock_kind : KI f_h0_site_world_rock_kind) (h_t_clauses : 0 ≤ t_clauses.toInt ∧ t_clauses.toInt ≤ 12) (h_t_length : 0 ≤ t_length.toInt ∧ t_length.toInt ≤ 400) (h_f_t_code : CD f_t_code) (h_f_h0_site_world_folk_column : CO f_h0_site_world_folk_column) (h_f_h0_site_world_rock_hard : HA f_h0_site_world_rock_hard) (h_f_h0_site_world_rock_water : WA f_h0_site_world_rock_water) (h_f_h0_site_world_term : TE f_h0_site_world_term) (h_h0_site_world_crew_count : 0 ≤ h0_site_world_crew_count.toInt ∧ h0_site_world_crew_count.toInt ≤ 6) (h_f_h0_site_world_crew_cell : CE f_h0_site_world_crew_cell) (h_f_h0_site_world_crew_buckets : BU f_h0_site_world_crew_buckets) (h_f_h0_ears_said : SA f_h0_ears_said) (h_f_h0_ears_lost : LO f_h0_ears_lost) (h_f_h0_site_world_folk_noiseColumn : NC f_h0_site_world_folk_noiseColumn) (h_f_h0_site_world_folk_noiseLoud : NL f_h0_site_world_folk_noiseLoud) (h_f_h0_site_world_folk_ear : EA f_h0_site_world_folk_ear) (e_0 : n_t_heads < 100000) (e_1 : t_length.toInt ≤ (n_t_code : Int)) (e_2 : h0_site_world_force.toInt < h0_site_world_lawCount.toInt) (e_3 : f_h0_site_world_laws (Int32.toNatClampNeg h0_site_world_force) = some t) {Q : Int64 → (Value × Value × Int32 × Int32 × Int32 × Int32 × (Nat → Int64) × (Nat → Int32) × (Nat → Int32)) → Prop} (hq : ∀ (r : Int64) (u_0 : Value) (u_1 : Value) (u_2 : Int32) (u_3 : Int32) (u_4 : Int32) (u_5 : Int32) (u_6 : Nat → Int64) (u_7 : Nat → Int32) (u_8 : Nat → Int32), (0 ≤ u_2.toInt ∧ u_2.toInt ≤ 39) ∧ (SA u_7) ∧ (LO u_8) → Q r (u_0, u_1, u_2, u_3, u_4, u_5, u_6, u_7, u_8)) : wp_X11_hears_T a h0_site_world h0_site_world_lawCount h0_site_world_force h0_site_world_folk_listeners h0_site_world_folk_noises h0_site_world_folk_hushed f_h0_site_world_laws h0_asker_world h0_asker_law h0_asker_cell h0_asker_shaft h0_asker_kind h0_asker_done h0_asker_latest h0_asker_value f_h0_site_world_rock_kind t t_clauses t_length n_t_heads f_t_heads n_t_code f_t_code f_h0_asker_stack f_h0_site_world_folk_column f_h0_site_world_rock_hard f_h0_site_world_rock_water f_h0_site_world_term h0_site_world_crew_count f_h0_site_world_crew_cell f_h0_site_world_crew_buckets f_h0_ears_said f_h0_ears_lost f_h0_site_world_folk_noiseColumn f_h0_site_world_folk_noiseLoud f_h0_site_world_folk_ear Q := by
  unfold wp_X11_hears_T
  refine o_X11_isWithin _ _ _ ?_
  by_cases c1 : a < 0
  · refine br1 c1 ?_
    have d2 := lt_z (a := a) (b := 0) (x := (Int32.toInt a)) (y := 0) rfl rfl c1
    refine br1 (by decide) ?_
    exact hq _ _ _ _ _ _ _ _ _ _ ⟨⟨by omega, by omega⟩, h_f_h0_ears_said, h_f_h0_ears_lost⟩
  · refine br0 c1 ?_
    have d3 := nlt_z (a := a) (b := 0) (x := (Int32.toInt a)) (y := 0) rfl rfl c1
    by_cases c4 : h0_site_world_folk_listeners ≤ a
    · refine br1 c4 ?_
      have d5 := le_z (a := h0_site_world_folk_listeners) (b := a) (x := (Int32.toInt h0_site_world_folk_listeners)) (y := (Int32.toInt a)) rfl rfl c4
      refine br1 (by decide) ?_
      exact hq _ _ _ _ _ _ _ _ _ _ ⟨⟨by omega, by omega⟩, h_f_h0_ears_said, h_f_h0_ears_lost⟩
    · refine br0 c4 ?_
      have d6 := nle_z (a := h0_site_world_folk_listeners) (b := a) (x := (Int32.toInt h0_site_world_folk_listeners)) (y := (Int32.toInt a)) rfl rfl c4
      refine br0 (by decide) ?_
      refine o_X10_lawInForce_T _ _ _ _ _ ?_
      refine o_X10_lawOf_T _ _ _ _ _ ?_
      refine br0 (z_nlt (x := (Int32.toInt h0_site_world_force)) (y := 0) rfl rfl (by omega)) ?_
      by_cases c7 : h0_site_world_lawCount ≤ h0_site_world_force
      · refine br1 c7 ?_
        have d8 := le_z (a := h0_site_world_lawCount) (b := h0_site_world_force) (x := (Int32.toInt h0_site_world_lawCount)) (y := (Int32.toInt h0_site_world_force)) rfl rfl c7
        exfalso
        omega
      · refine br0 c7 ?_
        have d9 := nle_z (a := h0_site_world_lawCount) (b := h0_site_world_force) (x := (Int32.toInt h0_site_world_lawCount)) (y := (Int32.toInt h0_site_world_force)) rfl rfl c7
        refine br0 (z_nle (x := 6) (y := (Int32.toInt h0_site_world_force)) rfl rfl (by omega)) ?_
        refine ⟨vpi (x := (Int32.toInt h0_site_world_force)) rfl (by omega) (by omega), ?_⟩
        refine ⟨by assumption, ?_⟩
        refine s_X3_measure_T h0_asker_cell h0_asker_shaft h0_asker_kind h0_asker_done h0_asker_latest h0_asker_value (f_h0_site_world_rock_kind) t_clauses t_length n_t_heads (f_t_heads) n_t_code (f_t_code) (f_h0_asker_stack) h0_site_world_folk_listeners (f_h0_site_world_folk_column) (f_h0_site_world_rock_hard) (f_h0_site_world_rock_water) (f_h0_site_world_term) h0_site_world_crew_count (f_h0_site_world_crew_cell) (f_h0_site_world_crew_buckets) (f_h0_ears_said) (f_h0_ears_lost) ⟨by omega, by omega⟩ h_f_h0_site_world_rock_kind ⟨by omega, by omega⟩ ⟨by omega, by omega⟩ h_f_t_code ⟨by omega, by omega⟩ h_f_h0_site_world_folk_column h_f_h0_site_world_rock_hard h_f_h0_site_world_rock_water h_f_h0_site_world_term ⟨by omega, by omega⟩ h_f_h0_site_world_crew_cell h_f_h0_site_world_crew_buckets h_f_h0_ears_said h_f_h0_ears_lost (by omega) (by omega) (fun u10_0 u10_1 u10_2 u10_3 u10_4 u10_5 u10_6 H11 => ?_)
        have j12 := H11.1
        have j13 := H11.2.1
        have j14 := H11.2.2
        refine un7_i ?_
        refine s_X3_cellsHeardBy a h0_site_world_folk_noises h0_site_world_folk_hushed (f_h0_site_world_folk_column) (f_h0_site_world_folk_noiseColumn) (f_h0_site_world_folk_noiseLoud) (f_h0_site_world_rock_kind) (u10_5) (u10_6) (f_h0_site_world_folk_ear) ⟨by omega, by omega⟩ ⟨by omega, by omega⟩ h_f_h0_site_world_folk_column h_f_h0_site_world_folk_noiseColumn h_f_h0_site_world_folk_noiseLoud h_f_h0_site_world_rock_kind j13 j14 h_f_h0_site_world_folk_ear (fun r15 H16 => ?_)
        exact hq _ _ _ _ _ _ _ _ _ _ ⟨⟨by omega, by omega⟩, j13, j14⟩


set_option maxRecDepth 100000 in
theorem sl_X11_compare_T_36 (f_h0_site_world_rock_kind : Nat → Int32) (h0_site_world_folk_listeners : Int32) (h0_site_world_folk_noises : Int32) (h0_site_world_folk_hushed : Int32) (f_h0_site_world_folk_column : Nat → Int32) (f_h0_site_world_folk_noiseColumn : Nat → Int32) (f_h0_site_world_folk_noiseLoud : Nat → Int32) (f_h0_site_world_folk_ear : Nat → Int32) (u_28_5 : Nat → Int32) (u_28_6 : Nat → Int32) (h_f_h0_site_world_rock_kind : KI f_h0_site_world_rock_kind) (h_h0_site_world_folk_listeners : 0 ≤ h0_site_world_folk_listeners.toInt ∧ h0_site_world_folk_listeners.toInt ≤ 5) (h_h0_site_world_folk_noises : 0 ≤ h0_site_world_folk_noises.toInt ∧ h0_site_world_folk_noises.toInt ≤ 6) (h_f_h0_site_world_folk_column : CO f_h0_site_world_folk_column) (h_f_h0_site_world_folk_noiseColumn : NC f_h0_site_world_folk_noiseColumn) (h_f_h0_site_world_folk_noiseLoud : NL f_h0_site_world_folk_noiseLoud) (h_f_h0_site_world_folk_ear : EA f_h0_site_world_folk_ear) (h_u_28_5 : SA u_28_5) (h_u_28_6 : LO u_28_6) (Qb : Int32 → Int32 → Prop) (KX : ∀ (x_36_0 : Int32) (x_36_1 : Int32), (0 ≤ x_36_0.toInt ∧ x_36_0.toInt ≤ 5) → Qb x_36_0 x_36_1) : ∀ (n : Nat) (x_36_0 : Int32) (x_36_1 : Int32), (0 ≤ x_36_0.toInt ∧ x_36_0.toInt ≤ 5) → 6 - x_36_0.toInt < (n : Int) → wl_X11_compare_T_36 f_h0_site_world_rock_kind h0_site_world_folk_listeners h0_site_world_folk_noises h0_site_world_folk_hushed f_h0_site_world_folk_column f_h0_site_world_folk_noiseColumn f_h0_site_world_folk_noiseLoud f_h0_site_world_folk_ear u_28_5 u_28_6 Qb n x_36_0 x_36_1 := by
  intro n
  induction n with
  | zero =>
    intro x_36_0 x_36_1 hI hm
    exfalso; have hm : 6 - x_36_0.toInt < 0 := hm; omega
  | succ n ih =>
    intro x_36_0 x_36_1 hI hm
    have hm : 6 - x_36_0.toInt < (n : Int) + 1 := by simpa using hm
    have h_x_36_0 := hI
    unfold wl_X11_compare_T_36
    by_cases c12 : h0_site_world_folk_listeners ≤ x_36_0
    · refine br1 c12 ?_
      have d13 := le_z (a := h0_site_world_folk_listeners) (b := x_36_0) (x := (Int32.toInt h0_site_world_folk_listeners)) (y := (Int32.toInt x_36_0)) rfl rfl c12
      exact KX _ _ ⟨by omega, by omega⟩
    · refine br0 c12 ?_
      have d14 := nle_z (a := h0_site_world_folk_listeners) (b := x_36_0) (x := (Int32.toInt h0_site_world_folk_listeners)) (y := (Int32.toInt x_36_0)) rfl rfl c12
      refine s_X3_cellsHeardBy x_36_0 h0_site_world_folk_noises h0_site_world_folk_hushed (f_h0_site_world_folk_column) (f_h0_site_world_folk_noiseColumn) (f_h0_site_world_folk_noiseLoud) (f_h0_site_world_rock_kind) (u_28_5) (u_28_6) (f_h0_site_world_folk_ear) ⟨by omega, by omega⟩ ⟨by omega, by omega⟩ h_f_h0_site_world_folk_column h_f_h0_site_world_folk_noiseColumn h_f_h0_site_world_folk_noiseLoud h_f_h0_site_world_rock_kind h_u_28_5 h_u_28_6 h_f_h0_site_world_folk_ear (fun r15 H16 => ?_)
      refine s_J13_bitCount_95d88 r15  (fun r17 H18 => ?_)
      have t19 : (Int32.toInt (x_36_0 + 1)) = (Int32.toInt x_36_0) + 1 := add_z rfl rfl (by omega) (by omega)
      exact ih _ _ ⟨by omega, by omega⟩ (by omega)
set_option maxRecDepth 100000 in
theorem s_X11_compare_T (a : Int32) (h0_site_world : Nat) (h0_site_world_lawCount : Int32) (f_h0_site_world_laws : Nat → Option Nat) (h0_asker_world : Value) (h0_asker_law : Value) (h0_asker_cell : Int32) (h0_asker_shaft : Int32) (h0_asker_kind : Int32) (h0_asker_done : Int32) (h0_asker_latest : Int32) (h0_asker_value : Int32) (f_h0_site_world_rock_kind : Nat → Int32) (t : Nat) (t_clauses : Int32) (t_length : Int32) (n_t_heads : Nat) (f_t_heads : Nat → Int32) (n_t_code : Nat) (f_t_code : Nat → Int32) (f_h0_asker_stack : Nat → Int64) (h0_site_world_folk_listeners : Int32) (h0_site_world_folk_noises : Int32) (h0_site_world_folk_hushed : Int32) (f_h0_site_world_folk_column : Nat → Int32) (f_h0_site_world_rock_hard : Nat → Int32) (f_h0_site_world_rock_water : Nat → Int32) (f_h0_site_world_term : Nat → Int32) (h0_site_world_crew_count : Int32) (f_h0_site_world_crew_cell : Nat → Int32) (f_h0_site_world_crew_buckets : Nat → Int32) (f_h0_ears_said : Nat → Int32) (f_h0_ears_lost : Nat → Int32) (f_h0_site_world_folk_noiseColumn : Nat → Int32) (f_h0_site_world_folk_noiseLoud : Nat → Int32) (f_h0_site_world_folk_ear : Nat → Int32) (h_a : 0 ≤ a.toInt ∧ a.toInt ≤ 5) (h_h0_site_world_lawCount : 0 ≤ h0_site_world_lawCount.toInt ∧ h0_site_world_lawCount.toInt ≤ 6) (h_h0_asker_cell : 0 ≤ h0_asker_cell.toInt ∧ h0_asker_cell.toInt ≤ 39) (h_f_h0_site_world_rock_kind : KI f_h0_site_world_rock_kind) (h_t_clauses : 0 ≤ t_clauses.toInt ∧ t_clauses.toInt ≤ 12) (h_t_length : 0 ≤ t_length.toInt ∧ t_length.toInt ≤ 400) (h_f_t_code : CD f_t_code) (h_h0_site_world_folk_listeners : 0 ≤ h0_site_world_folk_listeners.toInt ∧ h0_site_world_folk_listeners.toInt ≤ 5) (h_h0_site_world_folk_noises : 0 ≤ h0_site_world_folk_noises.toInt ∧ h0_site_world_folk_noises.toInt ≤ 6) (h_f_h0_site_world_folk_column : CO f_h0_site_world_folk_column) (h_f_h0_site_world_rock_hard : HA f_h0_site_world_rock_hard) (h_f_h0_site_world_rock_water : WA f_h0_site_world_rock_water) (h_f_h0_site_world_term : TE f_h0_site_world_term) (h_h0_site_world_crew_count : 0 ≤ h0_site_world_crew_count.toInt ∧ h0_site_world_crew_count.toInt ≤ 6) (h_f_h0_site_world_crew_cell : CE f_h0_site_world_crew_cell) (h_f_h0_site_world_crew_buckets : BU f_h0_site_world_crew_buckets) (h_f_h0_ears_said : SA f_h0_ears_said) (h_f_h0_ears_lost : LO f_h0_ears_lost) (h_f_h0_site_world_folk_noiseColumn : NC f_h0_site_world_folk_noiseColumn) (h_f_h0_site_world_folk_noiseLoud : NL f_h0_site_world_folk_noiseLoud) (h_f_h0_site_world_folk_ear : EA f_h0_site_world_folk_ear) (e_0 : n_t_heads < 100000) (e_1 : t_length.toInt ≤ (n_t_code : Int)) (e_2 : f_h0_site_world_laws (Int32.toNatClampNeg a) = some t) {Q : Int32 → (Value × Value × Int32 × Int32 × Int32 × Int32 × (Nat → Int64) × (Nat → Int32) × (Nat → Int32)) → Prop} (hq : ∀ (r : Int32) (u_0 : Value) (u_1 : Value) (u_2 : Int32) (u_3 : Int32) (u_4 : Int32) (u_5 : Int32) (u_6 : Nat → Int64) (u_7 : Nat → Int32) (u_8 : Nat → Int32), (0 ≤ u_2.toInt ∧ u_2.toInt ≤ 39) ∧ (SA u_7) ∧ (LO u_8) → Q r (u_0, u_1, u_2, u_3, u_4, u_5, u_6, u_7, u_8)) : wp_X11_compare_T a h0_site_world h0_site_world_lawCount f_h0_site_world_laws h0_asker_world h0_asker_law h0_asker_cell h0_asker_shaft h0_asker_kind h0_asker_done h0_asker_latest h0_asker_value f_h0_site_world_rock_kind t t_clauses t_length n_t_heads f_t_heads n_t_code f_t_code f_h0_asker_stack h0_site_world_folk_listeners h0_site_world_folk_noises h0_site_world_folk_hushed f_h0_site_world_folk_column f_h0_site_world_rock_hard f_h0_site_world_rock_water f_h0_site_world_term h0_site_world_crew_count f_h0_site_world_crew_cell f_h0_site_world_crew_buckets f_h0_ears_said f_h0_ears_lost f_h0_site_world_folk_noiseColumn f_h0_site_world_folk_noiseLoud f_h0_site_world_folk_ear Q := by
  unfold wp_X11_compare_T
  refine o_X10_hasLaw _ _ _ ?_
  refine br0 (z_nlt (x := (Int32.toInt a)) (y := (-1)) rfl (by decide) (by omega)) ?_
  by_cases c1 : h0_site_world_lawCount ≤ a
  · refine br1 c1 ?_
    have d2 := le_z (a := h0_site_world_lawCount) (b := a) (x := (Int32.toInt h0_site_world_lawCount)) (y := (Int32.toInt a)) rfl rfl c1
    refine br1 (by decide) ?_
    exact hq _ _ _ _ _ _ _ _ _ _ ⟨⟨by omega, by omega⟩, h_f_h0_ears_said, h_f_h0_ears_lost⟩
  · refine br0 c1 ?_
    have d3 := nle_z (a := h0_site_world_lawCount) (b := a) (x := (Int32.toInt h0_site_world_lawCount)) (y := (Int32.toInt a)) rfl rfl c1
    refine br0 (by decide) ?_
    refine o_X10_lawOf_T _ _ _ _ _ ?_
    refine br0 (z_nlt (x := (Int32.toInt a)) (y := 0) rfl rfl (by omega)) ?_
    by_cases c4 : h0_site_world_lawCount ≤ a
    · refine br1 c4 ?_
      have d5 := le_z (a := h0_site_world_lawCount) (b := a) (x := (Int32.toInt h0_site_world_lawCount)) (y := (Int32.toInt a)) rfl rfl c4
      exfalso
      omega
    · refine br0 c4 ?_
      have d6 := nle_z (a := h0_site_world_lawCount) (b := a) (x := (Int32.toInt h0_site_world_lawCount)) (y := (Int32.toInt a)) rfl rfl c4
      refine br0 (z_nle (x := 6) (y := (Int32.toInt a)) rfl rfl (by omega)) ?_
      refine ⟨vpi (x := (Int32.toInt a)) rfl (by omega) (by omega), ?_⟩
      refine ⟨by assumption, ?_⟩
      refine s_X3_measure_T h0_asker_cell h0_asker_shaft h0_asker_kind h0_asker_done h0_asker_latest h0_asker_value (f_h0_site_world_rock_kind) t_clauses t_length n_t_heads (f_t_heads) n_t_code (f_t_code) (f_h0_asker_stack) h0_site_world_folk_listeners (f_h0_site_world_folk_column) (f_h0_site_world_rock_hard) (f_h0_site_world_rock_water) (f_h0_site_world_term) h0_site_world_crew_count (f_h0_site_world_crew_cell) (f_h0_site_world_crew_buckets) (f_h0_ears_said) (f_h0_ears_lost) ⟨by omega, by omega⟩ h_f_h0_site_world_rock_kind ⟨by omega, by omega⟩ ⟨by omega, by omega⟩ h_f_t_code ⟨by omega, by omega⟩ h_f_h0_site_world_folk_column h_f_h0_site_world_rock_hard h_f_h0_site_world_rock_water h_f_h0_site_world_term ⟨by omega, by omega⟩ h_f_h0_site_world_crew_cell h_f_h0_site_world_crew_buckets h_f_h0_ears_said h_f_h0_ears_lost (by omega) (by omega) (fun u7_0 u7_1 u7_2 u7_3 u7_4 u7_5 u7_6 H8 => ?_)
      have j9 := H8.1
      have j10 := H8.2.1
      have j11 := H8.2.2
      refine un7_i ?_
      have k14 : Int32.toInt 0 = 0 := rfl
      refine sl_X11_compare_T_36 (f_h0_site_world_rock_kind) h0_site_world_folk_listeners h0_site_world_folk_noises h0_site_world_folk_hushed (f_h0_site_world_folk_column) (f_h0_site_world_folk_noiseColumn) (f_h0_site_world_folk_noiseLoud) (f_h0_site_world_folk_ear) (u7_5) (u7_6) h_f_h0_site_world_rock_kind ⟨by omega, by omega⟩ ⟨by omega, by omega⟩ h_f_h0_site_world_folk_column h_f_h0_site_world_folk_noiseColumn h_f_h0_site_world_folk_noiseLoud h_f_h0_site_world_folk_ear j10 j11 _ (fun x12_0 x12_1 X13 => ?_) 1000000000000 0 0 (by decide) (by omega)
      have j15 := X13
      exact hq _ _ _ _ _ _ _ _ _ _ ⟨⟨by omega, by omega⟩, j10, j11⟩


set_option maxRecDepth 100000 in
theorem sl_X3_fewestToHush_T_11 (b : Int32) (d : Int32) (p0_folk_listeners : Int32) (p0_folk_noises : Int32) (p0_folk_hushed : Int32) (f_p0_folk_column : Nat → Int32) (f_p0_folk_ear : Nat → Int32) (f_p0_folk_noiseColumn : Nat → Int32) (f_p0_folk_noiseLoud : Nat → Int32) (u_2_5 : Nat → Int32) (u_2_6 : Nat → Int32) (h_d : 0 ≤ d.toInt ∧ d.toInt ≤ 39) (h_p0_folk_listeners : 0 ≤ p0_folk_listeners.toInt ∧ p0_folk_listeners.toInt ≤ 5) (h_p0_folk_noises : 0 ≤ p0_folk_noises.toInt ∧ p0_folk_noises.toInt ≤ 6) (h_f_p0_folk_column : CO f_p0_folk_column) (h_f_p0_folk_ear : EA f_p0_folk_ear) (h_f_p0_folk_noiseColumn : NC f_p0_folk_noiseColumn) (h_f_p0_folk_noiseLoud : NL f_p0_folk_noiseLoud) (h_u_2_5 : SA u_2_5) (h_u_2_6 : LO u_2_6) (Qb : Int32 → Int32 → Prop) (KX : ∀ (x_11_0 : Int32) (x_11_1 : Int32), (1 ≤ x_11_0.toInt ∧ x_11_0.toInt ≤ 64) ∧ ((-1) ≤ x_11_1.toInt ∧ x_11_1.toInt ≤ 2147483647) → Qb x_11_0 x_11_1) : ∀ (n : Nat) (x_11_0 : Int32) (x_11_1 : Int32), (0 ≤ x_11_0.toInt ∧ x_11_0.toInt ≤ 64) ∧ ((-1) ≤ x_11_1.toInt ∧ x_11_1.toInt ≤ 2147483647) → 65 - x_11_0.toInt < (n : Int) → wl_X3_fewestToHush_T_11 b d p0_folk_listeners p0_folk_noises p0_folk_hushed f_p0_folk_column f_p0_folk_ear f_p0_folk_noiseColumn f_p0_folk_noiseLoud u_2_5 u_2_6 Qb n x_11_0 x_11_1 := by
  intro n
  induction n with
  | zero =>
    intro x_11_0 x_11_1 hI hm
    exfalso; have hm : 65 - x_11_0.toInt < 0 := hm; omega
  | succ n ih =>
    intro x_11_0 x_11_1 hI hm
    have hm : 65 - x_11_0.toInt < (n : Int) + 1 := by simpa using hm
    have h_x_11_0 := hI.1
    have h_x_11_1 := hI.2
    unfold wl_X3_fewestToHush_T_11
    by_cases c6 : ((1 : Int32) <<< (p0_folk_noises &&& 31)) ≤ x_11_0
    · refine br1 c6 ?_
      have t7 : 1 ≤ (Int32.toInt ((1 : Int32) <<< (p0_folk_noises &&& 31))) ∧ (Int32.toInt ((1 : Int32) <<< (p0_folk_noises &&& 31))) ≤ 64 := shl1_b (by omega) (by omega)
      have d8 := le_z (a := ((1 : Int32) <<< (p0_folk_noises &&& 31))) (b := x_11_0) (x := (Int32.toInt ((1 : Int32) <<< (p0_folk_noises &&& 31)))) (y := (Int32.toInt x_11_0)) rfl rfl c6
      have t9 := i32_hi x_11_1
      exact KX _ _ ⟨⟨by omega, by omega⟩, ⟨by omega, by omega⟩⟩
    · refine br0 c6 ?_
      have t10 : 1 ≤ (Int32.toInt ((1 : Int32) <<< (p0_folk_noises &&& 31))) ∧ (Int32.toInt ((1 : Int32) <<< (p0_folk_noises &&& 31))) ≤ 64 := shl1_b (by omega) (by omega)
      have d11 := nle_z (a := ((1 : Int32) <<< (p0_folk_noises &&& 31))) (b := x_11_0) (x := (Int32.toInt ((1 : Int32) <<< (p0_folk_noises &&& 31)))) (y := (Int32.toInt x_11_0)) rfl rfl c6
      refine jn_s ?_
      by_cases c12 : x_11_1 = (-1)
      · refine br1 c12 ?_
        have d13 := eq_z (a := x_11_1) (b := (-1)) (x := (Int32.toInt x_11_1)) (y := (-1)) rfl (by decide) c12
        refine jn_s ?_
        by_cases c14 : (x_11_0 &&& p0_folk_hushed) = 0
        · refine br1 c14 ?_
          have d15 := eq_z (a := (x_11_0 &&& p0_folk_hushed)) (b := 0) (x := (Int32.toInt (x_11_0 &&& p0_folk_hushed))) (y := 0) rfl rfl c14
          refine br0 (by decide) ?_
          refine br0 (by decide) ?_
          refine s_X3_allHear b d x_11_0 p0_folk_listeners p0_folk_noises p0_folk_hushed (f_p0_folk_column) (u_2_5) (u_2_6) (f_p0_folk_ear) (f_p0_folk_noiseColumn) (f_p0_folk_noiseLoud) ⟨by omega, by omega⟩ ⟨by omega, by omega⟩ ⟨by omega, by omega⟩ h_f_p0_folk_column h_u_2_5 h_u_2_6 h_f_p0_folk_ear h_f_p0_folk_noiseColumn h_f_p0_folk_noiseLoud (fun r16 H17 => ?_)
          have j18 := H17
          by_cases c19 : r16 = 0
          · refine br1 c19 ?_
            have d20 := eq_z (a := r16) (b := 0) (x := (Int32.toInt r16)) (y := 0) rfl rfl c19
            have t21 : (Int32.toInt (x_11_0 + 1)) = (Int32.toInt x_11_0) + 1 := add_z rfl rfl (by omega) (by omega)
            have t22 := i32_hi x_11_1
            exact ih _ _ ⟨⟨by omega, by omega⟩, ⟨by omega, by omega⟩⟩ (by omega)
          · refine br0 c19 ?_
            have d23 := ne_z (a := r16) (b := 0) (x := (Int32.toInt r16)) (y := 0) rfl rfl c19
            have t24 : (Int32.toInt (x_11_0 + 1)) = (Int32.toInt x_11_0) + 1 := add_z rfl rfl (by omega) (by omega)
            have t25 := i32_hi x_11_0
            exact ih _ _ ⟨⟨by omega, by omega⟩, ⟨by omega, by omega⟩⟩ (by omega)
        · refine br0 c14 ?_
          have d26 := ne_z (a := (x_11_0 &&& p0_folk_hushed)) (b := 0) (x := (Int32.toInt (x_11_0 &&& p0_folk_hushed))) (y := 0) rfl rfl c14
          refine br0 (by decide) ?_
          refine br1 (by decide) ?_
          have t27 : (Int32.toInt (x_11_0 + 1)) = (Int32.toInt x_11_0) + 1 := add_z rfl rfl (by omega) (by omega)
          have t28 := i32_hi x_11_1
          exact ih _ _ ⟨⟨by omega, by omega⟩, ⟨by omega, by omega⟩⟩ (by omega)
      · refine br0 c12 ?_
        have d29 := ne_z (a := x_11_1) (b := (-1)) (x := (Int32.toInt x_11_1)) (y := (-1)) rfl (by decide) c12
        refine s_J6_bitCount_0f7a4 x_11_0  (fun r30 H31 => ?_)
        refine s_J6_bitCount_0f7a4 x_11_1  (fun r32 H33 => ?_)
        by_cases c34 : r32 ≤ r30
        · refine br1 c34 ?_
          have d35 := le_z (a := r32) (b := r30) (x := (Int32.toInt r32)) (y := (Int32.toInt r30)) rfl rfl c34
          refine jn_s ?_
          by_cases c36 : (x_11_0 &&& p0_folk_hushed) = 0
          · refine br1 c36 ?_
            have d37 := eq_z (a := (x_11_0 &&& p0_folk_hushed)) (b := 0) (x := (Int32.toInt (x_11_0 &&& p0_folk_hushed))) (y := 0) rfl rfl c36
            refine br1 (by decide) ?_
            have t38 : (Int32.toInt (x_11_0 + 1)) = (Int32.toInt x_11_0) + 1 := add_z rfl rfl (by omega) (by omega)
            have t39 := i32_hi x_11_1
            exact ih _ _ ⟨⟨by omega, by omega⟩, ⟨by omega, by omega⟩⟩ (by omega)
          · refine br0 c36 ?_
            have d40 := ne_z (a := (x_11_0 &&& p0_folk_hushed)) (b := 0) (x := (Int32.toInt (x_11_0 &&& p0_folk_hushed))) (y := 0) rfl rfl c36
            refine br1 (by decide) ?_
            have t41 : (Int32.toInt (x_11_0 + 1)) = (Int32.toInt x_11_0) + 1 := add_z rfl rfl (by omega) (by omega)
            have t42 := i32_hi x_11_1
            exact ih _ _ ⟨⟨by omega, by omega⟩, ⟨by omega, by omega⟩⟩ (by omega)
        · refine br0 c34 ?_
          have d43 := nle_z (a := r32) (b := r30) (x := (Int32.toInt r32)) (y := (Int32.toInt r30)) rfl rfl c34
          refine jn_s ?_
          by_cases c44 : (x_11_0 &&& p0_folk_hushed) = 0
          · refine br1 c44 ?_
            have d45 := eq_z (a := (x_11_0 &&& p0_folk_hushed)) (b := 0) (x := (Int32.toInt (x_11_0 &&& p0_folk_hushed))) (y := 0) rfl rfl c44
            refine br0 (by decide) ?_
            refine br0 (by decide) ?_
            refine s_X3_allHear b d x_11_0 p0_folk_listeners p0_folk_noises p0_folk_hushed (f_p0_folk_column) (u_2_5) (u_2_6) (f_p0_folk_ear) (f_p0_folk_noiseColumn) (f_p0_folk_noiseLoud) ⟨by omega, by omega⟩ ⟨by omega, by omega⟩ ⟨by omega, by omega⟩ h_f_p0_folk_column h_u_2_5 h_u_2_6 h_f_p0_folk_ear h_f_p0_folk_noiseColumn h_f_p0_folk_noiseLoud (fun r46 H47 => ?_)
            have j48 := H47
            by_cases c49 : r46 = 0
            · refine br1 c49 ?_
              have d50 := eq_z (a := r46) (b := 0) (x := (Int32.toInt r46)) (y := 0) rfl rfl c49
              have t51 : (Int32.toInt (x_11_0 + 1)) = (Int32.toInt x_11_0) + 1 := add_z rfl rfl (by omega) (by omega)
              have t52 := i32_hi x_11_1
              exact ih _ _ ⟨⟨by omega, by omega⟩, ⟨by omega, by omega⟩⟩ (by omega)
            · refine br0 c49 ?_
              have d53 := ne_z (a := r46) (b := 0) (x := (Int32.toInt r46)) (y := 0) rfl rfl c49
              have t54 : (Int32.toInt (x_11_0 + 1)) = (Int32.toInt x_11_0) + 1 := add_z rfl rfl (by omega) (by omega)
              have t55 := i32_hi x_11_0
              exact ih _ _ ⟨⟨by omega, by omega⟩, ⟨by omega, by omega⟩⟩ (by omega)
          · refine br0 c44 ?_
            have d56 := ne_z (a := (x_11_0 &&& p0_folk_hushed)) (b := 0) (x := (Int32.toInt (x_11_0 &&& p0_folk_hushed))) (y := 0) rfl rfl c44
            refine br0 (by decide) ?_
            refine br1 (by decide) ?_
            have t57 : (Int32.toInt (x_11_0 + 1)) = (Int32.toInt x_11_0) + 1 := add_z rfl rfl (by omega) (by omega)
            have t58 := i32_hi x_11_1
            exact ih _ _ ⟨⟨by omega, by omega⟩, ⟨by omega, by omega⟩⟩ (by omega)
set_option maxRecDepth 100000 in
theorem s_X3_fewestToHush_T (b : Int32) (d : Int32) (h0_asker_done : Int32) (h0_asker_latest : Int32) (h0_asker_value : Int32) (h0_asker_law_clauses : Int32) (h0_asker_law_length : Int32) (n_h0_asker_law_heads : Nat) (f_h0_asker_law_heads : Nat → Int32) (n_h0_asker_law_code : Nat) (f_h0_asker_law_code : Nat → Int32) (f_h0_asker_stack : Nat → Int64) (p0_folk_listeners : Int32) (p0_folk_noises : Int32) (p0_folk_hushed : Int32) (f_p0_folk_column : Nat → Int32) (f_p0_rock_hard : Nat → Int32) (f_p0_rock_water : Nat → Int32) (f_p0_term : Nat → Int32) (p0_crew_count : Int32) (f_p0_crew_cell : Nat → Int32) (f_p0_crew_buckets : Nat → Int32) (f_h0_said : Nat → Int32) (f_h0_lost : Nat → Int32) (f_p0_folk_ear : Nat → Int32) (f_p0_folk_noiseColumn : Nat → Int32) (f_p0_folk_noiseLoud : Nat → Int32) (h_d : 0 ≤ d.toInt ∧ d.toInt ≤ 39) (h_h0_asker_law_clauses : 0 ≤ h0_asker_law_clauses.toInt ∧ h0_asker_law_clauses.toInt ≤ 12) (h_h0_asker_law_length : 0 ≤ h0_asker_law_length.toInt ∧ h0_asker_law_length.toInt ≤ 400) (h_f_h0_asker_law_code : CD f_h0_asker_law_code) (h_p0_folk_listeners : 0 ≤ p0_folk_listeners.toInt ∧ p0_folk_listeners.toInt ≤ 5) (h_p0_folk_noises : 0 ≤ p0_folk_noises.toInt ∧ p0_folk_noises.toInt ≤ 6) (h_f_p0_folk_column : CO f_p0_folk_column) (h_f_p0_rock_hard : HA f_p0_rock_hard) (h_f_p0_rock_water : WA f_p0_rock_water) (h_f_p0_term : TE f_p0_term) (h_p0_crew_count : 0 ≤ p0_crew_count.toInt ∧ p0_crew_count.toInt ≤ 6) (h_f_p0_crew_cell : CE f_p0_crew_cell) (h_f_p0_crew_buckets : BU f_p0_crew_buckets) (h_f_h0_said : SA f_h0_said) (h_f_h0_lost : LO f_h0_lost) (h_f_p0_folk_ear : EA f_p0_folk_ear) (h_f_p0_folk_noiseColumn : NC f_p0_folk_noiseColumn) (h_f_p0_folk_noiseLoud : NL f_p0_folk_noiseLoud) (e_0 : n_h0_asker_law_heads < 100000) (e_1 : h0_asker_law_length.toInt ≤ (n_h0_asker_law_code : Int)) {Q : Int32 → (Int32 × Int32 × Int32 × Int32 × (Nat → Int64) × (Nat → Int32) × (Nat → Int32)) → Prop} (hq : ∀ (r : Int32) (u_0 : Int32) (u_1 : Int32) (u_2 : Int32) (u_3 : Int32) (u_4 : Nat → Int64) (u_5 : Nat → Int32) (u_6 : Nat → Int32), (0 ≤ u_0.toInt ∧ u_0.toInt ≤ 39) ∧ (SA u_5) ∧ (LO u_6) → Q r (u_0, u_1, u_2, u_3, u_4, u_5, u_6)) : wp_X3_fewestToHush_T b d h0_asker_done h0_asker_latest h0_asker_value h0_asker_law_clauses h0_asker_law_length n_h0_asker_law_heads f_h0_asker_law_heads n_h0_asker_law_code f_h0_asker_law_code f_h0_asker_stack p0_folk_listeners p0_folk_noises p0_folk_hushed f_p0_folk_column f_p0_rock_hard f_p0_rock_water f_p0_term p0_crew_count f_p0_crew_cell f_p0_crew_buckets f_h0_said f_h0_lost f_p0_folk_ear f_p0_folk_noiseColumn f_p0_folk_noiseLoud Q := by
  unfold wp_X3_fewestToHush_T
  refine s_X3_measureCell_T d h0_asker_done h0_asker_latest h0_asker_value h0_asker_law_clauses h0_asker_law_length n_h0_asker_law_heads (f_h0_asker_law_heads) n_h0_asker_law_code (f_h0_asker_law_code) (f_h0_asker_stack) p0_folk_listeners (f_p0_folk_column) (f_p0_rock_hard) (f_p0_rock_water) (f_p0_term) p0_crew_count (f_p0_crew_cell) (f_p0_crew_buckets) (f_h0_said) (f_h0_lost) ⟨by omega, by omega⟩ ⟨by omega, by omega⟩ ⟨by omega, by omega⟩ h_f_h0_asker_law_code ⟨by omega, by omega⟩ h_f_p0_folk_column h_f_p0_rock_hard h_f_p0_rock_water h_f_p0_term ⟨by omega, by omega⟩ h_f_p0_crew_cell h_f_p0_crew_buckets h_f_h0_said h_f_h0_lost (by omega) (by omega) (fun u1_0 u1_1 u1_2 u1_3 u1_4 u1_5 u1_6 H2 => ?_)
  have j3 := H2.1
  have j4 := H2.2.1
  have j5 := H2.2.2
  refine un7_i ?_
  have k8 : Int32.toInt 0 = 0 := rfl
  have k9 : Int32.toInt (-1) = (-1) := (by decide)
  refine sl_X3_fewestToHush_T_11 b d p0_folk_listeners p0_folk_noises p0_folk_hushed (f_p0_folk_column) (f_p0_folk_ear) (f_p0_folk_noiseColumn) (f_p0_folk_noiseLoud) (u1_5) (u1_6) ⟨by omega, by omega⟩ ⟨by omega, by omega⟩ ⟨by omega, by omega⟩ h_f_p0_folk_column h_f_p0_folk_ear h_f_p0_folk_noiseColumn h_f_p0_folk_noiseLoud j4 j5 _ (fun x6_0 x6_1 X7 => ?_) 1000000000000 0 (-1) ⟨(by decide), (by decide)⟩ (by omega)
  have j10 := X7.1
  have j11 := X7.2
  exact hq _ _ _ _ _ _ _ _ ⟨⟨by omega, by omega⟩, j4, j5⟩


set_option maxRecDepth 100000 in
theorem s_X11_quiet_T (a : Int32) (b : Int32) (d : Int32) (h0_site_world : Nat) (h0_site_world_lawCount : Int32) (h0_site_world_force : Int32) (h0_site_world_folk_listeners : Int32) (h0_site_world_folk_noises : Int32) (h0_site_world_folk_hushed : Int32) (f_h0_site_world_rock_kind : Nat → Int32) (f_h0_site_world_laws : Nat → Option Nat) (h0_asker_world : Value) (h0_asker_law : Value) (h0_asker_cell : Int32) (h0_asker_shaft : Int32) (h0_asker_kind : Int32) (h0_asker_done : Int32) (h0_asker_latest : Int32) (h0_asker_value : Int32) (t : Nat) (t_clauses : Int32) (t_length : Int32) (n_t_heads : Nat) (f_t_heads : Nat → Int32) (n_t_code : Nat) (f_t_code : Nat → Int32) (f_h0_asker_stack : Nat → Int64) (f_h0_site_world_folk_column : Nat → Int32) (f_h0_site_world_rock_hard : Nat → Int32) (f_h0_site_world_rock_water : Nat → Int32) (f_h0_site_world_term : Nat → Int32) (h0_site_world_crew_count : Int32) (f_h0_site_world_crew_cell : Nat → Int32) (f_h0_site_world_crew_buckets : Nat → Int32) (f_h0_ears_said : Nat → Int32) (f_h0_ears_lost : Nat → Int32) (f_h0_site_world_folk_ear : Nat → Int32) (f_h0_site_world_folk_noiseColumn : Nat → Int32) (f_h0_site_world_folk_noiseLoud : Nat → Int32) (h_h0_site_world_lawCount : 0 ≤ h0_site_world_lawCount.toInt ∧ h0_site_world_lawCount.toInt ≤ 6) (h_h0_site_world_force : 0 ≤ h0_site_world_force.toInt ∧ h0_site_world_force.toInt ≤ 5) (h_h0_site_world_folk_listeners : 0 ≤ h0_site_world_folk_listeners.toInt ∧ h0_site_world_folk_listeners.toInt ≤ 5) (h_h0_site_world_folk_noises : 0 ≤ h0_site_world_folk_noises.toInt ∧ h0_site_world_folk_noises.toInt ≤ 6) (h_f_h0_site_world_rock_kind : KI f_h0_site_world_rock_kind) (h_h0_asker_cell : 0 ≤ h0_asker_cell.toInt ∧ h0_asker_cell.toInt ≤ 39) (h_t_clauses : 0 ≤ t_clauses.toInt ∧ t_clauses.toInt ≤ 12) (h_t_length : 0 ≤ t_length.toInt ∧ t_length.toInt ≤ 400) (h_f_t_code : CD f_t_code) (h_f_h0_site_world_folk_column : CO f_h0_site_world_folk_column) (h_f_h0_site_world_rock_hard : HA f_h0_site_world_rock_hard) (h_f_h0_site_world_rock_water : WA f_h0_site_world_rock_water) (h_f_h0_site_world_term : TE f_h0_site_world_term) (h_h0_site_world_crew_count : 0 ≤ h0_site_world_crew_count.toInt ∧ h0_site_world_crew_count.toInt ≤ 6) (h_f_h0_site_world_crew_cell : CE f_h0_site_world_crew_cell) (h_f_h0_site_world_crew_buckets : BU f_h0_site_world_crew_buckets) (h_f_h0_ears_said : SA f_h0_ears_said) (h_f_h0_ears_lost : LO f_h0_ears_lost) (h_f_h0_site_world_folk_ear : EA f_h0_site_world_folk_ear) (h_f_h0_site_world_folk_noiseColumn : NC f_h0_site_world_folk_noiseColumn) (h_f_h0_site_world_folk_noiseLoud : NL f_h0_site_world_folk_noiseLoud) (e_0 : n_t_heads < 100000) (e_1 : t_length.toInt ≤ (n_t_code : Int)) (e_2 : h0_site_world_force.toInt < h0_site_world_lawCount.toInt) (e_3 : f_h0_site_world_laws (Int32.toNatClampNeg h0_site_world_force) = some t) {Q : Int32 → (Value × Value × Int32 × Int32 × Int32 × Int32 × (Nat → Int64) × (Nat → Int32) × (Nat → Int32)) → Prop} (hq : ∀ (r : Int32) (u_0 : Value) (u_1 : Value) (u_2 : Int32) (u_3 : Int32) (u_4 : Int32) (u_5 : Int32) (u_6 : Nat → Int64) (u_7 : Nat → Int32) (u_8 : Nat → Int32), (0 ≤ u_2.toInt ∧ u_2.toInt ≤ 39) ∧ (SA u_7) ∧ (LO u_8) → Q r (u_0, u_1, u_2, u_3, u_4, u_5, u_6, u_7, u_8)) : wp_X11_quiet_T a b d h0_site_world h0_site_world_lawCount h0_site_world_force h0_site_world_folk_listeners h0_site_world_folk_noises h0_site_world_folk_hushed f_h0_site_world_rock_kind f_h0_site_world_laws h0_asker_world h0_asker_law h0_asker_cell h0_asker_shaft h0_asker_kind h0_asker_done h0_asker_latest h0_asker_value t t_clauses t_length n_t_heads f_t_heads n_t_code f_t_code f_h0_asker_stack f_h0_site_world_folk_column f_h0_site_world_rock_hard f_h0_site_world_rock_water f_h0_site_world_term h0_site_world_crew_count f_h0_site_world_crew_cell f_h0_site_world_crew_buckets f_h0_ears_said f_h0_ears_lost f_h0_site_world_folk_ear f_h0_site_world_folk_noiseColumn f_h0_site_world_folk_noiseLoud Q := by
  unfold wp_X11_quiet_T
  refine jn1_i (fun (y1 : Int32) => (0 ≤ y1.toInt ∧ y1.toInt ≤ 1)) (fun y1 J2 => ?_) (fun _ HJ2 => ?_)
  · have j3 := J2
    by_cases c4 : y1 = 0
    · refine br1 c4 ?_
      have d5 := eq_z (a := y1) (b := 0) (x := (Int32.toInt y1)) (y := 0) rfl rfl c4
      exact hq _ _ _ _ _ _ _ _ _ _ ⟨⟨by omega, by omega⟩, h_f_h0_ears_said, h_f_h0_ears_lost⟩
    · refine br0 c4 ?_
      have d6 := ne_z (a := y1) (b := 0) (x := (Int32.toInt y1)) (y := 0) rfl rfl c4
      refine o_X11_isWithin _ _ _ ?_
      by_cases c7 : b < 0
      · refine br1 c7 ?_
        have d8 := lt_z (a := b) (b := 0) (x := (Int32.toInt b)) (y := 0) rfl rfl c7
        refine br1 (by decide) ?_
        exact hq _ _ _ _ _ _ _ _ _ _ ⟨⟨by omega, by omega⟩, h_f_h0_ears_said, h_f_h0_ears_lost⟩
      · refine br0 c7 ?_
        have d9 := nlt_z (a := b) (b := 0) (x := (Int32.toInt b)) (y := 0) rfl rfl c7
        by_cases c10 : 40 ≤ b
        · refine br1 c10 ?_
          have d11 := le_z (a := 40) (b := b) (x := 40) (y := (Int32.toInt b)) rfl rfl c10
          refine br1 (by decide) ?_
          exact hq _ _ _ _ _ _ _ _ _ _ ⟨⟨by omega, by omega⟩, h_f_h0_ears_said, h_f_h0_ears_lost⟩
        · refine br0 c10 ?_
          have d12 := nle_z (a := 40) (b := b) (x := 40) (y := (Int32.toInt b)) rfl rfl c10
          refine br0 (by decide) ?_
          refine o_X11_isWithin _ _ _ ?_
          by_cases c13 : d < 0
          · refine br1 c13 ?_
            have d14 := lt_z (a := d) (b := 0) (x := (Int32.toInt d)) (y := 0) rfl rfl c13
            refine br1 (by decide) ?_
            exact hq _ _ _ _ _ _ _ _ _ _ ⟨⟨by omega, by omega⟩, h_f_h0_ears_said, h_f_h0_ears_lost⟩
          · refine br0 c13 ?_
            have d15 := nlt_z (a := d) (b := 0) (x := (Int32.toInt d)) (y := 0) rfl rfl c13
            by_cases c16 : 2 ≤ d
            · refine br1 c16 ?_
              have d17 := le_z (a := 2) (b := d) (x := 2) (y := (Int32.toInt d)) rfl rfl c16
              refine br1 (by decide) ?_
              exact hq _ _ _ _ _ _ _ _ _ _ ⟨⟨by omega, by omega⟩, h_f_h0_ears_said, h_f_h0_ears_lost⟩
            · refine br0 c16 ?_
              have d18 := nle_z (a := 2) (b := d) (x := 2) (y := (Int32.toInt d)) rfl rfl c16
              refine br0 (by decide) ?_
              refine ⟨vpi (x := (Int32.toInt b)) rfl (by omega) (by omega), ?_⟩
              by_cases c19 : (f_h0_site_world_rock_kind b.toNatClampNeg) = 3
              · refine br1 c19 ?_
                have g20 : 0 ≤ (Int32.toInt (f_h0_site_world_rock_kind b.toNatClampNeg)) ∧ (Int32.toInt (f_h0_site_world_rock_kind b.toNatClampNeg)) ≤ 3 := KI.at_0 h_f_h0_site_world_rock_kind (tnz (x := (Int32.toInt b)) rfl (by omega)) (by omega) (by omega)
                have d21 := eq_z (a := (f_h0_site_world_rock_kind b.toNatClampNeg)) (b := 3) (x := (Int32.toInt (f_h0_site_world_rock_kind b.toNatClampNeg))) (y := 3) rfl rfl c19
                refine o_X10_lawInForce_T _ _ _ _ _ ?_
                refine o_X10_lawOf_T _ _ _ _ _ ?_
                refine br0 (z_nlt (x := (Int32.toInt h0_site_world_force)) (y := 0) rfl rfl (by omega)) ?_
                by_cases c22 : h0_site_world_lawCount ≤ h0_site_world_force
                · refine br1 c22 ?_
                  have d23 := le_z (a := h0_site_world_lawCount) (b := h0_site_world_force) (x := (Int32.toInt h0_site_world_lawCount)) (y := (Int32.toInt h0_site_world_force)) rfl rfl c22
                  exfalso
                  omega
                · refine br0 c22 ?_
                  have d24 := nle_z (a := h0_site_world_lawCount) (b := h0_site_world_force) (x := (Int32.toInt h0_site_world_lawCount)) (y := (Int32.toInt h0_site_world_force)) rfl rfl c22
                  refine br0 (z_nle (x := 6) (y := (Int32.toInt h0_site_world_force)) rfl rfl (by omega)) ?_
                  refine ⟨vpi (x := (Int32.toInt h0_site_world_force)) rfl (by omega) (by omega), ?_⟩
                  refine ⟨by assumption, ?_⟩
                  refine o_X0_turnTo_T _ ?_
                  refine s_X3_fewestToHush_T a b h0_asker_done h0_asker_latest h0_asker_value t_clauses t_length n_t_heads (f_t_heads) n_t_code (f_t_code) (f_h0_asker_stack) h0_site_world_folk_listeners h0_site_world_folk_noises h0_site_world_folk_hushed (f_h0_site_world_folk_column) (f_h0_site_world_rock_hard) (f_h0_site_world_rock_water) (f_h0_site_world_term) h0_site_world_crew_count (f_h0_site_world_crew_cell) (f_h0_site_world_crew_buckets) (f_h0_ears_said) (f_h0_ears_lost) (f_h0_site_world_folk_ear) (f_h0_site_world_folk_noiseColumn) (f_h0_site_world_folk_noiseLoud) ⟨by omega, by omega⟩ ⟨by omega, by omega⟩ ⟨by omega, by omega⟩ h_f_t_code ⟨by omega, by omega⟩ ⟨by omega, by omega⟩ h_f_h0_site_world_folk_column h_f_h0_site_world_rock_hard h_f_h0_site_world_rock_water h_f_h0_site_world_term ⟨by omega, by omega⟩ h_f_h0_site_world_crew_cell h_f_h0_site_world_crew_buckets h_f_h0_ears_said h_f_h0_ears_lost h_f_h0_site_world_folk_ear h_f_h0_site_world_folk_noiseColumn h_f_h0_site_world_folk_noiseLoud (by omega) (by omega) (fun r25 u26_0 u26_1 u26_2 u26_3 u26_4 u26_5 u26_6 H27 => ?_)
                  have j28 := H27.1
                  have j29 := H27.2.1
                  have j30 := H27.2.2
                  refine un7_i ?_
                  by_cases c31 : r25 = (-1)
                  · refine br1 c31 ?_
                    have d32 := eq_z (a := r25) (b := (-1)) (x := (Int32.toInt r25)) (y := (-1)) rfl (by decide) c31
                    exact hq _ _ _ _ _ _ _ _ _ _ ⟨⟨by omega, by omega⟩, j29, j30⟩
                  · refine br0 c31 ?_
                    have d33 := ne_z (a := r25) (b := (-1)) (x := (Int32.toInt r25)) (y := (-1)) rfl (by decide) c31
                    by_cases c34 : d = 0
                    · refine br1 c34 ?_
                      have d35 := eq_z (a := d) (b := 0) (x := (Int32.toInt d)) (y := 0) rfl rfl c34
                      refine s_J6_bitCount_0f7a4 r25  (fun r36 H37 => ?_)
                      exact hq _ _ _ _ _ _ _ _ _ _ ⟨⟨by omega, by omega⟩, j29, j30⟩
                    · refine br0 c34 ?_
                      have d38 := ne_z (a := d) (b := 0) (x := (Int32.toInt d)) (y := 0) rfl rfl c34
                      exact hq _ _ _ _ _ _ _ _ _ _ ⟨⟨by omega, by omega⟩, j29, j30⟩
              · refine br0 c19 ?_
                have g39 : 0 ≤ (Int32.toInt (f_h0_site_world_rock_kind b.toNatClampNeg)) ∧ (Int32.toInt (f_h0_site_world_rock_kind b.toNatClampNeg)) ≤ 3 := KI.at_0 h_f_h0_site_world_rock_kind (tnz (x := (Int32.toInt b)) rfl (by omega)) (by omega) (by omega)
                have d40 := ne_z (a := (f_h0_site_world_rock_kind b.toNatClampNeg)) (b := 3) (x := (Int32.toInt (f_h0_site_world_rock_kind b.toNatClampNeg))) (y := 3) rfl rfl c19
                exact hq _ _ _ _ _ _ _ _ _ _ ⟨⟨by omega, by omega⟩, h_f_h0_ears_said, h_f_h0_ears_lost⟩
  · skip
    by_cases c41 : a < 0
    · refine br1 c41 ?_
      have d42 := lt_z (a := a) (b := 0) (x := (Int32.toInt a)) (y := 0) rfl rfl c41
      exact HJ2 _ (by decide)
    · refine br0 c41 ?_
      have d43 := nlt_z (a := a) (b := 0) (x := (Int32.toInt a)) (y := 0) rfl rfl c41
      by_cases c44 : (a >>> (h0_site_world_folk_listeners &&& 31)) = 0
      · refine br1 c44 ?_
        have d45 := eq_z (a := (a >>> (h0_site_world_folk_listeners &&& 31))) (b := 0) (x := (Int32.toInt (a >>> (h0_site_world_folk_listeners &&& 31)))) (y := 0) rfl rfl c44
        exact HJ2 _ (by decide)
      · refine br0 c44 ?_
        have d46 := ne_z (a := (a >>> (h0_site_world_folk_listeners &&& 31))) (b := 0) (x := (Int32.toInt (a >>> (h0_site_world_folk_listeners &&& 31)))) (y := 0) rfl rfl c44
        exact HJ2 _ (by decide)


set_option maxRecDepth 100000 in
theorem sl_X3_hiddenCells_T_17 (h0_asker_done : Int32) (h0_asker_latest : Int32) (p0_rock_dug : Int64) (f_p0_rock_kind : Nat → Int32) (t_clauses : Int32) (t_length : Int32) (n_t_heads : Nat) (f_t_heads : Nat → Int32) (n_t_code : Nat) (f_t_code : Nat → Int32) (p0_folk_listeners : Int32) (p0_folk_hearsay : Int32) (f_p0_folk_column : Nat → Int32) (f_p0_rock_hard : Nat → Int32) (f_p0_rock_water : Nat → Int32) (f_p0_term : Nat → Int32) (p0_crew_count : Int32) (f_p0_crew_cell : Nat → Int32) (f_p0_crew_buckets : Nat → Int32) (f_p0_folk_hearsayColumn : Nat → Int32) (f_p0_folk_hearsayLoud : Nat → Int32) (h_f_p0_rock_kind : KI f_p0_rock_kind) (h_t_clauses : 0 ≤ t_clauses.toInt ∧ t_clauses.toInt ≤ 12) (h_t_length : 0 ≤ t_length.toInt ∧ t_length.toInt ≤ 400) (h_f_t_code : CD f_t_code) (h_p0_folk_listeners : 0 ≤ p0_folk_listeners.toInt ∧ p0_folk_listeners.toInt ≤ 5) (h_p0_folk_hearsay : 0 ≤ p0_folk_hearsay.toInt ∧ p0_folk_hearsay.toInt ≤ 8) (h_f_p0_folk_column : CO f_p0_folk_column) (h_f_p0_rock_hard : HA f_p0_rock_hard) (h_f_p0_rock_water : WA f_p0_rock_water) (h_f_p0_term : TE f_p0_term) (h_p0_crew_count : 0 ≤ p0_crew_count.toInt ∧ p0_crew_count.toInt ≤ 6) (h_f_p0_crew_cell : CE f_p0_crew_cell) (h_f_p0_crew_buckets : BU f_p0_crew_buckets) (h_f_p0_folk_hearsayColumn : HC f_p0_folk_hearsayColumn) (h_f_p0_folk_hearsayLoud : HL f_p0_folk_hearsayLoud) (z_n_t_heads : n_t_heads < 100000) (z_n_t_code : t_length.toInt ≤ (n_t_code : Int)) (Qb : Int32 → Int64 → (Nat → Int64) → (Nat → Int32) → (Nat → Int32) → Int32 → Int32 → Int32 → Int32 → Prop) (KX : ∀ (x_17_0 : Int32) (x_17_1 : Int64) (x_17_2 : Nat → Int64) (x_17_3 : Nat → Int32) (x_17_4 : Nat → Int32) (x_17_5 : Int32) (x_17_6 : Int32) (x_17_7 : Int32) (x_17_8 : Int32), (40 ≤ x_17_0.toInt ∧ x_17_0.toInt ≤ 40) ∧ (SA x_17_3) ∧ (LO x_17_4) ∧ (0 ≤ x_17_5.toInt ∧ x_17_5.toInt ≤ 39) → Qb x_17_0 x_17_1 x_17_2 x_17_3 x_17_4 x_17_5 x_17_6 x_17_7 x_17_8) : ∀ (n : Nat) (x_17_0 : Int32) (x_17_1 : Int64) (x_17_2 : Nat → Int64) (x_17_3 : Nat → Int32) (x_17_4 : Nat → Int32) (x_17_5 : Int32) (x_17_6 : Int32) (x_17_7 : Int32) (x_17_8 : Int32), (0 ≤ x_17_0.toInt ∧ x_17_0.toInt ≤ 40) ∧ (SA x_17_3) ∧ (LO x_17_4) ∧ (0 ≤ x_17_5.toInt ∧ x_17_5.toInt ≤ 39) → 41 - x_17_0.toInt < (n : Int) → wl_X3_hiddenCells_T_17 h0_asker_done h0_asker_latest p0_rock_dug f_p0_rock_kind t_clauses t_length n_t_heads f_t_heads n_t_code f_t_code p0_folk_listeners p0_folk_hearsay f_p0_folk_column f_p0_rock_hard f_p0_rock_water f_p0_term p0_crew_count f_p0_crew_cell f_p0_crew_buckets f_p0_folk_hearsayColumn f_p0_folk_hearsayLoud Qb n x_17_0 x_17_1 x_17_2 x_17_3 x_17_4 x_17_5 x_17_6 x_17_7 x_17_8 := by
  intro n
  induction n with
  | zero =>
    intro x_17_0 x_17_1 x_17_2 x_17_3 x_17_4 x_17_5 x_17_6 x_17_7 x_17_8 hI hm
    exfalso; have hm : 41 - x_17_0.toInt < 0 := hm; omega
  | succ n ih =>
    intro x_17_0 x_17_1 x_17_2 x_17_3 x_17_4 x_17_5 x_17_6 x_17_7 x_17_8 hI hm
    have hm : 41 - x_17_0.toInt < (n : Int) + 1 := by simpa using hm
    have h_x_17_0 := hI.1
    have h_x_17_3 := hI.2.1
    have h_x_17_4 := hI.2.2.1
    have h_x_17_5 := hI.2.2.2
    unfold wl_X3_hiddenCells_T_17
    by_cases c4 : 40 ≤ x_17_0
    · refine br1 c4 ?_
      have d5 := le_z (a := 40) (b := x_17_0) (x := 40) (y := (Int32.toInt x_17_0)) rfl rfl c4
      exact KX _ _ _ _ _ _ _ _ _ ⟨⟨by omega, by omega⟩, h_x_17_3, h_x_17_4, ⟨by omega, by omega⟩⟩
    · refine br0 c4 ?_
      have d6 := nle_z (a := 40) (b := x_17_0) (x := 40) (y := (Int32.toInt x_17_0)) rfl rfl c4
      refine ⟨vpi (x := (Int32.toInt x_17_0)) rfl (by omega) (by omega), ?_⟩
      by_cases c7 : (f_p0_rock_kind x_17_0.toNatClampNeg) = 3
      · refine br1 c7 ?_
        have g8 : 0 ≤ (Int32.toInt (f_p0_rock_kind x_17_0.toNatClampNeg)) ∧ (Int32.toInt (f_p0_rock_kind x_17_0.toNatClampNeg)) ≤ 3 := KI.at_0 h_f_p0_rock_kind (tnz (x := (Int32.toInt x_17_0)) rfl (by omega)) (by omega) (by omega)
        have d9 := eq_z (a := (f_p0_rock_kind x_17_0.toNatClampNeg)) (b := 3) (x := (Int32.toInt (f_p0_rock_kind x_17_0.toNatClampNeg))) (y := 3) rfl rfl c7
        have t10 : (Int32.toInt (x_17_0 + 1)) = (Int32.toInt x_17_0) + 1 := add_z rfl rfl (by omega) (by omega)
        exact ih _ _ _ _ _ _ _ _ _ ⟨⟨by omega, by omega⟩, h_x_17_3, h_x_17_4, ⟨by omega, by omega⟩⟩ (by omega)
      · refine br0 c7 ?_
        have g11 : 0 ≤ (Int32.toInt (f_p0_rock_kind x_17_0.toNatClampNeg)) ∧ (Int32.toInt (f_p0_rock_kind x_17_0.toNatClampNeg)) ≤ 3 := KI.at_0 h_f_p0_rock_kind (tnz (x := (Int32.toInt x_17_0)) rfl (by omega)) (by omega) (by omega)
        have d12 := ne_z (a := (f_p0_rock_kind x_17_0.toNatClampNeg)) (b := 3) (x := (Int32.toInt (f_p0_rock_kind x_17_0.toNatClampNeg))) (y := 3) rfl rfl c7
        refine o_X6_isDug _ _ _ ?_
        by_cases c13 : (lg_cmp ((p0_rock_dug >>> (x_17_0.toInt64 &&& 63)) &&& 1) 0) = 0
        · refine br1 c13 ?_
          have d14 := c_eq (a := ((p0_rock_dug >>> (x_17_0.toInt64 &&& 63)) &&& 1)) (b := 0) (x := (Int64.toInt ((p0_rock_dug >>> (x_17_0.toInt64 &&& 63)) &&& 1))) (y := 0) rfl rfl c13
          refine br1 (by decide) ?_
          refine s_X3_measureCell_T x_17_0 h0_asker_done h0_asker_latest x_17_8 t_clauses t_length n_t_heads (f_t_heads) n_t_code (f_t_code) (x_17_2) p0_folk_listeners (f_p0_folk_column) (f_p0_rock_hard) (f_p0_rock_water) (f_p0_term) p0_crew_count (f_p0_crew_cell) (f_p0_crew_buckets) (x_17_3) (x_17_4) ⟨by omega, by omega⟩ ⟨by omega, by omega⟩ ⟨by omega, by omega⟩ h_f_t_code ⟨by omega, by omega⟩ h_f_p0_folk_column h_f_p0_rock_hard h_f_p0_rock_water h_f_p0_term ⟨by omega, by omega⟩ h_f_p0_crew_cell h_f_p0_crew_buckets h_x_17_3 h_x_17_4 (by omega) (by omega) (fun u15_0 u15_1 u15_2 u15_3 u15_4 u15_5 u15_6 H16 => ?_)
          have j17 := H16.1
          have j18 := H16.2.1
          have j19 := H16.2.2
          refine un7_i ?_
          refine s_X3_isAsHeard x_17_0 p0_folk_hearsay (f_p0_folk_hearsayColumn) (u15_5) (u15_6) (f_p0_folk_hearsayLoud) ⟨by omega, by omega⟩ ⟨by omega, by omega⟩ h_f_p0_folk_hearsayColumn j18 j19 h_f_p0_folk_hearsayLoud (fun r20 H21 => ?_)
          have j22 := H21
          by_cases c23 : r20 = 0
          · refine br1 c23 ?_
            have d24 := eq_z (a := r20) (b := 0) (x := (Int32.toInt r20)) (y := 0) rfl rfl c23
            have t25 : (Int32.toInt (x_17_0 + 1)) = (Int32.toInt x_17_0) + 1 := add_z rfl rfl (by omega) (by omega)
            exact ih _ _ _ _ _ _ _ _ _ ⟨⟨by omega, by omega⟩, j18, j19, ⟨by omega, by omega⟩⟩ (by omega)
          · refine br0 c23 ?_
            have d26 := ne_z (a := r20) (b := 0) (x := (Int32.toInt r20)) (y := 0) rfl rfl c23
            have t27 : (Int32.toInt (x_17_0 + 1)) = (Int32.toInt x_17_0) + 1 := add_z rfl rfl (by omega) (by omega)
            exact ih _ _ _ _ _ _ _ _ _ ⟨⟨by omega, by omega⟩, j18, j19, ⟨by omega, by omega⟩⟩ (by omega)
        · refine br0 c13 ?_
          have d28 := c_ne (a := ((p0_rock_dug >>> (x_17_0.toInt64 &&& 63)) &&& 1)) (b := 0) (x := (Int64.toInt ((p0_rock_dug >>> (x_17_0.toInt64 &&& 63)) &&& 1))) (y := 0) rfl rfl c13
          refine br0 (by decide) ?_
          have t29 : (Int32.toInt (x_17_0 + 1)) = (Int32.toInt x_17_0) + 1 := add_z rfl rfl (by omega) (by omega)
          exact ih _ _ _ _ _ _ _ _ _ ⟨⟨by omega, by omega⟩, h_x_17_3, h_x_17_4, ⟨by omega, by omega⟩⟩ (by omega)
set_option maxRecDepth 100000 in
theorem s_X3_hiddenCells_T (p0_lawCount : Int32) (p0_force : Int32) (f_p0_laws : Nat → Option Nat) (h0_asker_cell : Int32) (h0_asker_shaft : Int32) (h0_asker_kind : Int32) (h0_asker_done : Int32) (h0_asker_latest : Int32) (h0_asker_value : Int32) (p0_rock_dug : Int64) (f_p0_rock_kind : Nat → Int32) (t : Nat) (t_clauses : Int32) (t_length : Int32) (n_t_heads : Nat) (f_t_heads : Nat → Int32) (n_t_code : Nat) (f_t_code : Nat → Int32) (f_h0_asker_stack : Nat → Int64) (p0_folk_listeners : Int32) (p0_folk_hearsay : Int32) (f_p0_folk_column : Nat → Int32) (f_p0_rock_hard : Nat → Int32) (f_p0_rock_water : Nat → Int32) (f_p0_term : Nat → Int32) (p0_crew_count : Int32) (f_p0_crew_cell : Nat → Int32) (f_p0_crew_buckets : Nat → Int32) (f_h0_said : Nat → Int32) (f_h0_lost : Nat → Int32) (f_p0_folk_hearsayColumn : Nat → Int32) (f_p0_folk_hearsayLoud : Nat → Int32) (h_p0_lawCount : 0 ≤ p0_lawCount.toInt ∧ p0_lawCount.toInt ≤ 6) (h_p0_force : 0 ≤ p0_force.toInt ∧ p0_force.toInt ≤ 5) (h_h0_asker_cell : 0 ≤ h0_asker_cell.toInt ∧ h0_asker_cell.toInt ≤ 39) (h_f_p0_rock_kind : KI f_p0_rock_kind) (h_t_clauses : 0 ≤ t_clauses.toInt ∧ t_clauses.toInt ≤ 12) (h_t_length : 0 ≤ t_length.toInt ∧ t_length.toInt ≤ 400) (h_f_t_code : CD f_t_code) (h_p0_folk_listeners : 0 ≤ p0_folk_listeners.toInt ∧ p0_folk_listeners.toInt ≤ 5) (h_p0_folk_hearsay : 0 ≤ p0_folk_hearsay.toInt ∧ p0_folk_hearsay.toInt ≤ 8) (h_f_p0_folk_column : CO f_p0_folk_column) (h_f_p0_rock_hard : HA f_p0_rock_hard) (h_f_p0_rock_water : WA f_p0_rock_water) (h_f_p0_term : TE f_p0_term) (h_p0_crew_count : 0 ≤ p0_crew_count.toInt ∧ p0_crew_count.toInt ≤ 6) (h_f_p0_crew_cell : CE f_p0_crew_cell) (h_f_p0_crew_buckets : BU f_p0_crew_buckets) (h_f_h0_said : SA f_h0_said) (h_f_h0_lost : LO f_h0_lost) (h_f_p0_folk_hearsayColumn : HC f_p0_folk_hearsayColumn) (h_f_p0_folk_hearsayLoud : HL f_p0_folk_hearsayLoud) (e_0 : n_t_heads < 100000) (e_1 : t_length.toInt ≤ (n_t_code : Int)) (e_2 : p0_force.toInt < p0_lawCount.toInt) (e_3 : f_p0_laws (Int32.toNatClampNeg p0_force) = some t) {Q : Int64 → (Int32 × Int32 × Int32 × Int32 × (Nat → Int64) × (Nat → Int32) × (Nat → Int32)) → Prop} (hq : ∀ (r : Int64) (u_0 : Int32) (u_1 : Int32) (u_2 : Int32) (u_3 : Int32) (u_4 : Nat → Int64) (u_5 : Nat → Int32) (u_6 : Nat → Int32), (0 ≤ u_0.toInt ∧ u_0.toInt ≤ 39) ∧ (SA u_5) ∧ (LO u_6) → Q r (u_0, u_1, u_2, u_3, u_4, u_5, u_6)) : wp_X3_hiddenCells_T p0_lawCount p0_force f_p0_laws h0_asker_cell h0_asker_shaft h0_asker_kind h0_asker_done h0_asker_latest h0_asker_value p0_rock_dug f_p0_rock_kind t t_clauses t_length n_t_heads f_t_heads n_t_code f_t_code f_h0_asker_stack p0_folk_listeners p0_folk_hearsay f_p0_folk_column f_p0_rock_hard f_p0_rock_water f_p0_term p0_crew_count f_p0_crew_cell f_p0_crew_buckets f_h0_said f_h0_lost f_p0_folk_hearsayColumn f_p0_folk_hearsayLoud Q := by
  unfold wp_X3_hiddenCells_T
  refine o_X10_lawInForce_T _ _ _ _ _ ?_
  refine o_X10_lawOf_T _ _ _ _ _ ?_
  refine br0 (z_nlt (x := (Int32.toInt p0_force)) (y := 0) rfl rfl (by omega)) ?_
  by_cases c1 : p0_lawCount ≤ p0_force
  · refine br1 c1 ?_
    have d2 := le_z (a := p0_lawCount) (b := p0_force) (x := (Int32.toInt p0_lawCount)) (y := (Int32.toInt p0_force)) rfl rfl c1
    exfalso
    omega
  · refine br0 c1 ?_
    have d3 := nle_z (a := p0_lawCount) (b := p0_force) (x := (Int32.toInt p0_lawCount)) (y := (Int32.toInt p0_force)) rfl rfl c1
    refine br0 (z_nle (x := 6) (y := (Int32.toInt p0_force)) rfl rfl (by omega)) ?_
    refine ⟨vpi (x := (Int32.toInt p0_force)) rfl (by omega) (by omega), ?_⟩
    refine ⟨by assumption, ?_⟩
    refine o_X0_turnTo_T _ ?_
    have k6 : Int32.toInt 0 = 0 := rfl
    have k7 : Int64.toInt 0 = 0 := rfl
    refine sl_X3_hiddenCells_T_17 h0_asker_done h0_asker_latest p0_rock_dug (f_p0_rock_kind) t_clauses t_length n_t_heads (f_t_heads) n_t_code (f_t_code) p0_folk_listeners p0_folk_hearsay (f_p0_folk_column) (f_p0_rock_hard) (f_p0_rock_water) (f_p0_term) p0_crew_count (f_p0_crew_cell) (f_p0_crew_buckets) (f_p0_folk_hearsayColumn) (f_p0_folk_hearsayLoud) h_f_p0_rock_kind ⟨by omega, by omega⟩ ⟨by omega, by omega⟩ h_f_t_code ⟨by omega, by omega⟩ ⟨by omega, by omega⟩ h_f_p0_folk_column h_f_p0_rock_hard h_f_p0_rock_water h_f_p0_term ⟨by omega, by omega⟩ h_f_p0_crew_cell h_f_p0_crew_buckets h_f_p0_folk_hearsayColumn h_f_p0_folk_hearsayLoud (by omega) (by omega) _ (fun x4_0 x4_1 x4_2 x4_3 x4_4 x4_5 x4_6 x4_7 x4_8 X5 => ?_) 1000000000000 0 0 (f_h0_asker_stack) (f_h0_said) (f_h0_lost) h0_asker_cell h0_asker_shaft h0_asker_kind h0_asker_value ⟨(by decide), h_f_h0_said, h_f_h0_lost, ⟨by omega, by omega⟩⟩ (by omega)
    have j8 := X5.1
    have j9 := X5.2.1
    have j10 := X5.2.2.1
    have j11 := X5.2.2.2
    exact hq _ _ _ _ _ _ _ _ ⟨⟨by omega, by omega⟩, j9, j10⟩


set_option maxRecDepth 100000 in
theorem s_X11_hidden_T (h0_site_world_lawCount : Int32) (h0_site_world_force : Int32) (f_h0_site_world_laws : Nat → Option Nat) (h0_asker_cell : Int32) (h0_asker_shaft : Int32) (h0_asker_kind : Int32) (h0_asker_done : Int32) (h0_asker_latest : Int32) (h0_asker_value : Int32) (h0_site_world_rock_dug : Int64) (f_h0_site_world_rock_kind : Nat → Int32) (t : Nat) (t_clauses : Int32) (t_length : Int32) (n_t_heads : Nat) (f_t_heads : Nat → Int32) (n_t_code : Nat) (f_t_code : Nat → Int32) (f_h0_asker_stack : Nat → Int64) (h0_site_world_folk_listeners : Int32) (h0_site_world_folk_hearsay : Int32) (f_h0_site_world_folk_column : Nat → Int32) (f_h0_site_world_rock_hard : Nat → Int32) (f_h0_site_world_rock_water : Nat → Int32) (f_h0_site_world_term : Nat → Int32) (h0_site_world_crew_count : Int32) (f_h0_site_world_crew_cell : Nat → Int32) (f_h0_site_world_crew_buckets : Nat → Int32) (f_h0_ears_said : Nat → Int32) (f_h0_ears_lost : Nat → Int32) (f_h0_site_world_folk_hearsayColumn : Nat → Int32) (f_h0_site_world_folk_hearsayLoud : Nat → Int32) (h_h0_site_world_lawCount : 0 ≤ h0_site_world_lawCount.toInt ∧ h0_site_world_lawCount.toInt ≤ 6) (h_h0_site_world_force : 0 ≤ h0_site_world_force.toInt ∧ h0_site_world_force.toInt ≤ 5) (h_h0_asker_cell : 0 ≤ h0_asker_cell.toInt ∧ h0_asker_cell.toInt ≤ 39) (h_f_h0_site_world_rock_kind : KI f_h0_site_world_rock_kind) (h_t_clauses : 0 ≤ t_clauses.toInt ∧ t_clauses.toInt ≤ 12) (h_t_length : 0 ≤ t_length.toInt ∧ t_length.toInt ≤ 400) (h_f_t_code : CD f_t_code) (h_h0_site_world_folk_listeners : 0 ≤ h0_site_world_folk_listeners.toInt ∧ h0_site_world_folk_listeners.toInt ≤ 5) (h_h0_site_world_folk_hearsay : 0 ≤ h0_site_world_folk_hearsay.toInt ∧ h0_site_world_folk_hearsay.toInt ≤ 8) (h_f_h0_site_world_folk_column : CO f_h0_site_world_folk_column) (h_f_h0_site_world_rock_hard : HA f_h0_site_world_rock_hard) (h_f_h0_site_world_rock_water : WA f_h0_site_world_rock_water) (h_f_h0_site_world_term : TE f_h0_site_world_term) (h_h0_site_world_crew_count : 0 ≤ h0_site_world_crew_count.toInt ∧ h0_site_world_crew_count.toInt ≤ 6) (h_f_h0_site_world_crew_cell : CE f_h0_site_world_crew_cell) (h_f_h0_site_world_crew_buckets : BU f_h0_site_world_crew_buckets) (h_f_h0_ears_said : SA f_h0_ears_said) (h_f_h0_ears_lost : LO f_h0_ears_lost) (h_f_h0_site_world_folk_hearsayColumn : HC f_h0_site_world_folk_hearsayColumn) (h_f_h0_site_world_folk_hearsayLoud : HL f_h0_site_world_folk_hearsayLoud) (e_0 : n_t_heads < 100000) (e_1 : t_length.toInt ≤ (n_t_code : Int)) (e_2 : h0_site_world_force.toInt < h0_site_world_lawCount.toInt) (e_3 : f_h0_site_world_laws (Int32.toNatClampNeg h0_site_world_force) = some t) {Q : Int64 → (Int32 × Int32 × Int32 × Int32 × (Nat → Int64) × (Nat → Int32) × (Nat → Int32)) → Prop} (hq : ∀ (r : Int64) (u_0 : Int32) (u_1 : Int32) (u_2 : Int32) (u_3 : Int32) (u_4 : Nat → Int64) (u_5 : Nat → Int32) (u_6 : Nat → Int32), (0 ≤ u_0.toInt ∧ u_0.toInt ≤ 39) ∧ (SA u_5) ∧ (LO u_6) → Q r (u_0, u_1, u_2, u_3, u_4, u_5, u_6)) : wp_X11_hidden_T h0_site_world_lawCount h0_site_world_force f_h0_site_world_laws h0_asker_cell h0_asker_shaft h0_asker_kind h0_asker_done h0_asker_latest h0_asker_value h0_site_world_rock_dug f_h0_site_world_rock_kind t t_clauses t_length n_t_heads f_t_heads n_t_code f_t_code f_h0_asker_stack h0_site_world_folk_listeners h0_site_world_folk_hearsay f_h0_site_world_folk_column f_h0_site_world_rock_hard f_h0_site_world_rock_water f_h0_site_world_term h0_site_world_crew_count f_h0_site_world_crew_cell f_h0_site_world_crew_buckets f_h0_ears_said f_h0_ears_lost f_h0_site_world_folk_hearsayColumn f_h0_site_world_folk_hearsayLoud Q := by
  unfold wp_X11_hidden_T
  refine s_X3_hiddenCells_T h0_site_world_lawCount h0_site_world_force (f_h0_site_world_laws) h0_asker_cell h0_asker_shaft h0_asker_kind h0_asker_done h0_asker_latest h0_asker_value h0_site_world_rock_dug (f_h0_site_world_rock_kind) t t_clauses t_length n_t_heads (f_t_heads) n_t_code (f_t_code) (f_h0_asker_stack) h0_site_world_folk_listeners h0_site_world_folk_hearsay (f_h0_site_world_folk_column) (f_h0_site_world_rock_hard) (f_h0_site_world_rock_water) (f_h0_site_world_term) h0_site_world_crew_count (f_h0_site_world_crew_cell) (f_h0_site_world_crew_buckets) (f_h0_ears_said) (f_h0_ears_lost) (f_h0_site_world_folk_hearsayColumn) (f_h0_site_world_folk_hearsayLoud) ⟨by omega, by omega⟩ ⟨by omega, by omega⟩ ⟨by omega, by omega⟩ h_f_h0_site_world_rock_kind ⟨by omega, by omega⟩ ⟨by omega, by omega⟩ h_f_t_code ⟨by omega, by omega⟩ ⟨by omega, by omega⟩ h_f_h0_site_world_folk_column h_f_h0_site_world_rock_hard h_f_h0_site_world_rock_water h_f_h0_site_world_term ⟨by omega, by omega⟩ h_f_h0_site_world_crew_cell h_f_h0_site_world_crew_buckets h_f_h0_ears_said h_f_h0_ears_lost h_f_h0_site_world_folk_hearsayColumn h_f_h0_site_world_folk_hearsayLoud (by omega) (by omega) (by omega) (by assumption) (fun r1 u2_0 u2_1 u2_2 u2_3 u2_4 u2_5 u2_6 H3 => ?_)
  have j4 := H3.1
  have j5 := H3.2.1
  have j6 := H3.2.2
  refine un7_i ?_
  exact hq _ _ _ _ _ _ _ _ ⟨⟨by omega, by omega⟩, j5, j6⟩


set_option maxRecDepth 100000 in
theorem sl_X11_next_T_52 (y_26_0 : Int64) (y_26_8 : Nat → Int32) (y_26_9 : Nat → Int32) (h_y_26_8 : SA y_26_8) (h_y_26_9 : LO y_26_9) (Qb : Int32 → Int32 → Int32 → (Nat → Int32) → Prop) (KX : ∀ (x_52_0 : Int32) (x_52_1 : Int32) (x_52_2 : Int32) (x_52_3 : Nat → Int32), (8 ≤ x_52_0.toInt ∧ x_52_0.toInt ≤ 8) ∧ (0 ≤ x_52_2.toInt ∧ x_52_2.toInt ≤ 2147483647) → Qb x_52_0 x_52_1 x_52_2 x_52_3) : ∀ (n : Nat) (x_52_0 : Int32) (x_52_1 : Int32) (x_52_2 : Int32) (x_52_3 : Nat → Int32), (1 ≤ x_52_0.toInt ∧ x_52_0.toInt ≤ 8) ∧ (0 ≤ x_52_2.toInt ∧ x_52_2.toInt ≤ 2147483647) → 9 - x_52_0.toInt < (n : Int) → wl_X11_next_T_52 y_26_0 y_26_8 y_26_9 Qb n x_52_0 x_52_1 x_52_2 x_52_3 := by
  intro n
  induction n with
  | zero =>
    intro x_52_0 x_52_1 x_52_2 x_52_3 hI hm
    exfalso; have hm : 9 - x_52_0.toInt < 0 := hm; omega
  | succ n ih =>
    intro x_52_0 x_52_1 x_52_2 x_52_3 hI hm
    have hm : 9 - x_52_0.toInt < (n : Int) + 1 := by simpa using hm
    have h_x_52_0 := hI.1
    have h_x_52_2 := hI.2
    unfold wl_X11_next_T_52
    by_cases c19 : 8 ≤ x_52_0
    · refine br1 c19 ?_
      have d20 := le_z (a := 8) (b := x_52_0) (x := 8) (y := (Int32.toInt x_52_0)) rfl rfl c19
      have t21 := i32_hi x_52_2
      exact KX _ _ _ _ ⟨⟨by omega, by omega⟩, ⟨by omega, by omega⟩⟩
    · refine br0 c19 ?_
      have d22 := nle_z (a := 8) (b := x_52_0) (x := 8) (y := (Int32.toInt x_52_0)) rfl rfl c19
      refine s_X3_mostAlike y_26_0 x_52_0 (x_52_3) (y_26_8) (y_26_9) ⟨by omega, by omega⟩ h_y_26_8 h_y_26_9 (fun r23 u24 H25 => ?_)
      by_cases c26 : x_52_1 ≤ r23
      · refine br1 c26 ?_
        have d27 := le_z (a := x_52_1) (b := r23) (x := (Int32.toInt x_52_1)) (y := (Int32.toInt r23)) rfl rfl c26
        have t28 : (Int32.toInt (x_52_0 + 1)) = (Int32.toInt x_52_0) + 1 := add_z rfl rfl (by omega) (by omega)
        have t29 := i32_hi x_52_2
        exact ih _ _ _ _ ⟨⟨by omega, by omega⟩, ⟨by omega, by omega⟩⟩ (by omega)
      · refine br0 c26 ?_
        have d30 := nle_z (a := x_52_1) (b := r23) (x := (Int32.toInt x_52_1)) (y := (Int32.toInt r23)) rfl rfl c26
        have t31 : (Int32.toInt (x_52_0 + 1)) = (Int32.toInt x_52_0) + 1 := add_z rfl rfl (by omega) (by omega)
        have t32 := i32_hi x_52_0
        exact ih _ _ _ _ ⟨⟨by omega, by omega⟩, ⟨by omega, by omega⟩⟩ (by omega)
set_option maxRecDepth 100000 in
theorem s_X11_next_T (a : Int32) (h0_site_world : Nat) (h0_site_world_lawCount : Int32) (h0_site_world_force : Int32) (f_h0_site_world_laws : Nat → Option Nat) (h0_asker_world : Value) (h0_asker_law : Value) (h0_asker_cell : Int32) (h0_asker_shaft : Int32) (h0_asker_kind : Int32) (h0_asker_done : Int32) (h0_asker_latest : Int32) (h0_asker_value : Int32) (h0_site_world_rock_dug : Int64) (f_h0_site_world_rock_kind : Nat → Int32) (t : Nat) (t_clauses : Int32) (t_length : Int32) (n_t_heads : Nat) (f_t_heads : Nat → Int32) (n_t_code : Nat) (f_t_code : Nat → Int32) (f_h0_asker_stack : Nat → Int64) (h0_site_world_folk_listeners : Int32) (h0_site_world_folk_hearsay : Int32) (f_h0_site_world_folk_column : Nat → Int32) (f_h0_site_world_rock_hard : Nat → Int32) (f_h0_site_world_rock_water : Nat → Int32) (f_h0_site_world_term : Nat → Int32) (h0_site_world_crew_count : Int32) (f_h0_site_world_crew_cell : Nat → Int32) (f_h0_site_world_crew_buckets : Nat → Int32) (f_h0_ears_said : Nat → Int32) (f_h0_ears_lost : Nat → Int32) (f_h0_site_world_folk_hearsayColumn : Nat → Int32) (f_h0_site_world_folk_hearsayLoud : Nat → Int32) (f_h0_ears_alike : Nat → Int32) (h_h0_site_world_lawCount : 0 ≤ h0_site_world_lawCount.toInt ∧ h0_site_world_lawCount.toInt ≤ 6) (h_h0_site_world_force : 0 ≤ h0_site_world_force.toInt ∧ h0_site_world_force.toInt ≤ 5) (h_h0_asker_cell : 0 ≤ h0_asker_cell.toInt ∧ h0_asker_cell.toInt ≤ 39) (h_f_h0_site_world_rock_kind : KI f_h0_site_world_rock_kind) (h_t_clauses : 0 ≤ t_clauses.toInt ∧ t_clauses.toInt ≤ 12) (h_t_length : 0 ≤ t_length.toInt ∧ t_length.toInt ≤ 400) (h_f_t_code : CD f_t_code) (h_h0_site_world_folk_listeners : 0 ≤ h0_site_world_folk_listeners.toInt ∧ h0_site_world_folk_listeners.toInt ≤ 5) (h_h0_site_world_folk_hearsay : 0 ≤ h0_site_world_folk_hearsay.toInt ∧ h0_site_world_folk_hearsay.toInt ≤ 8) (h_f_h0_site_world_folk_column : CO f_h0_site_world_folk_column) (h_f_h0_site_world_rock_hard : HA f_h0_site_world_rock_hard) (h_f_h0_site_world_rock_water : WA f_h0_site_world_rock_water) (h_f_h0_site_world_term : TE f_h0_site_world_term) (h_h0_site_world_crew_count : 0 ≤ h0_site_world_crew_count.toInt ∧ h0_site_world_crew_count.toInt ≤ 6) (h_f_h0_site_world_crew_cell : CE f_h0_site_world_crew_cell) (h_f_h0_site_world_crew_buckets : BU f_h0_site_world_crew_buckets) (h_f_h0_ears_said : SA f_h0_ears_said) (h_f_h0_ears_lost : LO f_h0_ears_lost) (h_f_h0_site_world_folk_hearsayColumn : HC f_h0_site_world_folk_hearsayColumn) (h_f_h0_site_world_folk_hearsayLoud : HL f_h0_site_world_folk_hearsayLoud) (e_0 : n_t_heads < 100000) (e_1 : t_length.toInt ≤ (n_t_code : Int)) (e_2 : h0_site_world_force.toInt < h0_site_world_lawCount.toInt) (e_3 : f_h0_site_world_laws (Int32.toNatClampNeg h0_site_world_force) = some t) {Q : Int32 → (Value × Value × Int32 × Int32 × Int32 × Int32 × (Nat → Int64) × (Nat → Int32) × (Nat → Int32) × (Nat → Int32)) → Prop} (hq : ∀ (r : Int32) (u_0 : Value) (u_1 : Value) (u_2 : Int32) (u_3 : Int32) (u_4 : Int32) (u_5 : Int32) (u_6 : Nat → Int64) (u_7 : Nat → Int32) (u_8 : Nat → Int32) (u_9 : Nat → Int32), (0 ≤ u_2.toInt ∧ u_2.toInt ≤ 39) ∧ (SA u_7) ∧ (LO u_8) → Q r (u_0, u_1, u_2, u_3, u_4, u_5, u_6, u_7, u_8, u_9)) : wp_X11_next_T a h0_site_world h0_site_world_lawCount h0_site_world_force f_h0_site_world_laws h0_asker_world h0_asker_law h0_asker_cell h0_asker_shaft h0_asker_kind h0_asker_done h0_asker_latest h0_asker_value h0_site_world_rock_dug f_h0_site_world_rock_kind t t_clauses t_length n_t_heads f_t_heads n_t_code f_t_code f_h0_asker_stack h0_site_world_folk_listeners h0_site_world_folk_hearsay f_h0_site_world_folk_column f_h0_site_world_rock_hard f_h0_site_world_rock_water f_h0_site_world_term h0_site_world_crew_count f_h0_site_world_crew_cell f_h0_site_world_crew_buckets f_h0_ears_said f_h0_ears_lost f_h0_site_world_folk_hearsayColumn f_h0_site_world_folk_hearsayLoud f_h0_ears_alike Q := by
  unfold wp_X11_next_T
  refine o_X11_isWithin _ _ _ ?_
  by_cases c1 : a < 0
  · refine br1 c1 ?_
    have d2 := lt_z (a := a) (b := 0) (x := (Int32.toInt a)) (y := 0) rfl rfl c1
    refine jn_s ?_
    refine br1 (by decide) ?_
    refine un10_i ?_
    refine br1 (by decide) ?_
    exact hq _ _ _ _ _ _ _ _ _ _ _ ⟨⟨by omega, by omega⟩, h_f_h0_ears_said, h_f_h0_ears_lost⟩
  · refine br0 c1 ?_
    have d3 := nlt_z (a := a) (b := 0) (x := (Int32.toInt a)) (y := 0) rfl rfl c1
    by_cases c4 : 2 ≤ a
    · refine br1 c4 ?_
      have d5 := le_z (a := 2) (b := a) (x := 2) (y := (Int32.toInt a)) rfl rfl c4
      refine jn_s ?_
      refine br1 (by decide) ?_
      refine un10_i ?_
      refine br1 (by decide) ?_
      exact hq _ _ _ _ _ _ _ _ _ _ _ ⟨⟨by omega, by omega⟩, h_f_h0_ears_said, h_f_h0_ears_lost⟩
    · refine br0 c4 ?_
      have d6 := nle_z (a := 2) (b := a) (x := 2) (y := (Int32.toInt a)) rfl rfl c4
      refine jn_s ?_
      refine br0 (by decide) ?_
      refine s_X3_hiddenCells_T h0_site_world_lawCount h0_site_world_force (f_h0_site_world_laws) h0_asker_cell h0_asker_shaft h0_asker_kind h0_asker_done h0_asker_latest h0_asker_value h0_site_world_rock_dug (f_h0_site_world_rock_kind) t t_clauses t_length n_t_heads (f_t_heads) n_t_code (f_t_code) (f_h0_asker_stack) h0_site_world_folk_listeners h0_site_world_folk_hearsay (f_h0_site_world_folk_column) (f_h0_site_world_rock_hard) (f_h0_site_world_rock_water) (f_h0_site_world_term) h0_site_world_crew_count (f_h0_site_world_crew_cell) (f_h0_site_world_crew_buckets) (f_h0_ears_said) (f_h0_ears_lost) (f_h0_site_world_folk_hearsayColumn) (f_h0_site_world_folk_hearsayLoud) ⟨by omega, by omega⟩ ⟨by omega, by omega⟩ ⟨by omega, by omega⟩ h_f_h0_site_world_rock_kind ⟨by omega, by omega⟩ ⟨by omega, by omega⟩ h_f_t_code ⟨by omega, by omega⟩ ⟨by omega, by omega⟩ h_f_h0_site_world_folk_column h_f_h0_site_world_rock_hard h_f_h0_site_world_rock_water h_f_h0_site_world_term ⟨by omega, by omega⟩ h_f_h0_site_world_crew_cell h_f_h0_site_world_crew_buckets h_f_h0_ears_said h_f_h0_ears_lost h_f_h0_site_world_folk_hearsayColumn h_f_h0_site_world_folk_hearsayLoud (by omega) (by omega) (by omega) (by assumption) (fun r7 u8_0 u8_1 u8_2 u8_3 u8_4 u8_5 u8_6 H9 => ?_)
      have j10 := H9.1
      have j11 := H9.2.1
      have j12 := H9.2.2
      refine un7_i ?_
      refine un10_i ?_
      by_cases c13 : (lg_cmp r7 0) = 0
      · refine br1 c13 ?_
        have d14 := c_eq (a := r7) (b := 0) (x := (Int64.toInt r7)) (y := 0) rfl rfl c13
        exact hq _ _ _ _ _ _ _ _ _ _ _ ⟨⟨by omega, by omega⟩, j11, j12⟩
      · refine br0 c13 ?_
        have d15 := c_ne (a := r7) (b := 0) (x := (Int64.toInt r7)) (y := 0) rfl rfl c13
        refine s_X3_mostAlike r7 0 (f_h0_ears_alike) (u8_5) (u8_6) (by decide) j11 j12 (fun r16 u17 H18 => ?_)
        have k21 : Int32.toInt 1 = 1 := rfl
        have k22 : Int32.toInt 0 = 0 := rfl
        refine sl_X11_next_T_52 r7 (u8_5) (u8_6) j11 j12 _ (fun x19_0 x19_1 x19_2 x19_3 X20 => ?_) 1000000000000 1 r16 0 (u17) ⟨(by decide), (by decide)⟩ (by omega)
        have j23 := X20.1
        have j24 := X20.2
        by_cases c25 : a = 0
        · refine br1 c25 ?_
          have d26 := eq_z (a := a) (b := 0) (x := (Int32.toInt a)) (y := 0) rfl rfl c25
          exact hq _ _ _ _ _ _ _ _ _ _ _ ⟨⟨by omega, by omega⟩, j11, j12⟩
        · refine br0 c25 ?_
          have d27 := ne_z (a := a) (b := 0) (x := (Int32.toInt a)) (y := 0) rfl rfl c25
          exact hq _ _ _ _ _ _ _ _ _ _ _ ⟨⟨by omega, by omega⟩, j11, j12⟩


set_option maxRecDepth 100000 in
theorem sl_X9_weigh_T_3 (d : Int32) (p1_world_rock_dug : Int64) (p1_done : Int32) (p1_latest : Int32) (f_p1_world_rock_kind : Nat → Int32) (p1_law_clauses : Int32) (p1_law_length : Int32) (n_p1_law_heads : Nat) (f_p1_law_heads : Nat → Int32) (n_p1_law_code : Nat) (f_p1_law_code : Nat → Int32) (p1_world_folk_listeners : Int32) (f_p1_world_folk_column : Nat → Int32) (f_p1_world_rock_hard : Nat → Int32) (f_p1_world_rock_water : Nat → Int32) (f_p1_world_term : Nat → Int32) (p1_world_crew_count : Int32) (f_p1_world_crew_cell : Nat → Int32) (f_p1_world_crew_buckets : Nat → Int32) (h_f_p1_world_rock_kind : KI f_p1_world_rock_kind) (h_p1_law_clauses : 0 ≤ p1_law_clauses.toInt ∧ p1_law_clauses.toInt ≤ 12) (h_p1_law_length : 0 ≤ p1_law_length.toInt ∧ p1_law_length.toInt ≤ 400) (h_f_p1_law_code : CD f_p1_law_code) (h_p1_world_folk_listeners : 0 ≤ p1_world_folk_listeners.toInt ∧ p1_world_folk_listeners.toInt ≤ 5) (h_f_p1_world_folk_column : CO f_p1_world_folk_column) (h_f_p1_world_rock_hard : HA f_p1_world_rock_hard) (h_f_p1_world_rock_water : WA f_p1_world_rock_water) (h_f_p1_world_term : TE f_p1_world_term) (h_p1_world_crew_count : 0 ≤ p1_world_crew_count.toInt ∧ p1_world_crew_count.toInt ≤ 6) (h_f_p1_world_crew_cell : CE f_p1_world_crew_cell) (h_f_p1_world_crew_buckets : BU f_p1_world_crew_buckets) (z_n_p1_law_heads : n_p1_law_heads < 100000) (z_n_p1_law_code : p1_law_length.toInt ≤ (n_p1_law_code : Int)) (Qb : Int32 → Int32 → Int32 → Int32 → Int32 → (Nat → Int64) → (Nat → Int32) → (Nat → Int32) → Prop) (KX : ∀ (x_3_0 : Int32) (x_3_1 : Int32) (x_3_2 : Int32) (x_3_3 : Int32) (x_3_4 : Int32) (x_3_5 : Nat → Int64) (x_3_6 : Nat → Int32) (x_3_7 : Nat → Int32), (40 ≤ x_3_0.toInt ∧ x_3_0.toInt ≤ 40) ∧ (0 ≤ x_3_1.toInt ∧ x_3_1.toInt ≤ 39) ∧ (CS x_3_6) → Qb x_3_0 x_3_1 x_3_2 x_3_3 x_3_4 x_3_5 x_3_6 x_3_7) : ∀ (n : Nat) (x_3_0 : Int32) (x_3_1 : Int32) (x_3_2 : Int32) (x_3_3 : Int32) (x_3_4 : Int32) (x_3_5 : Nat → Int64) (x_3_6 : Nat → Int32) (x_3_7 : Nat → Int32), (0 ≤ x_3_0.toInt ∧ x_3_0.toInt ≤ 40) ∧ (0 ≤ x_3_1.toInt ∧ x_3_1.toInt ≤ 39) ∧ (CS x_3_6) → 41 - x_3_0.toInt < (n : Int) → wl_X9_weigh_T_3 d p1_world_rock_dug p1_done p1_latest f_p1_world_rock_kind p1_law_clauses p1_law_length n_p1_law_heads f_p1_law_heads n_p1_law_code f_p1_law_code p1_world_folk_listeners f_p1_world_folk_column f_p1_world_rock_hard f_p1_world_rock_water f_p1_world_term p1_world_crew_count f_p1_world_crew_cell f_p1_world_crew_buckets Qb n x_3_0 x_3_1 x_3_2 x_3_3 x_3_4 x_3_5 x_3_6 x_3_7 := by
  intro n
  induction n with
  | zero =>
    intro x_3_0 x_3_1 x_3_2 x_3_3 x_3_4 x_3_5 x_3_6 x_3_7 hI hm
    exfalso; have hm : 41 - x_3_0.toInt < 0 := hm; omega
  | succ n ih =>
    intro x_3_0 x_3_1 x_3_2 x_3_3 x_3_4 x_3_5 x_3_6 x_3_7 hI hm
    have hm : 41 - x_3_0.toInt < (n : Int) + 1 := by simpa using hm
    have h_x_3_0 := hI.1
    have h_x_3_1 := hI.2.1
    have h_x_3_6 := hI.2.2
    unfold wl_X9_weigh_T_3
    by_cases c1 : 40 ≤ x_3_0
    · refine br1 c1 ?_
      have d2 := le_z (a := 40) (b := x_3_0) (x := 40) (y := (Int32.toInt x_3_0)) rfl rfl c1
      exact KX _ _ _ _ _ _ _ _ ⟨⟨by omega, by omega⟩, ⟨by omega, by omega⟩, h_x_3_6⟩
    · refine br0 c1 ?_
      have d3 := nle_z (a := 40) (b := x_3_0) (x := 40) (y := (Int32.toInt x_3_0)) rfl rfl c1
      refine o_X6_isDug _ _ _ ?_
      by_cases c4 : (lg_cmp ((p1_world_rock_dug >>> (x_3_0.toInt64 &&& 63)) &&& 1) 0) = 0
      · refine br1 c4 ?_
        have d5 := c_eq (a := ((p1_world_rock_dug >>> (x_3_0.toInt64 &&& 63)) &&& 1)) (b := 0) (x := (Int64.toInt ((p1_world_rock_dug >>> (x_3_0.toInt64 &&& 63)) &&& 1))) (y := 0) rfl rfl c4
        refine jn_s ?_
        refine br1 (by decide) ?_
        refine s_X0_passesOf_T d x_3_0 x_3_1 x_3_2 x_3_3 p1_done p1_latest x_3_4 (f_p1_world_rock_kind) p1_law_clauses p1_law_length n_p1_law_heads (f_p1_law_heads) n_p1_law_code (f_p1_law_code) (x_3_5) p1_world_folk_listeners (f_p1_world_folk_column) (f_p1_world_rock_hard) (f_p1_world_rock_water) (f_p1_world_term) p1_world_crew_count (f_p1_world_crew_cell) (f_p1_world_crew_buckets) ⟨by omega, by omega⟩ ⟨by omega, by omega⟩ h_f_p1_world_rock_kind ⟨by omega, by omega⟩ ⟨by omega, by omega⟩ h_f_p1_law_code ⟨by omega, by omega⟩ h_f_p1_world_folk_column h_f_p1_world_rock_hard h_f_p1_world_rock_water h_f_p1_world_term ⟨by omega, by omega⟩ h_f_p1_world_crew_cell h_f_p1_world_crew_buckets (by omega) (by omega) (fun r6 u7_0 u7_1 u7_2 u7_3 u7_4 H8 => ?_)
        have j9 := H8.1
        have j10 := H8.2
        refine un5_i ?_
        by_cases c11 : r6 = 0
        · refine br1 c11 ?_
          have d12 := eq_z (a := r6) (b := 0) (x := (Int32.toInt r6)) (y := 0) rfl rfl c11
          refine un6_i ?_
          refine jn_s ?_
          refine br1 (by decide) ?_
          refine un6_i ?_
          refine ⟨vpi (x := (Int32.toInt x_3_0)) rfl (by omega) (by omega), ?_⟩
          refine o_X6_endsAWay _ _ _ ?_
          refine ⟨vpi (x := (Int32.toInt x_3_0)) rfl (by omega) (by omega), ?_⟩
          by_cases c13 : (f_p1_world_rock_kind x_3_0.toNatClampNeg) = 2
          · refine br1 c13 ?_
            have g14 : 0 ≤ (Int32.toInt (f_p1_world_rock_kind x_3_0.toNatClampNeg)) ∧ (Int32.toInt (f_p1_world_rock_kind x_3_0.toNatClampNeg)) ≤ 3 := KI.at_0 h_f_p1_world_rock_kind (tnz (x := (Int32.toInt x_3_0)) rfl (by omega)) (by omega) (by omega)
            have d15 := eq_z (a := (f_p1_world_rock_kind x_3_0.toNatClampNeg)) (b := 2) (x := (Int32.toInt (f_p1_world_rock_kind x_3_0.toNatClampNeg))) (y := 2) rfl rfl c13
            refine ⟨vpi (x := (Int32.toInt x_3_0)) rfl (by omega) (by omega), ?_⟩
            have t16 : (Int32.toInt (x_3_0 + 1)) = (Int32.toInt x_3_0) + 1 := add_z rfl rfl (by omega) (by omega)
            have R17 : CS (upd x_3_6 x_3_0.toNatClampNeg 0) := CS.up_0 h_x_3_6 (tnz (x := (Int32.toInt x_3_0)) rfl (by omega)) (by omega) (by omega) (w := 0) rfl (by omega) (by omega)
            exact ih _ _ _ _ _ _ _ _ ⟨⟨by omega, by omega⟩, ⟨by omega, by omega⟩, R17⟩ (by omega)
          · refine br0 c13 ?_
            have g18 : 0 ≤ (Int32.toInt (f_p1_world_rock_kind x_3_0.toNatClampNeg)) ∧ (Int32.toInt (f_p1_world_rock_kind x_3_0.toNatClampNeg)) ≤ 3 := KI.at_0 h_f_p1_world_rock_kind (tnz (x := (Int32.toInt x_3_0)) rfl (by omega)) (by omega) (by omega)
            have d19 := ne_z (a := (f_p1_world_rock_kind x_3_0.toNatClampNeg)) (b := 2) (x := (Int32.toInt (f_p1_world_rock_kind x_3_0.toNatClampNeg))) (y := 2) rfl rfl c13
            refine ⟨vpi (x := (Int32.toInt x_3_0)) rfl (by omega) (by omega), ?_⟩
            by_cases c20 : (f_p1_world_rock_kind x_3_0.toNatClampNeg) = 3
            · refine br1 c20 ?_
              have d21 := eq_z (a := (f_p1_world_rock_kind x_3_0.toNatClampNeg)) (b := 3) (x := (Int32.toInt (f_p1_world_rock_kind x_3_0.toNatClampNeg))) (y := 3) rfl rfl c20
              refine ⟨vpi (x := (Int32.toInt x_3_0)) rfl (by omega) (by omega), ?_⟩
              have t22 : (Int32.toInt (x_3_0 + 1)) = (Int32.toInt x_3_0) + 1 := add_z rfl rfl (by omega) (by omega)
              have R23 : CS (upd x_3_6 x_3_0.toNatClampNeg 0) := CS.up_0 h_x_3_6 (tnz (x := (Int32.toInt x_3_0)) rfl (by omega)) (by omega) (by omega) (w := 0) rfl (by omega) (by omega)
              exact ih _ _ _ _ _ _ _ _ ⟨⟨by omega, by omega⟩, ⟨by omega, by omega⟩, R23⟩ (by omega)
            · refine br0 c20 ?_
              have d24 := ne_z (a := (f_p1_world_rock_kind x_3_0.toNatClampNeg)) (b := 3) (x := (Int32.toInt (f_p1_world_rock_kind x_3_0.toNatClampNeg))) (y := 3) rfl rfl c20
              refine ⟨vpi (x := (Int32.toInt x_3_0)) rfl (by omega) (by omega), ?_⟩
              have t25 : (Int32.toInt (x_3_0 + 1)) = (Int32.toInt x_3_0) + 1 := add_z rfl rfl (by omega) (by omega)
              have R26 : CS (upd x_3_6 x_3_0.toNatClampNeg 0) := CS.up_0 h_x_3_6 (tnz (x := (Int32.toInt x_3_0)) rfl (by omega)) (by omega) (by omega) (w := 0) rfl (by omega) (by omega)
              exact ih _ _ _ _ _ _ _ _ ⟨⟨by omega, by omega⟩, ⟨by omega, by omega⟩, R26⟩ (by omega)
        · refine br0 c11 ?_
          have d27 := ne_z (a := r6) (b := 0) (x := (Int32.toInt r6)) (y := 0) rfl rfl c11
          refine un6_i ?_
          refine jn_s ?_
          refine br0 (by decide) ?_
          refine s_X0_digsOf_T d x_3_0 p1_done p1_latest u7_3 (f_p1_world_rock_kind) (f_p1_world_rock_hard) p1_law_clauses p1_law_length n_p1_law_heads (f_p1_law_heads) n_p1_law_code (f_p1_law_code) (u7_4) p1_world_folk_listeners (f_p1_world_folk_column) (f_p1_world_rock_water) (f_p1_world_term) p1_world_crew_count (f_p1_world_crew_cell) (f_p1_world_crew_buckets) ⟨by omega, by omega⟩ h_f_p1_world_rock_kind h_f_p1_world_rock_hard ⟨by omega, by omega⟩ ⟨by omega, by omega⟩ h_f_p1_law_code ⟨by omega, by omega⟩ h_f_p1_world_folk_column h_f_p1_world_rock_water h_f_p1_world_term ⟨by omega, by omega⟩ h_f_p1_world_crew_cell h_f_p1_world_crew_buckets (by omega) (by omega) (fun r28 u29_0 u29_1 u29_2 u29_3 u29_4 H30 => ?_)
          have j31 := H30.1
          have j32 := H30.2
          refine un5_i ?_
          refine un6_i ?_
          refine ⟨vpi (x := (Int32.toInt x_3_0)) rfl (by omega) (by omega), ?_⟩
          refine o_X6_endsAWay _ _ _ ?_
          refine ⟨vpi (x := (Int32.toInt x_3_0)) rfl (by omega) (by omega), ?_⟩
          by_cases c33 : (f_p1_world_rock_kind x_3_0.toNatClampNeg) = 2
          · refine br1 c33 ?_
            have g34 : 0 ≤ (Int32.toInt (f_p1_world_rock_kind x_3_0.toNatClampNeg)) ∧ (Int32.toInt (f_p1_world_rock_kind x_3_0.toNatClampNeg)) ≤ 3 := KI.at_0 h_f_p1_world_rock_kind (tnz (x := (Int32.toInt x_3_0)) rfl (by omega)) (by omega) (by omega)
            have d35 := eq_z (a := (f_p1_world_rock_kind x_3_0.toNatClampNeg)) (b := 2) (x := (Int32.toInt (f_p1_world_rock_kind x_3_0.toNatClampNeg))) (y := 2) rfl rfl c33
            refine ⟨vpi (x := (Int32.toInt x_3_0)) rfl (by omega) (by omega), ?_⟩
            have t36 : (Int32.toInt (x_3_0 + 1)) = (Int32.toInt x_3_0) + 1 := add_z rfl rfl (by omega) (by omega)
            have R37 : CS (upd x_3_6 x_3_0.toNatClampNeg r28) := CS.up_0 h_x_3_6 (tnz (x := (Int32.toInt x_3_0)) rfl (by omega)) (by omega) (by omega) (w := (Int32.toInt r28)) rfl (by omega) (by omega)
            exact ih _ _ _ _ _ _ _ _ ⟨⟨by omega, by omega⟩, ⟨by omega, by omega⟩, R37⟩ (by omega)
          · refine br0 c33 ?_
            have g38 : 0 ≤ (Int32.toInt (f_p1_world_rock_kind x_3_0.toNatClampNeg)) ∧ (Int32.toInt (f_p1_world_rock_kind x_3_0.toNatClampNeg)) ≤ 3 := KI.at_0 h_f_p1_world_rock_kind (tnz (x := (Int32.toInt x_3_0)) rfl (by omega)) (by omega) (by omega)
            have d39 := ne_z (a := (f_p1_world_rock_kind x_3_0.toNatClampNeg)) (b := 2) (x := (Int32.toInt (f_p1_world_rock_kind x_3_0.toNatClampNeg))) (y := 2) rfl rfl c33
            refine ⟨vpi (x := (Int32.toInt x_3_0)) rfl (by omega) (by omega), ?_⟩
            by_cases c40 : (f_p1_world_rock_kind x_3_0.toNatClampNeg) = 3
            · refine br1 c40 ?_
              have d41 := eq_z (a := (f_p1_world_rock_kind x_3_0.toNatClampNeg)) (b := 3) (x := (Int32.toInt (f_p1_world_rock_kind x_3_0.toNatClampNeg))) (y := 3) rfl rfl c40
              refine ⟨vpi (x := (Int32.toInt x_3_0)) rfl (by omega) (by omega), ?_⟩
              have t42 : (Int32.toInt (x_3_0 + 1)) = (Int32.toInt x_3_0) + 1 := add_z rfl rfl (by omega) (by omega)
              have R43 : CS (upd x_3_6 x_3_0.toNatClampNeg r28) := CS.up_0 h_x_3_6 (tnz (x := (Int32.toInt x_3_0)) rfl (by omega)) (by omega) (by omega) (w := (Int32.toInt r28)) rfl (by omega) (by omega)
              exact ih _ _ _ _ _ _ _ _ ⟨⟨by omega, by omega⟩, ⟨by omega, by omega⟩, R43⟩ (by omega)
            · refine br0 c40 ?_
              have d44 := ne_z (a := (f_p1_world_rock_kind x_3_0.toNatClampNeg)) (b := 3) (x := (Int32.toInt (f_p1_world_rock_kind x_3_0.toNatClampNeg))) (y := 3) rfl rfl c40
              refine ⟨vpi (x := (Int32.toInt x_3_0)) rfl (by omega) (by omega), ?_⟩
              have t45 : (Int32.toInt (x_3_0 + 1)) = (Int32.toInt x_3_0) + 1 := add_z rfl rfl (by omega) (by omega)
              have R46 : CS (upd x_3_6 x_3_0.toNatClampNeg r28) := CS.up_0 h_x_3_6 (tnz (x := (Int32.toInt x_3_0)) rfl (by omega)) (by omega) (by omega) (w := (Int32.toInt r28)) rfl (by omega) (by omega)
              exact ih _ _ _ _ _ _ _ _ ⟨⟨by omega, by omega⟩, ⟨by omega, by omega⟩, R46⟩ (by omega)
      · refine br0 c4 ?_
        have d47 := c_ne (a := ((p1_world_rock_dug >>> (x_3_0.toInt64 &&& 63)) &&& 1)) (b := 0) (x := (Int64.toInt ((p1_world_rock_dug >>> (x_3_0.toInt64 &&& 63)) &&& 1))) (y := 0) rfl rfl c4
        refine jn_s ?_
        refine br0 (by decide) ?_
        refine un6_i ?_
        refine jn_s ?_
        refine br1 (by decide) ?_
        refine un6_i ?_
        refine ⟨vpi (x := (Int32.toInt x_3_0)) rfl (by omega) (by omega), ?_⟩
        refine o_X6_endsAWay _ _ _ ?_
        refine ⟨vpi (x := (Int32.toInt x_3_0)) rfl (by omega) (by omega), ?_⟩
        by_cases c48 : (f_p1_world_rock_kind x_3_0.toNatClampNeg) = 2
        · refine br1 c48 ?_
          have g49 : 0 ≤ (Int32.toInt (f_p1_world_rock_kind x_3_0.toNatClampNeg)) ∧ (Int32.toInt (f_p1_world_rock_kind x_3_0.toNatClampNeg)) ≤ 3 := KI.at_0 h_f_p1_world_rock_kind (tnz (x := (Int32.toInt x_3_0)) rfl (by omega)) (by omega) (by omega)
          have d50 := eq_z (a := (f_p1_world_rock_kind x_3_0.toNatClampNeg)) (b := 2) (x := (Int32.toInt (f_p1_world_rock_kind x_3_0.toNatClampNeg))) (y := 2) rfl rfl c48
          refine ⟨vpi (x := (Int32.toInt x_3_0)) rfl (by omega) (by omega), ?_⟩
          have t51 : (Int32.toInt (x_3_0 + 1)) = (Int32.toInt x_3_0) + 1 := add_z rfl rfl (by omega) (by omega)
          have R52 : CS (upd x_3_6 x_3_0.toNatClampNeg 0) := CS.up_0 h_x_3_6 (tnz (x := (Int32.toInt x_3_0)) rfl (by omega)) (by omega) (by omega) (w := 0) rfl (by omega) (by omega)
          exact ih _ _ _ _ _ _ _ _ ⟨⟨by omega, by omega⟩, ⟨by omega, by omega⟩, R52⟩ (by omega)
        · refine br0 c48 ?_
          have g53 : 0 ≤ (Int32.toInt (f_p1_world_rock_kind x_3_0.toNatClampNeg)) ∧ (Int32.toInt (f_p1_world_rock_kind x_3_0.toNatClampNeg)) ≤ 3 := KI.at_0 h_f_p1_world_rock_kind (tnz (x := (Int32.toInt x_3_0)) rfl (by omega)) (by omega) (by omega)
          have d54 := ne_z (a := (f_p1_world_rock_kind x_3_0.toNatClampNeg)) (b := 2) (x := (Int32.toInt (f_p1_world_rock_kind x_3_0.toNatClampNeg))) (y := 2) rfl rfl c48
          refine ⟨vpi (x := (Int32.toInt x_3_0)) rfl (by omega) (by omega), ?_⟩
          by_cases c55 : (f_p1_world_rock_kind x_3_0.toNatClampNeg) = 3
          · refine br1 c55 ?_
            have d56 := eq_z (a := (f_p1_world_rock_kind x_3_0.toNatClampNeg)) (b := 3) (x := (Int32.toInt (f_p1_world_rock_kind x_3_0.toNatClampNeg))) (y := 3) rfl rfl c55
            refine ⟨vpi (x := (Int32.toInt x_3_0)) rfl (by omega) (by omega), ?_⟩
            have t57 : (Int32.toInt (x_3_0 + 1)) = (Int32.toInt x_3_0) + 1 := add_z rfl rfl (by omega) (by omega)
            have R58 : CS (upd x_3_6 x_3_0.toNatClampNeg 0) := CS.up_0 h_x_3_6 (tnz (x := (Int32.toInt x_3_0)) rfl (by omega)) (by omega) (by omega) (w := 0) rfl (by omega) (by omega)
            exact ih _ _ _ _ _ _ _ _ ⟨⟨by omega, by omega⟩, ⟨by omega, by omega⟩, R58⟩ (by omega)
          · refine br0 c55 ?_
            have d59 := ne_z (a := (f_p1_world_rock_kind x_3_0.toNatClampNeg)) (b := 3) (x := (Int32.toInt (f_p1_world_rock_kind x_3_0.toNatClampNeg))) (y := 3) rfl rfl c55
            refine ⟨vpi (x := (Int32.toInt x_3_0)) rfl (by omega) (by omega), ?_⟩
            have t60 : (Int32.toInt (x_3_0 + 1)) = (Int32.toInt x_3_0) + 1 := add_z rfl rfl (by omega) (by omega)
            have R61 : CS (upd x_3_6 x_3_0.toNatClampNeg 0) := CS.up_0 h_x_3_6 (tnz (x := (Int32.toInt x_3_0)) rfl (by omega)) (by omega) (by omega) (w := 0) rfl (by omega) (by omega)
            exact ih _ _ _ _ _ _ _ _ ⟨⟨by omega, by omega⟩, ⟨by omega, by omega⟩, R61⟩ (by omega)
set_option maxRecDepth 100000 in
theorem s_X9_weigh_T (d : Int32) (p1_world_rock_dug : Int64) (p1_cell : Int32) (p1_shaft : Int32) (p1_kind : Int32) (p1_done : Int32) (p1_latest : Int32) (p1_value : Int32) (f_p1_world_rock_kind : Nat → Int32) (p1_law_clauses : Int32) (p1_law_length : Int32) (n_p1_law_heads : Nat) (f_p1_law_heads : Nat → Int32) (n_p1_law_code : Nat) (f_p1_law_code : Nat → Int32) (f_p1_stack : Nat → Int64) (p1_world_folk_listeners : Int32) (f_p1_world_folk_column : Nat → Int32) (f_p1_world_rock_hard : Nat → Int32) (f_p1_world_rock_water : Nat → Int32) (f_p1_world_term : Nat → Int32) (p1_world_crew_count : Int32) (f_p1_world_crew_cell : Nat → Int32) (f_p1_world_crew_buckets : Nat → Int32) (f_h0_cost : Nat → Int32) (f_h0_endsWay : Nat → Int32) (h_p1_cell : 0 ≤ p1_cell.toInt ∧ p1_cell.toInt ≤ 39) (h_f_p1_world_rock_kind : KI f_p1_world_rock_kind) (h_p1_law_clauses : 0 ≤ p1_law_clauses.toInt ∧ p1_law_clauses.toInt ≤ 12) (h_p1_law_length : 0 ≤ p1_law_length.toInt ∧ p1_law_length.toInt ≤ 400) (h_f_p1_law_code : CD f_p1_law_code) (h_p1_world_folk_listeners : 0 ≤ p1_world_folk_listeners.toInt ∧ p1_world_folk_listeners.toInt ≤ 5) (h_f_p1_world_folk_column : CO f_p1_world_folk_column) (h_f_p1_world_rock_hard : HA f_p1_world_rock_hard) (h_f_p1_world_rock_water : WA f_p1_world_rock_water) (h_f_p1_world_term : TE f_p1_world_term) (h_p1_world_crew_count : 0 ≤ p1_world_crew_count.toInt ∧ p1_world_crew_count.toInt ≤ 6) (h_f_p1_world_crew_cell : CE f_p1_world_crew_cell) (h_f_p1_world_crew_buckets : BU f_p1_world_crew_buckets) (h_f_h0_cost : CS f_h0_cost) (e_0 : n_p1_law_heads < 100000) (e_1 : p1_law_length.toInt ≤ (n_p1_law_code : Int)) {Q : (Int32 × Int32 × Int32 × Int32 × (Nat → Int64) × (Nat → Int32) × (Nat → Int32)) → Prop} (hq : ∀ (u_0 : Int32) (u_1 : Int32) (u_2 : Int32) (u_3 : Int32) (u_4 : Nat → Int64) (u_5 : Nat → Int32) (u_6 : Nat → Int32), (0 ≤ u_0.toInt ∧ u_0.toInt ≤ 39) ∧ (CS u_5) → Q (u_0, u_1, u_2, u_3, u_4, u_5, u_6)) : wp_X9_weigh_T d p1_world_rock_dug p1_cell p1_shaft p1_kind p1_done p1_latest p1_value f_p1_world_rock_kind p1_law_clauses p1_law_length n_p1_law_heads f_p1_law_heads n_p1_law_code f_p1_law_code f_p1_stack p1_world_folk_listeners f_p1_world_folk_column f_p1_world_rock_hard f_p1_world_rock_water f_p1_world_term p1_world_crew_count f_p1_world_crew_cell f_p1_world_crew_buckets f_h0_cost f_h0_endsWay Q := by
  unfold wp_X9_weigh_T
  have k3 : Int32.toInt 0 = 0 := rfl
  refine sl_X9_weigh_T_3 d p1_world_rock_dug p1_done p1_latest (f_p1_world_rock_kind) p1_law_clauses p1_law_length n_p1_law_heads (f_p1_law_heads) n_p1_law_code (f_p1_law_code) p1_world_folk_listeners (f_p1_world_folk_column) (f_p1_world_rock_hard) (f_p1_world_rock_water) (f_p1_world_term) p1_world_crew_count (f_p1_world_crew_cell) (f_p1_world_crew_buckets) h_f_p1_world_rock_kind ⟨by omega, by omega⟩ ⟨by omega, by omega⟩ h_f_p1_law_code ⟨by omega, by omega⟩ h_f_p1_world_folk_column h_f_p1_world_rock_hard h_f_p1_world_rock_water h_f_p1_world_term ⟨by omega, by omega⟩ h_f_p1_world_crew_cell h_f_p1_world_crew_buckets (by omega) (by omega) _ (fun x1_0 x1_1 x1_2 x1_3 x1_4 x1_5 x1_6 x1_7 X2 => ?_) 1000000000000 0 p1_cell p1_shaft p1_kind p1_value (f_p1_stack) (f_h0_cost) (f_h0_endsWay) ⟨(by decide), ⟨by omega, by omega⟩, h_f_h0_cost⟩ (by omega)
  have j4 := X2.1
  have j5 := X2.2.1
  have j6 := X2.2.2
  exact hq _ _ _ _ _ _ _ ⟨⟨by omega, by omega⟩, j6⟩


set_option maxRecDepth 100000 in
theorem s_X11_findWay_T (a : Int32) (b : Int32) (h0_site_world : Nat) (h0_site_world_lawCount : Int32) (h0_site_world_force : Int32) (h0_site_world_crew_count : Int32) (f_h0_site_world_crew_cell : Nat → Int32) (h0_site_world_rock_dug : Int64) (f_h0_site_world_rock_kind : Nat → Int32) (f_h0_site_world_laws : Nat → Option Nat) (h0_asker_world : Value) (h0_asker_law : Value) (h0_asker_cell : Int32) (h0_asker_shaft : Int32) (h0_asker_kind : Int32) (h0_asker_done : Int32) (h0_asker_latest : Int32) (h0_asker_value : Int32) (h0_ways_days : Int32) (t : Nat) (t_clauses : Int32) (t_length : Int32) (n_t_heads : Nat) (f_t_heads : Nat → Int32) (n_t_code : Nat) (f_t_code : Nat → Int32) (f_h0_asker_stack : Nat → Int64) (h0_site_world_folk_listeners : Int32) (f_h0_site_world_folk_column : Nat → Int32) (f_h0_site_world_rock_hard : Nat → Int32) (f_h0_site_world_rock_water : Nat → Int32) (f_h0_site_world_term : Nat → Int32) (f_h0_site_world_crew_buckets : Nat → Int32) (f_h0_ways_cost : Nat → Int32) (f_h0_ways_endsWay : Nat → Int32) (f_h0_ways_left : Nat → Int32) (h_h0_site_world_lawCount : 0 ≤ h0_site_world_lawCount.toInt ∧ h0_site_world_lawCount.toInt ≤ 6) (h_h0_site_world_force : 0 ≤ h0_site_world_force.toInt ∧ h0_site_world_force.toInt ≤ 5) (h_h0_site_world_crew_count : 0 ≤ h0_site_world_crew_count.toInt ∧ h0_site_world_crew_count.toInt ≤ 6) (h_f_h0_site_world_crew_cell : CE f_h0_site_world_crew_cell) (h_f_h0_site_world_rock_kind : KI f_h0_site_world_rock_kind) (h_h0_asker_cell : 0 ≤ h0_asker_cell.toInt ∧ h0_asker_cell.toInt ≤ 39) (h_h0_ways_days : 0 ≤ h0_ways_days.toInt ∧ h0_ways_days.toInt ≤ 2000000) (h_t_clauses : 0 ≤ t_clauses.toInt ∧ t_clauses.toInt ≤ 12) (h_t_length : 0 ≤ t_length.toInt ∧ t_length.toInt ≤ 400) (h_f_t_code : CD f_t_code) (h_h0_site_world_folk_listeners : 0 ≤ h0_site_world_folk_listeners.toInt ∧ h0_site_world_folk_listeners.toInt ≤ 5) (h_f_h0_site_world_folk_column : CO f_h0_site_world_folk_column) (h_f_h0_site_world_rock_hard : HA f_h0_site_world_rock_hard) (h_f_h0_site_world_rock_water : WA f_h0_site_world_rock_water) (h_f_h0_site_world_term : TE f_h0_site_world_term) (h_f_h0_site_world_crew_buckets : BU f_h0_site_world_crew_buckets) (h_f_h0_ways_cost : CS f_h0_ways_cost) (h_f_h0_ways_left : LE f_h0_ways_left) (e_0 : n_t_heads < 100000) (e_1 : t_length.toInt ≤ (n_t_code : Int)) (e_2 : h0_site_world_force.toInt < h0_site_world_lawCount.toInt) (e_3 : f_h0_site_world_laws (Int32.toNatClampNeg h0_site_world_force) = some t) {Q : Int32 → (Value × Value × Int32 × Int32 × Int32 × Int32 × Int32 × (Nat → Int64) × (Nat → Int32) × (Nat → Int32) × (Nat → Int32)) → Prop} (hq : ∀ (r : Int32) (u_0 : Value) (u_1 : Value) (u_2 : Int32) (u_3 : Int32) (u_4 : Int32) (u_5 : Int32) (u_6 : Int32) (u_7 : Nat → Int64) (u_8 : Nat → Int32) (u_9 : Nat → Int32) (u_10 : Nat → Int32), (0 ≤ r.toInt ∧ r.toInt ≤ 1) ∧ (0 ≤ u_2.toInt ∧ u_2.toInt ≤ 39) ∧ (0 ≤ u_6.toInt ∧ u_6.toInt ≤ 2000000) ∧ (CS u_8) ∧ (LE u_10) ∧ (r.toInt = 0 ∨ (0 ≤ a.toInt ∧ a.toInt < h0_site_world_crew_count.toInt ∧ 0 ≤ b.toInt ∧ b.toInt ≤ 39)) → Q r (u_0, u_1, u_2, u_3, u_4, u_5, u_6, u_7, u_8, u_9, u_10)) : wp_X11_findWay_T a b h0_site_world h0_site_world_lawCount h0_site_world_force h0_site_world_crew_count f_h0_site_world_crew_cell h0_site_world_rock_dug f_h0_site_world_rock_kind f_h0_site_world_laws h0_asker_world h0_asker_law h0_asker_cell h0_asker_shaft h0_asker_kind h0_asker_done h0_asker_latest h0_asker_value h0_ways_days t t_clauses t_length n_t_heads f_t_heads n_t_code f_t_code f_h0_asker_stack h0_site_world_folk_listeners f_h0_site_world_folk_column f_h0_site_world_rock_hard f_h0_site_world_rock_water f_h0_site_world_term f_h0_site_world_crew_buckets f_h0_ways_cost f_h0_ways_endsWay f_h0_ways_left Q := by
  unfold wp_X11_findWay_T
  refine o_X11_isWithin _ _ _ ?_
  by_cases c1 : a < 0
  · refine br1 c1 ?_
    have d2 := lt_z (a := a) (b := 0) (x := (Int32.toInt a)) (y := 0) rfl rfl c1
    refine br1 (by decide) ?_
    have k3 : Int32.toInt 0 = 0 := rfl
    exact hq _ _ _ _ _ _ _ _ _ _ _ _ ⟨(by decide), ⟨by omega, by omega⟩, ⟨by omega, by omega⟩, h_f_h0_ways_cost, h_f_h0_ways_left, (by omega)⟩
  · refine br0 c1 ?_
    have d4 := nlt_z (a := a) (b := 0) (x := (Int32.toInt a)) (y := 0) rfl rfl c1
    by_cases c5 : h0_site_world_crew_count ≤ a
    · refine br1 c5 ?_
      have d6 := le_z (a := h0_site_world_crew_count) (b := a) (x := (Int32.toInt h0_site_world_crew_count)) (y := (Int32.toInt a)) rfl rfl c5
      refine br1 (by decide) ?_
      have k7 : Int32.toInt 0 = 0 := rfl
      exact hq _ _ _ _ _ _ _ _ _ _ _ _ ⟨(by decide), ⟨by omega, by omega⟩, ⟨by omega, by omega⟩, h_f_h0_ways_cost, h_f_h0_ways_left, (by omega)⟩
    · refine br0 c5 ?_
      have d8 := nle_z (a := h0_site_world_crew_count) (b := a) (x := (Int32.toInt h0_site_world_crew_count)) (y := (Int32.toInt a)) rfl rfl c5
      refine br0 (by decide) ?_
      refine o_X11_isWithin _ _ _ ?_
      by_cases c9 : b < 0
      · refine br1 c9 ?_
        have d10 := lt_z (a := b) (b := 0) (x := (Int32.toInt b)) (y := 0) rfl rfl c9
        refine br1 (by decide) ?_
        have k11 : Int32.toInt 0 = 0 := rfl
        exact hq _ _ _ _ _ _ _ _ _ _ _ _ ⟨(by decide), ⟨by omega, by omega⟩, ⟨by omega, by omega⟩, h_f_h0_ways_cost, h_f_h0_ways_left, (by omega)⟩
      · refine br0 c9 ?_
        have d12 := nlt_z (a := b) (b := 0) (x := (Int32.toInt b)) (y := 0) rfl rfl c9
        by_cases c13 : 40 ≤ b
        · refine br1 c13 ?_
          have d14 := le_z (a := 40) (b := b) (x := 40) (y := (Int32.toInt b)) rfl rfl c13
          refine br1 (by decide) ?_
          have k15 : Int32.toInt 0 = 0 := rfl
          exact hq _ _ _ _ _ _ _ _ _ _ _ _ ⟨(by decide), ⟨by omega, by omega⟩, ⟨by omega, by omega⟩, h_f_h0_ways_cost, h_f_h0_ways_left, (by omega)⟩
        · refine br0 c13 ?_
          have d16 := nle_z (a := 40) (b := b) (x := 40) (y := (Int32.toInt b)) rfl rfl c13
          refine br0 (by decide) ?_
          refine s_X10_mayBeDugOn a (f_h0_site_world_crew_cell) (f_h0_site_world_rock_kind) ⟨by omega, by omega⟩ h_f_h0_site_world_crew_cell h_f_h0_site_world_rock_kind (fun r17 H18 => ?_)
          have j19 := H18
          by_cases c20 : r17 = 0
          · refine br1 c20 ?_
            have d21 := eq_z (a := r17) (b := 0) (x := (Int32.toInt r17)) (y := 0) rfl rfl c20
            have k22 : Int32.toInt 0 = 0 := rfl
            exact hq _ _ _ _ _ _ _ _ _ _ _ _ ⟨(by decide), ⟨by omega, by omega⟩, ⟨by omega, by omega⟩, h_f_h0_ways_cost, h_f_h0_ways_left, (by omega)⟩
          · refine br0 c20 ?_
            have d23 := ne_z (a := r17) (b := 0) (x := (Int32.toInt r17)) (y := 0) rfl rfl c20
            refine o_X10_lawInForce_T _ _ _ _ _ ?_
            refine o_X10_lawOf_T _ _ _ _ _ ?_
            refine br0 (z_nlt (x := (Int32.toInt h0_site_world_force)) (y := 0) rfl rfl (by omega)) ?_
            by_cases c24 : h0_site_world_lawCount ≤ h0_site_world_force
            · refine br1 c24 ?_
              have d25 := le_z (a := h0_site_world_lawCount) (b := h0_site_world_force) (x := (Int32.toInt h0_site_world_lawCount)) (y := (Int32.toInt h0_site_world_force)) rfl rfl c24
              exfalso
              omega
            · refine br0 c24 ?_
              have d26 := nle_z (a := h0_site_world_lawCount) (b := h0_site_world_force) (x := (Int32.toInt h0_site_world_lawCount)) (y := (Int32.toInt h0_site_world_force)) rfl rfl c24
              refine br0 (z_nle (x := 6) (y := (Int32.toInt h0_site_world_force)) rfl rfl (by omega)) ?_
              refine ⟨vpi (x := (Int32.toInt h0_site_world_force)) rfl (by omega) (by omega), ?_⟩
              refine ⟨by assumption, ?_⟩
              refine o_X0_turnTo_T _ ?_
              refine s_X9_weigh_T a h0_site_world_rock_dug h0_asker_cell h0_asker_shaft h0_asker_kind h0_asker_done h0_asker_latest h0_asker_value (f_h0_site_world_rock_kind) t_clauses t_length n_t_heads (f_t_heads) n_t_code (f_t_code) (f_h0_asker_stack) h0_site_world_folk_listeners (f_h0_site_world_folk_column) (f_h0_site_world_rock_hard) (f_h0_site_world_rock_water) (f_h0_site_world_term) h0_site_world_crew_count (f_h0_site_world_crew_cell) (f_h0_site_world_crew_buckets) (f_h0_ways_cost) (f_h0_ways_endsWay) ⟨by omega, by omega⟩ h_f_h0_site_world_rock_kind ⟨by omega, by omega⟩ ⟨by omega, by omega⟩ h_f_t_code ⟨by omega, by omega⟩ h_f_h0_site_world_folk_column h_f_h0_site_world_rock_hard h_f_h0_site_world_rock_water h_f_h0_site_world_term ⟨by omega, by omega⟩ h_f_h0_site_world_crew_cell h_f_h0_site_world_crew_buckets h_f_h0_ways_cost (by omega) (by omega) (fun u27_0 u27_1 u27_2 u27_3 u27_4 u27_5 u27_6 H28 => ?_)
              have j29 := H28.1
              have j30 := H28.2
              refine un7_i ?_
              refine ⟨vpi (x := (Int32.toInt a)) rfl (by omega) (by omega), ?_⟩
              have g31 : 0 ≤ (Int32.toInt (f_h0_site_world_crew_cell a.toNatClampNeg)) ∧ (Int32.toInt (f_h0_site_world_crew_cell a.toNatClampNeg)) ≤ 39 := CE.at_0 h_f_h0_site_world_crew_cell (tnz (x := (Int32.toInt a)) rfl (by omega)) (by omega) (by omega)
              refine s_X9_daysTo (f_h0_site_world_crew_cell a.toNatClampNeg) b (u27_5) (f_h0_ways_left) (u27_6) ⟨by omega, by omega⟩ j30 h_f_h0_ways_left (fun r32 u33 H34 => ?_)
              have j35 := H34.1
              have j36 := H34.2
              by_cases c37 : 1000000 ≤ r32
              · refine br1 c37 ?_
                have d38 := le_z (a := 1000000) (b := r32) (x := 1000000) (y := (Int32.toInt r32)) rfl rfl c37
                have k39 : Int32.toInt 0 = 0 := rfl
                exact hq _ _ _ _ _ _ _ _ _ _ _ _ ⟨(by decide), ⟨by omega, by omega⟩, ⟨by omega, by omega⟩, j30, j36, (by omega)⟩
              · refine br0 c37 ?_
                have d40 := nle_z (a := 1000000) (b := r32) (x := 1000000) (y := (Int32.toInt r32)) rfl rfl c37
                have k41 : Int32.toInt 1 = 1 := rfl
                exact hq _ _ _ _ _ _ _ _ _ _ _ _ ⟨(by decide), ⟨by omega, by omega⟩, ⟨by omega, by omega⟩, j30, j36, (by omega)⟩


set_option maxRecDepth 100000 in
theorem s_X11_down_T (a : Int32) (b : Int32) (d : Int32) (h0_site_world : Nat) (h0_site_world_lawCount : Int32) (h0_site_world_force : Int32) (h0_site_world_crew_count : Int32) (f_h0_site_world_crew_cell : Nat → Int32) (h0_site_world_rock_dug : Int64) (f_h0_site_world_rock_kind : Nat → Int32) (f_h0_site_world_laws : Nat → Option Nat) (h0_asker_world : Value) (h0_asker_law : Value) (h0_asker_cell : Int32) (h0_asker_shaft : Int32) (h0_asker_kind : Int32) (h0_asker_done : Int32) (h0_asker_latest : Int32) (h0_asker_value : Int32) (h0_ways_steps : Int32) (h0_ways_days : Int32) (t : Nat) (t_clauses : Int32) (t_length : Int32) (n_t_heads : Nat) (f_t_heads : Nat → Int32) (n_t_code : Nat) (f_t_code : Nat → Int32) (f_h0_asker_stack : Nat → Int64) (h0_site_world_folk_listeners : Int32) (f_h0_site_world_folk_column : Nat → Int32) (f_h0_site_world_rock_hard : Nat → Int32) (f_h0_site_world_rock_water : Nat → Int32) (f_h0_site_world_term : Nat → Int32) (f_h0_site_world_crew_buckets : Nat → Int32) (f_h0_ways_cost : Nat → Int32) (f_h0_ways_endsWay : Nat → Int32) (f_h0_ways_left : Nat → Int32) (f_h0_ways_path : Nat → Int32) (h_h0_site_world_lawCount : 0 ≤ h0_site_world_lawCount.toInt ∧ h0_site_world_lawCount.toInt ≤ 6) (h_h0_site_world_force : 0 ≤ h0_site_world_force.toInt ∧ h0_site_world_force.toInt ≤ 5) (h_h0_site_world_crew_count : 0 ≤ h0_site_world_crew_count.toInt ∧ h0_site_world_crew_count.toInt ≤ 6) (h_f_h0_site_world_crew_cell : CE f_h0_site_world_crew_cell) (h_f_h0_site_world_rock_kind : KI f_h0_site_world_rock_kind) (h_h0_asker_cell : 0 ≤ h0_asker_cell.toInt ∧ h0_asker_cell.toInt ≤ 39) (h_h0_ways_steps : 0 ≤ h0_ways_steps.toInt ∧ h0_ways_steps.toInt ≤ 40) (h_h0_ways_days : 0 ≤ h0_ways_days.toInt ∧ h0_ways_days.toInt ≤ 2000000) (h_t_clauses : 0 ≤ t_clauses.toInt ∧ t_clauses.toInt ≤ 12) (h_t_length : 0 ≤ t_length.toInt ∧ t_length.toInt ≤ 400) (h_f_t_code : CD f_t_code) (h_h0_site_world_folk_listeners : 0 ≤ h0_site_world_folk_listeners.toInt ∧ h0_site_world_folk_listeners.toInt ≤ 5) (h_f_h0_site_world_folk_column : CO f_h0_site_world_folk_column) (h_f_h0_site_world_rock_hard : HA f_h0_site_world_rock_hard) (h_f_h0_site_world_rock_water : WA f_h0_site_world_rock_water) (h_f_h0_site_world_term : TE f_h0_site_world_term) (h_f_h0_site_world_crew_buckets : BU f_h0_site_world_crew_buckets) (h_f_h0_ways_cost : CS f_h0_ways_cost) (h_f_h0_ways_left : LE f_h0_ways_left) (e_0 : n_t_heads < 100000) (e_1 : t_length.toInt ≤ (n_t_code : Int)) (e_2 : h0_site_world_force.toInt < h0_site_world_lawCount.toInt) (e_3 : f_h0_site_world_laws (Int32.toNatClampNeg h0_site_world_force) = some t) {Q : Int32 → (Value × Value × Int32 × Int32 × Int32 × Int32 × Int32 × Int32 × (Nat → Int64) × (Nat → Int32) × (Nat → Int32) × (Nat → Int32) × (Nat → Int32)) → Prop} (hq : ∀ (r : Int32) (u_0 : Value) (u_1 : Value) (u_2 : Int32) (u_3 : Int32) (u_4 : Int32) (u_5 : Int32) (u_6 : Int32) (u_7 : Int32) (u_8 : Nat → Int64) (u_9 : Nat → Int32) (u_10 : Nat → Int32) (u_11 : Nat → Int32) (u_12 : Nat → Int32), (0 ≤ u_2.toInt ∧ u_2.toInt ≤ 39) ∧ (0 ≤ u_6.toInt ∧ u_6.toInt ≤ 40) ∧ (0 ≤ u_7.toInt ∧ u_7.toInt ≤ 2000000) ∧ (CS u_9) ∧ (LE u_11) → Q r (u_0, u_1, u_2, u_3, u_4, u_5, u_6, u_7, u_8, u_9, u_10, u_11, u_12)) : wp_X11_down_T a b d h0_site_world h0_site_world_lawCount h0_site_world_force h0_site_world_crew_count f_h0_site_world_crew_cell h0_site_world_rock_dug f_h0_site_world_rock_kind f_h0_site_world_laws h0_asker_world h0_asker_law h0_asker_cell h0_asker_shaft h0_asker_kind h0_asker_done h0_asker_latest h0_asker_value h0_ways_steps h0_ways_days t t_clauses t_length n_t_heads f_t_heads n_t_code f_t_code f_h0_asker_stack h0_site_world_folk_listeners f_h0_site_world_folk_column f_h0_site_world_rock_hard f_h0_site_world_rock_water f_h0_site_world_term f_h0_site_world_crew_buckets f_h0_ways_cost f_h0_ways_endsWay f_h0_ways_left f_h0_ways_path Q := by
  unfold wp_X11_down_T
  by_cases c1 : d < 0
  · refine br1 c1 ?_
    have d2 := lt_z (a := d) (b := 0) (x := (Int32.toInt d)) (y := 0) rfl rfl c1
    exact hq _ _ _ _ _ _ _ _ _ _ _ _ _ _ ⟨⟨by omega, by omega⟩, ⟨by omega, by omega⟩, ⟨by omega, by omega⟩, h_f_h0_ways_cost, h_f_h0_ways_left⟩
  · refine br0 c1 ?_
    have d3 := nlt_z (a := d) (b := 0) (x := (Int32.toInt d)) (y := 0) rfl rfl c1
    refine s_X11_findWay_T a b h0_site_world h0_site_world_lawCount h0_site_world_force h0_site_world_crew_count (f_h0_site_world_crew_cell) h0_site_world_rock_dug (f_h0_site_world_rock_kind) (f_h0_site_world_laws) h0_asker_world h0_asker_law h0_asker_cell h0_asker_shaft h0_asker_kind h0_asker_done h0_asker_latest h0_asker_value h0_ways_days t t_clauses t_length n_t_heads (f_t_heads) n_t_code (f_t_code) (f_h0_asker_stack) h0_site_world_folk_listeners (f_h0_site_world_folk_column) (f_h0_site_world_rock_hard) (f_h0_site_world_rock_water) (f_h0_site_world_term) (f_h0_site_world_crew_buckets) (f_h0_ways_cost) (f_h0_ways_endsWay) (f_h0_ways_left) ⟨by omega, by omega⟩ ⟨by omega, by omega⟩ ⟨by omega, by omega⟩ h_f_h0_site_world_crew_cell h_f_h0_site_world_rock_kind ⟨by omega, by omega⟩ ⟨by omega, by omega⟩ ⟨by omega, by omega⟩ ⟨by omega, by omega⟩ h_f_t_code ⟨by omega, by omega⟩ h_f_h0_site_world_folk_column h_f_h0_site_world_rock_hard h_f_h0_site_world_rock_water h_f_h0_site_world_term h_f_h0_site_world_crew_buckets h_f_h0_ways_cost h_f_h0_ways_left (by omega) (by omega) (by omega) (by assumption) (fun r4 u5_0 u5_1 u5_2 u5_3 u5_4 u5_5 u5_6 u5_7 u5_8 u5_9 u5_10 H6 => ?_)
    have j7 := H6.1
    have j8 := H6.2.1
    have j9 := H6.2.2.1
    have j10 := H6.2.2.2.1
    have j11 := H6.2.2.2.2.1
    have j12 := H6.2.2.2.2.2
    refine un11_i ?_
    by_cases c13 : r4 = 0
    · refine br1 c13 ?_
      have d14 := eq_z (a := r4) (b := 0) (x := (Int32.toInt r4)) (y := 0) rfl rfl c13
      exact hq _ _ _ _ _ _ _ _ _ _ _ _ _ _ ⟨⟨by omega, by omega⟩, ⟨by omega, by omega⟩, ⟨by omega, by omega⟩, j10, j11⟩
    · refine br0 c13 ?_
      have d15 := ne_z (a := r4) (b := 0) (x := (Int32.toInt r4)) (y := 0) rfl rfl c13
      by_cases c16 : d = 0
      · refine br1 c16 ?_
        have d17 := eq_z (a := d) (b := 0) (x := (Int32.toInt d)) (y := 0) rfl rfl c16
        exact hq _ _ _ _ _ _ _ _ _ _ _ _ _ _ ⟨⟨by omega, by omega⟩, ⟨by omega, by omega⟩, ⟨by omega, by omega⟩, j10, j11⟩
      · refine br0 c16 ?_
        have d18 := ne_z (a := d) (b := 0) (x := (Int32.toInt d)) (y := 0) rfl rfl c16
        refine ⟨vpi (x := (Int32.toInt a)) rfl (by omega) (by omega), ?_⟩
        have g19 : 0 ≤ (Int32.toInt (f_h0_site_world_crew_cell a.toNatClampNeg)) ∧ (Int32.toInt (f_h0_site_world_crew_cell a.toNatClampNeg)) ≤ 39 := CE.at_0 h_f_h0_site_world_crew_cell (tnz (x := (Int32.toInt a)) rfl (by omega)) (by omega) (by omega)
        refine s_X9_walk (f_h0_site_world_crew_cell a.toNatClampNeg) b (u5_8) (u5_10) (u5_9) (f_h0_ways_path) ⟨by omega, by omega⟩ j10 j11 (fun u20_0 u20_1 H21 => ?_)
        have j22 := H21
        refine un2_i ?_
        by_cases c23 : d = 1
        · refine br1 c23 ?_
          have d24 := eq_z (a := d) (b := 1) (x := (Int32.toInt d)) (y := 1) rfl rfl c23
          exact hq _ _ _ _ _ _ _ _ _ _ _ _ _ _ ⟨⟨by omega, by omega⟩, ⟨by omega, by omega⟩, ⟨by omega, by omega⟩, j10, j11⟩
        · refine br0 c23 ?_
          have d25 := ne_z (a := d) (b := 1) (x := (Int32.toInt d)) (y := 1) rfl rfl c23
          by_cases c26 : u20_0 ≤ (d - 2)
          · refine br1 c26 ?_
            have t27 := i32_hi d
            have t28 : (Int32.toInt (d - 2)) = (Int32.toInt d) - 2 := sub_z rfl rfl (by omega) (by omega)
            have d29 := le_z (a := u20_0) (b := (d - 2)) (x := (Int32.toInt u20_0)) (y := (Int32.toInt (d - 2))) rfl rfl c26
            exact hq _ _ _ _ _ _ _ _ _ _ _ _ _ _ ⟨⟨by omega, by omega⟩, ⟨by omega, by omega⟩, ⟨by omega, by omega⟩, j10, j11⟩
          · refine br0 c26 ?_
            have t30 := i32_hi d
            have t31 : (Int32.toInt (d - 2)) = (Int32.toInt d) - 2 := sub_z rfl rfl (by omega) (by omega)
            have d32 := nle_z (a := u20_0) (b := (d - 2)) (x := (Int32.toInt u20_0)) (y := (Int32.toInt (d - 2))) rfl rfl c26
            refine ⟨vpi (x := (Int32.toInt (d - 2))) rfl (by omega) (by omega), ?_⟩
            exact hq _ _ _ _ _ _ _ _ _ _ _ _ _ _ ⟨⟨by omega, by omega⟩, ⟨by omega, by omega⟩, ⟨by omega, by omega⟩, j10, j11⟩


set_option maxRecDepth 100000 in
theorem s_X11_time_T (a : Int32) (b : Int32) (d : Int32) (h0_site_world : Nat) (h0_site_world_lawCount : Int32) (h0_site_world_force : Int32) (h0_site_world_crew_count : Int32) (f_h0_site_world_crew_cell : Nat → Int32) (h0_site_world_rock_dug : Int64) (f_h0_site_world_rock_kind : Nat → Int32) (f_h0_site_world_laws : Nat → Option Nat) (h0_asker_world : Value) (h0_asker_law : Value) (h0_asker_cell : Int32) (h0_asker_shaft : Int32) (h0_asker_kind : Int32) (h0_asker_done : Int32) (h0_asker_latest : Int32) (h0_asker_value : Int32) (h0_ways_days : Int32) (t : Nat) (t_clauses : Int32) (t_length : Int32) (n_t_heads : Nat) (f_t_heads : Nat → Int32) (n_t_code : Nat) (f_t_code : Nat → Int32) (f_h0_asker_stack : Nat → Int64) (h0_site_world_folk_listeners : Int32) (f_h0_site_world_folk_column : Nat → Int32) (f_h0_site_world_rock_hard : Nat → Int32) (f_h0_site_world_rock_water : Nat → Int32) (f_h0_site_world_term : Nat → Int32) (f_h0_site_world_crew_buckets : Nat → Int32) (f_h0_ways_cost : Nat → Int32) (f_h0_ways_endsWay : Nat → Int32) (f_h0_ways_left : Nat → Int32) (f_h0_ways_chance : Nat → Int64) (h_h0_site_world_lawCount : 0 ≤ h0_site_world_lawCount.toInt ∧ h0_site_world_lawCount.toInt ≤ 6) (h_h0_site_world_force : 0 ≤ h0_site_world_force.toInt ∧ h0_site_world_force.toInt ≤ 5) (h_h0_site_world_crew_count : 0 ≤ h0_site_world_crew_count.toInt ∧ h0_site_world_crew_count.toInt ≤ 6) (h_f_h0_site_world_crew_cell : CE f_h0_site_world_crew_cell) (h_f_h0_site_world_rock_kind : KI f_h0_site_world_rock_kind) (h_h0_asker_cell : 0 ≤ h0_asker_cell.toInt ∧ h0_asker_cell.toInt ≤ 39) (h_h0_ways_days : 0 ≤ h0_ways_days.toInt ∧ h0_ways_days.toInt ≤ 2000000) (h_t_clauses : 0 ≤ t_clauses.toInt ∧ t_clauses.toInt ≤ 12) (h_t_length : 0 ≤ t_length.toInt ∧ t_length.toInt ≤ 400) (h_f_t_code : CD f_t_code) (h_h0_site_world_folk_listeners : 0 ≤ h0_site_world_folk_listeners.toInt ∧ h0_site_world_folk_listeners.toInt ≤ 5) (h_f_h0_site_world_folk_column : CO f_h0_site_world_folk_column) (h_f_h0_site_world_rock_hard : HA f_h0_site_world_rock_hard) (h_f_h0_site_world_rock_water : WA f_h0_site_world_rock_water) (h_f_h0_site_world_term : TE f_h0_site_world_term) (h_f_h0_site_world_crew_buckets : BU f_h0_site_world_crew_buckets) (h_f_h0_ways_cost : CS f_h0_ways_cost) (h_f_h0_ways_left : LE f_h0_ways_left) (e_0 : n_t_heads < 100000) (e_1 : t_length.toInt ≤ (n_t_code : Int)) (e_2 : h0_site_world_force.toInt < h0_site_world_lawCount.toInt) (e_3 : f_h0_site_world_laws (Int32.toNatClampNeg h0_site_world_force) = some t) {Q : Int64 → (Value × Value × Int32 × Int32 × Int32 × Int32 × Int32 × (Nat → Int64) × (Nat → Int32) × (Nat → Int32) × (Nat → Int32) × (Nat → Int64)) → Prop} (hq : ∀ (r : Int64) (u_0 : Value) (u_1 : Value) (u_2 : Int32) (u_3 : Int32) (u_4 : Int32) (u_5 : Int32) (u_6 : Int32) (u_7 : Nat → Int64) (u_8 : Nat → Int32) (u_9 : Nat → Int32) (u_10 : Nat → Int32) (u_11 : Nat → Int64), (0 ≤ u_2.toInt ∧ u_2.toInt ≤ 39) ∧ (0 ≤ u_6.toInt ∧ u_6.toInt ≤ 2000000) ∧ (CS u_8) ∧ (LE u_10) → Q r (u_0, u_1, u_2, u_3, u_4, u_5, u_6, u_7, u_8, u_9, u_10, u_11)) : wp_X11_time_T a b d h0_site_world h0_site_world_lawCount h0_site_world_force h0_site_world_crew_count f_h0_site_world_crew_cell h0_site_world_rock_dug f_h0_site_world_rock_kind f_h0_site_world_laws h0_asker_world h0_asker_law h0_asker_cell h0_asker_shaft h0_asker_kind h0_asker_done h0_asker_latest h0_asker_value h0_ways_days t t_clauses t_length n_t_heads f_t_heads n_t_code f_t_code f_h0_asker_stack h0_site_world_folk_listeners f_h0_site_world_folk_column f_h0_site_world_rock_hard f_h0_site_world_rock_water f_h0_site_world_term f_h0_site_world_crew_buckets f_h0_ways_cost f_h0_ways_endsWay f_h0_ways_left f_h0_ways_chance Q := by
  unfold wp_X11_time_T
  refine o_X11_isWithin _ _ _ ?_
  by_cases c1 : d < 0
  · refine br1 c1 ?_
    have d2 := lt_z (a := d) (b := 0) (x := (Int32.toInt d)) (y := 0) rfl rfl c1
    refine br1 (by decide) ?_
    exact hq _ _ _ _ _ _ _ _ _ _ _ _ _ ⟨⟨by omega, by omega⟩, ⟨by omega, by omega⟩, h_f_h0_ways_cost, h_f_h0_ways_left⟩
  · refine br0 c1 ?_
    have d3 := nlt_z (a := d) (b := 0) (x := (Int32.toInt d)) (y := 0) rfl rfl c1
    by_cases c4 : 201 ≤ d
    · refine br1 c4 ?_
      have d5 := le_z (a := 201) (b := d) (x := 201) (y := (Int32.toInt d)) rfl rfl c4
      refine br1 (by decide) ?_
      exact hq _ _ _ _ _ _ _ _ _ _ _ _ _ ⟨⟨by omega, by omega⟩, ⟨by omega, by omega⟩, h_f_h0_ways_cost, h_f_h0_ways_left⟩
    · refine br0 c4 ?_
      have d6 := nle_z (a := 201) (b := d) (x := 201) (y := (Int32.toInt d)) rfl rfl c4
      refine br0 (by decide) ?_
      refine s_X11_findWay_T a b h0_site_world h0_site_world_lawCount h0_site_world_force h0_site_world_crew_count (f_h0_site_world_crew_cell) h0_site_world_rock_dug (f_h0_site_world_rock_kind) (f_h0_site_world_laws) h0_asker_world h0_asker_law h0_asker_cell h0_asker_shaft h0_asker_kind h0_asker_done h0_asker_latest h0_asker_value h0_ways_days t t_clauses t_length n_t_heads (f_t_heads) n_t_code (f_t_code) (f_h0_asker_stack) h0_site_world_folk_listeners (f_h0_site_world_folk_column) (f_h0_site_world_rock_hard) (f_h0_site_world_rock_water) (f_h0_site_world_term) (f_h0_site_world_crew_buckets) (f_h0_ways_cost) (f_h0_ways_endsWay) (f_h0_ways_left) ⟨by omega, by omega⟩ ⟨by omega, by omega⟩ ⟨by omega, by omega⟩ h_f_h0_site_world_crew_cell h_f_h0_site_world_rock_kind ⟨by omega, by omega⟩ ⟨by omega, by omega⟩ ⟨by omega, by omega⟩ ⟨by omega, by omega⟩ h_f_t_code ⟨by omega, by omega⟩ h_f_h0_site_world_folk_column h_f_h0_site_world_rock_hard h_f_h0_site_world_rock_water h_f_h0_site_world_term h_f_h0_site_world_crew_buckets h_f_h0_ways_cost h_f_h0_ways_left (by omega) (by omega) (by omega) (by assumption) (fun r7 u8_0 u8_1 u8_2 u8_3 u8_4 u8_5 u8_6 u8_7 u8_8 u8_9 u8_10 H9 => ?_)
      have j10 := H9.1
      have j11 := H9.2.1
      have j12 := H9.2.2.1
      have j13 := H9.2.2.2.1
      have j14 := H9.2.2.2.2.1
      have j15 := H9.2.2.2.2.2
      refine un11_i ?_
      by_cases c16 : r7 = 0
      · refine br1 c16 ?_
        have d17 := eq_z (a := r7) (b := 0) (x := (Int32.toInt r7)) (y := 0) rfl rfl c16
        exact hq _ _ _ _ _ _ _ _ _ _ _ _ _ ⟨⟨by omega, by omega⟩, ⟨by omega, by omega⟩, j13, j14⟩
      · refine br0 c16 ?_
        have d18 := ne_z (a := r7) (b := 0) (x := (Int32.toInt r7)) (y := 0) rfl rfl c16
        have g19 : 0 ≤ (Int32.toInt (f_h0_site_world_term (1 : Int32).toNatClampNeg)) ∧ (Int32.toInt (f_h0_site_world_term (1 : Int32).toNatClampNeg)) ≤ 9999 := TE.at_0 h_f_h0_site_world_term (rfl : ((1 : Nat) : Int) = 1) (by omega) (by omega)
        refine s_X9_chanceIn d (f_h0_site_world_term (1 : Int32).toNatClampNeg) u8_6 (f_h0_ways_chance) ⟨by omega, by omega⟩ ⟨by omega, by omega⟩ (fun r20 u21 H22 => ?_)
        exact hq _ _ _ _ _ _ _ _ _ _ _ _ _ ⟨⟨by omega, by omega⟩, ⟨by omega, by omega⟩, j13, j14⟩


set_option maxRecDepth 100000 in
theorem sl_X9_priceAll_T_46 (d : Int32) (f_p0_crew_cell : Nat → Int32) (f_h0_told : Nat → Int32) (x_3_0 : Int32) (x_3_2 : Nat → Int32) (x_3_4 : Nat → Int32) (r_18 : Int32) (h_d : 0 ≤ d.toInt ∧ d.toInt ≤ 6) (h_f_p0_crew_cell : CE f_p0_crew_cell) (h_f_h0_told : TO f_h0_told) (h_x_3_0 : 0 ≤ x_3_0.toInt ∧ x_3_0.toInt ≤ 5) (h_x_3_2 : CS x_3_2) (h_r_18 : 0 ≤ r_18.toInt ∧ r_18.toInt ≤ 0) (Qb : Int32 → (Nat → Int32) → (Nat → Int32) → Prop) (KX : ∀ (x_46_0 : Int32) (x_46_1 : Nat → Int32) (x_46_2 : Nat → Int32), (0 ≤ x_46_0.toInt ∧ x_46_0.toInt ≤ 6) ∧ (PC x_46_1) ∧ (LE x_46_2) → Qb x_46_0 x_46_1 x_46_2) : ∀ (n : Nat) (x_46_0 : Int32) (x_46_1 : Nat → Int32) (x_46_2 : Nat → Int32), (0 ≤ x_46_0.toInt ∧ x_46_0.toInt ≤ 6) ∧ (PC x_46_1) ∧ (LE x_46_2) → 7 - x_46_0.toInt < (n : Int) → wl_X9_priceAll_T_46 d f_p0_crew_cell f_h0_told x_3_0 x_3_2 x_3_4 r_18 Qb n x_46_0 x_46_1 x_46_2 := by
  intro n
  induction n with
  | zero =>
    intro x_46_0 x_46_1 x_46_2 hI hm
    exfalso; have hm : 7 - x_46_0.toInt < 0 := hm; omega
  | succ n ih =>
    intro x_46_0 x_46_1 x_46_2 hI hm
    have hm : 7 - x_46_0.toInt < (n : Int) + 1 := by simpa using hm
    have h_x_46_0 := hI.1
    have h_x_46_1 := hI.2.1
    have h_x_46_2 := hI.2.2
    unfold wl_X9_priceAll_T_46
    by_cases c9 : d ≤ x_46_0
    · refine br1 c9 ?_
      have d10 := le_z (a := d) (b := x_46_0) (x := (Int32.toInt d)) (y := (Int32.toInt x_46_0)) rfl rfl c9
      exact KX _ _ _ ⟨⟨by omega, by omega⟩, h_x_46_1, h_x_46_2⟩
    · refine br0 c9 ?_
      have d11 := nle_z (a := d) (b := x_46_0) (x := (Int32.toInt d)) (y := (Int32.toInt x_46_0)) rfl rfl c9
      refine br1 (z_eq (x := (Int32.toInt r_18)) (y := 0) rfl rfl (by omega)) ?_
      have t12 : (Int32.toInt (x_3_0 * 6)) = (Int32.toInt x_3_0) * 6 := mul_z rfl rfl (by omega) (by omega)
      have t13 : (Int32.toInt ((x_3_0 * 6) + x_46_0)) = (Int32.toInt (x_3_0 * 6)) + (Int32.toInt x_46_0) := add_z rfl rfl (by omega) (by omega)
      refine ⟨vpi (x := (Int32.toInt ((x_3_0 * 6) + x_46_0))) rfl (by omega) (by omega), ?_⟩
      have t14 : (Int32.toInt (x_46_0 + 1)) = (Int32.toInt x_46_0) + 1 := add_z rfl rfl (by omega) (by omega)
      have R15 : PC (upd x_46_1 ((x_3_0 * 6) + x_46_0).toNatClampNeg 1000000) := PC.up_0 h_x_46_1 (tnz (x := (Int32.toInt ((x_3_0 * 6) + x_46_0))) rfl (by omega)) (by omega) (by omega) (w := 1000000) rfl (by omega) (by omega)
      exact ih _ _ _ ⟨⟨by omega, by omega⟩, R15, h_x_46_2⟩ (by omega)
set_option maxRecDepth 100000 in
theorem sl_X9_priceAll_T_46a (d : Int32) (f_p0_crew_cell : Nat → Int32) (f_h0_told : Nat → Int32) (x_3_0 : Int32) (x_3_2 : Nat → Int32) (x_3_4 : Nat → Int32) (r_18 : Int32) (h_d : 0 ≤ d.toInt ∧ d.toInt ≤ 0) (h_f_p0_crew_cell : CE f_p0_crew_cell) (h_f_h0_told : TO f_h0_told) (h_x_3_0 : 0 ≤ x_3_0.toInt ∧ x_3_0.toInt ≤ 5) (h_x_3_2 : CS x_3_2) (h_r_18 : 1 ≤ r_18.toInt ∧ r_18.toInt ≤ 1) (Qb : Int32 → (Nat → Int32) → (Nat → Int32) → Prop) (KX : ∀ (x_46_0 : Int32) (x_46_1 : Nat → Int32) (x_46_2 : Nat → Int32), (0 ≤ x_46_0.toInt ∧ x_46_0.toInt ≤ 0) ∧ (PC x_46_1) ∧ (LE x_46_2) → Qb x_46_0 x_46_1 x_46_2) : ∀ (n : Nat) (x_46_0 : Int32) (x_46_1 : Nat → Int32) (x_46_2 : Nat → Int32), (0 ≤ x_46_0.toInt ∧ x_46_0.toInt ≤ 0) ∧ (PC x_46_1) ∧ (LE x_46_2) → 1 - x_46_0.toInt < (n : Int) → wl_X9_priceAll_T_46a d f_p0_crew_cell f_h0_told x_3_0 x_3_2 x_3_4 r_18 Qb n x_46_0 x_46_1 x_46_2 := by
  intro n
  induction n with
  | zero =>
    intro x_46_0 x_46_1 x_46_2 hI hm
    exfalso; have hm : 1 - x_46_0.toInt < 0 := hm; omega
  | succ n ih =>
    intro x_46_0 x_46_1 x_46_2 hI hm
    have hm : 1 - x_46_0.toInt < (n : Int) + 1 := by simpa using hm
    have h_x_46_0 := hI.1
    have h_x_46_1 := hI.2.1
    have h_x_46_2 := hI.2.2
    unfold wl_X9_priceAll_T_46a
    refine br1 (z_le (x := (Int32.toInt d)) (y := (Int32.toInt x_46_0)) rfl rfl (by omega)) ?_
    exact KX _ _ _ ⟨⟨by omega, by omega⟩, h_x_46_1, h_x_46_2⟩
set_option maxRecDepth 100000 in
theorem sl_X9_priceAll_T_46b (d : Int32) (f_p0_crew_cell : Nat → Int32) (f_h0_told : Nat → Int32) (x_3_0 : Int32) (r_18 : Int32) (u_40_5 : Nat → Int32) (u_40_6 : Nat → Int32) (h_d : 1 ≤ d.toInt ∧ d.toInt ≤ 6) (h_f_p0_crew_cell : CE f_p0_crew_cell) (h_f_h0_told : TO f_h0_told) (h_x_3_0 : 0 ≤ x_3_0.toInt ∧ x_3_0.toInt ≤ 5) (h_r_18 : 1 ≤ r_18.toInt ∧ r_18.toInt ≤ 1) (h_u_40_5 : CS u_40_5) (Qb : Int32 → (Nat → Int32) → (Nat → Int32) → Prop) (KX : ∀ (x_46_0 : Int32) (x_46_1 : Nat → Int32) (x_46_2 : Nat → Int32), (1 ≤ x_46_0.toInt ∧ x_46_0.toInt ≤ 6) ∧ (PC x_46_1) ∧ (LE x_46_2) → Qb x_46_0 x_46_1 x_46_2) : ∀ (n : Nat) (x_46_0 : Int32) (x_46_1 : Nat → Int32) (x_46_2 : Nat → Int32), (0 ≤ x_46_0.toInt ∧ x_46_0.toInt ≤ 6) ∧ (PC x_46_1) ∧ (LE x_46_2) → 7 - x_46_0.toInt < (n : Int) → wl_X9_priceAll_T_46b d f_p0_crew_cell f_h0_told x_3_0 r_18 u_40_5 u_40_6 Qb n x_46_0 x_46_1 x_46_2 := by
  intro n
  induction n with
  | zero =>
    intro x_46_0 x_46_1 x_46_2 hI hm
    exfalso; have hm : 7 - x_46_0.toInt < 0 := hm; omega
  | succ n ih =>
    intro x_46_0 x_46_1 x_46_2 hI hm
    have hm : 7 - x_46_0.toInt < (n : Int) + 1 := by simpa using hm
    have h_x_46_0 := hI.1
    have h_x_46_1 := hI.2.1
    have h_x_46_2 := hI.2.2
    unfold wl_X9_priceAll_T_46b
    by_cases c31 : d ≤ x_46_0
    · refine br1 c31 ?_
      have d32 := le_z (a := d) (b := x_46_0) (x := (Int32.toInt d)) (y := (Int32.toInt x_46_0)) rfl rfl c31
      exact KX _ _ _ ⟨⟨by omega, by omega⟩, h_x_46_1, h_x_46_2⟩
    · refine br0 c31 ?_
      have d33 := nle_z (a := d) (b := x_46_0) (x := (Int32.toInt d)) (y := (Int32.toInt x_46_0)) rfl rfl c31
      refine br0 (z_ne (x := (Int32.toInt r_18)) (y := 0) rfl rfl (by omega)) ?_
      refine ⟨vpi (x := (Int32.toInt x_3_0)) rfl (by omega) (by omega), ?_⟩
      refine ⟨vpi (x := (Int32.toInt x_46_0)) rfl (by omega) (by omega), ?_⟩
      have g34 : 0 ≤ (Int32.toInt (f_p0_crew_cell x_3_0.toNatClampNeg)) ∧ (Int32.toInt (f_p0_crew_cell x_3_0.toNatClampNeg)) ≤ 39 := CE.at_0 h_f_p0_crew_cell (tnz (x := (Int32.toInt x_3_0)) rfl (by omega)) (by omega) (by omega)
      refine s_X9_daysTo (f_p0_crew_cell x_3_0.toNatClampNeg) (f_h0_told x_46_0.toNatClampNeg) (u_40_5) (x_46_2) (u_40_6) ⟨by omega, by omega⟩ h_u_40_5 h_x_46_2 (fun r35 u36 H37 => ?_)
      have j38 := H37.1
      have j39 := H37.2
      have t40 : (Int32.toInt (x_3_0 * 6)) = (Int32.toInt x_3_0) * 6 := mul_z rfl rfl (by omega) (by omega)
      have t41 : (Int32.toInt ((x_3_0 * 6) + x_46_0)) = (Int32.toInt (x_3_0 * 6)) + (Int32.toInt x_46_0) := add_z rfl rfl (by omega) (by omega)
      refine ⟨vpi (x := (Int32.toInt ((x_3_0 * 6) + x_46_0))) rfl (by omega) (by omega), ?_⟩
      have t42 : (Int32.toInt (x_46_0 + 1)) = (Int32.toInt x_46_0) + 1 := add_z rfl rfl (by omega) (by omega)
      have R43 : PC (upd x_46_1 ((x_3_0 * 6) + x_46_0).toNatClampNeg r35) := PC.up_0 h_x_46_1 (tnz (x := (Int32.toInt ((x_3_0 * 6) + x_46_0))) rfl (by omega)) (by omega) (by omega) (w := (Int32.toInt r35)) rfl (by omega) (by omega)
      exact ih _ _ _ ⟨⟨by omega, by omega⟩, R43, j39⟩ (by omega)
set_option maxRecDepth 100000 in
theorem sl_X9_priceAll_T_3 (d : Int32) (p0_crew_count : Int32) (f_p0_crew_cell : Nat → Int32) (p0_rock_dug : Int64) (f_p0_rock_kind : Nat → Int32) (f_h0_told : Nat → Int32) (p1_done : Int32) (p1_latest : Int32) (p1_law_clauses : Int32) (p1_law_length : Int32) (n_p1_law_heads : Nat) (f_p1_law_heads : Nat → Int32) (n_p1_law_code : Nat) (f_p1_law_code : Nat → Int32) (p0_folk_listeners : Int32) (f_p0_folk_column : Nat → Int32) (f_p0_rock_hard : Nat → Int32) (f_p0_rock_water : Nat → Int32) (f_p0_term : Nat → Int32) (f_p0_crew_buckets : Nat → Int32) (h_d : 0 ≤ d.toInt ∧ d.toInt ≤ 6) (h_p0_crew_count : 0 ≤ p0_crew_count.toInt ∧ p0_crew_count.toInt ≤ 6) (h_f_p0_crew_cell : CE f_p0_crew_cell) (h_f_p0_rock_kind : KI f_p0_rock_kind) (h_f_h0_told : TO f_h0_told) (h_p1_law_clauses : 0 ≤ p1_law_clauses.toInt ∧ p1_law_clauses.toInt ≤ 12) (h_p1_law_length : 0 ≤ p1_law_length.toInt ∧ p1_law_length.toInt ≤ 400) (h_f_p1_law_code : CD f_p1_law_code) (h_p0_folk_listeners : 0 ≤ p0_folk_listeners.toInt ∧ p0_folk_listeners.toInt ≤ 5) (h_f_p0_folk_column : CO f_p0_folk_column) (h_f_p0_rock_hard : HA f_p0_rock_hard) (h_f_p0_rock_water : WA f_p0_rock_water) (h_f_p0_term : TE f_p0_term) (h_f_p0_crew_buckets : BU f_p0_crew_buckets) (z_n_p1_law_heads : n_p1_law_heads < 100000) (z_n_p1_law_code : p1_law_length.toInt ≤ (n_p1_law_code : Int)) (Qb : Int32 → (Nat → Int32) → (Nat → Int32) → (Nat → Int32) → (Nat → Int32) → Int32 → Int32 → Int32 → Int32 → (Nat → Int64) → Prop) (KX : ∀ (x_3_0 : Int32) (x_3_1 : Nat → Int32) (x_3_2 : Nat → Int32) (x_3_3 : Nat → Int32) (x_3_4 : Nat → Int32) (x_3_5 : Int32) (x_3_6 : Int32) (x_3_7 : Int32) (x_3_8 : Int32) (x_3_9 : Nat → Int64), (0 ≤ x_3_0.toInt ∧ x_3_0.toInt ≤ 6) ∧ (PC x_3_1) ∧ (CS x_3_2) ∧ (LE x_3_3) ∧ (0 ≤ x_3_5.toInt ∧ x_3_5.toInt ≤ 39) → Qb x_3_0 x_3_1 x_3_2 x_3_3 x_3_4 x_3_5 x_3_6 x_3_7 x_3_8 x_3_9) : ∀ (n : Nat) (x_3_0 : Int32) (x_3_1 : Nat → Int32) (x_3_2 : Nat → Int32) (x_3_3 : Nat → Int32) (x_3_4 : Nat → Int32) (x_3_5 : Int32) (x_3_6 : Int32) (x_3_7 : Int32) (x_3_8 : Int32) (x_3_9 : Nat → Int64), (0 ≤ x_3_0.toInt ∧ x_3_0.toInt ≤ 6) ∧ (PC x_3_1) ∧ (CS x_3_2) ∧ (LE x_3_3) ∧ (0 ≤ x_3_5.toInt ∧ x_3_5.toInt ≤ 39) → 7 - x_3_0.toInt < (n : Int) → wl_X9_priceAll_T_3 d p0_crew_count f_p0_crew_cell p0_rock_dug f_p0_rock_kind f_h0_told p1_done p1_latest p1_law_clauses p1_law_length n_p1_law_heads f_p1_law_heads n_p1_law_code f_p1_law_code p0_folk_listeners f_p0_folk_column f_p0_rock_hard f_p0_rock_water f_p0_term f_p0_crew_buckets Qb n x_3_0 x_3_1 x_3_2 x_3_3 x_3_4 x_3_5 x_3_6 x_3_7 x_3_8 x_3_9 := by
  intro n
  induction n with
  | zero =>
    intro x_3_0 x_3_1 x_3_2 x_3_3 x_3_4 x_3_5 x_3_6 x_3_7 x_3_8 x_3_9 hI hm
    exfalso; have hm : 7 - x_3_0.toInt < 0 := hm; omega
  | succ n ih =>
    intro x_3_0 x_3_1 x_3_2 x_3_3 x_3_4 x_3_5 x_3_6 x_3_7 x_3_8 x_3_9 hI hm
    have hm : 7 - x_3_0.toInt < (n : Int) + 1 := by simpa using hm
    have h_x_3_0 := hI.1
    have h_x_3_1 := hI.2.1
    have h_x_3_2 := hI.2.2.1
    have h_x_3_3 := hI.2.2.2.1
    have h_x_3_5 := hI.2.2.2.2
    unfold wl_X9_priceAll_T_3
    by_cases c1 : p0_crew_count ≤ x_3_0
    · refine br1 c1 ?_
      have d2 := le_z (a := p0_crew_count) (b := x_3_0) (x := (Int32.toInt p0_crew_count)) (y := (Int32.toInt x_3_0)) rfl rfl c1
      exact KX _ _ _ _ _ _ _ _ _ _ ⟨⟨by omega, by omega⟩, h_x_3_1, h_x_3_2, h_x_3_3, ⟨by omega, by omega⟩⟩
    · refine br0 c1 ?_
      have d3 := nle_z (a := p0_crew_count) (b := x_3_0) (x := (Int32.toInt p0_crew_count)) (y := (Int32.toInt x_3_0)) rfl rfl c1
      refine s_X10_mayBeDugOn x_3_0 (f_p0_crew_cell) (f_p0_rock_kind) ⟨by omega, by omega⟩ h_f_p0_crew_cell h_f_p0_rock_kind (fun r4 H5 => ?_)
      have j6 := H5
      by_cases c7 : r4 = 0
      · refine br1 c7 ?_
        have d8 := eq_z (a := r4) (b := 0) (x := (Int32.toInt r4)) (y := 0) rfl rfl c7
        have k11 : Int32.toInt 0 = 0 := rfl
        refine sl_X9_priceAll_T_46 d (f_p0_crew_cell) (f_h0_told) x_3_0 (x_3_2) (x_3_4) r4 ⟨by omega, by omega⟩ h_f_p0_crew_cell h_f_h0_told ⟨by omega, by omega⟩ h_x_3_2 ⟨by omega, by omega⟩ _ (fun x9_0 x9_1 x9_2 X10 => ?_) 1000000000000 0 (x_3_1) (x_3_3) ⟨(by decide), h_x_3_1, h_x_3_3⟩ (by omega)
        have j12 := X10.1
        have j13 := X10.2.1
        have j14 := X10.2.2
        have t15 : (Int32.toInt (x_3_0 + 1)) = (Int32.toInt x_3_0) + 1 := add_z rfl rfl (by omega) (by omega)
        exact ih _ _ _ _ _ _ _ _ _ _ ⟨⟨by omega, by omega⟩, j13, h_x_3_2, j14, ⟨by omega, by omega⟩⟩ (by omega)
      · refine br0 c7 ?_
        have d16 := ne_z (a := r4) (b := 0) (x := (Int32.toInt r4)) (y := 0) rfl rfl c7
        by_cases c17 : d ≤ 0
        · refine br1 c17 ?_
          have d18 := le_z (a := d) (b := 0) (x := (Int32.toInt d)) (y := 0) rfl rfl c17
          have k21 : Int32.toInt 0 = 0 := rfl
          refine sl_X9_priceAll_T_46a d (f_p0_crew_cell) (f_h0_told) x_3_0 (x_3_2) (x_3_4) r4 ⟨by omega, by omega⟩ h_f_p0_crew_cell h_f_h0_told ⟨by omega, by omega⟩ h_x_3_2 ⟨by omega, by omega⟩ _ (fun x19_0 x19_1 x19_2 X20 => ?_) 1000000000000 0 (x_3_1) (x_3_3) ⟨(by decide), h_x_3_1, h_x_3_3⟩ (by omega)
          have j22 := X20.1
          have j23 := X20.2.1
          have j24 := X20.2.2
          have t25 : (Int32.toInt (x_3_0 + 1)) = (Int32.toInt x_3_0) + 1 := add_z rfl rfl (by omega) (by omega)
          exact ih _ _ _ _ _ _ _ _ _ _ ⟨⟨by omega, by omega⟩, j23, h_x_3_2, j24, ⟨by omega, by omega⟩⟩ (by omega)
        · refine br0 c17 ?_
          have d26 := nle_z (a := d) (b := 0) (x := (Int32.toInt d)) (y := 0) rfl rfl c17
          refine s_X9_weigh_T x_3_0 p0_rock_dug x_3_5 x_3_6 x_3_7 p1_done p1_latest x_3_8 (f_p0_rock_kind) p1_law_clauses p1_law_length n_p1_law_heads (f_p1_law_heads) n_p1_law_code (f_p1_law_code) (x_3_9) p0_folk_listeners (f_p0_folk_column) (f_p0_rock_hard) (f_p0_rock_water) (f_p0_term) p0_crew_count (f_p0_crew_cell) (f_p0_crew_buckets) (x_3_2) (x_3_4) ⟨by omega, by omega⟩ h_f_p0_rock_kind ⟨by omega, by omega⟩ ⟨by omega, by omega⟩ h_f_p1_law_code ⟨by omega, by omega⟩ h_f_p0_folk_column h_f_p0_rock_hard h_f_p0_rock_water h_f_p0_term ⟨by omega, by omega⟩ h_f_p0_crew_cell h_f_p0_crew_buckets h_x_3_2 (by omega) (by omega) (fun u27_0 u27_1 u27_2 u27_3 u27_4 u27_5 u27_6 H28 => ?_)
          have j29 := H28.1
          have j30 := H28.2
          refine un7_i ?_
          have k33 : Int32.toInt 0 = 0 := rfl
          refine sl_X9_priceAll_T_46b d (f_p0_crew_cell) (f_h0_told) x_3_0 r4 (u27_5) (u27_6) ⟨by omega, by omega⟩ h_f_p0_crew_cell h_f_h0_told ⟨by omega, by omega⟩ ⟨by omega, by omega⟩ j30 _ (fun x31_0 x31_1 x31_2 X32 => ?_) 1000000000000 0 (x_3_1) (x_3_3) ⟨(by decide), h_x_3_1, h_x_3_3⟩ (by omega)
          have j34 := X32.1
          have j35 := X32.2.1
          have j36 := X32.2.2
          have t37 : (Int32.toInt (x_3_0 + 1)) = (Int32.toInt x_3_0) + 1 := add_z rfl rfl (by omega) (by omega)
          exact ih _ _ _ _ _ _ _ _ _ _ ⟨⟨by omega, by omega⟩, j35, j30, j36, ⟨by omega, by omega⟩⟩ (by omega)
set_option maxRecDepth 100000 in
theorem s_X9_priceAll_T (d : Int32) (p0_crew_count : Int32) (f_p0_crew_cell : Nat → Int32) (p0_rock_dug : Int64) (f_p0_rock_kind : Nat → Int32) (f_h0_price : Nat → Int32) (f_h0_told : Nat → Int32) (f_h0_cost : Nat → Int32) (f_h0_left : Nat → Int32) (f_h0_endsWay : Nat → Int32) (p1_cell : Int32) (p1_shaft : Int32) (p1_kind : Int32) (p1_done : Int32) (p1_latest : Int32) (p1_value : Int32) (p1_law_clauses : Int32) (p1_law_length : Int32) (n_p1_law_heads : Nat) (f_p1_law_heads : Nat → Int32) (n_p1_law_code : Nat) (f_p1_law_code : Nat → Int32) (f_p1_stack : Nat → Int64) (p0_folk_listeners : Int32) (f_p0_folk_column : Nat → Int32) (f_p0_rock_hard : Nat → Int32) (f_p0_rock_water : Nat → Int32) (f_p0_term : Nat → Int32) (f_p0_crew_buckets : Nat → Int32) (h_d : 0 ≤ d.toInt ∧ d.toInt ≤ 6) (h_p0_crew_count : 0 ≤ p0_crew_count.toInt ∧ p0_crew_count.toInt ≤ 6) (h_f_p0_crew_cell : CE f_p0_crew_cell) (h_f_p0_rock_kind : KI f_p0_rock_kind) (h_f_h0_price : PC f_h0_price) (h_f_h0_told : TO f_h0_told) (h_f_h0_cost : CS f_h0_cost) (h_f_h0_left : LE f_h0_left) (h_p1_cell : 0 ≤ p1_cell.toInt ∧ p1_cell.toInt ≤ 39) (h_p1_law_clauses : 0 ≤ p1_law_clauses.toInt ∧ p1_law_clauses.toInt ≤ 12) (h_p1_law_length : 0 ≤ p1_law_length.toInt ∧ p1_law_length.toInt ≤ 400) (h_f_p1_law_code : CD f_p1_law_code) (h_p0_folk_listeners : 0 ≤ p0_folk_listeners.toInt ∧ p0_folk_listeners.toInt ≤ 5) (h_f_p0_folk_column : CO f_p0_folk_column) (h_f_p0_rock_hard : HA f_p0_rock_hard) (h_f_p0_rock_water : WA f_p0_rock_water) (h_f_p0_term : TE f_p0_term) (h_f_p0_crew_buckets : BU f_p0_crew_buckets) (e_0 : n_p1_law_heads < 100000) (e_1 : p1_law_length.toInt ≤ (n_p1_law_code : Int)) {Q : ((Nat → Int32) × (Nat → Int32) × (Nat → Int32) × (Nat → Int32) × Int32 × Int32 × Int32 × Int32 × (Nat → Int64)) → Prop} (hq : ∀ (u_0 : Nat → Int32) (u_1 : Nat → Int32) (u_2 : Nat → Int32) (u_3 : Nat → Int32) (u_4 : Int32) (u_5 : Int32) (u_6 : Int32) (u_7 : Int32) (u_8 : Nat → Int64), (PC u_0) ∧ (CS u_1) ∧ (LE u_2) ∧ (0 ≤ u_4.toInt ∧ u_4.toInt ≤ 39) → Q (u_0, u_1, u_2, u_3, u_4, u_5, u_6, u_7, u_8)) : wp_X9_priceAll_T d p0_crew_count f_p0_crew_cell p0_rock_dug f_p0_rock_kind f_h0_price f_h0_told f_h0_cost f_h0_left f_h0_endsWay p1_cell p1_shaft p1_kind p1_done p1_latest p1_value p1_law_clauses p1_law_length n_p1_law_heads f_p1_law_heads n_p1_law_code f_p1_law_code f_p1_stack p0_folk_listeners f_p0_folk_column f_p0_rock_hard f_p0_rock_water f_p0_term f_p0_crew_buckets Q := by
  unfold wp_X9_priceAll_T
  have k3 : Int32.toInt 0 = 0 := rfl
  refine sl_X9_priceAll_T_3 d p0_crew_count (f_p0_crew_cell) p0_rock_dug (f_p0_rock_kind) (f_h0_told) p1_done p1_latest p1_law_clauses p1_law_length n_p1_law_heads (f_p1_law_heads) n_p1_law_code (f_p1_law_code) p0_folk_listeners (f_p0_folk_column) (f_p0_rock_hard) (f_p0_rock_water) (f_p0_term) (f_p0_crew_buckets) ⟨by omega, by omega⟩ ⟨by omega, by omega⟩ h_f_p0_crew_cell h_f_p0_rock_kind h_f_h0_told ⟨by omega, by omega⟩ ⟨by omega, by omega⟩ h_f_p1_law_code ⟨by omega, by omega⟩ h_f_p0_folk_column h_f_p0_rock_hard h_f_p0_rock_water h_f_p0_term h_f_p0_crew_buckets (by omega) (by omega) _ (fun x1_0 x1_1 x1_2 x1_3 x1_4 x1_5 x1_6 x1_7 x1_8 x1_9 X2 => ?_) 1000000000000 0 (f_h0_price) (f_h0_cost) (f_h0_left) (f_h0_endsWay) p1_cell p1_shaft p1_kind p1_value (f_p1_stack) ⟨(by decide), h_f_h0_price, h_f_h0_cost, h_f_h0_left, ⟨by omega, by omega⟩⟩ (by omega)
  have j4 := X2.1
  have j5 := X2.2.1
  have j6 := X2.2.2.1
  have j7 := X2.2.2.2.1
  have j8 := X2.2.2.2.2
  exact hq _ _ _ _ _ _ _ _ _ ⟨j5, j6, j7, ⟨by omega, by omega⟩⟩


set_option maxRecDepth 100000 in
theorem sl_X9_share_T_6 (d : Int64) (Qb : Int32 → Int32 → (Nat → Int32) → Prop) (KX : ∀ (x_6_0 : Int32) (x_6_1 : Int32) (x_6_2 : Nat → Int32), (0 ≤ x_6_0.toInt ∧ x_6_0.toInt ≤ 40) ∧ (0 ≤ x_6_1.toInt ∧ x_6_1.toInt ≤ 6) ∧ (TO x_6_2) → Qb x_6_0 x_6_1 x_6_2) : ∀ (n : Nat) (x_6_0 : Int32) (x_6_1 : Int32) (x_6_2 : Nat → Int32), (0 ≤ x_6_0.toInt ∧ x_6_0.toInt ≤ 40) ∧ (0 ≤ x_6_1.toInt ∧ x_6_1.toInt ≤ 6) ∧ (TO x_6_2) → 41 - x_6_0.toInt < (n : Int) → wl_X9_share_T_6 d Qb n x_6_0 x_6_1 x_6_2 := by
  intro n
  induction n with
  | zero =>
    intro x_6_0 x_6_1 x_6_2 hI hm
    exfalso; have hm : 41 - x_6_0.toInt < 0 := hm; omega
  | succ n ih =>
    intro x_6_0 x_6_1 x_6_2 hI hm
    have hm : 41 - x_6_0.toInt < (n : Int) + 1 := by simpa using hm
    have h_x_6_0 := hI.1
    have h_x_6_1 := hI.2.1
    have h_x_6_2 := hI.2.2
    unfold wl_X9_share_T_6
    by_cases c1 : 40 ≤ x_6_0
    · refine br1 c1 ?_
      have d2 := le_z (a := 40) (b := x_6_0) (x := 40) (y := (Int32.toInt x_6_0)) rfl rfl c1
      exact KX _ _ _ ⟨⟨by omega, by omega⟩, ⟨by omega, by omega⟩, h_x_6_2⟩
    · refine br0 c1 ?_
      have d3 := nle_z (a := 40) (b := x_6_0) (x := 40) (y := (Int32.toInt x_6_0)) rfl rfl c1
      by_cases c4 : 6 ≤ x_6_1
      · refine br1 c4 ?_
        have d5 := le_z (a := 6) (b := x_6_1) (x := 6) (y := (Int32.toInt x_6_1)) rfl rfl c4
        exact KX _ _ _ ⟨⟨by omega, by omega⟩, ⟨by omega, by omega⟩, h_x_6_2⟩
      · refine br0 c4 ?_
        have d6 := nle_z (a := 6) (b := x_6_1) (x := 6) (y := (Int32.toInt x_6_1)) rfl rfl c4
        by_cases c7 : (lg_cmp ((d >>> (x_6_0.toInt64 &&& 63)) &&& 1) 0) = 0
        · refine br1 c7 ?_
          have d8 := c_eq (a := ((d >>> (x_6_0.toInt64 &&& 63)) &&& 1)) (b := 0) (x := (Int64.toInt ((d >>> (x_6_0.toInt64 &&& 63)) &&& 1))) (y := 0) rfl rfl c7
          have t9 : (Int32.toInt (x_6_0 + 1)) = (Int32.toInt x_6_0) + 1 := add_z rfl rfl (by omega) (by omega)
          exact ih _ _ _ ⟨⟨by omega, by omega⟩, ⟨by omega, by omega⟩, h_x_6_2⟩ (by omega)
        · refine br0 c7 ?_
          have d10 := c_ne (a := ((d >>> (x_6_0.toInt64 &&& 63)) &&& 1)) (b := 0) (x := (Int64.toInt ((d >>> (x_6_0.toInt64 &&& 63)) &&& 1))) (y := 0) rfl rfl c7
          refine ⟨vpi (x := (Int32.toInt x_6_1)) rfl (by omega) (by omega), ?_⟩
          have t11 : (Int32.toInt (x_6_0 + 1)) = (Int32.toInt x_6_0) + 1 := add_z rfl rfl (by omega) (by omega)
          have t12 : (Int32.toInt (x_6_1 + 1)) = (Int32.toInt x_6_1) + 1 := add_z rfl rfl (by omega) (by omega)
          have R13 : TO (upd x_6_2 x_6_1.toNatClampNeg x_6_0) := TO.up_0 h_x_6_2 (tnz (x := (Int32.toInt x_6_1)) rfl (by omega)) (by omega) (by omega) (w := (Int32.toInt x_6_0)) rfl (by omega) (by omega)
          exact ih _ _ _ ⟨⟨by omega, by omega⟩, ⟨by omega, by omega⟩, R13⟩ (by omega)
set_option maxRecDepth 100000 in
theorem sl_X9_share_T_77 (p0_crew_count : Int32) (x_6_1 : Int32) (h_p0_crew_count : 0 ≤ p0_crew_count.toInt ∧ p0_crew_count.toInt ≤ 6) (h_x_6_1 : 0 ≤ x_6_1.toInt ∧ x_6_1.toInt ≤ 6) (Qb : Int32 → (Nat → Int32) → Prop) (KX : ∀ (x_77_0 : Int32) (x_77_1 : Nat → Int32), (1 ≤ x_77_0.toInt ∧ x_77_0.toInt ≤ 64) ∧ (FW x_77_1) → Qb x_77_0 x_77_1) : ∀ (n : Nat) (x_77_0 : Int32) (x_77_1 : Nat → Int32), (0 ≤ x_77_0.toInt ∧ x_77_0.toInt ≤ 64) ∧ (FW x_77_1) → 65 - x_77_0.toInt < (n : Int) → wl_X9_share_T_77 p0_crew_count x_6_1 Qb n x_77_0 x_77_1 := by
  intro n
  induction n with
  | zero =>
    intro x_77_0 x_77_1 hI hm
    exfalso; have hm : 65 - x_77_0.toInt < 0 := hm; omega
  | succ n ih =>
    intro x_77_0 x_77_1 hI hm
    have hm : 65 - x_77_0.toInt < (n : Int) + 1 := by simpa using hm
    have h_x_77_0 := hI.1
    have h_x_77_1 := hI.2
    unfold wl_X9_share_T_77
    by_cases c13 : (((1 : Int32) <<< (x_6_1 &&& 31)) - 1) < x_77_0
    · refine br1 c13 ?_
      have t14 : 1 ≤ (Int32.toInt ((1 : Int32) <<< (x_6_1 &&& 31))) ∧ (Int32.toInt ((1 : Int32) <<< (x_6_1 &&& 31))) ≤ 64 := shl1_b (by omega) (by omega)
      have t15 : (Int32.toInt (((1 : Int32) <<< (x_6_1 &&& 31)) - 1)) = (Int32.toInt ((1 : Int32) <<< (x_6_1 &&& 31))) - 1 := sub_z rfl rfl (by omega) (by omega)
      have d16 := lt_z (a := (((1 : Int32) <<< (x_6_1 &&& 31)) - 1)) (b := x_77_0) (x := (Int32.toInt (((1 : Int32) <<< (x_6_1 &&& 31)) - 1))) (y := (Int32.toInt x_77_0)) rfl rfl c13
      exact KX _ _ ⟨⟨by omega, by omega⟩, h_x_77_1⟩
    · refine br0 c13 ?_
      have t17 : 1 ≤ (Int32.toInt ((1 : Int32) <<< (x_6_1 &&& 31))) ∧ (Int32.toInt ((1 : Int32) <<< (x_6_1 &&& 31))) ≤ 64 := shl1_b (by omega) (by omega)
      have t18 : (Int32.toInt (((1 : Int32) <<< (x_6_1 &&& 31)) - 1)) = (Int32.toInt ((1 : Int32) <<< (x_6_1 &&& 31))) - 1 := sub_z rfl rfl (by omega) (by omega)
      have d19 := nlt_z (a := (((1 : Int32) <<< (x_6_1 &&& 31)) - 1)) (b := x_77_0) (x := (Int32.toInt (((1 : Int32) <<< (x_6_1 &&& 31)) - 1))) (y := (Int32.toInt x_77_0)) rfl rfl c13
      by_cases c20 : x_77_0 = 0
      · refine br1 c20 ?_
        have d21 := eq_z (a := x_77_0) (b := 0) (x := (Int32.toInt x_77_0)) (y := 0) rfl rfl c20
        have t22 : (Int32.toInt (p0_crew_count * 64)) = (Int32.toInt p0_crew_count) * 64 := mul_z rfl rfl (by omega) (by omega)
        have t23 : (Int32.toInt ((p0_crew_count * 64) + x_77_0)) = (Int32.toInt (p0_crew_count * 64)) + (Int32.toInt x_77_0) := add_z rfl rfl (by omega) (by omega)
        refine ⟨vpi (x := (Int32.toInt ((p0_crew_count * 64) + x_77_0))) rfl (by omega) (by omega), ?_⟩
        have t24 : (Int32.toInt (x_77_0 + 1)) = (Int32.toInt x_77_0) + 1 := add_z rfl rfl (by omega) (by omega)
        have R25 : FW (upd x_77_1 ((p0_crew_count * 64) + x_77_0).toNatClampNeg 0) := FW.up_0 h_x_77_1 (tnz (x := (Int32.toInt ((p0_crew_count * 64) + x_77_0))) rfl (by omega)) (by omega) (by omega) (w := 0) rfl (by omega) (by omega)
        exact ih _ _ ⟨⟨by omega, by omega⟩, R25⟩ (by omega)
      · refine br0 c20 ?_
        have d26 := ne_z (a := x_77_0) (b := 0) (x := (Int32.toInt x_77_0)) (y := 0) rfl rfl c20
        have t27 : (Int32.toInt (p0_crew_count * 64)) = (Int32.toInt p0_crew_count) * 64 := mul_z rfl rfl (by omega) (by omega)
        have t28 : (Int32.toInt ((p0_crew_count * 64) + x_77_0)) = (Int32.toInt (p0_crew_count * 64)) + (Int32.toInt x_77_0) := add_z rfl rfl (by omega) (by omega)
        refine ⟨vpi (x := (Int32.toInt ((p0_crew_count * 64) + x_77_0))) rfl (by omega) (by omega), ?_⟩
        have t29 : (Int32.toInt (x_77_0 + 1)) = (Int32.toInt x_77_0) + 1 := add_z rfl rfl (by omega) (by omega)
        have R30 : FW (upd x_77_1 ((p0_crew_count * 64) + x_77_0).toNatClampNeg 1000000) := FW.up_0 h_x_77_1 (tnz (x := (Int32.toInt ((p0_crew_count * 64) + x_77_0))) rfl (by omega)) (by omega) (by omega) (w := 1000000) rfl (by omega) (by omega)
        exact ih _ _ ⟨⟨by omega, by omega⟩, R30⟩ (by omega)
set_option maxRecDepth 100000 in
theorem sl_X9_share_T_128 (x_6_1 : Int32) (u_54_0 : Nat → Int32) (x_120_0 : Int32) (h_x_6_1 : 0 ≤ x_6_1.toInt ∧ x_6_1.toInt ≤ 6) (h_u_54_0 : PC u_54_0) (h_x_120_0 : 0 ≤ x_120_0.toInt ∧ x_120_0.toInt ≤ 5) (Qb : Int32 → (Nat → Int32) → Prop) (KX : ∀ (x_128_0 : Int32) (x_128_1 : Nat → Int32), (1 ≤ x_128_0.toInt ∧ x_128_0.toInt ≤ 64) ∧ (FW x_128_1) → Qb x_128_0 x_128_1) : ∀ (n : Nat) (x_128_0 : Int32) (x_128_1 : Nat → Int32), (0 ≤ x_128_0.toInt ∧ x_128_0.toInt ≤ 64) ∧ (FW x_128_1) → 65 - x_128_0.toInt < (n : Int) → wl_X9_share_T_128 x_6_1 u_54_0 x_120_0 Qb n x_128_0 x_128_1 := by
  intro n
  induction n with
  | zero =>
    intro x_128_0 x_128_1 hI hm
    exfalso; have hm : 65 - x_128_0.toInt < 0 := hm; omega
  | succ n ih =>
    intro x_128_0 x_128_1 hI hm
    have hm : 65 - x_128_0.toInt < (n : Int) + 1 := by simpa using hm
    have h_x_128_0 := hI.1
    have h_x_128_1 := hI.2
    unfold wl_X9_share_T_128
    by_cases c20 : (((1 : Int32) <<< (x_6_1 &&& 31)) - 1) < x_128_0
    · refine br1 c20 ?_
      have t21 : 1 ≤ (Int32.toInt ((1 : Int32) <<< (x_6_1 &&& 31))) ∧ (Int32.toInt ((1 : Int32) <<< (x_6_1 &&& 31))) ≤ 64 := shl1_b (by omega) (by omega)
      have t22 : (Int32.toInt (((1 : Int32) <<< (x_6_1 &&& 31)) - 1)) = (Int32.toInt ((1 : Int32) <<< (x_6_1 &&& 31))) - 1 := sub_z rfl rfl (by omega) (by omega)
      have d23 := lt_z (a := (((1 : Int32) <<< (x_6_1 &&& 31)) - 1)) (b := x_128_0) (x := (Int32.toInt (((1 : Int32) <<< (x_6_1 &&& 31)) - 1))) (y := (Int32.toInt x_128_0)) rfl rfl c20
      exact KX _ _ ⟨⟨by omega, by omega⟩, h_x_128_1⟩
    · refine br0 c20 ?_
      have t24 : 1 ≤ (Int32.toInt ((1 : Int32) <<< (x_6_1 &&& 31))) ∧ (Int32.toInt ((1 : Int32) <<< (x_6_1 &&& 31))) ≤ 64 := shl1_b (by omega) (by omega)
      have t25 : (Int32.toInt (((1 : Int32) <<< (x_6_1 &&& 31)) - 1)) = (Int32.toInt ((1 : Int32) <<< (x_6_1 &&& 31))) - 1 := sub_z rfl rfl (by omega) (by omega)
      have d26 := nlt_z (a := (((1 : Int32) <<< (x_6_1 &&& 31)) - 1)) (b := x_128_0) (x := (Int32.toInt (((1 : Int32) <<< (x_6_1 &&& 31)) - 1))) (y := (Int32.toInt x_128_0)) rfl rfl c20
      refine s_X9_fewestFrom x_120_0 x_128_0 x_6_1 (x_128_1) (u_54_0) ⟨by omega, by omega⟩ ⟨by omega, by omega⟩ ⟨by omega, by omega⟩ h_x_128_1 h_u_54_0 (fun r27 H28 => ?_)
      have j29 := H28
      have t30 : (Int32.toInt (x_120_0 * 64)) = (Int32.toInt x_120_0) * 64 := mul_z rfl rfl (by omega) (by omega)
      have t31 : (Int32.toInt ((x_120_0 * 64) + x_128_0)) = (Int32.toInt (x_120_0 * 64)) + (Int32.toInt x_128_0) := add_z rfl rfl (by omega) (by omega)
      refine ⟨vpi (x := (Int32.toInt ((x_120_0 * 64) + x_128_0))) rfl (by omega) (by omega), ?_⟩
      have t32 : (Int32.toInt (x_128_0 + 1)) = (Int32.toInt x_128_0) + 1 := add_z rfl rfl (by omega) (by omega)
      have R33 : FW (upd x_128_1 ((x_120_0 * 64) + x_128_0).toNatClampNeg r27) := FW.up_0 h_x_128_1 (tnz (x := (Int32.toInt ((x_120_0 * 64) + x_128_0))) rfl (by omega)) (by omega) (by omega) (w := (Int32.toInt r27)) rfl (by omega) (by omega)
      exact ih _ _ ⟨⟨by omega, by omega⟩, R33⟩ (by omega)
set_option maxRecDepth 100000 in
theorem sl_X9_share_T_120 (x_6_1 : Int32) (u_54_0 : Nat → Int32) (h_x_6_1 : 0 ≤ x_6_1.toInt ∧ x_6_1.toInt ≤ 6) (h_u_54_0 : PC u_54_0) (Qb : Int32 → (Nat → Int32) → Prop) (KX : ∀ (x_120_0 : Int32) (x_120_1 : Nat → Int32), ((-1) ≤ x_120_0.toInt ∧ x_120_0.toInt ≤ (-1)) ∧ (FW x_120_1) → Qb x_120_0 x_120_1) : ∀ (n : Nat) (x_120_0 : Int32) (x_120_1 : Nat → Int32), ((-1) ≤ x_120_0.toInt ∧ x_120_0.toInt ≤ 5) ∧ (FW x_120_1) → x_120_0.toInt - (-2) < (n : Int) → wl_X9_share_T_120 x_6_1 u_54_0 Qb n x_120_0 x_120_1 := by
  intro n
  induction n with
  | zero =>
    intro x_120_0 x_120_1 hI hm
    exfalso; have hm : x_120_0.toInt - (-2) < 0 := hm; omega
  | succ n ih =>
    intro x_120_0 x_120_1 hI hm
    have hm : x_120_0.toInt - (-2) < (n : Int) + 1 := by simpa using hm
    have h_x_120_0 := hI.1
    have h_x_120_1 := hI.2
    unfold wl_X9_share_T_120
    by_cases c17 : x_120_0 < 0
    · refine br1 c17 ?_
      have d18 := lt_z (a := x_120_0) (b := 0) (x := (Int32.toInt x_120_0)) (y := 0) rfl rfl c17
      exact KX _ _ ⟨⟨by omega, by omega⟩, h_x_120_1⟩
    · refine br0 c17 ?_
      have d19 := nlt_z (a := x_120_0) (b := 0) (x := (Int32.toInt x_120_0)) (y := 0) rfl rfl c17
      have k22 : Int32.toInt 0 = 0 := rfl
      refine sl_X9_share_T_128 x_6_1 (u_54_0) x_120_0 ⟨by omega, by omega⟩ h_u_54_0 ⟨by omega, by omega⟩ _ (fun x20_0 x20_1 X21 => ?_) 1000000000000 0 (x_120_1) ⟨(by decide), h_x_120_1⟩ (by omega)
      have j23 := X21.1
      have j24 := X21.2
      obtain ⟨yg25, hyg25, tyg25⟩ : ∃ y : Int32, (x_120_0 + (-1)) = y ∧ Int32.toInt y = (Int32.toInt x_120_0) + (-1) := ⟨(x_120_0 + (-1)), rfl, add_z rfl (by decide) (by omega) (by omega)⟩
      try rw [hyg25]
      clear hyg25
      exact ih _ _ ⟨⟨by omega, by omega⟩, j24⟩ (by omega)
set_option maxRecDepth 100000 in
theorem s_X9_share_T (d : Int64) (f_h0_told : Nat → Int32) (p0_crew_count : Int32) (f_p0_crew_cell : Nat → Int32) (p0_rock_dug : Int64) (f_p0_rock_kind : Nat → Int32) (f_h0_price : Nat → Int32) (f_h0_cost : Nat → Int32) (f_h0_left : Nat → Int32) (f_h0_endsWay : Nat → Int32) (p1_cell : Int32) (p1_shaft : Int32) (p1_kind : Int32) (p1_done : Int32) (p1_latest : Int32) (p1_value : Int32) (p1_law_clauses : Int32) (p1_law_length : Int32) (n_p1_law_heads : Nat) (f_p1_law_heads : Nat → Int32) (n_p1_law_code : Nat) (f_p1_law_code : Nat → Int32) (f_p1_stack : Nat → Int64) (p0_folk_listeners : Int32) (f_p0_folk_column : Nat → Int32) (f_p0_rock_hard : Nat → Int32) (f_p0_rock_water : Nat → Int32) (f_p0_term : Nat → Int32) (f_p0_crew_buckets : Nat → Int32) (f_h0_fewest : Nat → Int32) (f_h0_cellOfShaft : Nat → Int32) (h_f_h0_told : TO f_h0_told) (h_p0_crew_count : 0 ≤ p0_crew_count.toInt ∧ p0_crew_count.toInt ≤ 6) (h_f_p0_crew_cell : CE f_p0_crew_cell) (h_f_p0_rock_kind : KI f_p0_rock_kind) (h_f_h0_price : PC f_h0_price) (h_f_h0_cost : CS f_h0_cost) (h_f_h0_left : LE f_h0_left) (h_p1_cell : 0 ≤ p1_cell.toInt ∧ p1_cell.toInt ≤ 39) (h_p1_law_clauses : 0 ≤ p1_law_clauses.toInt ∧ p1_law_clauses.toInt ≤ 12) (h_p1_law_length : 0 ≤ p1_law_length.toInt ∧ p1_law_length.toInt ≤ 400) (h_f_p1_law_code : CD f_p1_law_code) (h_p0_folk_listeners : 0 ≤ p0_folk_listeners.toInt ∧ p0_folk_listeners.toInt ≤ 5) (h_f_p0_folk_column : CO f_p0_folk_column) (h_f_p0_rock_hard : HA f_p0_rock_hard) (h_f_p0_rock_water : WA f_p0_rock_water) (h_f_p0_term : TE f_p0_term) (h_f_p0_crew_buckets : BU f_p0_crew_buckets) (h_f_h0_fewest : FW f_h0_fewest) (e_0 : n_p1_law_heads < 100000) (e_1 : p1_law_length.toInt ≤ (n_p1_law_code : Int)) {Q : Int32 → (Int32 × (Nat → Int32) × (Nat → Int32) × (Nat → Int32) × (Nat → Int32) × (Nat → Int32) × Int32 × Int32 × Int32 × Int32 × (Nat → Int64) × (Nat → Int32) × (Nat → Int32)) → Prop} (hq : ∀ (r : Int32) (u_0 : Int32) (u_1 : Nat → Int32) (u_2 : Nat → Int32) (u_3 : Nat → Int32) (u_4 : Nat → Int32) (u_5 : Nat → Int32) (u_6 : Int32) (u_7 : Int32) (u_8 : Int32) (u_9 : Int32) (u_10 : Nat → Int64) (u_11 : Nat → Int32) (u_12 : Nat → Int32), (0 ≤ u_0.toInt ∧ u_0.toInt ≤ 2000000) ∧ (TO u_1) ∧ (PC u_2) ∧ (CS u_3) ∧ (LE u_4) ∧ (0 ≤ u_6.toInt ∧ u_6.toInt ≤ 39) ∧ (FW u_11) → Q r (u_0, u_1, u_2, u_3, u_4, u_5, u_6, u_7, u_8, u_9, u_10, u_11, u_12)) : wp_X9_share_T d f_h0_told p0_crew_count f_p0_crew_cell p0_rock_dug f_p0_rock_kind f_h0_price f_h0_cost f_h0_left f_h0_endsWay p1_cell p1_shaft p1_kind p1_done p1_latest p1_value p1_law_clauses p1_law_length n_p1_law_heads f_p1_law_heads n_p1_law_code f_p1_law_code f_p1_stack p0_folk_listeners f_p0_folk_column f_p0_rock_hard f_p0_rock_water f_p0_term f_p0_crew_buckets f_h0_fewest f_h0_cellOfShaft Q := by
  unfold wp_X9_share_T
  have k3 : Int32.toInt 0 = 0 := rfl
  refine sl_X9_share_T_6 d  _ (fun x1_0 x1_1 x1_2 X2 => ?_) 1000000000000 0 0 (f_h0_told) ⟨(by decide), (by decide), h_f_h0_told⟩ (by omega)
  have j4 := X2.1
  have j5 := X2.2.1
  have j6 := X2.2.2
  refine s_X9_priceAll_T x1_1 p0_crew_count (f_p0_crew_cell) p0_rock_dug (f_p0_rock_kind) (f_h0_price) (x1_2) (f_h0_cost) (f_h0_left) (f_h0_endsWay) p1_cell p1_shaft p1_kind p1_done p1_latest p1_value p1_law_clauses p1_law_length n_p1_law_heads (f_p1_law_heads) n_p1_law_code (f_p1_law_code) (f_p1_stack) p0_folk_listeners (f_p0_folk_column) (f_p0_rock_hard) (f_p0_rock_water) (f_p0_term) (f_p0_crew_buckets) ⟨by omega, by omega⟩ ⟨by omega, by omega⟩ h_f_p0_crew_cell h_f_p0_rock_kind h_f_h0_price j6 h_f_h0_cost h_f_h0_left ⟨by omega, by omega⟩ ⟨by omega, by omega⟩ ⟨by omega, by omega⟩ h_f_p1_law_code ⟨by omega, by omega⟩ h_f_p0_folk_column h_f_p0_rock_hard h_f_p0_rock_water h_f_p0_term h_f_p0_crew_buckets (by omega) (by omega) (fun u7_0 u7_1 u7_2 u7_3 u7_4 u7_5 u7_6 u7_7 u7_8 H8 => ?_)
  have j9 := H8.1
  have j10 := H8.2.1
  have j11 := H8.2.2.1
  have j12 := H8.2.2.2
  refine un9_i ?_
  refine sl_X9_share_T_77 p0_crew_count x1_1 ⟨by omega, by omega⟩ ⟨by omega, by omega⟩ _ (fun x13_0 x13_1 X14 => ?_) 1000000000000 0 (f_h0_fewest) ⟨(by decide), h_f_h0_fewest⟩ (by omega)
  have j15 := X14.1
  have j16 := X14.2
  have t19 : (Int32.toInt (p0_crew_count - 1)) = (Int32.toInt p0_crew_count) - 1 := sub_z rfl rfl (by omega) (by omega)
  refine sl_X9_share_T_120 x1_1 (u7_0) ⟨by omega, by omega⟩ j9 _ (fun x17_0 x17_1 X18 => ?_) 1000000000000 (p0_crew_count - 1) (x13_1) ⟨⟨by omega, by omega⟩, j16⟩ (by omega)
  have j20 := X18.1
  have j21 := X18.2
  have t22 : 1 ≤ (Int32.toInt ((1 : Int32) <<< (x1_1 &&& 31))) ∧ (Int32.toInt ((1 : Int32) <<< (x1_1 &&& 31))) ≤ 64 := shl1_b (by omega) (by omega)
  have t23 : (Int32.toInt (((1 : Int32) <<< (x1_1 &&& 31)) - 1)) = (Int32.toInt ((1 : Int32) <<< (x1_1 &&& 31))) - 1 := sub_z rfl rfl (by omega) (by omega)
  refine ⟨vpi (x := (Int32.toInt (((1 : Int32) <<< (x1_1 &&& 31)) - 1))) rfl (by omega) (by omega), ?_⟩
  by_cases c24 : (x17_1 (((1 : Int32) <<< (x1_1 &&& 31)) - 1).toNatClampNeg) < 1000000
  · refine br1 c24 ?_
    have g25 : 0 ≤ (Int32.toInt (x17_1 (((1 : Int32) <<< (x1_1 &&& 31)) - 1).toNatClampNeg)) ∧ (Int32.toInt (x17_1 (((1 : Int32) <<< (x1_1 &&& 31)) - 1).toNatClampNeg)) ≤ 1000000 := FW.at_0 j21 (tnz (x := (Int32.toInt (((1 : Int32) <<< (x1_1 &&& 31)) - 1))) rfl (by omega)) (by omega) (by omega)
    have d26 := lt_z (a := (x17_1 (((1 : Int32) <<< (x1_1 &&& 31)) - 1).toNatClampNeg)) (b := 1000000) (x := (Int32.toInt (x17_1 (((1 : Int32) <<< (x1_1 &&& 31)) - 1).toNatClampNeg))) (y := 1000000) rfl rfl c24
    refine s_X9_fillRow p0_crew_count x1_1 (u7_0) (x17_1) (x1_2) (f_h0_cellOfShaft) ⟨by omega, by omega⟩ ⟨by omega, by omega⟩ j9 j21 j6 (fun u27 H28 => ?_)
    exact hq _ _ _ _ _ _ _ _ _ _ _ _ _ _ ⟨⟨by omega, by omega⟩, j6, j9, j10, j11, ⟨by omega, by omega⟩, j21⟩
  · refine br0 c24 ?_
    have g29 : 0 ≤ (Int32.toInt (x17_1 (((1 : Int32) <<< (x1_1 &&& 31)) - 1).toNatClampNeg)) ∧ (Int32.toInt (x17_1 (((1 : Int32) <<< (x1_1 &&& 31)) - 1).toNatClampNeg)) ≤ 1000000 := FW.at_0 j21 (tnz (x := (Int32.toInt (((1 : Int32) <<< (x1_1 &&& 31)) - 1))) rfl (by omega)) (by omega) (by omega)
    have d30 := nlt_z (a := (x17_1 (((1 : Int32) <<< (x1_1 &&& 31)) - 1).toNatClampNeg)) (b := 1000000) (x := (Int32.toInt (x17_1 (((1 : Int32) <<< (x1_1 &&& 31)) - 1).toNatClampNeg))) (y := 1000000) rfl rfl c24
    exact hq _ _ _ _ _ _ _ _ _ _ _ _ _ _ ⟨⟨by omega, by omega⟩, j6, j9, j10, j11, ⟨by omega, by omega⟩, j21⟩


set_option maxRecDepth 100000 in
theorem s_X11_gangs_T (a : Int64) (b : Int32) (h0_site_world : Nat) (h0_site_world_lawCount : Int32) (h0_site_world_force : Int32) (h0_site_world_crew_count : Int32) (f_h0_site_world_laws : Nat → Option Nat) (h0_asker_world : Value) (h0_asker_law : Value) (h0_asker_cell : Int32) (h0_asker_shaft : Int32) (h0_asker_kind : Int32) (h0_asker_done : Int32) (h0_asker_latest : Int32) (h0_asker_value : Int32) (h0_ways_days : Int32) (f_h0_ways_told : Nat → Int32) (f_h0_site_world_crew_cell : Nat → Int32) (h0_site_world_rock_dug : Int64) (f_h0_site_world_rock_kind : Nat → Int32) (f_h0_ways_price : Nat → Int32) (f_h0_ways_cost : Nat → Int32) (f_h0_ways_left : Nat → Int32) (f_h0_ways_endsWay : Nat → Int32) (t : Nat) (t_clauses : Int32) (t_length : Int32) (n_t_heads : Nat) (f_t_heads : Nat → Int32) (n_t_code : Nat) (f_t_code : Nat → Int32) (f_h0_asker_stack : Nat → Int64) (h0_site_world_folk_listeners : Int32) (f_h0_site_world_folk_column : Nat → Int32) (f_h0_site_world_rock_hard : Nat → Int32) (f_h0_site_world_rock_water : Nat → Int32) (f_h0_site_world_term : Nat → Int32) (f_h0_site_world_crew_buckets : Nat → Int32) (f_h0_ways_fewest : Nat → Int32) (f_h0_ways_cellOfShaft : Nat → Int32) (h_h0_site_world_lawCount : 0 ≤ h0_site_world_lawCount.toInt ∧ h0_site_world_lawCount.toInt ≤ 6) (h_h0_site_world_force : 0 ≤ h0_site_world_force.toInt ∧ h0_site_world_force.toInt ≤ 5) (h_h0_site_world_crew_count : 0 ≤ h0_site_world_crew_count.toInt ∧ h0_site_world_crew_count.toInt ≤ 6) (h_h0_asker_cell : 0 ≤ h0_asker_cell.toInt ∧ h0_asker_cell.toInt ≤ 39) (h_h0_ways_days : 0 ≤ h0_ways_days.toInt ∧ h0_ways_days.toInt ≤ 2000000) (h_f_h0_ways_told : TO f_h0_ways_told) (h_f_h0_site_world_crew_cell : CE f_h0_site_world_crew_cell) (h_f_h0_site_world_rock_kind : KI f_h0_site_world_rock_kind) (h_f_h0_ways_price : PC f_h0_ways_price) (h_f_h0_ways_cost : CS f_h0_ways_cost) (h_f_h0_ways_left : LE f_h0_ways_left) (h_t_clauses : 0 ≤ t_clauses.toInt ∧ t_clauses.toInt ≤ 12) (h_t_length : 0 ≤ t_length.toInt ∧ t_length.toInt ≤ 400) (h_f_t_code : CD f_t_code) (h_h0_site_world_folk_listeners : 0 ≤ h0_site_world_folk_listeners.toInt ∧ h0_site_world_folk_listeners.toInt ≤ 5) (h_f_h0_site_world_folk_column : CO f_h0_site_world_folk_column) (h_f_h0_site_world_rock_hard : HA f_h0_site_world_rock_hard) (h_f_h0_site_world_rock_water : WA f_h0_site_world_rock_water) (h_f_h0_site_world_term : TE f_h0_site_world_term) (h_f_h0_site_world_crew_buckets : BU f_h0_site_world_crew_buckets) (h_f_h0_ways_fewest : FW f_h0_ways_fewest) (e_0 : n_t_heads < 100000) (e_1 : t_length.toInt ≤ (n_t_code : Int)) (e_2 : h0_site_world_force.toInt < h0_site_world_lawCount.toInt) (e_3 : f_h0_site_world_laws (Int32.toNatClampNeg h0_site_world_force) = some t) {Q : Int32 → (Value × Value × Int32 × Int32 × Int32 × Int32 × Int32 × (Nat → Int32) × (Nat → Int32) × (Nat → Int32) × (Nat → Int32) × (Nat → Int32) × (Nat → Int64) × (Nat → Int32) × (Nat → Int32)) → Prop} (hq : ∀ (r : Int32) (u_0 : Value) (u_1 : Value) (u_2 : Int32) (u_3 : Int32) (u_4 : Int32) (u_5 : Int32) (u_6 : Int32) (u_7 : Nat → Int32) (u_8 : Nat → Int32) (u_9 : Nat → Int32) (u_10 : Nat → Int32) (u_11 : Nat → Int32) (u_12 : Nat → Int64) (u_13 : Nat → Int32) (u_14 : Nat → Int32), (0 ≤ u_2.toInt ∧ u_2.toInt ≤ 39) ∧ (0 ≤ u_6.toInt ∧ u_6.toInt ≤ 2000000) ∧ (TO u_7) ∧ (PC u_8) ∧ (CS u_9) ∧ (LE u_10) ∧ (FW u_13) → Q r (u_0, u_1, u_2, u_3, u_4, u_5, u_6, u_7, u_8, u_9, u_10, u_11, u_12, u_13, u_14)) : wp_X11_gangs_T a b h0_site_world h0_site_world_lawCount h0_site_world_force h0_site_world_crew_count f_h0_site_world_laws h0_asker_world h0_asker_law h0_asker_cell h0_asker_shaft h0_asker_kind h0_asker_done h0_asker_latest h0_asker_value h0_ways_days f_h0_ways_told f_h0_site_world_crew_cell h0_site_world_rock_dug f_h0_site_world_rock_kind f_h0_ways_price f_h0_ways_cost f_h0_ways_left f_h0_ways_endsWay t t_clauses t_length n_t_heads f_t_heads n_t_code f_t_code f_h0_asker_stack h0_site_world_folk_listeners f_h0_site_world_folk_column f_h0_site_world_rock_hard f_h0_site_world_rock_water f_h0_site_world_term f_h0_site_world_crew_buckets f_h0_ways_fewest f_h0_ways_cellOfShaft Q := by
  unfold wp_X11_gangs_T
  by_cases c1 : (lg_cmp a 0) < 0
  · refine br1 c1 ?_
    have d2 := c_lt (a := a) (b := 0) (x := (Int64.toInt a)) (y := 0) rfl rfl c1
    exact hq _ _ _ _ _ _ _ _ _ _ _ _ _ _ _ _ ⟨⟨by omega, by omega⟩, ⟨by omega, by omega⟩, h_f_h0_ways_told, h_f_h0_ways_price, h_f_h0_ways_cost, h_f_h0_ways_left, h_f_h0_ways_fewest⟩
  · refine br0 c1 ?_
    have d3 := c_nlt (a := a) (b := 0) (x := (Int64.toInt a)) (y := 0) rfl rfl c1
    by_cases c4 : (lg_cmp (a >>> ((40 : Int32).toInt64 &&& 63)) 0) = 0
    · refine br1 c4 ?_
      have d5 := c_eq (a := (a >>> ((40 : Int32).toInt64 &&& 63))) (b := 0) (x := (Int64.toInt (a >>> ((40 : Int32).toInt64 &&& 63)))) (y := 0) rfl rfl c4
      refine s_J13_bitCount_95d88 a  (fun r6 H7 => ?_)
      by_cases c8 : 6 < r6
      · refine br1 c8 ?_
        have d9 := lt_z (a := 6) (b := r6) (x := 6) (y := (Int32.toInt r6)) rfl rfl c8
        exact hq _ _ _ _ _ _ _ _ _ _ _ _ _ _ _ _ ⟨⟨by omega, by omega⟩, ⟨by omega, by omega⟩, h_f_h0_ways_told, h_f_h0_ways_price, h_f_h0_ways_cost, h_f_h0_ways_left, h_f_h0_ways_fewest⟩
      · refine br0 c8 ?_
        have d10 := nlt_z (a := 6) (b := r6) (x := 6) (y := (Int32.toInt r6)) rfl rfl c8
        refine o_X11_isWithin _ _ _ ?_
        by_cases c11 : b < 0
        · refine br1 c11 ?_
          have d12 := lt_z (a := b) (b := 0) (x := (Int32.toInt b)) (y := 0) rfl rfl c11
          refine br1 (by decide) ?_
          exact hq _ _ _ _ _ _ _ _ _ _ _ _ _ _ _ _ ⟨⟨by omega, by omega⟩, ⟨by omega, by omega⟩, h_f_h0_ways_told, h_f_h0_ways_price, h_f_h0_ways_cost, h_f_h0_ways_left, h_f_h0_ways_fewest⟩
        · refine br0 c11 ?_
          have d13 := nlt_z (a := b) (b := 0) (x := (Int32.toInt b)) (y := 0) rfl rfl c11
          by_cases c14 : (h0_site_world_crew_count + 1) ≤ b
          · refine br1 c14 ?_
            have t15 : (Int32.toInt (h0_site_world_crew_count + 1)) = (Int32.toInt h0_site_world_crew_count) + 1 := add_z rfl rfl (by omega) (by omega)
            have d16 := le_z (a := (h0_site_world_crew_count + 1)) (b := b) (x := (Int32.toInt (h0_site_world_crew_count + 1))) (y := (Int32.toInt b)) rfl rfl c14
            refine br1 (by decide) ?_
            exact hq _ _ _ _ _ _ _ _ _ _ _ _ _ _ _ _ ⟨⟨by omega, by omega⟩, ⟨by omega, by omega⟩, h_f_h0_ways_told, h_f_h0_ways_price, h_f_h0_ways_cost, h_f_h0_ways_left, h_f_h0_ways_fewest⟩
          · refine br0 c14 ?_
            have t17 : (Int32.toInt (h0_site_world_crew_count + 1)) = (Int32.toInt h0_site_world_crew_count) + 1 := add_z rfl rfl (by omega) (by omega)
            have d18 := nle_z (a := (h0_site_world_crew_count + 1)) (b := b) (x := (Int32.toInt (h0_site_world_crew_count + 1))) (y := (Int32.toInt b)) rfl rfl c14
            refine br0 (by decide) ?_
            refine o_X10_lawInForce_T _ _ _ _ _ ?_
            refine o_X10_lawOf_T _ _ _ _ _ ?_
            refine br0 (z_nlt (x := (Int32.toInt h0_site_world_force)) (y := 0) rfl rfl (by omega)) ?_
            by_cases c19 : h0_site_world_lawCount ≤ h0_site_world_force
            · refine br1 c19 ?_
              have d20 := le_z (a := h0_site_world_lawCount) (b := h0_site_world_force) (x := (Int32.toInt h0_site_world_lawCount)) (y := (Int32.toInt h0_site_world_force)) rfl rfl c19
              exfalso
              omega
            · refine br0 c19 ?_
              have d21 := nle_z (a := h0_site_world_lawCount) (b := h0_site_world_force) (x := (Int32.toInt h0_site_world_lawCount)) (y := (Int32.toInt h0_site_world_force)) rfl rfl c19
              refine br0 (z_nle (x := 6) (y := (Int32.toInt h0_site_world_force)) rfl rfl (by omega)) ?_
              refine ⟨vpi (x := (Int32.toInt h0_site_world_force)) rfl (by omega) (by omega), ?_⟩
              refine ⟨by assumption, ?_⟩
              refine o_X0_turnTo_T _ ?_
              refine s_X9_share_T a (f_h0_ways_told) h0_site_world_crew_count (f_h0_site_world_crew_cell) h0_site_world_rock_dug (f_h0_site_world_rock_kind) (f_h0_ways_price) (f_h0_ways_cost) (f_h0_ways_left) (f_h0_ways_endsWay) h0_asker_cell h0_asker_shaft h0_asker_kind h0_asker_done h0_asker_latest h0_asker_value t_clauses t_length n_t_heads (f_t_heads) n_t_code (f_t_code) (f_h0_asker_stack) h0_site_world_folk_listeners (f_h0_site_world_folk_column) (f_h0_site_world_rock_hard) (f_h0_site_world_rock_water) (f_h0_site_world_term) (f_h0_site_world_crew_buckets) (f_h0_ways_fewest) (f_h0_ways_cellOfShaft) h_f_h0_ways_told ⟨by omega, by omega⟩ h_f_h0_site_world_crew_cell h_f_h0_site_world_rock_kind h_f_h0_ways_price h_f_h0_ways_cost h_f_h0_ways_left ⟨by omega, by omega⟩ ⟨by omega, by omega⟩ ⟨by omega, by omega⟩ h_f_t_code ⟨by omega, by omega⟩ h_f_h0_site_world_folk_column h_f_h0_site_world_rock_hard h_f_h0_site_world_rock_water h_f_h0_site_world_term h_f_h0_site_world_crew_buckets h_f_h0_ways_fewest (by omega) (by omega) (fun r22 u23_0 u23_1 u23_2 u23_3 u23_4 u23_5 u23_6 u23_7 u23_8 u23_9 u23_10 u23_11 u23_12 H24 => ?_)
              have j25 := H24.1
              have j26 := H24.2.1
              have j27 := H24.2.2.1
              have j28 := H24.2.2.2.1
              have j29 := H24.2.2.2.2.1
              have j30 := H24.2.2.2.2.2.1
              have j31 := H24.2.2.2.2.2.2
              refine un13_i ?_
              by_cases c32 : r22 = 0
              · refine br1 c32 ?_
                have d33 := eq_z (a := r22) (b := 0) (x := (Int32.toInt r22)) (y := 0) rfl rfl c32
                exact hq _ _ _ _ _ _ _ _ _ _ _ _ _ _ _ _ ⟨⟨by omega, by omega⟩, ⟨by omega, by omega⟩, j26, j27, j28, j29, j31⟩
              · refine br0 c32 ?_
                have d34 := ne_z (a := r22) (b := 0) (x := (Int32.toInt r22)) (y := 0) rfl rfl c32
                by_cases c35 : b = 0
                · refine br1 c35 ?_
                  have d36 := eq_z (a := b) (b := 0) (x := (Int32.toInt b)) (y := 0) rfl rfl c35
                  exact hq _ _ _ _ _ _ _ _ _ _ _ _ _ _ _ _ ⟨⟨by omega, by omega⟩, ⟨by omega, by omega⟩, j26, j27, j28, j29, j31⟩
                · refine br0 c35 ?_
                  have d37 := ne_z (a := b) (b := 0) (x := (Int32.toInt b)) (y := 0) rfl rfl c35
                  have t38 : (Int32.toInt (b - 1)) = (Int32.toInt b) - 1 := sub_z rfl rfl (by omega) (by omega)
                  refine ⟨vpi (x := (Int32.toInt (b - 1))) rfl (by omega) (by omega), ?_⟩
                  exact hq _ _ _ _ _ _ _ _ _ _ _ _ _ _ _ _ ⟨⟨by omega, by omega⟩, ⟨by omega, by omega⟩, j26, j27, j28, j29, j31⟩
    · refine br0 c4 ?_
      have d39 := c_ne (a := (a >>> ((40 : Int32).toInt64 &&& 63))) (b := 0) (x := (Int64.toInt (a >>> ((40 : Int32).toInt64 &&& 63)))) (y := 0) rfl rfl c4
      exact hq _ _ _ _ _ _ _ _ _ _ _ _ _ _ _ _ ⟨⟨by omega, by omega⟩, ⟨by omega, by omega⟩, h_f_h0_ways_told, h_f_h0_ways_price, h_f_h0_ways_cost, h_f_h0_ways_left, h_f_h0_ways_fewest⟩

