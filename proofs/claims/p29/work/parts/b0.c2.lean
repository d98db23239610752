set_option maxRecDepth 100000 in
theorem sl_X0_tells_T_19 (a : Int32) (h0_cell : Int32) (h0_shaft : Int32) (h0_kind : Int32) (h0_done : Int32) (h0_latest : Int32) (h0_law_length : Int32) (n_h0_law_heads : Nat) (f_h0_law_heads : Nat → Int32) (n_h0_law_code : Nat) (f_h0_law_code : Nat → Int32) (h0_world_folk_listeners : Int32) (f_h0_world_folk_column : Nat → Int32) (f_h0_world_rock_hard : Nat → Int32) (f_h0_world_rock_water : Nat → Int32) (f_h0_world_term : Nat → Int32) (h0_world_crew_count : Int32) (f_h0_world_crew_cell : Nat → Int32) (f_h0_world_crew_buckets : Nat → Int32) (h_h0_cell : 0 ≤ h0_cell.toInt ∧ h0_cell.toInt ≤ 39) (h_h0_law_length : 0 ≤ h0_law_length.toInt ∧ h0_law_length.toInt ≤ 400) (h_f_h0_law_code : CD f_h0_law_code) (h_h0_world_folk_listeners : 0 ≤ h0_world_folk_listeners.toInt ∧ h0_world_folk_listeners.toInt ≤ 5) (h_f_h0_world_folk_column : CO f_h0_world_folk_column) (h_f_h0_world_rock_hard : HA f_h0_world_rock_hard) (h_f_h0_world_rock_water : WA f_h0_world_rock_water) (h_f_h0_world_term : TE f_h0_world_term) (h_h0_world_crew_count : 0 ≤ h0_world_crew_count.toInt ∧ h0_world_crew_count.toInt ≤ 6) (h_f_h0_world_crew_cell : CE f_h0_world_crew_cell) (h_f_h0_world_crew_buckets : BU f_h0_world_crew_buckets) (z_n_h0_law_heads : n_h0_law_heads < 100000) (z_n_h0_law_code : h0_law_length.toInt ≤ (n_h0_law_code : Int)) {Q : Int32 → (Int32 × (Nat → Int64)) → Prop} (hq : ∀ (r : Int32) (u_0 : Int32) (u_1 : Nat → Int64), True → Q r (u_0, u_1)) (Qb : Int32 → Int32 → (Nat → Int64) → Prop) (KX : ∀ (x_19_0 : Int32) (x_19_1 : Int32) (x_19_2 : Nat → Int64), ((-1) ≤ x_19_0.toInt ∧ x_19_0.toInt ≤ (-1)) → Qb x_19_0 x_19_1 x_19_2) : ∀ (n : Nat) (x_19_0 : Int32) (x_19_1 : Int32) (x_19_2 : Nat → Int64), ((-1) ≤ x_19_0.toInt ∧ x_19_0.toInt ≤ 11) → x_19_0.toInt - (-2) < (n : Int) → wl_X0_tells_T_19 a h0_cell h0_shaft h0_kind h0_done h0_latest h0_law_length n_h0_law_heads f_h0_law_heads n_h0_law_code f_h0_law_code h0_world_folk_listeners f_h0_world_folk_column f_h0_world_rock_hard f_h0_world_rock_water f_h0_world_term h0_world_crew_count f_h0_world_crew_cell f_h0_world_crew_buckets Q Qb n x_19_0 x_19_1 x_19_2 := by
  intro n
  induction n with
  | zero =>
    intro x_19_0 x_19_1 x_19_2 hI hm
    exfalso; have hm : x_19_0.toInt - (-2) < 0 := hm; omega
  | succ n ih =>
    intro x_19_0 x_19_1 x_19_2 hI hm
    have hm : x_19_0.toInt - (-2) < (n : Int) + 1 := by simpa using hm
    have h_x_19_0 := hI
    unfold wl_X0_tells_T_19
    by_cases c1 : x_19_0 < 0
    · refine br1 c1 ?_
      have d2 := lt_z (a := x_19_0) (b := 0) (x := (Int32.toInt x_19_0)) (y := 0) rfl rfl c1
      exact KX _ _ _ ⟨by omega, by omega⟩
    · refine br0 c1 ?_
      have d3 := nlt_z (a := x_19_0) (b := 0) (x := (Int32.toInt x_19_0)) (y := 0) rfl rfl c1
      refine s_X8_headOf x_19_0 0 n_h0_law_heads (f_h0_law_heads) (by omega) (fun r4 H5 => ?_)
      by_cases c6 : r4 = a
      · refine br1 c6 ?_
        have d7 := eq_z (a := r4) (b := a) (x := (Int32.toInt r4)) (y := (Int32.toInt a)) rfl rfl c6
        refine s_X8_headOf x_19_0 3 n_h0_law_heads (f_h0_law_heads) (by omega) (fun r8 H9 => ?_)
        refine jn_s ?_
        by_cases c10 : r8 = (-1)
        · refine br1 c10 ?_
          have d11 := eq_z (a := r8) (b := (-1)) (x := (Int32.toInt r8)) (y := (-1)) rfl (by decide) c10
          refine un2_i ?_
          refine s_X8_headOf x_19_0 1 n_h0_law_heads (f_h0_law_heads) (by omega) (fun r12 H13 => ?_)
          by_cases c14 : r12 = (-1)
          · refine br1 c14 ?_
            have d15 := eq_z (a := r12) (b := (-1)) (x := (Int32.toInt r12)) (y := (-1)) rfl (by decide) c14
            exact hq _ _ _ trivial
          · refine br0 c14 ?_
            have d16 := ne_z (a := r12) (b := (-1)) (x := (Int32.toInt r12)) (y := (-1)) rfl (by decide) c14
            refine s_X0_reckon r12 h0_cell h0_shaft h0_kind h0_done h0_latest x_19_1 h0_law_length n_h0_law_code (f_h0_law_code) (x_19_2) h0_world_folk_listeners (f_h0_world_folk_column) (f_h0_world_rock_hard) (f_h0_world_rock_water) (f_h0_world_term) h0_world_crew_count (f_h0_world_crew_cell) (f_h0_world_crew_buckets) ⟨by omega, by omega⟩ ⟨by omega, by omega⟩ h_f_h0_law_code ⟨by omega, by omega⟩ h_f_h0_world_folk_column h_f_h0_world_rock_hard h_f_h0_world_rock_water h_f_h0_world_term ⟨by omega, by omega⟩ h_f_h0_world_crew_cell h_f_h0_world_crew_buckets (by omega) (fun r17 u18_0 u18_1 H19 => ?_)
            have j20 := H19
            refine un2_i ?_
            by_cases c21 : r17 = 0
            · refine br1 c21 ?_
              have d22 := eq_z (a := r17) (b := 0) (x := (Int32.toInt r17)) (y := 0) rfl rfl c21
              obtain ⟨yg23, hyg23, tyg23⟩ : ∃ y : Int32, (x_19_0 + (-1)) = y ∧ Int32.toInt y = (Int32.toInt x_19_0) + (-1) := ⟨(x_19_0 + (-1)), rfl, add_z rfl (by decide) (by omega) (by omega)⟩
              try rw [hyg23]
              clear hyg23
              exact ih _ _ _ ⟨by omega, by omega⟩ (by omega)
            · refine br0 c21 ?_
              have d24 := ne_z (a := r17) (b := 0) (x := (Int32.toInt r17)) (y := 0) rfl rfl c21
              exact hq _ _ _ trivial
        · refine br0 c10 ?_
          have d25 := ne_z (a := r8) (b := (-1)) (x := (Int32.toInt r8)) (y := (-1)) rfl (by decide) c10
          refine s_X0_reckon r8 h0_cell h0_shaft h0_kind h0_done h0_latest x_19_1 h0_law_length n_h0_law_code (f_h0_law_code) (x_19_2) h0_world_folk_listeners (f_h0_world_folk_column) (f_h0_world_rock_hard) (f_h0_world_rock_water) (f_h0_world_term) h0_world_crew_count (f_h0_world_crew_cell) (f_h0_world_crew_buckets) ⟨by omega, by omega⟩ ⟨by omega, by omega⟩ h_f_h0_law_code ⟨by omega, by omega⟩ h_f_h0_world_folk_column h_f_h0_world_rock_hard h_f_h0_world_rock_water h_f_h0_world_term ⟨by omega, by omega⟩ h_f_h0_world_crew_cell h_f_h0_world_crew_buckets (by omega) (fun r26 u27_0 u27_1 H28 => ?_)
          have j29 := H28
          refine un2_i ?_
          by_cases c30 : r26 = 0
          · refine br1 c30 ?_
            have d31 := eq_z (a := r26) (b := 0) (x := (Int32.toInt r26)) (y := 0) rfl rfl c30
            obtain ⟨yg32, hyg32, tyg32⟩ : ∃ y : Int32, (x_19_0 + (-1)) = y ∧ Int32.toInt y = (Int32.toInt x_19_0) + (-1) := ⟨(x_19_0 + (-1)), rfl, add_z rfl (by decide) (by omega) (by omega)⟩
            try rw [hyg32]
            clear hyg32
            exact ih _ _ _ ⟨by omega, by omega⟩ (by omega)
          · refine br0 c30 ?_
            have d33 := ne_z (a := r26) (b := 0) (x := (Int32.toInt r26)) (y := 0) rfl rfl c30
            by_cases c34 : u27_0 = 1
            · refine br1 c34 ?_
              have d35 := eq_z (a := u27_0) (b := 1) (x := (Int32.toInt u27_0)) (y := 1) rfl rfl c34
              refine un2_i ?_
              refine s_X8_headOf x_19_0 1 n_h0_law_heads (f_h0_law_heads) (by omega) (fun r36 H37 => ?_)
              by_cases c38 : r36 = (-1)
              · refine br1 c38 ?_
                have d39 := eq_z (a := r36) (b := (-1)) (x := (Int32.toInt r36)) (y := (-1)) rfl (by decide) c38
                exact hq _ _ _ trivial
              · refine br0 c38 ?_
                have d40 := ne_z (a := r36) (b := (-1)) (x := (Int32.toInt r36)) (y := (-1)) rfl (by decide) c38
                refine s_X0_reckon r36 h0_cell h0_shaft h0_kind h0_done h0_latest u27_0 h0_law_length n_h0_law_code (f_h0_law_code) (u27_1) h0_world_folk_listeners (f_h0_world_folk_column) (f_h0_world_rock_hard) (f_h0_world_rock_water) (f_h0_world_term) h0_world_crew_count (f_h0_world_crew_cell) (f_h0_world_crew_buckets) ⟨by omega, by omega⟩ ⟨by omega, by omega⟩ h_f_h0_law_code ⟨by omega, by omega⟩ h_f_h0_world_folk_column h_f_h0_world_rock_hard h_f_h0_world_rock_water h_f_h0_world_term ⟨by omega, by omega⟩ h_f_h0_world_crew_cell h_f_h0_world_crew_buckets (by omega) (fun r41 u42_0 u42_1 H43 => ?_)
                have j44 := H43
                refine un2_i ?_
                by_cases c45 : r41 = 0
                · refine br1 c45 ?_
                  have d46 := eq_z (a := r41) (b := 0) (x := (Int32.toInt r41)) (y := 0) rfl rfl c45
                  obtain ⟨yg47, hyg47, tyg47⟩ : ∃ y : Int32, (x_19_0 + (-1)) = y ∧ Int32.toInt y = (Int32.toInt x_19_0) + (-1) := ⟨(x_19_0 + (-1)), rfl, add_z rfl (by decide) (by omega) (by omega)⟩
                  try rw [hyg47]
                  clear hyg47
                  exact ih _ _ _ ⟨by omega, by omega⟩ (by omega)
                · refine br0 c45 ?_
                  have d48 := ne_z (a := r41) (b := 0) (x := (Int32.toInt r41)) (y := 0) rfl rfl c45
                  exact hq _ _ _ trivial
            · refine br0 c34 ?_
              have d49 := ne_z (a := u27_0) (b := 1) (x := (Int32.toInt u27_0)) (y := 1) rfl rfl c34
              obtain ⟨yg50, hyg50, tyg50⟩ : ∃ y : Int32, (x_19_0 + (-1)) = y ∧ Int32.toInt y = (Int32.toInt x_19_0) + (-1) := ⟨(x_19_0 + (-1)), rfl, add_z rfl (by decide) (by omega) (by omega)⟩
              try rw [hyg50]
              clear hyg50
              exact ih _ _ _ ⟨by omega, by omega⟩ (by omega)
      · refine br0 c6 ?_
        have d51 := ne_z (a := r4) (b := a) (x := (Int32.toInt r4)) (y := (Int32.toInt a)) rfl rfl c6
        obtain ⟨yg52, hyg52, tyg52⟩ : ∃ y : Int32, (x_19_0 + (-1)) = y ∧ Int32.toInt y = (Int32.toInt x_19_0) + (-1) := ⟨(x_19_0 + (-1)), rfl, add_z rfl (by decide) (by omega) (by omega)⟩
        try rw [hyg52]
        clear hyg52
        exact ih _ _ _ ⟨by omega, by omega⟩ (by omega)
set_option maxRecDepth 100000 in
theorem s_X0_tells_T (a : Int32) (b : Int32) (h0_cell : Int32) (h0_shaft : Int32) (h0_kind : Int32) (h0_done : Int32) (h0_latest : Int32) (h0_value : Int32) (h0_law_clauses : Int32) (h0_law_length : Int32) (n_h0_law_heads : Nat) (f_h0_law_heads : Nat → Int32) (n_h0_law_code : Nat) (f_h0_law_code : Nat → Int32) (f_h0_stack : Nat → Int64) (h0_world_folk_listeners : Int32) (f_h0_world_folk_column : Nat → Int32) (f_h0_world_rock_hard : Nat → Int32) (f_h0_world_rock_water : Nat → Int32) (f_h0_world_term : Nat → Int32) (h0_world_crew_count : Int32) (f_h0_world_crew_cell : Nat → Int32) (f_h0_world_crew_buckets : Nat → Int32) (h_h0_cell : 0 ≤ h0_cell.toInt ∧ h0_cell.toInt ≤ 39) (h_h0_law_clauses : 0 ≤ h0_law_clauses.toInt ∧ h0_law_clauses.toInt ≤ 12) (h_h0_law_length : 0 ≤ h0_law_length.toInt ∧ h0_law_length.toInt ≤ 400) (h_f_h0_law_code : CD f_h0_law_code) (h_h0_world_folk_listeners : 0 ≤ h0_world_folk_listeners.toInt ∧ h0_world_folk_listeners.toInt ≤ 5) (h_f_h0_world_folk_column : CO f_h0_world_folk_column) (h_f_h0_world_rock_hard : HA f_h0_world_rock_hard) (h_f_h0_world_rock_water : WA f_h0_world_rock_water) (h_f_h0_world_term : TE f_h0_world_term) (h_h0_world_crew_count : 0 ≤ h0_world_crew_count.toInt ∧ h0_world_crew_count.toInt ≤ 6) (h_f_h0_world_crew_cell : CE f_h0_world_crew_cell) (h_f_h0_world_crew_buckets : BU f_h0_world_crew_buckets) (e_0 : n_h0_law_heads < 100000) (e_1 : h0_law_length.toInt ≤ (n_h0_law_code : Int)) {Q : Int32 → (Int32 × (Nat → Int64)) → Prop} (hq : ∀ (r : Int32) (u_0 : Int32) (u_1 : Nat → Int64), True → Q r (u_0, u_1)) : wp_X0_tells_T a b h0_cell h0_shaft h0_kind h0_done h0_latest h0_value h0_law_clauses h0_law_length n_h0_law_heads f_h0_law_heads n_h0_law_code f_h0_law_code f_h0_stack h0_world_folk_listeners f_h0_world_folk_column f_h0_world_rock_hard f_h0_world_rock_water f_h0_world_term h0_world_crew_count f_h0_world_crew_cell f_h0_world_crew_buckets Q := by
  unfold wp_X0_tells_T
  have t3 : (Int32.toInt (h0_law_clauses - 1)) = (Int32.toInt h0_law_clauses) - 1 := sub_z rfl rfl (by omega) (by omega)
  refine sl_X0_tells_T_19 a h0_cell h0_shaft h0_kind h0_done h0_latest h0_law_length n_h0_law_heads (f_h0_law_heads) n_h0_law_code (f_h0_law_code) h0_world_folk_listeners (f_h0_world_folk_column) (f_h0_world_rock_hard) (f_h0_world_rock_water) (f_h0_world_term) h0_world_crew_count (f_h0_world_crew_cell) (f_h0_world_crew_buckets) ⟨by omega, by omega⟩ ⟨by omega, by omega⟩ h_f_h0_law_code ⟨by omega, by omega⟩ h_f_h0_world_folk_column h_f_h0_world_rock_hard h_f_h0_world_rock_water h_f_h0_world_term ⟨by omega, by omega⟩ h_f_h0_world_crew_cell h_f_h0_world_crew_buckets (by omega) (by omega) hq _ (fun x1_0 x1_1 x1_2 X2 => ?_) 1000000000000 (h0_law_clauses - 1) h0_value (f_h0_stack) ⟨by omega, by omega⟩ (by omega)
  have j4 := X2
  exact hq _ _ _ trivial


set_option maxRecDepth 100000 in
theorem s_X0_saysOf_T (a : Int32) (b : Int32) (h0_done : Int32) (h0_latest : Int32) (h0_value : Int32) (h0_law_clauses : Int32) (h0_law_length : Int32) (n_h0_law_heads : Nat) (f_h0_law_heads : Nat → Int32) (n_h0_law_code : Nat) (f_h0_law_code : Nat → Int32) (f_h0_stack : Nat → Int64) (h0_world_folk_listeners : Int32) (f_h0_world_folk_column : Nat → Int32) (f_h0_world_rock_hard : Nat → Int32) (f_h0_world_rock_water : Nat → Int32) (f_h0_world_term : Nat → Int32) (h0_world_crew_count : Int32) (f_h0_world_crew_cell : Nat → Int32) (f_h0_world_crew_buckets : Nat → Int32) (h_a : 0 ≤ a.toInt ∧ a.toInt ≤ 39) (h_h0_law_clauses : 0 ≤ h0_law_clauses.toInt ∧ h0_law_clauses.toInt ≤ 12) (h_h0_law_length : 0 ≤ h0_law_length.toInt ∧ h0_law_length.toInt ≤ 400) (h_f_h0_law_code : CD f_h0_law_code) (h_h0_world_folk_listeners : 0 ≤ h0_world_folk_listeners.toInt ∧ h0_world_folk_listeners.toInt ≤ 5) (h_f_h0_world_folk_column : CO f_h0_world_folk_column) (h_f_h0_world_rock_hard : HA f_h0_world_rock_hard) (h_f_h0_world_rock_water : WA f_h0_world_rock_water) (h_f_h0_world_term : TE f_h0_world_term) (h_h0_world_crew_count : 0 ≤ h0_world_crew_count.toInt ∧ h0_world_crew_count.toInt ≤ 6) (h_f_h0_world_crew_cell : CE f_h0_world_crew_cell) (h_f_h0_world_crew_buckets : BU f_h0_world_crew_buckets) (e_0 : n_h0_law_heads < 100000) (e_1 : h0_law_length.toInt ≤ (n_h0_law_code : Int)) {Q : Int32 → (Int32 × Int32 × Int32 × Int32 × (Nat → Int64)) → Prop} (hq : ∀ (r : Int32) (u_0 : Int32) (u_1 : Int32) (u_2 : Int32) (u_3 : Int32) (u_4 : Nat → Int64), (0 ≤ r.toInt ∧ r.toInt ≤ 99) ∧ (0 ≤ u_0.toInt ∧ u_0.toInt ≤ 39) → Q r (u_0, u_1, u_2, u_3, u_4)) : wp_X0_saysOf_T a b h0_done h0_latest h0_value h0_law_clauses h0_law_length n_h0_law_heads f_h0_law_heads n_h0_law_code f_h0_law_code f_h0_stack h0_world_folk_listeners f_h0_world_folk_column f_h0_world_rock_hard f_h0_world_rock_water f_h0_world_term h0_world_crew_count f_h0_world_crew_cell f_h0_world_crew_buckets Q := by
  unfold wp_X0_saysOf_T
  refine o_X0_askOf_T _ _ _ _ ?_
  refine un3_i ?_
  refine s_X0_tells_T 0 20 a (-1) b h0_done h0_latest h0_value h0_law_clauses h0_law_length n_h0_law_heads (f_h0_law_heads) n_h0_law_code (f_h0_law_code) (f_h0_stack) h0_world_folk_listeners (f_h0_world_folk_column) (f_h0_world_rock_hard) (f_h0_world_rock_water) (f_h0_world_term) h0_world_crew_count (f_h0_world_crew_cell) (f_h0_world_crew_buckets) ⟨by omega, by omega⟩ ⟨by omega, by omega⟩ ⟨by omega, by omega⟩ h_f_h0_law_code ⟨by omega, by omega⟩ h_f_h0_world_folk_column h_f_h0_world_rock_hard h_f_h0_world_rock_water h_f_h0_world_term ⟨by omega, by omega⟩ h_f_h0_world_crew_cell h_f_h0_world_crew_buckets (by omega) (by omega) (fun r1 u2_0 u2_1 H3 => ?_)
  refine un2_i ?_
  refine o_X11_nearest _ _ _ _ ?_
  have t4 := mn_z (a := 99) (b := r1)
  have k5 : Int32.toInt 99 = 99 := rfl
  have t6 := mx_z (a := 0) (b := (if r1 < 99 then r1 else 99))
  have k7 : Int32.toInt 0 = 0 := rfl
  exact hq _ _ _ _ _ _ ⟨⟨by omega, by omega⟩, ⟨by omega, by omega⟩⟩


set_option maxRecDepth 100000 in
theorem s_X0_losesOf_T (a : Int32) (b : Int32) (h0_done : Int32) (h0_latest : Int32) (h0_value : Int32) (h0_law_clauses : Int32) (h0_law_length : Int32) (n_h0_law_heads : Nat) (f_h0_law_heads : Nat → Int32) (n_h0_law_code : Nat) (f_h0_law_code : Nat → Int32) (f_h0_stack : Nat → Int64) (h0_world_folk_listeners : Int32) (f_h0_world_folk_column : Nat → Int32) (f_h0_world_rock_hard : Nat → Int32) (f_h0_world_rock_water : Nat → Int32) (f_h0_world_term : Nat → Int32) (h0_world_crew_count : Int32) (f_h0_world_crew_cell : Nat → Int32) (f_h0_world_crew_buckets : Nat → Int32) (h_a : 0 ≤ a.toInt ∧ a.toInt ≤ 39) (h_h0_law_clauses : 0 ≤ h0_law_clauses.toInt ∧ h0_law_clauses.toInt ≤ 12) (h_h0_law_length : 0 ≤ h0_law_length.toInt ∧ h0_law_length.toInt ≤ 400) (h_f_h0_law_code : CD f_h0_law_code) (h_h0_world_folk_listeners : 0 ≤ h0_world_folk_listeners.toInt ∧ h0_world_folk_listeners.toInt ≤ 5) (h_f_h0_world_folk_column : CO f_h0_world_folk_column) (h_f_h0_world_rock_hard : HA f_h0_world_rock_hard) (h_f_h0_world_rock_water : WA f_h0_world_rock_water) (h_f_h0_world_term : TE f_h0_world_term) (h_h0_world_crew_count : 0 ≤ h0_world_crew_count.toInt ∧ h0_world_crew_count.toInt ≤ 6) (h_f_h0_world_crew_cell : CE f_h0_world_crew_cell) (h_f_h0_world_crew_buckets : BU f_h0_world_crew_buckets) (e_0 : n_h0_law_heads < 100000) (e_1 : h0_law_length.toInt ≤ (n_h0_law_code : Int)) {Q : Int32 → (Int32 × Int32 × Int32 × Int32 × (Nat → Int64)) → Prop} (hq : ∀ (r : Int32) (u_0 : Int32) (u_1 : Int32) (u_2 : Int32) (u_3 : Int32) (u_4 : Nat → Int64), (0 ≤ r.toInt ∧ r.toInt ≤ 9) ∧ (0 ≤ u_0.toInt ∧ u_0.toInt ≤ 39) → Q r (u_0, u_1, u_2, u_3, u_4)) : wp_X0_losesOf_T a b h0_done h0_latest h0_value h0_law_clauses h0_law_length n_h0_law_heads f_h0_law_heads n_h0_law_code f_h0_law_code f_h0_stack h0_world_folk_listeners f_h0_world_folk_column f_h0_world_rock_hard f_h0_world_rock_water f_h0_world_term h0_world_crew_count f_h0_world_crew_cell f_h0_world_crew_buckets Q := by
  unfold wp_X0_losesOf_T
  refine o_X0_askOf_T _ _ _ _ ?_
  refine un3_i ?_
  refine s_X0_tells_T 1 2 a (-1) b h0_done h0_latest h0_value h0_law_clauses h0_law_length n_h0_law_heads (f_h0_law_heads) n_h0_law_code (f_h0_law_code) (f_h0_stack) h0_world_folk_listeners (f_h0_world_folk_column) (f_h0_world_rock_hard) (f_h0_world_rock_water) (f_h0_world_term) h0_world_crew_count (f_h0_world_crew_cell) (f_h0_world_crew_buckets) ⟨by omega, by omega⟩ ⟨by omega, by omega⟩ ⟨by omega, by omega⟩ h_f_h0_law_code ⟨by omega, by omega⟩ h_f_h0_world_folk_column h_f_h0_world_rock_hard h_f_h0_world_rock_water h_f_h0_world_term ⟨by omega, by omega⟩ h_f_h0_world_crew_cell h_f_h0_world_crew_buckets (by omega) (by omega) (fun r1 u2_0 u2_1 H3 => ?_)
  refine un2_i ?_
  refine o_X11_nearest _ _ _ _ ?_
  have t4 := mn_z (a := 9) (b := r1)
  have k5 : Int32.toInt 9 = 9 := rfl
  have t6 := mx_z (a := 0) (b := (if r1 < 9 then r1 else 9))
  have k7 : Int32.toInt 0 = 0 := rfl
  exact hq _ _ _ _ _ _ ⟨⟨by omega, by omega⟩, ⟨by omega, by omega⟩⟩


set_option maxRecDepth 100000 in
theorem s_X0_digsOf_T (a : Int32) (b : Int32) (h0_done : Int32) (h0_latest : Int32) (h0_value : Int32) (f_h0_world_rock_kind : Nat → Int32) (f_h0_world_rock_hard : Nat → Int32) (h0_law_clauses : Int32) (h0_law_length : Int32) (n_h0_law_heads : Nat) (f_h0_law_heads : Nat → Int32) (n_h0_law_code : Nat) (f_h0_law_code : Nat → Int32) (f_h0_stack : Nat → Int64) (h0_world_folk_listeners : Int32) (f_h0_world_folk_column : Nat → Int32) (f_h0_world_rock_water : Nat → Int32) (f_h0_world_term : Nat → Int32) (h0_world_crew_count : Int32) (f_h0_world_crew_cell : Nat → Int32) (f_h0_world_crew_buckets : Nat → Int32) (h_b : 0 ≤ b.toInt ∧ b.toInt ≤ 39) (h_f_h0_world_rock_kind : KI f_h0_world_rock_kind) (h_f_h0_world_rock_hard : HA f_h0_world_rock_hard) (h_h0_law_clauses : 0 ≤ h0_law_clauses.toInt ∧ h0_law_clauses.toInt ≤ 12) (h_h0_law_length : 0 ≤ h0_law_length.toInt ∧ h0_law_length.toInt ≤ 400) (h_f_h0_law_code : CD f_h0_law_code) (h_h0_world_folk_listeners : 0 ≤ h0_world_folk_listeners.toInt ∧ h0_world_folk_listeners.toInt ≤ 5) (h_f_h0_world_folk_column : CO f_h0_world_folk_column) (h_f_h0_world_rock_water : WA f_h0_world_rock_water) (h_f_h0_world_term : TE f_h0_world_term) (h_h0_world_crew_count : 0 ≤ h0_world_crew_count.toInt ∧ h0_world_crew_count.toInt ≤ 6) (h_f_h0_world_crew_cell : CE f_h0_world_crew_cell) (h_f_h0_world_crew_buckets : BU f_h0_world_crew_buckets) (e_0 : n_h0_law_heads < 100000) (e_1 : h0_law_length.toInt ≤ (n_h0_law_code : Int)) {Q : Int32 → (Int32 × Int32 × Int32 × Int32 × (Nat → Int64)) → Prop} (hq : ∀ (r : Int32) (u_0 : Int32) (u_1 : Int32) (u_2 : Int32) (u_3 : Int32) (u_4 : Nat → Int64), (1 ≤ r.toInt ∧ r.toInt ≤ 99) ∧ (0 ≤ u_0.toInt ∧ u_0.toInt ≤ 39) → Q r (u_0, u_1, u_2, u_3, u_4)) : wp_X0_digsOf_T a b h0_done h0_latest h0_value f_h0_world_rock_kind f_h0_world_rock_hard h0_law_clauses h0_law_length n_h0_law_heads f_h0_law_heads n_h0_law_code f_h0_law_code f_h0_stack h0_world_folk_listeners f_h0_world_folk_column f_h0_world_rock_water f_h0_world_term h0_world_crew_count f_h0_world_crew_cell f_h0_world_crew_buckets Q := by
  unfold wp_X0_digsOf_T
  refine ⟨vpi (x := (Int32.toInt b)) rfl (by omega) (by omega), ?_⟩
  refine o_X0_askOf_T _ _ _ _ ?_
  refine un3_i ?_
  refine ⟨vpi (x := (Int32.toInt b)) rfl (by omega) (by omega), ?_⟩
  refine s_X0_tells_T 2 (f_h0_world_rock_hard b.toNatClampNeg) b a (f_h0_world_rock_kind b.toNatClampNeg) h0_done h0_latest h0_value h0_law_clauses h0_law_length n_h0_law_heads (f_h0_law_heads) n_h0_law_code (f_h0_law_code) (f_h0_stack) h0_world_folk_listeners (f_h0_world_folk_column) (f_h0_world_rock_hard) (f_h0_world_rock_water) (f_h0_world_term) h0_world_crew_count (f_h0_world_crew_cell) (f_h0_world_crew_buckets) ⟨by omega, by omega⟩ ⟨by omega, by omega⟩ ⟨by omega, by omega⟩ h_f_h0_law_code ⟨by omega, by omega⟩ h_f_h0_world_folk_column h_f_h0_world_rock_hard h_f_h0_world_rock_water h_f_h0_world_term ⟨by omega, by omega⟩ h_f_h0_world_crew_cell h_f_h0_world_crew_buckets (by omega) (by omega) (fun r1 u2_0 u2_1 H3 => ?_)
  refine un2_i ?_
  refine o_X11_nearest _ _ _ _ ?_
  have t4 := mn_z (a := 99) (b := r1)
  have k5 : Int32.toInt 99 = 99 := rfl
  have t6 := mx_z (a := 1) (b := (if r1 < 99 then r1 else 99))
  have k7 : Int32.toInt 1 = 1 := rfl
  have g8 : 0 ≤ (Int32.toInt (f_h0_world_rock_kind b.toNatClampNeg)) ∧ (Int32.toInt (f_h0_world_rock_kind b.toNatClampNeg)) ≤ 3 := KI.at_0 h_f_h0_world_rock_kind (tnz (x := (Int32.toInt b)) rfl (by omega)) (by omega) (by omega)
  exact hq _ _ _ _ _ _ ⟨⟨by omega, by omega⟩, ⟨by omega, by omega⟩⟩


set_option maxRecDepth 100000 in
theorem s_X0_givesOf_T (a : Int32) (b : Int32) (h0_done : Int32) (h0_latest : Int32) (h0_value : Int32) (f_h0_world_rock_kind : Nat → Int32) (h0_law_clauses : Int32) (h0_law_length : Int32) (n_h0_law_heads : Nat) (f_h0_law_heads : Nat → Int32) (n_h0_law_code : Nat) (f_h0_law_code : Nat → Int32) (f_h0_stack : Nat → Int64) (h0_world_folk_listeners : Int32) (f_h0_world_folk_column : Nat → Int32) (f_h0_world_rock_hard : Nat → Int32) (f_h0_world_rock_water : Nat → Int32) (f_h0_world_term : Nat → Int32) (h0_world_crew_count : Int32) (f_h0_world_crew_cell : Nat → Int32) (f_h0_world_crew_buckets : Nat → Int32) (h_b : 0 ≤ b.toInt ∧ b.toInt ≤ 39) (h_f_h0_world_rock_kind : KI f_h0_world_rock_kind) (h_h0_law_clauses : 0 ≤ h0_law_clauses.toInt ∧ h0_law_clauses.toInt ≤ 12) (h_h0_law_length : 0 ≤ h0_law_length.toInt ∧ h0_law_length.toInt ≤ 400) (h_f_h0_law_code : CD f_h0_law_code) (h_h0_world_folk_listeners : 0 ≤ h0_world_folk_listeners.toInt ∧ h0_world_folk_listeners.toInt ≤ 5) (h_f_h0_world_folk_column : CO f_h0_world_folk_column) (h_f_h0_world_rock_hard : HA f_h0_world_rock_hard) (h_f_h0_world_rock_water : WA f_h0_world_rock_water) (h_f_h0_world_term : TE f_h0_world_term) (h_h0_world_crew_count : 0 ≤ h0_world_crew_count.toInt ∧ h0_world_crew_count.toInt ≤ 6) (h_f_h0_world_crew_cell : CE f_h0_world_crew_cell) (h_f_h0_world_crew_buckets : BU f_h0_world_crew_buckets) (e_0 : n_h0_law_heads < 100000) (e_1 : h0_law_length.toInt ≤ (n_h0_law_code : Int)) {Q : Int32 → (Int32 × Int32 × Int32 × Int32 × (Nat → Int64)) → Prop} (hq : ∀ (r : Int32) (u_0 : Int32) (u_1 : Int32) (u_2 : Int32) (u_3 : Int32) (u_4 : Nat → Int64), (0 ≤ r.toInt ∧ r.toInt ≤ 99) ∧ (0 ≤ u_0.toInt ∧ u_0.toInt ≤ 39) → Q r (u_0, u_1, u_2, u_3, u_4)) : wp_X0_givesOf_T a b h0_done h0_latest h0_value f_h0_world_rock_kind h0_law_clauses h0_law_length n_h0_law_heads f_h0_law_heads n_h0_law_code f_h0_law_code f_h0_stack h0_world_folk_listeners f_h0_world_folk_column f_h0_world_rock_hard f_h0_world_rock_water f_h0_world_term h0_world_crew_count f_h0_world_crew_cell f_h0_world_crew_buckets Q := by
  unfold wp_X0_givesOf_T
  refine ⟨vpi (x := (Int32.toInt b)) rfl (by omega) (by omega), ?_⟩
  refine o_X0_askOf_T _ _ _ _ ?_
  refine un3_i ?_
  refine s_X0_tells_T 3 5 b a (f_h0_world_rock_kind b.toNatClampNeg) h0_done h0_latest h0_value h0_law_clauses h0_law_length n_h0_law_heads (f_h0_law_heads) n_h0_law_code (f_h0_law_code) (f_h0_stack) h0_world_folk_listeners (f_h0_world_folk_column) (f_h0_world_rock_hard) (f_h0_world_rock_water) (f_h0_world_term) h0_world_crew_count (f_h0_world_crew_cell) (f_h0_world_crew_buckets) ⟨by omega, by omega⟩ ⟨by omega, by omega⟩ ⟨by omega, by omega⟩ h_f_h0_law_code ⟨by omega, by omega⟩ h_f_h0_world_folk_column h_f_h0_world_rock_hard h_f_h0_world_rock_water h_f_h0_world_term ⟨by omega, by omega⟩ h_f_h0_world_crew_cell h_f_h0_world_crew_buckets (by omega) (by omega) (fun r1 u2_0 u2_1 H3 => ?_)
  refine un2_i ?_
  refine o_X11_nearest _ _ _ _ ?_
  refine ⟨vpi (x := (Int32.toInt b)) rfl (by omega) (by omega), ?_⟩
  have t4 := mn_z (a := 99) (b := r1)
  have k5 : Int32.toInt 99 = 99 := rfl
  have t6 := mx_z (a := 0) (b := (if r1 < 99 then r1 else 99))
  have k7 : Int32.toInt 0 = 0 := rfl
  have g8 : 0 ≤ (Int32.toInt (f_h0_world_rock_water b.toNatClampNeg)) ∧ (Int32.toInt (f_h0_world_rock_water b.toNatClampNeg)) ≤ 99 := WA.at_0 h_f_h0_world_rock_water (tnz (x := (Int32.toInt b)) rfl (by omega)) (by omega) (by omega)
  have t9 := mn_z (a := (if 0 < (if r1 < 99 then r1 else 99) then (if r1 < 99 then r1 else 99) else 0)) (b := (f_h0_world_rock_water b.toNatClampNeg))
  have g10 : 0 ≤ (Int32.toInt (f_h0_world_rock_kind b.toNatClampNeg)) ∧ (Int32.toInt (f_h0_world_rock_kind b.toNatClampNeg)) ≤ 3 := KI.at_0 h_f_h0_world_rock_kind (tnz (x := (Int32.toInt b)) rfl (by omega)) (by omega) (by omega)
  exact hq _ _ _ _ _ _ ⟨⟨by omega, by omega⟩, ⟨by omega, by omega⟩⟩


set_option maxRecDepth 100000 in
theorem s_X0_passesOf_T (a : Int32) (b : Int32) (h0_cell : Int32) (h0_shaft : Int32) (h0_kind : Int32) (h0_done : Int32) (h0_latest : Int32) (h0_value : Int32) (f_h0_world_rock_kind : Nat → Int32) (h0_law_clauses : Int32) (h0_law_length : Int32) (n_h0_law_heads : Nat) (f_h0_law_heads : Nat → Int32) (n_h0_law_code : Nat) (f_h0_law_code : Nat → Int32) (f_h0_stack : Nat → Int64) (h0_world_folk_listeners : Int32) (f_h0_world_folk_column : Nat → Int32) (f_h0_world_rock_hard : Nat → Int32) (f_h0_world_rock_water : Nat → Int32) (f_h0_world_term : Nat → Int32) (h0_world_crew_count : Int32) (f_h0_world_crew_cell : Nat → Int32) (f_h0_world_crew_buckets : Nat → Int32) (h_b : 0 ≤ b.toInt ∧ b.toInt ≤ 39) (h_h0_cell : 0 ≤ h0_cell.toInt ∧ h0_cell.toInt ≤ 39) (h_f_h0_world_rock_kind : KI f_h0_world_rock_kind) (h_h0_law_clauses : 0 ≤ h0_law_clauses.toInt ∧ h0_law_clauses.toInt ≤ 12) (h_h0_law_length : 0 ≤ h0_law_length.toInt ∧ h0_law_length.toInt ≤ 400) (h_f_h0_law_code : CD f_h0_law_code) (h_h0_world_folk_listeners : 0 ≤ h0_world_folk_listeners.toInt ∧ h0_world_folk_listeners.toInt ≤ 5) (h_f_h0_world_folk_column : CO f_h0_world_folk_column) (h_f_h0_world_rock_hard : HA f_h0_world_rock_hard) (h_f_h0_world_rock_water : WA f_h0_world_rock_water) (h_f_h0_world_term : TE f_h0_world_term) (h_h0_world_crew_count : 0 ≤ h0_world_crew_count.toInt ∧ h0_world_crew_count.toInt ≤ 6) (h_f_h0_world_crew_cell : CE f_h0_world_crew_cell) (h_f_h0_world_crew_buckets : BU f_h0_world_crew_buckets) (e_0 : n_h0_law_heads < 100000) (e_1 : h0_law_length.toInt ≤ (n_h0_law_code : Int)) {Q : Int32 → (Int32 × Int32 × Int32 × Int32 × (Nat → Int64)) → Prop} (hq : ∀ (r : Int32) (u_0 : Int32) (u_1 : Int32) (u_2 : Int32) (u_3 : Int32) (u_4 : Nat → Int64), (0 ≤ r.toInt ∧ r.toInt ≤ 1) ∧ (0 ≤ u_0.toInt ∧ u_0.toInt ≤ 39) → Q r (u_0, u_1, u_2, u_3, u_4)) : wp_X0_passesOf_T a b h0_cell h0_shaft h0_kind h0_done h0_latest h0_value f_h0_world_rock_kind h0_law_clauses h0_law_length n_h0_law_heads f_h0_law_heads n_h0_law_code f_h0_law_code f_h0_stack h0_world_folk_listeners f_h0_world_folk_column f_h0_world_rock_hard f_h0_world_rock_water f_h0_world_term h0_world_crew_count f_h0_world_crew_cell f_h0_world_crew_buckets Q := by
  unfold wp_X0_passesOf_T
  refine ⟨vpi (x := (Int32.toInt b)) rfl (by omega) (by omega), ?_⟩
  by_cases c1 : (f_h0_world_rock_kind b.toNatClampNeg) = 1
  · refine br1 c1 ?_
    have g2 : 0 ≤ (Int32.toInt (f_h0_world_rock_kind b.toNatClampNeg)) ∧ (Int32.toInt (f_h0_world_rock_kind b.toNatClampNeg)) ≤ 3 := KI.at_0 h_f_h0_world_rock_kind (tnz (x := (Int32.toInt b)) rfl (by omega)) (by omega) (by omega)
    have d3 := eq_z (a := (f_h0_world_rock_kind b.toNatClampNeg)) (b := 1) (x := (Int32.toInt (f_h0_world_rock_kind b.toNatClampNeg))) (y := 1) rfl rfl c1
    refine o_X0_askOf_T _ _ _ _ ?_
    refine un3_i ?_
    refine s_X0_tells_T 4 0 b a 1 h0_done h0_latest h0_value h0_law_clauses h0_law_length n_h0_law_heads (f_h0_law_heads) n_h0_law_code (f_h0_law_code) (f_h0_stack) h0_world_folk_listeners (f_h0_world_folk_column) (f_h0_world_rock_hard) (f_h0_world_rock_water) (f_h0_world_term) h0_world_crew_count (f_h0_world_crew_cell) (f_h0_world_crew_buckets) ⟨by omega, by omega⟩ ⟨by omega, by omega⟩ ⟨by omega, by omega⟩ h_f_h0_law_code ⟨by omega, by omega⟩ h_f_h0_world_folk_column h_f_h0_world_rock_hard h_f_h0_world_rock_water h_f_h0_world_term ⟨by omega, by omega⟩ h_f_h0_world_crew_cell h_f_h0_world_crew_buckets (by omega) (by omega) (fun r4 u5_0 u5_1 H6 => ?_)
    refine un2_i ?_
    by_cases c7 : r4 = 1
    · refine br1 c7 ?_
      have d8 := eq_z (a := r4) (b := 1) (x := (Int32.toInt r4)) (y := 1) rfl rfl c7
      exact hq _ _ _ _ _ _ ⟨(by decide), ⟨by omega, by omega⟩⟩
    · refine br0 c7 ?_
      have d9 := ne_z (a := r4) (b := 1) (x := (Int32.toInt r4)) (y := 1) rfl rfl c7
      exact hq _ _ _ _ _ _ ⟨(by decide), ⟨by omega, by omega⟩⟩
  · refine br0 c1 ?_
    have g10 : 0 ≤ (Int32.toInt (f_h0_world_rock_kind b.toNatClampNeg)) ∧ (Int32.toInt (f_h0_world_rock_kind b.toNatClampNeg)) ≤ 3 := KI.at_0 h_f_h0_world_rock_kind (tnz (x := (Int32.toInt b)) rfl (by omega)) (by omega) (by omega)
    have d11 := ne_z (a := (f_h0_world_rock_kind b.toNatClampNeg)) (b := 1) (x := (Int32.toInt (f_h0_world_rock_kind b.toNatClampNeg))) (y := 1) rfl rfl c1
    exact hq _ _ _ _ _ _ ⟨(by decide), ⟨by omega, by omega⟩⟩

