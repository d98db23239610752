set_option maxRecDepth 100000 in
theorem sl_X5_splitIntoTokens_9 (h0_length : Int32) (f_h0_bytes : Nat → Int32) (xe : XE) (h_h0_length : 0 ≤ h0_length.toInt ∧ h0_length.toInt ≤ 400) (h_f_h0_bytes : BY f_h0_bytes) (hxe : isRf xe.2.2) (Qb : Int32 → Int32 → Int32 → (Nat → Int32) → (Nat → Int32) → Prop) (KX : ∀ (x_9_0 : Int32) (x_9_1 : Int32) (x_9_2 : Int32) (x_9_3 : Nat → Int32) (x_9_4 : Nat → Int32), (0 ≤ x_9_0.toInt ∧ x_9_0.toInt ≤ 400) ∧ (0 ≤ x_9_1.toInt ∧ x_9_1.toInt ≤ 400) ∧ (0 ≤ x_9_2.toInt ∧ x_9_2.toInt ≤ 401) → Qb x_9_0 x_9_1 x_9_2 x_9_3 x_9_4) : ∀ (n : Nat) (x_9_0 : Int32) (x_9_1 : Int32) (x_9_2 : Int32) (x_9_3 : Nat → Int32) (x_9_4 : Nat → Int32), (0 ≤ x_9_0.toInt ∧ x_9_0.toInt ≤ 400) ∧ (0 ≤ x_9_1.toInt ∧ x_9_1.toInt ≤ 400) ∧ (0 ≤ x_9_2.toInt ∧ x_9_2.toInt ≤ 401) → 401 - x_9_0.toInt < (n : Int) → wl_X5_splitIntoTokens_9 h0_length f_h0_bytes xe Qb n x_9_0 x_9_1 x_9_2 x_9_3 x_9_4 := by
  intro n
  induction n with
  | zero =>
    intro x_9_0 x_9_1 x_9_2 x_9_3 x_9_4 hI hm
    exfalso; have hm : 401 - x_9_0.toInt < 0 := hm; omega
  | succ n ih =>
    intro x_9_0 x_9_1 x_9_2 x_9_3 x_9_4 hI hm
    have hm : 401 - x_9_0.toInt < (n : Int) + 1 := by simpa using hm
    have h_x_9_0 := hI.1
    have h_x_9_1 := hI.2.1
    have h_x_9_2 := hI.2.2
    unfold wl_X5_splitIntoTokens_9
    by_cases c1 : 400 ≤ x_9_0
    · refine br1 c1 ?_
      have d2 := le_z (a := 400) (b := x_9_0) (x := 400) (y := (Int32.toInt x_9_0)) rfl rfl c1
      exact KX _ _ _ _ _ ⟨⟨by omega, by omega⟩, ⟨by omega, by omega⟩, ⟨by omega, by omega⟩⟩
    · refine br0 c1 ?_
      have d3 := nle_z (a := 400) (b := x_9_0) (x := 400) (y := (Int32.toInt x_9_0)) rfl rfl c1
      by_cases c4 : h0_length ≤ x_9_1
      · refine br1 c4 ?_
        have d5 := le_z (a := h0_length) (b := x_9_1) (x := (Int32.toInt h0_length)) (y := (Int32.toInt x_9_1)) rfl rfl c4
        exact KX _ _ _ _ _ ⟨⟨by omega, by omega⟩, ⟨by omega, by omega⟩, ⟨by omega, by omega⟩⟩
      · refine br0 c4 ?_
        have d6 := nle_z (a := h0_length) (b := x_9_1) (x := (Int32.toInt h0_length)) (y := (Int32.toInt x_9_1)) rfl rfl c4
        refine ⟨vpi (x := (Int32.toInt x_9_1)) rfl (by omega) (by omega), ?_⟩
        refine jn_s ?_
        by_cases c7 : (f_h0_bytes x_9_1.toNatClampNeg) < 97
        · refine br1 c7 ?_
          have g8 : 0 ≤ (Int32.toInt (f_h0_bytes x_9_1.toNatClampNeg)) ∧ (Int32.toInt (f_h0_bytes x_9_1.toNatClampNeg)) ≤ 255 := BY.at_0 h_f_h0_bytes (tnz (x := (Int32.toInt x_9_1)) rfl (by omega)) (by omega) (by omega)
          have d9 := lt_z (a := (f_h0_bytes x_9_1.toNatClampNeg)) (b := 97) (x := (Int32.toInt (f_h0_bytes x_9_1.toNatClampNeg))) (y := 97) rfl rfl c7
          refine jn_s ?_
          by_cases c10 : (f_h0_bytes x_9_1.toNatClampNeg) < 48
          · refine br1 c10 ?_
            have d11 := lt_z (a := (f_h0_bytes x_9_1.toNatClampNeg)) (b := 48) (x := (Int32.toInt (f_h0_bytes x_9_1.toNatClampNeg))) (y := 48) rfl rfl c10
            by_cases c12 : (f_h0_bytes x_9_1.toNatClampNeg) = 32
            · refine br1 c12 ?_
              have d13 := eq_z (a := (f_h0_bytes x_9_1.toNatClampNeg)) (b := 32) (x := (Int32.toInt (f_h0_bytes x_9_1.toNatClampNeg))) (y := 32) rfl rfl c12
              have t14 : (Int32.toInt (x_9_0 + 1)) = (Int32.toInt x_9_0) + 1 := add_z rfl rfl (by omega) (by omega)
              have t15 : (Int32.toInt (x_9_1 + 1)) = (Int32.toInt x_9_1) + 1 := add_z rfl rfl (by omega) (by omega)
              exact ih _ _ _ _ _ ⟨⟨by omega, by omega⟩, ⟨by omega, by omega⟩, ⟨by omega, by omega⟩⟩ (by omega)
            · refine br0 c12 ?_
              have d16 := ne_z (a := (f_h0_bytes x_9_1.toNatClampNeg)) (b := 32) (x := (Int32.toInt (f_h0_bytes x_9_1.toNatClampNeg))) (y := 32) rfl rfl c12
              refine s_X5_addToken (100 + (f_h0_bytes x_9_1.toNatClampNeg)) x_9_1 x_9_2 (x_9_3) (x_9_4) ⟨by omega, by omega⟩ (fun u17_0 u17_1 u17_2 H18 => ?_)
              have j19 := H18
              refine un3_i ?_
              have t20 : (Int32.toInt (x_9_0 + 1)) = (Int32.toInt x_9_0) + 1 := add_z rfl rfl (by omega) (by omega)
              have t21 : (Int32.toInt (x_9_1 + 1)) = (Int32.toInt x_9_1) + 1 := add_z rfl rfl (by omega) (by omega)
              exact ih _ _ _ _ _ ⟨⟨by omega, by omega⟩, ⟨by omega, by omega⟩, ⟨by omega, by omega⟩⟩ (by omega)
          · refine br0 c10 ?_
            have d22 := nlt_z (a := (f_h0_bytes x_9_1.toNatClampNeg)) (b := 48) (x := (Int32.toInt (f_h0_bytes x_9_1.toNatClampNeg))) (y := 48) rfl rfl c10
            by_cases c23 : 57 < (f_h0_bytes x_9_1.toNatClampNeg)
            · refine br1 c23 ?_
              have d24 := lt_z (a := 57) (b := (f_h0_bytes x_9_1.toNatClampNeg)) (x := 57) (y := (Int32.toInt (f_h0_bytes x_9_1.toNatClampNeg))) rfl rfl c23
              refine br0 (z_ne (x := (Int32.toInt (f_h0_bytes x_9_1.toNatClampNeg))) (y := 32) rfl rfl (by omega)) ?_
              refine s_X5_addToken (100 + (f_h0_bytes x_9_1.toNatClampNeg)) x_9_1 x_9_2 (x_9_3) (x_9_4) ⟨by omega, by omega⟩ (fun u25_0 u25_1 u25_2 H26 => ?_)
              have j27 := H26
              refine un3_i ?_
              have t28 : (Int32.toInt (x_9_0 + 1)) = (Int32.toInt x_9_0) + 1 := add_z rfl rfl (by omega) (by omega)
              have t29 : (Int32.toInt (x_9_1 + 1)) = (Int32.toInt x_9_1) + 1 := add_z rfl rfl (by omega) (by omega)
              exact ih _ _ _ _ _ ⟨⟨by omega, by omega⟩, ⟨by omega, by omega⟩, ⟨by omega, by omega⟩⟩ (by omega)
            · refine br0 c23 ?_
              have d30 := nlt_z (a := 57) (b := (f_h0_bytes x_9_1.toNatClampNeg)) (x := 57) (y := (Int32.toInt (f_h0_bytes x_9_1.toNatClampNeg))) rfl rfl c23
              refine s_X5_endOfRow x_9_1 48 57 h0_length (f_h0_bytes) ⟨by omega, by omega⟩ ⟨by omega, by omega⟩ h_f_h0_bytes (fun r31 H32 => ?_)
              have j33 := H32.1
              have j34 := H32.2
              refine s_X5_numberIn x_9_1 r31 (f_h0_bytes) ⟨by omega, by omega⟩ ⟨by omega, by omega⟩ h_f_h0_bytes (fun r35 H36 => ?_)
              refine s_X5_addToken (1000 + r35) x_9_1 x_9_2 (x_9_3) (x_9_4) ⟨by omega, by omega⟩ (fun u37_0 u37_1 u37_2 H38 => ?_)
              have j39 := H38
              refine un3_i ?_
              have t40 : (Int32.toInt (x_9_0 + 1)) = (Int32.toInt x_9_0) + 1 := add_z rfl rfl (by omega) (by omega)
              exact ih _ _ _ _ _ ⟨⟨by omega, by omega⟩, ⟨by omega, by omega⟩, ⟨by omega, by omega⟩⟩ (by omega)
        · refine br0 c7 ?_
          have g41 : 0 ≤ (Int32.toInt (f_h0_bytes x_9_1.toNatClampNeg)) ∧ (Int32.toInt (f_h0_bytes x_9_1.toNatClampNeg)) ≤ 255 := BY.at_0 h_f_h0_bytes (tnz (x := (Int32.toInt x_9_1)) rfl (by omega)) (by omega) (by omega)
          have d42 := nlt_z (a := (f_h0_bytes x_9_1.toNatClampNeg)) (b := 97) (x := (Int32.toInt (f_h0_bytes x_9_1.toNatClampNeg))) (y := 97) rfl rfl c7
          by_cases c43 : 122 < (f_h0_bytes x_9_1.toNatClampNeg)
          · refine br1 c43 ?_
            have d44 := lt_z (a := 122) (b := (f_h0_bytes x_9_1.toNatClampNeg)) (x := 122) (y := (Int32.toInt (f_h0_bytes x_9_1.toNatClampNeg))) rfl rfl c43
            refine jn_s ?_
            refine br0 (z_nlt (x := (Int32.toInt (f_h0_bytes x_9_1.toNatClampNeg))) (y := 48) rfl rfl (by omega)) ?_
            refine br1 (z_lt (x := 57) (y := (Int32.toInt (f_h0_bytes x_9_1.toNatClampNeg))) rfl rfl (by omega)) ?_
            refine br0 (z_ne (x := (Int32.toInt (f_h0_bytes x_9_1.toNatClampNeg))) (y := 32) rfl rfl (by omega)) ?_
            refine s_X5_addToken (100 + (f_h0_bytes x_9_1.toNatClampNeg)) x_9_1 x_9_2 (x_9_3) (x_9_4) ⟨by omega, by omega⟩ (fun u45_0 u45_1 u45_2 H46 => ?_)
            have j47 := H46
            refine un3_i ?_
            have t48 : (Int32.toInt (x_9_0 + 1)) = (Int32.toInt x_9_0) + 1 := add_z rfl rfl (by omega) (by omega)
            have t49 : (Int32.toInt (x_9_1 + 1)) = (Int32.toInt x_9_1) + 1 := add_z rfl rfl (by omega) (by omega)
            exact ih _ _ _ _ _ ⟨⟨by omega, by omega⟩, ⟨by omega, by omega⟩, ⟨by omega, by omega⟩⟩ (by omega)
          · refine br0 c43 ?_
            have d50 := nlt_z (a := 122) (b := (f_h0_bytes x_9_1.toNatClampNeg)) (x := 122) (y := (Int32.toInt (f_h0_bytes x_9_1.toNatClampNeg))) rfl rfl c43
            refine s_X5_endOfRow x_9_1 97 122 h0_length (f_h0_bytes) ⟨by omega, by omega⟩ ⟨by omega, by omega⟩ h_f_h0_bytes (fun r51 H52 => ?_)
            have j53 := H52.1
            have j54 := H52.2
            refine s_X5_wordIn x_9_1 r51 (f_h0_bytes) xe ⟨by omega, by omega⟩ ⟨by omega, by omega⟩ h_f_h0_bytes hxe (by omega) (fun r55 H56 => ?_)
            refine s_X5_addToken r55 x_9_1 x_9_2 (x_9_3) (x_9_4) ⟨by omega, by omega⟩ (fun u57_0 u57_1 u57_2 H58 => ?_)
            have j59 := H58
            refine un3_i ?_
            have t60 : (Int32.toInt (x_9_0 + 1)) = (Int32.toInt x_9_0) + 1 := add_z rfl rfl (by omega) (by omega)
            exact ih _ _ _ _ _ ⟨⟨by omega, by omega⟩, ⟨by omega, by omega⟩, ⟨by omega, by omega⟩⟩ (by omega)
set_option maxRecDepth 100000 in
theorem s_X5_splitIntoTokens (h0_length : Int32) (f_h0_bytes : Nat → Int32) (f_h0_tokens : Nat → Int32) (f_h0_places : Nat → Int32) (xe : XE) (h_h0_length : 0 ≤ h0_length.toInt ∧ h0_length.toInt ≤ 400) (h_f_h0_bytes : BY f_h0_bytes) (e_0 : isRf xe.2.2) {Q : (Int32 × (Nat → Int32) × (Nat → Int32)) → Prop} (hq : ∀ (u_0 : Int32) (u_1 : Nat → Int32) (u_2 : Nat → Int32), (0 ≤ u_0.toInt ∧ u_0.toInt ≤ 401) → Q (u_0, u_1, u_2)) : wp_X5_splitIntoTokens h0_length f_h0_bytes f_h0_tokens f_h0_places xe Q := by
  unfold wp_X5_splitIntoTokens
  have k3 : Int32.toInt 0 = 0 := rfl
  refine sl_X5_splitIntoTokens_9 h0_length (f_h0_bytes) xe ⟨by omega, by omega⟩ h_f_h0_bytes e_0 _ (fun x1_0 x1_1 x1_2 x1_3 x1_4 X2 => ?_) 1000000000000 0 0 0 (f_h0_tokens) (f_h0_places) ⟨(by decide), (by decide), (by decide)⟩ (by omega)
  have j4 := X2.1
  have j5 := X2.2.1
  have j6 := X2.2.2
  refine s_X5_addToken 31 h0_length x1_2 (x1_3) (x1_4) ⟨by omega, by omega⟩ (fun u7_0 u7_1 u7_2 H8 => ?_)
  have j9 := H8
  refine un3_i ?_
  exact hq _ _ _ ⟨by omega, by omega⟩


set_option maxRecDepth 100000 in
theorem s_X5_readPart (wS : Int32 → Int32 → Int32 → Int32 → Int32 → Int32 → Int32 → (Nat → Int32) → Int32 → Int32 → (Nat → Int32) → (Int32 → (Int32 × Int32 × Int32 × (Nat → Int32)) → Prop) → Prop) (a : Int32) (h0_length : Int32) (h0_tokenCount : Int32) (h0_now : Int32) (h0_parts : Int32) (h0_asOrders : Int32) (h0_faultPlace : Int32) (f_h0_tokens : Nat → Int32) (h0_draft_clauses : Int32) (h0_draft_length : Int32) (f_h0_draft_code : Nat → Int32) (lv : Int) (hS : ∀ (a : Int32) (h0_length : Int32) (h0_tokenCount : Int32) (h0_now : Int32) (h0_parts : Int32) (h0_asOrders : Int32) (h0_faultPlace : Int32) (f_h0_tokens : Nat → Int32) (h0_draft_clauses : Int32) (h0_draft_length : Int32) (f_h0_draft_code : Nat → Int32), (0 ≤ a.toInt ∧ a.toInt ≤ 8) → (0 ≤ h0_length.toInt ∧ h0_length.toInt ≤ 400) → (0 ≤ h0_tokenCount.toInt ∧ h0_tokenCount.toInt ≤ 401) → (0 ≤ h0_asOrders.toInt ∧ h0_asOrders.toInt ≤ 1) → (0 ≤ h0_draft_clauses.toInt ∧ h0_draft_clauses.toInt ≤ 12) → (0 ≤ h0_draft_length.toInt ∧ h0_draft_length.toInt ≤ 400) → (CD f_h0_draft_code) → (lv + 1 ≤ a.toInt) → ∀ {Q : Int32 → (Int32 × Int32 × Int32 × (Nat → Int32)) → Prop}, (∀ (r : Int32) (u_0 : Int32) (u_1 : Int32) (u_2 : Int32) (u_3 : Nat → Int32), (0 ≤ u_2.toInt ∧ u_2.toInt ≤ 400) ∧ (CD u_3) → Q r (u_0, u_1, u_2, u_3)) → wS a h0_length h0_tokenCount h0_now h0_parts h0_asOrders h0_faultPlace f_h0_tokens h0_draft_clauses h0_draft_length f_h0_draft_code Q) (h_a : 0 ≤ a.toInt ∧ a.toInt ≤ 8) (h_h0_length : 0 ≤ h0_length.toInt ∧ h0_length.toInt ≤ 400) (h_h0_tokenCount : 0 ≤ h0_tokenCount.toInt ∧ h0_tokenCount.toInt ≤ 401) (h_h0_asOrders : 0 ≤ h0_asOrders.toInt ∧ h0_asOrders.toInt ≤ 1) (h_h0_draft_clauses : 0 ≤ h0_draft_clauses.toInt ∧ h0_draft_clauses.toInt ≤ 12) (h_h0_draft_length : 0 ≤ h0_draft_length.toInt ∧ h0_draft_length.toInt ≤ 400) (h_f_h0_draft_code : CD f_h0_draft_code) (e_0 : lv ≤ a.toInt) {Q : Int32 → (Int32 × Int32 × Int32 × (Nat → Int32)) → Prop} (hq : ∀ (r : Int32) (u_0 : Int32) (u_1 : Int32) (u_2 : Int32) (u_3 : Nat → Int32), (0 ≤ u_2.toInt ∧ u_2.toInt ≤ 400) ∧ (CD u_3) → Q r (u_0, u_1, u_2, u_3)) : wp_X5_readPart wS a h0_length h0_tokenCount h0_now h0_parts h0_asOrders h0_faultPlace f_h0_tokens h0_draft_clauses h0_draft_length f_h0_draft_code Q := by
  unfold wp_X5_readPart
  refine s_X5_tokenNow h0_tokenCount h0_now (f_h0_tokens) ⟨by omega, by omega⟩ (fun r1 H2 => ?_)
  by_cases c3 : r1 = 191
  · refine br1 c3 ?_
    have d4 := eq_z (a := r1) (b := 191) (x := (Int32.toInt r1)) (y := 191) rfl rfl c3
    refine s_X5_open a h0_now  (fun r5 u6 H7 => ?_)
    have j8 := H7
    by_cases c9 : r5 = 0
    · refine br1 c9 ?_
      have d10 := eq_z (a := r5) (b := 0) (x := (Int32.toInt r5)) (y := 0) rfl rfl c9
      exact hq _ _ _ _ _ ⟨⟨by omega, by omega⟩, h_f_h0_draft_code⟩
    · refine br0 c9 ?_
      have d11 := ne_z (a := r5) (b := 0) (x := (Int32.toInt r5)) (y := 0) rfl rfl c9
      have t12 : (Int32.toInt (a + 1)) = (Int32.toInt a) + 1 := add_z rfl rfl (by omega) (by omega)
      refine hS (a + 1) h0_length h0_tokenCount u6 h0_parts h0_asOrders h0_faultPlace (f_h0_tokens) h0_draft_clauses h0_draft_length (f_h0_draft_code) ⟨by omega, by omega⟩ ⟨by omega, by omega⟩ ⟨by omega, by omega⟩ ⟨by omega, by omega⟩ ⟨by omega, by omega⟩ ⟨by omega, by omega⟩ h_f_h0_draft_code (by omega) (fun r13 u14_0 u14_1 u14_2 u14_3 H15 => ?_)
      have j16 := H15.1
      have j17 := H15.2
      refine un4_i ?_
      by_cases c18 : r13 = 0
      · refine br1 c18 ?_
        have d19 := eq_z (a := r13) (b := 0) (x := (Int32.toInt r13)) (y := 0) rfl rfl c18
        exact hq _ _ _ _ _ ⟨⟨by omega, by omega⟩, j17⟩
      · refine br0 c18 ?_
        have d20 := ne_z (a := r13) (b := 0) (x := (Int32.toInt r13)) (y := 0) rfl rfl c18
        refine s_X5_take 193 h0_tokenCount u14_0 (f_h0_tokens) ⟨by omega, by omega⟩ (fun r21 u22 H23 => ?_)
        by_cases c24 : r21 = 0
        · refine br1 c24 ?_
          have d25 := eq_z (a := r21) (b := 0) (x := (Int32.toInt r21)) (y := 0) rfl rfl c24
          exact hq _ _ _ _ _ ⟨⟨by omega, by omega⟩, j17⟩
        · refine br0 c24 ?_
          have d26 := ne_z (a := r21) (b := 0) (x := (Int32.toInt r21)) (y := 0) rfl rfl c24
          exact hq _ _ _ _ _ ⟨⟨by omega, by omega⟩, j17⟩
  · refine br0 c3 ?_
    have d27 := ne_z (a := r1) (b := 191) (x := (Int32.toInt r1)) (y := 191) rfl rfl c3
    refine jn_s ?_
    by_cases c28 : r1 < 1000
    · refine br1 c28 ?_
      have d29 := lt_z (a := r1) (b := 1000) (x := (Int32.toInt r1)) (y := 1000) rfl rfl c28
      refine jn_s ?_
      by_cases c30 : h0_asOrders = 0
      · refine br1 c30 ?_
        have d31 := eq_z (a := h0_asOrders) (b := 0) (x := (Int32.toInt h0_asOrders)) (y := 0) rfl rfl c30
        by_cases c32 : 50 ≤ h0_parts
        · refine br1 c32 ?_
          have d33 := le_z (a := 50) (b := h0_parts) (x := 50) (y := (Int32.toInt h0_parts)) rfl rfl c32
          exact hq _ _ _ _ _ ⟨⟨by omega, by omega⟩, h_f_h0_draft_code⟩
        · refine br0 c32 ?_
          have d34 := nle_z (a := 50) (b := h0_parts) (x := 50) (y := (Int32.toInt h0_parts)) rfl rfl c32
          refine jn_s ?_
          refine br1 (by decide) ?_
          refine br1 (by decide) ?_
          refine s_X5_isPlainWord r1 h0_asOrders ⟨by omega, by omega⟩ (fun r35 H36 => ?_)
          have j37 := H36
          rcases j37 with j37 | j37
          · skip
            refine br1 (z_eq (x := (Int32.toInt r35)) (y := 0) rfl rfl (by omega)) ?_
            exact hq _ _ _ _ _ ⟨⟨by omega, by omega⟩, h_f_h0_draft_code⟩
          · skip
            by_cases c38 : r35 = 0
            · refine br1 c38 ?_
              have d39 := eq_z (a := r35) (b := 0) (x := (Int32.toInt r35)) (y := 0) rfl rfl c38
              exact hq _ _ _ _ _ ⟨⟨by omega, by omega⟩, h_f_h0_draft_code⟩
            · refine br0 c38 ?_
              have d40 := ne_z (a := r35) (b := 0) (x := (Int32.toInt r35)) (y := 0) rfl rfl c38
              refine br1 (by decide) ?_
              refine br1 (by decide) ?_
              have t41 : (Int32.toInt (20 + r1)) = 20 + (Int32.toInt r1) := add_z rfl rfl (by omega) (by omega)
              refine s_X5_write (20 + r1) 0 h0_draft_length (f_h0_draft_code) ⟨by omega, by omega⟩ (by decide) ⟨by omega, by omega⟩ h_f_h0_draft_code (fun r42 u43_0 u43_1 H44 => ?_)
              have j45 := H44.1
              have j46 := H44.2
              refine un2_i ?_
              have t47 := i32_lo h0_parts
              have t48 : (Int32.toInt (h0_parts + 1)) = (Int32.toInt h0_parts) + 1 := add_z rfl rfl (by omega) (by omega)
              exact hq _ _ _ _ _ ⟨⟨by omega, by omega⟩, j46⟩
      · refine br0 c30 ?_
        have d49 := ne_z (a := h0_asOrders) (b := 0) (x := (Int32.toInt h0_asOrders)) (y := 0) rfl rfl c30
        refine s_X5_choicesBehind r1  (fun r50 H51 => ?_)
        have j52 := H51.1
        have j53 := H51.2
        rcases j53 with j53 | j53
        · skip
          by_cases c54 : 50 ≤ h0_parts
          · refine br1 c54 ?_
            have d55 := le_z (a := 50) (b := h0_parts) (x := 50) (y := (Int32.toInt h0_parts)) rfl rfl c54
            exact hq _ _ _ _ _ ⟨⟨by omega, by omega⟩, h_f_h0_draft_code⟩
          · refine br0 c54 ?_
            have d56 := nle_z (a := 50) (b := h0_parts) (x := 50) (y := (Int32.toInt h0_parts)) rfl rfl c54
            refine jn_s ?_
            refine br1 (by decide) ?_
            refine br1 (z_eq (x := (Int32.toInt r50)) (y := 0) rfl rfl (by omega)) ?_
            refine s_X5_isPlainWord r1 h0_asOrders ⟨by omega, by omega⟩ (fun r57 H58 => ?_)
            have j59 := H58
            rcases j59 with j59 | j59
            · skip
              refine br1 (z_eq (x := (Int32.toInt r57)) (y := 0) rfl rfl (by omega)) ?_
              exact hq _ _ _ _ _ ⟨⟨by omega, by omega⟩, h_f_h0_draft_code⟩
            · skip
              by_cases c60 : r57 = 0
              · refine br1 c60 ?_
                have d61 := eq_z (a := r57) (b := 0) (x := (Int32.toInt r57)) (y := 0) rfl rfl c60
                exact hq _ _ _ _ _ ⟨⟨by omega, by omega⟩, h_f_h0_draft_code⟩
              · refine br0 c60 ?_
                have d62 := ne_z (a := r57) (b := 0) (x := (Int32.toInt r57)) (y := 0) rfl rfl c60
                refine br1 (by decide) ?_
                refine br1 (z_eq (x := (Int32.toInt r50)) (y := 0) rfl rfl (by omega)) ?_
                have t63 : (Int32.toInt (20 + r1)) = 20 + (Int32.toInt r1) := add_z rfl rfl (by omega) (by omega)
                refine s_X5_write (20 + r1) 0 h0_draft_length (f_h0_draft_code) ⟨by omega, by omega⟩ (by decide) ⟨by omega, by omega⟩ h_f_h0_draft_code (fun r64 u65_0 u65_1 H66 => ?_)
                have j67 := H66.1
                have j68 := H66.2
                refine un2_i ?_
                have t69 := i32_lo h0_parts
                have t70 : (Int32.toInt (h0_parts + 1)) = (Int32.toInt h0_parts) + 1 := add_z rfl rfl (by omega) (by omega)
                exact hq _ _ _ _ _ ⟨⟨by omega, by omega⟩, j68⟩
        · skip
          by_cases c71 : 50 ≤ h0_parts
          · refine br1 c71 ?_
            have d72 := le_z (a := 50) (b := h0_parts) (x := 50) (y := (Int32.toInt h0_parts)) rfl rfl c71
            exact hq _ _ _ _ _ ⟨⟨by omega, by omega⟩, h_f_h0_draft_code⟩
          · refine br0 c71 ?_
            have d73 := nle_z (a := 50) (b := h0_parts) (x := 50) (y := (Int32.toInt h0_parts)) rfl rfl c71
            refine jn_s ?_
            refine br1 (by decide) ?_
            by_cases c74 : r50 = 0
            · refine br1 c74 ?_
              have d75 := eq_z (a := r50) (b := 0) (x := (Int32.toInt r50)) (y := 0) rfl rfl c74
              refine s_X5_isPlainWord r1 h0_asOrders ⟨by omega, by omega⟩ (fun r76 H77 => ?_)
              have j78 := H77
              rcases j78 with j78 | j78
              · skip
                refine br1 (z_eq (x := (Int32.toInt r76)) (y := 0) rfl rfl (by omega)) ?_
                exact hq _ _ _ _ _ ⟨⟨by omega, by omega⟩, h_f_h0_draft_code⟩
              · skip
                by_cases c79 : r76 = 0
                · refine br1 c79 ?_
                  have d80 := eq_z (a := r76) (b := 0) (x := (Int32.toInt r76)) (y := 0) rfl rfl c79
                  exact hq _ _ _ _ _ ⟨⟨by omega, by omega⟩, h_f_h0_draft_code⟩
                · refine br0 c79 ?_
                  have d81 := ne_z (a := r76) (b := 0) (x := (Int32.toInt r76)) (y := 0) rfl rfl c79
                  refine br1 (by decide) ?_
                  refine br1 (z_eq (x := (Int32.toInt r50)) (y := 0) rfl rfl (by omega)) ?_
                  have t82 : (Int32.toInt (20 + r1)) = 20 + (Int32.toInt r1) := add_z rfl rfl (by omega) (by omega)
                  refine s_X5_write (20 + r1) 0 h0_draft_length (f_h0_draft_code) ⟨by omega, by omega⟩ (by decide) ⟨by omega, by omega⟩ h_f_h0_draft_code (fun r83 u84_0 u84_1 H85 => ?_)
                  have j86 := H85.1
                  have j87 := H85.2
                  refine un2_i ?_
                  have t88 := i32_lo h0_parts
                  have t89 : (Int32.toInt (h0_parts + 1)) = (Int32.toInt h0_parts) + 1 := add_z rfl rfl (by omega) (by omega)
                  exact hq _ _ _ _ _ ⟨⟨by omega, by omega⟩, j87⟩
            · refine br0 c74 ?_
              have d90 := ne_z (a := r50) (b := 0) (x := (Int32.toInt r50)) (y := 0) rfl rfl c74
              refine br1 (by decide) ?_
              refine br0 (z_ne (x := (Int32.toInt r50)) (y := 0) rfl rfl (by omega)) ?_
              refine s_X5_tokenNow h0_tokenCount (h0_now + 1) (f_h0_tokens) ⟨by omega, by omega⟩ (fun r91 H92 => ?_)
              by_cases c93 : (r91 - 1000) < 0
              · refine br1 c93 ?_
                have d94 := lt_z (a := (r91 - 1000)) (b := 0) (x := (Int32.toInt (r91 - 1000))) (y := 0) rfl rfl c93
                have t95 := i32_lo h0_parts
                have t96 : (Int32.toInt (h0_parts + 1)) = (Int32.toInt h0_parts) + 1 := add_z rfl rfl (by omega) (by omega)
                exact hq _ _ _ _ _ ⟨⟨by omega, by omega⟩, h_f_h0_draft_code⟩
              · refine br0 c93 ?_
                have d97 := nlt_z (a := (r91 - 1000)) (b := 0) (x := (Int32.toInt (r91 - 1000))) (y := 0) rfl rfl c93
                by_cases c98 : (r91 - 1000) < r50
                · refine br1 c98 ?_
                  have d99 := lt_z (a := (r91 - 1000)) (b := r50) (x := (Int32.toInt (r91 - 1000))) (y := (Int32.toInt r50)) rfl rfl c98
                  by_cases c100 : r1 = 10
                  · refine br1 c100 ?_
                    have d101 := eq_z (a := r1) (b := 10) (x := (Int32.toInt r1)) (y := 10) rfl rfl c100
                    refine s_X5_write 13 (r91 - 1000) h0_draft_length (f_h0_draft_code) (by decide) ⟨by omega, by omega⟩ ⟨by omega, by omega⟩ h_f_h0_draft_code (fun r102 u103_0 u103_1 H104 => ?_)
                    have j105 := H104.1
                    have j106 := H104.2
                    refine un2_i ?_
                    have t107 := i32_lo h0_parts
                    have t108 : (Int32.toInt (h0_parts + 1)) = (Int32.toInt h0_parts) + 1 := add_z rfl rfl (by omega) (by omega)
                    exact hq _ _ _ _ _ ⟨⟨by omega, by omega⟩, j106⟩
                  · refine br0 c100 ?_
                    have d109 := ne_z (a := r1) (b := 10) (x := (Int32.toInt r1)) (y := 10) rfl rfl c100
                    have t110 : (Int32.toInt (20 + r1)) = 20 + (Int32.toInt r1) := add_z rfl rfl (by omega) (by omega)
                    refine s_X5_write (20 + r1) (r91 - 1000) h0_draft_length (f_h0_draft_code) ⟨by omega, by omega⟩ ⟨by omega, by omega⟩ ⟨by omega, by omega⟩ h_f_h0_draft_code (fun r111 u112_0 u112_1 H113 => ?_)
                    have j114 := H113.1
                    have j115 := H113.2
                    refine un2_i ?_
                    have t116 := i32_lo h0_parts
                    have t117 : (Int32.toInt (h0_parts + 1)) = (Int32.toInt h0_parts) + 1 := add_z rfl rfl (by omega) (by omega)
                    exact hq _ _ _ _ _ ⟨⟨by omega, by omega⟩, j115⟩
                · refine br0 c98 ?_
                  have d118 := nlt_z (a := (r91 - 1000)) (b := r50) (x := (Int32.toInt (r91 - 1000))) (y := (Int32.toInt r50)) rfl rfl c98
                  have t119 := i32_lo h0_parts
                  have t120 : (Int32.toInt (h0_parts + 1)) = (Int32.toInt h0_parts) + 1 := add_z rfl rfl (by omega) (by omega)
                  exact hq _ _ _ _ _ ⟨⟨by omega, by omega⟩, h_f_h0_draft_code⟩
    · refine br0 c28 ?_
      have d121 := nlt_z (a := r1) (b := 1000) (x := (Int32.toInt r1)) (y := 1000) rfl rfl c28
      by_cases c122 : 2000 < r1
      · refine br1 c122 ?_
        have d123 := lt_z (a := 2000) (b := r1) (x := 2000) (y := (Int32.toInt r1)) rfl rfl c122
        refine jn_s ?_
        by_cases c124 : h0_asOrders = 0
        · refine br1 c124 ?_
          have d125 := eq_z (a := h0_asOrders) (b := 0) (x := (Int32.toInt h0_asOrders)) (y := 0) rfl rfl c124
          by_cases c126 : 50 ≤ h0_parts
          · refine br1 c126 ?_
            have d127 := le_z (a := 50) (b := h0_parts) (x := 50) (y := (Int32.toInt h0_parts)) rfl rfl c126
            exact hq _ _ _ _ _ ⟨⟨by omega, by omega⟩, h_f_h0_draft_code⟩
          · refine br0 c126 ?_
            have d128 := nle_z (a := 50) (b := h0_parts) (x := 50) (y := (Int32.toInt h0_parts)) rfl rfl c126
            refine jn_s ?_
            refine br1 (by decide) ?_
            refine br1 (by decide) ?_
            refine s_X5_isPlainWord r1 h0_asOrders ⟨by omega, by omega⟩ (fun r129 H130 => ?_)
            have j131 := H130
            rcases j131 with j131 | j131
            · skip
              refine br1 (z_eq (x := (Int32.toInt r129)) (y := 0) rfl rfl (by omega)) ?_
              exact hq _ _ _ _ _ ⟨⟨by omega, by omega⟩, h_f_h0_draft_code⟩
            · skip
              by_cases c132 : r129 = 0
              · refine br1 c132 ?_
                have d133 := eq_z (a := r129) (b := 0) (x := (Int32.toInt r129)) (y := 0) rfl rfl c132
                exact hq _ _ _ _ _ ⟨⟨by omega, by omega⟩, h_f_h0_draft_code⟩
              · refine br0 c132 ?_
                have d134 := ne_z (a := r129) (b := 0) (x := (Int32.toInt r129)) (y := 0) rfl rfl c132
                refine br1 (by decide) ?_
                refine br1 (by decide) ?_
                have t135 : (Int32.toInt (20 + r1)) = 20 + (Int32.toInt r1) := add_z rfl rfl (by omega) (by omega)
                refine s_X5_write (20 + r1) 0 h0_draft_length (f_h0_draft_code) ⟨by omega, by omega⟩ (by decide) ⟨by omega, by omega⟩ h_f_h0_draft_code (fun r136 u137_0 u137_1 H138 => ?_)
                have j139 := H138.1
                have j140 := H138.2
                refine un2_i ?_
                have t141 := i32_lo h0_parts
                have t142 : (Int32.toInt (h0_parts + 1)) = (Int32.toInt h0_parts) + 1 := add_z rfl rfl (by omega) (by omega)
                exact hq _ _ _ _ _ ⟨⟨by omega, by omega⟩, j140⟩
        · refine br0 c124 ?_
          have d143 := ne_z (a := h0_asOrders) (b := 0) (x := (Int32.toInt h0_asOrders)) (y := 0) rfl rfl c124
          refine s_X5_choicesBehind r1  (fun r144 H145 => ?_)
          have j146 := H145.1
          have j147 := H145.2
          rcases j147 with j147 | j147
          · skip
            by_cases c148 : 50 ≤ h0_parts
            · refine br1 c148 ?_
              have d149 := le_z (a := 50) (b := h0_parts) (x := 50) (y := (Int32.toInt h0_parts)) rfl rfl c148
              exact hq _ _ _ _ _ ⟨⟨by omega, by omega⟩, h_f_h0_draft_code⟩
            · refine br0 c148 ?_
              have d150 := nle_z (a := 50) (b := h0_parts) (x := 50) (y := (Int32.toInt h0_parts)) rfl rfl c148
              refine jn_s ?_
              refine br1 (by decide) ?_
              refine br1 (z_eq (x := (Int32.toInt r144)) (y := 0) rfl rfl (by omega)) ?_
              refine s_X5_isPlainWord r1 h0_asOrders ⟨by omega, by omega⟩ (fun r151 H152 => ?_)
              have j153 := H152
              rcases j153 with j153 | j153
              · skip
                refine br1 (z_eq (x := (Int32.toInt r151)) (y := 0) rfl rfl (by omega)) ?_
                exact hq _ _ _ _ _ ⟨⟨by omega, by omega⟩, h_f_h0_draft_code⟩
              · skip
                by_cases c154 : r151 = 0
                · refine br1 c154 ?_
                  have d155 := eq_z (a := r151) (b := 0) (x := (Int32.toInt r151)) (y := 0) rfl rfl c154
                  exact hq _ _ _ _ _ ⟨⟨by omega, by omega⟩, h_f_h0_draft_code⟩
                · refine br0 c154 ?_
                  have d156 := ne_z (a := r151) (b := 0) (x := (Int32.toInt r151)) (y := 0) rfl rfl c154
                  refine br1 (by decide) ?_
                  refine br1 (z_eq (x := (Int32.toInt r144)) (y := 0) rfl rfl (by omega)) ?_
                  have t157 : (Int32.toInt (20 + r1)) = 20 + (Int32.toInt r1) := add_z rfl rfl (by omega) (by omega)
                  refine s_X5_write (20 + r1) 0 h0_draft_length (f_h0_draft_code) ⟨by omega, by omega⟩ (by decide) ⟨by omega, by omega⟩ h_f_h0_draft_code (fun r158 u159_0 u159_1 H160 => ?_)
                  have j161 := H160.1
                  have j162 := H160.2
                  refine un2_i ?_
                  have t163 := i32_lo h0_parts
                  have t164 : (Int32.toInt (h0_parts + 1)) = (Int32.toInt h0_parts) + 1 := add_z rfl rfl (by omega) (by omega)
                  exact hq _ _ _ _ _ ⟨⟨by omega, by omega⟩, j162⟩
          · skip
            by_cases c165 : 50 ≤ h0_parts
            · refine br1 c165 ?_
              have d166 := le_z (a := 50) (b := h0_parts) (x := 50) (y := (Int32.toInt h0_parts)) rfl rfl c165
              exact hq _ _ _ _ _ ⟨⟨by omega, by omega⟩, h_f_h0_draft_code⟩
            · refine br0 c165 ?_
              have d167 := nle_z (a := 50) (b := h0_parts) (x := 50) (y := (Int32.toInt h0_parts)) rfl rfl c165
              refine jn_s ?_
              refine br1 (by decide) ?_
              by_cases c168 : r144 = 0
              · refine br1 c168 ?_
                have d169 := eq_z (a := r144) (b := 0) (x := (Int32.toInt r144)) (y := 0) rfl rfl c168
                refine s_X5_isPlainWord r1 h0_asOrders ⟨by omega, by omega⟩ (fun r170 H171 => ?_)
                have j172 := H171
                rcases j172 with j172 | j172
                · skip
                  refine br1 (z_eq (x := (Int32.toInt r170)) (y := 0) rfl rfl (by omega)) ?_
                  exact hq _ _ _ _ _ ⟨⟨by omega, by omega⟩, h_f_h0_draft_code⟩
                · skip
                  by_cases c173 : r170 = 0
                  · refine br1 c173 ?_
                    have d174 := eq_z (a := r170) (b := 0) (x := (Int32.toInt r170)) (y := 0) rfl rfl c173
                    exact hq _ _ _ _ _ ⟨⟨by omega, by omega⟩, h_f_h0_draft_code⟩
                  · refine br0 c173 ?_
                    have d175 := ne_z (a := r170) (b := 0) (x := (Int32.toInt r170)) (y := 0) rfl rfl c173
                    refine br1 (by decide) ?_
                    refine br1 (z_eq (x := (Int32.toInt r144)) (y := 0) rfl rfl (by omega)) ?_
                    have t176 : (Int32.toInt (20 + r1)) = 20 + (Int32.toInt r1) := add_z rfl rfl (by omega) (by omega)
                    refine s_X5_write (20 + r1) 0 h0_draft_length (f_h0_draft_code) ⟨by omega, by omega⟩ (by decide) ⟨by omega, by omega⟩ h_f_h0_draft_code (fun r177 u178_0 u178_1 H179 => ?_)
                    have j180 := H179.1
                    have j181 := H179.2
                    refine un2_i ?_
                    have t182 := i32_lo h0_parts
                    have t183 : (Int32.toInt (h0_parts + 1)) = (Int32.toInt h0_parts) + 1 := add_z rfl rfl (by omega) (by omega)
                    exact hq _ _ _ _ _ ⟨⟨by omega, by omega⟩, j181⟩
              · refine br0 c168 ?_
                have d184 := ne_z (a := r144) (b := 0) (x := (Int32.toInt r144)) (y := 0) rfl rfl c168
                refine br1 (by decide) ?_
                refine br0 (z_ne (x := (Int32.toInt r144)) (y := 0) rfl rfl (by omega)) ?_
                refine s_X5_tokenNow h0_tokenCount (h0_now + 1) (f_h0_tokens) ⟨by omega, by omega⟩ (fun r185 H186 => ?_)
                by_cases c187 : (r185 - 1000) < 0
                · refine br1 c187 ?_
                  have d188 := lt_z (a := (r185 - 1000)) (b := 0) (x := (Int32.toInt (r185 - 1000))) (y := 0) rfl rfl c187
                  have t189 := i32_lo h0_parts
                  have t190 : (Int32.toInt (h0_parts + 1)) = (Int32.toInt h0_parts) + 1 := add_z rfl rfl (by omega) (by omega)
                  exact hq _ _ _ _ _ ⟨⟨by omega, by omega⟩, h_f_h0_draft_code⟩
                · refine br0 c187 ?_
                  have d191 := nlt_z (a := (r185 - 1000)) (b := 0) (x := (Int32.toInt (r185 - 1000))) (y := 0) rfl rfl c187
                  by_cases c192 : (r185 - 1000) < r144
                  · refine br1 c192 ?_
                    have d193 := lt_z (a := (r185 - 1000)) (b := r144) (x := (Int32.toInt (r185 - 1000))) (y := (Int32.toInt r144)) rfl rfl c192
                    refine br0 (z_ne (x := (Int32.toInt r1)) (y := 10) rfl rfl (by omega)) ?_
                    have t194 : (Int32.toInt (20 + r1)) = 20 + (Int32.toInt r1) := add_z rfl rfl (by omega) (by omega)
                    refine s_X5_write (20 + r1) (r185 - 1000) h0_draft_length (f_h0_draft_code) ⟨by omega, by omega⟩ ⟨by omega, by omega⟩ ⟨by omega, by omega⟩ h_f_h0_draft_code (fun r195 u196_0 u196_1 H197 => ?_)
                    have j198 := H197.1
                    have j199 := H197.2
                    refine un2_i ?_
                    have t200 := i32_lo h0_parts
                    have t201 : (Int32.toInt (h0_parts + 1)) = (Int32.toInt h0_parts) + 1 := add_z rfl rfl (by omega) (by omega)
                    exact hq _ _ _ _ _ ⟨⟨by omega, by omega⟩, j199⟩
                  · refine br0 c192 ?_
                    have d202 := nlt_z (a := (r185 - 1000)) (b := r144) (x := (Int32.toInt (r185 - 1000))) (y := (Int32.toInt r144)) rfl rfl c192
                    have t203 := i32_lo h0_parts
                    have t204 : (Int32.toInt (h0_parts + 1)) = (Int32.toInt h0_parts) + 1 := add_z rfl rfl (by omega) (by omega)
                    exact hq _ _ _ _ _ ⟨⟨by omega, by omega⟩, h_f_h0_draft_code⟩
      · refine br0 c122 ?_
        have d205 := nlt_z (a := 2000) (b := r1) (x := 2000) (y := (Int32.toInt r1)) rfl rfl c122
        refine jn_s ?_
        by_cases c206 : h0_asOrders = 0
        · refine br1 c206 ?_
          have d207 := eq_z (a := h0_asOrders) (b := 0) (x := (Int32.toInt h0_asOrders)) (y := 0) rfl rfl c206
          by_cases c208 : 50 ≤ h0_parts
          · refine br1 c208 ?_
            have d209 := le_z (a := 50) (b := h0_parts) (x := 50) (y := (Int32.toInt h0_parts)) rfl rfl c208
            exact hq _ _ _ _ _ ⟨⟨by omega, by omega⟩, h_f_h0_draft_code⟩
          · refine br0 c208 ?_
            have d210 := nle_z (a := 50) (b := h0_parts) (x := 50) (y := (Int32.toInt h0_parts)) rfl rfl c208
            refine jn_s ?_
            refine br0 (by decide) ?_
            refine br0 (by decide) ?_
            have t211 : (Int32.toInt (r1 - 1000)) = (Int32.toInt r1) - 1000 := sub_z rfl rfl (by omega) (by omega)
            refine s_X5_write 1 (r1 - 1000) h0_draft_length (f_h0_draft_code) (by decide) ⟨by omega, by omega⟩ ⟨by omega, by omega⟩ h_f_h0_draft_code (fun r212 u213_0 u213_1 H214 => ?_)
            have j215 := H214.1
            have j216 := H214.2
            refine un2_i ?_
            have t217 := i32_lo h0_parts
            have t218 : (Int32.toInt (h0_parts + 1)) = (Int32.toInt h0_parts) + 1 := add_z rfl rfl (by omega) (by omega)
            exact hq _ _ _ _ _ ⟨⟨by omega, by omega⟩, j216⟩
        · refine br0 c206 ?_
          have d219 := ne_z (a := h0_asOrders) (b := 0) (x := (Int32.toInt h0_asOrders)) (y := 0) rfl rfl c206
          refine s_X5_choicesBehind r1  (fun r220 H221 => ?_)
          have j222 := H221.1
          have j223 := H221.2
          rcases j223 with j223 | j223
          · skip
            by_cases c224 : 50 ≤ h0_parts
            · refine br1 c224 ?_
              have d225 := le_z (a := 50) (b := h0_parts) (x := 50) (y := (Int32.toInt h0_parts)) rfl rfl c224
              exact hq _ _ _ _ _ ⟨⟨by omega, by omega⟩, h_f_h0_draft_code⟩
            · refine br0 c224 ?_
              have d226 := nle_z (a := 50) (b := h0_parts) (x := 50) (y := (Int32.toInt h0_parts)) rfl rfl c224
              refine jn_s ?_
              refine br0 (by decide) ?_
              refine br0 (by decide) ?_
              have t227 : (Int32.toInt (r1 - 1000)) = (Int32.toInt r1) - 1000 := sub_z rfl rfl (by omega) (by omega)
              refine s_X5_write 1 (r1 - 1000) h0_draft_length (f_h0_draft_code) (by decide) ⟨by omega, by omega⟩ ⟨by omega, by omega⟩ h_f_h0_draft_code (fun r228 u229_0 u229_1 H230 => ?_)
              have j231 := H230.1
              have j232 := H230.2
              refine un2_i ?_
              have t233 := i32_lo h0_parts
              have t234 : (Int32.toInt (h0_parts + 1)) = (Int32.toInt h0_parts) + 1 := add_z rfl rfl (by omega) (by omega)
              exact hq _ _ _ _ _ ⟨⟨by omega, by omega⟩, j232⟩
          · skip
            by_cases c235 : 50 ≤ h0_parts
            · refine br1 c235 ?_
              have d236 := le_z (a := 50) (b := h0_parts) (x := 50) (y := (Int32.toInt h0_parts)) rfl rfl c235
              exact hq _ _ _ _ _ ⟨⟨by omega, by omega⟩, h_f_h0_draft_code⟩
            · refine br0 c235 ?_
              have d237 := nle_z (a := 50) (b := h0_parts) (x := 50) (y := (Int32.toInt h0_parts)) rfl rfl c235
              refine jn_s ?_
              refine br0 (by decide) ?_
              refine br0 (by decide) ?_
              have t238 : (Int32.toInt (r1 - 1000)) = (Int32.toInt r1) - 1000 := sub_z rfl rfl (by omega) (by omega)
              refine s_X5_write 1 (r1 - 1000) h0_draft_length (f_h0_draft_code) (by decide) ⟨by omega, by omega⟩ ⟨by omega, by omega⟩ h_f_h0_draft_code (fun r239 u240_0 u240_1 H241 => ?_)
              have j242 := H241.1
              have j243 := H241.2
              refine un2_i ?_
              have t244 := i32_lo h0_parts
              have t245 : (Int32.toInt (h0_parts + 1)) = (Int32.toInt h0_parts) + 1 := add_z rfl rfl (by omega) (by omega)
              exact hq _ _ _ _ _ ⟨⟨by omega, by omega⟩, j243⟩


set_option maxRecDepth 100000 in
theorem sl_X5_readSum_17 (a : Int32) (h0_length : Int32) (h0_tokenCount : Int32) (h0_asOrders : Int32) (h0_faultPlace : Int32) (f_h0_tokens : Nat → Int32) (h0_draft_clauses : Int32) (wS : Int32 → Int32 → Int32 → Int32 → Int32 → Int32 → Int32 → (Nat → Int32) → Int32 → Int32 → (Nat → Int32) → (Int32 → (Int32 × Int32 × Int32 × (Nat → Int32)) → Prop) → Prop) (lv : Int) (h_a : 0 ≤ a.toInt ∧ a.toInt ≤ 8) (h_h0_length : 0 ≤ h0_length.toInt ∧ h0_length.toInt ≤ 400) (h_h0_tokenCount : 0 ≤ h0_tokenCount.toInt ∧ h0_tokenCount.toInt ≤ 401) (h_h0_asOrders : 0 ≤ h0_asOrders.toInt ∧ h0_asOrders.toInt ≤ 1) (h_h0_draft_clauses : 0 ≤ h0_draft_clauses.toInt ∧ h0_draft_clauses.toInt ≤ 12) (hS : ∀ (a : Int32) (h0_length : Int32) (h0_tokenCount : Int32) (h0_now : Int32) (h0_parts : Int32) (h0_asOrders : Int32) (h0_faultPlace : Int32) (f_h0_tokens : Nat → Int32) (h0_draft_clauses : Int32) (h0_draft_length : Int32) (f_h0_draft_code : Nat → Int32), (0 ≤ a.toInt ∧ a.toInt ≤ 8) → (0 ≤ h0_length.toInt ∧ h0_length.toInt ≤ 400) → (0 ≤ h0_tokenCount.toInt ∧ h0_tokenCount.toInt ≤ 401) → (0 ≤ h0_asOrders.toInt ∧ h0_asOrders.toInt ≤ 1) → (0 ≤ h0_draft_clauses.toInt ∧ h0_draft_clauses.toInt ≤ 12) → (0 ≤ h0_draft_length.toInt ∧ h0_draft_length.toInt ≤ 400) → (CD f_h0_draft_code) → (lv ≤ a.toInt) → ∀ {Q : Int32 → (Int32 × Int32 × Int32 × (Nat → Int32)) → Prop}, (∀ (r : Int32) (u_0 : Int32) (u_1 : Int32) (u_2 : Int32) (u_3 : Nat → Int32), (0 ≤ u_2.toInt ∧ u_2.toInt ≤ 400) ∧ (CD u_3) → Q r (u_0, u_1, u_2, u_3)) → wS a h0_length h0_tokenCount h0_now h0_parts h0_asOrders h0_faultPlace f_h0_tokens h0_draft_clauses h0_draft_length f_h0_draft_code Q) (e_0 : lv ≤ a.toInt) {Q : Int32 → (Int32 × Int32 × Int32 × (Nat → Int32)) → Prop} (hq : ∀ (r : Int32) (u_0 : Int32) (u_1 : Int32) (u_2 : Int32) (u_3 : Nat → Int32), (0 ≤ u_2.toInt ∧ u_2.toInt ≤ 400) ∧ (CD u_3) → Q r (u_0, u_1, u_2, u_3)) (Qb : Int32 → Int32 → Int32 → Int32 → Int32 → (Nat → Int32) → Prop) (KX : ∀ (x_17_0 : Int32) (x_17_1 : Int32) (x_17_2 : Int32) (x_17_3 : Int32) (x_17_4 : Int32) (x_17_5 : Nat → Int32), (0 ≤ x_17_0.toInt ∧ x_17_0.toInt ≤ 400) ∧ ((-1) ≤ x_17_1.toInt ∧ x_17_1.toInt ≤ 6) ∧ (0 ≤ x_17_4.toInt ∧ x_17_4.toInt ≤ 400) ∧ (CD x_17_5) → Qb x_17_0 x_17_1 x_17_2 x_17_3 x_17_4 x_17_5) : ∀ (n : Nat) (x_17_0 : Int32) (x_17_1 : Int32) (x_17_2 : Int32) (x_17_3 : Int32) (x_17_4 : Int32) (x_17_5 : Nat → Int32), (0 ≤ x_17_0.toInt ∧ x_17_0.toInt ≤ 400) ∧ ((-1) ≤ x_17_1.toInt ∧ x_17_1.toInt ≤ 6) ∧ (0 ≤ x_17_4.toInt ∧ x_17_4.toInt ≤ 400) ∧ (CD x_17_5) → 401 - x_17_0.toInt < (n : Int) → wl_X5_readSum_17 a h0_length h0_tokenCount h0_asOrders h0_faultPlace f_h0_tokens h0_draft_clauses wS Q Qb n x_17_0 x_17_1 x_17_2 x_17_3 x_17_4 x_17_5 := by
  intro n
  induction n with
  | zero =>
    intro x_17_0 x_17_1 x_17_2 x_17_3 x_17_4 x_17_5 hI hm
    exfalso; have hm : 401 - x_17_0.toInt < 0 := hm; omega
  | succ n ih =>
    intro x_17_0 x_17_1 x_17_2 x_17_3 x_17_4 x_17_5 hI hm
    have hm : 401 - x_17_0.toInt < (n : Int) + 1 := by simpa using hm
    have h_x_17_0 := hI.1
    have h_x_17_1 := hI.2.1
    have h_x_17_4 := hI.2.2.1
    have h_x_17_5 := hI.2.2.2
    unfold wl_X5_readSum_17
    by_cases c4 : 400 ≤ x_17_0
    · refine br1 c4 ?_
      have d5 := le_z (a := 400) (b := x_17_0) (x := 400) (y := (Int32.toInt x_17_0)) rfl rfl c4
      exact KX _ _ _ _ _ _ ⟨⟨by omega, by omega⟩, ⟨by omega, by omega⟩, ⟨by omega, by omega⟩, h_x_17_5⟩
    · refine br0 c4 ?_
      have d6 := nle_z (a := 400) (b := x_17_0) (x := 400) (y := (Int32.toInt x_17_0)) rfl rfl c4
      refine hS a h0_length h0_tokenCount x_17_2 x_17_3 h0_asOrders h0_faultPlace (f_h0_tokens) h0_draft_clauses x_17_4 (x_17_5) ⟨by omega, by omega⟩ ⟨by omega, by omega⟩ ⟨by omega, by omega⟩ ⟨by omega, by omega⟩ ⟨by omega, by omega⟩ ⟨by omega, by omega⟩ h_x_17_5 (by omega) (fun r7 u8_0 u8_1 u8_2 u8_3 H9 => ?_)
      have j10 := H9.1
      have j11 := H9.2
      refine un4_i ?_
      by_cases c12 : r7 = 0
      · refine br1 c12 ?_
        have d13 := eq_z (a := r7) (b := 0) (x := (Int32.toInt r7)) (y := 0) rfl rfl c12
        exact hq _ _ _ _ _ ⟨⟨by omega, by omega⟩, j11⟩
      · refine br0 c12 ?_
        have d14 := ne_z (a := r7) (b := 0) (x := (Int32.toInt r7)) (y := 0) rfl rfl c12
        refine s_X5_write x_17_1 0 u8_2 (u8_3) ⟨by omega, by omega⟩ (by decide) ⟨by omega, by omega⟩ j11 (fun r15 u16_0 u16_1 H17 => ?_)
        have j18 := H17.1
        have j19 := H17.2
        refine un2_i ?_
        by_cases c20 : r15 = 0
        · refine br1 c20 ?_
          have d21 := eq_z (a := r15) (b := 0) (x := (Int32.toInt r15)) (y := 0) rfl rfl c20
          exact hq _ _ _ _ _ ⟨⟨by omega, by omega⟩, j19⟩
        · refine br0 c20 ?_
          have d22 := ne_z (a := r15) (b := 0) (x := (Int32.toInt r15)) (y := 0) rfl rfl c20
          refine s_X5_tokenNow h0_tokenCount u8_0 (f_h0_tokens) ⟨by omega, by omega⟩ (fun r23 H24 => ?_)
          refine s_X5_timingOf r23  (fun r25 H26 => ?_)
          have j27 := H26
          by_cases c28 : r25 = (-1)
          · refine br1 c28 ?_
            have d29 := eq_z (a := r25) (b := (-1)) (x := (Int32.toInt r25)) (y := (-1)) rfl (by decide) c28
            exact KX _ _ _ _ _ _ ⟨⟨by omega, by omega⟩, ⟨by omega, by omega⟩, ⟨by omega, by omega⟩, j19⟩
          · refine br0 c28 ?_
            have d30 := ne_z (a := r25) (b := (-1)) (x := (Int32.toInt r25)) (y := (-1)) rfl (by decide) c28
            have t31 : (Int32.toInt (x_17_0 + 1)) = (Int32.toInt x_17_0) + 1 := add_z rfl rfl (by omega) (by omega)
            exact ih _ _ _ _ _ _ ⟨⟨by omega, by omega⟩, ⟨by omega, by omega⟩, ⟨by omega, by omega⟩, j19⟩ (by omega)
set_option maxRecDepth 100000 in
theorem sl_X5_readSum_4 (a : Int32) (h0_length : Int32) (h0_tokenCount : Int32) (h0_asOrders : Int32) (h0_faultPlace : Int32) (f_h0_tokens : Nat → Int32) (h0_draft_clauses : Int32) (wS : Int32 → Int32 → Int32 → Int32 → Int32 → Int32 → Int32 → (Nat → Int32) → Int32 → Int32 → (Nat → Int32) → (Int32 → (Int32 × Int32 × Int32 × (Nat → Int32)) → Prop) → Prop) (lv : Int) (h_a : 0 ≤ a.toInt ∧ a.toInt ≤ 8) (h_h0_length : 0 ≤ h0_length.toInt ∧ h0_length.toInt ≤ 400) (h_h0_tokenCount : 0 ≤ h0_tokenCount.toInt ∧ h0_tokenCount.toInt ≤ 401) (h_h0_asOrders : 0 ≤ h0_asOrders.toInt ∧ h0_asOrders.toInt ≤ 1) (h_h0_draft_clauses : 0 ≤ h0_draft_clauses.toInt ∧ h0_draft_clauses.toInt ≤ 12) (hS : ∀ (a : Int32) (h0_length : Int32) (h0_tokenCount : Int32) (h0_now : Int32) (h0_parts : Int32) (h0_asOrders : Int32) (h0_faultPlace : Int32) (f_h0_tokens : Nat → Int32) (h0_draft_clauses : Int32) (h0_draft_length : Int32) (f_h0_draft_code : Nat → Int32), (0 ≤ a.toInt ∧ a.toInt ≤ 8) → (0 ≤ h0_length.toInt ∧ h0_length.toInt ≤ 400) → (0 ≤ h0_tokenCount.toInt ∧ h0_tokenCount.toInt ≤ 401) → (0 ≤ h0_asOrders.toInt ∧ h0_asOrders.toInt ≤ 1) → (0 ≤ h0_draft_clauses.toInt ∧ h0_draft_clauses.toInt ≤ 12) → (0 ≤ h0_draft_length.toInt ∧ h0_draft_length.toInt ≤ 400) → (CD f_h0_draft_code) → (lv ≤ a.toInt) → ∀ {Q : Int32 → (Int32 × Int32 × Int32 × (Nat → Int32)) → Prop}, (∀ (r : Int32) (u_0 : Int32) (u_1 : Int32) (u_2 : Int32) (u_3 : Nat → Int32), (0 ≤ u_2.toInt ∧ u_2.toInt ≤ 400) ∧ (CD u_3) → Q r (u_0, u_1, u_2, u_3)) → wS a h0_length h0_tokenCount h0_now h0_parts h0_asOrders h0_faultPlace f_h0_tokens h0_draft_clauses h0_draft_length f_h0_draft_code Q) (e_0 : lv ≤ a.toInt) {Q : Int32 → (Int32 × Int32 × Int32 × (Nat → Int32)) → Prop} (hq : ∀ (r : Int32) (u_0 : Int32) (u_1 : Int32) (u_2 : Int32) (u_3 : Nat → Int32), (0 ≤ u_2.toInt ∧ u_2.toInt ≤ 400) ∧ (CD u_3) → Q r (u_0, u_1, u_2, u_3)) (Qb : Int32 → Int32 → Int32 → Int32 → Int32 → (Nat → Int32) → Prop) (KX : ∀ (x_4_0 : Int32) (x_4_1 : Int32) (x_4_2 : Int32) (x_4_3 : Int32) (x_4_4 : Int32) (x_4_5 : Nat → Int32), (400 ≤ x_4_0.toInt ∧ x_4_0.toInt ≤ 400) ∧ ((-1) ≤ x_4_1.toInt ∧ x_4_1.toInt ≤ 3) ∧ (0 ≤ x_4_4.toInt ∧ x_4_4.toInt ≤ 400) ∧ (CD x_4_5) → Qb x_4_0 x_4_1 x_4_2 x_4_3 x_4_4 x_4_5) : ∀ (n : Nat) (x_4_0 : Int32) (x_4_1 : Int32) (x_4_2 : Int32) (x_4_3 : Int32) (x_4_4 : Int32) (x_4_5 : Nat → Int32), (0 ≤ x_4_0.toInt ∧ x_4_0.toInt ≤ 400) ∧ ((-1) ≤ x_4_1.toInt ∧ x_4_1.toInt ≤ 3) ∧ (0 ≤ x_4_4.toInt ∧ x_4_4.toInt ≤ 400) ∧ (CD x_4_5) → 401 - x_4_0.toInt < (n : Int) → wl_X5_readSum_4 a h0_length h0_tokenCount h0_asOrders h0_faultPlace f_h0_tokens h0_draft_clauses wS Q Qb n x_4_0 x_4_1 x_4_2 x_4_3 x_4_4 x_4_5 := by
  intro n
  induction n with
  | zero =>
    intro x_4_0 x_4_1 x_4_2 x_4_3 x_4_4 x_4_5 hI hm
    exfalso; have hm : 401 - x_4_0.toInt < 0 := hm; omega
  | succ n ih =>
    intro x_4_0 x_4_1 x_4_2 x_4_3 x_4_4 x_4_5 hI hm
    have hm : 401 - x_4_0.toInt < (n : Int) + 1 := by simpa using hm
    have h_x_4_0 := hI.1
    have h_x_4_1 := hI.2.1
    have h_x_4_4 := hI.2.2.1
    have h_x_4_5 := hI.2.2.2
    unfold wl_X5_readSum_4
    by_cases c1 : 400 ≤ x_4_0
    · refine br1 c1 ?_
      have d2 := le_z (a := 400) (b := x_4_0) (x := 400) (y := (Int32.toInt x_4_0)) rfl rfl c1
      exact KX _ _ _ _ _ _ ⟨⟨by omega, by omega⟩, ⟨by omega, by omega⟩, ⟨by omega, by omega⟩, h_x_4_5⟩
    · refine br0 c1 ?_
      have d3 := nle_z (a := 400) (b := x_4_0) (x := 400) (y := (Int32.toInt x_4_0)) rfl rfl c1
      have k6 : Int32.toInt 0 = 0 := rfl
      have k7 : Int32.toInt (-1) = (-1) := (by decide)
      refine sl_X5_readSum_17 a h0_length h0_tokenCount h0_asOrders h0_faultPlace (f_h0_tokens) h0_draft_clauses wS lv ⟨by omega, by omega⟩ ⟨by omega, by omega⟩ ⟨by omega, by omega⟩ ⟨by omega, by omega⟩ ⟨by omega, by omega⟩ hS e_0 hq _ (fun x4_0 x4_1 x4_2 x4_3 x4_4 x4_5 X5 => ?_) 1000000000000 0 (-1) x_4_2 x_4_3 x_4_4 (x_4_5) ⟨(by decide), (by decide), ⟨by omega, by omega⟩, h_x_4_5⟩ (by omega)
      have j8 := X5.1
      have j9 := X5.2.1
      have j10 := X5.2.2.1
      have j11 := X5.2.2.2
      refine s_X5_write x_4_1 0 x4_4 (x4_5) ⟨by omega, by omega⟩ (by decide) ⟨by omega, by omega⟩ j11 (fun r12 u13_0 u13_1 H14 => ?_)
      have j15 := H14.1
      have j16 := H14.2
      refine un2_i ?_
      by_cases c17 : r12 = 0
      · refine br1 c17 ?_
        have d18 := eq_z (a := r12) (b := 0) (x := (Int32.toInt r12)) (y := 0) rfl rfl c17
        exact hq _ _ _ _ _ ⟨⟨by omega, by omega⟩, j16⟩
      · refine br0 c17 ?_
        have d19 := ne_z (a := r12) (b := 0) (x := (Int32.toInt r12)) (y := 0) rfl rfl c17
        refine s_X5_tokenNow h0_tokenCount x4_2 (f_h0_tokens) ⟨by omega, by omega⟩ (fun r20 H21 => ?_)
        refine s_X5_addingOf r20  (fun r22 H23 => ?_)
        have j24 := H23
        by_cases c25 : r22 = (-1)
        · refine br1 c25 ?_
          have d26 := eq_z (a := r22) (b := (-1)) (x := (Int32.toInt r22)) (y := (-1)) rfl (by decide) c25
          exact hq _ _ _ _ _ ⟨⟨by omega, by omega⟩, j16⟩
        · refine br0 c25 ?_
          have d27 := ne_z (a := r22) (b := (-1)) (x := (Int32.toInt r22)) (y := (-1)) rfl (by decide) c25
          have t28 : (Int32.toInt (x_4_0 + 1)) = (Int32.toInt x_4_0) + 1 := add_z rfl rfl (by omega) (by omega)
          exact ih _ _ _ _ _ _ ⟨⟨by omega, by omega⟩, ⟨by omega, by omega⟩, ⟨by omega, by omega⟩, j16⟩ (by omega)
set_option maxRecDepth 100000 in
theorem s_X5_readSum (wS : Int32 → Int32 → Int32 → Int32 → Int32 → Int32 → Int32 → (Nat → Int32) → Int32 → Int32 → (Nat → Int32) → (Int32 → (Int32 × Int32 × Int32 × (Nat → Int32)) → Prop) → Prop) (a : Int32) (h0_length : Int32) (h0_tokenCount : Int32) (h0_now : Int32) (h0_parts : Int32) (h0_asOrders : Int32) (h0_faultPlace : Int32) (f_h0_tokens : Nat → Int32) (h0_draft_clauses : Int32) (h0_draft_length : Int32) (f_h0_draft_code : Nat → Int32) (lv : Int) (hS : ∀ (a : Int32) (h0_length : Int32) (h0_tokenCount : Int32) (h0_now : Int32) (h0_parts : Int32) (h0_asOrders : Int32) (h0_faultPlace : Int32) (f_h0_tokens : Nat → Int32) (h0_draft_clauses : Int32) (h0_draft_length : Int32) (f_h0_draft_code : Nat → Int32), (0 ≤ a.toInt ∧ a.toInt ≤ 8) → (0 ≤ h0_length.toInt ∧ h0_length.toInt ≤ 400) → (0 ≤ h0_tokenCount.toInt ∧ h0_tokenCount.toInt ≤ 401) → (0 ≤ h0_asOrders.toInt ∧ h0_asOrders.toInt ≤ 1) → (0 ≤ h0_draft_clauses.toInt ∧ h0_draft_clauses.toInt ≤ 12) → (0 ≤ h0_draft_length.toInt ∧ h0_draft_length.toInt ≤ 400) → (CD f_h0_draft_code) → (lv ≤ a.toInt) → ∀ {Q : Int32 → (Int32 × Int32 × Int32 × (Nat → Int32)) → Prop}, (∀ (r : Int32) (u_0 : Int32) (u_1 : Int32) (u_2 : Int32) (u_3 : Nat → Int32), (0 ≤ u_2.toInt ∧ u_2.toInt ≤ 400) ∧ (CD u_3) → Q r (u_0, u_1, u_2, u_3)) → wS a h0_length h0_tokenCount h0_now h0_parts h0_asOrders h0_faultPlace f_h0_tokens h0_draft_clauses h0_draft_length f_h0_draft_code Q) (h_a : 0 ≤ a.toInt ∧ a.toInt ≤ 8) (h_h0_length : 0 ≤ h0_length.toInt ∧ h0_length.toInt ≤ 400) (h_h0_tokenCount : 0 ≤ h0_tokenCount.toInt ∧ h0_tokenCount.toInt ≤ 401) (h_h0_asOrders : 0 ≤ h0_asOrders.toInt ∧ h0_asOrders.toInt ≤ 1) (h_h0_draft_clauses : 0 ≤ h0_draft_clauses.toInt ∧ h0_draft_clauses.toInt ≤ 12) (h_h0_draft_length : 0 ≤ h0_draft_length.toInt ∧ h0_draft_length.toInt ≤ 400) (h_f_h0_draft_code : CD f_h0_draft_code) (e_0 : lv ≤ a.toInt) {Q : Int32 → (Int32 × Int32 × Int32 × (Nat → Int32)) → Prop} (hq : ∀ (r : Int32) (u_0 : Int32) (u_1 : Int32) (u_2 : Int32) (u_3 : Nat → Int32), (0 ≤ u_2.toInt ∧ u_2.toInt ≤ 400) ∧ (CD u_3) → Q r (u_0, u_1, u_2, u_3)) : wp_X5_readSum wS a h0_length h0_tokenCount h0_now h0_parts h0_asOrders h0_faultPlace f_h0_tokens h0_draft_clauses h0_draft_length f_h0_draft_code Q := by
  unfold wp_X5_readSum
  have k3 : Int32.toInt 0 = 0 := rfl
  have k4 : Int32.toInt (-1) = (-1) := (by decide)
  refine sl_X5_readSum_4 a h0_length h0_tokenCount h0_asOrders h0_faultPlace (f_h0_tokens) h0_draft_clauses wS lv ⟨by omega, by omega⟩ ⟨by omega, by omega⟩ ⟨by omega, by omega⟩ ⟨by omega, by omega⟩ ⟨by omega, by omega⟩ hS e_0 hq _ (fun x1_0 x1_1 x1_2 x1_3 x1_4 x1_5 X2 => ?_) 1000000000000 0 (-1) h0_now h0_parts h0_draft_length (f_h0_draft_code) ⟨(by decide), (by decide), ⟨by omega, by omega⟩, h_f_h0_draft_code⟩ (by omega)
  have j5 := X2.1
  have j6 := X2.2.1
  have j7 := X2.2.2.1
  have j8 := X2.2.2.2
  exact hq _ _ _ _ _ ⟨⟨by omega, by omega⟩, j8⟩


theorem q_sum : ∀ (n : Nat) (a : Int32) (h0_length : Int32) (h0_tokenCount : Int32) (h0_now : Int32) (h0_parts : Int32) (h0_asOrders : Int32) (h0_faultPlace : Int32) (f_h0_tokens : Nat → Int32) (h0_draft_clauses : Int32) (h0_draft_length : Int32) (f_h0_draft_code : Nat → Int32), (0 ≤ a.toInt ∧ a.toInt ≤ 8) → (0 ≤ h0_length.toInt ∧ h0_length.toInt ≤ 400) → (0 ≤ h0_tokenCount.toInt ∧ h0_tokenCount.toInt ≤ 401) → (0 ≤ h0_asOrders.toInt ∧ h0_asOrders.toInt ≤ 1) → (0 ≤ h0_draft_clauses.toInt ∧ h0_draft_clauses.toInt ≤ 12) → (0 ≤ h0_draft_length.toInt ∧ h0_draft_length.toInt ≤ 400) → (CD f_h0_draft_code) → (9 - (n : Int) ≤ a.toInt) → ∀ {Q : Int32 → (Int32 × Int32 × Int32 × (Nat → Int32)) → Prop}, (∀ (r : Int32) (u_0 : Int32) (u_1 : Int32) (u_2 : Int32) (u_3 : Nat → Int32), (0 ≤ u_2.toInt ∧ u_2.toInt ≤ 400) ∧ (CD u_3) → Q r (u_0, u_1, u_2, u_3)) → wq_sum n a h0_length h0_tokenCount h0_now h0_parts h0_asOrders h0_faultPlace f_h0_tokens h0_draft_clauses h0_draft_length f_h0_draft_code Q := by
  intro n
  induction n with
  | zero =>
    intro a h0_length h0_tokenCount h0_now h0_parts h0_asOrders h0_faultPlace f_h0_tokens h0_draft_clauses h0_draft_length f_h0_draft_code h_a h_h0_length h_h0_tokenCount h_h0_asOrders h_h0_draft_clauses h_h0_draft_length h_f_h0_draft_code e Q hq
    exfalso; have e : 9 - 0 ≤ a.toInt := e; omega
  | succ n ih =>
    intro a h0_length h0_tokenCount h0_now h0_parts h0_asOrders h0_faultPlace f_h0_tokens h0_draft_clauses h0_draft_length f_h0_draft_code h_a h_h0_length h_h0_tokenCount h_h0_asOrders h_h0_draft_clauses h_h0_draft_length h_f_h0_draft_code e Q hq
    have e : 9 - ((n : Int) + 1) ≤ a.toInt := by simpa using e
    show wp_X5_readSum (wp_X5_readPart (wq_sum n)) a h0_length h0_tokenCount h0_now h0_parts h0_asOrders h0_faultPlace f_h0_tokens h0_draft_clauses h0_draft_length f_h0_draft_code Q
    refine s_X5_readSum (wp_X5_readPart (wq_sum n)) a h0_length h0_tokenCount h0_now h0_parts h0_asOrders h0_faultPlace f_h0_tokens h0_draft_clauses h0_draft_length f_h0_draft_code (8 - (n : Int)) (fun a h0_length h0_tokenCount h0_now h0_parts h0_asOrders h0_faultPlace f_h0_tokens h0_draft_clauses h0_draft_length f_h0_draft_code h_a h_h0_length h_h0_tokenCount h_h0_asOrders h_h0_draft_clauses h_h0_draft_length h_f_h0_draft_code e2 Q2 hq2 => ?_) h_a h_h0_length h_h0_tokenCount h_h0_asOrders h_h0_draft_clauses h_h0_draft_length h_f_h0_draft_code (by omega) hq
    exact s_X5_readPart (wq_sum n) a h0_length h0_tokenCount h0_now h0_parts h0_asOrders h0_faultPlace f_h0_tokens h0_draft_clauses h0_draft_length f_h0_draft_code (8 - (n : Int)) (fun a h0_length h0_tokenCount h0_now h0_parts h0_asOrders h0_faultPlace f_h0_tokens h0_draft_clauses h0_draft_length f_h0_draft_code h_a h_h0_length h_h0_tokenCount h_h0_asOrders h_h0_draft_clauses h_h0_draft_length h_f_h0_draft_code e3 Q3 hq3 => ih a h0_length h0_tokenCount h0_now h0_parts h0_asOrders h0_faultPlace f_h0_tokens h0_draft_clauses h0_draft_length f_h0_draft_code h_a h_h0_length h_h0_tokenCount h_h0_asOrders h_h0_draft_clauses h_h0_draft_length h_f_h0_draft_code (by omega) hq3) h_a h_h0_length h_h0_tokenCount h_h0_asOrders h_h0_draft_clauses h_h0_draft_length h_f_h0_draft_code e2 hq2
theorem s_X5_readSum_top (a : Int32) (h0_length : Int32) (h0_tokenCount : Int32) (h0_now : Int32) (h0_parts : Int32) (h0_asOrders : Int32) (h0_faultPlace : Int32) (f_h0_tokens : Nat → Int32) (h0_draft_clauses : Int32) (h0_draft_length : Int32) (f_h0_draft_code : Nat → Int32) (h_a : 0 ≤ a.toInt ∧ a.toInt ≤ 8) (h_h0_length : 0 ≤ h0_length.toInt ∧ h0_length.toInt ≤ 400) (h_h0_tokenCount : 0 ≤ h0_tokenCount.toInt ∧ h0_tokenCount.toInt ≤ 401) (h_h0_asOrders : 0 ≤ h0_asOrders.toInt ∧ h0_asOrders.toInt ≤ 1) (h_h0_draft_clauses : 0 ≤ h0_draft_clauses.toInt ∧ h0_draft_clauses.toInt ≤ 12) (h_h0_draft_length : 0 ≤ h0_draft_length.toInt ∧ h0_draft_length.toInt ≤ 400) (h_f_h0_draft_code : CD f_h0_draft_code) {Q : Int32 → (Int32 × Int32 × Int32 × (Nat → Int32)) → Prop} (hq : ∀ (r : Int32) (u_0 : Int32) (u_1 : Int32) (u_2 : Int32) (u_3 : Nat → Int32), (0 ≤ u_2.toInt ∧ u_2.toInt ≤ 400) ∧ (CD u_3) → Q r (u_0, u_1, u_2, u_3)) : (wq_sum 9) a h0_length h0_tokenCount h0_now h0_parts h0_asOrders h0_faultPlace f_h0_tokens h0_draft_clauses h0_draft_length f_h0_draft_code Q := q_sum 9 a h0_length h0_tokenCount h0_now h0_parts h0_asOrders h0_faultPlace f_h0_tokens h0_draft_clauses h0_draft_length f_h0_draft_code h_a h_h0_length h_h0_tokenCount h_h0_asOrders h_h0_draft_clauses h_h0_draft_length h_f_h0_draft_code (by omega) hq

set_option maxRecDepth 100000 in
theorem sl_X5_readPlain_4 (h0_tokenCount : Int32) (f_h0_tokens : Nat → Int32) (h_h0_tokenCount : 0 ≤ h0_tokenCount.toInt ∧ h0_tokenCount.toInt ≤ 401) (Qb : Int32 → Int32 → Int32 → Prop) (KX : ∀ (x_4_0 : Int32) (x_4_1 : Int32) (x_4_2 : Int32), (0 ≤ x_4_0.toInt ∧ x_4_0.toInt ≤ 400) ∧ (0 ≤ x_4_1.toInt ∧ x_4_1.toInt ≤ 1) → Qb x_4_0 x_4_1 x_4_2) : ∀ (n : Nat) (x_4_0 : Int32) (x_4_1 : Int32) (x_4_2 : Int32), (0 ≤ x_4_0.toInt ∧ x_4_0.toInt ≤ 400) ∧ (0 ≤ x_4_1.toInt ∧ x_4_1.toInt ≤ 1) → 401 - x_4_0.toInt < (n : Int) → wl_X5_readPlain_4 h0_tokenCount f_h0_tokens Qb n x_4_0 x_4_1 x_4_2 := by
  intro n
  induction n with
  | zero =>
    intro x_4_0 x_4_1 x_4_2 hI hm
    exfalso; have hm : 401 - x_4_0.toInt < 0 := hm; omega
  | succ n ih =>
    intro x_4_0 x_4_1 x_4_2 hI hm
    have hm : 401 - x_4_0.toInt < (n : Int) + 1 := by simpa using hm
    have h_x_4_0 := hI.1
    have h_x_4_1 := hI.2
    unfold wl_X5_readPlain_4
    by_cases c1 : 400 ≤ x_4_0
    · refine br1 c1 ?_
      have d2 := le_z (a := 400) (b := x_4_0) (x := 400) (y := (Int32.toInt x_4_0)) rfl rfl c1
      exact KX _ _ _ ⟨⟨by omega, by omega⟩, ⟨by omega, by omega⟩⟩
    · refine br0 c1 ?_
      have d3 := nle_z (a := 400) (b := x_4_0) (x := 400) (y := (Int32.toInt x_4_0)) rfl rfl c1
      refine s_X5_take 8 h0_tokenCount x_4_2 (f_h0_tokens) ⟨by omega, by omega⟩ (fun r4 u5 H6 => ?_)
      by_cases c7 : r4 = 0
      · refine br1 c7 ?_
        have d8 := eq_z (a := r4) (b := 0) (x := (Int32.toInt r4)) (y := 0) rfl rfl c7
        exact KX _ _ _ ⟨⟨by omega, by omega⟩, ⟨by omega, by omega⟩⟩
      · refine br0 c7 ?_
        have d9 := ne_z (a := r4) (b := 0) (x := (Int32.toInt r4)) (y := 0) rfl rfl c7
        by_cases c10 : x_4_1 = 0
        · refine br1 c10 ?_
          have d11 := eq_z (a := x_4_1) (b := 0) (x := (Int32.toInt x_4_1)) (y := 0) rfl rfl c10
          have t12 : (Int32.toInt (x_4_0 + 1)) = (Int32.toInt x_4_0) + 1 := add_z rfl rfl (by omega) (by omega)
          exact ih _ _ _ ⟨⟨by omega, by omega⟩, (by decide)⟩ (by omega)
        · refine br0 c10 ?_
          have d13 := ne_z (a := x_4_1) (b := 0) (x := (Int32.toInt x_4_1)) (y := 0) rfl rfl c10
          have t14 : (Int32.toInt (x_4_0 + 1)) = (Int32.toInt x_4_0) + 1 := add_z rfl rfl (by omega) (by omega)
          exact ih _ _ _ ⟨⟨by omega, by omega⟩, (by decide)⟩ (by omega)
set_option maxRecDepth 100000 in
theorem s_X5_readPlain (wS : Int32 → Int32 → Int32 → Int32 → Int32 → Int32 → Int32 → (Nat → Int32) → Int32 → Int32 → (Nat → Int32) → (Int32 → (Int32 × Int32 × Int32 × (Nat → Int32)) → Prop) → Prop) (a : Int32) (h0_length : Int32) (h0_tokenCount : Int32) (h0_now : Int32) (h0_parts : Int32) (h0_asOrders : Int32) (h0_faultPlace : Int32) (f_h0_tokens : Nat → Int32) (h0_draft_clauses : Int32) (h0_draft_length : Int32) (f_h0_draft_code : Nat → Int32) (lv : Int) (hS : ∀ (a : Int32) (h0_length : Int32) (h0_tokenCount : Int32) (h0_now : Int32) (h0_parts : Int32) (h0_asOrders : Int32) (h0_faultPlace : Int32) (f_h0_tokens : Nat → Int32) (h0_draft_clauses : Int32) (h0_draft_length : Int32) (f_h0_draft_code : Nat → Int32), (0 ≤ a.toInt ∧ a.toInt ≤ 8) → (0 ≤ h0_length.toInt ∧ h0_length.toInt ≤ 400) → (0 ≤ h0_tokenCount.toInt ∧ h0_tokenCount.toInt ≤ 401) → (0 ≤ h0_asOrders.toInt ∧ h0_asOrders.toInt ≤ 1) → (0 ≤ h0_draft_clauses.toInt ∧ h0_draft_clauses.toInt ≤ 12) → (0 ≤ h0_draft_length.toInt ∧ h0_draft_length.toInt ≤ 400) → (CD f_h0_draft_code) → (lv + 1 ≤ a.toInt) → ∀ {Q : Int32 → (Int32 × Int32 × Int32 × (Nat → Int32)) → Prop}, (∀ (r : Int32) (u_0 : Int32) (u_1 : Int32) (u_2 : Int32) (u_3 : Nat → Int32), (0 ≤ u_2.toInt ∧ u_2.toInt ≤ 400) ∧ (CD u_3) → Q r (u_0, u_1, u_2, u_3)) → wS a h0_length h0_tokenCount h0_now h0_parts h0_asOrders h0_faultPlace f_h0_tokens h0_draft_clauses h0_draft_length f_h0_draft_code Q) (h_a : 0 ≤ a.toInt ∧ a.toInt ≤ 8) (h_h0_length : 0 ≤ h0_length.toInt ∧ h0_length.toInt ≤ 400) (h_h0_tokenCount : 0 ≤ h0_tokenCount.toInt ∧ h0_tokenCount.toInt ≤ 401) (h_h0_asOrders : 0 ≤ h0_asOrders.toInt ∧ h0_asOrders.toInt ≤ 1) (h_h0_draft_clauses : 0 ≤ h0_draft_clauses.toInt ∧ h0_draft_clauses.toInt ≤ 12) (h_h0_draft_length : 0 ≤ h0_draft_length.toInt ∧ h0_draft_length.toInt ≤ 400) (h_f_h0_draft_code : CD f_h0_draft_code) (e_0 : lv ≤ a.toInt) {Q : Int32 → (Int32 × Int32 × Int32 × (Nat → Int32)) → Prop} (hq : ∀ (r : Int32) (u_0 : Int32) (u_1 : Int32) (u_2 : Int32) (u_3 : Nat → Int32), (0 ≤ u_2.toInt ∧ u_2.toInt ≤ 400) ∧ (CD u_3) → Q r (u_0, u_1, u_2, u_3)) : wp_X5_readPlain wS a h0_length h0_tokenCount h0_now h0_parts h0_asOrders h0_faultPlace f_h0_tokens h0_draft_clauses h0_draft_length f_h0_draft_code Q := by
  unfold wp_X5_readPlain
  have k3 : Int32.toInt 0 = 0 := rfl
  refine sl_X5_readPlain_4 h0_tokenCount (f_h0_tokens) ⟨by omega, by omega⟩ _ (fun x1_0 x1_1 x1_2 X2 => ?_) 1000000000000 0 0 h0_now ⟨(by decide), (by decide)⟩ (by omega)
  have j4 := X2.1
  have j5 := X2.2
  refine s_X5_tokenNow h0_tokenCount x1_2 (f_h0_tokens) ⟨by omega, by omega⟩ (fun r6 H7 => ?_)
  refine jn_s ?_
  by_cases c8 : r6 = 140
  · refine br1 c8 ?_
    have d9 := eq_z (a := r6) (b := 140) (x := (Int32.toInt r6)) (y := 140) rfl rfl c8
    refine s_X5_open a x1_2  (fun r10 u11 H12 => ?_)
    have j13 := H12
    by_cases c14 : r10 = 0
    · refine br1 c14 ?_
      have d15 := eq_z (a := r10) (b := 0) (x := (Int32.toInt r10)) (y := 0) rfl rfl c14
      exact hq _ _ _ _ _ ⟨⟨by omega, by omega⟩, h_f_h0_draft_code⟩
    · refine br0 c14 ?_
      have d16 := ne_z (a := r10) (b := 0) (x := (Int32.toInt r10)) (y := 0) rfl rfl c14
      have t17 : (Int32.toInt (a + 1)) = (Int32.toInt a) + 1 := add_z rfl rfl (by omega) (by omega)
      refine hS (a + 1) h0_length h0_tokenCount u11 h0_parts h0_asOrders h0_faultPlace (f_h0_tokens) h0_draft_clauses h0_draft_length (f_h0_draft_code) ⟨by omega, by omega⟩ ⟨by omega, by omega⟩ ⟨by omega, by omega⟩ ⟨by omega, by omega⟩ ⟨by omega, by omega⟩ ⟨by omega, by omega⟩ h_f_h0_draft_code (by omega) (fun r18 u19_0 u19_1 u19_2 u19_3 H20 => ?_)
      have j21 := H20.1
      have j22 := H20.2
      refine un4_i ?_
      by_cases c23 : r18 = 0
      · refine br1 c23 ?_
        have d24 := eq_z (a := r18) (b := 0) (x := (Int32.toInt r18)) (y := 0) rfl rfl c23
        exact hq _ _ _ _ _ ⟨⟨by omega, by omega⟩, j22⟩
      · refine br0 c23 ?_
        have d25 := ne_z (a := r18) (b := 0) (x := (Int32.toInt r18)) (y := 0) rfl rfl c23
        refine s_X5_take 141 h0_tokenCount u19_0 (f_h0_tokens) ⟨by omega, by omega⟩ (fun r26 u27 H28 => ?_)
        by_cases c29 : r26 = 0
        · refine br1 c29 ?_
          have d30 := eq_z (a := r26) (b := 0) (x := (Int32.toInt r26)) (y := 0) rfl rfl c29
          exact hq _ _ _ _ _ ⟨⟨by omega, by omega⟩, j22⟩
        · refine br0 c29 ?_
          have d31 := ne_z (a := r26) (b := 0) (x := (Int32.toInt r26)) (y := 0) rfl rfl c29
          refine un4_i ?_
          by_cases c32 : x1_1 = 0
          · refine br1 c32 ?_
            have d33 := eq_z (a := x1_1) (b := 0) (x := (Int32.toInt x1_1)) (y := 0) rfl rfl c32
            exact hq _ _ _ _ _ ⟨⟨by omega, by omega⟩, j22⟩
          · refine br0 c32 ?_
            have d34 := ne_z (a := x1_1) (b := 0) (x := (Int32.toInt x1_1)) (y := 0) rfl rfl c32
            refine s_X5_write 10 0 u19_2 (u19_3) (by decide) (by decide) ⟨by omega, by omega⟩ j22 (fun r35 u36_0 u36_1 H37 => ?_)
            have j38 := H37.1
            have j39 := H37.2
            refine un2_i ?_
            by_cases c40 : r35 = 0
            · refine br1 c40 ?_
              have d41 := eq_z (a := r35) (b := 0) (x := (Int32.toInt r35)) (y := 0) rfl rfl c40
              exact hq _ _ _ _ _ ⟨⟨by omega, by omega⟩, j39⟩
            · refine br0 c40 ?_
              have d42 := ne_z (a := r35) (b := 0) (x := (Int32.toInt r35)) (y := 0) rfl rfl c40
              exact hq _ _ _ _ _ ⟨⟨by omega, by omega⟩, j39⟩
  · refine br0 c8 ?_
    have d43 := ne_z (a := r6) (b := 140) (x := (Int32.toInt r6)) (y := 140) rfl rfl c8
    refine s_X5_readSum_top a h0_length h0_tokenCount x1_2 h0_parts h0_asOrders h0_faultPlace (f_h0_tokens) h0_draft_clauses h0_draft_length (f_h0_draft_code) ⟨by omega, by omega⟩ ⟨by omega, by omega⟩ ⟨by omega, by omega⟩ ⟨by omega, by omega⟩ ⟨by omega, by omega⟩ ⟨by omega, by omega⟩ h_f_h0_draft_code (fun r44 u45_0 u45_1 u45_2 u45_3 H46 => ?_)
    have j47 := H46.1
    have j48 := H46.2
    refine un4_i ?_
    by_cases c49 : r44 = 0
    · refine br1 c49 ?_
      have d50 := eq_z (a := r44) (b := 0) (x := (Int32.toInt r44)) (y := 0) rfl rfl c49
      exact hq _ _ _ _ _ ⟨⟨by omega, by omega⟩, j48⟩
    · refine br0 c49 ?_
      have d51 := ne_z (a := r44) (b := 0) (x := (Int32.toInt r44)) (y := 0) rfl rfl c49
      refine s_X5_tokenNow h0_tokenCount u45_0 (f_h0_tokens) ⟨by omega, by omega⟩ (fun r52 H53 => ?_)
      refine s_X5_comparisonOf r52  (fun r54 H55 => ?_)
      have j56 := H55
      by_cases c57 : r54 = (-1)
      · refine br1 c57 ?_
        have d58 := eq_z (a := r54) (b := (-1)) (x := (Int32.toInt r54)) (y := (-1)) rfl (by decide) c57
        exact hq _ _ _ _ _ ⟨⟨by omega, by omega⟩, j48⟩
      · refine br0 c57 ?_
        have d59 := ne_z (a := r54) (b := (-1)) (x := (Int32.toInt r54)) (y := (-1)) rfl (by decide) c57
        refine s_X5_readSum_top a h0_length h0_tokenCount (u45_0 + 1) u45_1 h0_asOrders h0_faultPlace (f_h0_tokens) h0_draft_clauses u45_2 (u45_3) ⟨by omega, by omega⟩ ⟨by omega, by omega⟩ ⟨by omega, by omega⟩ ⟨by omega, by omega⟩ ⟨by omega, by omega⟩ ⟨by omega, by omega⟩ j48 (fun r60 u61_0 u61_1 u61_2 u61_3 H62 => ?_)
        have j63 := H62.1
        have j64 := H62.2
        refine un4_i ?_
        by_cases c65 : r60 = 0
        · refine br1 c65 ?_
          have d66 := eq_z (a := r60) (b := 0) (x := (Int32.toInt r60)) (y := 0) rfl rfl c65
          exact hq _ _ _ _ _ ⟨⟨by omega, by omega⟩, j64⟩
        · refine br0 c65 ?_
          have d67 := ne_z (a := r60) (b := 0) (x := (Int32.toInt r60)) (y := 0) rfl rfl c65
          refine s_X5_write r54 0 u61_2 (u61_3) ⟨by omega, by omega⟩ (by decide) ⟨by omega, by omega⟩ j64 (fun r68 u69_0 u69_1 H70 => ?_)
          have j71 := H70.1
          have j72 := H70.2
          refine un2_i ?_
          by_cases c73 : r68 = 0
          · refine br1 c73 ?_
            have d74 := eq_z (a := r68) (b := 0) (x := (Int32.toInt r68)) (y := 0) rfl rfl c73
            exact hq _ _ _ _ _ ⟨⟨by omega, by omega⟩, j72⟩
          · refine br0 c73 ?_
            have d75 := ne_z (a := r68) (b := 0) (x := (Int32.toInt r68)) (y := 0) rfl rfl c73
            refine un4_i ?_
            by_cases c76 : x1_1 = 0
            · refine br1 c76 ?_
              have d77 := eq_z (a := x1_1) (b := 0) (x := (Int32.toInt x1_1)) (y := 0) rfl rfl c76
              exact hq _ _ _ _ _ ⟨⟨by omega, by omega⟩, j72⟩
            · refine br0 c76 ?_
              have d78 := ne_z (a := x1_1) (b := 0) (x := (Int32.toInt x1_1)) (y := 0) rfl rfl c76
              refine s_X5_write 10 0 u69_0 (u69_1) (by decide) (by decide) ⟨by omega, by omega⟩ j72 (fun r79 u80_0 u80_1 H81 => ?_)
              have j82 := H81.1
              have j83 := H81.2
              refine un2_i ?_
              by_cases c84 : r79 = 0
              · refine br1 c84 ?_
                have d85 := eq_z (a := r79) (b := 0) (x := (Int32.toInt r79)) (y := 0) rfl rfl c84
                exact hq _ _ _ _ _ ⟨⟨by omega, by omega⟩, j83⟩
              · refine br0 c84 ?_
                have d86 := ne_z (a := r79) (b := 0) (x := (Int32.toInt r79)) (y := 0) rfl rfl c84
                exact hq _ _ _ _ _ ⟨⟨by omega, by omega⟩, j83⟩


set_option maxRecDepth 100000 in
theorem sl_X5_readTest_17 (a : Int32) (h0_length : Int32) (h0_tokenCount : Int32) (h0_asOrders : Int32) (h0_faultPlace : Int32) (f_h0_tokens : Nat → Int32) (h0_draft_clauses : Int32) (wS : Int32 → Int32 → Int32 → Int32 → Int32 → Int32 → Int32 → (Nat → Int32) → Int32 → Int32 → (Nat → Int32) → (Int32 → (Int32 × Int32 × Int32 × (Nat → Int32)) → Prop) → Prop) (lv : Int) (h_a : 0 ≤ a.toInt ∧ a.toInt ≤ 8) (h_h0_length : 0 ≤ h0_length.toInt ∧ h0_length.toInt ≤ 400) (h_h0_tokenCount : 0 ≤ h0_tokenCount.toInt ∧ h0_tokenCount.toInt ≤ 401) (h_h0_asOrders : 0 ≤ h0_asOrders.toInt ∧ h0_asOrders.toInt ≤ 1) (h_h0_draft_clauses : 0 ≤ h0_draft_clauses.toInt ∧ h0_draft_clauses.toInt ≤ 12) (hS : ∀ (a : Int32) (h0_length : Int32) (h0_tokenCount : Int32) (h0_now : Int32) (h0_parts : Int32) (h0_asOrders : Int32) (h0_faultPlace : Int32) (f_h0_tokens : Nat → Int32) (h0_draft_clauses : Int32) (h0_draft_length : Int32) (f_h0_draft_code : Nat → Int32), (0 ≤ a.toInt ∧ a.toInt ≤ 8) → (0 ≤ h0_length.toInt ∧ h0_length.toInt ≤ 400) → (0 ≤ h0_tokenCount.toInt ∧ h0_tokenCount.toInt ≤ 401) → (0 ≤ h0_asOrders.toInt ∧ h0_asOrders.toInt ≤ 1) → (0 ≤ h0_draft_clauses.toInt ∧ h0_draft_clauses.toInt ≤ 12) → (0 ≤ h0_draft_length.toInt ∧ h0_draft_length.toInt ≤ 400) → (CD f_h0_draft_code) → (lv ≤ a.toInt) → ∀ {Q : Int32 → (Int32 × Int32 × Int32 × (Nat → Int32)) → Prop}, (∀ (r : Int32) (u_0 : Int32) (u_1 : Int32) (u_2 : Int32) (u_3 : Nat → Int32), (0 ≤ u_2.toInt ∧ u_2.toInt ≤ 400) ∧ (CD u_3) → Q r (u_0, u_1, u_2, u_3)) → wS a h0_length h0_tokenCount h0_now h0_parts h0_asOrders h0_faultPlace f_h0_tokens h0_draft_clauses h0_draft_length f_h0_draft_code Q) (e_0 : lv ≤ a.toInt) {Q : Int32 → (Int32 × Int32 × Int32 × (Nat → Int32)) → Prop} (hq : ∀ (r : Int32) (u_0 : Int32) (u_1 : Int32) (u_2 : Int32) (u_3 : Nat → Int32), (0 ≤ u_2.toInt ∧ u_2.toInt ≤ 400) ∧ (CD u_3) → Q r (u_0, u_1, u_2, u_3)) (Qb : Int32 → Int32 → Int32 → Int32 → Int32 → (Nat → Int32) → Prop) (KX : ∀ (x_17_0 : Int32) (x_17_1 : Int32) (x_17_2 : Int32) (x_17_3 : Int32) (x_17_4 : Int32) (x_17_5 : Nat → Int32), (0 ≤ x_17_0.toInt ∧ x_17_0.toInt ≤ 400) ∧ ((-1) ≤ x_17_1.toInt ∧ x_17_1.toInt ≤ 400) ∧ (0 ≤ x_17_4.toInt ∧ x_17_4.toInt ≤ 400) ∧ (CD x_17_5) → Qb x_17_0 x_17_1 x_17_2 x_17_3 x_17_4 x_17_5) : ∀ (n : Nat) (x_17_0 : Int32) (x_17_1 : Int32) (x_17_2 : Int32) (x_17_3 : Int32) (x_17_4 : Int32) (x_17_5 : Nat → Int32), (0 ≤ x_17_0.toInt ∧ x_17_0.toInt ≤ 400) ∧ ((-1) ≤ x_17_1.toInt ∧ x_17_1.toInt ≤ 400) ∧ (0 ≤ x_17_4.toInt ∧ x_17_4.toInt ≤ 400) ∧ (CD x_17_5) → 401 - x_17_0.toInt < (n : Int) → wl_X5_readTest_17 a h0_length h0_tokenCount h0_asOrders h0_faultPlace f_h0_tokens h0_draft_clauses wS Q Qb n x_17_0 x_17_1 x_17_2 x_17_3 x_17_4 x_17_5 := by
  intro n
  induction n with
  | zero =>
    intro x_17_0 x_17_1 x_17_2 x_17_3 x_17_4 x_17_5 hI hm
    exfalso; have hm : 401 - x_17_0.toInt < 0 := hm; omega
  | succ n ih =>
    intro x_17_0 x_17_1 x_17_2 x_17_3 x_17_4 x_17_5 hI hm
    have hm : 401 - x_17_0.toInt < (n : Int) + 1 := by simpa using hm
    have h_x_17_0 := hI.1
    have h_x_17_1 := hI.2.1
    have h_x_17_4 := hI.2.2.1
    have h_x_17_5 := hI.2.2.2
    unfold wl_X5_readTest_17
    by_cases c4 : 400 ≤ x_17_0
    · refine br1 c4 ?_
      have d5 := le_z (a := 400) (b := x_17_0) (x := 400) (y := (Int32.toInt x_17_0)) rfl rfl c4
      exact KX _ _ _ _ _ _ ⟨⟨by omega, by omega⟩, ⟨by omega, by omega⟩, ⟨by omega, by omega⟩, h_x_17_5⟩
    · refine br0 c4 ?_
      have d6 := nle_z (a := 400) (b := x_17_0) (x := 400) (y := (Int32.toInt x_17_0)) rfl rfl c4
      refine hS a h0_length h0_tokenCount x_17_2 x_17_3 h0_asOrders h0_faultPlace (f_h0_tokens) h0_draft_clauses x_17_4 (x_17_5) ⟨by omega, by omega⟩ ⟨by omega, by omega⟩ ⟨by omega, by omega⟩ ⟨by omega, by omega⟩ ⟨by omega, by omega⟩ ⟨by omega, by omega⟩ h_x_17_5 (by omega) (fun r7 u8_0 u8_1 u8_2 u8_3 H9 => ?_)
      have j10 := H9.1
      have j11 := H9.2
      refine un4_i ?_
      by_cases c12 : r7 = 0
      · refine br1 c12 ?_
        have d13 := eq_z (a := r7) (b := 0) (x := (Int32.toInt r7)) (y := 0) rfl rfl c12
        exact hq _ _ _ _ _ ⟨⟨by omega, by omega⟩, j11⟩
      · refine br0 c12 ?_
        have d14 := ne_z (a := r7) (b := 0) (x := (Int32.toInt r7)) (y := 0) rfl rfl c12
        refine s_X5_aimHere x_17_1 u8_2 (u8_3) ⟨by omega, by omega⟩ j11 (fun u15 H16 => ?_)
        have j17 := H16
        refine s_X5_take 7 h0_tokenCount u8_0 (f_h0_tokens) ⟨by omega, by omega⟩ (fun r18 u19 H20 => ?_)
        by_cases c21 : r18 = 0
        · refine br1 c21 ?_
          have d22 := eq_z (a := r18) (b := 0) (x := (Int32.toInt r18)) (y := 0) rfl rfl c21
          exact KX _ _ _ _ _ _ ⟨⟨by omega, by omega⟩, ⟨by omega, by omega⟩, ⟨by omega, by omega⟩, j17⟩
        · refine br0 c21 ?_
          have d23 := ne_z (a := r18) (b := 0) (x := (Int32.toInt r18)) (y := 0) rfl rfl c21
          refine s_X5_write 11 0 u8_2 (u15) (by decide) (by decide) ⟨by omega, by omega⟩ j17 (fun r24 u25_0 u25_1 H26 => ?_)
          have j27 := H26.1
          have j28 := H26.2
          refine un2_i ?_
          by_cases c29 : r24 = 0
          · refine br1 c29 ?_
            have d30 := eq_z (a := r24) (b := 0) (x := (Int32.toInt r24)) (y := 0) rfl rfl c29
            exact hq _ _ _ _ _ ⟨⟨by omega, by omega⟩, j28⟩
          · refine br0 c29 ?_
            have d31 := ne_z (a := r24) (b := 0) (x := (Int32.toInt r24)) (y := 0) rfl rfl c29
            have t32 : (Int32.toInt (x_17_0 + 1)) = (Int32.toInt x_17_0) + 1 := add_z rfl rfl (by omega) (by omega)
            exact ih _ _ _ _ _ _ ⟨⟨by omega, by omega⟩, ⟨by omega, by omega⟩, ⟨by omega, by omega⟩, j28⟩ (by omega)
set_option maxRecDepth 100000 in
theorem sl_X5_readTest_4 (a : Int32) (h0_length : Int32) (h0_tokenCount : Int32) (h0_asOrders : Int32) (h0_faultPlace : Int32) (f_h0_tokens : Nat → Int32) (h0_draft_clauses : Int32) (wS : Int32 → Int32 → Int32 → Int32 → Int32 → Int32 → Int32 → (Nat → Int32) → Int32 → Int32 → (Nat → Int32) → (Int32 → (Int32 × Int32 × Int32 × (Nat → Int32)) → Prop) → Prop) (lv : Int) (h_a : 0 ≤ a.toInt ∧ a.toInt ≤ 8) (h_h0_length : 0 ≤ h0_length.toInt ∧ h0_length.toInt ≤ 400) (h_h0_tokenCount : 0 ≤ h0_tokenCount.toInt ∧ h0_tokenCount.toInt ≤ 401) (h_h0_asOrders : 0 ≤ h0_asOrders.toInt ∧ h0_asOrders.toInt ≤ 1) (h_h0_draft_clauses : 0 ≤ h0_draft_clauses.toInt ∧ h0_draft_clauses.toInt ≤ 12) (hS : ∀ (a : Int32) (h0_length : Int32) (h0_tokenCount : Int32) (h0_now : Int32) (h0_parts : Int32) (h0_asOrders : Int32) (h0_faultPlace : Int32) (f_h0_tokens : Nat → Int32) (h0_draft_clauses : Int32) (h0_draft_length : Int32) (f_h0_draft_code : Nat → Int32), (0 ≤ a.toInt ∧ a.toInt ≤ 8) → (0 ≤ h0_length.toInt ∧ h0_length.toInt ≤ 400) → (0 ≤ h0_tokenCount.toInt ∧ h0_tokenCount.toInt ≤ 401) → (0 ≤ h0_asOrders.toInt ∧ h0_asOrders.toInt ≤ 1) → (0 ≤ h0_draft_clauses.toInt ∧ h0_draft_clauses.toInt ≤ 12) → (0 ≤ h0_draft_length.toInt ∧ h0_draft_length.toInt ≤ 400) → (CD f_h0_draft_code) → (lv ≤ a.toInt) → ∀ {Q : Int32 → (Int32 × Int32 × Int32 × (Nat → Int32)) → Prop}, (∀ (r : Int32) (u_0 : Int32) (u_1 : Int32) (u_2 : Int32) (u_3 : Nat → Int32), (0 ≤ u_2.toInt ∧ u_2.toInt ≤ 400) ∧ (CD u_3) → Q r (u_0, u_1, u_2, u_3)) → wS a h0_length h0_tokenCount h0_now h0_parts h0_asOrders h0_faultPlace f_h0_tokens h0_draft_clauses h0_draft_length f_h0_draft_code Q) (e_0 : lv ≤ a.toInt) {Q : Int32 → (Int32 × Int32 × Int32 × (Nat → Int32)) → Prop} (hq : ∀ (r : Int32) (u_0 : Int32) (u_1 : Int32) (u_2 : Int32) (u_3 : Nat → Int32), (0 ≤ u_2.toInt ∧ u_2.toInt ≤ 400) ∧ (CD u_3) → Q r (u_0, u_1, u_2, u_3)) (Qb : Int32 → Int32 → Int32 → Int32 → Int32 → (Nat → Int32) → Prop) (KX : ∀ (x_4_0 : Int32) (x_4_1 : Int32) (x_4_2 : Int32) (x_4_3 : Int32) (x_4_4 : Int32) (x_4_5 : Nat → Int32), (400 ≤ x_4_0.toInt ∧ x_4_0.toInt ≤ 400) ∧ ((-1) ≤ x_4_1.toInt ∧ x_4_1.toInt ≤ 400) ∧ (0 ≤ x_4_4.toInt ∧ x_4_4.toInt ≤ 400) ∧ (CD x_4_5) → Qb x_4_0 x_4_1 x_4_2 x_4_3 x_4_4 x_4_5) : ∀ (n : Nat) (x_4_0 : Int32) (x_4_1 : Int32) (x_4_2 : Int32) (x_4_3 : Int32) (x_4_4 : Int32) (x_4_5 : Nat → Int32), (0 ≤ x_4_0.toInt ∧ x_4_0.toInt ≤ 400) ∧ ((-1) ≤ x_4_1.toInt ∧ x_4_1.toInt ≤ 400) ∧ (0 ≤ x_4_4.toInt ∧ x_4_4.toInt ≤ 400) ∧ (CD x_4_5) → 401 - x_4_0.toInt < (n : Int) → wl_X5_readTest_4 a h0_length h0_tokenCount h0_asOrders h0_faultPlace f_h0_tokens h0_draft_clauses wS Q Qb n x_4_0 x_4_1 x_4_2 x_4_3 x_4_4 x_4_5 := by
  intro n
  induction n with
  | zero =>
    intro x_4_0 x_4_1 x_4_2 x_4_3 x_4_4 x_4_5 hI hm
    exfalso; have hm : 401 - x_4_0.toInt < 0 := hm; omega
  | succ n ih =>
    intro x_4_0 x_4_1 x_4_2 x_4_3 x_4_4 x_4_5 hI hm
    have hm : 401 - x_4_0.toInt < (n : Int) + 1 := by simpa using hm
    have h_x_4_0 := hI.1
    have h_x_4_1 := hI.2.1
    have h_x_4_4 := hI.2.2.1
    have h_x_4_5 := hI.2.2.2
    unfold wl_X5_readTest_4
    by_cases c1 : 400 ≤ x_4_0
    · refine br1 c1 ?_
      have d2 := le_z (a := 400) (b := x_4_0) (x := 400) (y := (Int32.toInt x_4_0)) rfl rfl c1
      exact KX _ _ _ _ _ _ ⟨⟨by omega, by omega⟩, ⟨by omega, by omega⟩, ⟨by omega, by omega⟩, h_x_4_5⟩
    · refine br0 c1 ?_
      have d3 := nle_z (a := 400) (b := x_4_0) (x := 400) (y := (Int32.toInt x_4_0)) rfl rfl c1
      have k6 : Int32.toInt 0 = 0 := rfl
      have k7 : Int32.toInt (-1) = (-1) := (by decide)
      refine sl_X5_readTest_17 a h0_length h0_tokenCount h0_asOrders h0_faultPlace (f_h0_tokens) h0_draft_clauses wS lv ⟨by omega, by omega⟩ ⟨by omega, by omega⟩ ⟨by omega, by omega⟩ ⟨by omega, by omega⟩ ⟨by omega, by omega⟩ hS e_0 hq _ (fun x4_0 x4_1 x4_2 x4_3 x4_4 x4_5 X5 => ?_) 1000000000000 0 (-1) x_4_2 x_4_3 x_4_4 (x_4_5) ⟨(by decide), (by decide), ⟨by omega, by omega⟩, h_x_4_5⟩ (by omega)
      have j8 := X5.1
      have j9 := X5.2.1
      have j10 := X5.2.2.1
      have j11 := X5.2.2.2
      refine s_X5_aimHere x_4_1 x4_4 (x4_5) ⟨by omega, by omega⟩ j11 (fun u12 H13 => ?_)
      have j14 := H13
      refine s_X5_take 6 h0_tokenCount x4_2 (f_h0_tokens) ⟨by omega, by omega⟩ (fun r15 u16 H17 => ?_)
      by_cases c18 : r15 = 0
      · refine br1 c18 ?_
        have d19 := eq_z (a := r15) (b := 0) (x := (Int32.toInt r15)) (y := 0) rfl rfl c18
        exact hq _ _ _ _ _ ⟨⟨by omega, by omega⟩, j14⟩
      · refine br0 c18 ?_
        have d20 := ne_z (a := r15) (b := 0) (x := (Int32.toInt r15)) (y := 0) rfl rfl c18
        refine s_X5_write 12 0 x4_4 (u12) (by decide) (by decide) ⟨by omega, by omega⟩ j14 (fun r21 u22_0 u22_1 H23 => ?_)
        have j24 := H23.1
        have j25 := H23.2
        refine un2_i ?_
        by_cases c26 : r21 = 0
        · refine br1 c26 ?_
          have d27 := eq_z (a := r21) (b := 0) (x := (Int32.toInt r21)) (y := 0) rfl rfl c26
          exact hq _ _ _ _ _ ⟨⟨by omega, by omega⟩, j25⟩
        · refine br0 c26 ?_
          have d28 := ne_z (a := r21) (b := 0) (x := (Int32.toInt r21)) (y := 0) rfl rfl c26
          have t29 : (Int32.toInt (x_4_0 + 1)) = (Int32.toInt x_4_0) + 1 := add_z rfl rfl (by omega) (by omega)
          exact ih _ _ _ _ _ _ ⟨⟨by omega, by omega⟩, ⟨by omega, by omega⟩, ⟨by omega, by omega⟩, j25⟩ (by omega)
set_option maxRecDepth 100000 in
theorem s_X5_readTest (wS : Int32 → Int32 → Int32 → Int32 → Int32 → Int32 → Int32 → (Nat → Int32) → Int32 → Int32 → (Nat → Int32) → (Int32 → (Int32 × Int32 × Int32 × (Nat → Int32)) → Prop) → Prop) (a : Int32) (h0_length : Int32) (h0_tokenCount : Int32) (h0_now : Int32) (h0_parts : Int32) (h0_asOrders : Int32) (h0_faultPlace : Int32) (f_h0_tokens : Nat → Int32) (h0_draft_clauses : Int32) (h0_draft_length : Int32) (f_h0_draft_code : Nat → Int32) (lv : Int) (hS : ∀ (a : Int32) (h0_length : Int32) (h0_tokenCount : Int32) (h0_now : Int32) (h0_parts : Int32) (h0_asOrders : Int32) (h0_faultPlace : Int32) (f_h0_tokens : Nat → Int32) (h0_draft_clauses : Int32) (h0_draft_length : Int32) (f_h0_draft_code : Nat → Int32), (0 ≤ a.toInt ∧ a.toInt ≤ 8) → (0 ≤ h0_length.toInt ∧ h0_length.toInt ≤ 400) → (0 ≤ h0_tokenCount.toInt ∧ h0_tokenCount.toInt ≤ 401) → (0 ≤ h0_asOrders.toInt ∧ h0_asOrders.toInt ≤ 1) → (0 ≤ h0_draft_clauses.toInt ∧ h0_draft_clauses.toInt ≤ 12) → (0 ≤ h0_draft_length.toInt ∧ h0_draft_length.toInt ≤ 400) → (CD f_h0_draft_code) → (lv ≤ a.toInt) → ∀ {Q : Int32 → (Int32 × Int32 × Int32 × (Nat → Int32)) → Prop}, (∀ (r : Int32) (u_0 : Int32) (u_1 : Int32) (u_2 : Int32) (u_3 : Nat → Int32), (0 ≤ u_2.toInt ∧ u_2.toInt ≤ 400) ∧ (CD u_3) → Q r (u_0, u_1, u_2, u_3)) → wS a h0_length h0_tokenCount h0_now h0_parts h0_asOrders h0_faultPlace f_h0_tokens h0_draft_clauses h0_draft_length f_h0_draft_code Q) (h_a : 0 ≤ a.toInt ∧ a.toInt ≤ 8) (h_h0_length : 0 ≤ h0_length.toInt ∧ h0_length.toInt ≤ 400) (h_h0_tokenCount : 0 ≤ h0_tokenCount.toInt ∧ h0_tokenCount.toInt ≤ 401) (h_h0_asOrders : 0 ≤ h0_asOrders.toInt ∧ h0_asOrders.toInt ≤ 1) (h_h0_draft_clauses : 0 ≤ h0_draft_clauses.toInt ∧ h0_draft_clauses.toInt ≤ 12) (h_h0_draft_length : 0 ≤ h0_draft_length.toInt ∧ h0_draft_length.toInt ≤ 400) (h_f_h0_draft_code : CD f_h0_draft_code) (e_0 : lv ≤ a.toInt) {Q : Int32 → (Int32 × Int32 × Int32 × (Nat → Int32)) → Prop} (hq : ∀ (r : Int32) (u_0 : Int32) (u_1 : Int32) (u_2 : Int32) (u_3 : Nat → Int32), (0 ≤ u_2.toInt ∧ u_2.toInt ≤ 400) ∧ (CD u_3) → Q r (u_0, u_1, u_2, u_3)) : wp_X5_readTest wS a h0_length h0_tokenCount h0_now h0_parts h0_asOrders h0_faultPlace f_h0_tokens h0_draft_clauses h0_draft_length f_h0_draft_code Q := by
  unfold wp_X5_readTest
  have k3 : Int32.toInt 0 = 0 := rfl
  have k4 : Int32.toInt (-1) = (-1) := (by decide)
  refine sl_X5_readTest_4 a h0_length h0_tokenCount h0_asOrders h0_faultPlace (f_h0_tokens) h0_draft_clauses wS lv ⟨by omega, by omega⟩ ⟨by omega, by omega⟩ ⟨by omega, by omega⟩ ⟨by omega, by omega⟩ ⟨by omega, by omega⟩ hS e_0 hq _ (fun x1_0 x1_1 x1_2 x1_3 x1_4 x1_5 X2 => ?_) 1000000000000 0 (-1) h0_now h0_parts h0_draft_length (f_h0_draft_code) ⟨(by decide), (by decide), ⟨by omega, by omega⟩, h_f_h0_draft_code⟩ (by omega)
  have j5 := X2.1
  have j6 := X2.2.1
  have j7 := X2.2.2.1
  have j8 := X2.2.2.2
  exact hq _ _ _ _ _ ⟨⟨by omega, by omega⟩, j8⟩


theorem q_test : ∀ (n : Nat) (a : Int32) (h0_length : Int32) (h0_tokenCount : Int32) (h0_now : Int32) (h0_parts : Int32) (h0_asOrders : Int32) (h0_faultPlace : Int32) (f_h0_tokens : Nat → Int32) (h0_draft_clauses : Int32) (h0_draft_length : Int32) (f_h0_draft_code : Nat → Int32), (0 ≤ a.toInt ∧ a.toInt ≤ 8) → (0 ≤ h0_length.toInt ∧ h0_length.toInt ≤ 400) → (0 ≤ h0_tokenCount.toInt ∧ h0_tokenCount.toInt ≤ 401) → (0 ≤ h0_asOrders.toInt ∧ h0_asOrders.toInt ≤ 1) → (0 ≤ h0_draft_clauses.toInt ∧ h0_draft_clauses.toInt ≤ 12) → (0 ≤ h0_draft_length.toInt ∧ h0_draft_length.toInt ≤ 400) → (CD f_h0_draft_code) → (9 - (n : Int) ≤ a.toInt) → ∀ {Q : Int32 → (Int32 × Int32 × Int32 × (Nat → Int32)) → Prop}, (∀ (r : Int32) (u_0 : Int32) (u_1 : Int32) (u_2 : Int32) (u_3 : Nat → Int32), (0 ≤ u_2.toInt ∧ u_2.toInt ≤ 400) ∧ (CD u_3) → Q r (u_0, u_1, u_2, u_3)) → wq_test n a h0_length h0_tokenCount h0_now h0_parts h0_asOrders h0_faultPlace f_h0_tokens h0_draft_clauses h0_draft_length f_h0_draft_code Q := by
  intro n
  induction n with
  | zero =>
    intro a h0_length h0_tokenCount h0_now h0_parts h0_asOrders h0_faultPlace f_h0_tokens h0_draft_clauses h0_draft_length f_h0_draft_code h_a h_h0_length h_h0_tokenCount h_h0_asOrders h_h0_draft_clauses h_h0_draft_length h_f_h0_draft_code e Q hq
    exfalso; have e : 9 - 0 ≤ a.toInt := e; omega
  | succ n ih =>
    intro a h0_length h0_tokenCount h0_now h0_parts h0_asOrders h0_faultPlace f_h0_tokens h0_draft_clauses h0_draft_length f_h0_draft_code h_a h_h0_length h_h0_tokenCount h_h0_asOrders h_h0_draft_clauses h_h0_draft_length h_f_h0_draft_code e Q hq
    have e : 9 - ((n : Int) + 1) ≤ a.toInt := by simpa using e
    show wp_X5_readTest (wp_X5_readPlain (wq_test n)) a h0_length h0_tokenCount h0_now h0_parts h0_asOrders h0_faultPlace f_h0_tokens h0_draft_clauses h0_draft_length f_h0_draft_code Q
    refine s_X5_readTest (wp_X5_readPlain (wq_test n)) a h0_length h0_tokenCount h0_now h0_parts h0_asOrders h0_faultPlace f_h0_tokens h0_draft_clauses h0_draft_length f_h0_draft_code (8 - (n : Int)) (fun a h0_length h0_tokenCount h0_now h0_parts h0_asOrders h0_faultPlace f_h0_tokens h0_draft_clauses h0_draft_length f_h0_draft_code h_a h_h0_length h_h0_tokenCount h_h0_asOrders h_h0_draft_clauses h_h0_draft_length h_f_h0_draft_code e2 Q2 hq2 => ?_) h_a h_h0_length h_h0_tokenCount h_h0_asOrders h_h0_draft_clauses h_h0_draft_length h_f_h0_draft_code (by omega) hq
    exact s_X5_readPlain (wq_test n) a h0_length h0_tokenCount h0_now h0_parts h0_asOrders h0_faultPlace f_h0_tokens h0_draft_clauses h0_draft_length f_h0_draft_code (8 - (n : Int)) (fun a h0_length h0_tokenCount h0_now h0_parts h0_asOrders h0_faultPlace f_h0_tokens h0_draft_clauses h0_draft_length f_h0_draft_code h_a h_h0_length h_h0_tokenCount h_h0_asOrders h_h0_draft_clauses h_h0_draft_length h_f_h0_draft_code e3 Q3 hq3 => ih a h0_length h0_tokenCount h0_now h0_parts h0_asOrders h0_faultPlace f_h0_tokens h0_draft_clauses h0_draft_length f_h0_draft_code h_a h_h0_length h_h0_tokenCount h_h0_asOrders h_h0_draft_clauses h_h0_draft_length h_f_h0_draft_code (by omega) hq3) h_a h_h0_length h_h0_tokenCount h_h0_asOrders h_h0_draft_clauses h_h0_draft_length h_f_h0_draft_code e2 hq2
theorem s_X5_readTest_top (a : Int32) (h0_length : Int32) (h0_tokenCount : Int32) (h0_now : Int32) (h0_parts : Int32) (h0_asOrders : Int32) (h0_faultPlace : Int32) (f_h0_tokens : Nat → Int32) (h0_draft_clauses : Int32) (h0_draft_length : Int32) (f_h0_draft_code : Nat → Int32) (h_a : 0 ≤ a.toInt ∧ a.toInt ≤ 8) (h_h0_length : 0 ≤ h0_length.toInt ∧ h0_length.toInt ≤ 400) (h_h0_tokenCount : 0 ≤ h0_tokenCount.toInt ∧ h0_tokenCount.toInt ≤ 401) (h_h0_asOrders : 0 ≤ h0_asOrders.toInt ∧ h0_asOrders.toInt ≤ 1) (h_h0_draft_clauses : 0 ≤ h0_draft_clauses.toInt ∧ h0_draft_clauses.toInt ≤ 12) (h_h0_draft_length : 0 ≤ h0_draft_length.toInt ∧ h0_draft_length.toInt ≤ 400) (h_f_h0_draft_code : CD f_h0_draft_code) {Q : Int32 → (Int32 × Int32 × Int32 × (Nat → Int32)) → Prop} (hq : ∀ (r : Int32) (u_0 : Int32) (u_1 : Int32) (u_2 : Int32) (u_3 : Nat → Int32), (0 ≤ u_2.toInt ∧ u_2.toInt ≤ 400) ∧ (CD u_3) → Q r (u_0, u_1, u_2, u_3)) : (wq_test 9) a h0_length h0_tokenCount h0_now h0_parts h0_asOrders h0_faultPlace f_h0_tokens h0_draft_clauses h0_draft_length f_h0_draft_code Q := q_test 9 a h0_length h0_tokenCount h0_now h0_parts h0_asOrders h0_faultPlace f_h0_tokens h0_draft_clauses h0_draft_length f_h0_draft_code h_a h_h0_length h_h0_tokenCount h_h0_asOrders h_h0_draft_clauses h_h0_draft_length h_f_h0_draft_code (by omega) hq

set_option maxRecDepth 100000 in
theorem s_X5_readSumOf (a : Int32) (h0_length : Int32) (h0_tokenCount : Int32) (h0_now : Int32) (h0_parts : Int32) (h0_asOrders : Int32) (h0_faultPlace : Int32) (h0_draft_clauses : Int32) (h0_draft_length : Int32) (f_h0_draft_heads : Nat → Int32) (f_h0_tokens : Nat → Int32) (f_h0_draft_code : Nat → Int32) (h_a : 0 ≤ a.toInt ∧ a.toInt ≤ 3) (h_h0_length : 0 ≤ h0_length.toInt ∧ h0_length.toInt ≤ 400) (h_h0_tokenCount : 0 ≤ h0_tokenCount.toInt ∧ h0_tokenCount.toInt ≤ 401) (h_h0_asOrders : 0 ≤ h0_asOrders.toInt ∧ h0_asOrders.toInt ≤ 1) (h_h0_draft_clauses : 0 ≤ h0_draft_clauses.toInt ∧ h0_draft_clauses.toInt ≤ 12) (h_h0_draft_length : 0 ≤ h0_draft_length.toInt ∧ h0_draft_length.toInt ≤ 400) (h_f_h0_draft_heads : HD f_h0_draft_heads) (h_f_h0_draft_code : CD f_h0_draft_code) {Q : Int32 → (Int32 × Int32 × Int32 × (Nat → Int32) × (Nat → Int32)) → Prop} (hq : ∀ (r : Int32) (u_0 : Int32) (u_1 : Int32) (u_2 : Int32) (u_3 : Nat → Int32) (u_4 : Nat → Int32), (0 ≤ u_2.toInt ∧ u_2.toInt ≤ 400) ∧ (HD u_3) ∧ (CD u_4) → Q r (u_0, u_1, u_2, u_3, u_4)) : wp_X5_readSumOf a h0_length h0_tokenCount h0_now h0_parts h0_asOrders h0_faultPlace h0_draft_clauses h0_draft_length f_h0_draft_heads f_h0_tokens f_h0_draft_code Q := by
  unfold wp_X5_readSumOf
  refine s_X5_setHead a h0_draft_length h0_draft_clauses (f_h0_draft_heads) ⟨by omega, by omega⟩ ⟨by omega, by omega⟩ h_f_h0_draft_heads (by omega) (fun u1 H2 => ?_)
  have j3 := H2
  refine s_X5_readSum_top 0 h0_length h0_tokenCount h0_now h0_parts h0_asOrders h0_faultPlace (f_h0_tokens) h0_draft_clauses h0_draft_length (f_h0_draft_code) (by decide) ⟨by omega, by omega⟩ ⟨by omega, by omega⟩ ⟨by omega, by omega⟩ ⟨by omega, by omega⟩ ⟨by omega, by omega⟩ h_f_h0_draft_code (fun r4 u5_0 u5_1 u5_2 u5_3 H6 => ?_)
  have j7 := H6.1
  have j8 := H6.2
  refine un4_i ?_
  by_cases c9 : r4 = 0
  · refine br1 c9 ?_
    have d10 := eq_z (a := r4) (b := 0) (x := (Int32.toInt r4)) (y := 0) rfl rfl c9
    exact hq _ _ _ _ _ _ ⟨⟨by omega, by omega⟩, j3, j8⟩
  · refine br0 c9 ?_
    have d11 := ne_z (a := r4) (b := 0) (x := (Int32.toInt r4)) (y := 0) rfl rfl c9
    refine s_X5_write 0 0 u5_2 (u5_3) (by decide) (by decide) ⟨by omega, by omega⟩ j8 (fun r12 u13_0 u13_1 H14 => ?_)
    have j15 := H14.1
    have j16 := H14.2
    refine un2_i ?_
    by_cases c17 : r12 = 0
    · refine br1 c17 ?_
      have d18 := eq_z (a := r12) (b := 0) (x := (Int32.toInt r12)) (y := 0) rfl rfl c17
      exact hq _ _ _ _ _ _ ⟨⟨by omega, by omega⟩, j3, j16⟩
    · refine br0 c17 ?_
      have d19 := ne_z (a := r12) (b := 0) (x := (Int32.toInt r12)) (y := 0) rfl rfl c17
      exact hq _ _ _ _ _ _ ⟨⟨by omega, by omega⟩, j3, j16⟩


set_option maxRecDepth 100000 in
theorem s_X5_readIf (h0_length : Int32) (h0_tokenCount : Int32) (h0_now : Int32) (h0_parts : Int32) (h0_asOrders : Int32) (h0_faultPlace : Int32) (f_h0_tokens : Nat → Int32) (h0_draft_clauses : Int32) (h0_draft_length : Int32) (f_h0_draft_heads : Nat → Int32) (f_h0_draft_code : Nat → Int32) (h_h0_length : 0 ≤ h0_length.toInt ∧ h0_length.toInt ≤ 400) (h_h0_tokenCount : 0 ≤ h0_tokenCount.toInt ∧ h0_tokenCount.toInt ≤ 401) (h_h0_asOrders : 0 ≤ h0_asOrders.toInt ∧ h0_asOrders.toInt ≤ 1) (h_h0_draft_clauses : 0 ≤ h0_draft_clauses.toInt ∧ h0_draft_clauses.toInt ≤ 12) (h_h0_draft_length : 0 ≤ h0_draft_length.toInt ∧ h0_draft_length.toInt ≤ 400) (h_f_h0_draft_heads : HD f_h0_draft_heads) (h_f_h0_draft_code : CD f_h0_draft_code) {Q : Int32 → (Int32 × Int32 × Int32 × (Nat → Int32) × (Nat → Int32)) → Prop} (hq : ∀ (r : Int32) (u_0 : Int32) (u_1 : Int32) (u_2 : Int32) (u_3 : Nat → Int32) (u_4 : Nat → Int32), (0 ≤ u_2.toInt ∧ u_2.toInt ≤ 400) ∧ (HD u_3) ∧ (CD u_4) → Q r (u_0, u_1, u_2, u_3, u_4)) : wp_X5_readIf h0_length h0_tokenCount h0_now h0_parts h0_asOrders h0_faultPlace f_h0_tokens h0_draft_clauses h0_draft_length f_h0_draft_heads f_h0_draft_code Q := by
  unfold wp_X5_readIf
  refine s_X5_take 5 h0_tokenCount h0_now (f_h0_tokens) ⟨by omega, by omega⟩ (fun r1 u2 H3 => ?_)
  by_cases c4 : r1 = 0
  · refine br1 c4 ?_
    have d5 := eq_z (a := r1) (b := 0) (x := (Int32.toInt r1)) (y := 0) rfl rfl c4
    exact hq _ _ _ _ _ _ ⟨⟨by omega, by omega⟩, h_f_h0_draft_heads, h_f_h0_draft_code⟩
  · refine br0 c4 ?_
    have d6 := ne_z (a := r1) (b := 0) (x := (Int32.toInt r1)) (y := 0) rfl rfl c4
    have k7 : Int32.toInt 3 = 3 := rfl
    refine s_X5_setHead 3 h0_draft_length h0_draft_clauses (f_h0_draft_heads) (by decide) ⟨by omega, by omega⟩ h_f_h0_draft_heads (by omega) (fun u8 H9 => ?_)
    have j10 := H9
    refine s_X5_readTest_top 0 h0_length h0_tokenCount u2 h0_parts h0_asOrders h0_faultPlace (f_h0_tokens) h0_draft_clauses h0_draft_length (f_h0_draft_code) (by decide) ⟨by omega, by omega⟩ ⟨by omega, by omega⟩ ⟨by omega, by omega⟩ ⟨by omega, by omega⟩ ⟨by omega, by omega⟩ h_f_h0_draft_code (fun r11 u12_0 u12_1 u12_2 u12_3 H13 => ?_)
    have j14 := H13.1
    have j15 := H13.2
    refine un4_i ?_
    by_cases c16 : r11 = 0
    · refine br1 c16 ?_
      have d17 := eq_z (a := r11) (b := 0) (x := (Int32.toInt r11)) (y := 0) rfl rfl c16
      exact hq _ _ _ _ _ _ ⟨⟨by omega, by omega⟩, j10, j15⟩
    · refine br0 c16 ?_
      have d18 := ne_z (a := r11) (b := 0) (x := (Int32.toInt r11)) (y := 0) rfl rfl c16
      refine s_X5_write 0 0 u12_2 (u12_3) (by decide) (by decide) ⟨by omega, by omega⟩ j15 (fun r19 u20_0 u20_1 H21 => ?_)
      have j22 := H21.1
      have j23 := H21.2
      refine un2_i ?_
      by_cases c24 : r19 = 0
      · refine br1 c24 ?_
        have d25 := eq_z (a := r19) (b := 0) (x := (Int32.toInt r19)) (y := 0) rfl rfl c24
        exact hq _ _ _ _ _ _ ⟨⟨by omega, by omega⟩, j10, j23⟩
      · refine br0 c24 ?_
        have d26 := ne_z (a := r19) (b := 0) (x := (Int32.toInt r19)) (y := 0) rfl rfl c24
        exact hq _ _ _ _ _ _ ⟨⟨by omega, by omega⟩, j10, j23⟩


set_option maxRecDepth 100000 in
theorem s_X5_readRule (h0_length : Int32) (h0_tokenCount : Int32) (h0_now : Int32) (h0_parts : Int32) (h0_asOrders : Int32) (h0_faultPlace : Int32) (f_h0_tokens : Nat → Int32) (h0_draft_clauses : Int32) (h0_draft_length : Int32) (f_h0_draft_heads : Nat → Int32) (f_h0_draft_code : Nat → Int32) (h_h0_length : 0 ≤ h0_length.toInt ∧ h0_length.toInt ≤ 400) (h_h0_tokenCount : 0 ≤ h0_tokenCount.toInt ∧ h0_tokenCount.toInt ≤ 401) (h_h0_asOrders : 0 ≤ h0_asOrders.toInt ∧ h0_asOrders.toInt ≤ 1) (h_h0_draft_clauses : 0 ≤ h0_draft_clauses.toInt ∧ h0_draft_clauses.toInt ≤ 12) (h_h0_draft_length : 0 ≤ h0_draft_length.toInt ∧ h0_draft_length.toInt ≤ 400) (h_f_h0_draft_heads : HD f_h0_draft_heads) (h_f_h0_draft_code : CD f_h0_draft_code) {Q : Int32 → (Int32 × Int32 × Int32 × (Nat → Int32) × (Nat → Int32)) → Prop} (hq : ∀ (r : Int32) (u_0 : Int32) (u_1 : Int32) (u_2 : Int32) (u_3 : Nat → Int32) (u_4 : Nat → Int32), (0 ≤ u_2.toInt ∧ u_2.toInt ≤ 400) ∧ (HD u_3) ∧ (CD u_4) → Q r (u_0, u_1, u_2, u_3, u_4)) : wp_X5_readRule h0_length h0_tokenCount h0_now h0_parts h0_asOrders h0_faultPlace f_h0_tokens h0_draft_clauses h0_draft_length f_h0_draft_heads f_h0_draft_code Q := by
  unfold wp_X5_readRule
  refine s_X5_tokenNow h0_tokenCount h0_now (f_h0_tokens) ⟨by omega, by omega⟩ (fun r1 H2 => ?_)
  by_cases c3 : r1 < 0
  · refine br1 c3 ?_
    have d4 := lt_z (a := r1) (b := 0) (x := (Int32.toInt r1)) (y := 0) rfl rfl c3
    exact hq _ _ _ _ _ _ ⟨⟨by omega, by omega⟩, h_f_h0_draft_heads, h_f_h0_draft_code⟩
  · refine br0 c3 ?_
    have d5 := nlt_z (a := r1) (b := 0) (x := (Int32.toInt r1)) (y := 0) rfl rfl c3
    by_cases c6 : r1 ≤ 4
    · refine br1 c6 ?_
      have d7 := le_z (a := r1) (b := 4) (x := (Int32.toInt r1)) (y := 4) rfl rfl c6
      have k8 : Int32.toInt 0 = 0 := rfl
      refine s_X5_setHead 0 r1 h0_draft_clauses (f_h0_draft_heads) (by decide) ⟨by omega, by omega⟩ h_f_h0_draft_heads (by omega) (fun u9 H10 => ?_)
      have j11 := H10
      by_cases c12 : r1 = 4
      · refine br1 c12 ?_
        have d13 := eq_z (a := r1) (b := 4) (x := (Int32.toInt r1)) (y := 4) rfl rfl c12
        exact hq _ _ _ _ _ _ ⟨⟨by omega, by omega⟩, j11, h_f_h0_draft_code⟩
      · refine br0 c12 ?_
        have d14 := ne_z (a := r1) (b := 4) (x := (Int32.toInt r1)) (y := 4) rfl rfl c12
        refine s_X5_readSumOf 1 h0_length h0_tokenCount (h0_now + 1) h0_parts h0_asOrders h0_faultPlace h0_draft_clauses h0_draft_length (u9) (f_h0_tokens) (f_h0_draft_code) (by decide) ⟨by omega, by omega⟩ ⟨by omega, by omega⟩ ⟨by omega, by omega⟩ ⟨by omega, by omega⟩ ⟨by omega, by omega⟩ j11 h_f_h0_draft_code (fun r15 u16_0 u16_1 u16_2 u16_3 u16_4 H17 => ?_)
        have j18 := H17.1
        have j19 := H17.2.1
        have j20 := H17.2.2
        refine un5_i ?_
        by_cases c21 : r15 = 0
        · refine br1 c21 ?_
          have d22 := eq_z (a := r15) (b := 0) (x := (Int32.toInt r15)) (y := 0) rfl rfl c21
          exact hq _ _ _ _ _ _ ⟨⟨by omega, by omega⟩, j19, j20⟩
        · refine br0 c21 ?_
          have d23 := ne_z (a := r15) (b := 0) (x := (Int32.toInt r15)) (y := 0) rfl rfl c21
          exact hq _ _ _ _ _ _ ⟨⟨by omega, by omega⟩, j19, j20⟩
    · refine br0 c6 ?_
      have d24 := nle_z (a := r1) (b := 4) (x := (Int32.toInt r1)) (y := 4) rfl rfl c6
      exact hq _ _ _ _ _ _ ⟨⟨by omega, by omega⟩, h_f_h0_draft_heads, h_f_h0_draft_code⟩


set_option maxRecDepth 100000 in
theorem s_X5_readOrder (h0_length : Int32) (h0_tokenCount : Int32) (h0_now : Int32) (h0_parts : Int32) (h0_asOrders : Int32) (h0_faultPlace : Int32) (f_h0_tokens : Nat → Int32) (h0_draft_clauses : Int32) (h0_draft_length : Int32) (f_h0_draft_heads : Nat → Int32) (f_h0_draft_code : Nat → Int32) (h_h0_length : 0 ≤ h0_length.toInt ∧ h0_length.toInt ≤ 400) (h_h0_tokenCount : 0 ≤ h0_tokenCount.toInt ∧ h0_tokenCount.toInt ≤ 401) (h_h0_asOrders : 0 ≤ h0_asOrders.toInt ∧ h0_asOrders.toInt ≤ 1) (h_h0_draft_clauses : 0 ≤ h0_draft_clauses.toInt ∧ h0_draft_clauses.toInt ≤ 12) (h_h0_draft_length : 0 ≤ h0_draft_length.toInt ∧ h0_draft_length.toInt ≤ 400) (h_f_h0_draft_heads : HD f_h0_draft_heads) (h_f_h0_draft_code : CD f_h0_draft_code) {Q : Int32 → (Int32 × Int32 × Int32 × (Nat → Int32) × (Nat → Int32)) → Prop} (hq : ∀ (r : Int32) (u_0 : Int32) (u_1 : Int32) (u_2 : Int32) (u_3 : Nat → Int32) (u_4 : Nat → Int32), (0 ≤ u_2.toInt ∧ u_2.toInt ≤ 400) ∧ (HD u_3) ∧ (CD u_4) → Q r (u_0, u_1, u_2, u_3, u_4)) : wp_X5_readOrder h0_length h0_tokenCount h0_now h0_parts h0_asOrders h0_faultPlace f_h0_tokens h0_draft_clauses h0_draft_length f_h0_draft_heads f_h0_draft_code Q := by
  unfold wp_X5_readOrder
  refine s_X5_tokenNow h0_tokenCount h0_now (f_h0_tokens) ⟨by omega, by omega⟩ (fun r1 H2 => ?_)
  refine jn_s ?_
  by_cases c3 : r1 = 18
  · refine br1 c3 ?_
    have d4 := eq_z (a := r1) (b := 18) (x := (Int32.toInt r1)) (y := 18) rfl rfl c3
    have k5 : Int32.toInt 0 = 0 := rfl
    refine s_X5_setHead 0 r1 h0_draft_clauses (f_h0_draft_heads) (by decide) ⟨by omega, by omega⟩ h_f_h0_draft_heads (by omega) (fun u6 H7 => ?_)
    have j8 := H7
    refine s_X5_readSumOf 1 h0_length h0_tokenCount (h0_now + 1) h0_parts h0_asOrders h0_faultPlace h0_draft_clauses h0_draft_length (u6) (f_h0_tokens) (f_h0_draft_code) (by decide) ⟨by omega, by omega⟩ ⟨by omega, by omega⟩ ⟨by omega, by omega⟩ ⟨by omega, by omega⟩ ⟨by omega, by omega⟩ j8 h_f_h0_draft_code (fun r9 u10_0 u10_1 u10_2 u10_3 u10_4 H11 => ?_)
    have j12 := H11.1
    have j13 := H11.2.1
    have j14 := H11.2.2
    refine un5_i ?_
    by_cases c15 : r9 = 0
    · refine br1 c15 ?_
      have d16 := eq_z (a := r9) (b := 0) (x := (Int32.toInt r9)) (y := 0) rfl rfl c15
      exact hq _ _ _ _ _ _ ⟨⟨by omega, by omega⟩, j13, j14⟩
    · refine br0 c15 ?_
      have d17 := ne_z (a := r9) (b := 0) (x := (Int32.toInt r9)) (y := 0) rfl rfl c15
      refine jn_s ?_
      refine br1 (z_eq (x := (Int32.toInt r1)) (y := 18) rfl rfl (by omega)) ?_
      refine s_X5_take 19 h0_tokenCount u10_0 (f_h0_tokens) ⟨by omega, by omega⟩ (fun r18 u19 H20 => ?_)
      by_cases c21 : r18 = 0
      · refine br1 c21 ?_
        have d22 := eq_z (a := r18) (b := 0) (x := (Int32.toInt r18)) (y := 0) rfl rfl c21
        exact hq _ _ _ _ _ _ ⟨⟨by omega, by omega⟩, j13, j14⟩
      · refine br0 c21 ?_
        have d23 := ne_z (a := r18) (b := 0) (x := (Int32.toInt r18)) (y := 0) rfl rfl c21
        refine s_X5_readSumOf 2 h0_length h0_tokenCount u19 u10_1 h0_asOrders h0_faultPlace h0_draft_clauses u10_2 (u10_3) (f_h0_tokens) (u10_4) (by decide) ⟨by omega, by omega⟩ ⟨by omega, by omega⟩ ⟨by omega, by omega⟩ ⟨by omega, by omega⟩ ⟨by omega, by omega⟩ j13 j14 (fun r24 u25_0 u25_1 u25_2 u25_3 u25_4 H26 => ?_)
        have j27 := H26.1
        have j28 := H26.2.1
        have j29 := H26.2.2
        refine un5_i ?_
        by_cases c30 : r24 = 0
        · refine br1 c30 ?_
          have d31 := eq_z (a := r24) (b := 0) (x := (Int32.toInt r24)) (y := 0) rfl rfl c30
          exact hq _ _ _ _ _ _ ⟨⟨by omega, by omega⟩, j28, j29⟩
        · refine br0 c30 ?_
          have d32 := ne_z (a := r24) (b := 0) (x := (Int32.toInt r24)) (y := 0) rfl rfl c30
          refine un5_i ?_
          refine jn_s ?_
          refine br0 (z_ne (x := (Int32.toInt r1)) (y := 22) rfl rfl (by omega)) ?_
          refine un5_i ?_
          refine s_X5_take 24 h0_tokenCount u25_0 (f_h0_tokens) ⟨by omega, by omega⟩ (fun r33 u34 H35 => ?_)
          by_cases c36 : r33 = 0
          · refine br1 c36 ?_
            have d37 := eq_z (a := r33) (b := 0) (x := (Int32.toInt r33)) (y := 0) rfl rfl c36
            exact hq _ _ _ _ _ _ ⟨⟨by omega, by omega⟩, j28, j29⟩
          · refine br0 c36 ?_
            have d38 := ne_z (a := r33) (b := 0) (x := (Int32.toInt r33)) (y := 0) rfl rfl c36
            refine s_X5_readTimes h0_tokenCount u34 (f_h0_tokens) h0_draft_clauses (u25_3) ⟨by omega, by omega⟩ ⟨by omega, by omega⟩ j28 (fun r39 u40_0 u40_1 H41 => ?_)
            have j42 := H41
            refine un2_i ?_
            by_cases c43 : r39 = 0
            · refine br1 c43 ?_
              have d44 := eq_z (a := r39) (b := 0) (x := (Int32.toInt r39)) (y := 0) rfl rfl c43
              exact hq _ _ _ _ _ _ ⟨⟨by omega, by omega⟩, j42, j29⟩
            · refine br0 c43 ?_
              have d45 := ne_z (a := r39) (b := 0) (x := (Int32.toInt r39)) (y := 0) rfl rfl c43
              exact hq _ _ _ _ _ _ ⟨⟨by omega, by omega⟩, j42, j29⟩
  · refine br0 c3 ?_
    have d46 := ne_z (a := r1) (b := 18) (x := (Int32.toInt r1)) (y := 18) rfl rfl c3
    by_cases c47 : r1 = 20
    · refine br1 c47 ?_
      have d48 := eq_z (a := r1) (b := 20) (x := (Int32.toInt r1)) (y := 20) rfl rfl c47
      have k49 : Int32.toInt 0 = 0 := rfl
      refine s_X5_setHead 0 r1 h0_draft_clauses (f_h0_draft_heads) (by decide) ⟨by omega, by omega⟩ h_f_h0_draft_heads (by omega) (fun u50 H51 => ?_)
      have j52 := H51
      refine s_X5_readSumOf 1 h0_length h0_tokenCount (h0_now + 1) h0_parts h0_asOrders h0_faultPlace h0_draft_clauses h0_draft_length (u50) (f_h0_tokens) (f_h0_draft_code) (by decide) ⟨by omega, by omega⟩ ⟨by omega, by omega⟩ ⟨by omega, by omega⟩ ⟨by omega, by omega⟩ ⟨by omega, by omega⟩ j52 h_f_h0_draft_code (fun r53 u54_0 u54_1 u54_2 u54_3 u54_4 H55 => ?_)
      have j56 := H55.1
      have j57 := H55.2.1
      have j58 := H55.2.2
      refine un5_i ?_
      by_cases c59 : r53 = 0
      · refine br1 c59 ?_
        have d60 := eq_z (a := r53) (b := 0) (x := (Int32.toInt r53)) (y := 0) rfl rfl c59
        exact hq _ _ _ _ _ _ ⟨⟨by omega, by omega⟩, j57, j58⟩
      · refine br0 c59 ?_
        have d61 := ne_z (a := r53) (b := 0) (x := (Int32.toInt r53)) (y := 0) rfl rfl c59
        refine jn_s ?_
        refine br0 (z_ne (x := (Int32.toInt r1)) (y := 18) rfl rfl (by omega)) ?_
        refine un5_i ?_
        refine jn_s ?_
        refine br0 (z_ne (x := (Int32.toInt r1)) (y := 22) rfl rfl (by omega)) ?_
        refine un5_i ?_
        refine s_X5_take 24 h0_tokenCount u54_0 (f_h0_tokens) ⟨by omega, by omega⟩ (fun r62 u63 H64 => ?_)
        by_cases c65 : r62 = 0
        · refine br1 c65 ?_
          have d66 := eq_z (a := r62) (b := 0) (x := (Int32.toInt r62)) (y := 0) rfl rfl c65
          exact hq _ _ _ _ _ _ ⟨⟨by omega, by omega⟩, j57, j58⟩
        · refine br0 c65 ?_
          have d67 := ne_z (a := r62) (b := 0) (x := (Int32.toInt r62)) (y := 0) rfl rfl c65
          refine s_X5_readTimes h0_tokenCount u63 (f_h0_tokens) h0_draft_clauses (u54_3) ⟨by omega, by omega⟩ ⟨by omega, by omega⟩ j57 (fun r68 u69_0 u69_1 H70 => ?_)
          have j71 := H70
          refine un2_i ?_
          by_cases c72 : r68 = 0
          · refine br1 c72 ?_
            have d73 := eq_z (a := r68) (b := 0) (x := (Int32.toInt r68)) (y := 0) rfl rfl c72
            exact hq _ _ _ _ _ _ ⟨⟨by omega, by omega⟩, j71, j58⟩
          · refine br0 c72 ?_
            have d74 := ne_z (a := r68) (b := 0) (x := (Int32.toInt r68)) (y := 0) rfl rfl c72
            exact hq _ _ _ _ _ _ ⟨⟨by omega, by omega⟩, j71, j58⟩
    · refine br0 c47 ?_
      have d75 := ne_z (a := r1) (b := 20) (x := (Int32.toInt r1)) (y := 20) rfl rfl c47
      by_cases c76 : r1 = 21
      · refine br1 c76 ?_
        have d77 := eq_z (a := r1) (b := 21) (x := (Int32.toInt r1)) (y := 21) rfl rfl c76
        have k78 : Int32.toInt 0 = 0 := rfl
        refine s_X5_setHead 0 r1 h0_draft_clauses (f_h0_draft_heads) (by decide) ⟨by omega, by omega⟩ h_f_h0_draft_heads (by omega) (fun u79 H80 => ?_)
        have j81 := H80
        refine s_X5_readSumOf 1 h0_length h0_tokenCount (h0_now + 1) h0_parts h0_asOrders h0_faultPlace h0_draft_clauses h0_draft_length (u79) (f_h0_tokens) (f_h0_draft_code) (by decide) ⟨by omega, by omega⟩ ⟨by omega, by omega⟩ ⟨by omega, by omega⟩ ⟨by omega, by omega⟩ ⟨by omega, by omega⟩ j81 h_f_h0_draft_code (fun r82 u83_0 u83_1 u83_2 u83_3 u83_4 H84 => ?_)
        have j85 := H84.1
        have j86 := H84.2.1
        have j87 := H84.2.2
        refine un5_i ?_
        by_cases c88 : r82 = 0
        · refine br1 c88 ?_
          have d89 := eq_z (a := r82) (b := 0) (x := (Int32.toInt r82)) (y := 0) rfl rfl c88
          exact hq _ _ _ _ _ _ ⟨⟨by omega, by omega⟩, j86, j87⟩
        · refine br0 c88 ?_
          have d90 := ne_z (a := r82) (b := 0) (x := (Int32.toInt r82)) (y := 0) rfl rfl c88
          refine jn_s ?_
          refine br0 (z_ne (x := (Int32.toInt r1)) (y := 18) rfl rfl (by omega)) ?_
          refine un5_i ?_
          refine jn_s ?_
          refine br0 (z_ne (x := (Int32.toInt r1)) (y := 22) rfl rfl (by omega)) ?_
          refine un5_i ?_
          refine s_X5_take 24 h0_tokenCount u83_0 (f_h0_tokens) ⟨by omega, by omega⟩ (fun r91 u92 H93 => ?_)
          by_cases c94 : r91 = 0
          · refine br1 c94 ?_
            have d95 := eq_z (a := r91) (b := 0) (x := (Int32.toInt r91)) (y := 0) rfl rfl c94
            exact hq _ _ _ _ _ _ ⟨⟨by omega, by omega⟩, j86, j87⟩
          · refine br0 c94 ?_
            have d96 := ne_z (a := r91) (b := 0) (x := (Int32.toInt r91)) (y := 0) rfl rfl c94
            refine s_X5_readTimes h0_tokenCount u92 (f_h0_tokens) h0_draft_clauses (u83_3) ⟨by omega, by omega⟩ ⟨by omega, by omega⟩ j86 (fun r97 u98_0 u98_1 H99 => ?_)
            have j100 := H99
            refine un2_i ?_
            by_cases c101 : r97 = 0
            · refine br1 c101 ?_
              have d102 := eq_z (a := r97) (b := 0) (x := (Int32.toInt r97)) (y := 0) rfl rfl c101
              exact hq _ _ _ _ _ _ ⟨⟨by omega, by omega⟩, j100, j87⟩
            · refine br0 c101 ?_
              have d103 := ne_z (a := r97) (b := 0) (x := (Int32.toInt r97)) (y := 0) rfl rfl c101
              exact hq _ _ _ _ _ _ ⟨⟨by omega, by omega⟩, j100, j87⟩
      · refine br0 c76 ?_
        have d104 := ne_z (a := r1) (b := 21) (x := (Int32.toInt r1)) (y := 21) rfl rfl c76
        by_cases c105 : r1 = 22
        · refine br1 c105 ?_
          have d106 := eq_z (a := r1) (b := 22) (x := (Int32.toInt r1)) (y := 22) rfl rfl c105
          have k107 : Int32.toInt 0 = 0 := rfl
          refine s_X5_setHead 0 r1 h0_draft_clauses (f_h0_draft_heads) (by decide) ⟨by omega, by omega⟩ h_f_h0_draft_heads (by omega) (fun u108 H109 => ?_)
          have j110 := H109
          refine s_X5_readSumOf 1 h0_length h0_tokenCount (h0_now + 1) h0_parts h0_asOrders h0_faultPlace h0_draft_clauses h0_draft_length (u108) (f_h0_tokens) (f_h0_draft_code) (by decide) ⟨by omega, by omega⟩ ⟨by omega, by omega⟩ ⟨by omega, by omega⟩ ⟨by omega, by omega⟩ ⟨by omega, by omega⟩ j110 h_f_h0_draft_code (fun r111 u112_0 u112_1 u112_2 u112_3 u112_4 H113 => ?_)
          have j114 := H113.1
          have j115 := H113.2.1
          have j116 := H113.2.2
          refine un5_i ?_
          by_cases c117 : r111 = 0
          · refine br1 c117 ?_
            have d118 := eq_z (a := r111) (b := 0) (x := (Int32.toInt r111)) (y := 0) rfl rfl c117
            exact hq _ _ _ _ _ _ ⟨⟨by omega, by omega⟩, j115, j116⟩
          · refine br0 c117 ?_
            have d119 := ne_z (a := r111) (b := 0) (x := (Int32.toInt r111)) (y := 0) rfl rfl c117
            refine jn_s ?_
            refine br0 (z_ne (x := (Int32.toInt r1)) (y := 18) rfl rfl (by omega)) ?_
            refine un5_i ?_
            refine jn_s ?_
            refine br1 (z_eq (x := (Int32.toInt r1)) (y := 22) rfl rfl (by omega)) ?_
            refine s_X5_take 23 h0_tokenCount u112_0 (f_h0_tokens) ⟨by omega, by omega⟩ (fun r120 u121 H122 => ?_)
            by_cases c123 : r120 = 0
            · refine br1 c123 ?_
              have d124 := eq_z (a := r120) (b := 0) (x := (Int32.toInt r120)) (y := 0) rfl rfl c123
              exact hq _ _ _ _ _ _ ⟨⟨by omega, by omega⟩, j115, j116⟩
            · refine br0 c123 ?_
              have d125 := ne_z (a := r120) (b := 0) (x := (Int32.toInt r120)) (y := 0) rfl rfl c123
              refine s_X5_readSumOf 2 h0_length h0_tokenCount u121 u112_1 h0_asOrders h0_faultPlace h0_draft_clauses u112_2 (u112_3) (f_h0_tokens) (u112_4) (by decide) ⟨by omega, by omega⟩ ⟨by omega, by omega⟩ ⟨by omega, by omega⟩ ⟨by omega, by omega⟩ ⟨by omega, by omega⟩ j115 j116 (fun r126 u127_0 u127_1 u127_2 u127_3 u127_4 H128 => ?_)
              have j129 := H128.1
              have j130 := H128.2.1
              have j131 := H128.2.2
              refine un5_i ?_
              by_cases c132 : r126 = 0
              · refine br1 c132 ?_
                have d133 := eq_z (a := r126) (b := 0) (x := (Int32.toInt r126)) (y := 0) rfl rfl c132
                exact hq _ _ _ _ _ _ ⟨⟨by omega, by omega⟩, j130, j131⟩
              · refine br0 c132 ?_
                have d134 := ne_z (a := r126) (b := 0) (x := (Int32.toInt r126)) (y := 0) rfl rfl c132
                refine un5_i ?_
                refine s_X5_take 24 h0_tokenCount u127_0 (f_h0_tokens) ⟨by omega, by omega⟩ (fun r135 u136 H137 => ?_)
                by_cases c138 : r135 = 0
                · refine br1 c138 ?_
                  have d139 := eq_z (a := r135) (b := 0) (x := (Int32.toInt r135)) (y := 0) rfl rfl c138
                  exact hq _ _ _ _ _ _ ⟨⟨by omega, by omega⟩, j130, j131⟩
                · refine br0 c138 ?_
                  have d140 := ne_z (a := r135) (b := 0) (x := (Int32.toInt r135)) (y := 0) rfl rfl c138
                  refine s_X5_readTimes h0_tokenCount u136 (f_h0_tokens) h0_draft_clauses (u127_3) ⟨by omega, by omega⟩ ⟨by omega, by omega⟩ j130 (fun r141 u142_0 u142_1 H143 => ?_)
                  have j144 := H143
                  refine un2_i ?_
                  by_cases c145 : r141 = 0
                  · refine br1 c145 ?_
                    have d146 := eq_z (a := r141) (b := 0) (x := (Int32.toInt r141)) (y := 0) rfl rfl c145
                    exact hq _ _ _ _ _ _ ⟨⟨by omega, by omega⟩, j144, j131⟩
                  · refine br0 c145 ?_
                    have d147 := ne_z (a := r141) (b := 0) (x := (Int32.toInt r141)) (y := 0) rfl rfl c145
                    exact hq _ _ _ _ _ _ ⟨⟨by omega, by omega⟩, j144, j131⟩
        · refine br0 c105 ?_
          have d148 := ne_z (a := r1) (b := 22) (x := (Int32.toInt r1)) (y := 22) rfl rfl c105
          exact hq _ _ _ _ _ _ ⟨⟨by omega, by omega⟩, h_f_h0_draft_heads, h_f_h0_draft_code⟩


set_option maxRecDepth 100000 in
theorem sl_X5_read_42 (a : Int32) (h0_length : Int32) (h0_faultPlace : Int32) (u_1_0 : Int32) (u_1_1 : Nat → Int32) (h_a : 0 ≤ a.toInt ∧ a.toInt ≤ 1) (h_h0_length : 0 ≤ h0_length.toInt ∧ h0_length.toInt ≤ 400) (h_u_1_0 : 0 ≤ u_1_0.toInt ∧ u_1_0.toInt ≤ 401) (Qb : Int32 → Int32 → Int32 → Int32 → Int32 → (Nat → Int32) → (Nat → Int32) → Int32 → Int32 → Prop) (KX : ∀ (x_42_0 : Int32) (x_42_1 : Int32) (x_42_2 : Int32) (x_42_3 : Int32) (x_42_4 : Int32) (x_42_5 : Nat → Int32) (x_42_6 : Nat → Int32) (x_42_7 : Int32) (x_42_8 : Int32), (0 ≤ x_42_0.toInt ∧ x_42_0.toInt ≤ 12) ∧ (0 ≤ x_42_1.toInt ∧ x_42_1.toInt ≤ 1) ∧ (0 ≤ x_42_2.toInt ∧ x_42_2.toInt ≤ 1) ∧ (0 ≤ x_42_3.toInt ∧ x_42_3.toInt ≤ 12) ∧ (0 ≤ x_42_4.toInt ∧ x_42_4.toInt ≤ 400) ∧ (HD x_42_5) ∧ (CD x_42_6) ∧ (x_42_3.toInt ≤ x_42_0.toInt) → Qb x_42_0 x_42_1 x_42_2 x_42_3 x_42_4 x_42_5 x_42_6 x_42_7 x_42_8) : ∀ (n : Nat) (x_42_0 : Int32) (x_42_1 : Int32) (x_42_2 : Int32) (x_42_3 : Int32) (x_42_4 : Int32) (x_42_5 : Nat → Int32) (x_42_6 : Nat → Int32) (x_42_7 : Int32) (x_42_8 : Int32), (0 ≤ x_42_0.toInt ∧ x_42_0.toInt ≤ 12) ∧ (0 ≤ x_42_1.toInt ∧ x_42_1.toInt ≤ 1) ∧ (0 ≤ x_42_2.toInt ∧ x_42_2.toInt ≤ 1) ∧ (0 ≤ x_42_3.toInt ∧ x_42_3.toInt ≤ 12) ∧ (0 ≤ x_42_4.toInt ∧ x_42_4.toInt ≤ 400) ∧ (HD x_42_5) ∧ (CD x_42_6) ∧ (x_42_3.toInt ≤ x_42_0.toInt) → 13 - x_42_0.toInt < (n : Int) → wl_X5_read_42 a h0_length h0_faultPlace u_1_0 u_1_1 Qb n x_42_0 x_42_1 x_42_2 x_42_3 x_42_4 x_42_5 x_42_6 x_42_7 x_42_8 := by
  intro n
  induction n with
  | zero =>
    intro x_42_0 x_42_1 x_42_2 x_42_3 x_42_4 x_42_5 x_42_6 x_42_7 x_42_8 hI hm
    exfalso; have hm : 13 - x_42_0.toInt < 0 := hm; omega
  | succ n ih =>
    intro x_42_0 x_42_1 x_42_2 x_42_3 x_42_4 x_42_5 x_42_6 x_42_7 x_42_8 hI hm
    have hm : 13 - x_42_0.toInt < (n : Int) + 1 := by simpa using hm
    have h_x_42_0 := hI.1
    have h_x_42_1 := hI.2.1
    have h_x_42_2 := hI.2.2.1
    have h_x_42_3 := hI.2.2.2.1
    have h_x_42_4 := hI.2.2.2.2.1
    have h_x_42_5 := hI.2.2.2.2.2.1
    have h_x_42_6 := hI.2.2.2.2.2.2.1
    have h_rel0 := hI.2.2.2.2.2.2.2
    unfold wl_X5_read_42
    by_cases c4 : 12 ≤ x_42_0
    · refine br1 c4 ?_
      have d5 := le_z (a := 12) (b := x_42_0) (x := 12) (y := (Int32.toInt x_42_0)) rfl rfl c4
      exact KX _ _ _ _ _ _ _ _ _ ⟨⟨by omega, by omega⟩, ⟨by omega, by omega⟩, ⟨by omega, by omega⟩, ⟨by omega, by omega⟩, ⟨by omega, by omega⟩, h_x_42_5, h_x_42_6, (by omega)⟩
    · refine br0 c4 ?_
      have d6 := nle_z (a := 12) (b := x_42_0) (x := 12) (y := (Int32.toInt x_42_0)) rfl rfl c4
      by_cases c7 : x_42_2 = 0
      · refine br1 c7 ?_
        have d8 := eq_z (a := x_42_2) (b := 0) (x := (Int32.toInt x_42_2)) (y := 0) rfl rfl c7
        exact KX _ _ _ _ _ _ _ _ _ ⟨⟨by omega, by omega⟩, ⟨by omega, by omega⟩, ⟨by omega, by omega⟩, ⟨by omega, by omega⟩, ⟨by omega, by omega⟩, h_x_42_5, h_x_42_6, (by omega)⟩
      · refine br0 c7 ?_
        have d9 := ne_z (a := x_42_2) (b := 0) (x := (Int32.toInt x_42_2)) (y := 0) rfl rfl c7
        by_cases c10 : x_42_1 = 0
        · refine br1 c10 ?_
          have d11 := eq_z (a := x_42_1) (b := 0) (x := (Int32.toInt x_42_1)) (y := 0) rfl rfl c10
          refine s_X5_beginHead x_42_3 (x_42_5) ⟨by omega, by omega⟩ h_x_42_5 (fun u12 H13 => ?_)
          have j14 := H13
          refine jn6_i (fun (y15_0 : Int32) (y15_1 : Nat → Int32) (y15_2 : Int32) (y15_3 : Int32) (y15_4 : Int32) (y15_5 : Nat → Int32) => (0 ≤ y15_0.toInt ∧ y15_0.toInt ≤ 1) ∧ (CD y15_1) ∧ (0 ≤ y15_4.toInt ∧ y15_4.toInt ≤ 400) ∧ (HD y15_5)) (fun y15_0 y15_1 y15_2 y15_3 y15_4 y15_5 J16 => ?_) (fun _ HJ16 => ?_)
          · have j17 := J16.1
            have j18 := J16.2.1
            have j19 := J16.2.2.1
            have j20 := J16.2.2.2
            by_cases c21 : y15_0 = 0
            · refine br1 c21 ?_
              have d22 := eq_z (a := y15_0) (b := 0) (x := (Int32.toInt y15_0)) (y := 0) rfl rfl c21
              have t23 : (Int32.toInt (x_42_0 + 1)) = (Int32.toInt x_42_0) + 1 := add_z rfl rfl (by omega) (by omega)
              exact ih _ _ _ _ _ _ _ _ _ ⟨⟨by omega, by omega⟩, ⟨by omega, by omega⟩, ⟨by omega, by omega⟩, ⟨by omega, by omega⟩, ⟨by omega, by omega⟩, j20, j18, (by omega)⟩ (by omega)
            · refine br0 c21 ?_
              have d24 := ne_z (a := y15_0) (b := 0) (x := (Int32.toInt y15_0)) (y := 0) rfl rfl c21
              refine s_X5_tokenNow u_1_0 y15_2 (u_1_1) ⟨by omega, by omega⟩ (fun r25 H26 => ?_)
              refine jn_s ?_
              by_cases c27 : r25 = 31
              · refine br1 c27 ?_
                have d28 := eq_z (a := r25) (b := 31) (x := (Int32.toInt r25)) (y := 31) rfl rfl c27
                refine br0 (by decide) ?_
                have t29 : (Int32.toInt (x_42_0 + 1)) = (Int32.toInt x_42_0) + 1 := add_z rfl rfl (by omega) (by omega)
                have k30 : Int32.toInt 1 = 1 := rfl
                have t31 : (Int32.toInt (x_42_3 + 1)) = (Int32.toInt x_42_3) + 1 := add_z rfl rfl (by omega) (by omega)
                exact ih _ _ _ _ _ _ _ _ _ ⟨⟨by omega, by omega⟩, (by decide), (by decide), ⟨by omega, by omega⟩, ⟨by omega, by omega⟩, j20, j18, (by omega)⟩ (by omega)
              · refine br0 c27 ?_
                have d32 := ne_z (a := r25) (b := 31) (x := (Int32.toInt r25)) (y := 31) rfl rfl c27
                refine br1 (by decide) ?_
                refine s_X5_take 159 u_1_0 y15_2 (u_1_1) ⟨by omega, by omega⟩ (fun r33 u34 H35 => ?_)
                by_cases c36 : r33 = 0
                · refine br1 c36 ?_
                  have d37 := eq_z (a := r33) (b := 0) (x := (Int32.toInt r33)) (y := 0) rfl rfl c36
                  have t38 : (Int32.toInt (x_42_0 + 1)) = (Int32.toInt x_42_0) + 1 := add_z rfl rfl (by omega) (by omega)
                  have k39 : Int32.toInt 0 = 0 := rfl
                  have t40 : (Int32.toInt (x_42_3 + 1)) = (Int32.toInt x_42_3) + 1 := add_z rfl rfl (by omega) (by omega)
                  exact ih _ _ _ _ _ _ _ _ _ ⟨⟨by omega, by omega⟩, (by decide), (by decide), ⟨by omega, by omega⟩, ⟨by omega, by omega⟩, j20, j18, (by omega)⟩ (by omega)
                · refine br0 c36 ?_
                  have d41 := ne_z (a := r33) (b := 0) (x := (Int32.toInt r33)) (y := 0) rfl rfl c36
                  have t42 : (Int32.toInt (x_42_0 + 1)) = (Int32.toInt x_42_0) + 1 := add_z rfl rfl (by omega) (by omega)
                  have k43 : Int32.toInt 0 = 0 := rfl
                  have k44 : Int32.toInt 1 = 1 := rfl
                  have t45 : (Int32.toInt (x_42_3 + 1)) = (Int32.toInt x_42_3) + 1 := add_z rfl rfl (by omega) (by omega)
                  exact ih _ _ _ _ _ _ _ _ _ ⟨⟨by omega, by omega⟩, (by decide), (by decide), ⟨by omega, by omega⟩, ⟨by omega, by omega⟩, j20, j18, (by omega)⟩ (by omega)
          · skip
            by_cases c46 : a = 0
            · refine br1 c46 ?_
              have d47 := eq_z (a := a) (b := 0) (x := (Int32.toInt a)) (y := 0) rfl rfl c46
              refine s_X5_readRule h0_length u_1_0 x_42_7 x_42_8 a h0_faultPlace (u_1_1) x_42_3 x_42_4 (u12) (x_42_6) ⟨by omega, by omega⟩ ⟨by omega, by omega⟩ ⟨by omega, by omega⟩ ⟨by omega, by omega⟩ ⟨by omega, by omega⟩ j14 h_x_42_6 (fun r48 u49_0 u49_1 u49_2 u49_3 u49_4 H50 => ?_)
              have j51 := H50.1
              have j52 := H50.2.1
              have j53 := H50.2.2
              refine un5_i ?_
              by_cases c54 : r48 = 0
              · refine br1 c54 ?_
                have d55 := eq_z (a := r48) (b := 0) (x := (Int32.toInt r48)) (y := 0) rfl rfl c54
                exact HJ16 _ _ _ _ _ _ ⟨(by decide), j53, ⟨by omega, by omega⟩, j52⟩
              · refine br0 c54 ?_
                have d56 := ne_z (a := r48) (b := 0) (x := (Int32.toInt r48)) (y := 0) rfl rfl c54
                refine s_X5_readIf h0_length u_1_0 u49_0 u49_1 a h0_faultPlace (u_1_1) x_42_3 u49_2 (u49_3) (u49_4) ⟨by omega, by omega⟩ ⟨by omega, by omega⟩ ⟨by omega, by omega⟩ ⟨by omega, by omega⟩ ⟨by omega, by omega⟩ j52 j53 (fun r57 u58_0 u58_1 u58_2 u58_3 u58_4 H59 => ?_)
                have j60 := H59.1
                have j61 := H59.2.1
                have j62 := H59.2.2
                refine un5_i ?_
                by_cases c63 : r57 = 0
                · refine br1 c63 ?_
                  have d64 := eq_z (a := r57) (b := 0) (x := (Int32.toInt r57)) (y := 0) rfl rfl c63
                  exact HJ16 _ _ _ _ _ _ ⟨(by decide), j62, ⟨by omega, by omega⟩, j61⟩
                · refine br0 c63 ?_
                  have d65 := ne_z (a := r57) (b := 0) (x := (Int32.toInt r57)) (y := 0) rfl rfl c63
                  exact HJ16 _ _ _ _ _ _ ⟨(by decide), j62, ⟨by omega, by omega⟩, j61⟩
            · refine br0 c46 ?_
              have d66 := ne_z (a := a) (b := 0) (x := (Int32.toInt a)) (y := 0) rfl rfl c46
              refine s_X5_readOrder h0_length u_1_0 x_42_7 x_42_8 a h0_faultPlace (u_1_1) x_42_3 x_42_4 (u12) (x_42_6) ⟨by omega, by omega⟩ ⟨by omega, by omega⟩ ⟨by omega, by omega⟩ ⟨by omega, by omega⟩ ⟨by omega, by omega⟩ j14 h_x_42_6 (fun r67 u68_0 u68_1 u68_2 u68_3 u68_4 H69 => ?_)
              have j70 := H69.1
              have j71 := H69.2.1
              have j72 := H69.2.2
              refine un5_i ?_
              by_cases c73 : r67 = 0
              · refine br1 c73 ?_
                have d74 := eq_z (a := r67) (b := 0) (x := (Int32.toInt r67)) (y := 0) rfl rfl c73
                exact HJ16 _ _ _ _ _ _ ⟨(by decide), j72, ⟨by omega, by omega⟩, j71⟩
              · refine br0 c73 ?_
                have d75 := ne_z (a := r67) (b := 0) (x := (Int32.toInt r67)) (y := 0) rfl rfl c73
                refine s_X5_readIf h0_length u_1_0 u68_0 u68_1 a h0_faultPlace (u_1_1) x_42_3 u68_2 (u68_3) (u68_4) ⟨by omega, by omega⟩ ⟨by omega, by omega⟩ ⟨by omega, by omega⟩ ⟨by omega, by omega⟩ ⟨by omega, by omega⟩ j71 j72 (fun r76 u77_0 u77_1 u77_2 u77_3 u77_4 H78 => ?_)
                have j79 := H78.1
                have j80 := H78.2.1
                have j81 := H78.2.2
                refine un5_i ?_
                by_cases c82 : r76 = 0
                · refine br1 c82 ?_
                  have d83 := eq_z (a := r76) (b := 0) (x := (Int32.toInt r76)) (y := 0) rfl rfl c82
                  exact HJ16 _ _ _ _ _ _ ⟨(by decide), j81, ⟨by omega, by omega⟩, j80⟩
                · refine br0 c82 ?_
                  have d84 := ne_z (a := r76) (b := 0) (x := (Int32.toInt r76)) (y := 0) rfl rfl c82
                  exact HJ16 _ _ _ _ _ _ ⟨(by decide), j81, ⟨by omega, by omega⟩, j80⟩
        · refine br0 c10 ?_
          have d85 := ne_z (a := x_42_1) (b := 0) (x := (Int32.toInt x_42_1)) (y := 0) rfl rfl c10
          exact KX _ _ _ _ _ _ _ _ _ ⟨⟨by omega, by omega⟩, ⟨by omega, by omega⟩, ⟨by omega, by omega⟩, ⟨by omega, by omega⟩, ⟨by omega, by omega⟩, h_x_42_5, h_x_42_6, (by omega)⟩
set_option maxRecDepth 100000 in
theorem s_X5_read (a : Int32) (h0_length : Int32) (h0_faultPlace : Int32) (f_h0_bytes : Nat → Int32) (f_h0_tokens : Nat → Int32) (f_h0_places : Nat → Int32) (f_h0_draft_heads : Nat → Int32) (f_h0_draft_code : Nat → Int32) (xe : XE) (h_a : 0 ≤ a.toInt ∧ a.toInt ≤ 1) (h_h0_length : 0 ≤ h0_length.toInt ∧ h0_length.toInt ≤ 400) (h_f_h0_bytes : BY f_h0_bytes) (h_f_h0_draft_heads : HD f_h0_draft_heads) (h_f_h0_draft_code : CD f_h0_draft_code) (e_0 : isRf xe.2.2) {Q : Int32 → (Int32 × Int32 × Int32 × Int32 × Int32 × Int32 × (Nat → Int32) × (Nat → Int32) × Int32 × Int32 × (Nat → Int32) × (Nat → Int32)) → Prop} (hq : ∀ (r : Int32) (u_0 : Int32) (u_1 : Int32) (u_2 : Int32) (u_3 : Int32) (u_4 : Int32) (u_5 : Int32) (u_6 : Nat → Int32) (u_7 : Nat → Int32) (u_8 : Int32) (u_9 : Int32) (u_10 : Nat → Int32) (u_11 : Nat → Int32), (0 ≤ r.toInt ∧ r.toInt ≤ 1) ∧ (0 ≤ u_0.toInt ∧ u_0.toInt ≤ 400) ∧ (0 ≤ u_1.toInt ∧ u_1.toInt ≤ 401) ∧ (0 ≤ u_4.toInt ∧ u_4.toInt ≤ 1) ∧ (0 ≤ u_8.toInt ∧ u_8.toInt ≤ 12) ∧ (0 ≤ u_9.toInt ∧ u_9.toInt ≤ 400) ∧ (HD u_10) ∧ (CD u_11) → Q r (u_0, u_1, u_2, u_3, u_4, u_5, u_6, u_7, u_8, u_9, u_10, u_11)) : wp_X5_read a h0_length h0_faultPlace f_h0_bytes f_h0_tokens f_h0_places f_h0_draft_heads f_h0_draft_code xe Q := by
  unfold wp_X5_read
  refine s_X5_splitIntoTokens h0_length (f_h0_bytes) (f_h0_tokens) (f_h0_places) xe ⟨by omega, by omega⟩ h_f_h0_bytes e_0 (fun u1_0 u1_1 u1_2 H2 => ?_)
  have j3 := H2
  refine un3_i ?_
  refine ⟨z01 (x := (Int32.toInt a)) rfl (by omega) (by omega), ?_⟩
  have k6 : Int32.toInt 0 = 0 := rfl
  have k7 : Int32.toInt 1 = 1 := rfl
  refine sl_X5_read_42 a h0_length h0_faultPlace u1_0 (u1_1) ⟨by omega, by omega⟩ ⟨by omega, by omega⟩ ⟨by omega, by omega⟩ _ (fun x4_0 x4_1 x4_2 x4_3 x4_4 x4_5 x4_6 x4_7 x4_8 X5 => ?_) 1000000000000 0 0 1 0 0 (f_h0_draft_heads) (f_h0_draft_code) 0 0 ⟨(by decide), (by decide), (by decide), (by decide), (by decide), h_f_h0_draft_heads, h_f_h0_draft_code, (by omega)⟩ (by omega)
  have j8 := X5.1
  have j9 := X5.2.1
  have j10 := X5.2.2.1
  have j11 := X5.2.2.2.1
  have j12 := X5.2.2.2.2.1
  have j13 := X5.2.2.2.2.2.1
  have j14 := X5.2.2.2.2.2.2.1
  have j15 := X5.2.2.2.2.2.2.2
  by_cases c16 : x4_1 = 0
  · refine br1 c16 ?_
    have d17 := eq_z (a := x4_1) (b := 0) (x := (Int32.toInt x4_1)) (y := 0) rfl rfl c16
    refine s_X5_placeNow h0_length u1_0 x4_7 (u1_2) ⟨by omega, by omega⟩ ⟨by omega, by omega⟩ (fun r18 H19 => ?_)
    refine ⟨z01 (x := (Int32.toInt x4_1)) rfl (by omega) (by omega), ?_⟩
    exact hq _ _ _ _ _ _ _ _ _ _ _ _ _ ⟨⟨by omega, by omega⟩, (by decide), ⟨by omega, by omega⟩, ⟨by omega, by omega⟩, ⟨by omega, by omega⟩, ⟨by omega, by omega⟩, j13, j14⟩
  · refine br0 c16 ?_
    have d20 := ne_z (a := x4_1) (b := 0) (x := (Int32.toInt x4_1)) (y := 0) rfl rfl c16
    refine ⟨z01 (x := (Int32.toInt x4_1)) rfl (by omega) (by omega), ?_⟩
    exact hq _ _ _ _ _ _ _ _ _ _ _ _ _ ⟨⟨by omega, by omega⟩, (by decide), ⟨by omega, by omega⟩, ⟨by omega, by omega⟩, ⟨by omega, by omega⟩, ⟨by omega, by omega⟩, j13, j14⟩

