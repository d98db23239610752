/-! who, of both sides: exactly -/
def whoR (w : Nat → Int) (a b : Int) : Int := if b < 0 ∨ 4 < b then -1 else if b ≤ 1 then (if a < 0 ∨ w 1 ≤ a then -1 else if b = 0 then w (28 + a.toNat) else w (193 + a.toNat)) else if a < 0 ∨ w 2 ≤ a then -1 else if b = 2 then w (198 + a.toNat) else if b = 3 then w (204 + a.toNat) else w (22 + a.toNat)
theorem whoR_x {w : Nat → Int} {a b : Int} (h : b < 0 ∨ 4 < b) : whoR w a b = -1 := if_pos h
theorem whoR_1 {w : Nat → Int} {a b : Int} (h : b = 0 ∨ b = 1) : whoR w a b = if a < 0 ∨ w 1 ≤ a then -1 else if b = 0 then w (28 + a.toNat) else w (193 + a.toNat) := by
  unfold whoR
  rw [if_neg (show ¬ (b < 0 ∨ 4 < b) by omega), if_pos (show b ≤ 1 by omega)]
theorem whoR_2 {w : Nat → Int} {a b : Int} (h : 2 ≤ b) (h4 : b ≤ 4) : whoR w a b = if a < 0 ∨ w 2 ≤ a then -1 else if b = 2 then w (198 + a.toNat) else if b = 3 then w (204 + a.toNat) else w (22 + a.toNat) := by
  unfold whoR
  rw [if_neg (show ¬ (b < 0 ∨ 4 < b) by omega), if_neg (show ¬ b ≤ 1 by omega)]
theorem x_within2 {a n : Int32} {z : Int} (hn : n.toInt = z) {Q : Int32 → Prop} (h0 : a.toInt < 0 ∨ z ≤ a.toInt → Q 0) (h1 : 0 ≤ a.toInt → a.toInt < z → Q 1) : wp_X11_isWithin a n Q := by
  unfold wp_X11_isWithin
  by_cases d1 : a < 0
  · have d1' := lt_z (x := a.toInt) (y := 0) rfl rfl d1
    exact br1 d1 (h0 (Or.inl d1'))
  · have d1' := nlt_z (x := a.toInt) (y := 0) rfl rfl d1
    refine br0 d1 ?_
    by_cases d2 : n ≤ a
    · have d2' := le_z (y := a.toInt) hn rfl d2
      exact br1 d2 (h0 (Or.inr d2'))
    · have d2' := nle_z (y := a.toInt) hn rfl d2
      exact br0 d2 (h1 d1' d2')
theorem x_whoc {a b ls ns hu : Int32} {co ea nc nl : Nat → Int32} {w : Nat → Int} (h1 : RsW ls 1 w) (h2 : RsW ns 2 w) (h3 : RH hu w) (h4 : RkW co 28 5 w) (h5 : RkW ea 193 5 w) (h6 : RkW nc 198 6 w) (h7 : RkW nl 204 6 w) (l5 : w 1 ≤ 5) (n6 : w 2 ≤ 6) {Q : Int32 → Prop} (hq : ∀ r : Int32, r.toInt = whoR w a.toInt b.toInt → Q r) : wp_X11_who a b ls ns hu co ea nc nl Q := by
  unfold wp_X11_who
  have m1 : (-1 : Int32).toInt = -1 := by decide
  have h1 : ls.toInt = w 1 := h1
  have h2 : ns.toInt = w 2 := h2
  refine jn_s ?_
  by_cases c0 : b = 0
  · have c0' := eq_z (x := b.toInt) (y := 0) rfl rfl c0
    refine br1 c0 (jn_s (br0 (by decide) (x_within2 h1 (fun d => br1 rfl (hq _ (by rw [whoR_1 (Or.inl c0'), if_pos d]; exact m1))) (fun d1 d2 => br0 (by decide) (br1 c0 ?_)))))
    obtain ⟨k, hk⟩ : ∃ k : Nat, a.toInt = (k : Int) := ⟨a.toInt.toNat, by omega⟩
    have ek : a.toInt.toNat = k := by rw [hk, Int.toNat_natCast]
    rw [tnN hk]
    exact ⟨vpi hk (by omega) (by omega), hq _ (by rw [whoR_1 (Or.inl c0'), if_neg (by omega), if_pos c0', ek]; exact h4 k (by omega))⟩
  · have c0' := ne_z (x := b.toInt) (y := 0) rfl rfl c0
    refine br0 c0 ?_
    by_cases c1 : b = 1
    · have c1' := eq_z (x := b.toInt) (y := 1) rfl rfl c1
      refine br1 c1 (jn_s (br0 (by decide) (x_within2 h1 (fun d => br1 rfl (hq _ (by rw [whoR_1 (Or.inr c1'), if_pos d]; exact m1))) (fun d1 d2 => br0 (by decide) (br0 c0 (br1 c1 ?_))))))
      obtain ⟨k, hk⟩ : ∃ k : Nat, a.toInt = (k : Int) := ⟨a.toInt.toNat, by omega⟩
      have ek : a.toInt.toNat = k := by rw [hk, Int.toNat_natCast]
      rw [tnN hk]
      exact ⟨vpi hk (by omega) (by omega), hq _ (by rw [whoR_1 (Or.inr c1'), if_neg (by omega), if_neg c0', ek]; exact h5 k (by omega))⟩
    · have c1' := ne_z (x := b.toInt) (y := 1) rfl rfl c1
      refine br0 c1 (jn_s (br1 rfl (x_within2 h2 (fun d => br1 rfl (hq _ ?_)) (fun d1 d2 => br0 (by decide) (br0 c0 (br0 c1 ?_))))))
      · by_cases cx : b.toInt < 0 ∨ 4 < b.toInt
        · rw [whoR_x cx]; exact m1
        · rw [whoR_2 (by omega) (by omega), if_pos d]; exact m1
      · obtain ⟨k, hk⟩ : ∃ k : Nat, a.toInt = (k : Int) := ⟨a.toInt.toNat, by omega⟩
        have ek : a.toInt.toNat = k := by rw [hk, Int.toNat_natCast]
        rw [tnN hk]
        have va : vp_in a 6 := vpi hk (by omega) (by omega)
        by_cases c2 : b = 2
        · have c2' := eq_z (x := b.toInt) (y := 2) rfl rfl c2
          exact br1 c2 ⟨va, hq _ (by rw [whoR_2 (by omega) (by omega), if_neg (by omega), if_pos c2', ek]; exact h6 k (by omega))⟩
        · have c2' := ne_z (x := b.toInt) (y := 2) rfl rfl c2
          refine br0 c2 ?_
          by_cases c3 : b = 3
          · have c3' := eq_z (x := b.toInt) (y := 3) rfl rfl c3
            exact br1 c3 ⟨va, hq _ (by rw [whoR_2 (by omega) (by omega), if_neg (by omega), if_neg c2', if_pos c3', ek]; exact h7 k (by omega))⟩
          · have c3' := ne_z (x := b.toInt) (y := 3) rfl rfl c3
            refine br0 c3 ?_
            by_cases c4 : b = 4
            · have c4' := eq_z (x := b.toInt) (y := 4) rfl rfl c4
              refine br1 c4 (hq _ ?_)
              rw [whoR_2 (by omega) (by omega), if_neg (by omega), if_neg c2', if_neg c3', ek, h3.1 k (by omega)]
              have B := bh_is (x := hu) hk (by omega)
              have R : 0 ≤ ((hu >>> (a &&& 31)) &&& 1).toInt ∧ ((hu >>> (a &&& 31)) &&& 1).toInt ≤ 1 := and_z (by decide)
              cases g : bh hu k with
              | true =>
                rw [if_pos rfl]
                have n0 : ¬ (hu >>> (a &&& 31)) &&& 1 = 0 := fun q => by have := B.mp q; rw [g] at this; cases this
                have n1 : ¬ ((hu >>> (a &&& 31)) &&& 1).toInt = 0 := fun q => n0 (Int32.toInt_inj.mp q)
                omega
              | false =>
                rw [B.mpr g]; rfl
            · have c4' := ne_z (x := b.toInt) (y := 4) rfl rfl c4
              exact br0 c4 (hq _ (by rw [whoR_x (by omega)]; exact m1))
theorem x_whom {a b : Int32} {row : Nat → Int32} {w : Nat → Int} (hR : RMw row w) (l5 : 0 ≤ w 1 ∧ w 1 ≤ 5) (n6 : 0 ≤ w 2 ∧ w 2 ≤ 6) {Q : Int32 → Int32 → Prop} (hq : ∀ r : Int32, r.toInt = whoR w a.toInt b.toInt → Q r 0) : wp_X12_who a b row Q := by
  unfold wp_X12_who
  have m1 : (-1 : Int32).toInt = -1 := by decide
  have ea : a.toInt64.toInt = a.toInt := i2l_z rfl
  have eb : b.toInt64.toInt = b.toInt := i2l_z rfl
  have z0 : (0 : Int64).toInt = 0 := rfl
  have z4 : (4 : Int64).toInt = 4 := rfl
  have r1 : (row (1 : Int32).toNatClampNeg).toInt = w 1 := hR 1 (by decide)
  have r2 : (row (2 : Int32).toNatClampNeg).toInt = w 2 := hR 2 (by decide)
  have q1 : ((row (1 : Int32).toNatClampNeg).toInt64 - 1).toInt = w 1 - 1 := lsub_z (i2l_z r1) rfl (by omega) (by omega)
  have q2 : ((row (2 : Int32).toNatClampNeg).toInt64 - 1).toInt = w 2 - 1 := lsub_z (i2l_z r2) rfl (by omega) (by omega)
  refine e_in (fun g1 g2 => br0 (by decide) (jn_s ?_)) (fun g => br1 rfl (hq _ (by rw [whoR_x (by omega)]; exact m1)))
  by_cases c : 2 ≤ b
  · have c' := le_z (x := 2) (y := b.toInt) rfl rfl c
    refine br1 c ?_
    unfold wp_X12_isNoise
    refine e_in (fun g3 g4 => br0 (by decide) ?_) (fun g => br1 rfl (hq _ (by rw [whoR_2 (by omega) (by omega), if_pos (by omega)]; exact m1)))
    obtain ⟨k, hk⟩ : ∃ k : Nat, a.toInt = (k : Int) := ⟨a.toInt.toNat, by omega⟩
    have ek : a.toInt.toNat = k := by rw [hk, Int.toNat_natCast]
    have a1 : (198 + a).toInt = ((198 + k : Nat) : Int) := addN (a := 198) (x := 198) rfl hk (by omega)
    have a2 : (204 + a).toInt = ((204 + k : Nat) : Int) := addN (a := 204) (x := 204) rfl hk (by omega)
    have a3 : (22 + a).toInt = ((22 + k : Nat) : Int) := addN (a := 22) (x := 22) rfl hk (by omega)
    refine br0 (z_ne (x := b.toInt) (y := 0) rfl rfl (by omega)) (br0 (z_ne (x := b.toInt) (y := 1) rfl rfl (by omega)) ?_)
    rw [tnN a1, tnN a2, tnN a3]
    by_cases c2 : b = 2
    · have c2' := eq_z (x := b.toInt) (y := 2) rfl rfl c2
      exact br1 c2 ⟨vpi a1 (by omega) (by omega), hq _ (by rw [whoR_2 (by omega) (by omega), if_neg (by omega), if_pos c2', ek]; exact hR _ (by omega))⟩
    · have c2' := ne_z (x := b.toInt) (y := 2) rfl rfl c2
      refine br0 c2 ?_
      by_cases c3 : b = 3
      · have c3' := eq_z (x := b.toInt) (y := 3) rfl rfl c3
        exact br1 c3 ⟨vpi a2 (by omega) (by omega), hq _ (by rw [whoR_2 (by omega) (by omega), if_neg (by omega), if_neg c2', if_pos c3', ek]; exact hR _ (by omega))⟩
      · have c3' := ne_z (x := b.toInt) (y := 3) rfl rfl c3
        exact br0 c3 ⟨vpi a3 (by omega) (by omega), hq _ (by rw [whoR_2 (by omega) (by omega), if_neg (by omega), if_neg c2', if_neg c3', ek]; exact hR _ (by omega))⟩
  · have c' := nle_z (x := 2) (y := b.toInt) rfl rfl c
    refine br0 c ?_
    have b01 : b.toInt = 0 ∨ b.toInt = 1 := by omega
    unfold wp_X12_isEar
    refine e_in (fun g3 g4 => br0 (by decide) ?_) (fun g => br1 rfl (hq _ (by rw [whoR_1 b01, if_pos (by omega)]; exact m1)))
    obtain ⟨k, hk⟩ : ∃ k : Nat, a.toInt = (k : Int) := ⟨a.toInt.toNat, by omega⟩
    have ek : a.toInt.toNat = k := by rw [hk, Int.toNat_natCast]
    have a1 : (28 + a).toInt = ((28 + k : Nat) : Int) := addN (a := 28) (x := 28) rfl hk (by omega)
    have a2 : (193 + a).toInt = ((193 + k : Nat) : Int) := addN (a := 193) (x := 193) rfl hk (by omega)
    rw [tnN a1, tnN a2]
    by_cases c0 : b = 0
    · have c0' := eq_z (x := b.toInt) (y := 0) rfl rfl c0
      exact br1 c0 ⟨vpi a1 (by omega) (by omega), hq _ (by rw [whoR_1 b01, if_neg (by omega), if_pos c0', ek]; exact hR _ (by omega))⟩
    · have c0' := ne_z (x := b.toInt) (y := 0) rfl rfl c0
      exact br0 c0 (br1 (z_eq (x := b.toInt) (y := 1) rfl rfl (by omega)) ⟨vpi a2 (by omega) (by omega), hq _ (by rw [whoR_1 b01, if_neg (by omega), if_neg c0', ek]; exact hR _ (by omega))⟩)
