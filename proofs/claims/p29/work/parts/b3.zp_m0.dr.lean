/-! drawn, of both sides: exactly -/
def drwR (D : Option (Nat → Int)) (a b : Int) : Int := match D with
  | none => -1
  | some w => if b < 0 ∨ 2 < b then -1 else if b = 2 then w 7 else if a < 0 ∨ w 0 ≤ a then -1 else if b = 0 then w (10 + a.toNat) else w (16 + a.toNat)
theorem drwR_s {w : Nat → Int} {a b : Int} : drwR (some w) a b = if b < 0 ∨ 2 < b then -1 else if b = 2 then w 7 else if a < 0 ∨ w 0 ≤ a then -1 else if b = 0 then w (10 + a.toNat) else w (16 + a.toNat) := rfl
theorem x_drawnc {a b dd cc : Int32} {bu ce : Nat → Int32} {D : Option (Nat → Int)} (hD : RXn dd cc ce bu D) {Q : Int32 → Prop} (hq : ∀ r : Int32, r.toInt = drwR D a.toInt b.toInt → Q r) : wp_X11_drawn a b dd cc bu ce Q := by
  unfold wp_X11_drawn
  have m1 : (-1 : Int32).toInt = -1 := by decide
  cases D with
  | none =>
    have e : dd.toInt = -1 := hD
    exact br1 (z_eq e m1 rfl) (hq _ m1)
  | some w =>
    obtain ⟨e1, e2, ⟨e3, e4, e5⟩, e6, e7⟩ := hD
    refine br0 (z_ne e1 m1 (by omega)) ?_
    by_cases c1 : b < 0
    · have c1' := lt_z (x := b.toInt) (y := 0) rfl rfl c1
      exact br1 c1 (hq _ (by rw [drwR_s, if_pos (Or.inl c1')]; exact m1))
    · have c1' := nlt_z (x := b.toInt) (y := 0) rfl rfl c1
      refine br0 c1 ?_
      by_cases c2 : b ≤ 2
      · have c2' := le_z (x := b.toInt) (y := 2) rfl rfl c2
        refine br1 c2 ?_
        by_cases c3 : b = 2
        · have c3' := eq_z (x := b.toInt) (y := 2) rfl rfl c3
          exact br1 c3 (hq _ (by rw [drwR_s, if_neg (by omega), if_pos c3']; exact e1))
        · have c3' := ne_z (x := b.toInt) (y := 2) rfl rfl c3
          refine br0 c3 ?_
          unfold wp_X11_isWithin
          by_cases d1 : a < 0
          · have d1' := lt_z (x := a.toInt) (y := 0) rfl rfl d1
            exact br1 d1 (br1 rfl (hq _ (by rw [drwR_s, if_neg (by omega), if_neg c3', if_pos (Or.inl d1')]; exact m1)))
          · have d1' := nlt_z (x := a.toInt) (y := 0) rfl rfl d1
            refine br0 d1 ?_
            by_cases d2 : cc ≤ a
            · have d2' := le_z (y := a.toInt) e3 rfl d2
              exact br1 d2 (br1 rfl (hq _ (by rw [drwR_s, if_neg (by omega), if_neg c3', if_pos (Or.inr d2')]; exact m1)))
            · have d2' := nle_z (y := a.toInt) e3 rfl d2
              obtain ⟨k, hk⟩ : ∃ k : Nat, a.toInt = (k : Int) := ⟨a.toInt.toNat, by omega⟩
              have ek : a.toInt.toNat = k := by rw [hk, Int.toNat_natCast]
              refine br0 d2 (br0 (by decide) ?_)
              rw [tnN hk]
              by_cases c4 : b = 0
              · have c4' := eq_z (x := b.toInt) (y := 0) rfl rfl c4
                exact br1 c4 ⟨vpi hk (by omega) (by omega), hq _ (by rw [drwR_s, if_neg (by omega), if_neg c3', if_neg (by omega), if_pos c4', ek]; exact e6 k (by omega))⟩
              · have c4' := ne_z (x := b.toInt) (y := 0) rfl rfl c4
                exact br0 c4 ⟨vpi hk (by omega) (by omega), hq _ (by rw [drwR_s, if_neg (by omega), if_neg c3', if_neg (by omega), if_neg c4', ek]; exact e7 k (by omega))⟩
      · have c2' := nle_z (x := b.toInt) (y := 2) rfl rfl c2
        exact br0 c2 (hq _ (by rw [drwR_s, if_pos (Or.inr c2')]; exact m1))
theorem x_drawnm {a b dd nd : Int32} {dr : Nat → Int32} {D : Option (Nat → Int)} (hD : RMn dd nd dr D) {Q : Int32 → Int32 → Prop} (hq : ∀ r : Int32, r.toInt = drwR D a.toInt b.toInt → Q r 0) : wp_X12_drawn a b dd nd dr Q := by
  unfold wp_X12_drawn
  have m1 : (-1 : Int32).toInt = -1 := by decide
  have ea : a.toInt64.toInt = a.toInt := i2l_z rfl
  have eb : b.toInt64.toInt = b.toInt := i2l_z rfl
  have z0 : (0 : Int64).toInt = 0 := rfl
  have z2 : (2 : Int64).toInt = 2 := rfl
  cases D with
  | none =>
    have e : nd.toInt = -1 := hD
    exact br1 (z_eq e m1 rfl) (hq _ m1)
  | some w =>
    obtain ⟨e1, e2, e3, e4⟩ := hD
    have en : nd.toInt64.toInt = w 0 := i2l_z e2
    have en1 : (nd.toInt64 - 1).toInt = w 0 - 1 := lsub_z en rfl (by omega) (by omega)
    refine br0 (z_ne e2 m1 (by omega)) (e_in (fun g1 g2 => br0 (by decide) ?_) (fun g => br1 rfl (hq _ (by rw [drwR_s, if_pos (by omega)]; exact m1))))
    refine jn_s ?_
    by_cases c3 : b = 2
    · have c3' := eq_z (x := b.toInt) (y := 2) rfl rfl c3
      refine br1 (z_le (x := 2) (y := b.toInt) rfl rfl (by omega)) (br1 c3 (hq _ ?_))
      rw [drwR_s, if_neg (by omega), if_pos c3']
      exact e1
    · have c3' := ne_z (x := b.toInt) (y := 2) rfl rfl c3
      refine br0 (z_nle (x := 2) (y := b.toInt) rfl rfl (by omega)) (e_in (fun g3 g4 => br0 (by decide) ?_) (fun g => br1 rfl (hq _ (by rw [drwR_s, if_neg (by omega), if_neg c3', if_pos (by omega)]; exact m1))))
      obtain ⟨k, hk⟩ : ∃ k : Nat, a.toInt = (k : Int) := ⟨a.toInt.toNat, by omega⟩
      have ek : a.toInt.toNat = k := by rw [hk, Int.toNat_natCast]
      have q := e4 k (by omega)
      have e2k : (2 * a).toInt = ((2 * k : Nat) : Int) := mulN (a := 2) (x := 2) rfl hk (by omega)
      by_cases c4 : b = 0
      · have c4' := eq_z (x := b.toInt) (y := 0) rfl rfl c4
        have ei : (2 * a + b).toInt = ((2 * k : Nat) : Int) := by rw [c4, add_z e2k (b := 0) (y := 0) rfl (by omega) (by omega)]; omega
        refine br0 c3 ⟨vpi ei (by omega) (by omega), hq _ ?_⟩
        rw [tnN ei, drwR_s, if_neg (by omega), if_neg c3', if_neg (by omega), if_pos c4', ek]
        exact q.1
      · have c4' := ne_z (x := b.toInt) (y := 0) rfl rfl c4
        have b1 : b.toInt = ((1 : Nat) : Int) := by omega
        have ei : (2 * a + b).toInt = ((2 * k + 1 : Nat) : Int) := addN e2k b1 (by omega)
        refine br0 c3 ⟨vpi ei (by omega) (by omega), hq _ ?_⟩
        rw [tnN ei, drwR_s, if_neg (by omega), if_neg c3', if_neg (by omega), if_neg c4', ek]
        exact q.2
