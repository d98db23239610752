/-! the reference's least days are those of the plain state; the next step, the way -/
def pZ (F : Option (List Cls)) (w : Nat → Int) (s : Int) : Int32 → Bool := fun r => decide (pasI F w s r.toInt = 1)
def dZ (F : Option (List Cls)) (w : Nat → Int) (s : Int) : Int32 → Int32 := fun r => Int32.ofInt (digsW F w s r.toInt)
theorem dZ_z {F : Option (List Cls)} {w : Nat → Int} {s : Int} {r : Int32} : (dgG (dZ F w s) r).toInt = digsW F w s r.toInt := by
  have d : 1 ≤ digsW F w s r.toInt ∧ digsW F w s r.toInt ≤ 99 := digsF_b
  have e : (dZ F w s r).toInt = digsW F w s r.toInt := by
    show (Int32.ofInt (digsW F w s r.toInt)).toInt = _
    rw [Int32.toInt_ofInt]
    exact bm32 (by omega) (by omega)
  unfold dgG
  rw [if_pos (by rw [e]; exact d)]
  exact e
theorem hpZ {a : Int32} {row : Nat → Int32} {ls : Nat → List Cls} {w : Nat → Int} (hl : RML row ls) (hR : RMw row w) (hr : RLW row) : HPZ row a (pZ (lawW w ls) w a.toInt) := by
  intro b law bq0 v0 s0 nOp nArg set rest now hb hB Q h1 h0
  refine z_mpass hl hR hr hb (bz2 hB) (fun r law' br' v s set' rest' h => ?_)
  have h2 := h.1
  have h3 := h.2.1
  by_cases q : pasI (lawW w ls) w a.toInt b.toInt = 1
  · rw [show r = 1 from z_eq (y := 1) h3 rfl q]
    exact h1 (decide_eq_true q) _ _ _ _ _ _ ((bz1 h.2.2).elim Or.inl (fun q => Or.inr (Or.inl q)))
  · rw [show r = 0 from z_eq (x := r.toInt) (y := 0) rfl rfl (by omega)]
    exact h0 (decide_eq_false q) _ _ _ _ _ _ ((bz1 h.2.2).elim Or.inl (fun q => Or.inr (Or.inl q)))
theorem hdZ {a : Int32} {row : Nat → Int32} {ls : Nat → List Cls} {w : Nat → Int} (hl : RML row ls) (hR : RMw row w) (hr : RLW row) : HDZ row a (dZ (lawW w ls) w a.toInt) := by
  intro b law bq0 v0 s0 nOp nArg set rest now hb hB Q hq
  refine z_mdigs hl hR hr hb (bz2 hB) (fun r law' br' v s set' rest' h => ?_)
  rw [show r = dgG (dZ (lawW w ls) w a.toInt) b from Int32.toInt_inj.mp (h.2.1.trans dZ_z.symm)]
  exact hq _ _ _ _ _ _ ((bz1 h.2.2).elim Or.inl (fun q => Or.inr (Or.inl q)))
theorem cbF_z {c w : Int32} (hc : InC c) (h0 : 0 ≤ w.toInt) (h2 : w.toInt ≤ 2) : (cbF c w).toInt = cbI c.toInt w.toInt := by
  have k0 := hc.1
  have k1 := hc.2
  have e8 : (c / 8).toInt = c.toInt / 8 := div_z rfl rfl hc.1 (by decide)
  have em : (c / 8 * 8).toInt = c.toInt / 8 * 8 := mul_z e8 rfl (by omega) (by omega)
  have es : (c - c / 8 * 8).toInt = c.toInt - c.toInt / 8 * 8 := sub_z rfl em (by omega) (by omega)
  have ea : (c - c / 8 * 8 + w).toInt = c.toInt - c.toInt / 8 * 8 + w.toInt := add_z es rfl (by omega) (by omega)
  have eb : (c - c / 8 * 8 + w - 1).toInt = c.toInt - c.toInt / 8 * 8 + w.toInt - 1 := sub_z ea rfl (by omega) (by omega)
  have ec : (c + w).toInt = c.toInt + w.toInt := add_z rfl rfl (by omega) (by omega)
  have ev : (c + w - 1).toInt = c.toInt + w.toInt - 1 := sub_z ec rfl (by omega) (by omega)
  have e88 : (c + 8).toInt = c.toInt + 8 := add_z rfl rfl (by omega) (by omega)
  have m1 : (-1 : Int32).toInt = -1 := by decide
  unfold cbF cbI
  by_cases d : w = 1
  · have d' := eq_z (y := 1) rfl rfl d
    rw [if_pos d, if_pos d']
    by_cases e : 40 ≤ (c + 8).toInt
    · rw [if_pos e, if_pos (by omega)]; exact m1
    · rw [if_neg e, if_neg (by omega)]; exact e88
  · have d' := ne_z (y := 1) rfl rfl d
    rw [if_neg d, if_neg d']
    by_cases z : w.toInt = 0
    · rw [if_pos z]
      by_cases e : c.toInt % 8 ≤ 0
      · rw [if_pos e, if_neg (by omega)]; exact m1
      · rw [if_neg e, if_pos (by omega)]; omega
    · rw [if_neg z]
      by_cases e : 7 ≤ c.toInt % 8
      · rw [if_pos e, if_neg (by omega)]; exact m1
      · rw [if_neg e, if_pos (by omega)]; omega
theorem cb_nb {c : Int32} {n : Nat} (hn : c.toInt = (n : Int)) (h40 : n < 40) {x : Nat} (hx : x < 40) (h : nbD n x) : ∃ w : Int32, 0 ≤ w.toInt ∧ w.toInt ≤ 2 ∧ (cbF c w).toInt = (x : Int) := by
  have ic : InC c := ⟨by omega, by omega⟩
  rcases h with ⟨q1, q2⟩ | ⟨q1, q2⟩ | q2
  · refine ⟨0, by decide, by decide, ?_⟩
    rw [cbF_z ic (by decide) (by decide), hn]
    show cbI (n : Int) 0 = _
    unfold cbI
    rw [if_neg (by decide), if_pos rfl, if_neg (by omega)]
    omega
  · refine ⟨2, by decide, by decide, ?_⟩
    rw [cbF_z ic (by decide) (by decide), hn]
    show cbI (n : Int) 2 = _
    unfold cbI
    rw [if_neg (by decide), if_neg (by decide), if_neg (by omega)]
    omega
  · refine ⟨1, by decide, by decide, ?_⟩
    rw [cbF_z ic (by decide) (by decide), hn]
    show cbI (n : Int) 1 = _
    unfold cbI
    rw [if_pos rfl, if_neg (by omega)]
    omega
theorem nb_cb {c w : Int32} {n : Nat} (hn : c.toInt = (n : Int)) (h40 : n < 40) (h0 : 0 ≤ w.toInt) (h2 : w.toInt ≤ 2) {x : Nat} (hx : (cbF c w).toInt = (x : Int)) : nbD n x := by
  have ic : InC c := ⟨by omega, by omega⟩
  rw [cbF_z ic h0 h2, hn] at hx
  unfold cbI at hx
  by_cases d : w.toInt = 1
  · rw [if_pos d] at hx
    by_cases e : 40 ≤ (n : Int) + 8
    · rw [if_pos e] at hx; omega
    · rw [if_neg e] at hx; exact Or.inr (Or.inr (by omega))
  · rw [if_neg d] at hx
    by_cases z : w.toInt = 0
    · rw [if_pos z] at hx
      by_cases e : (n : Int) % 8 ≤ 0
      · rw [if_pos e] at hx; omega
      · rw [if_neg e] at hx; exact Or.inl ⟨by omega, by omega⟩
    · rw [if_neg z] at hx
      by_cases e : 7 ≤ (n : Int) % 8
      · rw [if_pos e] at hx; omega
      · rw [if_neg e] at hx; exact Or.inr (Or.inl ⟨by omega, by omega⟩)
/-- a step's days, where it can be gone -/
theorem dyG_1 {F : Option (List Cls)} {w : Nat → Int} {row days : Nat → Int32} {a g c y r : Int32} {x : Nat} (hR : RMw row w) (hD : DY days) (hg : InC g) (hr : cbF c y = r) (hx : r.toInt = (x : Int)) (h40 : x < 40) (hP : DWP F w a.toInt g.toInt.toNat x = true) (hf : (days x).toInt < 100000000) : (dyG (pZ F w a.toInt) (dZ F w a.toInt) row days a c y g).toInt = (days x).toInt + DWC F w a.toInt x := by
  have p := DWP_1.mp hP
  have g0 := hg.1
  have d : 1 ≤ digsW F w a.toInt (x : Int) ∧ digsW F w a.toInt (x : Int) ≤ 99 := digsF_b
  have dy := DY.at_0 hD (n := x) (z := (x : Int)) rfl (by omega) (by omega)
  have e33 : (33 + r).toInt = ((33 + x : Nat) : Int) := by rw [add_z (x := 33) rfl hx (by omega) (by omega)]; omega
  have e113 : (113 + r).toInt = ((113 + x : Nat) : Int) := by rw [add_z (x := 113) rfl hx (by omega) (by omega)]; omega
  have w33 : (row (33 + x)).toInt = w (33 + x) := hR _ (by omega)
  have w113 : (row (113 + x)).toInt = w (113 + x) := hR _ (by omega)
  have ed : (dgG (dZ F w a.toInt) r).toInt = digsW F w a.toInt (x : Int) := by rw [dZ_z, hx]
  have p2 := p.2.1
  unfold dyG
  rw [hr, tnN e33, tnN e113, tnN hx]
  rw [if_neg (z_ne (y := -1) hx (by decide) (by omega)), if_neg (z_ne (y := 1) w33 rfl (by omega)), if_neg (by
    show ¬ decide (pasI F w a.toInt r.toInt = 1) = false
    rw [hx, decide_eq_true p2]
    decide), if_neg (fun q => by
    have q2 := q.2
    rcases p.2.2 with t | t
    · exact q.1 (Int32.toInt_inj.mp (by omega))
    · omega), if_neg (z_ne (x := (days x).toInt) (y := 100000000) rfl (by decide) (by omega))]
  have rr := add_z (x := (days x).toInt) rfl ed (by omega) (by omega)
  exact rr
/-- a step of less days than FAR can be gone -/
theorem dyG_2 {F : Option (List Cls)} {w : Nat → Int} {row days : Nat → Int32} {a g c y : Int32} {n : Nat} (hR : RMw row w) (hr2 : RLW row) (hD : DY days) (hg : InC g) (hn : c.toInt = (n : Int)) (h40 : n < 40) (h0 : 0 ≤ y.toInt) (h2 : y.toInt ≤ 2) (hf : (dyG (pZ F w a.toInt) (dZ F w a.toInt) row days a c y g).toInt < 100000000) : ∃ x : Nat, x < 40 ∧ (cbF c y).toInt = (x : Int) ∧ nbD n x ∧ DWP F w a.toInt g.toInt.toNat x = true ∧ (days x).toInt < 100000000 ∧ (dyG (pZ F w a.toInt) (dZ F w a.toInt) row days a c y g).toInt = (days x).toInt + DWC F w a.toInt x := by
  have ic : InC c := ⟨by omega, by omega⟩
  have g0 := hg.1
  have B := cbF_b ic h0 h2
  have zf : (100000000 : Int32).toInt = 100000000 := by decide
  obtain ⟨r, hr⟩ : ∃ r, cbF c y = r := ⟨_, rfl⟩
  have key : ∃ x : Nat, x < 40 ∧ r.toInt = (x : Int) ∧ DWP F w a.toInt g.toInt.toNat x = true ∧ (days x).toInt < 100000000 := by
    unfold dyG at hf
    rw [hr] at hf B
    by_cases c1 : r = -1
    · rw [if_pos c1] at hf; omega
    · rw [if_neg c1] at hf
      obtain ⟨Bc, -⟩ : InC r ∧ r.toInt ≠ c.toInt := by
        rcases B with B | B
        · exact (c1 B).elim
        · exact B
      obtain ⟨x, hx⟩ : ∃ x : Nat, r.toInt = (x : Int) := ⟨r.toInt.toNat, by have := Bc.1; omega⟩
      have x40 : x < 40 := by have := Bc.2; omega
      have e33 : (33 + r).toInt = ((33 + x : Nat) : Int) := by rw [add_z (x := 33) rfl hx (by omega) (by omega)]; omega
      have e113 : (113 + r).toInt = ((113 + x : Nat) : Int) := by rw [add_z (x := 113) rfl hx (by omega) (by omega)]; omega
      have w33 : (row (33 + x)).toInt = w (33 + x) := hR _ (by omega)
      have w113 : (row (113 + x)).toInt = w (113 + x) := hR _ (by omega)
      have b33 := RLW.at_33 hr2 (n := 33 + x) (z := ((33 + x : Nat) : Int)) rfl (by omega) (by omega)
      rw [tnN e33, tnN e113, tnN hx] at hf
      by_cases c2 : row (33 + x) = 1
      · rw [if_pos c2] at hf; omega
      · have c2' := ne_z (y := 1) w33 rfl c2
        rw [if_neg c2] at hf
        by_cases c3 : pZ F w a.toInt r = false
        · rw [if_pos c3] at hf; omega
        · rw [if_neg c3] at hf
          by_cases c4 : ¬ r = g ∧ 1 < (row (113 + x)).toInt
          · rw [if_pos c4] at hf; omega
          · rw [if_neg c4] at hf
            by_cases c5 : days x = 100000000
            · rw [if_pos c5] at hf; omega
            · have dy := DY.at_0 hD (n := x) (z := (x : Int)) rfl (by omega) (by omega)
              have c5' := ne_z (x := (days x).toInt) (y := 100000000) rfl zf c5
              refine ⟨x, x40, hx, DWP_1.mpr ⟨by omega, ?_, ?_⟩, by omega⟩
              · by_cases t : pasI F w a.toInt (x : Int) = 1
                · exact t
                · exact absurd (by show decide (pasI F w a.toInt r.toInt = 1) = false; rw [hx]; exact decide_eq_false t) c3
              · by_cases t : r = g
                · have t' := eq_z (y := g.toInt) hx rfl t
                  exact Or.inl (by omega)
                · refine Or.inr ?_
                  by_cases u : w (113 + x) ≤ 1
                  · exact u
                  · exact absurd ⟨t, by omega⟩ c4
  obtain ⟨x, x40, hx, hP, hdx⟩ := key
  have hx2 : (cbF c y).toInt = (x : Int) := by rw [hr]; exact hx
  exact ⟨x, x40, hx2, nb_cb hn h40 h0 h2 hx2, hP, hdx, dyG_1 hR hD hg hr hx x40 hP hdx⟩
theorem LD.ofG {F : Option (List Cls)} {w : Nat → Int} {row days : Nat → Int32} {a g : Int32} (hR : RMw row w) (hr2 : RLW row) (hD : DY days) (hg : InC g) (hA : FAG (pZ F w a.toInt) (dZ F w a.toInt) row a g days) (hB : FBG (pZ F w a.toInt) (dZ F w a.toInt) row a g days) : LD (DWP F w a.toInt g.toInt.toNat) (DWC F w a.toInt) g.toInt.toNat 100000000 (fun c => (days c).toInt) := by
  have g0 := hg.1
  have ci : ∀ c : Nat, c < 40 → ∃ e : Int32, e.toInt = (c : Int) ∧ InC e := fun c hc => by
    have e : (Int32.ofInt (c : Int)).toInt = (c : Int) := by
      rw [Int32.toInt_ofInt]
      exact bm32 (by omega) (by omega)
    exact ⟨_, e, by omega, by omega⟩
  refine ⟨?_, fun c hc => DY.at_0 hD (n := c) (z := (c : Int)) rfl (by omega) (by omega), fun c x hc hx e hn hP hxf => ?_, fun c hc e hf => ?_⟩
  · show (days g.toNatClampNeg).toInt = 0
    rw [hA.2]
    rfl
  · obtain ⟨c', hc', ic⟩ := ci c hc
    obtain ⟨y, y0, y2, hy⟩ := cb_nb hc' hc hx hn
    have q := hB c' ic (fun t => e (by rw [t] at hc'; omega)) y y0 y2
    rw [tnN hc', dyG_1 hR hD hg rfl hy hx hP hxf] at q
    exact q
  · obtain ⟨c', hc', ic⟩ := ci c hc
    obtain ⟨y, y0, y2, hy⟩ := hA.1 c' ic (fun t => e (by rw [t] at hc'; omega)) (by rw [tnN hc']; exact hf)
    rw [tnN hc'] at hy
    have hf2 : (days c).toInt < 100000000 := hf
    obtain ⟨x, x40, hx, hn, hP, hdx, ed⟩ := dyG_2 (F := F) (a := a) (g := g) hR hr2 hD hg hc' hc y0 y2 (by omega)
    exact ⟨x, x40, hn, hP, hdx, by rw [← ed]; exact hy⟩
