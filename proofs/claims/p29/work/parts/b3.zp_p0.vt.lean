/-! vein, of: what both sides answer -/
noncomputable def veinR (w : Nat → Int) (a b : Int) : Int64 := if a < 0 ∨ 39 < a then -1 else if w (113 + a.toNat) = 3 then (if b = 0 then vnF (wtP w) a.toNat else if b = 1 then Int64.ofInt (swF w (bt (vnF (wtP w) a.toNat)) 40) else if b = 2 then Int64.ofInt (csF w (bt (vnF (wtP w) a.toNat)) (w 0).toNat) else -1) else -1
theorem veinR_1 {w : Nat → Int} {a b : Int} (h : a < 0 ∨ 39 < a) : veinR w a b = -1 := if_pos h
theorem veinR_2 {w : Nat → Int} {a b : Int} (h : ¬ w (113 + a.toNat) = 3) : veinR w a b = -1 := by
  unfold veinR
  by_cases c : a < 0 ∨ 39 < a
  · rw [if_pos c]
  · rw [if_neg c, if_neg h]
theorem veinR_3 {w : Nat → Int} {a b : Int} (h : ¬ (a < 0 ∨ 39 < a)) (h3 : w (113 + a.toNat) = 3) : veinR w a b = (if b = 0 then vnF (wtP w) a.toNat else if b = 1 then Int64.ofInt (swF w (bt (vnF (wtP w) a.toNat)) 40) else if b = 2 then Int64.ofInt (csF w (bt (vnF (wtP w) a.toNat)) (w 0).toNat) else -1) := by
  unfold veinR
  rw [if_neg h, if_pos h3]
theorem i64_of {r : Int32} {z : Int} (h : r.toInt = z) : r.toInt64 = Int64.ofInt z := by rw [← h]; exact (Int64.ofInt_int32ToInt _).symm
theorem x_veinc {a b cc : Int32} {kd wt ce : Nat → Int32} {w : Nat → Int} (hK : RkW kd 113 40 w) (hw : RkW wt 73 40 w) (hc : RkW ce 10 6 w) (hcc : cc.toInt = w 0) (h6 : 0 ≤ w 0 ∧ w 0 ≤ 6) (b73 : ∀ k, k < 40 → 0 ≤ w (73 + k) ∧ w (73 + k) ≤ 99) (b10 : ∀ k, k < 6 → 0 ≤ w (10 + k) ∧ w (10 + k) ≤ 39) {Q : Int64 → Prop} (hq : ∀ r : Int64, r = veinR w a.toInt b.toInt → Q r) : wp_X11_vein a b kd wt cc ce Q := by
  unfold wp_X11_vein
  refine x_within2 (n := 40) (z := 40) rfl (fun h => br1 rfl (hq _ (veinR_1 (by omega)).symm)) (fun h0 h1 => br0 (by decide) ⟨vpi rfl h0 (by omega), ?_⟩)
  obtain ⟨k, hk⟩ : ∃ k : Nat, a.toInt = (k : Int) := ⟨a.toInt.toNat, by omega⟩
  have ek : a.toInt.toNat = k := by rw [hk, Int.toNat_natCast]
  have e : (kd k).toInt = w (113 + k) := hK k (by omega)
  rw [tnN hk]
  by_cases t : kd k = 3
  · have t' : w (113 + k) = 3 := eq_z (y := 3) e rfl t
    have V := veinR_3 (w := w) (a := a.toInt) (b := b.toInt) (by omega) (by rw [ek]; exact t')
    refine br1 t (x_vn hK hk (by omega) t' (fun r hr => ?_))
    have er : r = vnF (wtP w) a.toInt.toNat := by rw [ek]; exact hr.eq
    by_cases c0 : b = 0
    · have c0' := eq_z (x := b.toInt) (y := 0) rfl rfl c0
      exact br1 c0 (hq _ (by rw [V, if_pos c0', er]))
    · have c0' := ne_z (x := b.toInt) (y := 0) rfl rfl c0
      refine br0 c0 ?_
      by_cases c1 : b = 1
      · have c1' := eq_z (x := b.toInt) (y := 1) rfl rfl c1
        refine br1 c1 (x_wi hw b73 (fun s hs => hq _ ?_))
        rw [V, if_neg c0', if_pos c1', i64_of hs, er]
      · have c1' := ne_z (x := b.toInt) (y := 1) rfl rfl c1
        refine br0 c1 ?_
        by_cases c2 : b = 2
        · have c2' := eq_z (x := b.toInt) (y := 2) rfl rfl c2
          refine br1 c2 (x_ci hc hcc h6 b10 (fun s hs => hq _ ?_))
          rw [V, if_neg c0', if_neg c1', if_pos c2', i64_of hs, er]
        · have c2' := ne_z (x := b.toInt) (y := 2) rfl rfl c2
          exact br0 c2 (hq _ (by rw [V, if_neg c0', if_neg c1', if_neg c2']))
  · have t' : ¬ w (113 + k) = 3 := ne_z (y := 3) e rfl t
    exact br0 t (hq _ (veinR_2 (by rw [ek]; exact t')).symm)
theorem x_veinm {a b : Int32} {row : Nat → Int32} {w : Nat → Int} (hR : RMw row w) (hr : RLW row) {Q : Int64 → Int32 → Prop} (hq : ∀ r : Int64, r = veinR w a.toInt b.toInt → Q r 0) : wp_X12_vein a b row Q := by
  have a1 : a.toInt64.toInt = a.toInt := Int32.toInt_toInt64 a
  have b1 : b.toInt64.toInt = b.toInt := Int32.toInt_toInt64 b
  have z0 : (0 : Int64).toInt = 0 := rfl
  have z39 : (39 : Int64).toInt = 39 := rfl
  have z2 : (2 : Int64).toInt = 2 := rfl
  have h6 : 0 ≤ w 0 ∧ w 0 ≤ 6 := by rw [← hR 0 (by decide)]; exact RLW.at_0 hr (n := 0) (z := 0) rfl (by decide) (by decide)
  have b73 : ∀ k, k < 40 → 0 ≤ w (73 + k) ∧ w (73 + k) ≤ 99 := fun k hk => by rw [← hR (73 + k) (by omega)]; exact RLW.at_73 hr (n := 73 + k) (z := ((73 + k : Nat) : Int)) rfl (by omega) (by omega)
  have b10 : ∀ k, k < 6 → 0 ≤ w (10 + k) ∧ w (10 + k) ≤ 39 := fun k hk => by rw [← hR (10 + k) (by omega)]; exact RLW.at_10 hr (n := 10 + k) (z := ((10 + k : Nat) : Int)) rfl (by omega) (by omega)
  unfold wp_X12_vein wp_X12_isCell
  refine e_in (fun g0 g1 => br0 (by decide) ?_) (fun g => br1 rfl (hq _ (veinR_1 (by rw [a1, z0, z39] at g; omega)).symm))
  rw [a1, z0] at g0
  rw [a1, z39] at g1
  obtain ⟨k, hk⟩ : ∃ k : Nat, a.toInt = (k : Int) := ⟨a.toInt.toNat, by omega⟩
  have ek : a.toInt.toNat = k := by rw [hk, Int.toNat_natCast]
  have x1 : (113 + a).toInt = ((113 + k : Nat) : Int) := by rw [add_z (a := 113) (x := 113) rfl hk (by omega) (by omega)]; omega
  have e : (row (113 + k)).toInt = w (113 + k) := hR _ (by omega)
  refine ⟨vpi x1 (by omega) (by omega), ?_⟩
  rw [tnN x1]
  by_cases t : row (113 + k) = 3
  · have t' : w (113 + k) = 3 := eq_z (y := 3) e rfl t
    have V := veinR_3 (w := w) (a := a.toInt) (b := b.toInt) (by omega) (by rw [ek]; exact t')
    refine br1 t (e_in (fun i0 i1 => br0 (by decide) ?_) (fun g => br1 rfl (hq _ ?_)))
    · rw [b1, z0] at i0
      rw [b1, z2] at i1
      refine x_mvn hR hk (by omega) (fun r hv => ?_)
      have er : r = vnF (wtP w) a.toInt.toNat := by rw [ek]; exact hv.eq
      by_cases c0 : b = 0
      · have c0' := eq_z (x := b.toInt) (y := 0) rfl rfl c0
        exact br1 c0 (hq _ (by rw [V, if_pos c0', er]))
      · have c0' := ne_z (x := b.toInt) (y := 0) rfl rfl c0
        refine br0 c0 ?_
        by_cases c1 : b = 1
        · have c1' := eq_z (x := b.toInt) (y := 1) rfl rfl c1
          refine br1 c1 (x_mwo hR b73 (fun s hs => hq _ ?_))
          rw [V, if_neg c0', if_pos c1', i64_of hs, er]
        · have c1' := ne_z (x := b.toInt) (y := 1) rfl rfl c1
          refine br0 c1 (x_msi hR h6 b10 (fun s hs => hq _ ?_))
          rw [V, if_neg c0', if_neg c1', if_pos (show b.toInt = 2 by omega), i64_of hs, er]
    · rw [b1, z0, z2] at g
      rw [V, if_neg (show ¬ b.toInt = 0 by omega), if_neg (show ¬ b.toInt = 1 by omega), if_neg (show ¬ b.toInt = 2 by omega)]
  · have t' : ¬ w (113 + k) = 3 := ne_z (y := 3) e rfl t
    exact br0 t (hq _ (veinR_2 (by rw [ek]; exact t')).symm)
