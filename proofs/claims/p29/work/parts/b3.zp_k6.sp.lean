/-! SEASONS, in plain numbers -/
def dwI (x : Int) : Int := (x * 1103 + 12345) % 1000003
theorem dwI_b {x : Int} : 0 ≤ dwI x ∧ dwI x ≤ 1000002 := by unfold dwI; omega
theorem bnd_dw {x : Int32} {k : Int32 → Prop} (h0 : 0 ≤ x.toInt) (h1 : x.toInt ≤ 1000002) (h : ∀ z : Int32, (0 ≤ z.toInt ∧ z.toInt ≤ 1000002) → z.toInt = dwI x.toInt → k z) : bndz (irm ((x * 1103) + 12345) 1000003) k := by
  have e1 : (x * 1103).toInt = x.toInt * 1103 := mul_z rfl (b := 1103) (y := 1103) rfl (by omega) (by omega)
  have e2 : ((x * 1103) + 12345).toInt = x.toInt * 1103 + 12345 := add_z e1 (b := 12345) (y := 12345) rfl (by omega) (by omega)
  have e3 := irm_z e2 (b := 1000003) (y := 1000003) rfl (by omega) (by omega)
  have b := dwI_b (x := x.toInt)
  exact h _ (by rw [e3]; exact b) e3
theorem bnd_md {a b : Int32} {k : Int32 → Prop} (h0 : 0 ≤ a.toInt) (h1 : 0 < b.toInt) (h : ∀ z : Int32, (0 ≤ z.toInt ∧ z.toInt < b.toInt) → z.toInt = a.toInt % b.toInt → k z) : bndz (irm a b) k := by
  have e3 := irm_z (a := a) (b := b) rfl rfl h0 h1
  exact h _ (by rw [e3]; exact ⟨Int.emod_nonneg _ (by omega), Int.emod_lt_of_pos _ h1⟩) e3
/-- one day of SEASONS -/
def se1 (F : Option (List Cls)) (w : Nat → Int) (x : Int) : Nat → Int :=
  if 0 ≤ haulR F w (dwI x % w 0) then haulW F w (dwI x % w 0)
  else if 0 ≤ digR F w (dwI x % w 0) (dwI (dwI x) % 3) then digW F w (dwI x % w 0) (dwI (dwI x) % 3)
  else if w 7 < 9999 then uI w 7 (w 7 + 1) else w
def seF (ls : Nat → List Cls) : Nat → Int → (Nat → Int) → (Nat → Int)
  | 0, _, w => w
  | n + 1, x, w => seF ls n (dwI (dwI x)) (se1 (lawW w ls) w x)
theorem seF_s {ls : Nat → List Cls} {n m : Nat} {x : Int} {w : Nat → Int} (h : n = m + 1) : seF ls n x w = seF ls m (dwI (dwI x)) (se1 (lawW w ls) w x) := by subst h; rfl
theorem haulW_n {F : Option (List Cls)} {w : Nat → Int} {s : Int} (h : haulR F w s < 0) : haulW F w s = w := if_pos h
theorem digW_n {F : Option (List Cls)} {w : Nat → Int} {s y : Int} (h : digR F w s y < 0) : digW F w s y = w := if_pos h
section SE
variable {ls : Nat → List Cls} {w : Nat → Int} {x : Int} {cc z0 z1 z2 z3 : Int32} {n m : Nat}
theorem seF_h (hn : n = m + 1) (e0 : z0.toInt = dwI x) (e1 : z1.toInt = z0.toInt % cc.toInt) (e2 : z2.toInt = dwI z0.toInt) (_e3 : z3.toInt = z2.toInt % (3 : Int32).toInt) (h : 0 ≤ haulR (lawW w ls) w z1.toInt) (hc : cc.toInt = w 0) : seF ls n x w = seF ls m z2.toInt (haulW (lawW w ls) w z1.toInt) := by
  rw [e0, hc] at e1
  rw [e0] at e2
  rw [seF_s hn, e2, e1]
  rw [e1] at h
  unfold se1
  rw [if_pos h]
theorem seF_d (hn : n = m + 1) (e0 : z0.toInt = dwI x) (e1 : z1.toInt = z0.toInt % cc.toInt) (e2 : z2.toInt = dwI z0.toInt) (e3 : z3.toInt = z2.toInt % (3 : Int32).toInt) (h : haulR (lawW w ls) w z1.toInt < 0) (h2 : 0 ≤ digR (lawW w ls) w z1.toInt z3.toInt) (hc : cc.toInt = w 0) : seF ls n x w = seF ls m z2.toInt (digW (lawW w ls) w z1.toInt z3.toInt) := by
  rw [e0, hc] at e1
  rw [e0] at e2
  rw [e2, show (3 : Int32).toInt = 3 from rfl] at e3
  rw [seF_s hn, e2, e1, e3]
  rw [e1] at h
  rw [e1, e3] at h2
  unfold se1
  rw [if_neg (by omega), if_pos h2]
theorem seF_y (hn : n = m + 1) (e0 : z0.toInt = dwI x) (e1 : z1.toInt = z0.toInt % cc.toInt) (e2 : z2.toInt = dwI z0.toInt) (e3 : z3.toInt = z2.toInt % (3 : Int32).toInt) (h : haulR (lawW w ls) w z1.toInt < 0) (h2 : digR (lawW w ls) w z1.toInt z3.toInt < 0) (h3 : w 7 < 9999) (hc : cc.toInt = w 0) : seF ls n x w = seF ls m z2.toInt (uI w 7 (w 7 + 1)) := by
  rw [e0, hc] at e1
  rw [e0] at e2
  rw [e2, show (3 : Int32).toInt = 3 from rfl] at e3
  rw [seF_s hn, e2]
  rw [e1] at h
  rw [e1, e3] at h2
  unfold se1
  rw [if_neg (by omega), if_neg (by omega), if_pos h3]
theorem seF_n (hn : n = m + 1) (e0 : z0.toInt = dwI x) (e1 : z1.toInt = z0.toInt % cc.toInt) (e2 : z2.toInt = dwI z0.toInt) (e3 : z3.toInt = z2.toInt % (3 : Int32).toInt) (h : haulR (lawW w ls) w z1.toInt < 0) (h2 : digR (lawW w ls) w z1.toInt z3.toInt < 0) (h3 : ¬ w 7 < 9999) (hc : cc.toInt = w 0) : seF ls n x w = seF ls m z2.toInt w := by
  rw [e0, hc] at e1
  rw [e0] at e2
  rw [e2, show (3 : Int32).toInt = 3 from rfl] at e3
  rw [seF_s hn, e2]
  rw [e1] at h
  rw [e1, e3] at h2
  unfold se1
  rw [if_neg (by omega), if_neg (by omega), if_neg h3]
end SE
theorem haulW_mo {F : Option (List Cls)} {w : Nat → Int} {s : Int} (hb : ∀ i, i < 6 → w (16 + i) ≤ 9999) (i : Nat) (hi : i < 6) : w (16 + i) ≤ haulW F w s (16 + i) := by
  by_cases c : haulR F w s < 0
  · rw [haulW_n c]; exact Int.le_refl _
  · unfold haulW
    rw [if_neg c]
    unfold haulR at c
    by_cases c1 : s < 0 ∨ w 0 ≤ s
    · rw [if_pos c1] at c; exact absurd (by decide) c
    · rw [if_neg c1] at c
      by_cases c2 : ¬ w (113 + (w (10 + s.toNat)).toNat) = 3 ∨ 9999 ≤ w 7
      · rw [if_pos c2] at c; exact absurd (by decide) c
      · rw [if_neg c2] at c
        unfold haulO haulC
        rw [uI_n (by omega)]
        by_cases e : 16 + i = 16 + s.toNat
        · rw [← e, uI_s]
          have := hb i hi
          split <;> omega
        · rw [uI_n e, uI_n (by omega)]; exact Int.le_refl _
theorem digW_mo {F : Option (List Cls)} {w : Nat → Int} {s y : Int} (h6 : w 0 ≤ 6) (i : Nat) (hi : i < 6) : w (16 + i) ≤ digW F w s y (16 + i) := by
  by_cases c : digR F w s y < 0
  · rw [digW_n c]; exact Int.le_refl _
  · unfold digW
    rw [if_neg c]
    unfold digR at c
    by_cases c0 : y < 0 ∨ 2 < y
    · rw [if_pos c0] at c; exact absurd (by decide) c
    · rw [if_neg c0] at c
      by_cases c1 : s < 0 ∨ w 0 ≤ s
      · rw [if_pos c1] at c; exact absurd (by decide) c
      · unfold digO digC
        rw [uI_n (by omega), uI_n (by omega), uI_n (by omega)]; exact Int.le_refl _
theorem RXd.cp {de wh be bb db de' wh' be' bb' db' : Nat → Int32} : ∀ (U : UL) (w : Nat → Int) (lt : Nat), lt < 16 → RXd de wh be bb db w lt U → RXd (va_cpy de de' 0 0 16) (va_cpy wh wh' 0 0 16) (va_cpy be be' 0 0 16) (va_cpy bb bb' 0 0 16) (va_cpy db db' 0 0 16) w lt U := by
  intro U
  induction U with
  | nil => intro _ _ _ _; trivial
  | cons x U ih =>
    obtain ⟨s, v⟩ := x
    intro w lt hl h
    obtain ⟨h1, h2, h4, h5⟩ := h
    refine ⟨by rw [cpy_n hl]; exact h1, fun j a b => by rw [cpy_n hl, cpy_n hl, cpy_n hl, cpy_n hl, cpy_n hl]; exact h2 j a b, fun q => by rw [cpy_n hl]; exact h4 q, ih v _ (by omega) h5⟩
theorem RXu.cp {de wh be bb db de' wh' be' bb' db' : Nat → Int32} {kp lt : Int32} {w : Nat → Int} {U : UL} (h : RXu de wh be bb db kp lt w U) : RXu (va_cpy de de' 0 0 16) (va_cpy wh wh' 0 0 16) (va_cpy be be' 0 0 16) (va_cpy bb bb' 0 0 16) (va_cpy db db' 0 0 16) kp lt w U := by
  obtain ⟨h1, h2, h3, h4, h5⟩ := h
  exact ⟨h1, h2, h3, h4, RXd.cp U w _ (by omega) h5⟩
/-- the same diary over another state -/
theorem RXd.re {de wh be bb db : Nat → Int32} : ∀ (U : UL) (w w' : Nat → Int) (lt : Nat), RXd de wh be bb db w lt U → ∃ U' : UL, U'.length = U.length ∧ RXd de wh be bb db w' lt U' := by
  intro U
  induction U with
  | nil => intro w w' lt _; exact ⟨[], rfl, trivial⟩
  | cons x U ih =>
    obtain ⟨s, v⟩ := x
    intro w w' lt h
    obtain ⟨h1, h2, h4, h5⟩ := h
    obtain ⟨U', e, h6⟩ := ih v (invD (de lt).toInt (wh lt).toInt (be lt).toInt (bb lt).toInt (db lt).toInt w') _ h5
    exact ⟨(s, invD (de lt).toInt (wh lt).toInt (be lt).toInt (bb lt).toInt (db lt).toInt w') :: U', by show U'.length + 1 = U.length + 1; rw [e], h1, fun j _ _ => rfl, h4, h6⟩
theorem RXu.re {de wh be bb db : Nat → Int32} {kp lt : Int32} {w : Nat → Int} {U : UL} (h : RXu de wh be bb db kp lt w U) (w' : Nat → Int) : ∃ U' : UL, RXu de wh be bb db kp lt w' U' := by
  obtain ⟨h1, h2, h3, h4, h5⟩ := h
  obtain ⟨U', e, h6⟩ := RXd.re U w w' _ h5
  exact ⟨U', by rw [e]; exact h1, by rw [e]; exact h2, h3, h4, h6⟩
