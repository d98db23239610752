/-! the quickest way down, in the reference -/
def B01 (b : Int32) : Prop := b = 0 ∨ b = 1
theorem B01.of {b b0 : Int32} (h0 : B01 b0) (h : b = 0 ∨ b = 1 ∨ b = b0) : B01 b := by
  rcases h with h | h | h
  · exact Or.inl h
  · exact Or.inr h
  · rw [h]; exact h0
def InC (c : Int32) : Prop := 0 ≤ c.toInt ∧ c.toInt < 40
theorem e_isCell {a : Int32} {Q : Int32 → Prop} (h1 : InC a → Q 1) (h0 : Q 0) : wp_X12_isCell a Q := by
  unfold wp_X12_isCell
  have e : a.toInt64.toInt = a.toInt := i2l_z rfl
  have z0 : (0 : Int64).toInt = 0 := rfl
  have z9 : (39 : Int64).toInt = 39 := rfl
  exact e_in (fun g1 g2 => h1 ⟨by omega, by omega⟩) (fun _ => h0)
theorem e_isColumn {a : Int32} {Q : Int32 → Prop} (h1 : 0 ≤ a.toInt → a.toInt ≤ 7 → Q 1) (h0 : ¬ (0 ≤ a.toInt ∧ a.toInt ≤ 7) → Q 0) : wp_X12_isColumn a Q := by
  unfold wp_X12_isColumn
  have e : a.toInt64.toInt = a.toInt := i2l_z rfl
  have z0 : (0 : Int64).toInt = 0 := rfl
  have z9 : (7 : Int64).toInt = 7 := rfl
  exact e_in (fun g1 g2 => h1 (by omega) (by omega)) (fun q => h0 (fun p => q ⟨by omega, by omega⟩))
theorem e_isShaft {a : Int32} {row : Nat → Int32} (hR : RLW row) {Q : Int32 → Prop} (h1 : 0 ≤ a.toInt → a.toInt < (row 0).toInt → a.toInt ≤ 5 → Q 1) (h0 : Q 0) : wp_X12_isShaft a row Q := by
  unfold wp_X12_isShaft
  have r0 := RLW.at_0 hR (n := 0) (z := 0) rfl (by omega) (by omega)
  have e : a.toInt64.toInt = a.toInt := i2l_z rfl
  have s0 : ((row 0).toInt64 - 1).toInt = (row 0).toInt - 1 := lsub_z (i2l_z rfl) rfl (by omega) (by omega)
  have z0 : (0 : Int64).toInt = 0 := rfl
  refine e_in (fun g1 g2 => ?_) (fun _ => h0)
  have g2 : a.toInt64.toInt ≤ ((row 0).toInt64 - 1).toInt := g2
  exact h1 (by omega) (by omega) (by omega)
def cbF (c w : Int32) : Int32 := if w = 1 then (if 40 ≤ (c + 8).toInt then -1 else c + 8) else (if 0 ≤ (c - c / 8 * 8 + w - 1).toInt ∧ (c - c / 8 * 8 + w - 1).toInt ≤ 7 then c + w - 1 else -1)
theorem e_cellBy {c w : Int32} {Q : Int32 → Prop} (h : Q (cbF c w)) : wp_X12_cellBy c w Q := by
  unfold wp_X12_cellBy
  unfold cbF at h
  by_cases d : w = 1
  · rw [if_pos d] at h
    refine br1 d ?_
    by_cases e : 40 ≤ c + 8
    · have e' := le_z (x := 40) rfl rfl e
      rw [if_pos e'] at h
      exact br1 e h
    · have e' := nle_z (x := 40) rfl rfl e
      rw [if_neg (by omega)] at h
      exact br0 e h
  · rw [if_neg d] at h
    refine br0 d (e_isColumn (fun g1 g2 => ?_) (fun g => ?_))
    · rw [if_pos ⟨g1, g2⟩] at h
      exact br0 (by decide) h
    · rw [if_neg g] at h
      exact br1 rfl h
/-- a cell beside another: none, or another cell -/
theorem cbF_b {c w : Int32} (hc : InC c) (h0 : 0 ≤ w.toInt) (h2 : w.toInt ≤ 2) : cbF c w = -1 ∨ (InC (cbF c w) ∧ (cbF c w).toInt ≠ c.toInt) := by
  unfold cbF InC at *
  have m : (c - c / 8 * 8).toInt = c.toInt % 8 := rem_z rfl rfl hc.1 (by decide)
  have e8 : (c + 8).toInt = c.toInt + 8 := add_z rfl rfl (by omega) (by omega)
  have e1 : (c - c / 8 * 8 + w).toInt = (c - c / 8 * 8).toInt + w.toInt := add_z rfl rfl (by omega) (by omega)
  have e2 : (c - c / 8 * 8 + w - 1).toInt = (c - c / 8 * 8 + w).toInt - 1 := sub_z rfl rfl (by omega) (by omega)
  have e3 : (c + w).toInt = c.toInt + w.toInt := add_z rfl rfl (by omega) (by omega)
  have e4 : (c + w - 1).toInt = (c + w).toInt - 1 := sub_z rfl rfl (by omega) (by omega)
  by_cases d : w = 1
  · rw [if_pos d]
    by_cases e : 40 ≤ (c + 8).toInt
    · rw [if_pos e]; exact Or.inl rfl
    · rw [if_neg e]; exact Or.inr ⟨by omega, by omega⟩
  · have d' := ne_z (y := 1) rfl rfl d
    rw [if_neg d]
    by_cases e : 0 ≤ (c - c / 8 * 8 + w - 1).toInt ∧ (c - c / 8 * 8 + w - 1).toInt ≤ 7
    · rw [if_pos e]; exact Or.inr ⟨by omega, by omega⟩
    · rw [if_neg e]; exact Or.inl rfl
def FARi : Int32 := 100000000
theorem FARz : FARi.toInt = 100000000 := rfl
/-- the days by a way, as they stand now -/
def dyF (row days : Nat → Int32) (s c w g : Int32) : Int32 :=
  if cbF c w = -1 then 100000000 else if row (33 + cbF c w).toNatClampNeg = 1 then 100000000 else if psF row s (cbF c w) = false then 100000000 else
  if ¬ cbF c w = g ∧ 1 < (row (113 + cbF c w).toNatClampNeg).toInt then 100000000 else if days (cbF c w).toNatClampNeg = 100000000 then 100000000 else days (cbF c w).toNatClampNeg + dgF row s (cbF c w)
theorem s_daysF {a b d g law bq0 : Int32} {v0 s0 : Int64} {row nOp nArg days : Nat → Int32} {set rest now : Nat → Int64} (hb : InC b) (hd0 : 0 ≤ d.toInt) (hd2 : d.toInt ≤ 2) (hR : RLW row) (hb0 : B01 bq0) {Q : Int32 → (Int32 × Int32 × Int64 × Int64 × (Nat → Int64) × (Nat → Int64)) → Prop} (hq : ∀ (law' br : Int32) (v s : Int64) (set' rest' : Nat → Int64), B01 br → Q (dyF row days a b d g) (law', br, v, s, set', rest')) : wp_X12_daysBy a b d g 0 law bq0 v0 s0 row set nOp nArg rest now days Q := by
  unfold wp_X12_daysBy
  refine e_cellBy ?_
  have B := cbF_b hb hd0 hd2
  unfold dyF at hq
  generalize cbF b d = r at *
  by_cases c1 : r = -1
  · rw [if_pos c1] at hq
    exact br1 c1 (hq _ _ _ _ _ _ hb0)
  · rw [if_neg c1] at hq
    refine br0 c1 ?_
    obtain ⟨Bc, -⟩ : InC r ∧ r.toInt ≠ b.toInt := by
      rcases B with B | B
      · exact (c1 B).elim
      · exact B
    obtain ⟨B0, B1⟩ := id Bc
    have e1 : (33 + r).toInt = 33 + r.toInt := add_z rfl rfl (by omega) (by omega)
    have e2 : (113 + r).toInt = 113 + r.toInt := add_z rfl rfl (by omega) (by omega)
    refine ⟨vpi e1 (by omega) (by omega), ?_⟩
    by_cases c2 : row (33 + r).toNatClampNeg = 1
    · rw [if_pos c2] at hq
      exact br1 c2 (hq _ _ _ _ _ _ hb0)
    · rw [if_neg c2] at hq
      refine br0 c2 (s_passF ⟨B0, by omega⟩ hR (fun p law1 br1' v1 s1 set1 rest1 hbr => un6_i ?_) (fun p law1 br1' v1 s1 set1 rest1 hbr => un6_i ?_))
      · rw [p, if_neg (by decide)] at hq
        refine br0 (by decide) ?_
        have K : ¬ (¬ r = g ∧ 1 < (row (113 + r).toNatClampNeg).toInt) → vp_in r 40 ∧ (if days r.toNatClampNeg = 100000000 then Q 100000000 (law1, br1', v1, s1, set1, rest1) else vp_in r 40 ∧ wp_X12_digsOf a r 0 law1 br1' v1 s1 row set1 nOp nArg rest1 now (fun r_86 => un6 fun u0 u1 u2 u3 u4 u5 => Q (days r.toNatClampNeg + r_86) (u0, u1, u2, u3, u4, u5))) := fun k => by
          rw [if_neg k] at hq
          refine ⟨vpi rfl (by omega) (by omega), ?_⟩
          by_cases c3 : days r.toNatClampNeg = 100000000
          · rw [if_pos c3] at hq
            exact br1 c3 (hq _ _ _ _ _ _ (B01.of hb0 hbr))
          · rw [if_neg c3] at hq
            exact br0 c3 ⟨vpi rfl (by omega) (by omega), s_digsF ⟨B0, by omega⟩ hR (fun law2 br2 v2 s2 set2 rest2 hbr2 => un6_i (hq _ _ _ _ _ _ (B01.of (B01.of hb0 hbr) hbr2)))⟩
        refine jn_s ?_
        by_cases c3 : r = g
        · exact br1 c3 (K (fun q => q.1 c3))
        · refine br0 c3 ⟨vpi e2 (by omega) (by omega), ?_⟩
          by_cases c4 : 1 < row (113 + r).toNatClampNeg
          · have c4' := lt_z (x := 1) rfl rfl c4
            rw [if_pos ⟨c3, c4'⟩] at hq
            exact br1 c4 (hq _ _ _ _ _ _ (B01.of hb0 hbr))
          · have c4' := nlt_z (x := 1) rfl rfl c4
            exact br0 c4 (K (fun q => by omega))
      · rw [p, if_pos rfl] at hq
        exact br1 rfl (hq _ _ _ _ _ _ (B01.of hb0 hbr))
/-- the sum of the days of the first k cells -/
def SD (f : Nat → Int32) : Nat → Int
  | 0 => 0
  | k + 1 => SD f k + (f k).toInt
theorem SD_u {f : Nat → Int32} {n : Nat} {v : Int32} : ∀ k, k ≤ n → SD (upd f n v) k = SD f k := by
  intro k
  induction k with
  | zero => intro _; rfl
  | succ k ih =>
    intro h
    show SD (upd f n v) k + (upd f n v k).toInt = SD f k + (f k).toInt
    rw [ih (by omega), pk_un (by omega)]
theorem SD_s {f : Nat → Int32} {n : Nat} {v : Int32} : ∀ k, n < k → SD (upd f n v) k = SD f k - (f n).toInt + v.toInt := by
  intro k
  induction k with
  | zero => intro h; omega
  | succ k ih =>
    intro h
    show SD (upd f n v) k + (upd f n v k).toInt = SD f k + (f k).toInt - (f n).toInt + v.toInt
    by_cases e : k = n
    · subst e; rw [SD_u k (Nat.le_refl k), pk_us]; omega
    · rw [ih (by omega), pk_un e]; omega
theorem SD_b {f : Nat → Int32} (h : DY f) : ∀ k, k ≤ 40 → 0 ≤ SD f k ∧ SD f k ≤ 100000000 * k := by
  intro k
  induction k with
  | zero => intro _; exact ⟨Int.le_refl 0, Int.le_refl 0⟩
  | succ k ih =>
    intro hk
    have := ih (by omega)
    have b := DY.at_0 h (n := k) (z := k) rfl (by omega) (by omega)
    show 0 ≤ SD f k + (f k).toInt ∧ SD f k + (f k).toInt ≤ 100000000 * ((k + 1 : Nat) : Int)
    omega
theorem upd_self {f : Nat → Int32} {n : Nat} : upd f n (f n) = f := by
  funext i
  by_cases e : i = n
  · rw [e, pk_us]
  · rw [pk_un e]
/-- each cell with a number has a way that is as quick -/
def FA (row : Nat → Int32) (s g : Int32) (days : Nat → Int32) : Prop := ∀ c : Int32, InC c → ¬ c = g → (days c.toNatClampNeg).toInt < 100000000 → ∃ w : Int32, 0 ≤ w.toInt ∧ w.toInt ≤ 2 ∧ (dyF row days s c w g).toInt ≤ (days c.toNatClampNeg).toInt
theorem tn_ne {a b : Int32} (ha : InC a) (hb : InC b) (h : a.toInt ≠ b.toInt) : a.toNatClampNeg ≠ b.toNatClampNeg := by
  have := tnz (x := a.toInt) rfl ha.1
  have := tnz (x := b.toInt) rfl hb.1
  omega
/-- days that are fewer at a cell: no way gets longer -/
theorem dyF_u {row days : Nat → Int32} {s c w g x v : Int32} (hD : DY days) (hc : InC c) (h0 : 0 ≤ w.toInt) (h2 : w.toInt ≤ 2) (hx : InC x) (hv0 : 0 ≤ v.toInt) (hv : v.toInt ≤ (days x.toNatClampNeg).toInt) (hf : (dyF row days s c w g).toInt < 100000000) : (dyF row (upd days x.toNatClampNeg v) s c w g).toInt ≤ (dyF row days s c w g).toInt := by
  unfold dyF at hf ⊢
  have B := cbF_b hc h0 h2
  generalize cbF c w = r at *
  have zf : (100000000 : Int32).toInt = 100000000 := rfl
  by_cases c1 : r = -1
  · rw [if_pos c1] at hf; omega
  · rw [if_neg c1] at hf ⊢
    rw [if_neg c1]
    obtain ⟨Bc, -⟩ : InC r ∧ r.toInt ≠ c.toInt := by
      rcases B with B | B
      · exact (c1 B).elim
      · exact B
    by_cases c2 : row (33 + r).toNatClampNeg = 1
    · rw [if_pos c2] at hf; omega
    · rw [if_neg c2] at hf ⊢
      rw [if_neg c2]
      by_cases c3 : psF row s r = false
      · rw [if_pos c3] at hf; omega
      · rw [if_neg c3] at hf ⊢
        rw [if_neg c3]
        by_cases c4 : ¬ r = g ∧ 1 < (row (113 + r).toNatClampNeg).toInt
        · rw [if_pos c4] at hf; omega
        · rw [if_neg c4] at hf ⊢
          rw [if_neg c4]
          by_cases c5 : days r.toNatClampNeg = 100000000
          · rw [if_pos c5] at hf; omega
          · rw [if_neg c5] at hf ⊢
            have Dr := DY.at_0 hD (tnz (x := r.toInt) rfl Bc.1) (by have := Bc.1; omega) (by have := Bc.2; omega)
            have gb := dgF_b row s r
            have c5' := ne_z (y := 100000000) rfl rfl c5
            have e : (days r.toNatClampNeg + dgF row s r).toInt = (days r.toNatClampNeg).toInt + (dgF row s r).toInt := add_z rfl rfl (by omega) (by omega)
            by_cases c6 : r.toInt = x.toInt
            · have c6' : r = x := Int32.toInt_inj.mp c6
              subst c6'
              rw [pk_us]
              have e2 : (v + dgF row s r).toInt = v.toInt + (dgF row s r).toInt := add_z rfl rfl (by omega) (by omega)
              rw [if_neg (z_ne (y := 100000000) rfl rfl (by omega))]
              omega
            · rw [pk_un (tn_ne Bc hx c6), if_neg c5]
              exact Int.le_refl _
theorem dyF_s {row days : Nat → Int32} {s c w g v : Int32} (hc : InC c) (h0 : 0 ≤ w.toInt) (h2 : w.toInt ≤ 2) : dyF row (upd days c.toNatClampNeg v) s c w g = dyF row days s c w g := by
  unfold dyF
  have B := cbF_b hc h0 h2
  generalize cbF c w = r at *
  by_cases c1 : r = -1
  · rw [if_pos c1, if_pos c1]
  · obtain ⟨Bc, Bn⟩ : InC r ∧ r.toInt ≠ c.toInt := by
      rcases B with B | B
      · exact (c1 B).elim
      · exact B
    rw [pk_un (tn_ne Bc hc Bn)]
theorem dyF_0 {row days : Nat → Int32} {s c w g : Int32} (hD : DY days) (hc : InC c) (h0 : 0 ≤ w.toInt) (h2 : w.toInt ≤ 2) : 0 ≤ (dyF row days s c w g).toInt := by
  unfold dyF
  have B := cbF_b hc h0 h2
  generalize cbF c w = r at *
  have zf : (100000000 : Int32).toInt = 100000000 := rfl
  split
  · omega
  · split
    · omega
    · split
      · omega
      · split
        · omega
        · split
          · omega
          · obtain ⟨Bc, -⟩ : InC r ∧ r.toInt ≠ c.toInt := by
              rcases B with B | B
              · exact absurd B (by assumption)
              · exact B
            have Dr := DY.at_0 hD (tnz (x := r.toInt) rfl Bc.1) (by have := Bc.1; omega) (by have := Bc.2; omega)
            have gb := dgF_b row s r
            have e : (days r.toNatClampNeg + dgF row s r).toInt = (days r.toNatClampNeg).toInt + (dgF row s r).toInt := add_z rfl rfl (by omega) (by omega)
            omega
theorem FA.up {row : Nat → Int32} {s g : Int32} {days : Nat → Int32} (h : FA row s g days) (hD : DY days) {x w : Int32} (hx : InC x) (h0 : 0 ≤ w.toInt) (h2 : w.toInt ≤ 2) (hlt : (dyF row days s x w g).toInt < (days x.toNatClampNeg).toInt) : FA row s g (upd days x.toNatClampNeg (dyF row days s x w g)) := by
  have Dx := DY.at_0 hD (tnz (x := x.toInt) rfl hx.1) (by have := hx.1; omega) (by have := hx.2; omega)
  intro c hc hg hf
  by_cases e : c.toInt = x.toInt
  · have e' : c = x := Int32.toInt_inj.mp e
    subst e'
    refine ⟨w, h0, h2, ?_⟩
    rw [dyF_s hc h0 h2, pk_us]
    exact Int.le_refl _
  · rw [pk_un (tn_ne hc hx e)] at hf ⊢
    obtain ⟨w', a0, a2, a3⟩ := h c hc hg hf
    refine ⟨w', a0, a2, ?_⟩
    have := dyF_u (row := row) (s := s) (g := g) (w := w') hD hc a0 a2 hx (dyF_0 hD hx h0 h2) (Int.le_of_lt hlt) (v := dyF row days s x w g) (by omega)
    omega
/-- within a pass: what stands so far -/
def FP (row : Nat → Int32) (s g : Int32) (d0 : Nat → Int32) (on : Int32) (days : Nat → Int32) : Prop := DY days ∧ FA row s g days ∧ B01 on ∧ (on = 1 → SD days 40 < SD d0 40) ∧ (on = 0 → days = d0)
theorem sl_fd64 {a g on0 : Int32} {row nOp nArg d0 : Nat → Int32} {now : Nat → Int64} {x : Int32} (hx : InC x) (hR : RLW row) {Qb : Int32 → Int32 → Int32 → Int32 → Int64 → Int64 → (Nat → Int32) → (Nat → Int64) → (Nat → Int64) → Prop} (K : ∀ (y on law br : Int32) (v s : Int64) (days : Nat → Int32) (set rest : Nat → Int64), FP row a g d0 on days → B01 br → (on = 0 → on0 = 0) → (on = 0 → ¬ x = g → ∀ w : Int32, 0 ≤ w.toInt → w.toInt ≤ 2 → (days x.toNatClampNeg).toInt ≤ (dyF row days a x w g).toInt) → Qb y on law br v s days set rest) : ∀ (m : Nat) (y on law br : Int32) (v s : Int64) (days : Nat → Int32) (set rest : Nat → Int64), 0 ≤ y.toInt → y.toInt ≤ 3 → 3 - y.toInt < m → FP row a g d0 on days → B01 br → (on = 0 → on0 = 0) → (on = 0 → ¬ x = g → ∀ w : Int32, 0 ≤ w.toInt → w.toInt < y.toInt → (days x.toNatClampNeg).toInt ≤ (dyF row days a x w g).toInt) → wl_X12_findDown_64 a g 0 row nOp nArg now x Qb m y on law br v s days set rest := by
  intro m
  induction m with
  | zero => intro y on law br v s days set rest a1 a2 a3; exfalso; have a3 : 3 - y.toInt < 0 := a3; omega
  | succ m ih =>
    intro y on law br v s days set rest y0 y3 ym hF hbr ho hw
    unfold wl_X12_findDown_64
    by_cases c1 : 3 ≤ y
    · have c1' := le_z (x := 3) rfl rfl c1
      exact br1 c1 (K _ _ _ _ _ _ _ _ _ hF hbr ho (fun q1 q2 w w0 w2 => hw q1 q2 w w0 (by omega)))
    · have c1' := nle_z (x := 3) rfl rfl c1
      refine br0 c1 ?_
      by_cases c2 : x = g
      · exact br1 c2 (K _ _ _ _ _ _ _ _ _ hF hbr ho (fun _ q => (q c2).elim))
      · refine br0 c2 (s_daysF hx y0 (by omega) hR hbr (fun law' br' v' s' set' rest' hb' => un6_i ?_))
        obtain ⟨hD, hA, hon, hS, hE⟩ := id hF
        have y1 := li_1 (x := y) (hi := 3) (by omega) (by omega)
        have Dx := DY.at_0 hD (tnz (x := x.toInt) rfl hx.1) (by have := hx.1; omega) (by have := hx.2; omega)
        have vx : vp_in x 40 := vpi rfl hx.1 hx.2
        have NE : ∀ w : Int32, 0 ≤ w.toInt → w.toInt < (y + 1).toInt → ¬ w.toInt < y.toInt → w = y := fun w w0 w1 w2 => Int32.toInt_inj.mp (by omega)
        refine jn1_i (fun z : Int32 => B01 z ∧ (z = 0 ↔ (on = 0 ∧ (days x.toNatClampNeg).toInt ≤ (dyF row days a x y g).toInt))) (fun z hz => ?_) (fun z hz => ?_)
        · refine ⟨vx, ?_⟩
          by_cases c3 : days x.toNatClampNeg ≤ dyF row days a x y g
          · have c3' := le_z rfl rfl c3
            refine br1 c3 ⟨vx, vx, ?_⟩
            rw [upd_self]
            have zon : z = on := by
              rcases hon with e | e
              · rw [e]; exact hz.2.mpr ⟨e, c3'⟩
              · rcases hz.1 with f | f
                · have := (hz.2.mp f).1; rw [e] at this; exact absurd this (by decide)
                · rw [e, f]
            rw [zon]
            refine ih _ _ _ _ _ _ _ _ _ (by omega) (by omega) (by omega) hF hb' ho (fun q1 q2 w w0 w1 => ?_)
            by_cases e : w.toInt < y.toInt
            · exact hw q1 q2 w w0 e
            · rw [NE w w0 w1 e]; exact c3'
          · have c3' := nle_z rfl rfl c3
            have z1 : z = 1 := by
              rcases hz.1 with f | f
              · have := (hz.2.mp f).2; omega
              · exact f
            have d0' := dyF_0 (row := row) (s := a) (g := g) hD hx y0 (by omega)
            refine br0 c3 ⟨vx, ih _ _ _ _ _ _ _ _ _ (by omega) (by omega) (by omega) ⟨DY.up_0 hD (tnz (x := x.toInt) rfl hx.1) hx.1 hx.2 rfl (by omega) (by omega), hA.up hD hx y0 (by omega) c3', Or.inr z1, fun _ => ?_, fun q => ?_⟩ hb' (fun q => ?_) (fun q => ?_)⟩
            · rw [SD_s 40 (by have := tnz (x := x.toInt) rfl hx.1; have := hx.2; omega)]
              rcases hon with e | e
              · rw [hE e] at c3' ⊢; omega
              · have := hS e; omega
            · rw [z1] at q; exact absurd q (by decide)
            · rw [z1] at q; exact absurd q (by decide)
            · rw [z1] at q; exact absurd q (by decide)
        · by_cases c3 : on = 0
          · refine br1 c3 ⟨vx, ?_⟩
            by_cases c4 : days x.toNatClampNeg ≤ dyF row days a x y g
            · exact br1 c4 (hz 0 ⟨Or.inl rfl, fun _ => ⟨c3, le_z rfl rfl c4⟩, fun _ => rfl⟩)
            · have c4' := nle_z rfl rfl c4
              exact br0 c4 (hz 1 ⟨Or.inr rfl, fun q => absurd q (by decide), fun q => by omega⟩)
          · exact br0 c3 (hz 1 ⟨Or.inr rfl, fun q => absurd q (by decide), fun q => (c3 q.1).elim⟩)
theorem sl_fd56 {a g : Int32} {row nOp nArg d0 : Nat → Int32} {now : Nat → Int64} (hR : RLW row) {Qb : Int32 → Int32 → Int32 → Int32 → Int64 → Int64 → (Nat → Int32) → (Nat → Int64) → (Nat → Int64) → Prop} (K : ∀ (x on law br : Int32) (v s : Int64) (days : Nat → Int32) (set rest : Nat → Int64), FP row a g d0 on days → B01 br → (on = 0 → ∀ c : Int32, InC c → ¬ c = g → ∀ w : Int32, 0 ≤ w.toInt → w.toInt ≤ 2 → (days c.toNatClampNeg).toInt ≤ (dyF row days a c w g).toInt) → Qb x on law br v s days set rest) : ∀ (m : Nat) (x on law br : Int32) (v s : Int64) (days : Nat → Int32) (set rest : Nat → Int64), -1 ≤ x.toInt → x.toInt < 40 → x.toInt + 1 < m → FP row a g d0 on days → B01 br → (on = 0 → ∀ c : Int32, x.toInt < c.toInt → InC c → ¬ c = g → ∀ w : Int32, 0 ≤ w.toInt → w.toInt ≤ 2 → (days c.toNatClampNeg).toInt ≤ (dyF row days a c w g).toInt) → wl_X12_findDown_56 a g 0 row nOp nArg now Qb m x on law br v s days set rest := by
  intro m
  induction m with
  | zero => intro x on law br v s days set rest a1 a2 a3; exfalso; have a3 : x.toInt + 1 < 0 := a3; omega
  | succ m ih =>
    intro x on law br v s days set rest x0 x1 xm hF hbr hw
    unfold wl_X12_findDown_56
    by_cases c : x < 0
    · have c' := lt_z (y := 0) rfl rfl c
      exact br1 c (K _ _ _ _ _ _ _ _ _ hF hbr (fun q e he hg w w0 w2 => hw q e (by have := he.1; omega) he hg w w0 w2))
    · have c' := nlt_z (y := 0) rfl rfl c
      have e1 : (x + (-1)).toInt = x.toInt + (-1) := add_z rfl (by decide) (by omega) (by omega)
      have hx : InC x := ⟨c', x1⟩
      refine br0 c (sl_fd64 (on0 := on) hx hR (fun y on' law' br' v' s' days' set' rest' hF' hb' ho' hw' => ?_) _ 0 on law br v s days set rest (by decide) (by decide) (by decide) hF hbr (fun q => q) (fun _ _ w w0 w1 => ?_))
      · refine ih _ _ _ _ _ _ _ _ _ (by omega) (by omega) (by omega) hF' hb' (fun q e he1 he hg w w0 w2 => ?_)
        by_cases ee : e.toInt = x.toInt
        · have ee' : e = x := Int32.toInt_inj.mp ee
          rw [ee']
          rw [ee'] at hg
          exact hw' q hg w w0 w2
        · have k1 := hF'.2.2.2.2 q
          have k2 := hF.2.2.2.2 (ho' q)
          rw [k1, ← k2]
          exact hw (ho' q) e (by omega) he hg w w0 w2
      · exfalso
        have : (0 : Int32).toInt = 0 := rfl
        omega
/-- no way is quicker than what stands -/
def FB (row : Nat → Int32) (s g : Int32) (days : Nat → Int32) : Prop := ∀ c : Int32, InC c → ¬ c = g → ∀ w : Int32, 0 ≤ w.toInt → w.toInt ≤ 2 → (days c.toNatClampNeg).toInt ≤ (dyF row days s c w g).toInt
theorem sl_fd46 {a g : Int32} {row nOp nArg : Nat → Int32} {now : Nat → Int64} (hR : RLW row) {Qb : Int32 → Int32 → Int32 → Int64 → Int64 → (Nat → Int32) → (Nat → Int64) → (Nat → Int64) → Prop} (K : ∀ (on law br : Int32) (v s : Int64) (days : Nat → Int32) (set rest : Nat → Int64), DY days → FA row a g days → FB row a g days → B01 br → Qb on law br v s days set rest) : ∀ (m : Nat) (on law br : Int32) (v s : Int64) (days : Nat → Int32) (set rest : Nat → Int64), DY days → FA row a g days → B01 br → B01 on → (on = 0 → FB row a g days) → 0 < m → (on = 1 → SD days 40 + 1 < m) → wl_X12_findDown_46 a g 0 row nOp nArg now Qb m on law br v s days set rest := by
  intro m
  induction m with
  | zero => intro on law br v s days set rest _ _ _ _ _ h; omega
  | succ m ih =>
    intro on law br v s days set rest hD hA hbr hon hB hm hM
    unfold wl_X12_findDown_46
    by_cases c : on = 0
    · exact br1 c (K _ _ _ _ _ _ _ _ hD hA (hB c) hbr)
    · have c1 : on = 1 := by
        rcases hon with e | e
        · exact (c e).elim
        · exact e
      have hM := hM c1
      have sb := SD_b hD 40 (Nat.le_refl 40)
      refine br0 c (sl_fd56 (d0 := days) hR (fun x on' law' br' v' s' days' set' rest' hF hb' hw => ?_) _ 39 0 law br v s days set rest (by decide) (by decide) (by decide) ⟨hD, hA, Or.inl rfl, fun q => absurd q (by decide), fun _ => rfl⟩ hbr (fun _ e he1 he => ?_))
      · obtain ⟨k1, k2, k3, k4, k5⟩ := hF
        have sb' := SD_b k1 40 (Nat.le_refl 40)
        exact ih _ _ _ _ _ _ _ _ k1 k2 hb' k3 (fun q => hw q) (by omega) (fun q => by have := k4 q; omega)
      · exfalso
        have : (39 : Int32).toInt = 39 := rfl
        have := he.2
        omega
theorem sl_fd2 {g : Int32} {Qb : Int32 → (Nat → Int32) → Prop} (K : ∀ (x : Int32) (days : Nat → Int32), (∀ c : Int32, InC c → days c.toNatClampNeg = (if c = g then 0 else 100000000)) → DY days → Qb x days) : ∀ (m : Nat) (x : Int32) (days : Nat → Int32), 0 ≤ x.toInt → x.toInt ≤ 40 → 40 - x.toInt < m → (∀ c : Int32, 0 ≤ c.toInt → c.toInt < x.toInt → days c.toNatClampNeg = (if c = g then 0 else 100000000)) → wl_X12_findDown_2 g Qb m x days := by
  intro m
  induction m with
  | zero => intro x days a1 a2 a3; exfalso; have a3 : 40 - x.toInt < 0 := a3; omega
  | succ m ih =>
    intro x days x0 x4 xm hd
    unfold wl_X12_findDown_2
    by_cases c : 40 ≤ x
    · have c' := le_z (x := 40) rfl rfl c
      have hd' : ∀ c : Int32, InC c → days c.toNatClampNeg = (if c = g then 0 else 100000000) := fun e he => hd e he.1 (by have := he.2; omega)
      refine br1 c (K x days hd' (fun j q hq k1 k2 => ?_))
      simp only [DYT, List.mem_cons, List.not_mem_nil, or_false] at hq
      subst hq
      have j40 : j < 40 := k2
      obtain ⟨e, he⟩ : ∃ e : Int32, e.toInt = (j : Int) := ⟨Int32.ofInt j, by
        rw [Int32.toInt_ofInt]
        exact bm32 (by omega) (by omega)⟩
      have := hd' e ⟨by omega, by omega⟩
      rw [tnN he] at this
      rw [this]
      split
      · decide
      · decide
    · have c' := nle_z (x := 40) rfl rfl c
      have x1 := li_1 (x := x) (hi := 40) (by omega) (by omega)
      have S : ∀ v : Int32, v = (if x = g then 0 else 100000000) → wl_X12_findDown_2 g Qb m (x + 1) (upd days x.toNatClampNeg v) := fun v hv => by
        refine ih _ _ (by omega) (by omega) (by omega) (fun e e0 e1 => ?_)
        by_cases q : e.toInt = x.toInt
        · have q' : e = x := Int32.toInt_inj.mp q
          rw [q', pk_us, hv]
        · rw [pk_un (tn_ne ⟨e0, by omega⟩ ⟨x0, by omega⟩ q)]
          exact hd e e0 (by omega)
      refine br0 c ?_
      by_cases d : x = g
      · exact br1 d ⟨vpi rfl (by omega) (by omega), S 0 (by rw [if_pos d])⟩
      · exact br0 d ⟨vpi rfl (by omega) (by omega), S 100000000 (by rw [if_neg d])⟩
theorem e_mayDig {a : Int32} {row : Nat → Int32} (hR : RLW row) (h0 : 0 ≤ a.toInt) (h5 : a.toInt ≤ 5) {Q : Int32 → Prop} (h : ∀ r : Int32, Q r) : wp_X12_mayDig a row Q := by
  unfold wp_X12_mayDig wp_X12_isSpoilt wp_X12_hasFound
  have e1 : (10 + a).toInt = 10 + a.toInt := add_z rfl rfl (by omega) (by omega)
  have r1 := RLW.at_10 hR (tnz (x := (10 + a).toInt) rfl (by omega)) (by omega) (by omega)
  have e2 : (113 + row (10 + a).toNatClampNeg).toInt = 113 + (row (10 + a).toNatClampNeg).toInt := add_z rfl rfl (by omega) (by omega)
  have v1 : vp_in (10 + a) 5650 := vpi e1 (by omega) (by omega)
  have v2 : vp_in (113 + row (10 + a).toNatClampNeg) 5650 := vpi e2 (by omega) (by omega)
  refine ⟨v1, v2, ?_⟩
  by_cases c : row (113 + row (10 + a).toNatClampNeg).toNatClampNeg = 2
  · exact br1 c (br0 (by decide) (h _))
  · refine br0 c (br1 rfl ⟨v1, v2, ?_⟩)
    by_cases d : row (113 + row (10 + a).toNatClampNeg).toNatClampNeg = 3
    · exact br1 d (br0 (by decide) (h _))
    · exact br0 d (br1 rfl (h _))
theorem s_findDownF {a g law bq0 : Int32} {v0 s0 : Int64} {days row nOp nArg : Nat → Int32} {set rest now : Nat → Int64} (ha0 : 0 ≤ a.toInt) (ha5 : a.toInt ≤ 5) (hR : RLW row) (hb0 : B01 bq0) {Q : Int32 → (Int32 × Int32 × Int64 × Int64 × (Nat → Int32) × (Nat → Int64) × (Nat → Int64)) → Prop} (hq : ∀ (r law' br : Int32) (v s : Int64) (days' : Nat → Int32) (set' rest' : Nat → Int64), DY days' → B01 br → (0 ≤ r.toInt ∧ r.toInt ≤ 100000000) → (r = 100000000 ∨ (FA row a g days' ∧ FB row a g days' ∧ r = days' (row (10 + a).toNatClampNeg).toNatClampNeg)) → Q r (law', br, v, s, days', set', rest')) : wp_X12_findDown a g 0 law bq0 v0 s0 days row set nOp nArg rest now Q := by
  unfold wp_X12_findDown
  have e1 : (10 + a).toInt = 10 + a.toInt := add_z rfl rfl (by omega) (by omega)
  have r1 := RLW.at_10 hR (tnz (x := (10 + a).toInt) rfl (by omega)) (by omega) (by omega)
  refine sl_fd2 (fun x d1 hd hD => ?_) _ 0 days (by decide) (by decide) (by decide) (fun c c0 c1 => ?_)
  · refine e_mayDig hR ha0 ha5 (fun r => ?_)
    by_cases c : r = 0
    · exact br1 c (hq _ _ _ _ _ _ _ _ hD hb0 (by decide) (Or.inl rfl))
    · have sb := SD_b hD 40 (Nat.le_refl 40)
      refine br0 c (sl_fd46 hR (fun on law' br v s d2 set' rest' k1 k2 k3 k4 => ?_) _ 1 law bq0 v0 s0 d1 set rest hD (fun c hc hg hf => ?_) hb0 (Or.inr rfl) (fun q => absurd q (by decide)) (by omega) (fun _ => by omega))
      · have D := DY.at_0 k1 (tnz (x := (row (10 + a).toNatClampNeg).toInt) rfl (by omega)) (by omega) (by omega)
        exact ⟨vpi e1 (by omega) (by omega), vpi rfl (by omega) (by omega), hq _ _ _ _ _ _ _ _ k1 k4 ⟨by omega, by omega⟩ (Or.inr ⟨k2, k3, rfl⟩)⟩
      · exfalso
        rw [hd c hc, if_neg hg] at hf
        exact absurd hf (by decide)
  · exfalso
    have : (0 : Int32).toInt = 0 := rfl
    omega
/-- what a way gives that is as quick: a cell nearer by -/
theorem dyF_n {row days : Nat → Int32} {s c w g : Int32} (hD : DY days) (hc : InC c) (h0 : 0 ≤ w.toInt) (h2 : w.toInt ≤ 2) (hf : (dyF row days s c w g).toInt < 100000000) : InC (cbF c w) ∧ ¬ cbF c w = -1 ∧ (days (cbF c w).toNatClampNeg).toInt < (dyF row days s c w g).toInt := by
  unfold dyF at hf ⊢
  have B := cbF_b hc h0 h2
  generalize cbF c w = r at *
  have zf : (100000000 : Int32).toInt = 100000000 := rfl
  by_cases c1 : r = -1
  · rw [if_pos c1] at hf; omega
  · rw [if_neg c1] at hf ⊢
    obtain ⟨Bc, -⟩ : InC r ∧ r.toInt ≠ c.toInt := by
      rcases B with B | B
      · exact (c1 B).elim
      · exact B
    by_cases c2 : row (33 + r).toNatClampNeg = 1
    · rw [if_pos c2] at hf; omega
    · rw [if_neg c2] at hf ⊢
      by_cases c3 : psF row s r = false
      · rw [if_pos c3] at hf; omega
      · rw [if_neg c3] at hf ⊢
        by_cases c4 : ¬ r = g ∧ 1 < (row (113 + r).toNatClampNeg).toInt
        · rw [if_pos c4] at hf; omega
        · rw [if_neg c4] at hf ⊢
          by_cases c5 : days r.toNatClampNeg = 100000000
          · rw [if_pos c5] at hf; omega
          · rw [if_neg c5] at hf ⊢
            have Dr := DY.at_0 hD (tnz (x := r.toInt) rfl Bc.1) (by have := Bc.1; omega) (by have := Bc.2; omega)
            have gb := dgF_b row s r
            have e : (days r.toNatClampNeg + dgF row s r).toInt = (days r.toNatClampNeg).toInt + (dgF row s r).toInt := add_z rfl rfl (by omega) (by omega)
            exact ⟨Bc, c1, by omega⟩
theorem sl_nd6 {a b g : Int32} {row nOp nArg days : Nat → Int32} {now : Nat → Int64} (hb : InC b) (hR : RLW row) (hD : DY days) (hf : (days b.toNatClampNeg).toInt < 100000000) {Qb : Int32 → Int32 → Int32 → Int32 → Int64 → Int64 → (Nat → Int64) → (Nat → Int64) → Prop} (K : ∀ (x r law br : Int32) (v s : Int64) (set rest : Nat → Int64), B01 br → ((r = -1 ∧ ∀ w : Int32, 0 ≤ w.toInt → w.toInt ≤ 2 → ¬ dyF row days a b w g = days b.toNatClampNeg) ∨ (InC r ∧ (days r.toNatClampNeg).toInt < (days b.toNatClampNeg).toInt)) → Qb x r law br v s set rest) : ∀ (m : Nat) (x r law br : Int32) (v s : Int64) (set rest : Nat → Int64), 0 ≤ x.toInt → x.toInt ≤ 3 → 3 - x.toInt < m → B01 br → ((r = -1 ∧ ∀ w : Int32, 0 ≤ w.toInt → w.toInt < x.toInt → ¬ dyF row days a b w g = days b.toNatClampNeg) ∨ (InC r ∧ (days r.toNatClampNeg).toInt < (days b.toNatClampNeg).toInt)) → wl_X12_nextDown_6 a b g 0 row nOp nArg now days Qb m x r law br v s set rest := by
  intro m
  induction m with
  | zero => intro x r law br v s set rest a1 a2 a3; exfalso; have a3 : 3 - x.toInt < 0 := a3; omega
  | succ m ih =>
    intro x r law br v s set rest x0 x3 xm hbr hr
    unfold wl_X12_nextDown_6
    by_cases c1 : 3 ≤ x
    · have c1' := le_z (x := 3) rfl rfl c1
      refine br1 c1 (K _ _ _ _ _ _ _ _ hbr ?_)
      rcases hr with ⟨e1, e2⟩ | e
      · exact Or.inl ⟨e1, fun w w0 w2 => e2 w w0 (by omega)⟩
      · exact Or.inr e
    · have c1' := nle_z (x := 3) rfl rfl c1
      have y1 := li_1 (x := x) (hi := 3) (by omega) (by omega)
      refine br0 c1 (e_cellBy (s_daysF hb x0 (by omega) hR hbr (fun law' br' v' s' set' rest' hb' => un6_i ⟨vpi rfl hb.1 hb.2, ?_⟩)))
      by_cases c2 : dyF row days a b x g = days b.toNatClampNeg
      · have N := dyF_n (row := row) (s := a) (g := g) hD hb x0 (by omega) (by rw [c2]; exact hf)
        rw [c2] at N
        have KN : InC (cbF b x) ∧ (days (cbF b x).toNatClampNeg).toInt < (days b.toNatClampNeg).toInt := ⟨N.1, N.2.2⟩
        refine br1 c2 ?_
        by_cases c3 : r = -1
        · exact br1 c3 (ih _ _ _ _ _ _ _ _ (by omega) (by omega) (by omega) hb' (Or.inr KN))
        · refine br0 c3 ?_
          have hr2 : InC r ∧ (days r.toNatClampNeg).toInt < (days b.toNatClampNeg).toInt := by
            rcases hr with e | e
            · exact (c3 e.1).elim
            · exact e
          by_cases c4 : r ≤ cbF b x
          · exact br1 c4 (ih _ _ _ _ _ _ _ _ (by omega) (by omega) (by omega) hb' (Or.inr hr2))
          · exact br0 c4 (ih _ _ _ _ _ _ _ _ (by omega) (by omega) (by omega) hb' (Or.inr KN))
      · refine br0 c2 (ih _ _ _ _ _ _ _ _ (by omega) (by omega) (by omega) hb' ?_)
        rcases hr with ⟨e1, e2⟩ | e
        · refine Or.inl ⟨e1, fun w w0 w1 => ?_⟩
          by_cases q : w.toInt < x.toInt
          · exact e2 w w0 q
          · have : w = x := Int32.toInt_inj.mp (by omega)
            rw [this]; exact c2
        · exact Or.inr e
theorem s_nextDownF {a b g law bq0 : Int32} {v0 s0 : Int64} {row nOp nArg days : Nat → Int32} {set rest now : Nat → Int64} (hb : InC b) (hg : ¬ b = g) (hR : RLW row) (hD : DY days) (hf : (days b.toNatClampNeg).toInt < 100000000) (hA : FA row a g days) (hB : FB row a g days) (hb0 : B01 bq0) {Q : Int32 → (Int32 × Int32 × Int64 × Int64 × (Nat → Int64) × (Nat → Int64)) → Prop} (hq : ∀ (r law' br : Int32) (v s : Int64) (set' rest' : Nat → Int64), B01 br → InC r → (days r.toNatClampNeg).toInt < (days b.toNatClampNeg).toInt → Q r (law', br, v, s, set', rest')) : wp_X12_nextDown a b g 0 law bq0 v0 s0 row set nOp nArg rest now days Q := by
  unfold wp_X12_nextDown
  refine sl_nd6 hb hR hD hf (fun x r law' br v s set' rest' h1 h2 => ?_) _ 0 (-1) law bq0 v0 s0 set rest (by decide) (by decide) (by decide) hb0 (Or.inl ⟨rfl, fun w w0 w1 => ?_⟩)
  · rcases h2 with ⟨e1, e2⟩ | ⟨e1, e2⟩
    · exfalso
      obtain ⟨w, w0, w2, w3⟩ := hA b hb hg hf
      have w4 := hB b hb hg w w0 w2
      exact e2 w w0 w2 (Int32.toInt_inj.mp (by omega))
    · exact hq _ _ _ _ _ _ _ h1 e1 e2
  · exfalso
    have : (0 : Int32).toInt = 0 := rfl
    omega
theorem sl_dn75 {a g d : Int32} {row nOp nArg days : Nat → Int32} {now : Nat → Int64} (hR : RLW row) (hD : DY days) (hA : FA row a g days) (hB : FB row a g days) {Q : Int32 → (Int32 × Int32 × Int32 × Int64 × Int64 × (Nat → Int32) × (Nat → Int64) × (Nat → Int64)) → Prop} (hQ : ∀ (r law br : Int32) (v s : Int64) (set rest : Nat → Int64), B01 br → Q r (0, law, br, v, s, days, set, rest)) {Qb : Int32 → Int32 → Int32 → Int32 → Int64 → Int64 → (Nat → Int64) → (Nat → Int64) → Prop} (K : ∀ (x c law br : Int32) (v s : Int64) (set rest : Nat → Int64), B01 br → Qb x c law br v s set rest) : ∀ (m : Nat) (x c law br : Int32) (v s : Int64) (set rest : Nat → Int64), InC c → (days c.toNatClampNeg).toInt < 100000000 → (days c.toNatClampNeg).toInt < m → B01 br → wl_X12_down_75 a g d 0 row nOp nArg now days Q Qb m x c law br v s set rest := by
  intro m
  induction m with
  | zero =>
    intro x c law br v s set rest hc hf hm
    exfalso
    have D := DY.at_0 hD (tnz (x := c.toInt) rfl hc.1) (by have := hc.1; omega) (by have := hc.2; omega)
    have hm : (days c.toNatClampNeg).toInt < 0 := hm
    omega
  | succ m ih =>
    intro x c law br v s set rest hc hf hm hbr
    unfold wl_X12_down_75
    by_cases c1 : c = g
    · exact br1 c1 (K _ _ _ _ _ _ _ _ hbr)
    · refine br0 c1 (s_nextDownF hc c1 hR hD hf hA hB hbr (fun r law' br' v' s' set' rest' h1 h2 h3 => un6_i ?_))
      by_cases c2 : x = d - 2
      · exact br1 c2 (hQ _ _ _ _ _ _ _ h1)
      · exact br0 c2 (ih _ _ _ _ _ _ _ _ h2 (by omega) (by omega) h1)
theorem s_downF {a b d law bq0 : Int32} {v0 s0 : Int64} {row days nOp nArg : Nat → Int32} {set rest now : Nat → Int64} (hR : RLW row) (hD0 : DY days) (hb0 : B01 bq0) {Q : Int32 → (Int32 × Int32 × Int32 × Int64 × Int64 × (Nat → Int32) × (Nat → Int64) × (Nat → Int64)) → Prop} (hQ : ∀ (r law br : Int32) (v s : Int64) (days' : Nat → Int32) (set rest : Nat → Int64), DY days' → B01 br → Q r (0, law, br, v, s, days', set, rest)) : wp_X12_down a b d 0 law bq0 v0 s0 row days set nOp nArg rest now Q := by
  unfold wp_X12_down
  have J := hQ (-1) law bq0 v0 s0 days set rest hD0 hb0
  refine e_isShaft hR (fun a0 a1 a5 => br0 (by decide) ?_) (br1 rfl J)
  refine e_isCell (fun hc => br0 (by decide) ?_) (br1 rfl J)
  have e1 : (10 + a).toInt = 10 + a.toInt := add_z rfl rfl (by omega) (by omega)
  have r1 := RLW.at_10 hR (tnz (x := (10 + a).toInt) rfl (by omega)) (by omega) (by omega)
  by_cases c1 : 0 ≤ d
  · refine br1 c1 (s_findDownF a0 a5 hR hb0 (fun r law' br v s d2 set' rest' k1 k2 k3 k4 => un7_i ?_))
    by_cases c2 : r = 100000000
    · exact br1 c2 (hQ _ _ _ _ _ _ _ _ k1 k2)
    · refine br0 c2 ?_
      have c2' := ne_z (y := 100000000) rfl rfl c2
      by_cases c3 : d = 0
      · exact br1 c3 (hQ _ _ _ _ _ _ _ _ k1 k2)
      · refine br0 c3 ⟨vpi e1 (by omega) (by omega), ?_⟩
        obtain ⟨hA, hB, hr⟩ : FA row a b d2 ∧ FB row a b d2 ∧ r = d2 (row (10 + a).toNatClampNeg).toNatClampNeg := by
          rcases k4 with e | e
          · exact (c2 e).elim
          · exact e
        rw [hr] at c2' k3
        refine sl_dn75 hR k1 hA hB (fun r law br v s set rest h => hQ _ _ _ _ _ _ _ _ k1 h) (fun x c law br v s set rest h => ?_) _ _ _ _ _ _ _ _ _ ⟨by omega, by omega⟩ (by omega) (by omega) k2
        by_cases c4 : d = 1
        · exact br1 c4 (hQ _ _ _ _ _ _ _ _ k1 h)
        · exact br0 c4 (hQ _ _ _ _ _ _ _ _ k1 h)
  · exact br0 c1 J
