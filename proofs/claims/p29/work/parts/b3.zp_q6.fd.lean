/-! the reference's least days, with what passes and what digs as given functions -/
def HPZ (row : Nat → Int32) (a : Int32) (pX : Int32 → Bool) : Prop := ∀ {b law bq0 : Int32} {v0 s0 : Int64} {nOp nArg : Nat → Int32} {set rest now : Nat → Int64}, (0 ≤ b.toInt ∧ b.toInt ≤ 39) → B01 bq0 → ∀ {Q : QM}, (pX b = true → ∀ (law' br : Int32) (v s : Int64) (set' rest' : Nat → Int64), (br = 0 ∨ br = 1 ∨ br = bq0) → Q 1 (law', br, v, s, set', rest')) → (pX b = false → ∀ (law' br : Int32) (v s : Int64) (set' rest' : Nat → Int64), (br = 0 ∨ br = 1 ∨ br = bq0) → Q 0 (law', br, v, s, set', rest')) → wp_X12_isPassed a b 0 law bq0 v0 s0 row set nOp nArg rest now Q
def dgG (dX : Int32 → Int32) (c : Int32) : Int32 := if 1 ≤ (dX c).toInt ∧ (dX c).toInt ≤ 99 then dX c else 1
theorem dgG_b (dX : Int32 → Int32) (c : Int32) : 1 ≤ (dgG dX c).toInt ∧ (dgG dX c).toInt ≤ 99 := by
  unfold dgG
  by_cases q : 1 ≤ (dX c).toInt ∧ (dX c).toInt ≤ 99
  · rw [if_pos q]; exact q
  · rw [if_neg q]; decide
def HDZ (row : Nat → Int32) (a : Int32) (dX : Int32 → Int32) : Prop := ∀ {b law bq0 : Int32} {v0 s0 : Int64} {nOp nArg : Nat → Int32} {set rest now : Nat → Int64}, (0 ≤ b.toInt ∧ b.toInt ≤ 39) → B01 bq0 → ∀ {Q : QM}, (∀ (law' br : Int32) (v s : Int64) (set' rest' : Nat → Int64), (br = 0 ∨ br = 1 ∨ br = bq0) → Q (dgG dX b) (law', br, v, s, set', rest')) → wp_X12_digsOf a b 0 law bq0 v0 s0 row set nOp nArg rest now Q
/-- the days by a way, as they stand now -/
def dyG (pX : Int32 → Bool) (dX : Int32 → Int32) (row days : Nat → Int32) (s c w g : Int32) : Int32 :=
  if cbF c w = -1 then 100000000 else if row (33 + cbF c w).toNatClampNeg = 1 then 100000000 else if pX (cbF c w) = false then 100000000 else
  if ¬ cbF c w = g ∧ 1 < (row (113 + cbF c w).toNatClampNeg).toInt then 100000000 else if days (cbF c w).toNatClampNeg = 100000000 then 100000000 else days (cbF c w).toNatClampNeg + dgG dX (cbF c w)
theorem s_daysG {pX : Int32 → Bool} {dX : Int32 → Int32} {a b d g law bq0 : Int32} {v0 s0 : Int64} {row nOp nArg days : Nat → Int32} {set rest now : Nat → Int64} (hb : InC b) (hd0 : 0 ≤ d.toInt) (hd2 : d.toInt ≤ 2) (hR : RLW row) (hp : HPZ row a pX) (hd : HDZ row a dX) (hb0 : B01 bq0) {Q : Int32 → (Int32 × Int32 × Int64 × Int64 × (Nat → Int64) × (Nat → Int64)) → Prop} (hq : ∀ (law' br : Int32) (v s : Int64) (set' rest' : Nat → Int64), B01 br → Q (dyG pX dX row days a b d g) (law', br, v, s, set', rest')) : wp_X12_daysBy a b d g 0 law bq0 v0 s0 row set nOp nArg rest now days Q := by
  unfold wp_X12_daysBy
  refine e_cellBy ?_
  have B := cbF_b hb hd0 hd2
  unfold dyG at hq
  generalize cbF b d = r at *
  by_cases c1 : r = -1
  · rw [if_pos c1] at hq
    exact br1 c1 (hq _ _ _ _ _ _ hb0)
  · rw [if_neg c1] at hq
    refine br0 c1 ?_
    obtain ⟨Bc, -⟩ : InC r ∧ r.toInt ≠ b.toInt := by
      rcases B with B | B
      · exact (c1 B).elim
      · exact B
    obtain ⟨B0, B1⟩ := id Bc
    have e1 : (33 + r).toInt = 33 + r.toInt := add_z rfl rfl (by omega) (by omega)
    have e2 : (113 + r).toInt = 113 + r.toInt := add_z rfl rfl (by omega) (by omega)
    refine ⟨vpi e1 (by omega) (by omega), ?_⟩
    by_cases c2 : row (33 + r).toNatClampNeg = 1
    · rw [if_pos c2] at hq
      exact br1 c2 (hq _ _ _ _ _ _ hb0)
    · rw [if_neg c2] at hq
      refine br0 c2 (hp ⟨B0, by omega⟩ hb0 (fun p law1 br1' v1 s1 set1 rest1 hbr => un6_i ?_) (fun p law1 br1' v1 s1 set1 rest1 hbr => un6_i ?_))
      · rw [p, if_neg (by decide)] at hq
        refine br0 (by decide) ?_
        have K : ¬ (¬ r = g ∧ 1 < (row (113 + r).toNatClampNeg).toInt) → vp_in r 40 ∧ (if days r.toNatClampNeg = 100000000 then Q 100000000 (law1, br1', v1, s1, set1, rest1) else vp_in r 40 ∧ wp_X12_digsOf a r 0 law1 br1' v1 s1 row set1 nOp nArg rest1 now (fun r_86 => un6 fun u0 u1 u2 u3 u4 u5 => Q (days r.toNatClampNeg + r_86) (u0, u1, u2, u3, u4, u5))) := fun k => by
          rw [if_neg k] at hq
          refine ⟨vpi rfl (by omega) (by omega), ?_⟩
          by_cases c3 : days r.toNatClampNeg = 100000000
          · rw [if_pos c3] at hq
            exact br1 c3 (hq _ _ _ _ _ _ (B01.of hb0 hbr))
          · rw [if_neg c3] at hq
            exact br0 c3 ⟨vpi rfl (by omega) (by omega), hd ⟨B0, by omega⟩ (B01.of hb0 hbr) (fun law2 br2 v2 s2 set2 rest2 hbr2 => un6_i (hq _ _ _ _ _ _ (B01.of (B01.of hb0 hbr) hbr2)))⟩
        refine jn_s ?_
        by_cases c3 : r = g
        · exact br1 c3 (K (fun q => q.1 c3))
        · refine br0 c3 ⟨vpi e2 (by omega) (by omega), ?_⟩
          by_cases c4 : 1 < row (113 + r).toNatClampNeg
          · have c4' := lt_z (x := 1) rfl rfl c4
            rw [if_pos ⟨c3, c4'⟩] at hq
            exact br1 c4 (hq _ _ _ _ _ _ (B01.of hb0 hbr))
          · have c4' := nlt_z (x := 1) rfl rfl c4
            exact br0 c4 (K (fun q => by omega))
      · rw [p, if_pos rfl] at hq
        exact br1 rfl (hq _ _ _ _ _ _ (B01.of hb0 hbr))
/-- each cell with a number has a way that is as quick -/
def FAG (pX : Int32 → Bool) (dX : Int32 → Int32) (row : Nat → Int32) (s g : Int32) (days : Nat → Int32) : Prop := (∀ c : Int32, InC c → ¬ c = g → (days c.toNatClampNeg).toInt < 100000000 → ∃ w : Int32, 0 ≤ w.toInt ∧ w.toInt ≤ 2 ∧ (dyG pX dX row days s c w g).toInt ≤ (days c.toNatClampNeg).toInt) ∧ days g.toNatClampNeg = 0
/-- days that are fewer at a cell: no way gets longer -/
theorem dyG_u {pX : Int32 → Bool} {dX : Int32 → Int32} {row days : Nat → Int32} {s c w g x v : Int32} (hD : DY days) (hc : InC c) (h0 : 0 ≤ w.toInt) (h2 : w.toInt ≤ 2) (hx : InC x) (hv0 : 0 ≤ v.toInt) (hv : v.toInt ≤ (days x.toNatClampNeg).toInt) (hf : (dyG pX dX row days s c w g).toInt < 100000000) : (dyG pX dX row (upd days x.toNatClampNeg v) s c w g).toInt ≤ (dyG pX dX row days s c w g).toInt := by
  unfold dyG at hf ⊢
  have B := cbF_b hc h0 h2
  generalize cbF c w = r at *
  have zf : (100000000 : Int32).toInt = 100000000 := rfl
  by_cases c1 : r = -1
  · rw [if_pos c1] at hf; omega
  · rw [if_neg c1] at hf ⊢
    rw [if_neg c1]
    obtain ⟨Bc, -⟩ : InC r ∧ r.toInt ≠ c.toInt := by
      rcases B with B | B
      · exact (c1 B).elim
      · exact B
    by_cases c2 : row (33 + r).toNatClampNeg = 1
    · rw [if_pos c2] at hf; omega
    · rw [if_neg c2] at hf ⊢
      rw [if_neg c2]
      by_cases c3 : pX r = false
      · rw [if_pos c3] at hf; omega
      · rw [if_neg c3] at hf ⊢
        rw [if_neg c3]
        by_cases c4 : ¬ r = g ∧ 1 < (row (113 + r).toNatClampNeg).toInt
        · rw [if_pos c4] at hf; omega
        · rw [if_neg c4] at hf ⊢
          rw [if_neg c4]
          by_cases c5 : days r.toNatClampNeg = 100000000
          · rw [if_pos c5] at hf; omega
          · rw [if_neg c5] at hf ⊢
            have Dr := DY.at_0 hD (tnz (x := r.toInt) rfl Bc.1) (by have := Bc.1; omega) (by have := Bc.2; omega)
            have gb := dgG_b dX r
            have c5' := ne_z (y := 100000000) rfl rfl c5
            have e : (days r.toNatClampNeg + dgG dX r).toInt = (days r.toNatClampNeg).toInt + (dgG dX r).toInt := add_z rfl rfl (by omega) (by omega)
            by_cases c6 : r.toInt = x.toInt
            · have c6' : r = x := Int32.toInt_inj.mp c6
              subst c6'
              rw [pk_us]
              have e2 : (v + dgG dX r).toInt = v.toInt + (dgG dX r).toInt := add_z rfl rfl (by omega) (by omega)
              rw [if_neg (z_ne (y := 100000000) rfl rfl (by omega))]
              omega
            · rw [pk_un (tn_ne Bc hx c6), if_neg c5]
              exact Int.le_refl _
theorem dyG_s {pX : Int32 → Bool} {dX : Int32 → Int32} {row days : Nat → Int32} {s c w g v : Int32} (hc : InC c) (h0 : 0 ≤ w.toInt) (h2 : w.toInt ≤ 2) : dyG pX dX row (upd days c.toNatClampNeg v) s c w g = dyG pX dX row days s c w g := by
  unfold dyG
  have B := cbF_b hc h0 h2
  generalize cbF c w = r at *
  by_cases c1 : r = -1
  · rw [if_pos c1, if_pos c1]
  · obtain ⟨Bc, Bn⟩ : InC r ∧ r.toInt ≠ c.toInt := by
      rcases B with B | B
      · exact (c1 B).elim
      · exact B
    rw [pk_un (tn_ne Bc hc Bn)]
theorem dyG_0 {pX : Int32 → Bool} {dX : Int32 → Int32} {row days : Nat → Int32} {s c w g : Int32} (hD : DY days) (hc : InC c) (h0 : 0 ≤ w.toInt) (h2 : w.toInt ≤ 2) : 0 ≤ (dyG pX dX row days s c w g).toInt := by
  unfold dyG
  have B := cbF_b hc h0 h2
  generalize cbF c w = r at *
  have zf : (100000000 : Int32).toInt = 100000000 := rfl
  split
  · omega
  · split
    · omega
    · split
      · omega
      · split
        · omega
        · split
          · omega
          · obtain ⟨Bc, -⟩ : InC r ∧ r.toInt ≠ c.toInt := by
              rcases B with B | B
              · exact absurd B (by assumption)
              · exact B
            have Dr := DY.at_0 hD (tnz (x := r.toInt) rfl Bc.1) (by have := Bc.1; omega) (by have := Bc.2; omega)
            have gb := dgG_b dX r
            have e : (days r.toNatClampNeg + dgG dX r).toInt = (days r.toNatClampNeg).toInt + (dgG dX r).toInt := add_z rfl rfl (by omega) (by omega)
            omega
theorem FAG.up {pX : Int32 → Bool} {dX : Int32 → Int32} {row : Nat → Int32} {s g : Int32} {days : Nat → Int32} (h : FAG pX dX row s g days) (hD : DY days) {x w : Int32} (hx : InC x) (h0 : 0 ≤ w.toInt) (h2 : w.toInt ≤ 2) (hxg : ¬ x = g) (hgi : InC g) (hlt : (dyG pX dX row days s x w g).toInt < (days x.toNatClampNeg).toInt) : FAG pX dX row s g (upd days x.toNatClampNeg (dyG pX dX row days s x w g)) := by
  have Dx := DY.at_0 hD (tnz (x := x.toInt) rfl hx.1) (by have := hx.1; omega) (by have := hx.2; omega)
  refine ⟨fun c hc hg hf => ?_, by rw [pk_un (tn_ne hgi hx (fun q => hxg (Int32.toInt_inj.mp q.symm)))]; exact h.2⟩
  by_cases e : c.toInt = x.toInt
  · have e' : c = x := Int32.toInt_inj.mp e
    subst e'
    refine ⟨w, h0, h2, ?_⟩
    rw [dyG_s hc h0 h2, pk_us]
    exact Int.le_refl _
  · rw [pk_un (tn_ne hc hx e)] at hf ⊢
    obtain ⟨w', a0, a2, a3⟩ := h.1 c hc hg hf
    refine ⟨w', a0, a2, ?_⟩
    have := dyG_u (pX := pX) (dX := dX) (row := row) (s := s) (g := g) (w := w') hD hc a0 a2 hx (dyG_0 hD hx h0 h2) (Int.le_of_lt hlt) (v := dyG pX dX row days s x w g) (by omega)
    omega
/-- within a pass: what stands so far -/
def FPG (pX : Int32 → Bool) (dX : Int32 → Int32) (row : Nat → Int32) (s g : Int32) (d0 : Nat → Int32) (on : Int32) (days : Nat → Int32) : Prop := DY days ∧ FAG pX dX row s g days ∧ B01 on ∧ (on = 1 → SD days 40 < SD d0 40) ∧ (on = 0 → days = d0)
theorem sl_gd64 {pX : Int32 → Bool} {dX : Int32 → Int32} {a g on0 : Int32} {row nOp nArg d0 : Nat → Int32} {now : Nat → Int64} {x : Int32} (hx : InC x) (hR : RLW row) (hgi : InC g) (hp : HPZ row a pX) (hd : HDZ row a dX) {Qb : Int32 → Int32 → Int32 → Int32 → Int64 → Int64 → (Nat → Int32) → (Nat → Int64) → (Nat → Int64) → Prop} (K : ∀ (y on law br : Int32) (v s : Int64) (days : Nat → Int32) (set rest : Nat → Int64), FPG pX dX row a g d0 on days → B01 br → (on = 0 → on0 = 0) → (on = 0 → ¬ x = g → ∀ w : Int32, 0 ≤ w.toInt → w.toInt ≤ 2 → (days x.toNatClampNeg).toInt ≤ (dyG pX dX row days a x w g).toInt) → Qb y on law br v s days set rest) : ∀ (m : Nat) (y on law br : Int32) (v s : Int64) (days : Nat → Int32) (set rest : Nat → Int64), 0 ≤ y.toInt → y.toInt ≤ 3 → 3 - y.toInt < m → FPG pX dX row a g d0 on days → B01 br → (on = 0 → on0 = 0) → (on = 0 → ¬ x = g → ∀ w : Int32, 0 ≤ w.toInt → w.toInt < y.toInt → (days x.toNatClampNeg).toInt ≤ (dyG pX dX row days a x w g).toInt) → wl_X12_findDown_64 a g 0 row nOp nArg now x Qb m y on law br v s days set rest := by
  intro m
  induction m with
  | zero => intro y on law br v s days set rest a1 a2 a3; exfalso; have a3 : 3 - y.toInt < 0 := a3; omega
  | succ m ih =>
    intro y on law br v s days set rest y0 y3 ym hF hbr ho hw
    unfold wl_X12_findDown_64
    by_cases c1 : 3 ≤ y
    · have c1' := le_z (x := 3) rfl rfl c1
      exact br1 c1 (K _ _ _ _ _ _ _ _ _ hF hbr ho (fun q1 q2 w w0 w2 => hw q1 q2 w w0 (by omega)))
    · have c1' := nle_z (x := 3) rfl rfl c1
      refine br0 c1 ?_
      by_cases c2 : x = g
      · exact br1 c2 (K _ _ _ _ _ _ _ _ _ hF hbr ho (fun _ q => (q c2).elim))
      · refine br0 c2 (s_daysG hx y0 (by omega) hR hp hd hbr (fun law' br' v' s' set' rest' hb' => un6_i ?_))
        obtain ⟨hD, hA, hon, hS, hE⟩ := id hF
        have y1 := li_1 (x := y) (hi := 3) (by omega) (by omega)
        have Dx := DY.at_0 hD (tnz (x := x.toInt) rfl hx.1) (by have := hx.1; omega) (by have := hx.2; omega)
        have vx : vp_in x 40 := vpi rfl hx.1 hx.2
        have NE : ∀ w : Int32, 0 ≤ w.toInt → w.toInt < (y + 1).toInt → ¬ w.toInt < y.toInt → w = y := fun w w0 w1 w2 => Int32.toInt_inj.mp (by omega)
        refine jn1_i (fun z : Int32 => B01 z ∧ (z = 0 ↔ (on = 0 ∧ (days x.toNatClampNeg).toInt ≤ (dyG pX dX row days a x y g).toInt))) (fun z hz => ?_) (fun z hz => ?_)
        · refine ⟨vx, ?_⟩
          by_cases c3 : days x.toNatClampNeg ≤ dyG pX dX row days a x y g
          · have c3' := le_z rfl rfl c3
            refine br1 c3 ⟨vx, vx, ?_⟩
            rw [upd_self]
            have zon : z = on := by
              rcases hon with e | e
              · rw [e]; exact hz.2.mpr ⟨e, c3'⟩
              · rcases hz.1 with f | f
                · have := (hz.2.mp f).1; rw [e] at this; exact absurd this (by decide)
                · rw [e, f]
            rw [zon]
            refine ih _ _ _ _ _ _ _ _ _ (by omega) (by omega) (by omega) hF hb' ho (fun q1 q2 w w0 w1 => ?_)
            by_cases e : w.toInt < y.toInt
            · exact hw q1 q2 w w0 e
            · rw [NE w w0 w1 e]; exact c3'
          · have c3' := nle_z rfl rfl c3
            have z1 : z = 1 := by
              rcases hz.1 with f | f
              · have := (hz.2.mp f).2; omega
              · exact f
            have d0' := dyG_0 (pX := pX) (dX := dX) (row := row) (s := a) (g := g) hD hx y0 (by omega)
            refine br0 c3 ⟨vx, ih _ _ _ _ _ _ _ _ _ (by omega) (by omega) (by omega) ⟨DY.up_0 hD (tnz (x := x.toInt) rfl hx.1) hx.1 hx.2 rfl (by omega) (by omega), hA.up hD hx y0 (by omega) c2 hgi c3', Or.inr z1, fun _ => ?_, fun q => ?_⟩ hb' (fun q => ?_) (fun q => ?_)⟩
            · rw [SD_s 40 (by have := tnz (x := x.toInt) rfl hx.1; have := hx.2; omega)]
              rcases hon with e | e
              · rw [hE e] at c3' ⊢; omega
              · have := hS e; omega
            · rw [z1] at q; exact absurd q (by decide)
            · rw [z1] at q; exact absurd q (by decide)
            · rw [z1] at q; exact absurd q (by decide)
        · by_cases c3 : on = 0
          · refine br1 c3 ⟨vx, ?_⟩
            by_cases c4 : days x.toNatClampNeg ≤ dyG pX dX row days a x y g
            · exact br1 c4 (hz 0 ⟨Or.inl rfl, fun _ => ⟨c3, le_z rfl rfl c4⟩, fun _ => rfl⟩)
            · have c4' := nle_z rfl rfl c4
              exact br0 c4 (hz 1 ⟨Or.inr rfl, fun q => absurd q (by decide), fun q => by omega⟩)
          · exact br0 c3 (hz 1 ⟨Or.inr rfl, fun q => absurd q (by decide), fun q => (c3 q.1).elim⟩)
theorem sl_gd56 {pX : Int32 → Bool} {dX : Int32 → Int32} {a g : Int32} {row nOp nArg d0 : Nat → Int32} {now : Nat → Int64} (hR : RLW row) (hgi : InC g) (hp : HPZ row a pX) (hd : HDZ row a dX) {Qb : Int32 → Int32 → Int32 → Int32 → Int64 → Int64 → (Nat → Int32) → (Nat → Int64) → (Nat → Int64) → Prop} (K : ∀ (x on law br : Int32) (v s : Int64) (days : Nat → Int32) (set rest : Nat → Int64), FPG pX dX row a g d0 on days → B01 br → (on = 0 → ∀ c : Int32, InC c → ¬ c = g → ∀ w : Int32, 0 ≤ w.toInt → w.toInt ≤ 2 → (days c.toNatClampNeg).toInt ≤ (dyG pX dX row days a c w g).toInt) → Qb x on law br v s days set rest) : ∀ (m : Nat) (x on law br : Int32) (v s : Int64) (days : Nat → Int32) (set rest : Nat → Int64), -1 ≤ x.toInt → x.toInt < 40 → x.toInt + 1 < m → FPG pX dX row a g d0 on days → B01 br → (on = 0 → ∀ c : Int32, x.toInt < c.toInt → InC c → ¬ c = g → ∀ w : Int32, 0 ≤ w.toInt → w.toInt ≤ 2 → (days c.toNatClampNeg).toInt ≤ (dyG pX dX row days a c w g).toInt) → wl_X12_findDown_56 a g 0 row nOp nArg now Qb m x on law br v s days set rest := by
  intro m
  induction m with
  | zero => intro x on law br v s days set rest a1 a2 a3; exfalso; have a3 : x.toInt + 1 < 0 := a3; omega
  | succ m ih =>
    intro x on law br v s days set rest x0 x1 xm hF hbr hw
    unfold wl_X12_findDown_56
    by_cases c : x < 0
    · have c' := lt_z (y := 0) rfl rfl c
      exact br1 c (K _ _ _ _ _ _ _ _ _ hF hbr (fun q e he hg w w0 w2 => hw q e (by have := he.1; omega) he hg w w0 w2))
    · have c' := nlt_z (y := 0) rfl rfl c
      have e1 : (x + (-1)).toInt = x.toInt + (-1) := add_z rfl (by decide) (by omega) (by omega)
      have hx : InC x := ⟨c', x1⟩
      refine br0 c (sl_gd64 (on0 := on) hx hR hgi hp hd (fun y on' law' br' v' s' days' set' rest' hF' hb' ho' hw' => ?_) _ 0 on law br v s days set rest (by decide) (by decide) (by decide) hF hbr (fun q => q) (fun _ _ w w0 w1 => ?_))
      · refine ih _ _ _ _ _ _ _ _ _ (by omega) (by omega) (by omega) hF' hb' (fun q e he1 he hg w w0 w2 => ?_)
        by_cases ee : e.toInt = x.toInt
        · have ee' : e = x := Int32.toInt_inj.mp ee
          rw [ee']
          rw [ee'] at hg
          exact hw' q hg w w0 w2
        · have k1 := hF'.2.2.2.2 q
          have k2 := hF.2.2.2.2 (ho' q)
          rw [k1, ← k2]
          exact hw (ho' q) e (by omega) he hg w w0 w2
      · exfalso
        have : (0 : Int32).toInt = 0 := rfl
        omega
/-- no way is quicker than what stands -/
def FBG (pX : Int32 → Bool) (dX : Int32 → Int32) (row : Nat → Int32) (s g : Int32) (days : Nat → Int32) : Prop := ∀ c : Int32, InC c → ¬ c = g → ∀ w : Int32, 0 ≤ w.toInt → w.toInt ≤ 2 → (days c.toNatClampNeg).toInt ≤ (dyG pX dX row days s c w g).toInt
theorem sl_gd46 {pX : Int32 → Bool} {dX : Int32 → Int32} {a g : Int32} {row nOp nArg : Nat → Int32} {now : Nat → Int64} (hR : RLW row) (hgi : InC g) (hp : HPZ row a pX) (hd : HDZ row a dX) {Qb : Int32 → Int32 → Int32 → Int64 → Int64 → (Nat → Int32) → (Nat → Int64) → (Nat → Int64) → Prop} (K : ∀ (on law br : Int32) (v s : Int64) (days : Nat → Int32) (set rest : Nat → Int64), DY days → FAG pX dX row a g days → FBG pX dX row a g days → B01 br → Qb on law br v s days set rest) : ∀ (m : Nat) (on law br : Int32) (v s : Int64) (days : Nat → Int32) (set rest : Nat → Int64), DY days → FAG pX dX row a g days → B01 br → B01 on → (on = 0 → FBG pX dX row a g days) → 0 < m → (on = 1 → SD days 40 + 1 < m) → wl_X12_findDown_46 a g 0 row nOp nArg now Qb m on law br v s days set rest := by
  intro m
  induction m with
  | zero => intro on law br v s days set rest _ _ _ _ _ h; omega
  | succ m ih =>
    intro on law br v s days set rest hD hA hbr hon hB hm hM
    unfold wl_X12_findDown_46
    by_cases c : on = 0
    · exact br1 c (K _ _ _ _ _ _ _ _ hD hA (hB c) hbr)
    · have c1 : on = 1 := by
        rcases hon with e | e
        · exact (c e).elim
        · exact e
      have hM := hM c1
      have sb := SD_b hD 40 (Nat.le_refl 40)
      refine br0 c (sl_gd56 (d0 := days) hR hgi hp hd (fun x on' law' br' v' s' days' set' rest' hF hb' hw => ?_) _ 39 0 law br v s days set rest (by decide) (by decide) (by decide) ⟨hD, hA, Or.inl rfl, fun q => absurd q (by decide), fun _ => rfl⟩ hbr (fun _ e he1 he => ?_))
      · obtain ⟨k1, k2, k3, k4, k5⟩ := hF
        have sb' := SD_b k1 40 (Nat.le_refl 40)
        exact ih _ _ _ _ _ _ _ _ k1 k2 hb' k3 (fun q => hw q) (by omega) (fun q => by have := k4 q; omega)
      · exfalso
        have : (39 : Int32).toInt = 39 := rfl
        have := he.2
        omega
/-- what a way gives that is as quick: a cell nearer by -/
theorem dyG_n {pX : Int32 → Bool} {dX : Int32 → Int32} {row days : Nat → Int32} {s c w g : Int32} (hD : DY days) (hc : InC c) (h0 : 0 ≤ w.toInt) (h2 : w.toInt ≤ 2) (hf : (dyG pX dX row days s c w g).toInt < 100000000) : InC (cbF c w) ∧ ¬ cbF c w = -1 ∧ (days (cbF c w).toNatClampNeg).toInt < (dyG pX dX row days s c w g).toInt := by
  unfold dyG at hf ⊢
  have B := cbF_b hc h0 h2
  generalize cbF c w = r at *
  have zf : (100000000 : Int32).toInt = 100000000 := rfl
  by_cases c1 : r = -1
  · rw [if_pos c1] at hf; omega
  · rw [if_neg c1] at hf ⊢
    obtain ⟨Bc, -⟩ : InC r ∧ r.toInt ≠ c.toInt := by
      rcases B with B | B
      · exact (c1 B).elim
      · exact B
    by_cases c2 : row (33 + r).toNatClampNeg = 1
    · rw [if_pos c2] at hf; omega
    · rw [if_neg c2] at hf ⊢
      by_cases c3 : pX r = false
      · rw [if_pos c3] at hf; omega
      · rw [if_neg c3] at hf ⊢
        by_cases c4 : ¬ r = g ∧ 1 < (row (113 + r).toNatClampNeg).toInt
        · rw [if_pos c4] at hf; omega
        · rw [if_neg c4] at hf ⊢
          by_cases c5 : days r.toNatClampNeg = 100000000
          · rw [if_pos c5] at hf; omega
          · rw [if_neg c5] at hf ⊢
            have Dr := DY.at_0 hD (tnz (x := r.toInt) rfl Bc.1) (by have := Bc.1; omega) (by have := Bc.2; omega)
            have gb := dgG_b dX r
            have e : (days r.toNatClampNeg + dgG dX r).toInt = (days r.toNatClampNeg).toInt + (dgG dX r).toInt := add_z rfl rfl (by omega) (by omega)
            exact ⟨Bc, c1, by omega⟩
