/-! ORDERS of the reference: the CLAUSES, what is given back -/
def cpI (n : Nat) (g f : Nat → Int32) : Nat → Int32 := fun j => if j < n then g j else f j
theorem cpI_s {i : Nat} {g f : Nat → Int32} : upd (cpI i g f) i (g i) = cpI (i + 1) g f := by
  funext j
  unfold cpI
  by_cases e : j = i
  · rw [e, pk_us, if_pos (by omega)]
  · rw [pk_un e]
    by_cases c : j < i
    · rw [if_pos c, if_pos (by omega)]
    · rw [if_neg c, if_neg (by omega)]
theorem cpI_0 {g f : Nat → Int32} : cpI 0 g f = f := by funext j; unfold cpI; rw [if_neg (by omega)]
theorem cpI_lo {n j : Nat} {g f : Nat → Int32} (h : j < n) : cpI n g f j = g j := if_pos h
theorem cpI_hi {n j : Nat} {g f : Nat → Int32} (h : n ≤ j) : cpI n g f j = f j := if_neg (by omega)
theorem x_gb8 {g f : Nat → Int32} {Qb : Int32 → (Nat → Int32) → Prop} (K : ∀ x, Qb x (cpI 1696 g f)) : ∀ (m i : Nat) (x : Int32), x.toInt = (i : Int) → i ≤ 1696 → 1696 - i < m → wl_X12_giveBack_8 g Qb m x (cpI i g f) := by
  intro m
  induction m with
  | zero => intro i x _ _ h; omega
  | succ m ih =>
    intro i x hx hi hm
    unfold wl_X12_giveBack_8
    by_cases c : 1696 ≤ x
    · have c' := le_z (x := 1696) rfl hx c
      refine br1 c ?_
      rw [show i = 1696 by omega]; exact K x
    · have c' := nle_z (x := 1696) rfl hx c
      refine br0 c ⟨vpi hx (by omega) (by omega), vpi hx (by omega) (by omega), ?_⟩
      rw [tnN hx, cpI_s]
      exact ih (i + 1) _ (add1 hx (by omega)) (by omega) (by omega)
theorem x_gb35 {g f : Nat → Int32} {Qb : Int32 → (Nat → Int32) → Prop} (K : ∀ x, Qb x (cpI 16 g f)) : ∀ (m i : Nat) (x : Int32), x.toInt = (i : Int) → i ≤ 16 → 16 - i < m → wl_X12_giveBack_35 g Qb m x (cpI i g f) := by
  intro m
  induction m with
  | zero => intro i x _ _ h; omega
  | succ m ih =>
    intro i x hx hi hm
    unfold wl_X12_giveBack_35
    by_cases c : 16 ≤ x
    · have c' := le_z (x := 16) rfl hx c
      refine br1 c ?_
      rw [show i = 16 by omega]; exact K x
    · have c' := nle_z (x := 16) rfl hx c
      refine br0 c ⟨vpi hx (by omega) (by omega), vpi hx (by omega) (by omega), ?_⟩
      rw [tnN hx, cpI_s]
      exact ih (i + 1) _ (add1 hx (by omega)) (by omega) (by omega)
theorem x_or77 {g f : Nat → Int32} {Qb : Int32 → (Nat → Int32) → Prop} (K : ∀ x, Qb x (cpI 1696 g f)) : ∀ (m i : Nat) (x : Int32), x.toInt = (i : Int) → i ≤ 1696 → 1696 - i < m → wl_X12_orders_77 g Qb m x (cpI i g f) := by
  intro m
  induction m with
  | zero => intro i x _ _ h; omega
  | succ m ih =>
    intro i x hx hi hm
    unfold wl_X12_orders_77
    by_cases c : 1696 ≤ x
    · have c' := le_z (x := 1696) rfl hx c
      refine br1 c ?_
      rw [show i = 1696 by omega]; exact K x
    · have c' := nle_z (x := 1696) rfl hx c
      refine br0 c ⟨vpi hx (by omega) (by omega), vpi hx (by omega) (by omega), ?_⟩
      rw [tnN hx, cpI_s]
      exact ih (i + 1) _ (add1 hx (by omega)) (by omega) (by omega)
theorem x_or104 {g f : Nat → Int32} {Qb : Int32 → (Nat → Int32) → Prop} (K : ∀ x, Qb x (cpI 16 g f)) : ∀ (m i : Nat) (x : Int32), x.toInt = (i : Int) → i ≤ 16 → 16 - i < m → wl_X12_orders_104 g Qb m x (cpI i g f) := by
  intro m
  induction m with
  | zero => intro i x _ _ h; omega
  | succ m ih =>
    intro i x hx hi hm
    unfold wl_X12_orders_104
    by_cases c : 16 ≤ x
    · have c' := le_z (x := 16) rfl hx c
      refine br1 c ?_
      rw [show i = 16 by omega]; exact K x
    · have c' := nle_z (x := 16) rfl hx c
      refine br0 c ⟨vpi hx (by omega) (by omega), vpi hx (by omega) (by omega), ?_⟩
      rw [tnN hx, cpI_s]
      exact ih (i + 1) _ (add1 hx (by omega)) (by omega) (by omega)
theorem RMd.lo {un un' so so' : Nat → Int32} (hu : ∀ j, j < 1696 → un' j = un j) (hs : ∀ j, j < 16 → so' j = so j) : ∀ U : UL, U.length ≤ 16 → RMd un so U → RMd un' so' U := by
  intro U
  induction U with
  | nil => intro _ _; trivial
  | cons x U ih =>
    obtain ⟨s, v⟩ := x
    intro hl h
    have hl : U.length + 1 ≤ 16 := hl
    obtain ⟨h1, h2, h3⟩ := h
    exact ⟨by rw [hs _ (by omega)]; exact h1, fun i hi => by rw [hu _ (by omega)]; exact h2 i hi, ih (by omega) h3⟩
/-- all places but 7 .. 112 are as they were -/
def WFr (w w0 : Nat → Int) : Prop := ∀ j, j < 7 ∨ 113 ≤ j → w j = w0 j
/-- numbers that deeds need -/
def WGd (w : Nat → Int) : Prop := w 0 ≤ 6 ∧ w 1 ≤ 5 ∧ w 2 ≤ 6 ∧ ∀ i, i < 6 → 0 ≤ w (10 + i) ∧ w (10 + i) ≤ 39
theorem RMw.gd {row : Nat → Int32} {w : Nat → Int} (h : RMw row w) (hr : RLW row) : WGd w := by
  have e0 := h 0 (by decide)
  have e1 := h 1 (by decide)
  have e2 := h 2 (by decide)
  have r0 := RLW.at_0 hr (n := 0) rfl (by decide) (by decide)
  have r1 := RLW.at_1 hr (n := 1) rfl (by decide) (by decide)
  have r2 := RLW.at_2 hr (n := 2) rfl (by decide) (by decide)
  refine ⟨by omega, by omega, by omega, fun i hi => ?_⟩
  have e3 := h (10 + i) (by omega)
  have r3 := RLW.at_10 hr (n := 10 + i) rfl (by omega) (by omega)
  omega
theorem cbI_b {c y : Int} (h : 0 ≤ c ∧ c ≤ 39) : cbI c y ≤ 39 := by unfold cbI; (repeat' split) <;> omega
theorem digW_fr {F : Option (List Cls)} {w : Nat → Int} {s y : Int} (g : WGd w) : WFr (digW F w s y) w := by
  intro j hj
  unfold digW
  by_cases c : digR F w s y < 0
  · rw [if_pos c]
  · rw [if_neg c]
    unfold digR at c
    by_cases c1 : y < 0 ∨ 2 < y
    · rw [if_pos c1] at c; exact absurd (by decide) c
    · rw [if_neg c1] at c
      by_cases c2 : s < 0 ∨ w 0 ≤ s
      · rw [if_pos c2] at c; exact absurd (by decide) c
      · rw [if_neg c2] at c
        have g1 := g.1
        have b := cbI_b (y := y) (g.2.2.2 s.toNat (by omega))
        unfold digO digC
        rw [uI_n (by omega), uI_n (by omega), uI_n (by omega)]
theorem haulW_fr {F : Option (List Cls)} {w : Nat → Int} {s : Int} (g : WGd w) : WFr (haulW F w s) w := by
  intro j hj
  unfold haulW
  by_cases c : haulR F w s < 0
  · rw [if_pos c]
  · rw [if_neg c]
    unfold haulR at c
    by_cases c2 : s < 0 ∨ w 0 ≤ s
    · rw [if_pos c2] at c; exact absurd (by decide) c
    · have g1 := g.1
      have b := g.2.2.2 s.toNat (by omega)
      unfold haulO haulC
      rw [uI_n (by omega), uI_n (by omega), uI_n (by omega)]
theorem hushW_fr {w : Nat → Int} {s : Int} (g : WGd w) : WFr (hushW w s) w := by
  intro j hj
  unfold hushW
  by_cases c : hushR w s < 0
  · rw [if_pos c]
  · rw [if_neg c]
    unfold hushR at c
    by_cases c2 : s < 0 ∨ w 2 ≤ s
    · rw [if_pos c2] at c; exact absurd (by decide) c
    · have g1 := g.2.2.1
      unfold hushO
      rw [uI_n (by omega)]
theorem lieW_fr {w : Nat → Int} {s y : Int} (g : WGd w) : WFr (lieW w s y) w := by
  intro j hj
  unfold lieW
  by_cases c : lieR w s y < 0
  · rw [if_pos c]
  · rw [if_neg c]
    unfold lieR at c
    by_cases c1 : y < 0 ∨ 7 < y
    · rw [if_pos c1] at c; exact absurd (by decide) c
    · rw [if_neg c1] at c
      by_cases c2 : s < 0 ∨ w 1 ≤ s
      · rw [if_pos c2] at c; exact absurd (by decide) c
      · have g1 := g.2.1
        unfold lieO
        rw [uI_n (by omega)]
theorem rnW_fr {F : Option (List Cls)} {w : Nat → Int} {cl : Cls} {v : Nat → Nat → Int64} (g : WGd w) : WFr (rnW F w cl v) w := by
  cases b1 : cl.2.1.bind (fun s => s v) with
  | none => rw [rnW_0 b1]; exact fun j _ => rfl
  | some x =>
    by_cases c2 : cl.1 = 2
    · rw [rnW_hush b1 c2]; exact hushW_fr g
    · by_cases c1 : cl.1 = 1
      · rw [rnW_haul b1 c1]; exact haulW_fr g
      · cases b2 : cl.2.2.1.bind (fun s => s v) with
        | none => rw [rnW_1 b1 b2 ⟨c2, c1⟩]; exact fun j _ => rfl
        | some y =>
          by_cases c3 : cl.1 = 3
          · rw [rnW_lie b1 b2 c3]; exact lieW_fr g
          · rw [rnW_dg b1 b2 ⟨c2, c1, c3⟩]; exact digW_fr g
theorem rn1_fr {ls : Nat → List Cls} {cl : Cls} {s s' : OSt} (h : rn1 ls cl s = some s') (g : WGd s.1) : WFr s'.1 s.1 ∧ s'.2.2.1 ≤ s.2.2.1 + 1 ∧ s.2.2.1 ≤ s'.2.2.1 := by
  by_cases c : rnG cl.2.2.2.2 (ovW s.1 s.2.2.1 s.2.2.2) = true
  · by_cases c2 : rnR (lawW s.1 ls) s.1 cl (ovW s.1 s.2.2.1 s.2.2.2) < 0
    · rw [rn1_f c c2] at h; cases h
    · rw [rn1_g c (by omega)] at h
      injection h with h
      subst h
      exact ⟨rnW_fr g, Int.le_refl _, by show s.2.2.1 ≤ s.2.2.1 + 1; omega⟩
  · rw [rn1_s c] at h
    injection h with h
    subst h
    exact ⟨fun j _ => rfl, by omega, Int.le_refl _⟩
abbrev T38 : Type := Int32 × Int32 × Int32 × Int32 × Int32 × Int32 × Int32 × Int64 × Int32 × Int32 × Int32 × Int32 × Int32 × Int32 × Int32 × Int32 × Int32 × Int32 × Int64 × Int64 × Int32 × Int32 × Int32 × Int32 × (Nat → Int32) × (Nat → Int32) × (Nat → Int32) × (Nat → Int32) × (Nat → Int32) × (Nat → Int32) × (Nat → Int32) × (Nat → Int32) × (Nat → Int32) × (Nat → Int32) × (Nat → Int64) × (Nat → Int64) × (Nat → Int64) × (Nat → Int32)
/-- ORDERS that can't be: all is given back -/
theorem x_giveB {had br : Int32} {un un0 row row0 ub sb so so0 : Nat → Int32} {nU : Int32} {w w0 : Nat → Int} {U U0 : UL} {ls : Nat → List Cls} (hS : OMs nU br row un so w U ls) (hfr : WFr w w0) (h0 : RMw row0 w0) (hU0 : RMu un0 so0 had U0) (hn : 0 ≤ had.toInt ∧ had.toInt ≤ 16) (u0 : UN un0) (s0 : SO so0) (h17 : ∀ i, i < 106 → un (1802 + i) = row0 (7 + i)) (hub : ∀ j, j < 1696 → ub j = un0 j) (hsb : ∀ j, j < 16 → sb j = so0 j) {Q : (Int32 × (Nat → Int32) × (Nat → Int32) × (Nat → Int32)) → Prop} (hq : ∀ (un' row' so' : Nat → Int32), OMs had br row' un' so' w0 U0 ls → Q (had, un', row', so')) : wp_X12_giveBack had un row ub sb so Q := by
  obtain ⟨s1, s2, s3, s4, s5, s6, s7, s8⟩ := hS
  unfold wp_X12_giveBack
  refine x_putBack (A := 17) rfl (by decide) ?_
  have A := x_gb8 (g := ub) (f := un) (Qb := fun (x_8_0 : Int32) (x_8_1 : Nat → Int32) => (wl_X12_giveBack_35 sb (fun (x_35_0 : Int32) (x_35_1 : Nat → Int32) => (Q (had, x_8_1, pbI 17 106 un row, x_35_1))) 1000000000000 0 so)) (fun x => ?_) 1000000000000 0 0 rfl (by decide) (by decide)
  · rw [cpI_0] at A; exact A
  · have B := x_gb35 (g := sb) (f := so) (Qb := fun (x_35_0 : Int32) (x_35_1 : Nat → Int32) => (Q (had, cpI 1696 ub un, pbI 17 106 un row, x_35_1))) (fun x => ?_) 1000000000000 0 0 rfl (by decide) (by decide)
    · rw [cpI_0] at B; exact B
    · have eu : ∀ m, 1696 ≤ m ∨ cpI 1696 ub un m = un0 m := fun m => by
        by_cases c : m < 1696
        · exact Or.inr (by rw [cpI_lo c, hub m c])
        · exact Or.inl (by omega)
      refine hq _ _ _ ⟨hn, s2, s3.pb s4, fun m => ?_, fun m => ?_, fun j hj => ?_, ⟨hU0.1, hU0.2.1, RMd.lo (fun j hj => by rw [cpI_lo hj, hub j hj]) (fun j hj => by rw [cpI_lo hj, hsb j hj]) U0 hU0.2.1 hU0.2.2⟩, s8.pb⟩
      · by_cases c : m < 1696
        · rw [cpI_lo c, hub m c]; exact u0 m
        · rw [cpI_hi (by omega)]; exact s4 m
      · by_cases c : m < 16
        · rw [cpI_lo c, hsb m c]; exact s0 m
        · rw [cpI_hi (by omega)]; exact s5 m
      · unfold pbI
        by_cases c : 7 ≤ j ∧ j < 7 + 106
        · rw [if_pos c, show 106 * 17 + (j - 7) = 1802 + (j - 7) by omega, h17 _ (by omega), show 7 + (j - 7) = j by omega]; exact h0 j hj
        · rw [if_neg c, s6 j hj]; exact hfr j (by omega)
theorem WFr.tr {w w1 w0 : Nat → Int} (h : WFr w w1) (h2 : WFr w1 w0) : WFr w w0 := fun j hj => (h j hj).trans (h2 j hj)
set_option maxHeartbeats 2000000 in
theorem x_or150 {had : Int32} {rfs rf : Nat → Int32} {nc nC nL pd od : Int32} {nO pile nOp nArg pat : Nat → Int32} {t0 t1 t2 t3 : Int32} {t4 : Int64} {t5 t6 : Int32} {ub sb un0 so0 row0 un1 : Nat → Int32} {w0 : Nat → Int} {U0 : UL} {ls : Nat → List Cls} {Q : Int32 → T38 → Prop} (b1 : RMw row0 w0) (b2 : RMu un0 so0 had U0) (b3 : 0 ≤ had.toInt ∧ had.toInt ≤ 16) (b4 : UN un0) (b5 : SO so0) (b6 : ∀ i, i < 106 → un1 (1802 + i) = row0 (7 + i)) (b7 : ∀ j, j < 1696 → ub j = un0 j) (b8 : ∀ j, j < 16 → sb j = so0 j) (b9 : RF rfs rf) {xk : Int32} {k c : Nat} {cl : Cls} {L : List Cls} {S0 : OSt} {r1 : List Cls} (hxk : xk.toInt = (k : Int)) (hk : k < 12) (hc : c ≤ 400) (hCB : CB nOp nArg c) (hM : MO nO nOp nArg c k cl) (hok : okO cl) {sk : OSt} (hO : ordF ls 0 L S0 = ordF ls k (cl :: r1) sk) (hF : ∀ (r st dn lt sp of law br od2 : Int32) (val sum : Int64) (rf2 row2 un2 so2 : Nat → Int32) (now rest set : Nat → Int64), r.toInt = -3 → st.toInt = -3 → RF rf2 (tlR rf (-3)) → OMs had br row2 un2 so2 w0 U0 ls → od2 = 0 → sp.toInt = (ordF ls 0 L S0).2 → (ordF ls 0 L S0).1 = none → Q r (0, st, had, t0, t1, t2, t3, t4, t5, t6, od2, nc, nC, nL, pd, od, law, br, val, sum, dn, lt, sp, of, nO, pile, nOp, nArg, pat, row2, un2, ub, so2, sb, now, rest, set, rf2)) {Qb : Int32 → (Nat → Int32) → (Nat → Int64) → (Nat → Int64) → (Nat → Int64) → Int32 → Int32 → Int32 → Int32 → Int64 → Int64 → Int32 → Int32 → Int32 → (Nat → Int32) → (Nat → Int32) → Prop}
    (K : ∀ (s : OSt), rnT ls cl cl.2.2.2.1 sk = some s → ∀ (x : Int32) (so : Nat → Int32) (now rest set : Nat → Int64) (nU od2 law br : Int32) (val sum : Int64) (dn lt of : Int32) (row un : Nat → Int32), OMs nU br row un so s.1 s.2.1 ls → dn.toInt = s.2.2.1 → lt.toInt = s.2.2.2 → od2 = 0 → WFr s.1 w0 → (∀ j, 1696 ≤ j → un j = un1 j) → 0 ≤ s.2.2.1 → s.2.2.1 ≤ 20 * (k : Int) + 20 → Qb x so now rest set nU od2 law br val sum dn lt of row un) : ∀ (m i : Nat) (s : OSt) (x : Int32) (so : Nat → Int32) (now rest set : Nat → Int64) (nU od2 law br : Int32) (val sum : Int64) (dn lt of : Int32) (row un : Nat → Int32), x.toInt = (i : Int) → i ≤ cl.2.2.2.1 → cl.2.2.2.1 - i < m → rnT ls cl cl.2.2.2.1 sk = rnT ls cl (cl.2.2.2.1 - i) s → OMs nU br row un so s.1 s.2.1 ls → dn.toInt = s.2.2.1 → lt.toInt = s.2.2.2 → od2 = 0 → WFr s.1 w0 → (∀ j, 1696 ≤ j → un j = un1 j) → 0 ≤ s.2.2.1 → s.2.2.1 ≤ 20 * (k : Int) + (i : Int) → wl_X12_orders_150 had rfs nc nC nL pd od nO pile nOp nArg pat t0 t1 t2 t3 t4 t5 t6 ub sb xk Q Qb m x so now rest set nU od2 law br val sum dn lt of row un := by
  have h7 : ((8 * xk) + 7).toInt = ((8 * k + 7 : Nat) : Int) := by
    have e := mul_z (a := 8) (x := 8) (b := xk) rfl hxk (by omega) (by omega)
    rw [add_z e (b := 7) (y := 7) rfl (by omega) (by omega)]; omega
  have h8 : (8 * xk).toInt = ((8 * k : Nat) : Int) := by
    have e := mul_z (a := 8) (x := 8) (b := xk) rfl hxk (by omega) (by omega)
    rw [e]; omega
  have v7 : vp_in ((8 * xk) + 7) 96 := vpi h7 (by omega) (by omega)
  have m7 := hM.2.2.2.2
  have o5 := hok.2.2.2.2.1
  intro m
  induction m with
  | zero => intro i s x so now rest set nU od2 law br val sum dn lt of row un _ _ h; omega
  | succ m ih =>
    intro i s x so now rest set nU od2 law br val sum dn lt of row un hx hi hm hT hS hd hl h0 hfr h17 hdn hdn2
    subst h0
    unfold wl_X12_orders_150
    refine ⟨v7, ?_⟩
    rw [tnN h7]
    by_cases cc : nO (8 * k + 7) ≤ x
    · have cc' := le_z m7 hx cc
      refine br1 cc (K s ?_ _ _ _ _ _ _ _ _ _ _ _ _ _ _ _ _ hS hd hl rfl hfr h17 hdn (by omega))
      rw [hT, show cl.2.2.2.1 - i = 0 by omega]; rfl
    · have cc' := nle_z m7 hx cc
      obtain ⟨w1, U1, dn1, lt1⟩ := s
      have hd : dn.toInt = dn1 := hd
      have hl : lt.toInt = lt1 := hl
      subst hd
      subst hl
      have hdn : 0 ≤ dn.toInt := hdn
      have hdn2 : dn.toInt ≤ 20 * (k : Int) + (i : Int) := hdn2
      have gd := RMw.gd hS.2.2.2.2.2.1 hS.2.2.1
      refine br0 cc (x_run hS h8 hk hc hCB hM hok (fun hn nU' law' br' val' sum' dn' lt' off' row' now' rest' set' un' so' g1 g2 => un15_i (br0 (by decide) ?_)) (fun s' hs' nU' law' br' val' sum' dn' lt' off' row' now' rest' set' un' so' g1 g2 g3 g4 => un15_i (br1 (by decide) ?_)) ⟨hdn, by omega⟩)
      · have ef : ordF ls 0 L S0 = (none, (k : Int)) := hO.trans (ordF_f (hT.trans (rnT_f hn (m := cl.2.2.2.1 - i - 1) (by omega))))
        refine x_giveB g1 hfr b1 b2 b3 b4 b5 (fun i hi => by rw [g2 _ (by omega), h17 _ (by omega)]; exact b6 i hi) b7 b8 (fun un2 row2 so2 H => un4_i (s_X12_tellz (-3) _ (by decide) b9 (fun r u0 u1 h => un2_i ?_)))
        obtain ⟨q1, q2, q3⟩ := h
        have q1 : r.toInt = -3 := q1.trans (by decide)
        rw [q1] at q2 q3
        exact hF _ _ _ _ _ _ _ _ _ _ _ _ _ _ _ _ _ _ q1 (q2.trans (show tlS (-3) = -3 by decide)) q3 H rfl (by rw [ef]; exact hxk) (by rw [ef])
      · have fr := rn1_fr hs' gd
        have f2 : s'.2.2.1 ≤ dn.toInt + 1 := fr.2.1
        have f3 : dn.toInt ≤ s'.2.2.1 := fr.2.2
        exact ih (i + 1) s' _ _ _ _ _ _ _ _ _ _ _ _ _ _ _ _ (add1 hx (by omega)) (by omega) (by omega) (by rw [hT]; exact rnT_c hs' (by omega)) g1 g2 g3 rfl (fr.1.tr hfr) (fun j hj => (g4 j hj).trans (h17 j hj)) (by omega) (by omega)
set_option maxHeartbeats 2000000 in
theorem x_or140 {had : Int32} {rfs rf : Nat → Int32} {nc nC nL pd od : Int32} {nO pile nOp nArg pat : Nat → Int32} {t0 t1 t2 t3 : Int32} {t4 : Int64} {t5 t6 : Int32} {ub sb un0 so0 row0 un1 : Nat → Int32} {w0 : Nat → Int} {U0 : UL} {ls : Nat → List Cls} {Q : Int32 → T38 → Prop} (b1 : RMw row0 w0) (b2 : RMu un0 so0 had U0) (b3 : 0 ≤ had.toInt ∧ had.toInt ≤ 16) (b4 : UN un0) (b5 : SO so0) (b6 : ∀ i, i < 106 → un1 (1802 + i) = row0 (7 + i)) (b7 : ∀ j, j < 1696 → ub j = un0 j) (b8 : ∀ j, j < 16 → sb j = so0 j) (b9 : RF rfs rf) {c N : Nat} {L : List Cls} {S0 : OSt} (hN : nc.toInt = (N : Int)) (hN12 : N ≤ 12) (hc : c ≤ 400) (hCB : CB nOp nArg c) (hF : ∀ (r st dn lt sp of law br od2 : Int32) (val sum : Int64) (rf2 row2 un2 so2 : Nat → Int32) (now rest set : Nat → Int64), r.toInt = -3 → st.toInt = -3 → RF rf2 (tlR rf (-3)) → OMs had br row2 un2 so2 w0 U0 ls → od2 = 0 → sp.toInt = (ordF ls 0 L S0).2 → (ordF ls 0 L S0).1 = none → Q r (0, st, had, t0, t1, t2, t3, t4, t5, t6, od2, nc, nC, nL, pd, od, law, br, val, sum, dn, lt, sp, of, nO, pile, nOp, nArg, pat, row2, un2, ub, so2, sb, now, rest, set, rf2)) {Qb : Int32 → (Nat → Int32) → (Nat → Int64) → (Nat → Int64) → (Nat → Int64) → Int32 → Int32 → Int32 → Int32 → Int64 → Int64 → Int32 → Int32 → Int32 → (Nat → Int32) → (Nat → Int32) → Prop}
    (K : ∀ (s : OSt), ordF ls 0 L S0 = (some s, -1) → ∀ (x : Int32) (so : Nat → Int32) (now rest set : Nat → Int64) (nU od2 law br : Int32) (val sum : Int64) (dn lt of : Int32) (row un : Nat → Int32), OMs nU br row un so s.1 s.2.1 ls → dn.toInt = s.2.2.1 → lt.toInt = s.2.2.2 → od2 = 0 → WFr s.1 w0 → (∀ j, 1696 ≤ j → un j = un1 j) → 0 ≤ s.2.2.1 → s.2.2.1 ≤ 1000 → Qb x so now rest set nU od2 law br val sum dn lt of row un) : ∀ (r : List Cls) (k m : Nat) (s : OSt) (x : Int32) (so : Nat → Int32) (now rest set : Nat → Int64) (nU od2 law br : Int32) (val sum : Int64) (dn lt of : Int32) (row un : Nat → Int32), x.toInt = (k : Int) → k + r.length = N → r.length < m → ordF ls 0 L S0 = ordF ls k r s → MOs nO nOp nArg c k r → (∀ q ∈ r, okO q) → OMs nU br row un so s.1 s.2.1 ls → dn.toInt = s.2.2.1 → lt.toInt = s.2.2.2 → od2 = 0 → WFr s.1 w0 → (∀ j, 1696 ≤ j → un j = un1 j) → 0 ≤ s.2.2.1 → s.2.2.1 ≤ 20 * (k : Int) → wl_X12_orders_140 had rfs nc nC nL pd od nO pile nOp nArg pat t0 t1 t2 t3 t4 t5 t6 ub sb Q Qb m x so now rest set nU od2 law br val sum dn lt of row un := by
  intro r
  induction r with
  | nil =>
    intro k m s x so now rest set nU od2 law br val sum dn lt of row un hx hk hm hO hM hok hS hd hl h0 hfr h17 hdn hdn2
    have hk : k = N := hk
    obtain ⟨m, rfl⟩ : ∃ g, m = g + 1 := ⟨m - 1, by have : 0 < m := hm; omega⟩
    unfold wl_X12_orders_140
    exact br1 (z_le hN hx (by omega)) (K s hO _ _ _ _ _ _ _ _ _ _ _ _ _ _ _ _ hS hd hl h0 hfr h17 hdn (by omega))
  | cons cl r ih =>
    intro k m s x so now rest set nU od2 law br val sum dn lt of row un hx hk hm hO hM hok hS hd hl h0 hfr h17 hdn hdn2
    have hk : k + (r.length + 1) = N := hk
    have hm : r.length + 1 < m := hm
    obtain ⟨m, rfl⟩ : ∃ g, m = g + 1 := ⟨m - 1, by omega⟩
    unfold wl_X12_orders_140
    refine br0 (z_nle hN hx (by omega)) ?_
    refine x_or150 b1 b2 b3 b4 b5 b6 b7 b8 b9 hx (by omega) hc hCB hM.1 (hok cl List.mem_cons_self) hO hF (fun s' hs' x' so' now' rest' set' nU' od2' law' br' val' sum' dn' lt' of' row' un' g1 g2 g3 g4 g5 g6 g7 g8 => ?_) 1000000000000 0 s 0 _ _ _ _ _ _ _ _ _ _ _ _ _ _ _ rfl (Nat.zero_le _) ?_ (by rw [Nat.sub_zero]) hS hd hl h0 hfr h17 hdn (by omega)
    · exact ih (k + 1) m s' (x + 1) _ _ _ _ _ _ _ _ _ _ _ _ _ _ _ (add1 hx (by omega)) (by omega) (by omega) (hO.trans (ordF_c hs')) hM.2 (fun q hq => hok q (List.mem_cons_of_mem _ hq)) g1 g2 g3 g4 g5 g6 g7 (by omega)
    · have := (hok cl List.mem_cons_self).2.2.2.2.1
      omega
/-- what orders() answers, and what is behind it -/
def ordE (T : Nat → Int) (ls : Nat → List Cls) (w : Nat → Int) (U : UL) : Option OSt × Int := ordF ls 0 (rd_ord T).2.2 (w, U, 0, -1)
def ordR (T : Nat → Int) (ls : Nat → List Cls) (w : Nat → Int) (U : UL) : Int := if (rd_ord T).1 = true then (match (ordE T ls w U).1 with | some s => s.2.2.1 | none => -3) else -6
def ordW (T : Nat → Int) (ls : Nat → List Cls) (w : Nat → Int) (U : UL) : Nat → Int := if (rd_ord T).1 = true then (match (ordE T ls w U).1 with | some s => s.1 | none => w) else w
def ordU (T : Nat → Int) (ls : Nat → List Cls) (w : Nat → Int) (U : UL) : UL := if (rd_ord T).1 = true then (match (ordE T ls w U).1 with | some s => s.2.1 | none => U) else U
def ordS (T : Nat → Int) (ls : Nat → List Cls) (w : Nat → Int) (U : UL) : Int := if (rd_ord T).1 = true then (ordE T ls w U).2 else -1
def ordT (T : Nat → Int) (st : Nat → Nat) : Int := if (rd_ord T).1 = true then -1 else (st (rd_ord T).2.1 : Int)
theorem ord_0 {T : Nat → Int} {ls : Nat → List Cls} {w : Nat → Int} {U : UL} {st : Nat → Nat} (h : ¬ (rd_ord T).1 = true) : ordR T ls w U = -6 ∧ ordW T ls w U = w ∧ ordU T ls w U = U ∧ ordS T ls w U = -1 ∧ ordT T st = (st (rd_ord T).2.1 : Int) := ⟨if_neg h, if_neg h, if_neg h, if_neg h, if_neg h⟩
theorem ord_f {T : Nat → Int} {ls : Nat → List Cls} {w : Nat → Int} {U : UL} {st : Nat → Nat} (h : (rd_ord T).1 = true) (h2 : (ordE T ls w U).1 = none) : ordR T ls w U = -3 ∧ ordW T ls w U = w ∧ ordU T ls w U = U ∧ ordS T ls w U = (ordE T ls w U).2 ∧ ordT T st = -1 := by
  unfold ordR ordW ordU ordS ordT
  rw [if_pos h, if_pos h, if_pos h, if_pos h, if_pos h, h2]
  exact ⟨rfl, rfl, rfl, rfl, rfl⟩
theorem ord_s {T : Nat → Int} {ls : Nat → List Cls} {w : Nat → Int} {U : UL} {st : Nat → Nat} {s : OSt} (h : (rd_ord T).1 = true) (h2 : (ordE T ls w U).1 = some s) : ordR T ls w U = s.2.2.1 ∧ ordW T ls w U = s.1 ∧ ordU T ls w U = s.2.1 ∧ ordS T ls w U = (ordE T ls w U).2 ∧ ordT T st = -1 := by
  unfold ordR ordW ordU ordS ordT
  rw [if_pos h, if_pos h, if_pos h, if_pos h, if_pos h, h2]
  exact ⟨rfl, rfl, rfl, rfl, rfl⟩
theorem RMu.k17 {un so row : Nat → Int32} {nU : Int32} {U : UL} {A : Nat} (hA : 16 ≤ A) (h : RMu un so nU U) : RMu (kpS A 106 row un) so nU U := ⟨h.1, h.2.1, RMd.lo (fun j hj => by unfold kpS; rw [if_neg (by omega)]) (fun j _ => rfl) U h.2.1 h.2.2⟩
theorem UBcp {ub g : Nat → Int32} (hu : UB ub) (hg : UN g) : UB (cpI 1696 g ub) := fun m => by
  by_cases c : m < 1696
  · rw [cpI_lo c]; exact hg m
  · rw [cpI_hi (by omega)]; exact hu m
theorem SOcp {so g : Nat → Int32} {n : Nat} (hu : SO so) (hg : SO g) : SO (cpI n g so) := fun m => by
  by_cases c : m < n
  · rw [cpI_lo c]; exact hg m
  · rw [cpI_hi (by omega)]; exact hu m
set_option maxHeartbeats 2000000 in
/-- orders() of the reference, exactly -/
theorem x_morders {tp : Nat → Int32} {n : Nat} {st en : Nat → Nat} {T : Nat → Int} (hL : Lex tp n st en T) {taped : Int32} (hn : taped.toInt = (n : Int)) (h4 : n ≤ 400) {words oW acts : Nat → Int64} (hW : hasW words oW) (hA : hasA acts) {nU pd od law br dn lt off : Int32} {val sum : Int64} {nO pile nOp nArg pat row un ub so sb rfs rf : Nat → Int32} {now rest set : Nat → Int64} {w : Nat → Int} {U : UL} {ls : Nat → List Cls} (hS : OMs nU br row un so w U ls) (hF : RF rfs rf) (hub : UB ub) (hsb : SO sb) {Q : Int32 → T38 → Prop}
    (hq : ∀ (r st2 nU' fr to sort : Int32) (wo : Int64) (fa bad od2 nc nC nL pd' od' law' br' : Int32) (val' sum' : Int64) (dn' lt' sp of : Int32) (nO' pile' nOp' nArg' pat' row' un' ub' so' sb' : Nat → Int32) (now' rest' set' : Nat → Int64) (rf' : Nat → Int32), r.toInt = ordR T ls w U → st2.toInt = tlS (ordR T ls w U) → RF rf' (tlR rf (ordR T ls w U)) → fa.toInt = ordT T st → sp.toInt = ordS T ls w U → OMs nU' br' row' un' so' (ordW T ls w U) (ordU T ls w U) ls → od2 = 0 → UB ub' → SO sb' → Q r (0, st2, nU', 0, fr, to, sort, wo, fa, bad, od2, nc, nC, nL, pd', od', law', br', val', sum', dn', lt', sp, of, nO', pile', nOp', nArg', pat', row', un', ub', so', sb', now', rest', set', rf')) :
    wp_X12_orders nU taped pd od law br val sum dn lt off tp acts nO pile nOp nArg pat words oW row un ub so sb now rest set rfs Q := by
  unfold wp_X12_orders wp_X12_beginText
  refine ⟨Or.inr rfl, ?_⟩
  unfold wp_X12_begin
  refine x_nextToken hn h4 (p := 0) rfl (by omega) hL.1 (hL.2 0).1 (fun fr1 to1 sort1 w1 k1 k2 k3 => un4_i (un6_i (un10_i ?_)))
  refine x_motx hL hn h4 hW hA 12 _ 0 0 0 0 [] 0 fr1 to1 sort1 w1 0 0 pd od nO pile nOp nArg pat (by omega) rfl rfl rfl k1 k2 k3 rfl (by omega) rfl (Nat.zero_le _) (fun k hk => absurd hk (Nat.not_lt_zero _)) True.intro (fun J c' L nc' fr' to' sort' w' nC' nL' pd' od' f' pile' op' ar' pat' e1 e2 e3 e4 e5 e6 e7 e8 e9 e10 e11 => ?_) (fun J L e1 nc' fr' to' sort' w' fault' nC' nL' pd' od' f' pile' op' ar' pat' e2 => ?_)
  · have eL : rd_ord T = (decide (T J = 31), J, L) := e1
    unfold wp_X12_endText
    refine br1 rfl ?_
    by_cases cs : sort' = 0
    · have t31 : T J = 31 := by
        rcases e7 with ⟨a, _⟩ | ⟨a, _⟩ | ⟨a, _⟩ | ⟨a, _⟩
        · exact a
        · rw [cs] at a; exact absurd a (by decide)
        · rw [cs] at a; exact absurd a (by decide)
        · rw [cs] at a; exact absurd a (by decide)
      rw [decide_eq_true t31] at eL
      have ok : (rd_ord T).1 = true := by rw [eL]
      have okL : ∀ q ∈ L, okO q := by have q := rd_ord_ok (T := T); rw [eL] at q; exact q
      have eE : ordE T ls w U = ordF ls 0 L (w, U, 0, -1) := by unfold ordE; rw [eL]
      refine br1 cs (un8_i (br1 rfl ?_))
      refine x_keepAll (A := 17) rfl (by decide) ?_
      have gd := RMw.gd hS.2.2.2.2.2.1 hS.2.2.1
      have u17 : UN (kpS 17 106 row un) := UN.kp hS.2.2.2.1 hS.2.2.1
      have S1 : OMs nU br row (kpS 17 106 row un) so w U ls := ⟨hS.1, hS.2.1, hS.2.2.1, u17, hS.2.2.2.2.1, hS.2.2.2.2.2.1, RMu.k17 (by decide) hS.2.2.2.2.2.2.1, hS.2.2.2.2.2.2.2⟩
      have ub1 : UB (cpI 1696 (kpS 17 106 row un) ub) := UBcp hub u17
      have sb1 : SO (cpI 16 so sb) := SOcp hsb hS.2.2.2.2.1
      have h17 : ∀ i, i < 106 → kpS 17 106 row un (1802 + i) = row (7 + i) := fun i hi => by unfold kpS; rw [if_pos (by omega), show 1802 + i - 106 * 17 = i by omega]
      have A := x_or77 (g := kpS 17 106 row un) (f := ub) (Qb := (fun (x_77_0 : Int32) (x_77_1 : Nat → Int32) => (wl_X12_orders_104 so (fun (x_104_0 : Int32) (x_104_1 : Nat → Int32) => (wl_X12_orders_140 nU rfs nc' nC' nL' pd' od' f' pile' op' ar' pat' 0 fr' to' sort' w' (-1) 0 x_77_1 x_104_1 Q (fun (x_140_0 : Int32) (x_140_1 : Nat → Int32) (x_140_2 : Nat → Int64) (x_140_3 : Nat → Int64) (x_140_4 : Nat → Int64) (x_140_5 : Int32) (x_140_6 : Int32) (x_140_7 : Int32) (x_140_8 : Int32) (x_140_9 : Int64) (x_140_10 : Int64) (x_140_11 : Int32) (x_140_12 : Int32) (x_140_13 : Int32) (x_140_14 : Nat → Int32) (x_140_15 : Nat → Int32) => (wp_X12_tell x_140_11 (rfs) (fun (r_211 : Int32) => (un2 (fun (u_211_0 : Int32) (u_211_1 : Nat → Int32) => (Q r_211 (0, u_211_0, x_140_5, 0, fr', to', sort', w', (-1), 0, x_140_6, nc', nC', nL', pd', od', x_140_7, x_140_8, x_140_9, x_140_10, x_140_11, x_140_12, (-1), x_140_13, f', pile', op', ar', pat', x_140_14, x_140_15, x_77_1, x_140_1, x_104_1, x_140_2, x_140_3, x_140_4, u_211_1))))))) 1000000000000 0 so now rest set nU 0 law br val sum 0 (-1) off row (kpS 17 106 row un))) 1000000000000 0 sb))) (fun x => ?_) 1000000000000 0 0 rfl (by decide) (by decide)
      · rw [cpI_0] at A; exact A
      · have B := x_or104 (g := so) (f := sb) (Qb := (fun (x_104_0 : Int32) (x_104_1 : Nat → Int32) => (wl_X12_orders_140 nU rfs nc' nC' nL' pd' od' f' pile' op' ar' pat' 0 fr' to' sort' w' (-1) 0 (cpI 1696 (kpS 17 106 row un) ub) x_104_1 Q (fun (x_140_0 : Int32) (x_140_1 : Nat → Int32) (x_140_2 : Nat → Int64) (x_140_3 : Nat → Int64) (x_140_4 : Nat → Int64) (x_140_5 : Int32) (x_140_6 : Int32) (x_140_7 : Int32) (x_140_8 : Int32) (x_140_9 : Int64) (x_140_10 : Int64) (x_140_11 : Int32) (x_140_12 : Int32) (x_140_13 : Int32) (x_140_14 : Nat → Int32) (x_140_15 : Nat → Int32) => (wp_X12_tell x_140_11 (rfs) (fun (r_211 : Int32) => (un2 (fun (u_211_0 : Int32) (u_211_1 : Nat → Int32) => (Q r_211 (0, u_211_0, x_140_5, 0, fr', to', sort', w', (-1), 0, x_140_6, nc', nC', nL', pd', od', x_140_7, x_140_8, x_140_9, x_140_10, x_140_11, x_140_12, (-1), x_140_13, f', pile', op', ar', pat', x_140_14, x_140_15, (cpI 1696 (kpS 17 106 row un) ub), x_140_1, x_104_1, x_140_2, x_140_3, x_140_4, u_211_1))))))) 1000000000000 0 so now rest set nU 0 law br val sum 0 (-1) off row (kpS 17 106 row un)))) (fun x => ?_) 1000000000000 0 0 rfl (by decide) (by decide)
        · rw [cpI_0] at B; exact B
        · refine x_or140 (un0 := kpS 17 106 row un) (so0 := so) (row0 := row) (un1 := kpS 17 106 row un) (S0 := (w, U, 0, -1)) hS.2.2.2.2.2.1 S1.2.2.2.2.2.2.1 hS.1 u17 hS.2.2.2.2.1 h17 (fun j hj => cpI_lo hj) (fun j hj => cpI_lo hj) hF e4 e3 e9 e10 (fun r sta dn lt sp of law br od2 val sum rf2 row2 un2 so2 now rest set q1 q2 q3 q4 q5 q6 q7 => ?_) (fun s q0 x so now rest set nU od2 law br val sum dn lt of row un q1 q2 q3 q4 q5 q6 q7 q8 => ?_) L 0 _ (w, U, 0, -1) 0 _ _ _ _ _ _ _ _ _ _ _ _ _ _ _ rfl (by show 0 + L.length = L.length; omega) (by omega) rfl e11 okL S1 rfl (show (-1 : Int32).toInt = -1 by decide) rfl (fun j _ => rfl) (fun j _ => rfl) (Int.le_refl _) (show (0 : Int) ≤ 20 * ((0 : Nat) : Int) by decide)
          · have z := ord_f (st := st) ok (by rw [eE]; exact q7)
            refine hq _ _ _ _ _ _ _ _ _ _ _ _ _ _ _ _ _ _ _ _ _ _ _ _ _ _ _ _ _ _ _ _ _ _ _ _ _ (by rw [z.1]; exact q1) (by rw [z.1, q2]; decide) (by rw [z.1]; exact q3) (by rw [z.2.2.2.2]; decide) (by rw [z.2.2.2.1, eE]; exact q6) (by rw [z.2.1, z.2.2.1]; exact q4) q5 ub1 sb1
          · have z := ord_s (st := st) ok (by rw [eE, q0])
            refine s_X12_tellz dn rfs (by omega) hF (fun r u0 u1 h => un2_i ?_)
            obtain ⟨h1, h2, h3⟩ := h
            have h1 : r.toInt = s.2.2.1 := h1.trans q2
            rw [h1] at h2 h3
            subst q4
            exact hq _ _ _ _ _ _ _ _ _ _ _ _ _ _ _ _ _ _ _ _ _ _ _ _ _ _ _ _ _ _ _ _ _ _ _ _ _ (by rw [z.1]; exact h1) (by rw [z.1]; exact h2) (by rw [z.1]; exact h3) (by rw [z.2.2.2.2]; decide) (by rw [z.2.2.2.1, eE, q0]; show (-1 : Int32).toInt = -1; decide) (by rw [z.2.1, z.2.2.1]; exact q1) rfl ub1 sb1
    · have t31 : ¬ T J = 31 := fun q => by
        rcases e7 with ⟨_, a⟩ | ⟨_, ⟨j, j1, j2, _⟩ | ⟨j1, _⟩⟩ | ⟨_, a, _⟩ | ⟨_, a, _⟩
        · exact cs a
        · omega
        · omega
        · omega
        · omega
      rw [decide_eq_false t31] at eL
      have z := ord_0 (T := T) (ls := ls) (w := w) (U := U) (st := st) (by rw [eL]; show ¬ false = true; decide)
      refine br0 cs (x_must hL hn h4 e6 (fun q => absurd rfl q) (fun _ => un6_i (un8_i (br0 (by decide) (s_X12_tellz (-6) _ (by decide) hF (fun r u0 u1 h => un2_i ?_))))))
      obtain ⟨h1, h2, h3⟩ := h
      have h1 : r.toInt = -6 := h1.trans (by decide)
      rw [h1] at h2 h3
      exact hq _ _ _ _ _ _ _ _ _ _ _ _ _ _ _ _ _ _ _ _ _ _ _ _ _ _ _ _ _ _ _ _ _ _ _ _ _ (by rw [z.1]; exact h1) (by rw [z.1]; exact h2) (by rw [z.1]; exact h3) (by rw [z.2.2.2.2, eL]; exact e5) (by rw [z.2.2.2.1]; decide) (by rw [z.2.1, z.2.2.1]; exact hS) rfl hub hsb
  · have eL : rd_ord T = (false, J, L) := e1
    have z := ord_0 (T := T) (ls := ls) (w := w) (U := U) (st := st) (by rw [eL]; show ¬ false = true; decide)
    unfold wp_X12_endText
    refine br0 (by decide) (un8_i (br0 (by decide) (s_X12_tellz (-6) _ (by decide) hF (fun r u0 u1 h => un2_i ?_))))
    obtain ⟨h1, h2, h3⟩ := h
    have h1 : r.toInt = -6 := h1.trans (by decide)
    rw [h1] at h2 h3
    exact hq _ _ _ _ _ _ _ _ _ _ _ _ _ _ _ _ _ _ _ _ _ _ _ _ _ _ _ _ _ _ _ _ _ _ _ _ _ (by rw [z.1]; exact h1) (by rw [z.1]; exact h2) (by rw [z.1]; exact h3) (by rw [z.2.2.2.2, eL]; exact e2) (by rw [z.2.2.2.1]; decide) (by rw [z.2.1, z.2.2.1]; exact hS) rfl hub hsb
