/-! the reference: may it dig, the least days, the next step, the way -/
theorem x_isShaft {a : Int32} {row : Nat → Int32} {w : Nat → Int} (hR : RLW row) (hRw : RMw row w) {Q : Int32 → Prop} (h1 : 0 ≤ a.toInt → a.toInt < w 0 → a.toInt ≤ 5 → Q 1) (h0 : a.toInt < 0 ∨ w 0 ≤ a.toInt → Q 0) : wp_X12_isShaft a row Q := by
  unfold wp_X12_isShaft
  have r0 := RLW.at_0 hR (n := 0) (z := 0) rfl (by omega) (by omega)
  have ew : (row 0).toInt = w 0 := hRw 0 (by decide)
  have e : a.toInt64.toInt = a.toInt := i2l_z rfl
  have s0 : ((row 0).toInt64 - 1).toInt = (row 0).toInt - 1 := lsub_z (i2l_z rfl) rfl (by omega) (by omega)
  have z0 : (0 : Int64).toInt = 0 := rfl
  refine e_in (fun g1 g2 => ?_) (fun g => ?_)
  · have g2 : a.toInt64.toInt ≤ ((row 0).toInt64 - 1).toInt := g2
    exact h1 (by omega) (by omega) (by omega)
  · have g : ¬ ((0 : Int64).toInt ≤ a.toInt64.toInt ∧ a.toInt64.toInt ≤ ((row 0).toInt64 - 1).toInt) := g
    exact h0 (by omega)
theorem x_isCell {a : Int32} {Q : Int32 → Prop} (h1 : InC a → Q 1) (h0 : a.toInt < 0 ∨ 39 < a.toInt → Q 0) : wp_X12_isCell a Q := by
  unfold wp_X12_isCell
  have e : a.toInt64.toInt = a.toInt := i2l_z rfl
  have z0 : (0 : Int64).toInt = 0 := rfl
  have z9 : (39 : Int64).toInt = 39 := rfl
  exact e_in (fun g1 g2 => h1 ⟨by omega, by omega⟩) (fun g => h0 (by omega))
theorem cl0_z {a : Int32} {row : Nat → Int32} {w : Nat → Int} (hR : RLW row) (hRw : RMw row w) (h0 : 0 ≤ a.toInt) (h5 : a.toInt ≤ 5) : (10 + a).toInt = ((10 + a.toInt.toNat : Nat) : Int) ∧ (row (10 + a).toNatClampNeg).toInt = ((cl0 w a.toInt : Nat) : Int) ∧ cl0 w a.toInt < 40 := by
  have e1 : (10 + a).toInt = ((10 + a.toInt.toNat : Nat) : Int) := by rw [add_z (x := 10) rfl rfl (by omega) (by omega)]; omega
  have b := RLW.at_10 hR (n := 10 + a.toInt.toNat) (z := ((10 + a.toInt.toNat : Nat) : Int)) rfl (by omega) (by omega)
  have ew : (row (10 + a.toInt.toNat)).toInt = w (10 + a.toInt.toNat) := hRw _ (by omega)
  refine ⟨e1, ?_, ?_⟩
  · rw [tnN e1, ew]
    show _ = (((w (10 + a.toInt.toNat)).toNat : Nat) : Int)
    omega
  · show (w (10 + a.toInt.toNat)).toNat < 40
    omega
theorem x_mayDig {a : Int32} {row : Nat → Int32} {w : Nat → Int} (hR : RLW row) (hRw : RMw row w) (h0 : 0 ≤ a.toInt) (h5 : a.toInt ≤ 5) {Q : Int32 → Prop} (q1 : w (113 + cl0 w a.toInt) < 2 → Q 1) (q0 : 2 ≤ w (113 + cl0 w a.toInt) → Q 0) : wp_X12_mayDig a row Q := by
  unfold wp_X12_mayDig wp_X12_isSpoilt wp_X12_hasFound
  obtain ⟨e1, r1, k40⟩ := cl0_z hR hRw h0 h5
  have e2 : (113 + row (10 + a).toNatClampNeg).toInt = ((113 + cl0 w a.toInt : Nat) : Int) := by rw [add_z (x := 113) rfl r1 (by omega) (by omega)]; omega
  have v1 : vp_in (10 + a) 5650 := vpi e1 (by omega) (by omega)
  have v2 : vp_in (113 + row (10 + a).toNatClampNeg) 5650 := vpi e2 (by omega) (by omega)
  have f : (row (113 + row (10 + a).toNatClampNeg).toNatClampNeg).toInt = w (113 + cl0 w a.toInt) := by rw [tnN e2]; exact hRw _ (by omega)
  have b := RLW.at_113 hR (n := 113 + cl0 w a.toInt) (z := ((113 + cl0 w a.toInt : Nat) : Int)) rfl (by omega) (by omega)
  have fb : (row (113 + cl0 w a.toInt)).toInt = w (113 + cl0 w a.toInt) := hRw _ (by omega)
  refine ⟨v1, v2, ?_⟩
  by_cases c : row (113 + row (10 + a).toNatClampNeg).toNatClampNeg = 2
  · have c' := eq_z (y := 2) f rfl c
    exact br1 c (br0 (by decide) (q0 (by omega)))
  · have c' := ne_z (y := 2) f rfl c
    refine br0 c (br1 rfl ⟨v1, v2, ?_⟩)
    by_cases d : row (113 + row (10 + a).toNatClampNeg).toNatClampNeg = 3
    · have d' := eq_z (y := 3) f rfl d
      exact br1 d (br0 (by decide) (q0 (by omega)))
    · have d' := ne_z (y := 3) f rfl d
      exact br0 d (br1 rfl (q1 (by omega)))
theorem x_findDown {a g law bq0 : Int32} {v0 s0 : Int64} {days row nOp nArg : Nat → Int32} {set rest now : Nat → Int64} {ls : Nat → List Cls} {w : Nat → Int} (hl : RML row ls) (hRw : RMw row w) (hR : RLW row) (ha0 : 0 ≤ a.toInt) (ha5 : a.toInt ≤ 5) (hg : InC g) (hb0 : B01 bq0) {Q : Int32 → (Int32 × Int32 × Int64 × Int64 × (Nat → Int32) × (Nat → Int64) × (Nat → Int64)) → Prop} (q1 : 2 ≤ w (113 + cl0 w a.toInt) → ∀ days' : Nat → Int32, DY days' → Q 100000000 (law, bq0, v0, s0, days', set, rest)) (q0 : w (113 + cl0 w a.toInt) < 2 → ∀ (law' br : Int32) (v s : Int64) (days' : Nat → Int32) (set' rest' : Nat → Int64), DY days' → B01 br → LD (DWP (lawW w ls) w a.toInt g.toInt.toNat) (DWC (lawW w ls) w a.toInt) g.toInt.toNat 100000000 (fun c => (days' c).toInt) → Q (days' (cl0 w a.toInt)) (law', br, v, s, days', set', rest')) : wp_X12_findDown a g 0 law bq0 v0 s0 days row set nOp nArg rest now Q := by
  unfold wp_X12_findDown
  obtain ⟨e1, r1, k40⟩ := cl0_z hR hRw ha0 ha5
  refine sl_fd2 (fun x d1 hd hD => ?_) _ 0 days (by decide) (by decide) (by decide) (fun c c0 c1 => ?_)
  · refine x_mayDig hR hRw ha0 ha5 (fun q => ?_) (fun q => br1 rfl (q1 q _ hD))
    have sb := SD_b hD 40 (Nat.le_refl 40)
    have hz : d1 g.toNatClampNeg = 0 := by rw [hd g hg, if_pos rfl]
    refine br0 (by decide) (sl_gd46 hR hg (hpZ hl hRw hR) (hdZ hl hRw hR) (fun on law' br v s d2 set' rest' k1 k2 k3 k4 => ?_) _ 1 law bq0 v0 s0 d1 set rest hD ⟨fun c hc hg2 hf => ?_, hz⟩ hb0 (Or.inr rfl) (fun q => absurd q (by decide)) (by omega) (fun _ => by omega))
    · refine ⟨vpi e1 (by omega) (by omega), vpi r1 (by omega) (by omega), ?_⟩
      rw [tnN r1]
      exact q0 q _ _ _ _ _ _ _ k1 k4 (LD.ofG hRw hR k1 hg k2 k3)
    · exfalso
      rw [hd c hc, if_neg hg2] at hf
      exact absurd hf (by decide)
  · exfalso
    have : (0 : Int32).toInt = 0 := rfl
    omega
/-- the lowest of the ways that are as quick, in their order -/
def vN (H : Nat → Bool) (C : Nat → Int) : Nat → Int
  | 0 => -1
  | k + 1 => if H k = true ∧ (vN H C k = -1 ∨ C k < vN H C k) then C k else vN H C k
theorem vN_3 {P : Nat → Bool} {co D : Nat → Int} {n : Nat} {H : Nat → Bool} {C : Nat → Int} (hC : ∀ k, k < 3 → C k = cbI (n : Int) (k : Int)) (hH : ∀ k, k < 3 → (H k = true ↔ ∃ x : Nat, x < 40 ∧ C k = (x : Int) ∧ stD P co D n x)) (h40 : n < 40) (ok : nwF P co D n < 40 ∧ stD P co D n (nwF P co D n)) : vN H C 3 = ((nwF P co D n : Nat) : Int) := by
  have c0 : C 0 = if (n : Int) % 8 ≤ 0 then -1 else (n : Int) - 1 := by
    rw [hC 0 (by decide)]
    show cbI (n : Int) 0 = _
    unfold cbI
    rw [if_neg (by decide), if_pos rfl]
  have c1 : C 1 = if 40 ≤ (n : Int) + 8 then -1 else (n : Int) + 8 := by
    rw [hC 1 (by decide)]
    show cbI (n : Int) 1 = _
    unfold cbI
    rw [if_pos rfl]
  have c2 : C 2 = if 7 ≤ (n : Int) % 8 then -1 else (n : Int) + 1 := by
    rw [hC 2 (by decide)]
    show cbI (n : Int) 2 = _
    unfold cbI
    rw [if_neg (by decide), if_neg (by decide)]
  have H1 : H 1 = true → C 1 = (n : Int) + 8 := fun q => by
    obtain ⟨x, x40, e, _⟩ := (hH 1 (by decide)).mp q
    rw [c1] at e ⊢
    by_cases t : 40 ≤ (n : Int) + 8
    · rw [if_pos t] at e; omega
    · exact if_neg t
  have H2 : H 2 = true → (n : Int) % 8 < 7 ∧ C 2 = (n : Int) + 1 := fun q => by
    obtain ⟨x, x40, e, _⟩ := (hH 2 (by decide)).mp q
    rw [c2] at e ⊢
    by_cases t : 7 ≤ (n : Int) % 8
    · rw [if_pos t] at e; omega
    · exact ⟨by omega, if_neg t⟩
  have s1 : vN H C 1 = if H 0 = true ∧ ((-1 : Int) = -1 ∨ C 0 < -1) then C 0 else -1 := rfl
  have s2 : vN H C 2 = if H 1 = true ∧ (vN H C 1 = -1 ∨ C 1 < vN H C 1) then C 1 else vN H C 1 := rfl
  have s3 : vN H C 3 = if H 2 = true ∧ (vN H C 2 = -1 ∨ C 2 < vN H C 2) then C 2 else vN H C 2 := rfl
  by_cases a : 0 < n % 8 ∧ stD P co D n (n - 1)
  · have e : nwF P co D n = n - 1 := by unfold nwF; rw [if_pos a]
    have ec : C 0 = (n : Int) - 1 := by rw [c0]; exact if_neg (by have := a.1; omega)
    have h : H 0 = true := (hH 0 (by decide)).mpr ⟨n - 1, by omega, by have := a.1; omega, a.2⟩
    have a1 := a.1
    have t1 : vN H C 1 = (n : Int) - 1 := by rw [s1, if_pos ⟨h, Or.inl rfl⟩]; exact ec
    have t2 : vN H C 2 = (n : Int) - 1 := by
      rw [s2, if_neg (fun q => ?_)]
      · exact t1
      · have := H1 q.1
        rcases q.2 with k | k <;> omega
    rw [s3, if_neg (fun q => ?_), t2, e]
    · omega
    · have := (H2 q.1).2
      rcases q.2 with k | k <;> omega
  · have h0 : ¬ H 0 = true := fun q => by
      obtain ⟨x, x40, e, st⟩ := (hH 0 (by decide)).mp q
      rw [c0] at e
      by_cases t : (n : Int) % 8 ≤ 0
      · rw [if_pos t] at e; omega
      · rw [if_neg t] at e
        exact a ⟨by omega, by rw [show n - 1 = x by omega]; exact st⟩
    have t1 : vN H C 1 = -1 := by rw [s1, if_neg (fun q => h0 q.1)]
    by_cases b : n % 8 < 7 ∧ stD P co D n (n + 1)
    · have e : nwF P co D n = n + 1 := by unfold nwF; rw [if_neg a, if_pos b]
      have ec : C 2 = (n : Int) + 1 := by rw [c2]; exact if_neg (by have := b.1; omega)
      have h : H 2 = true := (hH 2 (by decide)).mpr ⟨n + 1, by have := b.1; omega, by omega, b.2⟩
      have t2 : vN H C 2 = -1 ∨ vN H C 2 = (n : Int) + 8 := by
        rw [s2]
        by_cases u : H 1 = true ∧ (vN H C 1 = -1 ∨ C 1 < vN H C 1)
        · rw [if_pos u]; exact Or.inr (H1 u.1)
        · rw [if_neg u]; exact Or.inl t1
      rw [s3, if_pos ⟨h, by rcases t2 with k | k <;> omega⟩, e, ec]
      omega
    · have e : nwF P co D n = n + 8 := by unfold nwF; rw [if_neg a, if_neg b]
      rw [e] at ok
      have h : H 1 = true := (hH 1 (by decide)).mpr ⟨n + 8, ok.1, by rw [c1, if_neg (by have := ok.1; omega)]; omega, ok.2⟩
      have ec := H1 h
      have t2 : vN H C 2 = (n : Int) + 8 := by rw [s2, if_pos ⟨h, Or.inl t1⟩]; exact ec
      have h2 : ¬ H 2 = true := fun q => by
        obtain ⟨x, x40, e2, st⟩ := (hH 2 (by decide)).mp q
        have q2 := H2 q
        exact b ⟨by omega, by rw [show n + 1 = x by omega]; exact st⟩
      rw [s3, if_neg (fun q => h2 q.1), t2, e]
      omega
theorem x_nd6 {a b g : Int32} {row nOp nArg days : Nat → Int32} {now : Nat → Int64} {pX : Int32 → Bool} {dX : Int32 → Int32} (hb : InC b) (hR : RLW row) (hp : HPZ row a pX) (hd : HDZ row a dX) {Qb : Int32 → Int32 → Int32 → Int32 → Int64 → Int64 → (Nat → Int64) → (Nat → Int64) → Prop} (K : ∀ (x r law br : Int32) (v s : Int64) (set rest : Nat → Int64), B01 br → r.toInt = vN (fun k => decide (dyG pX dX row days a b (Int32.ofNat k) g = days b.toNatClampNeg)) (fun k => (cbF b (Int32.ofNat k)).toInt) 3 → Qb x r law br v s set rest) : ∀ (m k : Nat) (x r law br : Int32) (v s : Int64) (set rest : Nat → Int64), x.toInt = (k : Int) → k ≤ 3 → 3 - k < m → B01 br → r.toInt = vN (fun k => decide (dyG pX dX row days a b (Int32.ofNat k) g = days b.toNatClampNeg)) (fun k => (cbF b (Int32.ofNat k)).toInt) k → wl_X12_nextDown_6 a b g 0 row nOp nArg now days Qb m x r law br v s set rest := by
  intro m
  induction m with
  | zero => intro k x r law br v s set rest _ _ h; omega
  | succ m ih =>
    intro k x r law br v s set rest hx hk hm hbr hr
    unfold wl_X12_nextDown_6
    by_cases c1 : 3 ≤ x
    · have c1' := le_z (x := 3) rfl hx c1
      refine br1 c1 (K _ _ _ _ _ _ _ _ hbr ?_)
      rw [show (3 : Nat) = k by omega]
      exact hr
    · have c1' := nle_z (x := 3) rfl hx c1
      have ek : x = Int32.ofNat k := Int32.toInt_inj.mp (by rw [of_z (by omega)]; exact hx)
      have m1 : (-1 : Int32).toInt = -1 := by decide
      refine br0 c1 (e_cellBy (s_daysG hb (by omega) (by omega) hR hp hd hbr (fun law' br' v' s' set' rest' hb' => un6_i ⟨vpi rfl hb.1 hb.2, ?_⟩)))
      have go : ∀ r' : Int32, r'.toInt = vN (fun k => decide (dyG pX dX row days a b (Int32.ofNat k) g = days b.toNatClampNeg)) (fun k => (cbF b (Int32.ofNat k)).toInt) (k + 1) → wl_X12_nextDown_6 a b g 0 row nOp nArg now days Qb m (x + 1) r' law' br' v' s' set' rest' := fun r' e => ih (k + 1) _ _ _ _ _ _ _ _ (add1 hx (by omega)) (by omega) (by omega) hb' e
      have sv : vN (fun k => decide (dyG pX dX row days a b (Int32.ofNat k) g = days b.toNatClampNeg)) (fun k => (cbF b (Int32.ofNat k)).toInt) (k + 1) = if decide (dyG pX dX row days a b (Int32.ofNat k) g = days b.toNatClampNeg) = true ∧ (vN (fun k => decide (dyG pX dX row days a b (Int32.ofNat k) g = days b.toNatClampNeg)) (fun k => (cbF b (Int32.ofNat k)).toInt) k = -1 ∨ (cbF b (Int32.ofNat k)).toInt < vN (fun k => decide (dyG pX dX row days a b (Int32.ofNat k) g = days b.toNatClampNeg)) (fun k => (cbF b (Int32.ofNat k)).toInt) k) then (cbF b (Int32.ofNat k)).toInt else vN (fun k => decide (dyG pX dX row days a b (Int32.ofNat k) g = days b.toNatClampNeg)) (fun k => (cbF b (Int32.ofNat k)).toInt) k := rfl
      rw [← hr, ← ek] at sv
      by_cases c2 : dyG pX dX row days a b x g = days b.toNatClampNeg
      · refine br1 c2 ?_
        by_cases c3 : r = -1
        · have c3' := eq_z rfl m1 c3
          refine br1 c3 (go _ ?_)
          rw [sv, if_pos ⟨decide_eq_true c2, Or.inl c3'⟩]
        · have c3' := ne_z rfl m1 c3
          refine br0 c3 ?_
          by_cases c4 : r ≤ cbF b x
          · have c4' := le_z rfl rfl c4
            refine br1 c4 (go _ ?_)
            rw [sv, if_neg (fun q => by rcases q.2 with t | t <;> omega)]
          · have c4' := nle_z rfl rfl c4
            refine br0 c4 (go _ ?_)
            rw [sv, if_pos ⟨decide_eq_true c2, Or.inr c4'⟩]
      · refine br0 c2 (go _ ?_)
        rw [sv, if_neg (fun q => c2 (of_decide_eq_true q.1))]
theorem x_nextDown {a b g law bq0 : Int32} {v0 s0 : Int64} {days row nOp nArg : Nat → Int32} {set rest now : Nat → Int64} {ls : Nat → List Cls} {w : Nat → Int} (hl : RML row ls) (hRw : RMw row w) (hR : RLW row) (hg : InC g) (hb0 : B01 bq0) (hD : DY days) (hLD : LD (DWP (lawW w ls) w a.toInt g.toInt.toNat) (DWC (lawW w ls) w a.toInt) g.toInt.toNat 100000000 (fun c => (days c).toInt)) {n : Nat} (hb : b.toInt = (n : Int)) (h40 : n < 40) (hne : ¬ n = g.toInt.toNat) (hf : (days n).toInt < 100000000) {Q : QM} (hq : ∀ (r law' br : Int32) (v s : Int64) (set' rest' : Nat → Int64), B01 br → r.toInt = ((dwN (lawW w ls) w a.toInt g.toInt.toNat n : Nat) : Int) → Q r (law', br, v, s, set', rest')) : wp_X12_nextDown a b g 0 law bq0 v0 s0 row set nOp nArg rest now days Q := by
  unfold wp_X12_nextDown
  have ib : InC b := ⟨by omega, by omega⟩
  have ld := (hLD.nar DWC1 (by decide)).ld
  have isR : ∀ c, c < 40 → ((days c).toInt < 100000000 → dwD (lawW w ls) w a.toInt g.toInt.toNat c = (days c).toInt ∧ (days c).toInt ≤ 3960) ∧ (¬ (days c).toInt < 100000000 → dwD (lawW w ls) w a.toInt g.toInt.toNat c = 1000000) := fun c hc => hLD.isR DWC1 (by decide) hc
  have fn := (isR n h40).1 hf
  have ok := nwF_ok (D := dwD (lawW w ls) w a.toInt g.toInt.toNat) ld h40 hne (by omega)
  refine x_nd6 ib hR (hpZ hl hRw hR) (hdZ hl hRw hR) (fun x r law' br v s set' rest' h1 h2 => hq _ _ _ _ _ _ _ h1 ?_) _ 0 0 (-1) law bq0 v0 s0 set rest rfl (by omega) (by omega) hb0 rfl
  rw [h2]
  refine vN_3 (fun k hk => ?_) (fun k hk => ?_) h40 ⟨ok.1, ok.2.1⟩
  · have ek : (Int32.ofNat k).toInt = (k : Int) := of_z (by omega)
    show (cbF b (Int32.ofNat k)).toInt = _
    rw [cbF_z ib (by omega) (by omega), hb, ek]
  · have ek : (Int32.ofNat k).toInt = (k : Int) := of_z (by omega)
    show decide (dyG (pZ (lawW w ls) w a.toInt) (dZ (lawW w ls) w a.toInt) row days a b (Int32.ofNat k) g = days b.toNatClampNeg) = true ↔ _
    rw [tnN hb]
    constructor
    · intro q
      have q2 : dyG (pZ (lawW w ls) w a.toInt) (dZ (lawW w ls) w a.toInt) row days a b (Int32.ofNat k) g = days n := of_decide_eq_true q
      obtain ⟨x, x40, ex, hn, hP, hdx, ed⟩ := dyG_2 (F := lawW w ls) (a := a) (g := g) (y := Int32.ofNat k) hRw hR hD hg hb h40 (by omega) (by omega) (by rw [q2]; exact hf)
      have fx := (isR x x40).1 hdx
      rw [q2] at ed
      exact ⟨x, x40, ex, hP, by omega, by omega⟩
    · intro q
      obtain ⟨x, x40, ex, hP, hx6, he⟩ := q
      have hdx : (days x).toInt < 100000000 := by
        by_cases t : (days x).toInt < 100000000
        · exact t
        · have := (isR x x40).2 t
          omega
      have fx := (isR x x40).1 hdx
      have ed := dyG_1 (F := lawW w ls) (a := a) (c := b) (y := Int32.ofNat k) hRw hD hg rfl ex x40 hP hdx
      exact decide_eq_true (Int32.toInt_inj.mp (by rw [ed]; omega))
theorem x_dn75 {a g d : Int32} {row nOp nArg days : Nat → Int32} {now : Nat → Int64} {ls : Nat → List Cls} {w : Nat → Int} (hl : RML row ls) (hRw : RMw row w) (hR : RLW row) (hg : InC g) (hD : DY days) (hLD : LD (DWP (lawW w ls) w a.toInt g.toInt.toNat) (DWC (lawW w ls) w a.toInt) g.toInt.toNat 100000000 (fun c => (days c).toInt)) {c0 : Nat} (h0 : c0 < 40) (hf : (days c0).toInt < 100000000) (hd1 : 1 ≤ d.toInt) {Q : Int32 → (Int32 × Int32 × Int32 × Int64 × Int64 × (Nat → Int32) × (Nat → Int64) × (Nat → Int64)) → Prop} (hQ : ∀ (i : Nat) (r law br : Int32) (v s : Int64) (set rest : Nat → Int64), i < stN (dwN (lawW w ls) w a.toInt g.toInt.toNat) g.toInt.toNat 41 c0 → (i : Int) = d.toInt - 2 → r.toInt = ((itF (dwN (lawW w ls) w a.toInt g.toInt.toNat) c0 (i + 1) : Nat) : Int) → B01 br → Q r (0, law, br, v, s, days, set, rest)) {Qb : Int32 → Int32 → Int32 → Int32 → Int64 → Int64 → (Nat → Int64) → (Nat → Int64) → Prop} (K : ∀ (x c law br : Int32) (v s : Int64) (set rest : Nat → Int64), B01 br → x.toInt = ((stN (dwN (lawW w ls) w a.toInt g.toInt.toNat) g.toInt.toNat 41 c0 : Nat) : Int) → (∀ i, i < stN (dwN (lawW w ls) w a.toInt g.toInt.toNat) g.toInt.toNat 41 c0 → ¬ (i : Int) = d.toInt - 2) → Qb x c law br v s set rest) : ∀ (m i : Nat) (x c law br : Int32) (v s : Int64) (set rest : Nat → Int64), x.toInt = (i : Int) → c.toInt = ((itF (dwN (lawW w ls) w a.toInt g.toInt.toNat) c0 i : Nat) : Int) → i ≤ stN (dwN (lawW w ls) w a.toInt g.toInt.toNat) g.toInt.toNat 41 c0 → stN (dwN (lawW w ls) w a.toInt g.toInt.toNat) g.toInt.toNat 41 c0 - i < m → B01 br → (∀ j, j < i → ¬ (j : Int) = d.toInt - 2) → wl_X12_down_75 a g d 0 row nOp nArg now days Q Qb m x c law br v s set rest := by
  have isR : ∀ c, c < 40 → ((days c).toInt < 100000000 → dwD (lawW w ls) w a.toInt g.toInt.toNat c = (days c).toInt ∧ (days c).toInt ≤ 3960) ∧ (¬ (days c).toInt < 100000000 → dwD (lawW w ls) w a.toInt g.toInt.toNat c = 1000000) := fun c hc => hLD.isR DWC1 (by decide) hc
  have ld : LD (DWP (lawW w ls) w a.toInt g.toInt.toNat) (DWC (lawW w ls) w a.toInt) g.toInt.toNat 1000000 (dwD (lawW w ls) w a.toInt g.toInt.toNat) := (hLD.nar DWC1 (by decide)).ld
  have f0 := (isR c0 h0).1 hf
  have mb := muD_b (D := dwD (lawW w ls) w a.toInt g.toInt.toNat) (c := c0)
  have wo : stN (dwN (lawW w ls) w a.toInt g.toInt.toNat) g.toInt.toNat 41 c0 ≤ muD (dwD (lawW w ls) w a.toInt g.toInt.toNat) c0 ∧ itF (dwN (lawW w ls) w a.toInt g.toInt.toNat) c0 (stN (dwN (lawW w ls) w a.toInt g.toInt.toNat) g.toInt.toNat 41 c0) = g.toInt.toNat ∧ ∀ j, j < stN (dwN (lawW w ls) w a.toInt g.toInt.toNat) g.toInt.toNat 41 c0 → ¬ itF (dwN (lawW w ls) w a.toInt g.toInt.toNat) c0 j = g.toInt.toNat ∧ itF (dwN (lawW w ls) w a.toInt g.toInt.toNat) c0 j < 40 ∧ dwD (lawW w ls) w a.toInt g.toInt.toNat (itF (dwN (lawW w ls) w a.toInt g.toInt.toNat) c0 j) < 1000000 := way_ok ld DWC1 41 c0 (by omega) h0 (by omega)
  have g0 := hg.1
  have d2 : (d - 2).toInt = d.toInt - 2 := sub_z rfl rfl (by omega) (by have := i32_hi d; omega)
  generalize stN (dwN (lawW w ls) w a.toInt g.toInt.toNat) g.toInt.toNat 41 c0 = KK at *
  intro m
  induction m with
  | zero => intro i x c law br v s set rest _ _ _ h; omega
  | succ m ih =>
    intro i x c law br v s set rest hx hc hi hm hbr hj
    unfold wl_X12_down_75
    by_cases q : c = g
    · have q' := eq_z (y := g.toInt) hc rfl q
      have e : i = KK := by
        by_cases e : i < KK
        · exact absurd (by omega) (wo.2.2 i e).1
        · omega
      exact br1 q (K _ _ _ _ _ _ _ _ hbr (by rw [hx, e]) (fun j h => hj j (by omega)))
    · have q' := ne_z (y := g.toInt) hc rfl q
      have hlt : i < KK := by
        by_cases e : i = KK
        · exfalso
          rw [e, wo.2.1] at q'
          omega
        · omega
      have o := wo.2.2 i hlt
      have en : itF (dwN (lawW w ls) w a.toInt g.toInt.toNat) c0 (i + 1) = dwN (lawW w ls) w a.toInt g.toInt.toNat (itF (dwN (lawW w ls) w a.toInt g.toInt.toNat) c0 i) := rfl
      have fd : (days (itF (dwN (lawW w ls) w a.toInt g.toInt.toNat) c0 i)).toInt < 100000000 := by
        by_cases t : (days (itF (dwN (lawW w ls) w a.toInt g.toInt.toNat) c0 i)).toInt < 100000000
        · exact t
        · have := (isR _ o.2.1).2 t
          have := o.2.2
          omega
      refine br0 q (x_nextDown hl hRw hR hg hbr hD hLD hc o.2.1 o.1 fd (fun r law' br' v' s' set' rest' hb' hr => un6_i ?_))
      rw [← en] at hr
      by_cases t : x = d - 2
      · have t' := eq_z hx d2 t
        exact br1 t (hQ i _ _ _ _ _ _ _ hlt t' hr hb')
      · have t' := ne_z hx d2 t
        exact br0 t (ih (i + 1) _ _ _ _ _ _ _ _ (add1 hx (by omega)) hr (by omega) (by omega) hb' (fun j h => by
          by_cases e : j = i
          · rw [e]; exact t'
          · exact hj j (by omega)))
/-! what down answers, case by case -/
theorem downR_n {F : Option (List Cls)} {w : Nat → Int} {s g y : Int} (h : y < 0 ∨ 1000000 ≤ dwB F w s g) : downR F w s g y = -1 := by
  unfold downR
  by_cases c : y < 0
  · exact if_pos c
  · rw [if_neg c]; exact if_pos (h.elim (fun q => absurd q c) (fun q => q))
theorem dwB_n {F : Option (List Cls)} {w : Nat → Int} {s g : Int} (h : (s < 0 ∨ w 0 ≤ s ∨ g < 0 ∨ 39 < g) ∨ 2 ≤ w (113 + cl0 w s)) : 1000000 ≤ dwB F w s g := by
  unfold dwB
  by_cases c : s < 0 ∨ w 0 ≤ s ∨ g < 0 ∨ 39 < g
  · rw [if_pos c]; omega
  · rw [if_neg c, if_pos (h.elim (fun q => absurd q c) (fun q => q))]; omega
theorem dwB_y {F : Option (List Cls)} {w : Nat → Int} {s g : Int} (h : ¬ (s < 0 ∨ w 0 ≤ s ∨ g < 0 ∨ 39 < g)) (h2 : w (113 + cl0 w s) < 2) : dwB F w s g = dwD F w s g.toNat (cl0 w s) := by
  unfold dwB
  rw [if_neg h, if_neg (by omega)]
theorem downR_0 {F : Option (List Cls)} {w : Nat → Int} {s g : Int} (h : ¬ 1000000 ≤ dwB F w s g) : downR F w s g 0 = dwB F w s g := by
  unfold downR
  rw [if_neg (by decide), if_neg h, if_pos rfl]
theorem downR_1 {F : Option (List Cls)} {w : Nat → Int} {s g : Int} (h : ¬ 1000000 ≤ dwB F w s g) : downR F w s g 1 = ((dwK F w s g.toNat : Nat) : Int) := by
  unfold downR
  rw [if_neg (by decide), if_neg h, if_neg (by decide), if_pos rfl]
theorem downR_i {F : Option (List Cls)} {w : Nat → Int} {s g y : Int} (h : ¬ 1000000 ≤ dwB F w s g) (hy : 2 ≤ y) {i : Nat} (hi : (i : Int) = y - 2) (hK : i < dwK F w s g.toNat) : downR F w s g y = ((dwJ F w s g.toNat (i + 1) : Nat) : Int) := by
  unfold downR
  rw [if_neg (by omega), if_neg h, if_neg (by omega), if_neg (by omega), if_pos (by omega), show (y - 1).toNat = i + 1 by omega]
theorem downR_z {F : Option (List Cls)} {w : Nat → Int} {s g y : Int} (h : ¬ 1000000 ≤ dwB F w s g) (hy : 2 ≤ y) (hK : ((dwK F w s g.toNat : Nat) : Int) ≤ y - 2) : downR F w s g y = -1 := by
  unfold downR
  rw [if_neg (by omega), if_neg h, if_neg (by omega), if_neg (by omega), if_neg (by omega)]
theorem x_mdown {a b d law broken : Int32} {value sum : Int64} {row days nOp nArg : Nat → Int32} {rest now set : Nat → Int64} {ls : Nat → List Cls} {w : Nat → Int} (hl : RML row ls) (hR : RMw row w) (hr : RLW row) (hDY : DY days) (hB : 0 ≤ broken.toInt ∧ broken.toInt ≤ 1) {Q : Int32 → (Int32 × Int32 × Int32 × Int64 × Int64 × (Nat → Int32) × (Nat → Int64) × (Nat → Int64)) → Prop} (hq : ∀ (r law' br' : Int32) (value' sum' : Int64) (days' : Nat → Int32) (set' rest' : Nat → Int64), r.toInt = downR (lawW w ls) w a.toInt b.toInt d.toInt → (0 ≤ br'.toInt ∧ br'.toInt ≤ 1) → DY days' → Q r (0, law', br', value', sum', days', set', rest')) : wp_X12_down a b d 0 law broken value sum row days set nOp nArg rest now Q := by
  have m1 : (-1 : Int32).toInt = -1 := by decide
  have m8 : (100000000 : Int32).toInt = 100000000 := by decide
  unfold wp_X12_down
  refine x_isShaft hr hR (fun a0 a1 a5 => br0 (by decide) ?_) (fun g => br1 rfl (hq _ _ _ _ _ _ _ _ (m1.trans (downR_n (Or.inr (dwB_n (Or.inl (by omega))))).symm) hB hDY))
  refine x_isCell (fun ic => br0 (by decide) ?_) (fun g => br1 rfl (hq _ _ _ _ _ _ _ _ (m1.trans (downR_n (Or.inr (dwB_n (Or.inl (by omega))))).symm) hB hDY))
  have i0 := ic.1
  have i1 := ic.2
  by_cases c : 0 ≤ d
  · have c' := le_z (x := 0) rfl rfl c
    obtain ⟨e1, r1, k40⟩ := cl0_z hr hR a0 a5
    refine br1 c (x_findDown hl hR hr a0 a5 ic (bz1 hB) (fun q days' hd => un7_i (br1 rfl (hq _ _ _ _ _ _ _ _ (m1.trans (downR_n (Or.inr (dwB_n (Or.inr q)))).symm) hB hd))) (fun q law' br v s days' set' rest' hd hb' hLD => un7_i ?_))
    have eB := dwB_y (F := lawW w ls) (g := b.toInt) (by omega) q
    have isR : ((days' (cl0 w a.toInt)).toInt < 100000000 → dwD (lawW w ls) w a.toInt b.toInt.toNat (cl0 w a.toInt) = (days' (cl0 w a.toInt)).toInt ∧ (days' (cl0 w a.toInt)).toInt ≤ 3960) ∧ (¬ (days' (cl0 w a.toInt)).toInt < 100000000 → dwD (lawW w ls) w a.toInt b.toInt.toNat (cl0 w a.toInt) = 1000000) := hLD.isR DWC1 (by decide) k40
    have dy := DY.at_0 hd (n := cl0 w a.toInt) (z := ((cl0 w a.toInt : Nat) : Int)) rfl (by omega) (by omega)
    by_cases t : days' (cl0 w a.toInt) = 100000000
    · have t' := eq_z rfl m8 t
      have e := isR.2 (by omega)
      exact br1 t (hq _ _ _ _ _ _ _ _ (m1.trans (downR_n (Or.inr (by omega))).symm) (bz2 hb') hd)
    · have t' := ne_z rfl m8 t
      have e := isR.1 (by omega)
      have hB6 : ¬ 1000000 ≤ dwB (lawW w ls) w a.toInt b.toInt := by omega
      refine br0 t ?_
      by_cases y0 : d = 0
      · have y0' := eq_z (y := 0) rfl rfl y0
        refine br1 y0 (hq _ _ _ _ _ _ _ _ ?_ (bz2 hb') hd)
        rw [y0', downR_0 hB6]
        omega
      · have y0' := ne_z (y := 0) rfl rfl y0
        refine br0 y0 ⟨vpi e1 (by omega) (by omega), ?_⟩
        refine x_dn75 hl hR hr ic hd hLD k40 (by omega) (by omega) (fun i r law2 br2 v2 s2 set2 rest2 hi hd2 hr2 hb2 => hq _ _ _ _ _ _ _ _ (hr2.trans (downR_i hB6 (by omega) hd2 hi).symm) (bz2 hb2) hd) (fun x c2 law2 br2 v2 s2 set2 rest2 hb2 hx hn => ?_) _ 0 0 _ _ _ _ _ _ _ rfl r1 (Nat.zero_le _) ?_ hb' (fun j h => absurd h (Nat.not_lt_zero _))
        · by_cases y1 : d = 1
          · have y1' := eq_z (y := 1) rfl rfl y1
            refine br1 y1 (hq _ _ _ _ _ _ _ _ ?_ (bz2 hb2) hd)
            rw [y1', downR_1 hB6]
            exact hx
          · have y1' := ne_z (y := 1) rfl rfl y1
            refine br0 y1 (hq _ _ _ _ _ _ _ _ (m1.trans (downR_z hB6 (by omega) ?_).symm) (bz2 hb2) hd)
            by_cases u : d.toInt - 2 < ((dwK (lawW w ls) w a.toInt b.toInt.toNat : Nat) : Int)
            · exact absurd (by omega) (hn (d.toInt - 2).toNat (by
                have u2 : (d.toInt - 2).toNat < dwK (lawW w ls) w a.toInt b.toInt.toNat := by omega
                exact u2))
            · omega
        · have mb := stN_le (nx := dwN (lawW w ls) w a.toInt b.toInt.toNat) (g := b.toInt.toNat) 41 (cl0 w a.toInt)
          omega
  · have c' := nle_z (x := 0) rfl rfl c
    exact br0 c (hq _ _ _ _ _ _ _ _ (m1.trans (downR_n (Or.inl (by omega))).symm) hB hDY)
