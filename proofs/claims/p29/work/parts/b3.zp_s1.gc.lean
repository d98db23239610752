/-! gangs: the class -/
def PRr (price : Nat → Int32) (pr : Nat → Nat → Int) (n m : Nat) : Prop := ∀ s, s < n → ∀ j, j < m → (price (6 * s + j)).toInt = pr s j
theorem prG_n {F : Option (List Cls)} {w : Nat → Int} {a : Int64} {S j : Nat} (h40 : cl0 w (S : Int) < 40) (h : 2 ≤ w (113 + cl0 w (S : Int))) : prG F w a S j = 1000000 := by
  have q := dwB_n (F := F) (w := w) (s := (S : Int)) (g := ((gkA a 40 j : Nat) : Int)) (Or.inr h)
  have q2 := (dwB_b (F := F) (w := w) (s := (S : Int)) (g := ((gkA a 40 j : Nat) : Int)) h40).2.1
  show dwB F w (S : Int) ((gkA a 40 j : Nat) : Int) = 1000000
  omega
theorem prG_y {F : Option (List Cls)} {w : Nat → Int} {a : Int64} {S j : Nat} (hS : (S : Int) < w 0) (h : w (113 + cl0 w (S : Int)) < 2) : prG F w a S j = dwD F w (S : Int) (gkA a 40 j) (cl0 w (S : Int)) := by
  have gb := gkA_b (a := a) (k := j) 40 (Nat.le_refl _)
  exact dwB_y (F := F) (w := w) (s := (S : Int)) (g := ((gkA a 40 j : Nat) : Int)) (by omega) h
theorem mnF_min {opt : Nat → Int} {N : Nat} {v : Int} (h0 : v ≤ 1000000) (h1 : ∀ j, j < N → v ≤ opt j) (h2 : v = 1000000 ∨ ∃ j, j < N ∧ opt j = v) : (mnF opt N).1 = v := by
  obtain ⟨a, b, c⟩ := mnF_ok (opt := opt) N
  have le : (mnF opt N).1 ≤ v := by
    rcases h2 with q | ⟨j, hj, q⟩
    · omega
    · rw [← q]; exact b j hj
  by_cases d : (mnF opt N).1 < 1000000
  · have e := c d
    have f := h1 _ e.1
    omega
  · omega
theorem al6 : ∀ m, m < 7 → (((1 : Int32) <<< (nI m &&& 31)) - 1).toInt = ((2 ^ m - 1 : Nat) : Int) := by decide +kernel
theorem al6e : ∀ m, m < 7 → ((1 : Int32) <<< (nI m &&& 31)) - 1 = nI (2 ^ m - 1) := by decide +kernel
theorem xo_i : ∀ R, R < 64 → ∀ k, k < 6 → nI R ^^^ ((1 : Int32) <<< (nI k &&& 31)) = nI (R ^^^ 2 ^ k) := by decide +kernel
theorem bh_tb {R k : Nat} (hk : k < 32) : bh (nI R) k = R.testBit k := by
  unfold bh
  rw [wh_tb, BitVec.getLsbD_ofNat, decide_eq_true hk, Bool.true_and]
/-- the fewest days, for the sets of the SHAFTS from s on -/
def FWr (few : Nat → Int32) (pr : Nat → Nat → Int) (n m s : Nat) : Prop := ∀ t, s ≤ t → t ≤ n → ∀ R, R < 2 ^ m → (few (64 * t + R)).toInt = fwF pr n m (n - t) R
theorem x_dW {a b d : Int32} {price few : Nat → Int32} {pr : Nat → Nat → Int} {n m S R k : Nat} (hn : n ≤ 6) (hm : m < 7) (hS : S < n) (hR : R < 2 ^ m) (hk : k < m) (hbt : R.testBit k = true) (ha : a.toInt = (S : Int)) (hb : b = nI R) (hd : d.toInt = (k : Int)) (hp : PRB pr n m) (hP : PRr price pr n m) (hF : FWr few pr n m (S + 1)) {Q : Int32 → Prop} (hq : ∀ r : Int32, r.toInt = opF pr m S (fun z => fwF pr n m (n - (S + 1)) z) R k → Q r) : wp_X9_daysWith a b d price few Q := by
  unfold wp_X9_daysWith
  have pb := p2_6 m hm
  have R64 : R < 64 := by omega
  have xl := xo_l m hm R hR k hk
  have ed : d = nI k := nI_eqk hd (by omega)
  have ex : b ^^^ ((1 : Int32) <<< (d &&& 31)) = nI (R ^^^ 2 ^ k) := by rw [hb, ed]; exact xo_i R R64 k (by omega)
  have a1 : (a + 1).toInt = ((S + 1 : Nat) : Int) := add1 ha (by omega)
  have e1 : (a * 6 + d).toInt = ((6 * S + k : Nat) : Int) := by
    rw [add_z (mul_z ha (y := 6) rfl (by omega) (by omega)) hd (by omega) (by omega)]
    omega
  have e2 : ((a + 1) * 64 + (b ^^^ ((1 : Int32) <<< (d &&& 31)))).toInt = ((64 * (S + 1) + (R ^^^ 2 ^ k) : Nat) : Int) := by
    rw [ex, add_z (mul_z a1 (y := 64) rfl (by omega) (by omega)) (nI_toInt (by omega)) (by omega) (by omega)]
    omega
  have ep := hP S hS k hk
  have ef := hF (S + 1) (Nat.le_refl _) (by omega) (R ^^^ 2 ^ k) xl
  have b1 := hp S hS k hk
  have b2 := fw_b hp (n - (S + 1)) (by omega) (R ^^^ 2 ^ k)
  have m6 : (1000000 : Int32).toInt = 1000000 := by decide
  refine ⟨vpi e1 (by omega) (by omega), vpi e2 (by omega) (by omega), ?_⟩
  rw [tnN e1, tnN e2]
  have es : (price (6 * S + k) + few (64 * (S + 1) + (R ^^^ 2 ^ k))).toInt = pr S k + fwF pr n m (n - (S + 1)) (R ^^^ 2 ^ k) := add_z ep ef (by omega) (by omega)
  refine hq _ ?_
  unfold opF
  rw [if_pos hk]
  by_cases t : price (6 * S + k) + few (64 * (S + 1) + (R ^^^ 2 ^ k)) < 1000000
  · have t' := lt_z es m6 t
    rw [if_pos t, if_pos ⟨hbt, by omega, by show fwF pr n m (n - (S + 1)) (R ^^^ 2 ^ k) < 1000000; omega⟩]
    exact es
  · have t' := nlt_z es m6 t
    rw [if_neg t, if_neg (fun y => ?_)]
    · exact m6
    · have y1 := b1.2.2 y.2.1
      have y2 : fwF pr n m (n - (S + 1)) (R ^^^ 2 ^ k) ≤ 3960 * ((n - (S + 1) : Nat) : Int) := b2.2.2 y.2.2
      omega
theorem x_f18 {a b d : Int32} {price few : Nat → Int32} {pr : Nat → Nat → Int} {n m S R : Nat} (hn : n ≤ 6) (hm : m < 7) (hS : S < n) (hR : R < 2 ^ m) (ha : a.toInt = (S : Int)) (hb : b = nI R) (hd : d.toInt = (m : Int)) (hp : PRB pr n m) (hP : PRr price pr n m) (hF : FWr few pr n m (S + 1)) {Qb : Int32 → Int32 → Prop} (K : ∀ x r : Int32, r.toInt = (mnF (opF pr m S (fun z => fwF pr n m (n - (S + 1)) z) R) (m + 1)).1 → Qb x r) : ∀ (q k : Nat) (x r : Int32), x.toInt = (k : Int) → k ≤ m → m - k < q → r.toInt ≤ fwF pr n m (n - (S + 1)) R → (∀ j, j < k → r.toInt ≤ opF pr m S (fun z => fwF pr n m (n - (S + 1)) z) R j) → (r.toInt = fwF pr n m (n - (S + 1)) R ∨ ∃ j, j < k ∧ opF pr m S (fun z => fwF pr n m (n - (S + 1)) z) R j = r.toInt) → wl_X9_fewestFrom_18 a b d few price Qb q x r := by
  have fb := fw_b hp (n - (S + 1)) (by omega) R
  have om : opF pr m S (fun z => fwF pr n m (n - (S + 1)) z) R m = fwF pr n m (n - (S + 1)) R := by
    unfold opF
    rw [if_neg (Nat.lt_irrefl _)]
  intro q
  induction q with
  | zero => intro k x r _ _ h; omega
  | succ q ih =>
    intro k x r hx hk hq h1 h2 h3
    unfold wl_X9_fewestFrom_18
    by_cases t : d ≤ x
    · have t' := le_z hd hx t
      have e : k = m := by omega
      rw [e] at h2 h3
      refine br1 t (K _ _ (mnF_min (by omega) (fun j hj => ?_) (Or.inr ?_)).symm)
      · by_cases f : j = m
        · rw [f, om]; exact h1
        · exact h2 j (by omega)
      · rcases h3 with g | ⟨j, hj, g⟩
        · exact ⟨m, by omega, by rw [om]; exact g.symm⟩
        · exact ⟨j, by omega, g⟩
    · have t' := nle_z hd hx t
      have km : k < m := by omega
      refine br0 t ?_
      by_cases u : (b >>> (x &&& 31)) &&& 1 = 0
      · have u' := (bh_is hx (by omega)).mp u
        rw [hb, bh_tb (by omega)] at u'
        refine br1 u (ih (k + 1) _ _ (add1 hx (by omega)) (by omega) (by omega) h1 (fun j hj => ?_) ?_)
        · by_cases f : j = k
          · rw [f]
            unfold opF
            rw [if_pos km, if_neg (fun y => by rw [u'] at y; cases y.1)]
            omega
          · exact h2 j (by omega)
        · rcases h3 with g | ⟨j, hj, g⟩
          · exact Or.inl g
          · exact Or.inr ⟨j, by omega, g⟩
      · have u' : R.testBit k = true := by
          cases z : R.testBit k with
          | true => rfl
          | false => exact absurd ((bh_is hx (by omega)).mpr (by rw [hb, bh_tb (by omega)]; exact z)) u
        refine br0 u (x_dW hn hm hS hR km u' ha hb hx hp hP hF (fun v hv => ?_))
        have mz := mn2_z hv (a := r) (A := r.toInt) rfl
        by_cases l : opF pr m S (fun z => fwF pr n m (n - (S + 1)) z) R k < r.toInt
        · rw [if_pos l] at mz
          refine ih (k + 1) _ _ (add1 hx (by omega)) (by omega) (by omega) (by omega) (fun j hj => ?_) (Or.inr ⟨k, by omega, mz.symm⟩)
          rw [mz]
          by_cases f : j = k
          · rw [f]; exact Int.le_refl _
          · have := h2 j (by omega); omega
        · rw [if_neg l] at mz
          refine ih (k + 1) _ _ (add1 hx (by omega)) (by omega) (by omega) (by omega) (fun j hj => ?_) ?_
          · rw [mz]
            by_cases f : j = k
            · rw [f]; omega
            · exact h2 j (by omega)
          · rw [mz]
            rcases h3 with g | ⟨j, hj, g⟩
            · exact Or.inl g
            · exact Or.inr ⟨j, by omega, g⟩
theorem x_fFrom {a b d : Int32} {price few : Nat → Int32} {pr : Nat → Nat → Int} {n m S R : Nat} (hn : n ≤ 6) (hm : m < 7) (hS : S < n) (hR : R < 2 ^ m) (ha : a.toInt = (S : Int)) (hb : b = nI R) (hd : d.toInt = (m : Int)) (hp : PRB pr n m) (hP : PRr price pr n m) (hF : FWr few pr n m (S + 1)) {Q : Int32 → Prop} (hq : ∀ r : Int32, r.toInt = fwF pr n m (n - S) R → Q r) : wp_X9_fewestFrom a b d few price Q := by
  unfold wp_X9_fewestFrom
  have pb := p2_6 m hm
  have a1 : (a + 1).toInt = ((S + 1 : Nat) : Int) := add1 ha (by omega)
  have hbz : b.toInt = (R : Int) := by rw [hb]; exact nI_toInt (by omega)
  have e2 : ((a + 1) * 64 + b).toInt = ((64 * (S + 1) + R : Nat) : Int) := by
    rw [add_z (mul_z a1 (y := 64) rfl (by omega) (by omega)) hbz (by omega) (by omega)]
    omega
  have ef := hF (S + 1) (Nat.le_refl _) (by omega) R hR
  refine ⟨vpi e2 (by omega) (by omega), ?_⟩
  rw [tnN e2]
  refine x_f18 hn hm hS hR ha hb hd hp hP hF (fun x r hr => hq _ ?_) _ 0 _ _ rfl (Nat.zero_le _) (by omega) (by rw [ef]; exact Int.le_refl _) (fun j h => absurd h (Nat.not_lt_zero _)) (Or.inl ef)
  rw [hr, show n - S = n - (S + 1) + 1 by omega]
  show _ = (mnF (opF pr m (n - (n - (S + 1) + 1)) (fun z => fwF pr n m (n - (S + 1)) z) R) (m + 1)).1
  rw [show n - (n - (S + 1) + 1) = S by omega]
/-! the row that is chosen -/
theorem x_r21 {a b d : Int32} {price few : Nat → Int32} {pr : Nat → Nat → Int} {n m S R : Nat} (hn : n ≤ 6) (hm : m < 7) (hS : S < n) (hR : R < 2 ^ m) (ha : a.toInt = (S : Int)) (hb : b = nI R) (hd : d.toInt = (m : Int)) (hp : PRB pr n m) (hP : PRr price pr n m) (hF : FWr few pr n m S) {Qb : Int32 → Int32 → Prop} (K : ∀ x c : Int32, (c = -1 ∧ ∀ j, j < m → ¬ (R.testBit j = true ∧ opF pr m S (fun z => fwF pr n m (n - (S + 1)) z) R j = fwF pr n m (n - S) R)) ∨ (∃ k, k < m ∧ c.toInt = (k : Int) ∧ (R.testBit k = true ∧ opF pr m S (fun z => fwF pr n m (n - (S + 1)) z) R k = fwF pr n m (n - S) R) ∧ ∀ j, j < k → ¬ (R.testBit j = true ∧ opF pr m S (fun z => fwF pr n m (n - (S + 1)) z) R j = fwF pr n m (n - S) R)) → Qb x c) : ∀ (q k : Nat) (x c : Int32), x.toInt = (k : Int) → k ≤ m → m - k < q → (c = -1 ∧ ∀ j, j < k → ¬ (R.testBit j = true ∧ opF pr m S (fun z => fwF pr n m (n - (S + 1)) z) R j = fwF pr n m (n - S) R)) ∨ (∃ k, k < m ∧ c.toInt = (k : Int) ∧ (R.testBit k = true ∧ opF pr m S (fun z => fwF pr n m (n - (S + 1)) z) R k = fwF pr n m (n - S) R) ∧ ∀ j, j < k → ¬ (R.testBit j = true ∧ opF pr m S (fun z => fwF pr n m (n - (S + 1)) z) R j = fwF pr n m (n - S) R)) → wl_X9_fillRow_21 d price few a b Qb q x c := by
  have pb := p2_6 m hm
  have hbz : b.toInt = (R : Int) := by rw [hb]; exact nI_toInt (by omega)
  have e2 : (a * 64 + b).toInt = ((64 * S + R : Nat) : Int) := by
    rw [add_z (mul_z ha (y := 64) rfl (by omega) (by omega)) hbz (by omega) (by omega)]
    omega
  have ef := hF S (Nat.le_refl _) (by omega) R hR
  have m1 : (-1 : Int32).toInt = -1 := by decide
  intro q
  induction q with
  | zero => intro k x c _ _ h; omega
  | succ q ih =>
    intro k x c hx hk hq hc
    unfold wl_X9_fillRow_21
    by_cases t : d ≤ x
    · have t' := le_z hd hx t
      have e : k = m := by omega
      rw [e] at hc
      exact br1 t (K _ _ hc)
    · have t' := nle_z hd hx t
      have km : k < m := by omega
      refine br0 t ?_
      rcases hc with ⟨c1, c2⟩ | ⟨k0, k1, k2, k3⟩
      · subst c1
        refine br1 rfl ?_
        by_cases u : (b >>> (x &&& 31)) &&& 1 = 0
        · have u' := (bh_is hx (by omega)).mp u
          rw [hb, bh_tb (by omega)] at u'
          refine br1 u (ih (k + 1) _ _ (add1 hx (by omega)) (by omega) (by omega) (Or.inl ⟨rfl, fun j hj => ?_⟩))
          by_cases f : j = k
          · rw [f, u']
            exact fun y => by cases y.1
          · exact c2 j (by omega)
        · have u' : R.testBit k = true := by
            cases z : R.testBit k with
            | true => rfl
            | false => exact absurd ((bh_is hx (by omega)).mpr (by rw [hb, bh_tb (by omega)]; exact z)) u
          refine br0 u (x_dW hn hm hS hR km u' ha hb hx hp hP (fun t h1 => hF t (by omega)) (fun v hv => ⟨vpi e2 (by omega) (by omega), ?_⟩))
          rw [tnN e2]
          by_cases y : v = few (64 * S + R)
          · have y' := eq_z hv ef y
            exact br1 y (ih (k + 1) _ _ (add1 hx (by omega)) (by omega) (by omega) (Or.inr ⟨k, km, hx, ⟨u', y'⟩, c2⟩))
          · have y' := ne_z hv ef y
            refine br0 y (ih (k + 1) _ _ (add1 hx (by omega)) (by omega) (by omega) (Or.inl ⟨rfl, fun j hj => ?_⟩))
            by_cases f : j = k
            · rw [f]; exact fun g => y' g.2
            · exact c2 j (by omega)
      · exact br0 (z_ne k2 m1 (by omega)) (K _ _ (Or.inr ⟨k0, k1, k2, k3⟩))
/-- what is chosen so is the first that is as quick -/
theorem chz_c {pr : Nat → Nat → Int} {n m S R : Nat} {c : Int32} (hS : S < n) (hfin : fwF pr n m (n - S) R < 1000000) (h : (c = -1 ∧ ∀ j, j < m → ¬ (R.testBit j = true ∧ opF pr m S (fun z => fwF pr n m (n - (S + 1)) z) R j = fwF pr n m (n - S) R)) ∨ (∃ k, k < m ∧ c.toInt = (k : Int) ∧ (R.testBit k = true ∧ opF pr m S (fun z => fwF pr n m (n - (S + 1)) z) R k = fwF pr n m (n - S) R) ∧ ∀ j, j < k → ¬ (R.testBit j = true ∧ opF pr m S (fun z => fwF pr n m (n - (S + 1)) z) R j = fwF pr n m (n - S) R))) : ((c = -1 ∧ chz pr n m (n - (S + 1)) R = m) ∨ (c.toInt = ((chz pr n m (n - (S + 1)) R : Nat) : Int) ∧ chz pr n m (n - (S + 1)) R < m)) ∧ fwF pr n m (n - (S + 1)) (rmR m R (chz pr n m (n - (S + 1)) R)) < 1000000 := by
  have en : n - (n - (S + 1) + 1) = S := by omega
  have ev : fwF pr n m (n - S) R = (mnF (opF pr m S (fun z => fwF pr n m (n - (S + 1)) z) R) (m + 1)).1 := by
    rw [show n - S = n - (S + 1) + 1 by omega]
    show (mnF (opF pr m (n - (n - (S + 1) + 1)) (fun z => fwF pr n m (n - (S + 1)) z) R) (m + 1)).1 = _
    rw [en]
  have ec : chz pr n m (n - (S + 1)) R = (mnF (opF pr m S (fun z => fwF pr n m (n - (S + 1)) z) R) (m + 1)).2 := by
    unfold chz
    rw [en]
  obtain ⟨x1, x2, x3⟩ := mnF_ok (opt := opF pr m S (fun z => fwF pr n m (n - (S + 1)) z) R) (m + 1)
  rw [← ev, ← ec] at x3
  rw [← ev] at x1 x2
  obtain ⟨y1, y2, y3⟩ := x3 hfin
  generalize chz pr n m (n - (S + 1)) R = C at *
  have bitC : C < m → R.testBit C = true ∧ fwF pr n m (n - (S + 1)) (R ^^^ 2 ^ C) < 1000000 := fun hC => by
    unfold opF at y2
    rw [if_pos hC] at y2
    by_cases z : R.testBit C = true ∧ pr S C < 1000000 ∧ fwF pr n m (n - (S + 1)) (R ^^^ 2 ^ C) < 1000000
    · exact ⟨z.1, z.2.2⟩
    · rw [if_neg z] at y2
      omega
  constructor
  · rcases h with ⟨h1, h2⟩ | ⟨k, k1, k2, k3, k4⟩
    · refine Or.inl ⟨h1, ?_⟩
      by_cases f : C < m
      · exact absurd ⟨(bitC f).1, y2⟩ (h2 C f)
      · omega
    · refine Or.inr ?_
      have e : C = k := by
        by_cases l : C < k
        · exact absurd ⟨(bitC (by omega)).1, y2⟩ (k4 C l)
        · by_cases l2 : k < C
          · have := y3 k l2
            have := k3.2
            omega
          · omega
      exact ⟨by rw [e]; exact k2, by omega⟩
  · unfold rmR
    by_cases f : C < m
    · rw [if_pos f]; exact (bitC f).2
    · rw [if_neg f]
      have e : C = m := by omega
      unfold opF at y2
      rw [if_neg f] at y2
      have y2' : fwF pr n m (n - (S + 1)) R = fwF pr n m (n - S) R := y2
      omega
theorem rmR_l {m R c : Nat} (hm : m < 7) (hR : R < 2 ^ m) : rmR m R c < 2 ^ m := by
  unfold rmR
  by_cases f : c < m
  · rw [if_pos f]; exact xo_l m hm R hR c f
  · rw [if_neg f]; exact hR
theorem x_r9 {a b : Int32} {price few told : Nat → Int32} {pr : Nat → Nat → Int} {gk : Nat → Int} {n m : Nat} (hn : n ≤ 6) (hm : m < 7) (ha : a.toInt = (n : Int)) (hb : b.toInt = (m : Int)) (hp : PRB pr n m) (hP : PRr price pr n m) (hF : FWr few pr n m 0) (ht : ∀ j, j < m → (told j).toInt = gk j) {X : Nat → Nat} {Qb : Int32 → Int32 → (Nat → Int32) → Prop} (K : ∀ (x r : Int32) (cos : Nat → Int32), (∀ i, i < n → (cos i).toInt = gvF m gk ((X i : Nat) : Int)) → Qb x r cos) : ∀ (q S : Nat) (x r : Int32) (cos : Nat → Int32) (R : Nat), x.toInt = (S : Int) → S ≤ n → n - S < q → R < 2 ^ m → r = nI R → fwF pr n m (n - S) R < 1000000 → (∀ i, i < S → (cos i).toInt = gvF m gk ((X i : Nat) : Int)) → (∀ i, S ≤ i → i < n → X i = gwF pr n m (n - S) R i) → wl_X9_fillRow_9 a b price few told Qb q x r cos := by
  have m1 : (-1 : Int32).toInt = -1 := by decide
  intro q
  induction q with
  | zero => intro S x r cos R _ _ h; omega
  | succ q ih =>
    intro S x r cos R hx hS hq hR hr hfin hc hX
    unfold wl_X9_fillRow_9
    by_cases t : a ≤ x
    · have t' := le_z ha hx t
      exact br1 t (K _ _ _ (fun i hi => hc i (by omega)))
    · have t' := nle_z ha hx t
      have Sn : S < n := by omega
      have pb := p2_6 m hm
      refine br0 t (x_r21 hn hm Sn hR hx hr hb hp hP (fun t h1 => hF t (by omega)) (fun x2 ch hch => ?_) _ 0 _ _ rfl (Nat.zero_le _) (by omega) (Or.inl ⟨rfl, fun j h => absurd h (Nat.not_lt_zero _)⟩))
      obtain ⟨cc, fin2⟩ := chz_c Sn hfin hch
      have xs : X S = chz pr n m (n - (S + 1)) R := by
        rw [hX S (Nat.le_refl _) Sn, show n - S = n - (S + 1) + 1 by omega]
        show (if S = n - (n - (S + 1) + 1) then chz pr n m (n - (S + 1)) R else _) = _
        exact if_pos (by omega)
      have xr : ∀ i, S + 1 ≤ i → i < n → X i = gwF pr n m (n - (S + 1)) (rmR m R (chz pr n m (n - (S + 1)) R)) i := fun i h1 h2 => by
        rw [hX i (by omega) h2, show n - S = n - (S + 1) + 1 by omega]
        show (if i = n - (n - (S + 1) + 1) then chz pr n m (n - (S + 1)) R else gwF pr n m (n - (S + 1)) (rmR m R (chz pr n m (n - (S + 1)) R)) i) = _
        exact if_neg (by omega)
      have v6 : vp_in x 6 := vpi hx (by omega) (by omega)
      have nx : ∀ (y r' : Int32), y.toInt = gvF m gk ((chz pr n m (n - (S + 1)) R : Nat) : Int) → r' = nI (rmR m R (chz pr n m (n - (S + 1)) R)) → wl_X9_fillRow_9 a b price few told Qb q (x + 1) r' (upd cos S y) := fun y r' hy hr' => ih (S + 1) _ _ _ _ (add1 hx (by omega)) (by omega) (by omega) (rmR_l hm hR) hr' fin2 (fun i hi => by
        by_cases e : i = S
        · rw [e, pk_us, xs]; exact hy
        · rw [pk_un e]; exact hc i (by omega)) xr
      refine jn_s ?_
      rcases cc with ⟨c1, c2⟩ | ⟨c1, c2⟩
      · subst c1
        refine br1 rfl ⟨v6, ?_⟩
        rw [tnN hx]
        refine br1 rfl (nx 100 _ (by unfold gvF; rw [if_pos (by omega)]; rfl) ?_)
        unfold rmR
        rw [if_neg (by omega)]
        exact hr
      · have cn : ¬ ch = -1 := z_ne c1 m1 (by omega)
        have ech : ch = nI (chz pr n m (n - (S + 1)) R) := nI_eqk c1 (by omega)
        refine br0 cn ⟨vpi c1 (by omega) (by omega), v6, ?_⟩
        rw [tnN hx, tnN c1]
        refine br0 cn (nx _ _ (by unfold gvF; rw [if_neg (by omega)]; exact ht _ c2) ?_)
        unfold rmR
        rw [if_pos c2, hr, ech]
        exact xo_i R (by omega) _ (by omega)
theorem x_fill {a b : Int32} {price few told cos : Nat → Int32} {pr : Nat → Nat → Int} {gk : Nat → Int} {n m : Nat} (hn : n ≤ 6) (hm : m < 7) (ha : a.toInt = (n : Int)) (hb : b.toInt = (m : Int)) (hp : PRB pr n m) (hP : PRr price pr n m) (hF : FWr few pr n m 0) (ht : ∀ j, j < m → (told j).toInt = gk j) (hfin : fwF pr n m n (2 ^ m - 1) < 1000000) {Q : (Nat → Int32) → Prop} (hq : ∀ cos' : Nat → Int32, (∀ i, i < n → (cos' i).toInt = gvF m gk ((gwF pr n m n (2 ^ m - 1) i : Nat) : Int)) → Q cos') : wp_X9_fillRow a b price few told cos Q := by
  unfold wp_X9_fillRow
  have pb := p2_6 m hm
  have eb : b = nI m := nI_eqk hb (by omega)
  exact x_r9 (X := gwF pr n m n (2 ^ m - 1)) hn hm ha hb hp hP hF ht (fun x r cos' h => hq _ h) _ 0 _ _ _ (2 ^ m - 1) rfl (Nat.zero_le _) (by omega) (by omega) (by rw [eb]; exact al6e m hm) hfin (fun i h => absurd h (Nat.not_lt_zero _)) (fun i _ _ => rfl)
theorem x_s6N {a : Int64} (h6 : cbB (bt a) 40 ≤ 6) {Qb : Int32 → Int32 → (Nat → Int32) → Prop} (K : ∀ (x c : Int32) (g : Nat → Int32), c.toInt = ((cbB (bt a) 40 : Nat) : Int) → TO g → (∀ j, j < cbB (bt a) 40 → (g j).toInt = ((gkA a 40 j : Nat) : Int)) → Qb x c g) : ∀ (q i : Nat) (x c : Int32) (g : Nat → Int32), x.toInt = (i : Int) → i ≤ 40 → 40 - i < q → c.toInt = ((cbB (bt a) i : Nat) : Int) → TO g → (∀ j, j < cbB (bt a) i → (g j).toInt = ((gkA a i j : Nat) : Int)) → wl_X9_share_N_6 a Qb q x c g := by
  intro q
  induction q with
  | zero => intro i x c g _ _ h; omega
  | succ q ih =>
    intro i x c g hx hi hq hc hg hk
    unfold wl_X9_share_N_6
    by_cases t : 40 ≤ x
    · have t' := le_z (x := 40) rfl hx t
      have e : i = 40 := by omega
      rw [e] at hc hk
      exact br1 t (K _ _ _ hc hg hk)
    · have t' := nle_z (x := 40) rfl hx t
      have l0 := cbB_le2 (p := bt a) (i := i) (j := 40) (by omega)
      refine br0 t ?_
      by_cases u : 6 ≤ c
      · have u' := le_z (x := 6) rfl hc u
        have e : cbB (bt a) 40 = cbB (bt a) i := by omega
        have gh := gkA_h (a := a) (i := i) (40 - i) (by rw [show i + (40 - i) = 40 by omega]; exact e)
        rw [show i + (40 - i) = 40 by omega] at gh
        refine br1 u (K _ _ _ (by rw [e]; exact hc) hg (fun j hj => ?_))
        rw [gh j]
        exact hk j (by omega)
      · have u' := nle_z (x := 6) rfl hc u
        refine br0 u ?_
        by_cases y : lg_cmp ((a >>> (x.toInt64 &&& 63)) &&& 1) 0 = 0
        · have y' := (cmp_bt hx (by omega)).mp y
          have b : ¬ bt a i = true := by rw [y']; decide
          have e0 := cbB_0 (p := bt a) b
          refine br1 y (ih (i + 1) _ _ _ (add1 hx (by omega)) (by omega) (by omega) (by rw [e0]; exact hc) hg (fun j hj => ?_))
          rw [gkA_3 b]
          exact hk j (by omega)
        · have b : bt a i = true := by
            cases z : bt a i with
            | true => rfl
            | false => exact absurd ((cmp_bt hx (by omega)).mpr z) y
          have e1 := cbB_1 (p := bt a) b
          refine br0 y ⟨vpi hc (by omega) (by omega), ?_⟩
          rw [tnN hc]
          refine ih (i + 1) _ _ _ (add1 hx (by omega)) (by omega) (by omega) ?_ (TO.up_0 hg (n := cbB (bt a) i) (z := ((cbB (bt a) i : Nat) : Int)) rfl (by omega) (by omega) hx (by omega) (by omega)) (fun j hj => ?_)
          · rw [add_z hc (y := 1) rfl (by omega) (by omega)]
            omega
          · by_cases e : j = cbB (bt a) i
            · rw [e, pk_us, gkA_1 b]; exact hx
            · rw [pk_un e, gkA_2 (by omega)]
              exact hk j (by omega)
theorem x_s77N {cc cnt : Int32} {pr : Nat → Nat → Int} {n m : Nat} (hn : n ≤ 6) (hm : m < 7) (hcc : cc.toInt = (n : Int)) (hc : cnt.toInt = (m : Int)) {Qb : Int32 → (Nat → Int32) → Prop} (K : ∀ (x : Int32) (few : Nat → Int32), FW few → (∀ R, R < 2 ^ m → (few (64 * n + R)).toInt = fwF pr n m 0 R) → Qb x few) : ∀ (q i : Nat) (x : Int32) (few : Nat → Int32), x.toInt = (i : Int) → i ≤ 2 ^ m → 2 ^ m - i < q → FW few → (∀ R, R < i → (few (64 * n + R)).toInt = fwF pr n m 0 R) → wl_X9_share_N_77 cc cnt Qb q x few := by
  have pb := p2_6 m hm
  have ec : cnt = nI m := nI_eqk hc (by omega)
  have sh := al6 m hm
  rw [← ec] at sh
  intro q
  induction q with
  | zero => intro i x few _ _ h; omega
  | succ q ih =>
    intro i x few hx hi hq hf hg
    unfold wl_X9_share_N_77
    by_cases t : ((1 : Int32) <<< (cnt &&& 31)) - 1 < x
    · have t' := lt_z sh hx t
      exact br1 t (K _ _ hf (fun R hR => hg R (by omega)))
    · have t' := nlt_z sh hx t
      have e : (cc * 64 + x).toInt = ((64 * n + i : Nat) : Int) := by
        rw [add_z (mul_z hcc (y := 64) rfl (by omega) (by omega)) hx (by omega) (by omega)]
        omega
      have v : vp_in (cc * 64 + x) 448 := vpi e (by omega) (by omega)
      have nx : ∀ y : Int32, y.toInt = fwF pr n m 0 i → (0 ≤ y.toInt ∧ y.toInt ≤ 1000000) → wl_X9_share_N_77 cc cnt Qb q (x + 1) (upd few (cc * 64 + x).toNatClampNeg y) := fun y hy hb => by
        rw [tnN e]
        refine ih (i + 1) _ _ (add1 hx (by omega)) (by omega) (by omega) (FW.up_0 hf (n := 64 * n + i) (z := ((64 * n + i : Nat) : Int)) rfl (by omega) (by omega) (w := y.toInt) rfl hb.1 hb.2) (fun R hR => ?_)
        by_cases f : R = i
        · rw [f, pk_us]; exact hy
        · rw [pk_un (by omega)]; exact hg R (by omega)
      have m6 : (1000000 : Int32).toInt = 1000000 := by decide
      refine br0 t ?_
      by_cases z : x = 0
      · have z' := eq_z (y := 0) hx rfl z
        exact br1 z ⟨v, nx 0 (by show (0 : Int) = (if i = 0 then (0 : Int) else 1000000); rw [if_pos (by omega)]) (by decide)⟩
      · have z' := ne_z (y := 0) hx rfl z
        exact br0 z ⟨v, nx 1000000 (by rw [m6]; show (1000000 : Int) = (if i = 0 then (0 : Int) else 1000000); rw [if_neg (by omega)]) (by decide)⟩
theorem x_s128N {cnt s : Int32} {price : Nat → Int32} {pr : Nat → Nat → Int} {n m S : Nat} (hn : n ≤ 6) (hm : m < 7) (hS : S < n) (hs : s.toInt = (S : Int)) (hc : cnt.toInt = (m : Int)) (hp : PRB pr n m) (hP : PRr price pr n m) {Qb : Int32 → (Nat → Int32) → Prop} (K : ∀ (x : Int32) (few : Nat → Int32), FW few → FWr few pr n m S → Qb x few) : ∀ (q i : Nat) (x : Int32) (few : Nat → Int32), x.toInt = (i : Int) → i ≤ 2 ^ m → 2 ^ m - i < q → FW few → FWr few pr n m (S + 1) → (∀ R, R < i → (few (64 * S + R)).toInt = fwF pr n m (n - S) R) → wl_X9_share_N_128 cnt price s Qb q x few := by
  have pb := p2_6 m hm
  have ec : cnt = nI m := nI_eqk hc (by omega)
  have sh := al6 m hm
  rw [← ec] at sh
  intro q
  induction q with
  | zero => intro i x few _ _ h; omega
  | succ q ih =>
    intro i x few hx hi hq hf hF hg
    unfold wl_X9_share_N_128
    by_cases t : ((1 : Int32) <<< (cnt &&& 31)) - 1 < x
    · have t' := lt_z sh hx t
      refine br1 t (K _ _ hf (fun u h1 h2 R hR => ?_))
      by_cases f : u = S
      · rw [f]; exact hg R (by omega)
      · exact hF u (by omega) h2 R hR
    · have t' := nlt_z sh hx t
      have e : (s * 64 + x).toInt = ((64 * S + i : Nat) : Int) := by
        rw [add_z (mul_z hs (y := 64) rfl (by omega) (by omega)) hx (by omega) (by omega)]
        omega
      refine br0 t (x_fFrom hn hm hS (by omega) hs (nI_eqk hx (by omega)) hc hp hP hF (fun r hr => ⟨vpi e (by omega) (by omega), ?_⟩))
      rw [tnN e]
      have fb := fw_b hp (n - S) (by omega) i
      refine ih (i + 1) _ _ (add1 hx (by omega)) (by omega) (by omega) (FW.up_0 hf (n := 64 * S + i) (z := ((64 * S + i : Nat) : Int)) rfl (by omega) (by omega) hr fb.1 fb.2.1) (fun u h1 h2 R hR => ?_) (fun R hR => ?_)
      · rw [pk_un (by omega)]
        exact hF u h1 h2 R hR
      · by_cases f : R = i
        · rw [f, pk_us]; exact hr
        · rw [pk_un (by omega)]; exact hg R (by omega)
theorem x_s120N {cnt : Int32} {price : Nat → Int32} {pr : Nat → Nat → Int} {n m : Nat} (hn : n ≤ 6) (hm : m < 7) (hc : cnt.toInt = (m : Int)) (hp : PRB pr n m) (hP : PRr price pr n m) {Qb : Int32 → (Nat → Int32) → Prop} (K : ∀ (x : Int32) (few : Nat → Int32), FW few → FWr few pr n m 0 → Qb x few) : ∀ (q i : Nat) (x : Int32) (few : Nat → Int32), x.toInt = (i : Int) - 1 → i ≤ n → i < q → FW few → FWr few pr n m i → wl_X9_share_N_120 cnt price Qb q x few := by
  intro q
  induction q with
  | zero => intro i x few _ _ h; omega
  | succ q ih =>
    intro i x few hx hi hq hf hF
    unfold wl_X9_share_N_120
    by_cases t : x < 0
    · have t' := lt_z (y := 0) hx rfl t
      refine br1 t (K _ _ hf ?_)
      rw [show (0 : Nat) = i by omega]
      exact hF
    · have t' := nlt_z (y := 0) hx rfl t
      obtain ⟨S, hS⟩ : ∃ S, i = S + 1 := ⟨i - 1, by omega⟩
      subst hS
      have hx : x.toInt = (S : Int) := by omega
      have p26 := p2_6 m hm
      exact br0 t (x_s128N hn hm (by omega) hx hc hp hP (fun x2 few2 hf2 hF2 => ih S _ _ (by rw [add_z hx (y := -1) (by decide) (by omega) (by omega)]; omega) (by omega) (by omega) hf2 hF2) _ 0 _ _ rfl (Nat.zero_le _) (by omega) hf hF (fun R h => absurd h (Nat.not_lt_zero _)))
theorem x_s6T {a : Int64} (h6 : cbB (bt a) 40 ≤ 6) {Qb : Int32 → Int32 → (Nat → Int32) → Prop} (K : ∀ (x c : Int32) (g : Nat → Int32), c.toInt = ((cbB (bt a) 40 : Nat) : Int) → TO g → (∀ j, j < cbB (bt a) 40 → (g j).toInt = ((gkA a 40 j : Nat) : Int)) → Qb x c g) : ∀ (q i : Nat) (x c : Int32) (g : Nat → Int32), x.toInt = (i : Int) → i ≤ 40 → 40 - i < q → c.toInt = ((cbB (bt a) i : Nat) : Int) → TO g → (∀ j, j < cbB (bt a) i → (g j).toInt = ((gkA a i j : Nat) : Int)) → wl_X9_share_T_6 a Qb q x c g := by
  intro q
  induction q with
  | zero => intro i x c g _ _ h; omega
  | succ q ih =>
    intro i x c g hx hi hq hc hg hk
    unfold wl_X9_share_T_6
    by_cases t : 40 ≤ x
    · have t' := le_z (x := 40) rfl hx t
      have e : i = 40 := by omega
      rw [e] at hc hk
      exact br1 t (K _ _ _ hc hg hk)
    · have t' := nle_z (x := 40) rfl hx t
      have l0 := cbB_le2 (p := bt a) (i := i) (j := 40) (by omega)
      refine br0 t ?_
      by_cases u : 6 ≤ c
      · have u' := le_z (x := 6) rfl hc u
        have e : cbB (bt a) 40 = cbB (bt a) i := by omega
        have gh := gkA_h (a := a) (i := i) (40 - i) (by rw [show i + (40 - i) = 40 by omega]; exact e)
        rw [show i + (40 - i) = 40 by omega] at gh
        refine br1 u (K _ _ _ (by rw [e]; exact hc) hg (fun j hj => ?_))
        rw [gh j]
        exact hk j (by omega)
      · have u' := nle_z (x := 6) rfl hc u
        refine br0 u ?_
        by_cases y : lg_cmp ((a >>> (x.toInt64 &&& 63)) &&& 1) 0 = 0
        · have y' := (cmp_bt hx (by omega)).mp y
          have b : ¬ bt a i = true := by rw [y']; decide
          have e0 := cbB_0 (p := bt a) b
          refine br1 y (ih (i + 1) _ _ _ (add1 hx (by omega)) (by omega) (by omega) (by rw [e0]; exact hc) hg (fun j hj => ?_))
          rw [gkA_3 b]
          exact hk j (by omega)
        · have b : bt a i = true := by
            cases z : bt a i with
            | true => rfl
            | false => exact absurd ((cmp_bt hx (by omega)).mpr z) y
          have e1 := cbB_1 (p := bt a) b
          refine br0 y ⟨vpi hc (by omega) (by omega), ?_⟩
          rw [tnN hc]
          refine ih (i + 1) _ _ _ (add1 hx (by omega)) (by omega) (by omega) ?_ (TO.up_0 hg (n := cbB (bt a) i) (z := ((cbB (bt a) i : Nat) : Int)) rfl (by omega) (by omega) hx (by omega) (by omega)) (fun j hj => ?_)
          · rw [add_z hc (y := 1) rfl (by omega) (by omega)]
            omega
          · by_cases e : j = cbB (bt a) i
            · rw [e, pk_us, gkA_1 b]; exact hx
            · rw [pk_un e, gkA_2 (by omega)]
              exact hk j (by omega)
theorem x_s77T {cc cnt : Int32} {pr : Nat → Nat → Int} {n m : Nat} (hn : n ≤ 6) (hm : m < 7) (hcc : cc.toInt = (n : Int)) (hc : cnt.toInt = (m : Int)) {Qb : Int32 → (Nat → Int32) → Prop} (K : ∀ (x : Int32) (few : Nat → Int32), FW few → (∀ R, R < 2 ^ m → (few (64 * n + R)).toInt = fwF pr n m 0 R) → Qb x few) : ∀ (q i : Nat) (x : Int32) (few : Nat → Int32), x.toInt = (i : Int) → i ≤ 2 ^ m → 2 ^ m - i < q → FW few → (∀ R, R < i → (few (64 * n + R)).toInt = fwF pr n m 0 R) → wl_X9_share_T_77 cc cnt Qb q x few := by
  have pb := p2_6 m hm
  have ec : cnt = nI m := nI_eqk hc (by omega)
  have sh := al6 m hm
  rw [← ec] at sh
  intro q
  induction q with
  | zero => intro i x few _ _ h; omega
  | succ q ih =>
    intro i x few hx hi hq hf hg
    unfold wl_X9_share_T_77
    by_cases t : ((1 : Int32) <<< (cnt &&& 31)) - 1 < x
    · have t' := lt_z sh hx t
      exact br1 t (K _ _ hf (fun R hR => hg R (by omega)))
    · have t' := nlt_z sh hx t
      have e : (cc * 64 + x).toInt = ((64 * n + i : Nat) : Int) := by
        rw [add_z (mul_z hcc (y := 64) rfl (by omega) (by omega)) hx (by omega) (by omega)]
        omega
      have v : vp_in (cc * 64 + x) 448 := vpi e (by omega) (by omega)
      have nx : ∀ y : Int32, y.toInt = fwF pr n m 0 i → (0 ≤ y.toInt ∧ y.toInt ≤ 1000000) → wl_X9_share_T_77 cc cnt Qb q (x + 1) (upd few (cc * 64 + x).toNatClampNeg y) := fun y hy hb => by
        rw [tnN e]
        refine ih (i + 1) _ _ (add1 hx (by omega)) (by omega) (by omega) (FW.up_0 hf (n := 64 * n + i) (z := ((64 * n + i : Nat) : Int)) rfl (by omega) (by omega) (w := y.toInt) rfl hb.1 hb.2) (fun R hR => ?_)
        by_cases f : R = i
        · rw [f, pk_us]; exact hy
        · rw [pk_un (by omega)]; exact hg R (by omega)
      have m6 : (1000000 : Int32).toInt = 1000000 := by decide
      refine br0 t ?_
      by_cases z : x = 0
      · have z' := eq_z (y := 0) hx rfl z
        exact br1 z ⟨v, nx 0 (by show (0 : Int) = (if i = 0 then (0 : Int) else 1000000); rw [if_pos (by omega)]) (by decide)⟩
      · have z' := ne_z (y := 0) hx rfl z
        exact br0 z ⟨v, nx 1000000 (by rw [m6]; show (1000000 : Int) = (if i = 0 then (0 : Int) else 1000000); rw [if_neg (by omega)]) (by decide)⟩
theorem x_s128T {cnt s : Int32} {price : Nat → Int32} {pr : Nat → Nat → Int} {n m S : Nat} (hn : n ≤ 6) (hm : m < 7) (hS : S < n) (hs : s.toInt = (S : Int)) (hc : cnt.toInt = (m : Int)) (hp : PRB pr n m) (hP : PRr price pr n m) {Qb : Int32 → (Nat → Int32) → Prop} (K : ∀ (x : Int32) (few : Nat → Int32), FW few → FWr few pr n m S → Qb x few) : ∀ (q i : Nat) (x : Int32) (few : Nat → Int32), x.toInt = (i : Int) → i ≤ 2 ^ m → 2 ^ m - i < q → FW few → FWr few pr n m (S + 1) → (∀ R, R < i → (few (64 * S + R)).toInt = fwF pr n m (n - S) R) → wl_X9_share_T_128 cnt price s Qb q x few := by
  have pb := p2_6 m hm
  have ec : cnt = nI m := nI_eqk hc (by omega)
  have sh := al6 m hm
  rw [← ec] at sh
  intro q
  induction q with
  | zero => intro i x few _ _ h; omega
  | succ q ih =>
    intro i x few hx hi hq hf hF hg
    unfold wl_X9_share_T_128
    by_cases t : ((1 : Int32) <<< (cnt &&& 31)) - 1 < x
    · have t' := lt_z sh hx t
      refine br1 t (K _ _ hf (fun u h1 h2 R hR => ?_))
      by_cases f : u = S
      · rw [f]; exact hg R (by omega)
      · exact hF u (by omega) h2 R hR
    · have t' := nlt_z sh hx t
      have e : (s * 64 + x).toInt = ((64 * S + i : Nat) : Int) := by
        rw [add_z (mul_z hs (y := 64) rfl (by omega) (by omega)) hx (by omega) (by omega)]
        omega
      refine br0 t (x_fFrom hn hm hS (by omega) hs (nI_eqk hx (by omega)) hc hp hP hF (fun r hr => ⟨vpi e (by omega) (by omega), ?_⟩))
      rw [tnN e]
      have fb := fw_b hp (n - S) (by omega) i
      refine ih (i + 1) _ _ (add1 hx (by omega)) (by omega) (by omega) (FW.up_0 hf (n := 64 * S + i) (z := ((64 * S + i : Nat) : Int)) rfl (by omega) (by omega) hr fb.1 fb.2.1) (fun u h1 h2 R hR => ?_) (fun R hR => ?_)
      · rw [pk_un (by omega)]
        exact hF u h1 h2 R hR
      · by_cases f : R = i
        · rw [f, pk_us]; exact hr
        · rw [pk_un (by omega)]; exact hg R (by omega)
theorem x_s120T {cnt : Int32} {price : Nat → Int32} {pr : Nat → Nat → Int} {n m : Nat} (hn : n ≤ 6) (hm : m < 7) (hc : cnt.toInt = (m : Int)) (hp : PRB pr n m) (hP : PRr price pr n m) {Qb : Int32 → (Nat → Int32) → Prop} (K : ∀ (x : Int32) (few : Nat → Int32), FW few → FWr few pr n m 0 → Qb x few) : ∀ (q i : Nat) (x : Int32) (few : Nat → Int32), x.toInt = (i : Int) - 1 → i ≤ n → i < q → FW few → FWr few pr n m i → wl_X9_share_T_120 cnt price Qb q x few := by
  intro q
  induction q with
  | zero => intro i x few _ _ h; omega
  | succ q ih =>
    intro i x few hx hi hq hf hF
    unfold wl_X9_share_T_120
    by_cases t : x < 0
    · have t' := lt_z (y := 0) hx rfl t
      refine br1 t (K _ _ hf ?_)
      rw [show (0 : Nat) = i by omega]
      exact hF
    · have t' := nlt_z (y := 0) hx rfl t
      obtain ⟨S, hS⟩ : ∃ S, i = S + 1 := ⟨i - 1, by omega⟩
      subst hS
      have hx : x.toInt = (S : Int) := by omega
      have p26 := p2_6 m hm
      exact br0 t (x_s128T hn hm (by omega) hx hc hp hP (fun x2 few2 hf2 hF2 => ih S _ _ (by rw [add_z hx (y := -1) (by decide) (by omega) (by omega)]; omega) (by omega) (by omega) hf2 hF2) _ 0 _ _ rfl (Nat.zero_le _) (by omega) hf hF (fun R h => absurd h (Nat.not_lt_zero _)))
