/-! in time: the chance, day by day, as both sides reckon it -/
def chF (l m : Int64) (g : Nat) : Nat → Nat → Int64
  | 0, k => if k = 0 then 1000000000000 else 0
  | n + 1, k => if k = 0 then (if 0 < g then chF l m g n 0 * l / 10 else chF l m g n 0) else if k < g then chF l m g n k * l / 10 + chF l m g n (k - 1) * m / 10 else if k = g then chF l m g n k + chF l m g n (k - 1) * m / 10 else chF l m g n k
theorem z0ml {l : Int64} : (0 : Int64) * l / 10 = 0 := by
  have z : (0 : Int64).toInt = 0 := rfl
  have e : (0 : Int64) * l = 0 := Int64.toInt_inj.mp ((lmul_z (y := l.toInt) z rfl (by rw [Int.zero_mul]; decide) (by rw [Int.zero_mul]; decide)).trans (Int.zero_mul _))
  rw [e]
  decide
theorem add_00 : (0 : Int64) + 0 = 0 := by decide
theorem chF_0 {l m : Int64} {g : Nat} : ∀ n k, n < k → chF l m g n k = 0 := by
  intro n
  induction n with
  | zero =>
    intro k h
    show (if k = 0 then (1000000000000 : Int64) else 0) = 0
    exact if_neg (by omega)
  | succ n ih =>
    intro k h
    have a := ih k (by omega)
    have b := ih (k - 1) (by omega)
    show (if k = 0 then (if 0 < g then chF l m g n 0 * l / 10 else chF l m g n 0) else if k < g then chF l m g n k * l / 10 + chF l m g n (k - 1) * m / 10 else if k = g then chF l m g n k + chF l m g n (k - 1) * m / 10 else chF l m g n k) = 0
    rw [if_neg (by omega), a, b, z0ml, z0ml, add_00]
    split
    · rfl
    · split
      · rfl
      · rfl
/-- scaled, nothing added yet -/
def chS (l m : Int64) (g n j : Nat) : Int64 := if j < g then chF l m g n j * l / 10 else chF l m g n j
theorem chF_z {l m : Int64} {g n : Nat} : chF l m g (n + 1) 0 = chS l m g n 0 := if_pos rfl
theorem chF_s {l m : Int64} {g n k : Nat} (h : k < g) : chF l m g (n + 1) (k + 1) = chS l m g n (k + 1) + chF l m g n k * m / 10 := by
  show (if k + 1 = 0 then (if 0 < g then chF l m g n 0 * l / 10 else chF l m g n 0) else if k + 1 < g then chF l m g n (k + 1) * l / 10 + chF l m g n (k + 1 - 1) * m / 10 else if k + 1 = g then chF l m g n (k + 1) + chF l m g n (k + 1 - 1) * m / 10 else chF l m g n (k + 1)) = (if k + 1 < g then chF l m g n (k + 1) * l / 10 else chF l m g n (k + 1)) + chF l m g n k * m / 10
  rw [if_neg (by omega)]
  by_cases c : k + 1 < g
  · rw [if_pos c, if_pos c]; rfl
  · rw [if_neg c, if_neg c, if_pos (by omega)]; rfl
theorem chF_h {l m : Int64} {g n k : Nat} (h : g < k) : chF l m g (n + 1) k = chF l m g n k := by
  show (if k = 0 then (if 0 < g then chF l m g n 0 * l / 10 else chF l m g n 0) else if k < g then chF l m g n k * l / 10 + chF l m g n (k - 1) * m / 10 else if k = g then chF l m g n k + chF l m g n (k - 1) * m / 10 else chF l m g n k) = _
  rw [if_neg (by omega), if_neg (by omega), if_neg (by omega)]
theorem chS_0 {l m : Int64} {g n j : Nat} (h : n < j) : chS l m g n j = chF l m g n j := by
  unfold chS
  rw [chF_0 n j h, z0ml]
  split
  · rfl
  · rfl
/-- within a day: below t as before, t scaled, above t as behind -/
def chI (l m : Int64) (g n t : Nat) (f : Nat → Int64) : Prop := ∀ j, j < 201 → (j < t → f j = chF l m g n j) ∧ (j = t → f j = chS l m g n j) ∧ (t < j → f j = chF l m g (n + 1) j)
theorem chI.st {l m : Int64} {g n t : Nat} {f : Nat → Int64} (h : ∀ j, j < 201 → f j = chF l m g n j) (ht : t = g ∨ (t = n + 1 ∧ t < g)) : chI l m g n t f := by
  intro j hj
  have e := h j hj
  refine ⟨fun _ => e, fun q => ?_, fun q => ?_⟩
  · rw [e]
    rcases ht with k | k
    · unfold chS
      rw [if_neg (by omega)]
    · exact (chS_0 (by omega)).symm
  · rw [e]
    rcases ht with k | k
    · exact (chF_h (by omega)).symm
    · rw [chF_0 n j (by omega)]
      by_cases c : g < j
      · rw [chF_h c, chF_0 n j (by omega)]
      · obtain ⟨i, hi⟩ : ∃ i, j = i + 1 := ⟨j - 1, by omega⟩
        subst hi
        rw [chF_s (by omega), chS_0 (by omega), chF_0 n (i + 1) (by omega), chF_0 n i (by omega), z0ml, add_00]
theorem chI.fin {l m : Int64} {g n : Nat} {f : Nat → Int64} (h : chI l m g n 0 f) : ∀ j, j < 201 → f j = chF l m g (n + 1) j := by
  intro j hj
  by_cases c : j = 0
  · have q := (h j hj).2.1 c
    rw [q, c]
    exact chF_z.symm
  · exact (h j hj).2.2 (by omega)
theorem chI.up {l m : Int64} {g n k : Nat} {f f' : Nat → Int64} (h : chI l m g n (k + 1) f) (hk : k < g) (hg : g ≤ 200) (h1 : f' (k + 1) = f (k + 1) + f k * m / 10) (h0 : f' k = f k * l / 10) (hn : ∀ j, ¬ j = k → ¬ j = k + 1 → f' j = f j) : chI l m g n k f' := by
  have a := (h (k + 1) (by omega)).2.1 rfl
  have b := (h k (by omega)).1 (by omega)
  intro j hj
  refine ⟨fun q => ?_, fun q => ?_, fun q => ?_⟩
  · rw [hn j (by omega) (by omega)]
    exact (h j hj).1 (by omega)
  · rw [q, h0, b]
    unfold chS
    rw [if_pos hk]
  · by_cases c : j = k + 1
    · rw [c, h1, a, b]
      exact (chF_s hk).symm
    · rw [hn j (by omega) c]
      exact (h j hj).2.2 (by omega)
theorem x_ch55 {b : Int32} {l m : Int64} (hl : b.toInt64 = l) (hm : (10 - b).toInt64 = m) {g n : Nat} (hg : g ≤ 200) {Qb : Int32 → (Nat → Int64) → Prop} (K : ∀ (x : Int32) (f : Nat → Int64), (∀ j, j < 201 → f j = chF l m g (n + 1) j) → Qb x f) : ∀ (q t : Nat) (x : Int32) (f : Nat → Int64), x.toInt = (t : Int) - 1 → t ≤ g → t < q → chI l m g n t f → wl_X9_chanceIn_55 b Qb q x f := by
  intro q
  induction q with
  | zero => intro t x f _ _ h; omega
  | succ q ih =>
    intro t x f hx ht hq hI
    unfold wl_X9_chanceIn_55
    by_cases c : x < 0
    · have c' := lt_z (y := 0) hx rfl c
      refine br1 c (K _ _ ?_)
      rw [show t = 0 by omega] at hI
      exact hI.fin
    · have c' := nlt_z (y := 0) hx rfl c
      obtain ⟨k, hk⟩ : ∃ k, t = k + 1 := ⟨t - 1, by omega⟩
      subst hk
      have hx : x.toInt = (k : Int) := by omega
      have x1 : (x + 1).toInt = ((k + 1 : Nat) : Int) := add1 hx (by omega)
      have v0 : vp_in x 201 := vpi hx (by omega) (by omega)
      have v1 : vp_in (x + 1) 201 := vpi x1 (by omega) (by omega)
      refine br0 c ⟨v1, v0, v1, v0, v0, ?_⟩
      rw [tnN hx, tnN x1, hl, hm]
      refine ih k _ _ (by rw [add_z hx (y := -1) (by decide) (by omega) (by omega)]; omega) (by omega) (by omega) (hI.up (by omega) hg ?_ ?_ (fun j h0 h1 => ?_))
      · rw [pk_uLn (by omega), pk_uLs]
      · rw [pk_uLs, pk_uLn (by omega)]
      · rw [pk_uLn h0, pk_uLn h1]
theorem x_ch38 {a b days : Int32} {l m : Int64} (hl : b.toInt64 = l) (hm : (10 - b).toInt64 = m) {g N : Nat} (hd : days.toInt = (g : Int)) (ha : a.toInt = (N : Int)) (hg : g ≤ 200) (hN : N ≤ 200) {Qb : Int32 → (Nat → Int64) → Prop} (K : ∀ (x : Int32) (f : Nat → Int64), (∀ j, j < 201 → f j = chF l m g N j) → Qb x f) : ∀ (q n : Nat) (x : Int32) (f : Nat → Int64), x.toInt = (n : Int) → n ≤ N → N - n < q → (∀ j, j < 201 → f j = chF l m g n j) → wl_X9_chanceIn_38 a b days Qb q x f := by
  intro q
  induction q with
  | zero => intro n x f _ _ h; omega
  | succ q ih =>
    intro n x f hx hn hq hf
    unfold wl_X9_chanceIn_38
    have d1 : (days - 1).toInt = (g : Int) - 1 := sub_z hd rfl (by omega) (by omega)
    by_cases c : a ≤ x
    · have c' := le_z ha hx c
      refine br1 c (K _ _ ?_)
      rw [show N = n by omega]
      exact hf
    · have c' := nle_z ha hx c
      refine br0 c ?_
      have go : ∀ (t : Nat) (y : Int32), y.toInt = (t : Int) - 1 → (t = g ∨ (t = n + 1 ∧ t < g)) → wl_X9_chanceIn_55 b (fun (_ : Int32) (f : Nat → Int64) => wl_X9_chanceIn_38 a b days Qb q (x + 1) f) 1000000000000 y f := fun t y hy ht => x_ch55 hl hm hg (fun _ f' h => ih (n + 1) _ _ (add1 hx (by omega)) (by omega) (by omega) h) _ t _ _ hy (by omega) (by omega) (chI.st hf ht)
      by_cases e : x < days - 1
      · have e' := lt_z hx d1 e
        rw [if_pos e]
        exact go (n + 1) _ (by omega) (Or.inr ⟨rfl, by omega⟩)
      · rw [if_neg e]
        exact go g _ d1 (Or.inl rfl)
theorem x_chance {a b days : Int32} {chance : Nat → Int64} {N : Nat} (ha : a.toInt = (N : Int)) (hN : N ≤ 200) (hd0 : 0 ≤ days.toInt) {Q : Int64 → (Nat → Int64) → Prop} (hq : ∀ (r : Int64) (f : Nat → Int64), r = (if (N : Int) < days.toInt then 0 else chF b.toInt64 (10 - b).toInt64 days.toInt.toNat N days.toInt.toNat) → Q r f) : wp_X9_chanceIn a b days chance Q := by
  unfold wp_X9_chanceIn
  by_cases c : a < days
  · have c' := lt_z ha rfl c
    exact br1 c (hq _ _ (by rw [if_pos c']))
  · have c' := nlt_z ha rfl c
    refine br0 c ?_
    have hd : days.toInt = ((days.toInt.toNat : Nat) : Int) := by omega
    by_cases e : a < 201
    · refine br1 e (s_fillLF (by decide) (fun f hf => ⟨vpi (x := 0) rfl (by decide) (by decide), ?_⟩))
      refine x_ch38 rfl rfl hd ha (by omega) hN (fun x f' h => ⟨vpi hd (by omega) (by omega), ?_⟩) _ 0 _ _ rfl (by omega) (by omega) (fun j hj => ?_)
      · show vp_updL f 0 1000000000000 j = (if j = 0 then (1000000000000 : Int64) else 0)
        by_cases z : j = 0
        · rw [z, pk_uLs, if_pos rfl]
        · rw [pk_uLn z, if_neg z]
          exact hf j hj
      · rw [tnN hd]
        refine hq _ _ ?_
        rw [if_neg (by omega)]
        exact h _ (by omega)
    · have e' := nlt_z (y := 201) ha rfl e
      omega
/-! the reference -/
theorem x_t77 {Qb : Int32 → (Nat → Int64) → Prop} (K : ∀ (x : Int32) (f : Nat → Int64), (∀ j, j < 202 → f j = 0) → Qb x f) : ∀ (q n : Nat) (x : Int32) (f : Nat → Int64), x.toInt = (n : Int) → n ≤ 202 → 202 - n < q → (∀ j, j < n → f j = 0) → wl_X12_time_77 Qb q x f := by
  intro q
  induction q with
  | zero => intro n x f _ _ h; omega
  | succ q ih =>
    intro n x f hx hn hq hf
    unfold wl_X12_time_77
    by_cases c : 202 ≤ x
    · have c' := le_z (x := 202) rfl hx c
      exact br1 c (K _ _ (fun j hj => hf j (by omega)))
    · have c' := nle_z (x := 202) rfl hx c
      refine br0 c ⟨vpi hx (by omega) (by omega), ?_⟩
      rw [tnN hx]
      refine ih (n + 1) _ _ (add1 hx (by omega)) (by omega) (by omega) (fun j hj => ?_)
      by_cases e : j = n
      · rw [e, pk_uLs]
      · rw [pk_uLn e]
        exact hf j (by omega)
theorem x_t132 {row : Nat → Int32} {l m : Int64} (hl : (row 8).toInt64 = l) (hm : (10 - row 8).toInt64 = m) {g n : Nat} (hg : g ≤ 200) {Qb : Int32 → (Nat → Int64) → Prop} (K : ∀ (x : Int32) (f : Nat → Int64), (∀ j, j < 201 → f j = chF l m g (n + 1) j) → Qb x f) : ∀ (q t : Nat) (x : Int32) (f : Nat → Int64), x.toInt = (t : Int) - 1 → t ≤ g → t < q → chI l m g n t f → wl_X12_time_132 row Qb q x f := by
  intro q
  induction q with
  | zero => intro t x f _ _ h; omega
  | succ q ih =>
    intro t x f hx ht hq hI
    unfold wl_X12_time_132
    by_cases c : x < 0
    · have c' := lt_z (y := 0) hx rfl c
      refine br1 c (K _ _ ?_)
      rw [show t = 0 by omega] at hI
      exact hI.fin
    · have c' := nlt_z (y := 0) hx rfl c
      obtain ⟨k, hk⟩ : ∃ k, t = k + 1 := ⟨t - 1, by omega⟩
      subst hk
      have hx : x.toInt = (k : Int) := by omega
      have x1 : (x + 1).toInt = ((k + 1 : Nat) : Int) := add1 hx (by omega)
      have v0 : vp_in x 202 := vpi hx (by omega) (by omega)
      have v1 : vp_in (x + 1) 202 := vpi x1 (by omega) (by omega)
      have r8 : row (8 : Int32).toNatClampNeg = row 8 := rfl
      refine br0 c ⟨v0, v0, v1, v1, ?_⟩
      rw [tnN hx, tnN x1, r8, hl, hm]
      refine ih k _ _ (by rw [add_z hx (y := -1) (by decide) (by omega) (by omega)]; omega) (by omega) (by omega) (hI.up (by omega) hg ?_ ?_ (fun j h0 h1 => ?_))
      · rw [pk_uLs, pk_uLn (by omega)]
      · rw [pk_uLn (by omega), pk_uLs]
      · rw [pk_uLn h1, pk_uLn h0]
theorem x_t120 {d r : Int32} {row : Nat → Int32} {l m : Int64} (hl : (row 8).toInt64 = l) (hm : (10 - row 8).toInt64 = m) {g N : Nat} (hr : r.toInt = (g : Int)) (hd : d.toInt = (N : Int)) (hg : g ≤ 200) (hN : N ≤ 200) {Qb : Int32 → (Nat → Int64) → Prop} (K : ∀ (x : Int32) (f : Nat → Int64), (∀ j, j < 201 → f j = chF l m g N j) → Qb x f) : ∀ (q n : Nat) (x : Int32) (f : Nat → Int64), x.toInt = (n : Int) → n ≤ N → N - n < q → (∀ j, j < 201 → f j = chF l m g n j) → wl_X12_time_120 d row r Qb q x f := by
  intro q
  induction q with
  | zero => intro n x f _ _ h; omega
  | succ q ih =>
    intro n x f hx hn hq hf
    unfold wl_X12_time_120
    by_cases c : d ≤ x
    · have c' := le_z hd hx c
      refine br1 c (K _ _ ?_)
      rw [show N = n by omega]
      exact hf
    · have c' := nle_z hd hx c
      exact br0 c (x_t132 hl hm hg (fun _ f' h => ih (n + 1) _ _ (add1 hx (by omega)) (by omega) (by omega) h) _ g _ _ (sub_z hr rfl (by omega) (by omega)) (Nat.le_refl _) (by omega) (chI.st hf (Or.inl rfl)))
noncomputable def timR (F : Option (List Cls)) (w : Nat → Int) (s g n : Int) : Int64 := if n < 0 ∨ 200 < n then -1 else if 1000000 ≤ dwB F w s g then -1 else if n < dwB F w s g then 0 else chF (Int32.ofInt (w 8)).toInt64 (10 - Int32.ofInt (w 8)).toInt64 (dwB F w s g).toNat n.toNat (dwB F w s g).toNat
theorem timR_n {F : Option (List Cls)} {w : Nat → Int} {s g n : Int} (h : (n < 0 ∨ 200 < n) ∨ 1000000 ≤ dwB F w s g) : timR F w s g n = -1 := by
  unfold timR
  by_cases c : n < 0 ∨ 200 < n
  · exact if_pos c
  · rw [if_neg c]; exact if_pos (h.elim (fun q => absurd q c) (fun q => q))
theorem timR_y {F : Option (List Cls)} {w : Nat → Int} {s g n : Int} (h : ¬ (n < 0 ∨ 200 < n)) (h2 : ¬ 1000000 ≤ dwB F w s g) {D : Int} (hD : dwB F w s g = D) {b : Int32} (hb : b.toInt = w 8) {N : Nat} (hN : n = (N : Int)) : timR F w s g n = (if (N : Int) < D then 0 else chF b.toInt64 (10 - b).toInt64 D.toNat N D.toNat) := by
  unfold timR
  rw [if_neg h, if_neg h2, hD, o32 hb, hN]
  rfl
theorem x_mtime {a b d law broken : Int32} {value sum : Int64} {row days nOp nArg : Nat → Int32} {rest now set parts : Nat → Int64} {ls : Nat → List Cls} {w : Nat → Int} (hl : RML row ls) (hR : RMw row w) (hr : RLW row) (hDY : DY days) (hB : 0 ≤ broken.toInt ∧ broken.toInt ≤ 1) {Q : Int64 → (Int32 × Int32 × Int32 × Int64 × Int64 × (Nat → Int32) × (Nat → Int64) × (Nat → Int64) × (Nat → Int64)) → Prop} (hq : ∀ (r : Int64) (law' br' : Int32) (value' sum' : Int64) (days' : Nat → Int32) (set' rest' parts' : Nat → Int64), r = timR (lawW w ls) w a.toInt b.toInt d.toInt → (0 ≤ br'.toInt ∧ br'.toInt ≤ 1) → DY days' → Q r (0, law', br', value', sum', days', set', rest', parts')) : wp_X12_time a b d 0 law broken value sum row days set nOp nArg rest now parts Q := by
  have m8 : (100000000 : Int32).toInt = 100000000 := by decide
  have e8 : (row 8).toInt = w 8 := hR 8 (by decide)
  unfold wp_X12_time
  refine x_isShaft hr hR (fun a0 a1 a5 => br0 (by decide) ?_) (fun g => br1 rfl (hq _ _ _ _ _ _ _ _ _ (timR_n (Or.inr (dwB_n (Or.inl (by omega))))).symm hB hDY))
  refine x_isCell (fun ic => br0 (by decide) ?_) (fun g => br1 rfl (hq _ _ _ _ _ _ _ _ _ (timR_n (Or.inr (dwB_n (Or.inl (by omega))))).symm hB hDY))
  have i0 := ic.1
  have i1 := ic.2
  have d1 : d.toInt64.toInt = d.toInt := i2l_z rfl
  have z0 : (0 : Int64).toInt = 0 := rfl
  have z200 : (200 : Int64).toInt = 200 := rfl
  refine e_in (fun g0 g1 => br0 (by decide) ?_) (fun g => br1 rfl (hq _ _ _ _ _ _ _ _ _ (timR_n (Or.inl (by omega))).symm hB hDY))
  obtain ⟨e1, r1, k40⟩ := cl0_z hr hR a0 a5
  refine x_findDown hl hR hr a0 a5 ic (bz1 hB) (fun q days' hd => un7_i (br1 rfl (hq _ _ _ _ _ _ _ _ _ (timR_n (Or.inr (dwB_n (Or.inr q)))).symm hB hd))) (fun q law' br' v s days' set' rest' hd hb' hLD => un7_i ?_)
  have eB := dwB_y (F := lawW w ls) (g := b.toInt) (by omega) q
  have isR : ((days' (cl0 w a.toInt)).toInt < 100000000 → dwD (lawW w ls) w a.toInt b.toInt.toNat (cl0 w a.toInt) = (days' (cl0 w a.toInt)).toInt ∧ (days' (cl0 w a.toInt)).toInt ≤ 3960) ∧ (¬ (days' (cl0 w a.toInt)).toInt < 100000000 → dwD (lawW w ls) w a.toInt b.toInt.toNat (cl0 w a.toInt) = 1000000) := hLD.isR DWC1 (by decide) k40
  have dy := DY.at_0 hd (n := cl0 w a.toInt) (z := ((cl0 w a.toInt : Nat) : Int)) rfl (by omega) (by omega)
  by_cases t : days' (cl0 w a.toInt) = 100000000
  · have t' := eq_z rfl m8 t
    have e := isR.2 (by omega)
    exact br1 t (hq _ _ _ _ _ _ _ _ _ (timR_n (Or.inr (by omega))).symm (bz2 hb') hd)
  · have t' := ne_z rfl m8 t
    have e := isR.1 (by omega)
    have hB6 : ¬ 1000000 ≤ dwB (lawW w ls) w a.toInt b.toInt := by omega
    have hN : d.toInt = ((d.toInt.toNat : Nat) : Int) := by omega
    have ty := timR_y (F := lawW w ls) (w := w) (s := a.toInt) (g := b.toInt) (n := d.toInt) (by omega) hB6 (D := (days' (cl0 w a.toInt)).toInt) (by omega) e8 hN
    refine br0 t ?_
    by_cases y : days' (cl0 w a.toInt) ≤ d
    · have y' := le_z rfl rfl y
      refine br1 y ?_
      have hg : (days' (cl0 w a.toInt)).toInt = (((days' (cl0 w a.toInt)).toInt.toNat : Nat) : Int) := by omega
      refine x_t77 (fun x f hf => ?_) _ 0 _ _ rfl (by omega) (by omega) (fun j h => absurd h (Nat.not_lt_zero _))
      refine x_t120 rfl rfl hg hN (by omega) (by omega) (fun x f' h => ⟨vpi hg (by omega) (by omega), ?_⟩) _ 0 _ _ rfl (by omega) (by omega) (fun j hj => ?_)
      · show vp_updL f 0 1000000000000 j = (if j = 0 then (1000000000000 : Int64) else 0)
        by_cases z : j = 0
        · rw [z, pk_uLs, if_pos rfl]
        · rw [pk_uLn z, if_neg z]
          exact hf j (by omega)
      · rw [tnN hg]
        refine hq _ _ _ _ _ _ _ _ _ ?_ (bz2 hb') hd
        rw [ty, if_neg (by omega)]
        exact h _ (by omega)
    · have y' := nle_z rfl rfl y
      refine br0 y (hq _ _ _ _ _ _ _ _ _ ?_ (bz2 hb') hd)
      rw [ty, if_pos (by omega)]
