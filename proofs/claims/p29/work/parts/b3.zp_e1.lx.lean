/-! tokens: what both readers see of the TAPE -/
/-- blanks from p to q, and no more -/
def SkT (tp : Nat → Int32) (n p q : Nat) : Prop := p ≤ q ∧ q ≤ n ∧ (∀ r, p ≤ r → r < q → tp r = 32) ∧ (q < n → ¬ tp q = 32)
/-- bytes lo .. hi from p to q, and no more -/
def EnT (tp : Nat → Int32) (n : Nat) (lo hi : Int) (p q : Nat) : Prop := p ≤ q ∧ q ≤ n ∧ (∀ r, p ≤ r → r < q → lo ≤ (tp r).toInt ∧ (tp r).toInt ≤ hi) ∧ (q < n → ¬ (lo ≤ (tp q).toInt ∧ (tp q).toInt ≤ hi))
theorem SkT.uq {tp : Nat → Int32} {n p q q' : Nat} (h : SkT tp n p q) (h' : SkT tp n p q') : q = q' := by
  obtain ⟨a1, a2, a3, a4⟩ := h
  obtain ⟨b1, b2, b3, b4⟩ := h'
  rcases Nat.lt_trichotomy q q' with c | c | c
  · exact absurd (b3 q a1 c) (a4 (by omega))
  · exact c
  · exact absurd (a3 q' b1 c) (b4 (by omega))
theorem EnT.uq {tp : Nat → Int32} {n p q q' : Nat} {lo hi : Int} (h : EnT tp n lo hi p q) (h' : EnT tp n lo hi p q') : q = q' := by
  obtain ⟨a1, a2, a3, a4⟩ := h
  obtain ⟨b1, b2, b3, b4⟩ := h'
  rcases Nat.lt_trichotomy q q' with c | c | c
  · exact absurd (b3 q a1 c) (a4 (by omega))
  · exact c
  · exact absurd (a3 q' b1 c) (b4 (by omega))
theorem SkT.ex (tp : Nat → Int32) (n : Nat) : ∀ (f p : Nat), p ≤ n → n - p ≤ f → ∃ q, SkT tp n p q := by
  intro f
  induction f with
  | zero => intro p h1 h2; exact ⟨p, Nat.le_refl _, h1, fun r a b => by omega, fun q => by omega⟩
  | succ f ih =>
    intro p h1 h2
    by_cases c : p < n ∧ tp p = 32
    · obtain ⟨q, a1, a2, a3, a4⟩ := ih (p + 1) (by omega) (by omega)
      refine ⟨q, by omega, a2, fun r b1 b2 => ?_, a4⟩
      by_cases e : r = p
      · rw [e]; exact c.2
      · exact a3 r (by omega) b2
    · exact ⟨p, Nat.le_refl _, h1, fun r a b => by omega, fun q r => c ⟨q, r⟩⟩
theorem EnT.ex (tp : Nat → Int32) (n : Nat) (lo hi : Int) : ∀ (f p : Nat), p ≤ n → n - p ≤ f → ∃ q, EnT tp n lo hi p q := by
  intro f
  induction f with
  | zero => intro p h1 h2; exact ⟨p, Nat.le_refl _, h1, fun r a b => by omega, fun q => by omega⟩
  | succ f ih =>
    intro p h1 h2
    by_cases c : p < n ∧ (lo ≤ (tp p).toInt ∧ (tp p).toInt ≤ hi)
    · obtain ⟨q, a1, a2, a3, a4⟩ := ih (p + 1) (by omega) (by omega)
      refine ⟨q, by omega, a2, fun r b1 b2 => ?_, a4⟩
      by_cases e : r = p
      · rw [e]; exact c.2
      · exact a3 r (by omega) b2
    · exact ⟨p, Nat.le_refl _, h1, fun r a b => by omega, fun q r => c ⟨q, r⟩⟩
/-- a row of letters as a number -/
def lx_enc (f : Nat → Int) : Nat → Int
  | 0 => 0
  | m + 1 => 32 * lx_enc f m + (f m - 96)
theorem lx_enc0 {f : Nat → Int} : ∀ m, (∀ i, i < m → 97 ≤ f i ∧ f i ≤ 122) → 0 ≤ lx_enc f m ∧ (0 < m → 1 ≤ lx_enc f m) := by
  intro m
  induction m with
  | zero => intro _; exact ⟨Int.le_refl _, fun q => absurd q (Nat.lt_irrefl 0)⟩
  | succ m ih =>
    intro h
    have h1 := ih (fun i hi => h i (by omega))
    have h2 := h m (by omega)
    have e : lx_enc f (m + 1) = 32 * lx_enc f m + (f m - 96) := rfl
    rw [e]
    exact ⟨by omega, fun _ => by omega⟩
theorem lx_inj {f g : Nat → Int} : ∀ m k, (∀ i, i < m → 97 ≤ f i ∧ f i ≤ 122) → (∀ i, i < k → 97 ≤ g i ∧ g i ≤ 122) → lx_enc f m = lx_enc g k → m = k ∧ ∀ i, i < m → f i = g i := by
  intro m
  induction m with
  | zero =>
    intro k h1 h2 e
    have e : (0 : Int) = lx_enc g k := e
    have := (lx_enc0 k h2).2
    by_cases c : k = 0
    · exact ⟨c.symm, fun i hi => absurd hi (Nat.not_lt_zero i)⟩
    · have := this (by omega); omega
  | succ m ih =>
    intro k h1 h2 e
    cases k with
    | zero =>
      have e : lx_enc f (m + 1) = 0 := e
      have := (lx_enc0 (m + 1) h1).2 (by omega); omega
    | succ k =>
      have e : 32 * lx_enc f m + (f m - 96) = 32 * lx_enc g k + (g k - 96) := e
      have a := h1 m (by omega)
      have b := h2 k (by omega)
      have e1 : lx_enc f m = lx_enc g k := by omega
      have e2 : f m = g k := by omega
      obtain ⟨r1, r2⟩ := ih k (fun i hi => h1 i (by omega)) (fun i hi => h2 i (by omega)) e1
      refine ⟨by omega, fun i hi => ?_⟩
      by_cases c : i = m
      · rw [c, e2, r1]
      · exact r2 i (by omega)
theorem lx_ext {f g : Nat → Int} : ∀ m, (∀ i, i < m → f i = g i) → lx_enc f m = lx_enc g m := by
  intro m
  induction m with
  | zero => intro _; rfl
  | succ m ih =>
    intro h
    show 32 * lx_enc f m + (f m - 96) = 32 * lx_enc g m + (g m - 96)
    rw [ih (fun i hi => h i (by omega)), h m (by omega)]
theorem lx_encb {f : Nat → Int} : ∀ m, m ≤ 10 → (∀ i, i < m → 97 ≤ f i ∧ f i ≤ 122) → lx_enc f m < 32 ^ m := by
  intro m
  induction m with
  | zero => intro _ _; show (0 : Int) < 32 ^ 0; decide
  | succ m ih =>
    intro hm h
    have h1 := ih (by omega) (fun i hi => h i (by omega))
    have h2 := h m (by omega)
    show 32 * lx_enc f m + (f m - 96) < 32 ^ (m + 1)
    have : (32 : Int) ^ (m + 1) = 32 * 32 ^ m := by rw [Int.pow_succ, Int.mul_comm]
    rw [this]; omega
/-- the word k stands there -/
def lx_is (tp : Nat → Int32) (s m k : Nat) : Prop := m < 8 ∧ (∀ i, i < m → zby (8 * k + i) = tp (s + i)) ∧ zby (8 * k + m) = 32
/-- which word a row of letters is: its number, 30 without -/
def lx_wd (tp : Nat → Int32) (s m : Nat) (t : Int) : Prop := (∃ k : Nat, k < 29 ∧ t = (k : Int) ∧ lx_is tp s m k ∧ ∀ j, j < k → ¬ lx_is tp s m j) ∨ (t = 30 ∧ ∀ k, k < 29 → ¬ lx_is tp s m k)
def lx_wcs : List Int := [624435, 13094067, 140531, 7657651, 538561715, 294, 498, 1476, 14836, 103820, 116807086, 4375176, 370116, 263748, 24170674, 20186324, 4153, 441828, 4391, 89, 263852, 284264, 12581, 302, 21279923, 146885, 404362868, 52, 2855638675]
/-- a word as the reference holds it -/
def lx_wc (k : Nat) : Int := lx_wcs.getD k 0
/-- a row of digits -/
def lx_nm (tp : Nat → Int32) (s : Nat) : Nat → Int
  | 0 => 0
  | m + 1 => if 10 * lx_nm tp s m + (tp (s + m)).toInt - 48 < 1001 then 10 * lx_nm tp s m + (tp (s + m)).toInt - 48 else 1001
/-- a token that stands from s to e -/
def TokT (tp : Nat → Int32) (n s e : Nat) (t : Int) : Prop :=
  (s = n ∧ e = n ∧ t = 31) ∨ (s < n ∧ (97 ≤ (tp s).toInt ∧ (tp s).toInt ≤ 122) ∧ EnT tp n 97 122 s e ∧ lx_wd tp s (e - s) t)
  ∨ (s < n ∧ (48 ≤ (tp s).toInt ∧ (tp s).toInt ≤ 57) ∧ EnT tp n 48 57 s e ∧ t = 1000 + lx_nm tp s (e - s))
  ∨ (s < n ∧ ¬ (97 ≤ (tp s).toInt ∧ (tp s).toInt ≤ 122) ∧ ¬ (48 ≤ (tp s).toInt ∧ (tp s).toInt ≤ 57) ∧ ¬ tp s = 32 ∧ (0 ≤ (tp s).toInt ∧ (tp s).toInt ≤ 255) ∧ e = s + 1 ∧ t = 100 + (tp s).toInt)
/-- all tokens of the TAPE -/
def Lex (tp : Nat → Int32) (n : Nat) (st en : Nat → Nat) (T : Nat → Int) : Prop := SkT tp n 0 (st 0) ∧ ∀ k, TokT tp n (st k) (en k) (T k) ∧ SkT tp n (en k) (st (k + 1))
theorem lx_wdex (tp : Nat → Int32) (s m : Nat) : ∃ t, lx_wd tp s m t := by
  have key : ∀ f : Nat, (∃ k, k < f ∧ lx_is tp s m k ∧ ∀ j, j < k → ¬ lx_is tp s m j) ∨ ∀ k, k < f → ¬ lx_is tp s m k := by
    intro f
    induction f with
    | zero => exact Or.inr (fun k hk => absurd hk (Nat.not_lt_zero k))
    | succ f ih =>
      rcases ih with ⟨k, h1, h2, h3⟩ | h
      · exact Or.inl ⟨k, by omega, h2, h3⟩
      · by_cases c : lx_is tp s m f
        · exact Or.inl ⟨f, by omega, c, h⟩
        · refine Or.inr (fun k hk => ?_)
          by_cases e : k = f
          · rw [e]; exact c
          · exact h k (by omega)
  rcases key 29 with ⟨k, h1, h2, h3⟩ | h
  · exact ⟨(k : Int), Or.inl ⟨k, h1, rfl, h2, h3⟩⟩
  · exact ⟨30, Or.inr ⟨rfl, h⟩⟩
theorem TokT.ex (tp : Nat → Int32) (n s : Nat) (hB : ∀ r, r < n → 0 ≤ (tp r).toInt ∧ (tp r).toInt ≤ 255) (h : s ≤ n) (hb : s < n → ¬ tp s = 32) : ∃ e t, TokT tp n s e t ∧ e ≤ n := by
  by_cases c : s < n
  · by_cases d : 97 ≤ (tp s).toInt ∧ (tp s).toInt ≤ 122
    · obtain ⟨e, he⟩ := EnT.ex tp n 97 122 n s h (by omega)
      obtain ⟨t, ht⟩ := lx_wdex tp s (e - s)
      exact ⟨e, t, Or.inr (Or.inl ⟨c, d, he, ht⟩), he.2.1⟩
    · by_cases d2 : 48 ≤ (tp s).toInt ∧ (tp s).toInt ≤ 57
      · obtain ⟨e, he⟩ := EnT.ex tp n 48 57 n s h (by omega)
        exact ⟨e, _, Or.inr (Or.inr (Or.inl ⟨c, d2, he, rfl⟩)), he.2.1⟩
      · exact ⟨s + 1, _, Or.inr (Or.inr (Or.inr ⟨c, d, d2, hb c, hB s c, rfl, rfl⟩)), by omega⟩
  · exact ⟨n, 31, Or.inl ⟨by omega, rfl, rfl⟩, Nat.le_refl _⟩
theorem Lex.ex (tp : Nat → Int32) (n : Nat) (hB : ∀ r, r < n → 0 ≤ (tp r).toInt ∧ (tp r).toInt ≤ 255) : ∃ st en T, Lex tp n st en T := by
  obtain ⟨s0, h0⟩ := SkT.ex tp n n 0 (Nat.zero_le _) (by omega)
  have step : ∀ s : { s : Nat // s ≤ n ∧ (s < n → ¬ tp s = 32) }, ∃ x : Nat × Int × { s : Nat // s ≤ n ∧ (s < n → ¬ tp s = 32) }, TokT tp n s.1 x.1 x.2.1 ∧ SkT tp n x.1 x.2.2.1 := by
    intro s
    obtain ⟨e, t, h1, h2⟩ := TokT.ex tp n s.1 hB s.2.1 s.2.2
    obtain ⟨q, hq⟩ := SkT.ex tp n n e h2 (by omega)
    exact ⟨(e, t, ⟨q, hq.2.1, hq.2.2.2⟩), h1, hq⟩
  refine ⟨fun k => (Nat.rec (motive := fun _ => { s : Nat // s ≤ n ∧ (s < n → ¬ tp s = 32) }) ⟨s0, h0.2.1, h0.2.2.2⟩ (fun _ s => (Classical.choose (step s)).2.2) k).1, fun k => (Classical.choose (step (Nat.rec (motive := fun _ => { s : Nat // s ≤ n ∧ (s < n → ¬ tp s = 32) }) ⟨s0, h0.2.1, h0.2.2.2⟩ (fun _ s => (Classical.choose (step s)).2.2) k))).1, fun k => (Classical.choose (step (Nat.rec (motive := fun _ => { s : Nat // s ≤ n ∧ (s < n → ¬ tp s = 32) }) ⟨s0, h0.2.1, h0.2.2.2⟩ (fun _ s => (Classical.choose (step s)).2.2) k))).2.1, h0, fun k => ?_⟩
  exact Classical.choose_spec (step (Nat.rec (motive := fun _ => { s : Nat // s ≤ n ∧ (s < n → ¬ tp s = 32) }) ⟨s0, h0.2.1, h0.2.2.2⟩ (fun _ s => (Classical.choose (step s)).2.2) k))
theorem lx_nmb {tp : Nat → Int32} {s : Nat} : ∀ m, (∀ i, i < m → 48 ≤ (tp (s + i)).toInt ∧ (tp (s + i)).toInt ≤ 57) → 0 ≤ lx_nm tp s m ∧ lx_nm tp s m ≤ 1001 := by
  intro m
  induction m with
  | zero => intro _; exact ⟨Int.le_refl _, by show (0 : Int) ≤ 1001; decide⟩
  | succ m ih =>
    intro h
    have h1 := ih (fun i hi => h i (by omega))
    have h2 := h m (by omega)
    have e : lx_nm tp s (m + 1) = if 10 * lx_nm tp s m + (tp (s + m)).toInt - 48 < 1001 then 10 * lx_nm tp s m + (tp (s + m)).toInt - 48 else 1001 := rfl
    rw [e]
    by_cases c : 10 * lx_nm tp s m + (tp (s + m)).toInt - 48 < 1001
    · rw [if_pos c]; omega
    · rw [if_neg c]; omega
theorem lx_wdb {tp : Nat → Int32} {s m : Nat} {t : Int} (h : lx_wd tp s m t) : 0 ≤ t ∧ t ≤ 30 ∧ t ≠ 29 := by
  rcases h with ⟨k, h1, h2, _, _⟩ | ⟨h, _⟩
  · omega
  · omega
/-- how far tokens go -/
theorem TokT.le {tp : Nat → Int32} {n s e : Nat} {t : Int} (h : TokT tp n s e t) : s ≤ e ∧ e ≤ n ∧ (¬ t = 31 → s < e) ∧ (t = 31 → s = n) := by
  rcases h with ⟨a, b, c⟩ | ⟨a, b, c, d⟩ | ⟨a, b, c, d⟩ | ⟨a, b, c, d, g, e1, f⟩
  · exact ⟨by omega, by omega, fun q => absurd c q, fun _ => a⟩
  · obtain ⟨c1, c2, c3, c4⟩ := c
    have : s < e := by
      rcases Nat.lt_or_ge s e with q | q
      · exact q
      · have : e = s := by omega
        rw [this] at c4
        exact absurd b (c4 a)
    have := lx_wdb d
    exact ⟨c1, c2, fun _ => by omega, fun q => by omega⟩
  · obtain ⟨c1, c2, c3, c4⟩ := c
    have h1 : s < e := by
      rcases Nat.lt_or_ge s e with q | q
      · exact q
      · have : e = s := by omega
        rw [this] at c4
        exact absurd b (c4 a)
    have := (lx_nmb (tp := tp) (s := s) (e - s) (fun i hi => c3 (s + i) (by omega) (by omega))).1
    exact ⟨c1, c2, fun _ => h1, fun q => by omega⟩
  · exact ⟨by omega, by omega, fun _ => by omega, fun q => by omega⟩
