/-! the reference's tokens -/
/-- a token as the reference holds it -/
def MT (t : Int) (sort : Int32) (worth : Int64) : Prop :=
  (t = 31 ∧ sort = 0) ∨ (sort = 1 ∧ ((∃ k : Nat, k < 29 ∧ t = (k : Int) ∧ worth.toInt = lx_wc k) ∨ (t = 30 ∧ ∀ k, k < 29 → ¬ worth.toInt = lx_wc k)))
  ∨ (sort = 2 ∧ 1000 ≤ t ∧ t ≤ 2001 ∧ (t ≤ 2000 → worth.toInt = t - 1000) ∧ (t = 2001 → 1001 ≤ worth.toInt))
  ∨ (sort = 3 ∧ 100 ≤ t ∧ t ≤ 355 ∧ worth.toInt = t - 100)
set_option maxRecDepth 100000 in
theorem lx_dec : ∀ k, k < 29 → ∀ m, m < 8 → (∀ i, i < m → 97 ≤ (zby (8 * k + i)).toInt ∧ (zby (8 * k + i)).toInt ≤ 122) → zby (8 * k + m) = 32 → lx_enc (fun i => (zby (8 * k + i)).toInt) m = lx_wc k := by decide +kernel
set_option maxRecDepth 100000 in
theorem lx_len : ∀ k, k < 29 → ∃ m, m < 8 ∧ (∀ i, i < m → 97 ≤ (zby (8 * k + i)).toInt ∧ (zby (8 * k + i)).toInt ≤ 122) ∧ zby (8 * k + m) = 32 := by decide +kernel
set_option maxRecDepth 100000 in
theorem lx_wcI : ∀ j, j < 29 → ∀ k, k < 29 → lx_wc j = lx_wc k → j = k := by decide +kernel
theorem lx_mt {tp : Nat → Int32} {n s e : Nat} {t : Int} (hE : EnT tp n 97 122 s e) (hw : lx_wd tp s (e - s) t) {worth : Int64} (h1 : e - s ≤ 10 → worth.toInt = lx_enc (fun i => (tp (s + i)).toInt) (e - s)) (h2 : 10 < e - s → worth.toInt = -1) : MT t 1 worth := by
  have hl : ∀ i, i < e - s → 97 ≤ (tp (s + i)).toInt ∧ (tp (s + i)).toInt ≤ 122 := fun i hi => hE.2.2.1 (s + i) (by omega) (by omega)
  rcases hw with ⟨k, k1, k2, ⟨m8, hb, he⟩, _⟩ | ⟨k1, k2⟩
  · refine Or.inr (Or.inl ⟨rfl, Or.inl ⟨k, k1, k2, ?_⟩⟩)
    rw [h1 (by omega), ← lx_dec k k1 (e - s) m8 (fun i hi => by rw [hb i hi]; exact hl i hi) he]
    exact lx_ext _ (fun i hi => by rw [hb i hi])
  · refine Or.inr (Or.inl ⟨rfl, Or.inr ⟨k1, fun k hk q => ?_⟩⟩)
    obtain ⟨m, m8, ml, me⟩ := lx_len k hk
    have e1 := lx_dec k hk m m8 ml me
    rw [← e1] at q
    by_cases c : e - s ≤ 10
    · rw [h1 c] at q
      obtain ⟨r1, r2⟩ := lx_inj (e - s) m hl ml q
      refine k2 k hk ⟨by omega, fun i hi => ?_, by rw [r1]; exact me⟩
      exact (Int32.toInt_inj.mp (r2 i hi)).symm
    · rw [h2 (by omega)] at q
      have := (lx_enc0 m ml).1
      omega
theorem x_nt8 {taped : Int32} {tape : Nat → Int32} {n : Nat} (hn : taped.toInt = (n : Int)) (h4 : n ≤ 400) {p : Nat} {Qb : Int32 → Prop} (K : ∀ (x : Int32) (q : Nat), x.toInt = (q : Int) → SkT tape n p q → Qb x) : ∀ (m q : Nat) (x : Int32), x.toInt = (q : Int) → p ≤ q → q ≤ n → (∀ r, p ≤ r → r < q → tape r = 32) → n - q < m → wl_X12_nextToken_8 taped tape Qb m x := by
  intro m
  induction m with
  | zero => intro q x h1 h2 h3 h5 h6; exact absurd h6 (Nat.not_lt_zero _)
  | succ m ih =>
    intro q x h1 h2 h3 h5 h6
    unfold wl_X12_nextToken_8
    by_cases d : taped ≤ x
    · refine br1 d (K x q h1 ⟨h2, h3, h5, fun r => ?_⟩)
      have := le_z hn h1 d
      omega
    · refine br0 d ?_
      have d' := nle_z hn h1 d
      refine ⟨vpi h1 (by omega) (by omega), ?_⟩
      rw [tnN h1]
      by_cases e : tape q = 32
      · refine br1 e ?_
        have e1 := add1 h1 (by omega)
        refine ih (q + 1) (x + 1) e1 (by omega) (by omega) (fun r r1 r2 => ?_) (by omega)
        by_cases c : r = q
        · rw [c]; exact e
        · exact h5 r r1 (by omega)
      · exact br0 e (K x q h1 ⟨h2, h3, h5, fun _ => e⟩)
/-- a word, so far -/
def wOK (tape : Nat → Int32) (s j : Nat) (w : Int64) : Prop := (j ≤ 10 → w.toInt = lx_enc (fun i => (tape (s + i)).toInt) j) ∧ (10 < j → w.toInt = -1)
theorem wOK.next {tape : Nat → Int32} {s j : Nat} {w : Int64} (h : wOK tape s j w) (hl : ∀ i, i < j → 97 ≤ (tape (s + i)).toInt ∧ (tape (s + i)).toInt ≤ 122) (h2 : 97 ≤ (tape (s + j)).toInt ∧ (tape (s + j)).toInt ≤ 122) : (¬ 10 ≤ j → wOK tape s (j + 1) (w * 32 + (tape (s + j)).toInt64 - 96)) ∧ (10 ≤ j → wOK tape s (j + 1) (-1)) := by
  refine ⟨fun c => ⟨fun _ => ?_, fun q => by omega⟩, fun c => ⟨fun q => by omega, fun _ => rfl⟩⟩
  have e := h.1 (by omega)
  have b := lx_enc0 j hl
  have b2 := lx_encb j (by omega) hl
  have b3 : (32 : Int) ^ j ≤ 32 ^ 9 := by
    have hj : j = 0 ∨ j = 1 ∨ j = 2 ∨ j = 3 ∨ j = 4 ∨ j = 5 ∨ j = 6 ∨ j = 7 ∨ j = 8 ∨ j = 9 := by omega
    rcases hj with q | q | q | q | q | q | q | q | q | q <;> rw [q] <;> decide
  have b4 : (32 : Int) ^ 9 = 35184372088832 := by decide
  have e1 : (w * 32).toInt = lx_enc (fun i => (tape (s + i)).toInt) j * 32 := lmul_z e rfl (by omega) (by omega)
  have e2 := ladd_z e1 (i2l_z (a := tape (s + j)) rfl) (by omega) (by omega)
  have e3 := lsub_z (b := 96) (y := 96) e2 rfl (by omega) (by omega)
  rw [e3]
  show _ = 32 * lx_enc (fun i => (tape (s + i)).toInt) j + ((tape (s + j)).toInt - 96)
  omega
theorem x_nt149 {taped x8 : Int32} {tape : Nat → Int32} {n s : Nat} (hn : taped.toInt = (n : Int)) (h4 : n ≤ 400) (hs : x8.toInt = (s : Int)) {Qb : Int32 → Int64 → Prop} (K : ∀ (x : Int32) (w : Int64) (e : Nat), x.toInt = (e : Int) → EnT tape n 97 122 s e → wOK tape s (e - s) w → Qb x w) : ∀ (m j : Nat) (x : Int32) (w : Int64), x.toInt = ((s + j : Nat) : Int) → s + j ≤ n → (∀ i, i < j → 97 ≤ (tape (s + i)).toInt ∧ (tape (s + i)).toInt ≤ 122) → wOK tape s j w → n - (s + j) < m → wl_X12_nextToken_149 taped tape x8 1 Qb m x w := by
  intro m
  induction m with
  | zero => intro j x w h1 h2 h3 h5 h6; exact absurd h6 (Nat.not_lt_zero _)
  | succ m ih =>
    intro j x w h1 h2 h3 h5 h6
    unfold wl_X12_nextToken_149
    have hE : ∀ r, s ≤ r → r < s + j → 97 ≤ (tape r).toInt ∧ (tape r).toInt ≤ 122 := fun r r1 r2 => by
      have := h3 (r - s) (by omega)
      rw [Nat.add_sub_cancel' r1] at this
      exact this
    refine br1 rfl ?_
    by_cases d : taped ≤ x
    · have := le_z hn h1 d
      refine br1 d (K x w (s + j) h1 ⟨by omega, h2, hE, fun r => by omega⟩ ?_)
      rw [Nat.add_sub_cancel_left]; exact h5
    · refine br0 d ?_
      have d' := nle_z hn h1 d
      refine ⟨vpi h1 (by omega) (by omega), ?_⟩
      rw [tnN h1]
      refine e_isSmall (fun s1 s2 => ?_) (fun s0 => ?_)
      · refine br0 (by decide) ?_
        have e1 := add1 h1 (by omega)
        have hx := h5.next h3 ⟨s1, s2⟩
        have h3' : ∀ i, i < j + 1 → 97 ≤ (tape (s + i)).toInt ∧ (tape (s + i)).toInt ≤ 122 := fun i hi => by
          by_cases c : i = j
          · rw [c]; exact ⟨s1, s2⟩
          · exact h3 i (by omega)
        have ez : (x - x8).toInt = (j : Int) := by
          have := sub_z h1 hs (by omega) (by omega)
          rw [this]; omega
        by_cases z : 10 ≤ x - x8
        · have z' := le_z (x := 10) rfl ez z
          exact br1 z (ih (j + 1) (x + 1) _ e1 (by omega) h3' (hx.2 (by omega)) (by omega))
        · have z' := nle_z (x := 10) rfl ez z
          exact br0 z ⟨vpi h1 (by omega) (by omega), ih (j + 1) (x + 1) _ e1 (by omega) h3' (hx.1 (by omega)) (by omega)⟩
      · refine br1 rfl (K x w (s + j) h1 ⟨by omega, h2, hE, fun _ => s0⟩ ?_)
        rw [Nat.add_sub_cancel_left]; exact h5
theorem x_nt149n {taped x8 y : Int32} {tape : Nat → Int32} {Qb : Int32 → Int64 → Prop} (hy : ¬ y = 1) (m : Nat) {x : Int32} {w : Int64} (h : Qb x w) : wl_X12_nextToken_149 taped tape x8 y Qb (m + 1) x w := by
  unfold wl_X12_nextToken_149
  exact br0 hy h
theorem x_nt149an {taped x8 y : Int32} {tape : Nat → Int32} {Qb : Int32 → Int64 → Prop} (hy : ¬ y = 1) (m : Nat) {x : Int32} {w : Int64} (h : Qb x w) : wl_X12_nextToken_149a taped tape x8 y Qb (m + 1) x w := by
  unfold wl_X12_nextToken_149a
  exact br0 hy h
theorem x_nt243n {taped y : Int32} {tape : Nat → Int32} {Qb : Int32 → Int64 → Prop} (hy : ¬ y = 2) (m : Nat) {x : Int32} {w : Int64} (h : Qb x w) : wl_X12_nextToken_243 taped tape y Qb (m + 1) x w := by
  unfold wl_X12_nextToken_243
  exact br0 hy h
theorem x_nt243an {taped y : Int32} {tape : Nat → Int32} {Qb : Int32 → Int64 → Prop} (hy : ¬ y = 2) (m : Nat) {x : Int32} {w : Int64} (h : Qb x w) : wl_X12_nextToken_243a taped tape y Qb (m + 1) x w := by
  unfold wl_X12_nextToken_243a
  exact br0 hy h
/-- a number, so far -/
def nOK (tape : Nat → Int32) (s j : Nat) (w : Int64) : Prop := 0 ≤ w.toInt ∧ w.toInt ≤ 10000009 ∧ (lx_nm tape s j ≤ 1000 → w.toInt = lx_nm tape s j) ∧ (lx_nm tape s j = 1001 → 1001 ≤ w.toInt)
theorem nOK.next {tape : Nat → Int32} {s j : Nat} {w : Int64} (h : nOK tape s j w) (hl : ∀ i, i < j → 48 ≤ (tape (s + i)).toInt ∧ (tape (s + i)).toInt ≤ 57) (h2 : 48 ≤ (tape (s + j)).toInt ∧ (tape (s + j)).toInt ≤ 57) : (w.toInt ≤ 1000000 → nOK tape s (j + 1) (w * 10 + (tape (s + j)).toInt64 - 48)) ∧ (¬ w.toInt ≤ 1000000 → nOK tape s (j + 1) w) := by
  obtain ⟨a1, a2, a3, a4⟩ := h
  have b := lx_nmb j hl
  have e : lx_nm tape s (j + 1) = if 10 * lx_nm tape s j + (tape (s + j)).toInt - 48 < 1001 then 10 * lx_nm tape s j + (tape (s + j)).toInt - 48 else 1001 := rfl
  unfold nOK
  rw [e]
  refine ⟨fun c => ?_, fun c => ?_⟩
  · have e1 : (w * 10).toInt = w.toInt * 10 := lmul_z rfl rfl (by omega) (by omega)
    have e2 := ladd_z e1 (i2l_z (a := tape (s + j)) rfl) (by omega) (by omega)
    have e3 := lsub_z (b := 48) (y := 48) e2 rfl (by omega) (by omega)
    rw [e3]
    by_cases g : 10 * lx_nm tape s j + (tape (s + j)).toInt - 48 < 1001
    · rw [if_pos g]; exact ⟨by omega, by omega, fun q => by have := a3 (by omega); omega, fun q => by omega⟩
    · rw [if_neg g]
      refine ⟨by omega, by omega, fun q => by omega, fun q => ?_⟩
      by_cases g2 : lx_nm tape s j ≤ 1000
      · have := a3 g2; omega
      · have := a4 (by omega); omega
  · by_cases g : 10 * lx_nm tape s j + (tape (s + j)).toInt - 48 < 1001
    · have := a3 (by omega); omega
    · rw [if_neg g]; exact ⟨a1, a2, fun q => by omega, fun q => by omega⟩
theorem x_nt243 {taped : Int32} {tape : Nat → Int32} {n s : Nat} (hn : taped.toInt = (n : Int)) (h4 : n ≤ 400) {Qb : Int32 → Int64 → Prop} (K : ∀ (x : Int32) (w : Int64) (e : Nat), x.toInt = (e : Int) → EnT tape n 48 57 s e → nOK tape s (e - s) w → Qb x w) : ∀ (m j : Nat) (x : Int32) (w : Int64), x.toInt = ((s + j : Nat) : Int) → s + j ≤ n → (∀ i, i < j → 48 ≤ (tape (s + i)).toInt ∧ (tape (s + i)).toInt ≤ 57) → nOK tape s j w → n - (s + j) < m → wl_X12_nextToken_243 taped tape 2 Qb m x w := by
  intro m
  induction m with
  | zero => intro j x w h1 h2 h3 h5 h6; exact absurd h6 (Nat.not_lt_zero _)
  | succ m ih =>
    intro j x w h1 h2 h3 h5 h6
    unfold wl_X12_nextToken_243
    have hE : ∀ r, s ≤ r → r < s + j → 48 ≤ (tape r).toInt ∧ (tape r).toInt ≤ 57 := fun r r1 r2 => by
      have := h3 (r - s) (by omega)
      rw [Nat.add_sub_cancel' r1] at this
      exact this
    refine br1 rfl ?_
    by_cases d : taped ≤ x
    · have := le_z hn h1 d
      refine br1 d (K x w (s + j) h1 ⟨by omega, h2, hE, fun r => by omega⟩ ?_)
      rw [Nat.add_sub_cancel_left]; exact h5
    · refine br0 d ?_
      have d' := nle_z hn h1 d
      refine ⟨vpi h1 (by omega) (by omega), ?_⟩
      rw [tnN h1]
      refine e_isDigit (fun s1 s2 => ?_) (fun s0 => ?_)
      · refine br0 (by decide) ?_
        have e1 := add1 h1 (by omega)
        have hx := h5.next h3 ⟨s1, s2⟩
        have h3' : ∀ i, i < j + 1 → 48 ≤ (tape (s + i)).toInt ∧ (tape (s + i)).toInt ≤ 57 := fun i hi => by
          by_cases c : i = j
          · rw [c]; exact ⟨s1, s2⟩
          · exact h3 i (by omega)
        by_cases z : lg_cmp w 1000000 ≤ 0
        · have z' := c_le (y := 1000000) rfl rfl z
          exact br1 z ⟨vpi h1 (by omega) (by omega), ih (j + 1) (x + 1) _ e1 (by omega) h3' (hx.1 z') (by omega)⟩
        · have z' := c_nle (y := 1000000) rfl rfl z
          exact br0 z (ih (j + 1) (x + 1) _ e1 (by omega) h3' (hx.2 (by omega)) (by omega))
      · refine br1 rfl (K x w (s + j) h1 ⟨by omega, h2, hE, fun _ => s0⟩ ?_)
        rw [Nat.add_sub_cancel_left]; exact h5
/-- the next token: it begins where blanks end -/
theorem x_nextToken {taped to : Int32} {tape : Nat → Int32} {n p : Nat} (hn : taped.toInt = (n : Int)) (h4 : n ≤ 400) (hp : to.toInt = (p : Int)) (hpn : p ≤ n) {s e : Nat} {t : Int} (hS : SkT tape n p s) (hT : TokT tape n s e t) {Q : (Int32 × Int32 × Int32 × Int64) → Prop} (hq : ∀ (fr to' sort : Int32) (worth : Int64), fr.toInt = (s : Int) → to'.toInt = (e : Int) → MT t sort worth → Q (fr, to', sort, worth)) : wp_X12_nextToken taped to tape Q := by
  unfold wp_X12_nextToken
  refine x_nt8 hn h4 (p := p) (fun x q hx hq' => ?_) _ p to hp (Nat.le_refl _) hpn (fun r r1 r2 => by omega) (by omega)
  have := hq'.uq hS
  subst this
  refine jn1_i (fun y : Int32 => (y = 0 ∧ q = n) ∨ (y = 1 ∧ q < n ∧ 97 ≤ (tape q).toInt ∧ (tape q).toInt ≤ 122) ∨ (y = 2 ∧ q < n ∧ 48 ≤ (tape q).toInt ∧ (tape q).toInt ≤ 57) ∨ (y = 3 ∧ q < n ∧ ¬ (97 ≤ (tape q).toInt ∧ (tape q).toInt ≤ 122) ∧ ¬ (48 ≤ (tape q).toInt ∧ (tape q).toInt ≤ 57))) (fun y hy => ?_) (fun z hz => ?_)
  · rcases hy with ⟨rfl, h⟩ | ⟨rfl, h, g⟩ | ⟨rfl, h, g⟩ | ⟨rfl, h, g, g'⟩
    · refine br0 (by decide) (x_nt149n (by decide) _ (x_nt243n (by decide) _ ?_))
      rcases hT with ⟨a, b, c⟩ | ⟨a, _⟩ | ⟨a, _⟩ | ⟨a, _⟩
      · exact hq _ _ _ _ hx (by rw [hx, a, b]) (Or.inl ⟨c, rfl⟩)
      · omega
      · omega
      · omega
    · refine br0 (by decide) (x_nt149 hn h4 hx (fun x1 w1 e1 k1 k2 k3 => ?_) _ 0 x 0 hx (by omega) (fun i hi => absurd hi (Nat.not_lt_zero _)) ⟨fun _ => rfl, fun r => by omega⟩ (by omega))
      refine x_nt243n (by decide) _ ?_
      rcases hT with ⟨a, b, c⟩ | ⟨a, b, c, d⟩ | ⟨a, b, _⟩ | ⟨a, b, _⟩
      · omega
      · have := k2.uq c
        subst this
        exact hq _ _ _ _ hx k1 (lx_mt c d k3.1 k3.2)
      · omega
      · exact absurd g b
    · refine br0 (by decide) (x_nt149n (by decide) _ ?_)
      refine x_nt243 hn h4 (fun x1 w1 e1 k1 k2 k3 => ?_) _ 0 x 0 hx (by omega) (fun i hi => absurd hi (Nat.not_lt_zero _)) ⟨by decide, by decide, fun _ => rfl, fun r => absurd r (by show ¬ (0 : Int) = 1001; decide)⟩ (by omega)
      rcases hT with ⟨a, b, c⟩ | ⟨a, b, _⟩ | ⟨a, b, c, d⟩ | ⟨a, b, b2, _⟩
      · omega
      · omega
      · have := k2.uq c
        subst this
        have nb := lx_nmb (tp := tape) (s := q) (e1 - q) (fun i hi => c.2.2.1 (q + i) (by omega) (by omega))
        obtain ⟨m1, m2, m3, m4⟩ := k3
        refine hq _ _ _ _ hx k1 (Or.inr (Or.inr (Or.inl ⟨rfl, by omega, by omega, fun r => ?_, fun r => m4 (by omega)⟩)))
        have := m3 (by omega)
        omega
      · exact absurd g b2
    · refine br1 rfl ⟨vpi hx (by omega) (by omega), ?_⟩
      rw [tnN hx]
      have e1 := add1 hx (by omega)
      refine x_nt149an (by decide) _ (x_nt243an (by decide) _ ?_)
      rcases hT with ⟨a, b, c⟩ | ⟨a, b, _⟩ | ⟨a, b, _⟩ | ⟨a, b, b2, b3, b4, b5, b6⟩
      · omega
      · exact absurd b g
      · exact absurd b g'
      · refine hq _ _ _ _ hx (by rw [e1, b5]) (Or.inr (Or.inr (Or.inr ⟨rfl, by omega, by omega, ?_⟩)))
        have := i2l_z (a := tape q) rfl
        omega
  · by_cases c : x = taped
    · refine br1 c (hz _ (Or.inl ⟨rfl, ?_⟩))
      rw [c, hn] at hx; omega
    · refine br0 c ?_
      have c' := ne_z hx hn c
      have h3 := hS.2.1
      rw [tnN hx]
      refine ⟨vpi hx (by omega) (by omega), e_isSmall (fun s1 s2 => ?_) (fun s0 => ?_)⟩
      · exact br0 (by decide) (hz _ (Or.inr (Or.inl ⟨rfl, by omega, s1, s2⟩)))
      · refine br1 rfl ⟨vpi hx (by omega) (by omega), e_isDigit (fun s1 s2 => ?_) (fun s0' => ?_)⟩
        · exact br0 (by decide) (hz _ (Or.inr (Or.inr (Or.inl ⟨rfl, by omega, s1, s2⟩))))
        · exact br1 rfl (hz _ (Or.inr (Or.inr (Or.inr ⟨rfl, by omega, s0, s0'⟩))))
