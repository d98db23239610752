/-! the reference's reader: tokens -/
theorem li_1 {x : Int32} {hi : Int} (h : x.toInt < hi) (h2 : hi ≤ 2147483647) : (x + 1).toInt = x.toInt + 1 := add_z rfl rfl (by have := i32_lo x; omega) (by omega)
def Tk (taped fr to sort : Int32) : Prop := 0 ≤ fr.toInt ∧ fr.toInt ≤ to.toInt ∧ to.toInt ≤ taped.toInt ∧ taped.toInt ≤ 400 ∧ 0 ≤ sort.toInt ∧ sort.toInt ≤ 3 ∧ (¬ sort = 0 → fr.toInt < to.toInt)
theorem e_isSmall {a : Int32} {Q : Int32 → Prop} (h1 : 97 ≤ a.toInt → a.toInt ≤ 122 → Q 1) (h0 : ¬ (97 ≤ a.toInt ∧ a.toInt ≤ 122) → Q 0) : wp_X12_isSmall a Q := by
  unfold wp_X12_isSmall
  by_cases c : a < 97
  · refine br1 c (h0 ?_)
    have := lt_z (y := 97) rfl rfl c; omega
  · refine br0 c ?_
    have c2 := nlt_z (y := 97) rfl rfl c
    by_cases d : 122 < a
    · refine br1 d (h0 ?_)
      have := lt_z (x := 122) rfl rfl d; omega
    · refine br0 d (h1 c2 ?_)
      exact nlt_z (x := 122) rfl rfl d
theorem e_isDigit {a : Int32} {Q : Int32 → Prop} (h1 : 48 ≤ a.toInt → a.toInt ≤ 57 → Q 1) (h0 : ¬ (48 ≤ a.toInt ∧ a.toInt ≤ 57) → Q 0) : wp_X12_isDigit a Q := by
  unfold wp_X12_isDigit
  by_cases c : a < 48
  · refine br1 c (h0 ?_)
    have := lt_z (y := 48) rfl rfl c; omega
  · refine br0 c ?_
    have c2 := nlt_z (y := 48) rfl rfl c
    by_cases d : 57 < a
    · refine br1 d (h0 ?_)
      have := lt_z (x := 57) rfl rfl d; omega
    · refine br0 d (h1 c2 ?_)
      exact nlt_z (x := 57) rfl rfl d
theorem e_isWord {a : Int64} {sort : Int32} {worth : Int64} {Q : Int32 → Prop} (h1 : sort = 1 → worth = a → Q 1) (h0 : Q 0) : wp_X12_isWord a sort worth Q := by
  unfold wp_X12_isWord
  by_cases c : sort = 1
  · refine br1 c ?_
    by_cases d : lg_cmp worth a = 0
    · refine br1 d (h1 c ?_)
      exact Int64.toInt_inj.mp (cmp_eq.mp d)
    · exact br0 d h0
  · exact br0 c h0
theorem e_isSign {a : Int32} {sort : Int32} {worth : Int64} {Q : Int32 → Prop} (h1 : sort = 3 → worth = a.toInt64 → Q 1) (h0 : Q 0) : wp_X12_isSign a sort worth Q := by
  unfold wp_X12_isSign
  by_cases c : sort = 3
  · refine br1 c ?_
    by_cases d : lg_cmp worth a.toInt64 = 0
    · refine br1 d (h1 c ?_)
      exact Int64.toInt_inj.mp (cmp_eq.mp d)
    · exact br0 d h0
  · exact br0 c h0
theorem nz_of {sort v : Int32} (h : sort = v) (hv : ¬ v = 0) : ¬ sort = 0 := by rw [h]; exact hv
theorem sl_nt8 {taped : Int32} {tape : Nat → Int32} (h2 : taped.toInt ≤ 400) {lo : Int} (hlo : 0 ≤ lo) {Qb : Int32 → Prop} (K : ∀ x : Int32, lo ≤ x.toInt → x.toInt ≤ taped.toInt → Qb x) : ∀ (n : Nat) (x : Int32), lo ≤ x.toInt → x.toInt ≤ taped.toInt → taped.toInt - x.toInt < n → wl_X12_nextToken_8 taped tape Qb n x := by
  intro n
  induction n with
  | zero => intro x a b c; exfalso; have c : taped.toInt - x.toInt < 0 := c; omega
  | succ n ih =>
    intro x a b c
    unfold wl_X12_nextToken_8
    by_cases d : taped ≤ x
    · exact br1 d (K x a b)
    · refine br0 d ?_
      have d' := nle_z rfl rfl d
      refine ⟨vpi rfl (by omega) (by omega), ?_⟩
      by_cases e : tape x.toNatClampNeg = 32
      · refine br1 e ?_
        have e1 := li_1 (x := x) (hi := 400) (by omega) (by omega)
        exact ih (x + 1) (by omega) (by omega) (by omega)
      · exact br0 e (K x a b)
theorem sl_nt149 {taped x8 y : Int32} {tape : Nat → Int32} (h2 : taped.toInt ≤ 400) {Qb : Int32 → Int64 → Prop} : ∀ (n : Nat) (x : Int32) (w : Int64), 0 ≤ x.toInt → x.toInt ≤ taped.toInt → taped.toInt - x.toInt < n → (∀ (x' : Int32) (w' : Int64), x.toInt ≤ x'.toInt → x'.toInt ≤ taped.toInt → (y = 1 → x.toInt < taped.toInt → 97 ≤ (tape x.toNatClampNeg).toInt → (tape x.toNatClampNeg).toInt ≤ 122 → x.toInt < x'.toInt) → Qb x' w') → wl_X12_nextToken_149 taped tape x8 y Qb n x w := by
  intro n
  induction n with
  | zero => intro x w a b c K; exfalso; have c : taped.toInt - x.toInt < 0 := c; omega
  | succ n ih =>
    intro x w a b c K
    unfold wl_X12_nextToken_149
    by_cases f : y = 1
    · refine br1 f ?_
      by_cases d : taped ≤ x
      · refine br1 d (K x w (by omega) b (fun _ q => ?_))
        have := le_z rfl rfl d; omega
      · refine br0 d ?_
        have d' := nle_z rfl rfl d
        have e1 := li_1 (x := x) (hi := 400) (by omega) (by omega)
        refine ⟨vpi rfl (by omega) (by omega), e_isSmall (fun s1 s2 => ?_) (fun s0 => ?_)⟩
        · refine br0 (by decide) ?_
          by_cases z : 10 ≤ x - x8
          · exact br1 z (ih (x + 1) _ (by omega) (by omega) (by omega) (fun x' w' k1 k2 _ => K x' w' (by omega) k2 (fun _ _ _ _ => by omega)))
          · exact br0 z ⟨vpi rfl (by omega) (by omega), ih (x + 1) _ (by omega) (by omega) (by omega) (fun x' w' k1 k2 _ => K x' w' (by omega) k2 (fun _ _ _ _ => by omega))⟩
        · exact br1 rfl (K x w (by omega) b (fun _ _ q1 q2 => (s0 ⟨q1, q2⟩).elim))
    · exact br0 f (K x w (by omega) b (fun q => (f q).elim))
theorem sl_nt243 {taped y : Int32} {tape : Nat → Int32} (h2 : taped.toInt ≤ 400) {Qb : Int32 → Int64 → Prop} : ∀ (n : Nat) (x : Int32) (w : Int64), 0 ≤ x.toInt → x.toInt ≤ taped.toInt → taped.toInt - x.toInt < n → (∀ (x' : Int32) (w' : Int64), x.toInt ≤ x'.toInt → x'.toInt ≤ taped.toInt → (y = 2 → x.toInt < taped.toInt → 48 ≤ (tape x.toNatClampNeg).toInt → (tape x.toNatClampNeg).toInt ≤ 57 → x.toInt < x'.toInt) → Qb x' w') → wl_X12_nextToken_243 taped tape y Qb n x w := by
  intro n
  induction n with
  | zero => intro x w a b c K; exfalso; have c : taped.toInt - x.toInt < 0 := c; omega
  | succ n ih =>
    intro x w a b c K
    unfold wl_X12_nextToken_243
    by_cases f : y = 2
    · refine br1 f ?_
      by_cases d : taped ≤ x
      · refine br1 d (K x w (by omega) b (fun _ q => ?_))
        have := le_z rfl rfl d; omega
      · refine br0 d ?_
        have d' := nle_z rfl rfl d
        have e1 := li_1 (x := x) (hi := 400) (by omega) (by omega)
        refine ⟨vpi rfl (by omega) (by omega), e_isDigit (fun s1 s2 => ?_) (fun s0 => ?_)⟩
        · refine br0 (by decide) ?_
          by_cases z : lg_cmp w 1000000 ≤ 0
          · exact br1 z ⟨vpi rfl (by omega) (by omega), ih (x + 1) _ (by omega) (by omega) (by omega) (fun x' w' k1 k2 _ => K x' w' (by omega) k2 (fun _ _ _ _ => by omega))⟩
          · exact br0 z (ih (x + 1) _ (by omega) (by omega) (by omega) (fun x' w' k1 k2 _ => K x' w' (by omega) k2 (fun _ _ _ _ => by omega)))
        · exact br1 rfl (K x w (by omega) b (fun _ _ q1 q2 => (s0 ⟨q1, q2⟩).elim))
    · exact br0 f (K x w (by omega) b (fun q => (f q).elim))
theorem sl_nt149a {taped x8 y : Int32} {tape : Nat → Int32} (h2 : taped.toInt ≤ 400) {Qb : Int32 → Int64 → Prop} : ∀ (n : Nat) (x : Int32) (w : Int64), 0 ≤ x.toInt → x.toInt ≤ taped.toInt → taped.toInt - x.toInt < n → (∀ (x' : Int32) (w' : Int64), x.toInt ≤ x'.toInt → x'.toInt ≤ taped.toInt → (y = 1 → x.toInt < taped.toInt → 97 ≤ (tape x.toNatClampNeg).toInt → (tape x.toNatClampNeg).toInt ≤ 122 → x.toInt < x'.toInt) → Qb x' w') → wl_X12_nextToken_149a taped tape x8 y Qb n x w := by
  intro n
  induction n with
  | zero => intro x w a b c K; exfalso; have c : taped.toInt - x.toInt < 0 := c; omega
  | succ n ih =>
    intro x w a b c K
    unfold wl_X12_nextToken_149a
    by_cases f : y = 1
    · refine br1 f ?_
      by_cases d : taped ≤ x
      · refine br1 d (K x w (by omega) b (fun _ q => ?_))
        have := le_z rfl rfl d; omega
      · refine br0 d ?_
        have d' := nle_z rfl rfl d
        have e1 := li_1 (x := x) (hi := 400) (by omega) (by omega)
        refine ⟨vpi rfl (by omega) (by omega), e_isSmall (fun s1 s2 => ?_) (fun s0 => ?_)⟩
        · refine br0 (by decide) ?_
          by_cases z : 10 ≤ x - x8
          · exact br1 z (ih (x + 1) _ (by omega) (by omega) (by omega) (fun x' w' k1 k2 _ => K x' w' (by omega) k2 (fun _ _ _ _ => by omega)))
          · exact br0 z ⟨vpi rfl (by omega) (by omega), ih (x + 1) _ (by omega) (by omega) (by omega) (fun x' w' k1 k2 _ => K x' w' (by omega) k2 (fun _ _ _ _ => by omega))⟩
        · exact br1 rfl (K x w (by omega) b (fun _ _ q1 q2 => (s0 ⟨q1, q2⟩).elim))
    · exact br0 f (K x w (by omega) b (fun q => (f q).elim))
theorem sl_nt243a {taped y : Int32} {tape : Nat → Int32} (h2 : taped.toInt ≤ 400) {Qb : Int32 → Int64 → Prop} : ∀ (n : Nat) (x : Int32) (w : Int64), 0 ≤ x.toInt → x.toInt ≤ taped.toInt → taped.toInt - x.toInt < n → (∀ (x' : Int32) (w' : Int64), x.toInt ≤ x'.toInt → x'.toInt ≤ taped.toInt → (y = 2 → x.toInt < taped.toInt → 48 ≤ (tape x.toNatClampNeg).toInt → (tape x.toNatClampNeg).toInt ≤ 57 → x.toInt < x'.toInt) → Qb x' w') → wl_X12_nextToken_243a taped tape y Qb n x w := by
  intro n
  induction n with
  | zero => intro x w a b c K; exfalso; have c : taped.toInt - x.toInt < 0 := c; omega
  | succ n ih =>
    intro x w a b c K
    unfold wl_X12_nextToken_243a
    by_cases f : y = 2
    · refine br1 f ?_
      by_cases d : taped ≤ x
      · refine br1 d (K x w (by omega) b (fun _ q => ?_))
        have := le_z rfl rfl d; omega
      · refine br0 d ?_
        have d' := nle_z rfl rfl d
        have e1 := li_1 (x := x) (hi := 400) (by omega) (by omega)
        refine ⟨vpi rfl (by omega) (by omega), e_isDigit (fun s1 s2 => ?_) (fun s0 => ?_)⟩
        · refine br0 (by decide) ?_
          by_cases z : lg_cmp w 1000000 ≤ 0
          · exact br1 z ⟨vpi rfl (by omega) (by omega), ih (x + 1) _ (by omega) (by omega) (by omega) (fun x' w' k1 k2 _ => K x' w' (by omega) k2 (fun _ _ _ _ => by omega))⟩
          · exact br0 z (ih (x + 1) _ (by omega) (by omega) (by omega) (fun x' w' k1 k2 _ => K x' w' (by omega) k2 (fun _ _ _ _ => by omega)))
        · exact br1 rfl (K x w (by omega) b (fun _ _ q1 q2 => (s0 ⟨q1, q2⟩).elim))
    · exact br0 f (K x w (by omega) b (fun q => (f q).elim))
theorem s_nextToken {taped to : Int32} {tape : Nat → Int32} (h0 : 0 ≤ to.toInt) (h1 : to.toInt ≤ taped.toInt) (h2 : taped.toInt ≤ 400) {Q : (Int32 × Int32 × Int32 × Int64) → Prop} (hq : ∀ (fr to' sort : Int32) (worth : Int64), to.toInt ≤ fr.toInt → Tk taped fr to' sort → Q (fr, to', sort, worth)) : wp_X12_nextToken taped to tape Q := by
  unfold wp_X12_nextToken
  refine sl_nt8 h2 h0 (fun x x0 x1 => ?_) _ to (by omega) h1 (by omega)
  refine jn1_i (fun y : Int32 => (y = 0 ∧ x.toInt = taped.toInt) ∨ (y = 1 ∧ x.toInt < taped.toInt ∧ 97 ≤ (tape x.toNatClampNeg).toInt ∧ (tape x.toNatClampNeg).toInt ≤ 122) ∨ (y = 2 ∧ x.toInt < taped.toInt ∧ 48 ≤ (tape x.toNatClampNeg).toInt ∧ (tape x.toNatClampNeg).toInt ≤ 57) ∨ (y = 3 ∧ x.toInt < taped.toInt)) (fun y hy => ?_) (fun z hz => ?_)
  · by_cases c : y = 3
    · refine br1 c ?_
      have hx : x.toInt < taped.toInt := by
        rcases hy with h | h | h | h
        · rw [h.1] at c; exact absurd c (by decide)
        · exact h.2.1
        · exact h.2.1
        · exact h.2
      have e1 := li_1 (x := x) (hi := 400) (by omega) (by omega)
      refine ⟨vpi rfl (by omega) (by omega), sl_nt149a h2 _ _ _ (by omega) (by omega) (by omega) (fun a w a1 a2 _ => ?_)⟩
      refine sl_nt243a h2 _ _ _ (by omega) (by omega) (by omega) (fun b v b1 b2 _ => ?_)
      refine hq _ _ _ _ (by omega) ⟨by omega, by omega, by omega, by omega, by rw [c]; decide, by rw [c]; decide, fun _ => by omega⟩
    · refine br0 c ?_
      refine sl_nt149 h2 _ _ _ (by omega) (by omega) (by omega) (fun a w a1 a2 a3 => ?_)
      refine sl_nt243 h2 _ _ _ (by omega) (by omega) (by omega) (fun b v b1 b2 b3 => ?_)
      rcases hy with h | h | h | h
      · refine hq _ _ _ _ (by omega) ⟨by omega, by omega, by omega, by omega, by rw [h.1]; decide, by rw [h.1]; decide, fun q => (q h.1).elim⟩
      · have := a3 h.1 h.2.1 h.2.2.1 h.2.2.2
        refine hq _ _ _ _ (by omega) ⟨by omega, by omega, by omega, by omega, by rw [h.1]; decide, by rw [h.1]; decide, fun q => by omega⟩
      · refine hq _ _ _ _ (by omega) ⟨by omega, by omega, by omega, by omega, by rw [h.1]; decide, by rw [h.1]; decide, fun q => ?_⟩
        by_cases e : x.toInt = a.toInt
        · have e' : a = x := Int32.toInt_inj.mp e.symm
          rw [e'] at b3
          have := b3 h.1 h.2.1 h.2.2.1 h.2.2.2
          omega
        · omega
      · exact (c h.1).elim
  · by_cases c : x = taped
    · exact br1 c (hz _ (Or.inl ⟨rfl, by rw [c]⟩))
    · refine br0 c ?_
      have c' := ne_z rfl rfl c
      refine ⟨vpi rfl (by omega) (by omega), e_isSmall (fun s1 s2 => ?_) (fun s0 => ?_)⟩
      · exact br0 (by decide) (hz _ (Or.inr (Or.inl ⟨rfl, by omega, s1, s2⟩)))
      · refine br1 rfl ⟨vpi rfl (by omega) (by omega), e_isDigit (fun s1 s2 => ?_) (fun s0 => ?_)⟩
        · exact br0 (by decide) (hz _ (Or.inr (Or.inr (Or.inl ⟨rfl, by omega, s1, s2⟩))))
        · exact br1 rfl (hz _ (Or.inr (Or.inr (Or.inr ⟨rfl, by omega⟩))))
theorem Tk.next {taped fr to sort : Int32} (h : Tk taped fr to sort) (hs : ¬ sort = 0) {tape : Nat → Int32} {Q : (Int32 × Int32 × Int32 × Int64) → Prop} (hq : ∀ (fr' to' sort' : Int32) (worth : Int64), fr.toInt < fr'.toInt → Tk taped fr' to' sort' → Q (fr', to', sort', worth)) : wp_X12_nextToken taped to tape Q := by
  obtain ⟨a1, a2, a3, a4, a5, a6, a7⟩ := h
  have := a7 hs
  exact s_nextToken (by omega) a3 a4 (fun fr' to' sort' w h1 h2 => hq fr' to' sort' w (by omega) h2)
theorem s_must {a taped fr to sort : Int32} {worth : Int64} {fault bad : Int32} {tape : Nat → Int32} (hT : Tk taped fr to sort) (ha : ¬ a = 0 → ¬ sort = 0) (hb : bad = 0 ∨ bad = 1) {Q : (Int32 × Int32 × Int32 × Int64 × Int32 × Int32) → Prop} (hq : ∀ (fr' to' sort' : Int32) (worth' : Int64) (fault' bad' : Int32), Tk taped fr' to' sort' → fr.toInt ≤ fr'.toInt → (bad' = 0 ∨ bad' = 1) → (bad' = 0 → bad = 0 ∧ ¬ a = 0 ∧ fr.toInt < fr'.toInt) → Q (fr', to', sort', worth', fault', bad')) : wp_X12_must a taped fr to sort worth fault bad tape Q := by
  unfold wp_X12_must
  by_cases c : bad = 0
  · refine br1 c ?_
    by_cases d : a = 0
    · exact br1 d (hq _ _ _ _ _ _ hT (Int.le_refl _) (Or.inr rfl) (fun q => absurd q (by decide)))
    · refine br0 d (hT.next (ha d) (fun fr' to' sort' w h1 h2 => ?_))
      exact un4_i (hq _ _ _ _ _ _ h2 (by omega) hb (fun _ => ⟨c, d, h1⟩))
  · exact br0 c (hq _ _ _ _ _ _ hT (Int.le_refl _) hb (fun q => (c q).elim))
theorem s_number {a b : Int64} {taped fr to sort : Int32} {worth : Int64} {fault bad : Int32} {tape : Nat → Int32} (hT : Tk taped fr to sort) (hb : bad = 0 ∨ bad = 1) {Q : Int32 → (Int32 × Int32 × Int32 × Int64 × Int32 × Int32) → Prop} (hq : ∀ (r fr' to' sort' : Int32) (worth' : Int64) (fault' bad' : Int32), Tk taped fr' to' sort' → fr.toInt ≤ fr'.toInt → (bad' = 0 ∨ bad' = 1) → (bad' = 0 → bad = 0 ∧ fr.toInt < fr'.toInt ∧ a.toInt ≤ worth.toInt ∧ worth.toInt ≤ b.toInt ∧ r = worth.toInt32) → Q r (fr', to', sort', worth', fault', bad')) : wp_X12_number a b taped fr to sort worth fault bad tape Q := by
  unfold wp_X12_number
  have k0 : ∀ (y : Int32), y = 0 → wp_X12_must y taped fr to sort worth fault bad tape (un6 fun u0 u1 u2 u3 u4 u5 => Q worth.toInt32 (u0, u1, u2, u3, u4, u5)) := fun y hy =>
    s_must hT (fun q => (q hy).elim) hb (fun f1 f2 f3 f4 f5 f6 h1 h2 h3 h4 => un6_i (hq _ _ _ _ _ _ _ h1 h2 h3 (fun q => ((h4 q).2.1 hy).elim)))
  by_cases c : sort = 2
  · refine br1 c ?_
    unfold wp_X12_in
    by_cases d : lg_cmp worth a < 0
    · exact br1 d (br1 rfl (k0 0 rfl))
    · refine br0 d ?_
      by_cases e : 0 < lg_cmp worth b
      · exact br1 e (br1 rfl (k0 0 rfl))
      · refine br0 e (br0 (by decide) ?_)
        have d' := c_nlt rfl rfl d
        have e' := c_ngt rfl rfl e
        exact s_must hT (fun _ => nz_of c (by decide)) hb (fun f1 f2 f3 f4 f5 f6 h1 h2 h3 h4 => un6_i (hq _ _ _ _ _ _ _ h1 h2 h3 (fun q => ⟨(h4 q).1, (h4 q).2.2, d', e', rfl⟩)))
  · exact br0 c (k0 0 rfl)
theorem sl_partAt {sort : Int32} {worth : Int64} {ws : Nat → Int64} {Qb : Int32 → Int32 → Prop} (K : ∀ (x v : Int32), (v = -1 ∨ (sort = 1 ∧ 1 ≤ v.toInt ∧ v.toInt ≤ 9)) → Qb x v) : ∀ (n : Nat) (x v : Int32), 0 ≤ x.toInt → x.toInt ≤ 9 → (v = -1 ∨ (sort = 1 ∧ 1 ≤ v.toInt ∧ v.toInt ≤ 9)) → 9 - x.toInt < n → wl_X12_partAt_4 sort worth ws Qb n x v := by
  intro n
  induction n with
  | zero => intro x v a b c d; exfalso; have d : 9 - x.toInt < 0 := d; omega
  | succ n ih =>
    intro x v a b c d
    unfold wl_X12_partAt_4
    by_cases e : 9 ≤ x
    · exact br1 e (K x v c)
    · refine br0 e ?_
      have e' := nle_z (x := 9) rfl rfl e
      have e1 := li_1 (x := x) (hi := 9) (by omega) (by omega)
      refine ⟨vpi rfl (by omega) (by omega), e_isWord (fun s1 _ => ?_) ?_⟩
      · refine br0 (by decide) (ih _ _ (by omega) (by omega) (Or.inr ⟨s1, ?_⟩) (by omega))
        omega
      · exact br1 rfl (ih _ _ (by omega) (by omega) c (by omega))
theorem sl_orderPartAt {sort : Int32} {worth : Int64} {ws : Nat → Int64} {Qb : Int32 → Int32 → Prop} (K : ∀ (x v : Int32), (v = -1 ∨ (sort = 1 ∧ 1 ≤ v.toInt ∧ v.toInt ≤ 6)) → Qb x v) : ∀ (n : Nat) (x v : Int32), 0 ≤ x.toInt → x.toInt ≤ 6 → (v = -1 ∨ (sort = 1 ∧ 1 ≤ v.toInt ∧ v.toInt ≤ 6)) → 6 - x.toInt < n → wl_X12_orderPartAt_4 sort worth ws Qb n x v := by
  intro n
  induction n with
  | zero => intro x v a b c d; exfalso; have d : 6 - x.toInt < 0 := d; omega
  | succ n ih =>
    intro x v a b c d
    unfold wl_X12_orderPartAt_4
    by_cases e : 6 ≤ x
    · exact br1 e (K x v c)
    · refine br0 e ?_
      have e' := nle_z (x := 6) rfl rfl e
      have e1 := li_1 (x := x) (hi := 6) (by omega) (by omega)
      refine ⟨vpi rfl (by omega) (by omega), e_isWord (fun s1 _ => ?_) ?_⟩
      · refine br0 (by decide) (ih _ _ (by omega) (by omega) (Or.inr ⟨s1, ?_⟩) (by omega))
        omega
      · exact br1 rfl (ih _ _ (by omega) (by omega) c (by omega))
theorem sl_readLaw4 {sort : Int32} {worth : Int64} {ws : Nat → Int64} {Qb : Int32 → Int32 → Prop} (K : ∀ (x v : Int32), (v = -1 ∨ (sort = 1 ∧ 0 ≤ v.toInt ∧ v.toInt ≤ 4)) → Qb x v) : ∀ (n : Nat) (x v : Int32), 0 ≤ x.toInt → x.toInt ≤ 5 → (v = -1 ∨ (sort = 1 ∧ 0 ≤ v.toInt ∧ v.toInt ≤ 4)) → 5 - x.toInt < n → wl_X12_readLaw_4 sort worth ws Qb n x v := by
  intro n
  induction n with
  | zero => intro x v a b c d; exfalso; have d : 5 - x.toInt < 0 := d; omega
  | succ n ih =>
    intro x v a b c d
    unfold wl_X12_readLaw_4
    by_cases e : 5 ≤ x
    · exact br1 e (K x v c)
    · refine br0 e ?_
      have e' := nle_z (x := 5) rfl rfl e
      have e1 := li_1 (x := x) (hi := 5) (by omega) (by omega)
      refine ⟨vpi rfl (by omega) (by omega), e_isWord (fun s1 _ => ?_) ?_⟩
      · refine br0 (by decide) (ih _ _ (by omega) (by omega) (Or.inr ⟨s1, ?_⟩) (by omega))
        omega
      · exact br1 rfl (ih _ _ (by omega) (by omega) c (by omega))
theorem sl_readOrder4 {sort : Int32} {worth : Int64} {ws : Nat → Int64} {Qb : Int32 → Int32 → Prop} (K : ∀ (x v : Int32), (v = -1 ∨ (sort = 1 ∧ 0 ≤ v.toInt ∧ v.toInt ≤ 3)) → Qb x v) : ∀ (n : Nat) (x v : Int32), 0 ≤ x.toInt → x.toInt ≤ 4 → (v = -1 ∨ (sort = 1 ∧ 0 ≤ v.toInt ∧ v.toInt ≤ 3)) → 4 - x.toInt < n → wl_X12_readOrder_4 sort worth ws Qb n x v := by
  intro n
  induction n with
  | zero => intro x v a b c d; exfalso; have d : 4 - x.toInt < 0 := d; omega
  | succ n ih =>
    intro x v a b c d
    unfold wl_X12_readOrder_4
    by_cases e : 4 ≤ x
    · exact br1 e (K x v c)
    · refine br0 e ?_
      have e' := nle_z (x := 4) rfl rfl e
      have e1 := li_1 (x := x) (hi := 4) (by omega) (by omega)
      refine ⟨vpi rfl (by omega) (by omega), e_isWord (fun s1 _ => ?_) ?_⟩
      · refine br0 (by decide) (ih _ _ (by omega) (by omega) (Or.inr ⟨s1, ?_⟩) (by omega))
        omega
      · exact br1 rfl (ih _ _ (by omega) (by omega) c (by omega))
theorem s_partAt {sort : Int32} {worth : Int64} {ws : Nat → Int64} {Q : Int32 → Prop} (hq : ∀ r : Int32, (r = -1 ∨ (sort = 1 ∧ 1 ≤ r.toInt ∧ r.toInt ≤ 9)) → Q r) : wp_X12_partAt sort worth ws Q := by
  unfold wp_X12_partAt
  exact sl_partAt (fun x v h => hq v h) _ 0 (-1) (by decide) (by decide) (Or.inl rfl) (by decide)
theorem s_orderPartAt {sort : Int32} {worth : Int64} {ws : Nat → Int64} {Q : Int32 → Prop} (hq : ∀ r : Int32, (r = -1 ∨ (sort = 1 ∧ 1 ≤ r.toInt ∧ r.toInt ≤ 6)) → Q r) : wp_X12_orderPartAt sort worth ws Q := by
  unfold wp_X12_orderPartAt
  exact sl_orderPartAt (fun x v h => hq v h) _ 0 (-1) (by decide) (by decide) (Or.inl rfl) (by decide)
/-- how strongly one binds -/
def bnd (a : Int32) : Int32 := if a < 31 then (if a = 30 then 1 else (if a = 29 then 2 else (if a = 28 then 3 else (if a < 25 then (if a < 22 then 5 else 6) else 4)))) else 0
theorem e_binds {a : Int32} {Q : Int32 → Prop} (h : Q (bnd a)) : wp_X12_binds a Q := by
  unfold wp_X12_binds
  unfold bnd at h
  by_cases c1 : a < 31
  · rw [if_pos c1] at h ⊢
    by_cases c2 : a = 30
    · rw [if_pos c2] at h ⊢; exact h
    · rw [if_neg c2] at h ⊢
      by_cases c3 : a = 29
      · rw [if_pos c3] at h ⊢; exact h
      · rw [if_neg c3] at h ⊢
        by_cases c4 : a = 28
        · rw [if_pos c4] at h ⊢; exact h
        · rw [if_neg c4] at h ⊢
          by_cases c5 : a < 25
          · rw [if_pos c5] at h ⊢
            by_cases c6 : a < 22
            · rw [if_pos c6] at h ⊢; exact h
            · rw [if_neg c6] at h ⊢; exact h
          · rw [if_neg c5] at h ⊢; exact h
  · rw [if_neg c1] at h ⊢; exact h
theorem bnd_v (a : Int32) : (a.toInt < 25 ∧ 5 ≤ (bnd a).toInt ∧ (bnd a).toInt ≤ 6) ∨ (25 ≤ a.toInt ∧ a.toInt ≤ 30 ∧ 1 ≤ (bnd a).toInt ∧ (bnd a).toInt ≤ 4) ∨ (31 ≤ a.toInt ∧ (bnd a).toInt = 0) := by
  unfold bnd
  by_cases c1 : a < 31
  · rw [if_pos c1]
    have d1 := lt_z (y := 31) rfl rfl c1
    by_cases c2 : a = 30
    · rw [if_pos c2, c2]; decide
    · rw [if_neg c2]
      by_cases c3 : a = 29
      · rw [if_pos c3, c3]; decide
      · rw [if_neg c3]
        by_cases c4 : a = 28
        · rw [if_pos c4, c4]; decide
        · rw [if_neg c4]
          by_cases c5 : a < 25
          · rw [if_pos c5]
            have d5 := lt_z (y := 25) rfl rfl c5
            left
            refine ⟨d5, ?_⟩
            by_cases c6 : a < 22
            · rw [if_pos c6]; decide
            · rw [if_neg c6]; decide
          · rw [if_neg c5]
            have d5 := nlt_z (y := 25) rfl rfl c5
            right; left
            exact ⟨d5, by omega, by decide, by decide⟩
  · rw [if_neg c1]
    have d1 := nlt_z (y := 31) rfl rfl c1
    right; right
    exact ⟨d1, rfl⟩
theorem sub1 {q : Int32} {k : Nat} (h : q.toInt = ((k + 1 : Nat) : Int)) : (q - 1).toInt = (k : Int) := by
  have e : (q - 1).toInt = q.toInt - 1 := sub_z rfl rfl (by omega) (by have := i32_hi q; omega)
  omega
theorem add1 {q : Int32} {k : Nat} (h : q.toInt = (k : Int)) (hk : k ≤ 100000) : (q + 1).toInt = ((k + 1 : Nat) : Int) := by
  have e : (q + 1).toInt = q.toInt + 1 := add_z rfl rfl (by omega) (by omega)
  omega
theorem sl_settle {g : Prop} {s fr : Nat} {a : Int32} {o0 a0 pile pat : Nat → Int32} (hf : fr ≤ 400) (ha : 1 ≤ a.toInt) {Qb : Int32 → Int32 → (Nat → Int32) → (Nat → Int32) → Prop} : ∀ (m n p : Nat) (c q : Int32) (op ar : Nat → Int32), c.toInt = (n : Int) → q.toInt = (p : Int) → PI g 1 s n p fr o0 a0 pile pat op ar → p < m → (∀ (n' p' : Nat) (c' q' : Int32) (op' ar' : Nat → Int32), c'.toInt = (n' : Int) → q'.toInt = (p' : Int) → PI g 1 s n' p' fr o0 a0 pile pat op' ar' → p' ≤ p → (∀ k, p' ≤ k → k < p → a.toInt ≤ (bnd (pile k)).toInt) → (p' = 0 ∨ ∃ k, p' = k + 1 ∧ (bnd (pile k)).toInt < a.toInt) → Qb c' q' op' ar') → wl_X12_settle_0 a pile pat Qb m c q op ar := by
  intro m
  induction m with
  | zero => intro n p c q op ar _ _ _ h; omega
  | succ m ih =>
    intro n p c q op ar hc hq hI hm K
    unfold wl_X12_settle_0
    cases p with
    | zero =>
      refine br1 ?_ (K n 0 c q op ar hc hq hI (Nat.le_refl 0) (fun k k1 k2 => by omega) (Or.inl rfl))
      exact z_le rfl rfl (by rw [hq]; decide)
    | succ p =>
      have e1 := sub1 hq
      have en := tnN e1
      obtain ⟨⟨a1, a2, a3, a4, a5⟩, -, -⟩ := id hI
      refine br0 ?_ ?_
      · exact z_nle rfl rfl (by rw [hq]; show (0 : Int) < _; omega)
      rw [en]
      refine ⟨vpi e1 (by omega) (by omega), e_binds ?_⟩
      by_cases d : bnd (pile p) < a
      · exact br1 d (K n (p + 1) c q op ar hc hq hI (Nat.le_refl _) (fun k k1 k2 => by omega) (Or.inr ⟨p, rfl, lt_z rfl rfl d⟩))
      · refine br0 d ⟨vpi e1 (by omega) (by omega), jn_s ?_⟩
        have d' := nlt_z rfl rfl d
        obtain ⟨r1, r2⟩ := a4 p (by omega)
        have KK : ∀ (n' p' : Nat) (c' q' : Int32) (op' ar' : Nat → Int32), c'.toInt = (n' : Int) → q'.toInt = (p' : Int) → PI g 1 s n' p' fr o0 a0 pile pat op' ar' → p' ≤ p → (∀ k, p' ≤ k → k < p → a.toInt ≤ (bnd (pile k)).toInt) → (p' = 0 ∨ ∃ k, p' = k + 1 ∧ (bnd (pile k)).toInt < a.toInt) → Qb c' q' op' ar' := fun n' p' c' q' op' ar' h1 h2 h3 h4 h5 h6 => K n' p' c' q' op' ar' h1 h2 h3 (by omega) (fun k k1 k2 => by
          by_cases e : k = p
          · rw [e]; exact d'
          · exact h5 k k1 (by omega)) h6
        have J : isJ (pile p) → vp_in (q - 1) 400 ∧ vp_in (pat p) 400 ∧ wl_X12_settle_0 a pile pat Qb m c (q - 1) op (upd ar (pat p).toNatClampNeg c) := fun hj => by
          obtain ⟨i, i1, i2, i3⟩ := a5 p (by omega) hj
          refine ⟨vpi e1 (by omega) (by omega), vpi i1 (by omega) (by omega), ?_⟩
          rw [tnN i1]
          exact ih n p c (q - 1) op _ hc e1 (hI.popj hj i1 hc) (by omega) KK
        by_cases x1 : pile p = 29
        · refine br1 x1 (J ?_)
          rw [x1]; exact ⟨by decide, by decide⟩
        · refine br0 x1 ⟨vpi e1 (by omega) (by omega), ?_⟩
          by_cases x2 : pile p = 30
          · refine br1 x2 (J ?_)
            rw [x2]; exact ⟨by decide, by decide⟩
          · refine br0 x2 ⟨vpi e1 (by omega) (by omega), ?_⟩
            have y1 := ne_z (y := 29) rfl rfl x1
            have y2 := ne_z (y := 30) rfl rfl x2
            by_cases y3 : (pile p).toInt ≤ 28
            · rw [npd1 ⟨r1, y3⟩] at a2
              unfold wp_X12_emit
              refine ⟨vpi hc (by omega) (by omega), vpi hc (by omega) (by omega), un3_i ?_⟩
              rw [tnN hc]
              exact ih (n + 1) p (c + 1) (q - 1) _ _ (add1 hc (by omega)) e1 (hI.popc r1 y3) (by omega) KK
            · exfalso
              have := bnd_v (pile p)
              omega
theorem s_settle {g : Prop} {s fr n p : Nat} {a c q : Int32} {o0 a0 pile pat op ar : Nat → Int32} (hf : fr ≤ 400) (ha : 1 ≤ a.toInt) (hc : c.toInt = (n : Int)) (hq : q.toInt = (p : Int)) (hI : PI g 1 s n p fr o0 a0 pile pat op ar) {Q : (Int32 × Int32 × (Nat → Int32) × (Nat → Int32)) → Prop} (K : ∀ (n' p' : Nat) (c' q' : Int32) (op' ar' : Nat → Int32), c'.toInt = (n' : Int) → q'.toInt = (p' : Int) → PI g 1 s n' p' fr o0 a0 pile pat op' ar' → p' ≤ p → (∀ k, p' ≤ k → k < p → a.toInt ≤ (bnd (pile k)).toInt) → (p' = 0 ∨ ∃ k, p' = k + 1 ∧ (bnd (pile k)).toInt < a.toInt) → Q (c', q', op', ar')) : wp_X12_settle a c q pile op ar pat Q := by
  unfold wp_X12_settle
  refine sl_settle hf ha _ n p c q op ar hc hq hI ?_ (fun n' p' c' q' op' ar' h1 h2 h3 h4 h5 h6 => K n' p' c' q' op' ar' h1 h2 h3 h4 h5 h6)
  have := hI.1.2.2.1
  omega
