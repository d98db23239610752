/-- a clause's TIMES -/
def HD (f : Nat → Int32) : Prop := ∀ i : Nat, i % 5 = 4 → (f i).toInt ≤ 20
theorem HD.up {f : Nat → Int32} (h : HD f) {n : Nat} {z : Int} {v : Int32} (hn : (n : Int) = z) (hv : ¬ z % 5 = 4 ∨ v.toInt ≤ 20) : HD (upd f n v) := by
  intro i hi
  by_cases e : i = n
  · rw [e, pk_us]; rw [e] at hi; omega
  · rw [pk_un e]; exact h i hi
theorem HD.at {f : Nat → Int32} (h : HD f) {n : Nat} {z : Int} (hn : (n : Int) = z) : ¬ z % 5 = 4 ∨ (f n).toInt ≤ 20 := by
  by_cases e : n % 5 = 4
  · exact Or.inr (h n e)
  · exact Or.inl (by omega)
/-! the word list -/
theorem zby_n : ∀ k, k < 232 → narrow .char (.int (((((zby k) &&& 255)).toUInt32 % 65536).toInt32)) = .int (((((zby k) &&& 255)).toUInt32 % 65536).toInt32) := by decide +kernel
theorem s_ccharAt {a : Int32} {xe : XE} (hx : isRf xe.2.2) (h0 : 0 ≤ a.toInt) (h1 : a.toInt < 232) {Q : Int32 → Prop} (hq : ∀ r, Q r) : wp_J0_charAt_5068e a xe Q := by
  unfold wp_J0_charAt_5068e wp_J0_isLatin1_aae02
  refine br0 (by decide) ?_
  unfold wp_J1_charAt_3b067 wp_J0_checkIndex_df160 wp_J3_checkIndex_8e157
  refine ⟨hx, ?_⟩
  unfold wp_J3_checkIndex_8e157n
  refine br0 (z_nlt (a := a) (b := 0) (x := a.toInt) (y := 0) rfl rfl h0) ?_
  refine br1 (z_lt (a := a) (b := 232) (x := a.toInt) (y := 232) rfl rfl h1) ?_
  have e := tnz (i := a) (x := a.toInt) rfl h0
  have n := zby_n a.toNatClampNeg (by omega)
  exact ⟨vpi (i := a) (x := a.toInt) rfl h0 (by omega), n, n, hq _⟩
theorem sl_cisWord {w f t : Int32} {fb : Nat → Int32} {xe : XE} (hx : isRf xe.2.2) (w0 : 0 ≤ w.toInt) (w1 : w.toInt ≤ 28) (f0 : 0 ≤ f.toInt) (t1 : t.toInt ≤ 400) (d1 : t.toInt - f.toInt < 8) {Q : Int32 → Prop} (hq : ∀ r, Q r) {Qb : Int32 → Prop} (KX : ∀ x, Qb x) : ∀ (n : Nat) (x : Int32), f.toInt ≤ x.toInt → t.toInt + 1 - x.toInt < (n : Int) → 0 < (n : Int) → wl_X5_isWord_9 w f t fb xe Q Qb n x := by
  intro n
  induction n with
  | zero => intro x _ _ h; exact absurd h (by decide)
  | succ n ih =>
    intro x hx0 hm _
    have hm : t.toInt + 1 - x.toInt < (n : Int) + 1 := by simpa using hm
    unfold wl_X5_isWord_9
    by_cases c : t ≤ x
    · exact br1 c (KX _)
    · refine br0 c ?_
      have c1 := nle_z (a := t) (b := x) (x := t.toInt) (y := x.toInt) rfl rfl c
      have e1 : (8 * w).toInt = 8 * w.toInt := mul_z (a := 8) (b := w) rfl rfl (by omega) (by omega)
      have e2 : (8 * w + x).toInt = 8 * w.toInt + x.toInt := add_z e1 rfl (by omega) (by omega)
      have e3 : (8 * w + x - f).toInt = 8 * w.toInt + x.toInt - f.toInt := sub_z e2 rfl (by omega) (by omega)
      refine s_ccharAt hx (by omega) (by omega) (fun r => ?_)
      refine ⟨vpi (i := x) (x := x.toInt) rfl (by omega) (by omega), ?_⟩
      by_cases c2 : r = fb x.toNatClampNeg
      · refine br1 c2 ?_
        have e4 : (x + 1).toInt = x.toInt + 1 := add_z (a := x) (b := 1) rfl rfl (by omega) (by omega)
        exact ih _ (by omega) (by omega) (by omega)
      · exact br0 c2 (hq _)
theorem s_cisWord {w f t : Int32} {fb : Nat → Int32} {xe : XE} (hx : isRf xe.2.2) (w0 : 0 ≤ w.toInt) (w1 : w.toInt ≤ 28) (f0 : 0 ≤ f.toInt) (ft : f.toInt ≤ t.toInt) (t1 : t.toInt ≤ 400) (d1 : t.toInt - f.toInt < 8) {Q : Int32 → Prop} (hq : ∀ r, Q r) : wp_X5_isWord w f t fb xe Q := by
  unfold wp_X5_isWord
  refine sl_cisWord hx w0 w1 f0 t1 d1 hq (fun x => ?_) _ _ (by omega) (by omega) (by omega)
  have e1 : (8 * w).toInt = 8 * w.toInt := mul_z (a := 8) (b := w) rfl rfl (by omega) (by omega)
  have e2 : (8 * w + t).toInt = 8 * w.toInt + t.toInt := add_z e1 rfl (by omega) (by omega)
  have e3 : (8 * w + t - f).toInt = 8 * w.toInt + t.toInt - f.toInt := sub_z e2 rfl (by omega) (by omega)
  refine s_ccharAt hx (by omega) (by omega) (fun r => ?_)
  by_cases c2 : r = 32
  · exact br1 c2 (hq _)
  · exact br0 c2 (hq _)
theorem sl_cwordIn {f t : Int32} {fb : Nat → Int32} {xe : XE} (hx : isRf xe.2.2) (f0 : 0 ≤ f.toInt) (ft : f.toInt ≤ t.toInt) (t1 : t.toInt ≤ 400) (d1 : t.toInt - f.toInt < 8) {Q : Int32 → Prop} (hq : ∀ r, Q r) {Qb : Int32 → Prop} (KX : ∀ x, Qb x) : ∀ (n : Nat) (x : Int32), 0 ≤ x.toInt → x.toInt ≤ 29 → 30 - x.toInt < (n : Int) → wl_X5_wordIn_13 f t fb xe Q Qb n x := by
  intro n
  induction n with
  | zero => intro x _ _ h; exfalso; have h : 30 - x.toInt < 0 := h; omega
  | succ n ih =>
    intro x h0 h1 hm
    have hm : 30 - x.toInt < (n : Int) + 1 := by simpa using hm
    unfold wl_X5_wordIn_13
    by_cases c : 29 ≤ x
    · exact br1 c (KX _)
    · refine br0 c ?_
      have c1 := nle_z (a := 29) (b := x) (x := 29) (y := x.toInt) rfl rfl c
      refine s_cisWord hx h0 (by omega) f0 ft t1 d1 (fun r => ?_)
      by_cases c2 : r = 0
      · refine br1 c2 ?_
        have e4 : (x + 1).toInt = x.toInt + 1 := add_z (a := x) (b := 1) rfl rfl (by omega) (by omega)
        exact ih _ (by omega) (by omega) (by omega)
      · exact br0 c2 (hq _)
theorem s_X5_wordIn (a : Int32) (b : Int32) (f_h0_bytes : Nat → Int32) (xe : XE) (h_a : 0 ≤ a.toInt ∧ a.toInt ≤ 400) (h_b : 0 ≤ b.toInt ∧ b.toInt ≤ 400) (h_f : BY f_h0_bytes) (e_0 : isRf xe.2.2) (e_1 : a.toInt ≤ b.toInt) {Q : Int32 → Prop} (hq : ∀ (r : Int32), True → Q r) : wp_X5_wordIn a b f_h0_bytes xe Q := by
  unfold wp_X5_wordIn
  by_cases c : (b - a) < 8
  · refine br1 c ?_
    have c1 := lt_z (a := b - a) (b := 8) (x := (b - a).toInt) (y := 8) rfl rfl c
    have e1 : (b - a).toInt = b.toInt - a.toInt := sub_z rfl rfl (by omega) (by omega)
    exact sl_cwordIn e_0 (by omega) e_1 (by omega) (by omega) (fun r => hq r trivial) (fun x => hq _ trivial) _ _ (by decide) (by decide) (by have : Int32.toInt 0 = 0 := rfl; omega)
  · exact br0 c (hq _ trivial)
set_option maxRecDepth 100000 in
theorem s_X5_tokenNow (h0_tokenCount : Int32) (h0_now : Int32) (f_h0_tokens : Nat → Int32) (h_h0_tokenCount : 0 ≤ h0_tokenCount.toInt ∧ h0_tokenCount.toInt ≤ 401) {Q : Int32 → Prop} (hq : ∀ (r : Int32), True → Q r) : wp_X5_tokenNow h0_tokenCount h0_now f_h0_tokens Q := by
  unfold wp_X5_tokenNow
  by_cases c1 : h0_now < 0
  · refine br1 c1 ?_
    have d2 := lt_z (a := h0_now) (b := 0) (x := (Int32.toInt h0_now)) (y := 0) rfl rfl c1
    exact hq _ trivial
  · refine br0 c1 ?_
    have d3 := nlt_z (a := h0_now) (b := 0) (x := (Int32.toInt h0_now)) (y := 0) rfl rfl c1
    by_cases c4 : h0_tokenCount ≤ h0_now
    · refine br1 c4 ?_
      have d5 := le_z (a := h0_tokenCount) (b := h0_now) (x := (Int32.toInt h0_tokenCount)) (y := (Int32.toInt h0_now)) rfl rfl c4
      exact hq _ trivial
    · refine br0 c4 ?_
      have d6 := nle_z (a := h0_tokenCount) (b := h0_now) (x := (Int32.toInt h0_tokenCount)) (y := (Int32.toInt h0_now)) rfl rfl c4
      refine ⟨vpi (x := (Int32.toInt h0_now)) rfl (by omega) (by omega), ?_⟩
      exact hq _ trivial


set_option maxRecDepth 100000 in
theorem s_X5_take (a : Int32) (h0_tokenCount : Int32) (h0_now : Int32) (f_h0_tokens : Nat → Int32) (h_h0_tokenCount : 0 ≤ h0_tokenCount.toInt ∧ h0_tokenCount.toInt ≤ 401) {Q : Int32 → Int32 → Prop} (hq : ∀ (r : Int32) (u : Int32), True → Q r u) : wp_X5_take a h0_tokenCount h0_now f_h0_tokens Q := by
  unfold wp_X5_take
  by_cases c1 : h0_now < 0
  · refine br1 c1 ?_
    have d2 := lt_z (a := h0_now) (b := 0) (x := (Int32.toInt h0_now)) (y := 0) rfl rfl c1
    exact hq _ _ trivial
  · refine br0 c1 ?_
    have d3 := nlt_z (a := h0_now) (b := 0) (x := (Int32.toInt h0_now)) (y := 0) rfl rfl c1
    by_cases c4 : h0_tokenCount ≤ h0_now
    · refine br1 c4 ?_
      have d5 := le_z (a := h0_tokenCount) (b := h0_now) (x := (Int32.toInt h0_tokenCount)) (y := (Int32.toInt h0_now)) rfl rfl c4
      exact hq _ _ trivial
    · refine br0 c4 ?_
      have d6 := nle_z (a := h0_tokenCount) (b := h0_now) (x := (Int32.toInt h0_tokenCount)) (y := (Int32.toInt h0_now)) rfl rfl c4
      refine ⟨vpi (x := (Int32.toInt h0_now)) rfl (by omega) (by omega), ?_⟩
      by_cases c7 : (f_h0_tokens h0_now.toNatClampNeg) = a
      · refine br1 c7 ?_
        have d8 := eq_z (a := (f_h0_tokens h0_now.toNatClampNeg)) (b := a) (x := (Int32.toInt (f_h0_tokens h0_now.toNatClampNeg))) (y := (Int32.toInt a)) rfl rfl c7
        have t9 : (Int32.toInt (h0_now + 1)) = (Int32.toInt h0_now) + 1 := add_z rfl rfl (by omega) (by omega)
        exact hq _ _ trivial
      · refine br0 c7 ?_
        have d10 := ne_z (a := (f_h0_tokens h0_now.toNatClampNeg)) (b := a) (x := (Int32.toInt (f_h0_tokens h0_now.toNatClampNeg))) (y := (Int32.toInt a)) rfl rfl c7
        exact hq _ _ trivial


set_option maxRecDepth 100000 in
theorem s_X5_open (a : Int32) (h0_now : Int32) {Q : Int32 → Int32 → Prop} (hq : ∀ (r : Int32) (u : Int32), (r.toInt = 0 ∨ a.toInt ≤ 7) → Q r u) : wp_X5_open a h0_now Q := by
  unfold wp_X5_open
  by_cases c1 : a < 8
  · refine br1 c1 ?_
    have d2 := lt_z (a := a) (b := 8) (x := (Int32.toInt a)) (y := 8) rfl rfl c1
    have k3 : Int32.toInt 1 = 1 := rfl
    exact hq _ _ (by omega)
  · refine br0 c1 ?_
    have d4 := nlt_z (a := a) (b := 8) (x := (Int32.toInt a)) (y := 8) rfl rfl c1
    have k5 : Int32.toInt 0 = 0 := rfl
    exact hq _ _ (by omega)


set_option maxRecDepth 100000 in
theorem s_X5_isPlainWord (a : Int32) (h0_asOrders : Int32) (h_h0_asOrders : 0 ≤ h0_asOrders.toInt ∧ h0_asOrders.toInt ≤ 1) {Q : Int32 → Prop} (hq : ∀ (r : Int32), (r.toInt = 0 ∨ (9 ≤ a.toInt ∧ a.toInt ≤ 28)) → Q r) : wp_X5_isPlainWord a h0_asOrders Q := by
  unfold wp_X5_isPlainWord
  by_cases c1 : h0_asOrders = 0
  · refine br1 c1 ?_
    have d2 := eq_z (a := h0_asOrders) (b := 0) (x := (Int32.toInt h0_asOrders)) (y := 0) rfl rfl c1
    by_cases c3 : a < 9
    · refine br1 c3 ?_
      have d4 := lt_z (a := a) (b := 9) (x := (Int32.toInt a)) (y := 9) rfl rfl c3
      have k5 : Int32.toInt 0 = 0 := rfl
      exact hq _ (by omega)
    · refine br0 c3 ?_
      have d6 := nlt_z (a := a) (b := 9) (x := (Int32.toInt a)) (y := 9) rfl rfl c3
      by_cases c7 : 17 < a
      · refine br1 c7 ?_
        have d8 := lt_z (a := 17) (b := a) (x := 17) (y := (Int32.toInt a)) rfl rfl c7
        have k9 : Int32.toInt 0 = 0 := rfl
        exact hq _ (by omega)
      · refine br0 c7 ?_
        have d10 := nlt_z (a := 17) (b := a) (x := 17) (y := (Int32.toInt a)) rfl rfl c7
        have k11 : Int32.toInt 1 = 1 := rfl
        exact hq _ (by omega)
  · refine br0 c1 ?_
    have d12 := ne_z (a := h0_asOrders) (b := 0) (x := (Int32.toInt h0_asOrders)) (y := 0) rfl rfl c1
    by_cases c13 : a = 16
    · refine br1 c13 ?_
      have d14 := eq_z (a := a) (b := 16) (x := (Int32.toInt a)) (y := 16) rfl rfl c13
      have k15 : Int32.toInt 1 = 1 := rfl
      exact hq _ (by omega)
    · refine br0 c13 ?_
      have d16 := ne_z (a := a) (b := 16) (x := (Int32.toInt a)) (y := 16) rfl rfl c13
      by_cases c17 : a = 25
      · refine br1 c17 ?_
        have d18 := eq_z (a := a) (b := 25) (x := (Int32.toInt a)) (y := 25) rfl rfl c17
        have k19 : Int32.toInt 1 = 1 := rfl
        exact hq _ (by omega)
      · refine br0 c17 ?_
        have d20 := ne_z (a := a) (b := 25) (x := (Int32.toInt a)) (y := 25) rfl rfl c17
        by_cases c21 : a = 26
        · refine br1 c21 ?_
          have d22 := eq_z (a := a) (b := 26) (x := (Int32.toInt a)) (y := 26) rfl rfl c21
          have k23 : Int32.toInt 1 = 1 := rfl
          exact hq _ (by omega)
        · refine br0 c21 ?_
          have d24 := ne_z (a := a) (b := 26) (x := (Int32.toInt a)) (y := 26) rfl rfl c21
          have k25 : Int32.toInt 0 = 0 := rfl
          exact hq _ (by omega)


set_option maxRecDepth 100000 in
theorem s_X5_choicesBehind (a : Int32) {Q : Int32 → Prop} (hq : ∀ (r : Int32), (0 ≤ r.toInt ∧ r.toInt ≤ 6) ∧ (r.toInt = 0 ∨ (10 ≤ a.toInt ∧ a.toInt ≤ 28)) → Q r) : wp_X5_choicesBehind a Q := by
  unfold wp_X5_choicesBehind
  by_cases c1 : a = 10
  · refine br1 c1 ?_
    have d2 := eq_z (a := a) (b := 10) (x := (Int32.toInt a)) (y := 10) rfl rfl c1
    have k3 : Int32.toInt 5 = 5 := rfl
    exact hq _ ⟨(by decide), (by omega)⟩
  · refine br0 c1 ?_
    have d4 := ne_z (a := a) (b := 10) (x := (Int32.toInt a)) (y := 10) rfl rfl c1
    by_cases c5 : a = 27
    · refine br1 c5 ?_
      have d6 := eq_z (a := a) (b := 27) (x := (Int32.toInt a)) (y := 27) rfl rfl c5
      have k7 : Int32.toInt 6 = 6 := rfl
      exact hq _ ⟨(by decide), (by omega)⟩
    · refine br0 c5 ?_
      have d8 := ne_z (a := a) (b := 27) (x := (Int32.toInt a)) (y := 27) rfl rfl c5
      by_cases c9 : a = 28
      · refine br1 c9 ?_
        have d10 := eq_z (a := a) (b := 28) (x := (Int32.toInt a)) (y := 28) rfl rfl c9
        have k11 : Int32.toInt 6 = 6 := rfl
        exact hq _ ⟨(by decide), (by omega)⟩
      · refine br0 c9 ?_
        have d12 := ne_z (a := a) (b := 28) (x := (Int32.toInt a)) (y := 28) rfl rfl c9
        have k13 : Int32.toInt 0 = 0 := rfl
        exact hq _ ⟨(by decide), (by omega)⟩


set_option maxRecDepth 100000 in
theorem s_X5_comparisonOf (a : Int32) {Q : Int32 → Prop} (hq : ∀ (r : Int32), ((-1) ≤ r.toInt ∧ r.toInt ≤ 9) → Q r) : wp_X5_comparisonOf a Q := by
  unfold wp_X5_comparisonOf
  by_cases c1 : (a - 100) = 60
  · refine br1 c1 ?_
    have d2 := eq_z (a := (a - 100)) (b := 60) (x := (Int32.toInt (a - 100))) (y := 60) rfl rfl c1
    exact hq _ (by decide)
  · refine br0 c1 ?_
    have d3 := ne_z (a := (a - 100)) (b := 60) (x := (Int32.toInt (a - 100))) (y := 60) rfl rfl c1
    by_cases c4 : (a - 100) = 61
    · refine br1 c4 ?_
      have d5 := eq_z (a := (a - 100)) (b := 61) (x := (Int32.toInt (a - 100))) (y := 61) rfl rfl c4
      exact hq _ (by decide)
    · refine br0 c4 ?_
      have d6 := ne_z (a := (a - 100)) (b := 61) (x := (Int32.toInt (a - 100))) (y := 61) rfl rfl c4
      by_cases c7 : (a - 100) = 62
      · refine br1 c7 ?_
        have d8 := eq_z (a := (a - 100)) (b := 62) (x := (Int32.toInt (a - 100))) (y := 62) rfl rfl c7
        exact hq _ (by decide)
      · refine br0 c7 ?_
        have d9 := ne_z (a := (a - 100)) (b := 62) (x := (Int32.toInt (a - 100))) (y := 62) rfl rfl c7
        exact hq _ (by decide)


set_option maxRecDepth 100000 in
theorem s_X5_addingOf (a : Int32) {Q : Int32 → Prop} (hq : ∀ (r : Int32), ((-1) ≤ r.toInt ∧ r.toInt ≤ 3) → Q r) : wp_X5_addingOf a Q := by
  unfold wp_X5_addingOf
  by_cases c1 : (a - 100) = 43
  · refine br1 c1 ?_
    have d2 := eq_z (a := (a - 100)) (b := 43) (x := (Int32.toInt (a - 100))) (y := 43) rfl rfl c1
    exact hq _ (by decide)
  · refine br0 c1 ?_
    have d3 := ne_z (a := (a - 100)) (b := 43) (x := (Int32.toInt (a - 100))) (y := 43) rfl rfl c1
    by_cases c4 : (a - 100) = 45
    · refine br1 c4 ?_
      have d5 := eq_z (a := (a - 100)) (b := 45) (x := (Int32.toInt (a - 100))) (y := 45) rfl rfl c4
      exact hq _ (by decide)
    · refine br0 c4 ?_
      have d6 := ne_z (a := (a - 100)) (b := 45) (x := (Int32.toInt (a - 100))) (y := 45) rfl rfl c4
      exact hq _ (by decide)


set_option maxRecDepth 100000 in
theorem s_X5_timingOf (a : Int32) {Q : Int32 → Prop} (hq : ∀ (r : Int32), ((-1) ≤ r.toInt ∧ r.toInt ≤ 6) → Q r) : wp_X5_timingOf a Q := by
  unfold wp_X5_timingOf
  by_cases c1 : (a - 100) = 37
  · refine br1 c1 ?_
    have d2 := eq_z (a := (a - 100)) (b := 37) (x := (Int32.toInt (a - 100))) (y := 37) rfl rfl c1
    exact hq _ (by decide)
  · refine br0 c1 ?_
    have d3 := ne_z (a := (a - 100)) (b := 37) (x := (Int32.toInt (a - 100))) (y := 37) rfl rfl c1
    by_cases c4 : (a - 100) = 42
    · refine br1 c4 ?_
      have d5 := eq_z (a := (a - 100)) (b := 42) (x := (Int32.toInt (a - 100))) (y := 42) rfl rfl c4
      exact hq _ (by decide)
    · refine br0 c4 ?_
      have d6 := ne_z (a := (a - 100)) (b := 42) (x := (Int32.toInt (a - 100))) (y := 42) rfl rfl c4
      by_cases c7 : (a - 100) = 47
      · refine br1 c7 ?_
        have d8 := eq_z (a := (a - 100)) (b := 47) (x := (Int32.toInt (a - 100))) (y := 47) rfl rfl c7
        exact hq _ (by decide)
      · refine br0 c7 ?_
        have d9 := ne_z (a := (a - 100)) (b := 47) (x := (Int32.toInt (a - 100))) (y := 47) rfl rfl c7
        exact hq _ (by decide)


set_option maxRecDepth 100000 in
theorem s_X5_write (a : Int32) (b : Int32) (h0_draft_length : Int32) (f_h0_draft_code : Nat → Int32) (h_a : (-1) ≤ a.toInt ∧ a.toInt ≤ 63) (h_b : 0 ≤ b.toInt ∧ b.toInt ≤ 1023) (h_h0_draft_length : 0 ≤ h0_draft_length.toInt ∧ h0_draft_length.toInt ≤ 400) (h_f_h0_draft_code : CD f_h0_draft_code) {Q : Int32 → (Int32 × (Nat → Int32)) → Prop} (hq : ∀ (r : Int32) (u_0 : Int32) (u_1 : Nat → Int32), (0 ≤ u_0.toInt ∧ u_0.toInt ≤ 400) ∧ (CD u_1) → Q r (u_0, u_1)) : wp_X5_write a b h0_draft_length f_h0_draft_code Q := by
  unfold wp_X5_write
  by_cases c1 : a = (-1)
  · refine br1 c1 ?_
    have d2 := eq_z (a := a) (b := (-1)) (x := (Int32.toInt a)) (y := (-1)) rfl (by decide) c1
    exact hq _ _ _ ⟨⟨by omega, by omega⟩, h_f_h0_draft_code⟩
  · refine br0 c1 ?_
    have d3 := ne_z (a := a) (b := (-1)) (x := (Int32.toInt a)) (y := (-1)) rfl (by decide) c1
    by_cases c4 : h0_draft_length < 400
    · refine br1 c4 ?_
      have d5 := lt_z (a := h0_draft_length) (b := 400) (x := (Int32.toInt h0_draft_length)) (y := 400) rfl rfl c4
      refine ⟨vpi (x := (Int32.toInt h0_draft_length)) rfl (by omega) (by omega), ?_⟩
      have t6 : (Int32.toInt (h0_draft_length + 1)) = (Int32.toInt h0_draft_length) + 1 := add_z rfl rfl (by omega) (by omega)
      have t7 : (Int32.toInt (b <<< ((6 : Int32) &&& 31))) = 64 * (Int32.toInt b) := sl6_z (by omega) (by omega)
      have t8 : 0 ≤ (Int32.toInt ((b <<< ((6 : Int32) &&& 31)) ||| a)) ∧ (Int32.toInt ((b <<< ((6 : Int32) &&& 31)) ||| a)) ≤ 65535 := or_z (by omega) (by omega) (by omega) (by omega)
      have R9 : CD (upd f_h0_draft_code h0_draft_length.toNatClampNeg ((b <<< ((6 : Int32) &&& 31)) ||| a)) := CD.up_0 h_f_h0_draft_code (tnz (x := (Int32.toInt h0_draft_length)) rfl (by omega)) (by omega) (by omega) (w := (Int32.toInt ((b <<< ((6 : Int32) &&& 31)) ||| a))) rfl (by omega) (by omega)
      exact hq _ _ _ ⟨⟨by omega, by omega⟩, R9⟩
    · refine br0 c4 ?_
      have d10 := nlt_z (a := h0_draft_length) (b := 400) (x := (Int32.toInt h0_draft_length)) (y := 400) rfl rfl c4
      exact hq _ _ _ ⟨⟨by omega, by omega⟩, h_f_h0_draft_code⟩


set_option maxRecDepth 100000 in
theorem s_X5_aimHere (a : Int32) (h0_draft_length : Int32) (f_h0_draft_code : Nat → Int32) (h_h0_draft_length : 0 ≤ h0_draft_length.toInt ∧ h0_draft_length.toInt ≤ 400) (h_f_h0_draft_code : CD f_h0_draft_code) {Q : (Nat → Int32) → Prop} (hq : ∀ (u : Nat → Int32), (CD u) → Q u) : wp_X5_aimHere a h0_draft_length f_h0_draft_code Q := by
  unfold wp_X5_aimHere
  by_cases c1 : a < 0
  · refine br1 c1 ?_
    have d2 := lt_z (a := a) (b := 0) (x := (Int32.toInt a)) (y := 0) rfl rfl c1
    exact hq _ h_f_h0_draft_code
  · refine br0 c1 ?_
    have d3 := nlt_z (a := a) (b := 0) (x := (Int32.toInt a)) (y := 0) rfl rfl c1
    by_cases c4 : h0_draft_length ≤ a
    · refine br1 c4 ?_
      have d5 := le_z (a := h0_draft_length) (b := a) (x := (Int32.toInt h0_draft_length)) (y := (Int32.toInt a)) rfl rfl c4
      exact hq _ h_f_h0_draft_code
    · refine br0 c4 ?_
      have d6 := nle_z (a := h0_draft_length) (b := a) (x := (Int32.toInt h0_draft_length)) (y := (Int32.toInt a)) rfl rfl c4
      refine ⟨vpi (x := (Int32.toInt a)) rfl (by omega) (by omega), ?_⟩
      refine ⟨vpi (x := (Int32.toInt a)) rfl (by omega) (by omega), ?_⟩
      have g7 : 0 ≤ (Int32.toInt (f_h0_draft_code a.toNatClampNeg)) ∧ (Int32.toInt (f_h0_draft_code a.toNatClampNeg)) ≤ 65535 := CD.at_0 h_f_h0_draft_code (tnz (x := (Int32.toInt a)) rfl (by omega)) (by omega) (by omega)
      have t8 : (Int32.toInt (h0_draft_length <<< ((6 : Int32) &&& 31))) = 64 * (Int32.toInt h0_draft_length) := sl6_z (by omega) (by omega)
      have t9 : 0 ≤ (Int32.toInt ((f_h0_draft_code a.toNatClampNeg) ||| (h0_draft_length <<< ((6 : Int32) &&& 31)))) ∧ (Int32.toInt ((f_h0_draft_code a.toNatClampNeg) ||| (h0_draft_length <<< ((6 : Int32) &&& 31)))) ≤ 65535 := or_z (by omega) (by omega) (by omega) (by omega)
      have R10 : CD (upd f_h0_draft_code a.toNatClampNeg ((f_h0_draft_code a.toNatClampNeg) ||| (h0_draft_length <<< ((6 : Int32) &&& 31)))) := CD.up_0 h_f_h0_draft_code (tnz (x := (Int32.toInt a)) rfl (by omega)) (by omega) (by omega) (w := (Int32.toInt ((f_h0_draft_code a.toNatClampNeg) ||| (h0_draft_length <<< ((6 : Int32) &&& 31))))) rfl (by omega) (by omega)
      exact hq _ R10


set_option maxRecDepth 100000 in
theorem s_X8_setHeadh (a : Int32) (b : Int32) (d : Int32) (n_h0_heads : Nat) (f_h0_heads : Nat → Int32) (h_a : 0 ≤ a.toInt ∧ a.toInt ≤ 12) (h_b : 0 ≤ b.toInt ∧ b.toInt ≤ 4) (h_f_h0_heads : HD f_h0_heads) (e_0 : n_h0_heads < 100000) (e_1 : b.toInt ≤ 3 ∨ d.toInt ≤ 20) {Q : (Nat → Int32) → Prop} (hq : ∀ (u : Nat → Int32), (HD u) → Q u) : wp_X8_setHead a b d n_h0_heads f_h0_heads Q := by
  unfold wp_X8_setHead
  have t1 : (Int32.toInt (5 * a)) = 5 * (Int32.toInt a) := mul_z rfl rfl (by omega) (by omega)
  have t2 : (Int32.toInt ((5 * a) + b)) = (Int32.toInt (5 * a)) + (Int32.toInt b) := add_z rfl rfl (by omega) (by omega)
  refine br0 (z_nlt (x := (Int32.toInt ((5 * a) + b))) (y := 0) rfl rfl (by omega)) ?_
  by_cases c3 : (Int32.ofNat n_h0_heads) ≤ ((5 * a) + b)
  · refine br1 c3 ?_
    have t4 := of_z (n := n_h0_heads) (by omega)
    have d5 := le_z (a := (Int32.ofNat n_h0_heads)) (b := ((5 * a) + b)) (x := (Int32.toInt (Int32.ofNat n_h0_heads))) (y := (Int32.toInt ((5 * a) + b))) rfl rfl c3
    exact hq _ h_f_h0_heads
  · refine br0 c3 ?_
    have t6 := of_z (n := n_h0_heads) (by omega)
    have d7 := nle_z (a := (Int32.ofNat n_h0_heads)) (b := ((5 * a) + b)) (x := (Int32.toInt (Int32.ofNat n_h0_heads))) (y := (Int32.toInt ((5 * a) + b))) rfl rfl c3
    refine ⟨vpi (x := (Int32.toInt ((5 * a) + b))) rfl (by omega) (by omega), ?_⟩
    have R8 : HD (upd f_h0_heads ((5 * a) + b).toNatClampNeg d) := (HD.up h_f_h0_heads (tnz (x := (Int32.toInt ((5 * a) + b))) rfl (by omega)) (by omega))
    exact hq _ R8


set_option maxRecDepth 100000 in
theorem s_X8_headOfh (a : Int32) (b : Int32) (n_h0_heads : Nat) (f_h0_heads : Nat → Int32) (h_a : 0 ≤ a.toInt ∧ a.toInt ≤ 12) (h_b : 0 ≤ b.toInt ∧ b.toInt ≤ 4) (h_f_h0_heads : HD f_h0_heads) (e_0 : n_h0_heads < 100000) {Q : Int32 → Prop} (hq : ∀ (r : Int32), (b.toInt ≤ 3 ∨ r.toInt ≤ 20) → Q r) : wp_X8_headOf a b n_h0_heads f_h0_heads Q := by
  unfold wp_X8_headOf
  have t90 : (5 * a).toInt = 5 * a.toInt := mul_z (a := 5) (b := a) rfl rfl (by omega) (by omega)
  have t91 : (5 * a + b).toInt = 5 * a.toInt + b.toInt := add_z t90 rfl (by omega) (by omega)
  have t92 := HD.at h_f_h0_heads (tnz (i := 5 * a + b) (x := (5 * a + b).toInt) rfl (by omega))
  have t1 : (Int32.toInt (5 * a)) = 5 * (Int32.toInt a) := mul_z rfl rfl (by omega) (by omega)
  have t2 : (Int32.toInt ((5 * a) + b)) = (Int32.toInt (5 * a)) + (Int32.toInt b) := add_z rfl rfl (by omega) (by omega)
  refine br0 (z_nlt (x := (Int32.toInt ((5 * a) + b))) (y := 0) rfl rfl (by omega)) ?_
  by_cases c3 : (Int32.ofNat n_h0_heads) ≤ ((5 * a) + b)
  · refine br1 c3 ?_
    have t4 := of_z (n := n_h0_heads) (by omega)
    have d5 := le_z (a := (Int32.ofNat n_h0_heads)) (b := ((5 * a) + b)) (x := (Int32.toInt (Int32.ofNat n_h0_heads))) (y := (Int32.toInt ((5 * a) + b))) rfl rfl c3
    have k6 : Int32.toInt (-1) = (-1) := (by decide)
    exact hq _ (by omega)
  · refine br0 c3 ?_
    have t7 := of_z (n := n_h0_heads) (by omega)
    have d8 := nle_z (a := (Int32.ofNat n_h0_heads)) (b := ((5 * a) + b)) (x := (Int32.toInt (Int32.ofNat n_h0_heads))) (y := (Int32.toInt ((5 * a) + b))) rfl rfl c3
    refine ⟨vpi (x := (Int32.toInt ((5 * a) + b))) rfl (by omega) (by omega), ?_⟩
    exact hq _ (by omega)


set_option maxRecDepth 100000 in
theorem s_X5_setHead (a : Int32) (b : Int32) (h0_draft_clauses : Int32) (f_h0_draft_heads : Nat → Int32) (h_a : 0 ≤ a.toInt ∧ a.toInt ≤ 4) (h_h0_draft_clauses : 0 ≤ h0_draft_clauses.toInt ∧ h0_draft_clauses.toInt ≤ 12) (h_f_h0_draft_heads : HD f_h0_draft_heads) (e_0 : a.toInt ≤ 3 ∨ b.toInt ≤ 20) {Q : (Nat → Int32) → Prop} (hq : ∀ (u : Nat → Int32), (HD u) → Q u) : wp_X5_setHead a b h0_draft_clauses f_h0_draft_heads Q := by
  unfold wp_X5_setHead
  refine s_X8_setHeadh h0_draft_clauses a b 60 (f_h0_draft_heads) ⟨by omega, by omega⟩ ⟨by omega, by omega⟩ h_f_h0_draft_heads (by omega) (by omega) (fun u1 H2 => ?_)
  have j3 := H2
  exact hq _ j3


set_option maxRecDepth 100000 in
theorem s_X5_readTimes (h0_tokenCount : Int32) (h0_now : Int32) (f_h0_tokens : Nat → Int32) (h0_draft_clauses : Int32) (f_h0_draft_heads : Nat → Int32) (h_h0_tokenCount : 0 ≤ h0_tokenCount.toInt ∧ h0_tokenCount.toInt ≤ 401) (h_h0_draft_clauses : 0 ≤ h0_draft_clauses.toInt ∧ h0_draft_clauses.toInt ≤ 12) (h_f_h0_draft_heads : HD f_h0_draft_heads) {Q : Int32 → (Int32 × (Nat → Int32)) → Prop} (hq : ∀ (r : Int32) (u_0 : Int32) (u_1 : Nat → Int32), (HD u_1) → Q r (u_0, u_1)) : wp_X5_readTimes h0_tokenCount h0_now f_h0_tokens h0_draft_clauses f_h0_draft_heads Q := by
  unfold wp_X5_readTimes
  refine s_X5_tokenNow h0_tokenCount h0_now (f_h0_tokens) ⟨by omega, by omega⟩ (fun r1 H2 => ?_)
  by_cases c3 : (r1 - 1000) < 1
  · refine br1 c3 ?_
    have d4 := lt_z (a := (r1 - 1000)) (b := 1) (x := (Int32.toInt (r1 - 1000))) (y := 1) rfl rfl c3
    exact hq _ _ _ h_f_h0_draft_heads
  · refine br0 c3 ?_
    have d5 := nlt_z (a := (r1 - 1000)) (b := 1) (x := (Int32.toInt (r1 - 1000))) (y := 1) rfl rfl c3
    by_cases c6 : (r1 - 1000) ≤ 20
    · refine br1 c6 ?_
      have d7 := le_z (a := (r1 - 1000)) (b := 20) (x := (Int32.toInt (r1 - 1000))) (y := 20) rfl rfl c6
      have k8 : Int32.toInt 4 = 4 := rfl
      refine s_X5_setHead 4 (r1 - 1000) h0_draft_clauses (f_h0_draft_heads) (by decide) ⟨by omega, by omega⟩ h_f_h0_draft_heads (by omega) (fun u9 H10 => ?_)
      have j11 := H10
      exact hq _ _ _ j11
    · refine br0 c6 ?_
      have d12 := nle_z (a := (r1 - 1000)) (b := 20) (x := (Int32.toInt (r1 - 1000))) (y := 20) rfl rfl c6
      exact hq _ _ _ h_f_h0_draft_heads


set_option maxRecDepth 100000 in
theorem s_X5_placeNow (h0_length : Int32) (h0_tokenCount : Int32) (h0_now : Int32) (f_h0_places : Nat → Int32) (h_h0_length : 0 ≤ h0_length.toInt ∧ h0_length.toInt ≤ 400) (h_h0_tokenCount : 0 ≤ h0_tokenCount.toInt ∧ h0_tokenCount.toInt ≤ 401) {Q : Int32 → Prop} (hq : ∀ (r : Int32), True → Q r) : wp_X5_placeNow h0_length h0_tokenCount h0_now f_h0_places Q := by
  unfold wp_X5_placeNow
  by_cases c1 : h0_now < 0
  · refine br1 c1 ?_
    have d2 := lt_z (a := h0_now) (b := 0) (x := (Int32.toInt h0_now)) (y := 0) rfl rfl c1
    exact hq _ trivial
  · refine br0 c1 ?_
    have d3 := nlt_z (a := h0_now) (b := 0) (x := (Int32.toInt h0_now)) (y := 0) rfl rfl c1
    by_cases c4 : h0_tokenCount ≤ h0_now
    · refine br1 c4 ?_
      have d5 := le_z (a := h0_tokenCount) (b := h0_now) (x := (Int32.toInt h0_tokenCount)) (y := (Int32.toInt h0_now)) rfl rfl c4
      exact hq _ trivial
    · refine br0 c4 ?_
      have d6 := nle_z (a := h0_tokenCount) (b := h0_now) (x := (Int32.toInt h0_tokenCount)) (y := (Int32.toInt h0_now)) rfl rfl c4
      refine ⟨vpi (x := (Int32.toInt h0_now)) rfl (by omega) (by omega), ?_⟩
      exact hq _ trivial


set_option maxRecDepth 100000 in
theorem s_X5_addToken (a : Int32) (b : Int32) (h0_tokenCount : Int32) (f_h0_tokens : Nat → Int32) (f_h0_places : Nat → Int32) (h_h0_tokenCount : 0 ≤ h0_tokenCount.toInt ∧ h0_tokenCount.toInt ≤ 401) {Q : (Int32 × (Nat → Int32) × (Nat → Int32)) → Prop} (hq : ∀ (u_0 : Int32) (u_1 : Nat → Int32) (u_2 : Nat → Int32), (0 ≤ u_0.toInt ∧ u_0.toInt ≤ 401) → Q (u_0, u_1, u_2)) : wp_X5_addToken a b h0_tokenCount f_h0_tokens f_h0_places Q := by
  unfold wp_X5_addToken
  by_cases c1 : 401 ≤ h0_tokenCount
  · refine br1 c1 ?_
    have d2 := le_z (a := 401) (b := h0_tokenCount) (x := 401) (y := (Int32.toInt h0_tokenCount)) rfl rfl c1
    exact hq _ _ _ ⟨by omega, by omega⟩
  · refine br0 c1 ?_
    have d3 := nle_z (a := 401) (b := h0_tokenCount) (x := 401) (y := (Int32.toInt h0_tokenCount)) rfl rfl c1
    refine ⟨vpi (x := (Int32.toInt h0_tokenCount)) rfl (by omega) (by omega), ?_⟩
    refine ⟨vpi (x := (Int32.toInt h0_tokenCount)) rfl (by omega) (by omega), ?_⟩
    have t4 : (Int32.toInt (h0_tokenCount + 1)) = (Int32.toInt h0_tokenCount) + 1 := add_z rfl rfl (by omega) (by omega)
    exact hq _ _ _ ⟨by omega, by omega⟩


set_option maxRecDepth 100000 in
theorem sl_X5_endOfRow_3 (b : Int32) (d : Int32) (h0_length : Int32) (f_h0_bytes : Nat → Int32) (g0 : Int) (h_h0_length : 0 ≤ h0_length.toInt ∧ h0_length.toInt ≤ 400) (h_f_h0_bytes : BY f_h0_bytes) (Qb : Int32 → Prop) (KX : ∀ (x_3 : Int32), (0 ≤ x_3.toInt ∧ x_3.toInt ≤ 400) ∧ (g0 ≤ x_3.toInt) → Qb x_3) : ∀ (n : Nat) (x_3 : Int32), (0 ≤ x_3.toInt ∧ x_3.toInt ≤ 400) ∧ (g0 ≤ x_3.toInt) → 401 - x_3.toInt < (n : Int) → wl_X5_endOfRow_3 b d h0_length f_h0_bytes Qb n x_3 := by
  intro n
  induction n with
  | zero =>
    intro x_3 hI hm
    exfalso; have hm : 401 - x_3.toInt < 0 := hm; omega
  | succ n ih =>
    intro x_3 hI hm
    have hm : 401 - x_3.toInt < (n : Int) + 1 := by simpa using hm
    have h_x_3 := hI.1
    have h_rel0 := hI.2
    unfold wl_X5_endOfRow_3
    by_cases c1 : h0_length ≤ x_3
    · refine br1 c1 ?_
      have d2 := le_z (a := h0_length) (b := x_3) (x := (Int32.toInt h0_length)) (y := (Int32.toInt x_3)) rfl rfl c1
      exact KX _ ⟨⟨by omega, by omega⟩, (by omega)⟩
    · refine br0 c1 ?_
      have d3 := nle_z (a := h0_length) (b := x_3) (x := (Int32.toInt h0_length)) (y := (Int32.toInt x_3)) rfl rfl c1
      refine ⟨vpi (x := (Int32.toInt x_3)) rfl (by omega) (by omega), ?_⟩
      by_cases c4 : (f_h0_bytes x_3.toNatClampNeg) < b
      · refine br1 c4 ?_
        have g5 : 0 ≤ (Int32.toInt (f_h0_bytes x_3.toNatClampNeg)) ∧ (Int32.toInt (f_h0_bytes x_3.toNatClampNeg)) ≤ 255 := BY.at_0 h_f_h0_bytes (tnz (x := (Int32.toInt x_3)) rfl (by omega)) (by omega) (by omega)
        have d6 := lt_z (a := (f_h0_bytes x_3.toNatClampNeg)) (b := b) (x := (Int32.toInt (f_h0_bytes x_3.toNatClampNeg))) (y := (Int32.toInt b)) rfl rfl c4
        exact KX _ ⟨⟨by omega, by omega⟩, (by omega)⟩
      · refine br0 c4 ?_
        have g7 : 0 ≤ (Int32.toInt (f_h0_bytes x_3.toNatClampNeg)) ∧ (Int32.toInt (f_h0_bytes x_3.toNatClampNeg)) ≤ 255 := BY.at_0 h_f_h0_bytes (tnz (x := (Int32.toInt x_3)) rfl (by omega)) (by omega) (by omega)
        have d8 := nlt_z (a := (f_h0_bytes x_3.toNatClampNeg)) (b := b) (x := (Int32.toInt (f_h0_bytes x_3.toNatClampNeg))) (y := (Int32.toInt b)) rfl rfl c4
        refine ⟨vpi (x := (Int32.toInt x_3)) rfl (by omega) (by omega), ?_⟩
        by_cases c9 : d < (f_h0_bytes x_3.toNatClampNeg)
        · refine br1 c9 ?_
          have d10 := lt_z (a := d) (b := (f_h0_bytes x_3.toNatClampNeg)) (x := (Int32.toInt d)) (y := (Int32.toInt (f_h0_bytes x_3.toNatClampNeg))) rfl rfl c9
          exact KX _ ⟨⟨by omega, by omega⟩, (by omega)⟩
        · refine br0 c9 ?_
          have d11 := nlt_z (a := d) (b := (f_h0_bytes x_3.toNatClampNeg)) (x := (Int32.toInt d)) (y := (Int32.toInt (f_h0_bytes x_3.toNatClampNeg))) rfl rfl c9
          have t12 : (Int32.toInt (x_3 + 1)) = (Int32.toInt x_3) + 1 := add_z rfl rfl (by omega) (by omega)
          exact ih _ ⟨⟨by omega, by omega⟩, (by omega)⟩ (by omega)
set_option maxRecDepth 100000 in
theorem s_X5_endOfRow (a : Int32) (b : Int32) (d : Int32) (h0_length : Int32) (f_h0_bytes : Nat → Int32) (h_a : 0 ≤ a.toInt ∧ a.toInt ≤ 400) (h_h0_length : 0 ≤ h0_length.toInt ∧ h0_length.toInt ≤ 400) (h_f_h0_bytes : BY f_h0_bytes) {Q : Int32 → Prop} (hq : ∀ (r : Int32), (0 ≤ r.toInt ∧ r.toInt ≤ 400) ∧ (a.toInt ≤ r.toInt) → Q r) : wp_X5_endOfRow a b d h0_length f_h0_bytes Q := by
  unfold wp_X5_endOfRow
  refine sl_X5_endOfRow_3 b d h0_length (f_h0_bytes) a.toInt ⟨by omega, by omega⟩ h_f_h0_bytes _ (fun x1 X2 => ?_) 1000000000000 a ⟨⟨by omega, by omega⟩, (by omega)⟩ (by omega)
  have j3 := X2.1
  have j4 := X2.2
  exact hq _ ⟨⟨by omega, by omega⟩, (by omega)⟩


set_option maxRecDepth 100000 in
theorem sl_X5_numberIn_5 (b : Int32) (f_h0_bytes : Nat → Int32) (h_b : 0 ≤ b.toInt ∧ b.toInt ≤ 400) (h_f_h0_bytes : BY f_h0_bytes) (Qb : Int32 → Int32 → Prop) (KX : ∀ (x_5_0 : Int32) (x_5_1 : Int32), (0 ≤ x_5_0.toInt ∧ x_5_0.toInt ≤ 400) ∧ ((-2147483648) ≤ x_5_1.toInt ∧ x_5_1.toInt ≤ 1001) → Qb x_5_0 x_5_1) : ∀ (n : Nat) (x_5_0 : Int32) (x_5_1 : Int32), (0 ≤ x_5_0.toInt ∧ x_5_0.toInt ≤ 400) ∧ ((-2147483648) ≤ x_5_1.toInt ∧ x_5_1.toInt ≤ 1001) → 401 - x_5_0.toInt < (n : Int) → wl_X5_numberIn_5 b f_h0_bytes Qb n x_5_0 x_5_1 := by
  intro n
  induction n with
  | zero =>
    intro x_5_0 x_5_1 hI hm
    exfalso; have hm : 401 - x_5_0.toInt < 0 := hm; omega
  | succ n ih =>
    intro x_5_0 x_5_1 hI hm
    have hm : 401 - x_5_0.toInt < (n : Int) + 1 := by simpa using hm
    have h_x_5_0 := hI.1
    have h_x_5_1 := hI.2
    unfold wl_X5_numberIn_5
    by_cases c1 : b ≤ x_5_0
    · refine br1 c1 ?_
      have d2 := le_z (a := b) (b := x_5_0) (x := (Int32.toInt b)) (y := (Int32.toInt x_5_0)) rfl rfl c1
      have t3 := i32_lo x_5_1
      exact KX _ _ ⟨⟨by omega, by omega⟩, ⟨by omega, by omega⟩⟩
    · refine br0 c1 ?_
      have d4 := nle_z (a := b) (b := x_5_0) (x := (Int32.toInt b)) (y := (Int32.toInt x_5_0)) rfl rfl c1
      refine ⟨vpi (x := (Int32.toInt x_5_0)) rfl (by omega) (by omega), ?_⟩
      have t5 : (Int32.toInt (x_5_0 + 1)) = (Int32.toInt x_5_0) + 1 := add_z rfl rfl (by omega) (by omega)
      have g6 : 0 ≤ (Int32.toInt (f_h0_bytes x_5_0.toNatClampNeg)) ∧ (Int32.toInt (f_h0_bytes x_5_0.toNatClampNeg)) ≤ 255 := BY.at_0 h_f_h0_bytes (tnz (x := (Int32.toInt x_5_0)) rfl (by omega)) (by omega) (by omega)
      have t7 := mn_z (a := 1001) (b := (((10 * x_5_1) + (f_h0_bytes x_5_0.toNatClampNeg)) - 48))
      have k8 : Int32.toInt 1001 = 1001 := rfl
      have t9 := i32_lo (if (((10 * x_5_1) + (f_h0_bytes x_5_0.toNatClampNeg)) - 48) < 1001 then (((10 * x_5_1) + (f_h0_bytes x_5_0.toNatClampNeg)) - 48) else 1001)
      exact ih _ _ ⟨⟨by omega, by omega⟩, ⟨by omega, by omega⟩⟩ (by omega)
set_option maxRecDepth 100000 in
theorem s_X5_numberIn (a : Int32) (b : Int32) (f_h0_bytes : Nat → Int32) (h_a : 0 ≤ a.toInt ∧ a.toInt ≤ 400) (h_b : 0 ≤ b.toInt ∧ b.toInt ≤ 400) (h_f_h0_bytes : BY f_h0_bytes) {Q : Int32 → Prop} (hq : ∀ (r : Int32), True → Q r) : wp_X5_numberIn a b f_h0_bytes Q := by
  unfold wp_X5_numberIn
  have k3 : Int32.toInt 0 = 0 := rfl
  refine sl_X5_numberIn_5 b (f_h0_bytes) ⟨by omega, by omega⟩ h_f_h0_bytes _ (fun x1_0 x1_1 X2 => ?_) 1000000000000 a 0 ⟨⟨by omega, by omega⟩, (by decide)⟩ (by omega)
  have j4 := X2.1
  have j5 := X2.2
  exact hq _ trivial


set_option maxRecDepth 100000 in
theorem s_X5_beginHead (h0_draft_clauses : Int32) (f_h0_draft_heads : Nat → Int32) (h_h0_draft_clauses : 0 ≤ h0_draft_clauses.toInt ∧ h0_draft_clauses.toInt ≤ 12) (h_f_h0_draft_heads : HD f_h0_draft_heads) {Q : (Nat → Int32) → Prop} (hq : ∀ (u : Nat → Int32), (HD u) → Q u) : wp_X5_beginHead h0_draft_clauses f_h0_draft_heads Q := by
  unfold wp_X5_beginHead
  have k1 : Int32.toInt 0 = 0 := rfl
  have k2 : Int32.toInt (-1) = (-1) := (by decide)
  refine s_X5_setHead 0 (-1) h0_draft_clauses (f_h0_draft_heads) (by decide) ⟨by omega, by omega⟩ h_f_h0_draft_heads (by omega) (fun u3 H4 => ?_)
  have j5 := H4
  have k6 : Int32.toInt 1 = 1 := rfl
  refine s_X5_setHead 1 (-1) h0_draft_clauses (u3) (by decide) ⟨by omega, by omega⟩ j5 (by omega) (fun u7 H8 => ?_)
  have j9 := H8
  have k10 : Int32.toInt 2 = 2 := rfl
  refine s_X5_setHead 2 (-1) h0_draft_clauses (u7) (by decide) ⟨by omega, by omega⟩ j9 (by omega) (fun u11 H12 => ?_)
  have j13 := H12
  have k14 : Int32.toInt 3 = 3 := rfl
  refine s_X5_setHead 3 (-1) h0_draft_clauses (u11) (by decide) ⟨by omega, by omega⟩ j13 (by omega) (fun u15 H16 => ?_)
  have j17 := H16
  have k18 : Int32.toInt 4 = 4 := rfl
  refine s_X5_setHead 4 1 h0_draft_clauses (u15) (by decide) ⟨by omega, by omega⟩ j17 (by omega) (fun u19 H20 => ?_)
  have j21 := H20
  exact hq _ j21

