/-! the class's tokens -/
theorem zby_i : ∀ k, k < 232 → ((((zby k) &&& 255)).toUInt32 % 65536).toInt32 = zby k := by decide +kernel
theorem zby_m : ∀ k, k < 232 → narrow .char (.int (((((zby k) &&& 255)).toUInt32 % 65536).toInt32)) = .int (((((zby k) &&& 255)).toUInt32 % 65536).toInt32) := by decide +kernel
theorem x_ccharAt {a : Int32} {k : Nat} {xe : XE} (hx : isRf xe.2.2) (ha : a.toInt = (k : Int)) (h1 : k < 232) {Q : Int32 → Prop} (hq : Q (zby k)) : wp_J0_charAt_5068e a xe Q := by
  unfold wp_J0_charAt_5068e wp_J0_isLatin1_aae02
  refine br0 (by decide) ?_
  unfold wp_J1_charAt_3b067 wp_J0_checkIndex_df160 wp_J3_checkIndex_8e157
  refine ⟨hx, ?_⟩
  unfold wp_J3_checkIndex_8e157n
  refine br0 (z_nlt (a := a) (b := 0) (y := 0) ha rfl (by omega)) ?_
  refine br1 (z_lt (a := a) (b := 232) (y := 232) ha rfl (by omega)) ?_
  have n := zby_m k h1
  refine ⟨vpi ha (by omega) (by omega), ?_⟩
  rw [tnN ha]
  refine ⟨n, n, ?_⟩
  rw [zby_i k h1]
  exact hq
theorem x_cisWord0 {w f t : Int32} {fb : Nat → Int32} {xe : XE} (hx : isRf xe.2.2) {W s e : Nat} (hw : w.toInt = (W : Int)) (hW : W < 29) (hf : f.toInt = (s : Int)) (ht : t.toInt = (e : Int)) (hse : s ≤ e) (he : e ≤ 400) (d8 : e - s < 8) {Q : Int32 → Prop} (h1 : lx_is fb s (e - s) W → Q 1) (h0 : ¬ lx_is fb s (e - s) W → Q 0) : ∀ (m j : Nat) (x : Int32), x.toInt = ((s + j : Nat) : Int) → s + j ≤ e → (∀ i, i < j → zby (8 * W + i) = fb (s + i)) → e - (s + j) < m → wl_X5_isWord_9 w f t fb xe Q (fun _ => wp_J0_charAt_5068e (8 * w + t - f) xe (fun r => if r = 32 then Q 1 else Q 0)) m x := by
  have e1 : (8 * w).toInt = 8 * (W : Int) := mul_z (a := 8) (b := w) rfl hw (by omega) (by omega)
  intro m
  induction m with
  | zero => intro j x a1 a2 a3 a4; exact absurd a4 (Nat.not_lt_zero _)
  | succ m ih =>
    intro j x a1 a2 a3 a4
    unfold wl_X5_isWord_9
    by_cases c : t ≤ x
    · refine br1 c ?_
      have c' := le_z ht a1 c
      have ej : j = e - s := by omega
      have e2 := add_z e1 ht (by omega) (by omega)
      have e3 := sub_z e2 hf (by omega) (by omega)
      have e4 : (8 * w + t - f).toInt = ((8 * W + (e - s) : Nat) : Int) := by rw [e3]; omega
      refine x_ccharAt hx e4 (by omega) ?_
      by_cases c2 : zby (8 * W + (e - s)) = 32
      · exact br1 c2 (h1 ⟨d8, fun i hi => a3 i (by omega), c2⟩)
      · exact br0 c2 (h0 (fun q => c2 q.2.2))
    · refine br0 c ?_
      have c' := nle_z ht a1 c
      have e2 := add_z e1 a1 (by omega) (by omega)
      have e3 := sub_z e2 hf (by omega) (by omega)
      have e4 : (8 * w + x - f).toInt = ((8 * W + j : Nat) : Int) := by rw [e3]; omega
      refine x_ccharAt hx e4 (by omega) ⟨vpi a1 (by omega) (by omega), ?_⟩
      rw [tnN a1]
      by_cases c2 : zby (8 * W + j) = fb (s + j)
      · refine br1 c2 (ih (j + 1) (x + 1) (add1 (k := s + j) a1 (by omega)) (by omega) (fun i hi => ?_) (by omega))
        by_cases q : i = j
        · rw [q]; exact c2
        · exact a3 i (by omega)
      · exact br0 c2 (h0 (fun q => c2 (q.2.1 j (by omega))))
theorem x_cisWord {w f t : Int32} {fb : Nat → Int32} {xe : XE} (hx : isRf xe.2.2) {W s e : Nat} (hw : w.toInt = (W : Int)) (hW : W < 29) (hf : f.toInt = (s : Int)) (ht : t.toInt = (e : Int)) (hse : s ≤ e) (he : e ≤ 400) (d8 : e - s < 8) {Q : Int32 → Prop} (h1 : lx_is fb s (e - s) W → Q 1) (h0 : ¬ lx_is fb s (e - s) W → Q 0) : wp_X5_isWord w f t fb xe Q := by
  unfold wp_X5_isWord
  exact x_cisWord0 hx hw hW hf ht hse he d8 h1 h0 _ 0 f hf hse (fun i hi => absurd hi (Nat.not_lt_zero _)) (by omega)
theorem x_cwordIn0 {f t : Int32} {fb : Nat → Int32} {xe : XE} (hx : isRf xe.2.2) {s e : Nat} (hf : f.toInt = (s : Int)) (ht : t.toInt = (e : Int)) (hse : s ≤ e) (he : e ≤ 400) (d8 : e - s < 8) {Q : Int32 → Prop} (hq : ∀ (r : Int32) (z : Int), r.toInt = z → lx_wd fb s (e - s) z → Q r) : ∀ (m k : Nat) (x : Int32), x.toInt = (k : Int) → k ≤ 29 → (∀ j, j < k → ¬ lx_is fb s (e - s) j) → 29 - k < m → wl_X5_wordIn_13 f t fb xe Q (fun _ => Q 30) m x := by
  intro m
  induction m with
  | zero => intro k x a1 a2 a3 a4; exact absurd a4 (Nat.not_lt_zero _)
  | succ m ih =>
    intro k x a1 a2 a3 a4
    unfold wl_X5_wordIn_13
    by_cases c : 29 ≤ x
    · have c' := le_z (x := 29) rfl a1 c
      refine br1 c (hq 30 30 rfl (Or.inr ⟨rfl, fun j hj => a3 j (by omega)⟩))
    · have c' := nle_z (x := 29) rfl a1 c
      refine br0 c (x_cisWord hx a1 (by omega) hf ht hse he d8 (fun q => ?_) (fun q => ?_))
      · exact br0 (by decide) (hq x (k : Int) a1 (Or.inl ⟨k, by omega, rfl, q, a3⟩))
      · refine br1 rfl (ih (k + 1) (x + 1) (add1 a1 (by omega)) (by omega) (fun j hj => ?_) (by omega))
        by_cases w : j = k
        · rw [w]; exact q
        · exact a3 j (by omega)
theorem x_cwordIn {f t : Int32} {fb : Nat → Int32} {xe : XE} (hx : isRf xe.2.2) {s e : Nat} (hf : f.toInt = (s : Int)) (ht : t.toInt = (e : Int)) (hse : s ≤ e) (he : e ≤ 400) {Q : Int32 → Prop} (hq : ∀ (r : Int32) (z : Int), r.toInt = z → lx_wd fb s (e - s) z → Q r) : wp_X5_wordIn f t fb xe Q := by
  unfold wp_X5_wordIn
  have e1 : (t - f).toInt = ((e - s : Nat) : Int) := by rw [sub_z ht hf (by omega) (by omega)]; omega
  by_cases c : t - f < 8
  · have c' := lt_z (y := 8) e1 rfl c
    exact br1 c (x_cwordIn0 hx hf ht hse he (by omega) hq _ 0 0 rfl (by omega) (fun j hj => absurd hj (Nat.not_lt_zero _)) (by omega))
  · have c' := nlt_z (y := 8) e1 rfl c
    exact br0 c (hq 30 30 rfl (Or.inr ⟨rfl, fun j hj q => by have := q.1; omega⟩))
theorem lx_wdu {tp : Nat → Int32} {s m : Nat} {t t' : Int} (h : lx_wd tp s m t) (h' : lx_wd tp s m t') : t = t' := by
  rcases h with ⟨k, k1, k2, k3, k4⟩ | ⟨k1, k2⟩
  · rcases h' with ⟨j, j1, j2, j3, j4⟩ | ⟨j1, j2⟩
    · rcases Nat.lt_trichotomy k j with q | q | q
      · exact absurd k3 (j4 k q)
      · rw [k2, j2, q]
      · exact absurd j3 (k4 j q)
    · exact absurd k3 (j2 k k1)
  · rcases h' with ⟨j, j1, j2, j3, j4⟩ | ⟨j1, j2⟩
    · exact absurd j3 (k2 j j1)
    · rw [k1, j1]
theorem x_ceor0 {lo hi len : Int32} {fb : Nat → Int32} {n s : Nat} {LO HI : Int} (hlo : lo.toInt = LO) (hhi : hi.toInt = HI) (hn : len.toInt = (n : Int)) (h4 : n ≤ 400) {Qb : Int32 → Prop} (K : ∀ (x : Int32) (e : Nat), x.toInt = (e : Int) → EnT fb n LO HI s e → Qb x) : ∀ (m q : Nat) (x : Int32), x.toInt = (q : Int) → s ≤ q → q ≤ n → (∀ r, s ≤ r → r < q → LO ≤ (fb r).toInt ∧ (fb r).toInt ≤ HI) → n - q < m → wl_X5_endOfRow_3 lo hi len fb Qb m x := by
  intro m
  induction m with
  | zero => intro q x a1 a2 a3 a4 a5; exact absurd a5 (Nat.not_lt_zero _)
  | succ m ih =>
    intro q x a1 a2 a3 a4 a5
    unfold wl_X5_endOfRow_3
    by_cases c : len ≤ x
    · have c' := le_z hn a1 c
      exact br1 c (K x q a1 ⟨a2, a3, a4, fun z => by omega⟩)
    · have c' := nle_z hn a1 c
      refine br0 c ⟨vpi a1 (by omega) (by omega), ?_⟩
      rw [tnN a1]
      by_cases c2 : fb q < lo
      · have c2' := lt_z (x := (fb q).toInt) rfl hlo c2
        exact br1 c2 (K x q a1 ⟨a2, a3, a4, fun z => by omega⟩)
      · have c2' := nlt_z (x := (fb q).toInt) rfl hlo c2
        refine br0 c2 ⟨vpi a1 (by omega) (by omega), ?_⟩
        by_cases c3 : hi < fb q
        · have c3' := lt_z (y := (fb q).toInt) hhi rfl c3
          exact br1 c3 (K x q a1 ⟨a2, a3, a4, fun z => by omega⟩)
        · have c3' := nlt_z (y := (fb q).toInt) hhi rfl c3
          refine br0 c3 (ih (q + 1) (x + 1) (add1 a1 (by omega)) (by omega) (by omega) (fun r r1 r2 => ?_) (by omega))
          by_cases w : r = q
          · rw [w]; exact ⟨c2', c3'⟩
          · exact a4 r r1 (by omega)
theorem x_ceor {a lo hi len : Int32} {fb : Nat → Int32} {n s : Nat} {LO HI : Int} (ha : a.toInt = (s : Int)) (hsn : s ≤ n) (hlo : lo.toInt = LO) (hhi : hi.toInt = HI) (hn : len.toInt = (n : Int)) (h4 : n ≤ 400) {Q : Int32 → Prop} (K : ∀ (x : Int32) (e : Nat), x.toInt = (e : Int) → EnT fb n LO HI s e → Q x) : wp_X5_endOfRow a lo hi len fb Q := by
  unfold wp_X5_endOfRow
  exact x_ceor0 hlo hhi hn h4 K _ s a ha (Nat.le_refl _) hsn (fun r r1 r2 => by omega) (by omega)
theorem x_cnum0 {b : Int32} {fb : Nat → Int32} {s e : Nat} (hb : b.toInt = (e : Int)) (hse : s ≤ e) (he : e ≤ 400) (hd : ∀ r, s ≤ r → r < e → 48 ≤ (fb r).toInt ∧ (fb r).toInt ≤ 57) {Qb : Int32 → Int32 → Prop} (K : ∀ x v : Int32, v.toInt = lx_nm fb s (e - s) → Qb x v) : ∀ (m j : Nat) (x v : Int32), x.toInt = ((s + j : Nat) : Int) → s + j ≤ e → v.toInt = lx_nm fb s j → e - (s + j) < m → wl_X5_numberIn_5 b fb Qb m x v := by
  intro m
  induction m with
  | zero => intro j x v a1 a2 a3 a4; exact absurd a4 (Nat.not_lt_zero _)
  | succ m ih =>
    intro j x v a1 a2 a3 a4
    unfold wl_X5_numberIn_5
    by_cases c : b ≤ x
    · have c' := le_z hb a1 c
      have ej : j = e - s := by omega
      rw [ej] at a3
      exact br1 c (K x v a3)
    · have c' := nle_z hb a1 c
      refine br0 c ⟨vpi a1 (by omega) (by omega), ?_⟩
      rw [tnN a1]
      have nb := lx_nmb (tp := fb) (s := s) j (fun i hi => hd (s + i) (by omega) (by omega))
      have db := hd (s + j) (by omega) (by omega)
      have e1 : (10 * v).toInt = 10 * lx_nm fb s j := mul_z (a := 10) (b := v) rfl a3 (by omega) (by omega)
      have e2 := add_z e1 (b := fb (s + j)) rfl (by omega) (by omega)
      have e3 := sub_z e2 (b := 48) (y := 48) rfl (by omega) (by omega)
      refine ih (j + 1) (x + 1) _ (add1 (k := s + j) a1 (by omega)) (by omega) ?_ (by omega)
      show _ = if 10 * lx_nm fb s j + (fb (s + j)).toInt - 48 < 1001 then 10 * lx_nm fb s j + (fb (s + j)).toInt - 48 else 1001
      by_cases q : 10 * v + fb (s + j) - 48 < 1001
      · have q' := lt_z (y := 1001) e3 rfl q
        rw [if_pos q, if_pos q']; exact e3
      · have q' := nlt_z (y := 1001) e3 rfl q
        rw [if_neg q, if_neg (by omega)]; rfl
theorem x_cnum {a b : Int32} {fb : Nat → Int32} {s e : Nat} (ha : a.toInt = (s : Int)) (hb : b.toInt = (e : Int)) (hse : s ≤ e) (he : e ≤ 400) (hd : ∀ r, s ≤ r → r < e → 48 ≤ (fb r).toInt ∧ (fb r).toInt ≤ 57) {Q : Int32 → Prop} (K : ∀ v : Int32, v.toInt = lx_nm fb s (e - s) → Q v) : wp_X5_numberIn a b fb Q := by
  unfold wp_X5_numberIn
  exact x_cnum0 hb hse he hd (fun _ v hv => K v hv) _ 0 a 0 ha hse rfl (by omega)
/-- the class's tokens, as they stand -/
def TkX (n : Nat) (st : Nat → Nat) (T : Nat → Int) (tc : Int32) (tk pl : Nat → Int32) : Prop := ∃ c : Nat, tc.toInt = ((c + 1 : Nat) : Int) ∧ c ≤ 400 ∧ (∀ i, i ≤ c → (tk i).toInt = T i ∧ (pl i).toInt = (st i : Int)) ∧ (∀ i, i < c → ¬ T i = 31) ∧ T c = 31 ∧ (∀ i, c ≤ i → T i = 31 ∧ st i = n) ∧ ∀ i, 0 ≤ T i ∧ T i ≤ 2001
theorem Lex.e31 {tp : Nat → Int32} {n : Nat} {st en : Nat → Nat} {T : Nat → Int} (hL : Lex tp n st en T) {c : Nat} (h : T c = 31) : ∀ k, T (c + k) = 31 ∧ st (c + k) = n := by
  intro k
  induction k with
  | zero => exact ⟨h, (hL.le c).2.2.2.2.2 h⟩
  | succ k ih =>
    have a := hL.le (c + k)
    have b := a.2.2.2.2.2 ih.1
    have e : st (c + k + 1) = n := by omega
    exact ⟨t31 hL (i := c + k + 1) (by omega), e⟩
theorem Lex.tb {tp : Nat → Int32} {n : Nat} {st en : Nat → Nat} {T : Nat → Int} (hL : Lex tp n st en T) (i : Nat) : 0 ≤ T i ∧ T i ≤ 2001 := by
  rcases (hL.2 i).1 with ⟨_, _, c⟩ | ⟨_, _, c, d⟩ | ⟨_, _, c, d⟩ | ⟨_, _, _, _, c, _, d⟩
  · omega
  · have := lx_wdb d; omega
  · have := lx_nmb (tp := tp) (s := st i) (en i - st i) (fun j hj => c.2.2.1 (st i + j) (by omega) (by omega))
    omega
  · omega
theorem x_addTok {a b tc : Int32} {tk pl : Nat → Int32} {k : Nat} (hk : tc.toInt = (k : Int)) (h4 : k ≤ 400) {Q : (Int32 × (Nat → Int32) × (Nat → Int32)) → Prop} (hq : Q (tc + 1, upd tk k a, upd pl k b)) : wp_X5_addToken a b tc tk pl Q := by
  unfold wp_X5_addToken
  refine br0 (z_nle (x := 401) rfl hk (by omega)) ⟨vpi hk (by omega) (by omega), vpi hk (by omega) (by omega), ?_⟩
  rw [tnN hk]
  exact hq
/-- tokens so far -/
def TkS (st : Nat → Nat) (T : Nat → Int) (k : Nat) (tk pl : Nat → Int32) : Prop := ∀ i, i < k → (tk i).toInt = T i ∧ (pl i).toInt = (st i : Int) ∧ ¬ T i = 31
theorem TkS.up {st : Nat → Nat} {T : Nat → Int} {k : Nat} {tk pl : Nat → Int32} (h : TkS st T k tk pl) {a b : Int32} (ha : a.toInt = T k) (hb : b.toInt = (st k : Int)) (h31 : ¬ T k = 31) : TkS st T (k + 1) (upd tk k a) (upd pl k b) := by
  intro i hi
  unfold upd
  by_cases e : i = k
  · rw [if_pos e, if_pos e, e]; exact ⟨ha, hb, h31⟩
  · rw [if_neg e, if_neg e]; exact h i (by omega)
set_option maxHeartbeats 1000000 in
theorem x_split0 {tp : Nat → Int32} {n : Nat} {st en : Nat → Nat} {T : Nat → Int} (hL : Lex tp n st en T) {len : Int32} (hn : len.toInt = (n : Int)) (h4 : n ≤ 400) {xe : XE} (hx : isRf xe.2.2) {Qb : Int32 → Int32 → Int32 → (Nat → Int32) → (Nat → Int32) → Prop} (K : ∀ (x f tc : Int32) (tk pl : Nat → Int32) (k : Nat), tc.toInt = (k : Int) → k ≤ 400 → TkS st T k tk pl → T k = 31 → st k = n → Qb x f tc tk pl) : ∀ (m p k : Nat) (x f tc : Int32) (tk pl : Nat → Int32), f.toInt = (p : Int) → p ≤ n → tc.toInt = (k : Int) → k ≤ p → 0 ≤ x.toInt → x.toInt ≤ (p : Int) → SkT tp n p (st k) → TkS st T k tk pl → n - p < m → wl_X5_splitIntoTokens_9 len tp xe Qb m x f tc tk pl := by
  intro m
  induction m with
  | zero => intro p k x f tc tk pl a1 a2 a3 a4 a5 a6 a7 a8 a9; exact absurd a9 (Nat.not_lt_zero _)
  | succ m ih =>
    intro p k x f tc tk pl a1 a2 a3 a4 a5 a6 a7 a8 a9
    unfold wl_X5_splitIntoTokens_9
    have fin : p = n → Qb x f tc tk pl := fun e => by
      have e2 : st k = n := by have := a7.1; have := a7.2.1; omega
      exact K x f tc tk pl k a3 (by omega) a8 (t31 hL (i := k) (by omega)) e2
    by_cases c0 : 400 ≤ x
    · have c0' := le_z (x := 400) (y := x.toInt) rfl rfl c0
      exact br1 c0 (fin (by omega))
    · have c0' := nle_z (x := 400) (y := x.toInt) rfl rfl c0
      refine br0 c0 ?_
      by_cases c1 : len ≤ f
      · have c1' := le_z hn a1 c1
        exact br1 c1 (fin (by omega))
      · have c1' := nle_z hn a1 c1
        have pn : p < n := by omega
        refine br0 c1 ⟨vpi a1 (by omega) (by omega), ?_⟩
        rw [tnN a1]
        have x1 : (x + 1).toInt = x.toInt + 1 := add_z (a := x) (b := 1) rfl rfl (by omega) (by omega)
        have stp : ¬ tp p = 32 → p = st k := fun q => by
          rcases Nat.lt_or_ge p (st k) with w | w
          · exact absurd (a7.2.2.1 p (Nat.le_refl _) w) q
          · have := a7.1; omega
        have go : ∀ (e : Nat) (r a : Int32), p = st k → r.toInt = (en k : Int) → a.toInt = T k → ¬ T k = 31 → wl_X5_splitIntoTokens_9 len tp xe Qb m (x + 1) r (tc + 1) (upd tk k a) (upd pl k f) := fun e r a e1 e2 e3 e4 => by
          have l1 := hL.le k
          have l2 := l1.2.2.2.2.1 e4
          exact ih (en k) (k + 1) (x + 1) r (tc + 1) _ _ e2 l1.2.1 (add1 a3 (by omega)) (by omega) (by omega) (by omega) (hL.2 k).2 (a8.up e3 (by rw [a1, e1]) e4) (by omega)
        refine jn_s ?_
        have rest : ¬ (97 ≤ (tp p).toInt ∧ (tp p).toInt ≤ 122) → jn (fun _ : Unit => if tp p = 32 then wl_X5_splitIntoTokens_9 len tp xe Qb m (x + 1) (f + 1) tc tk pl else wp_X5_addToken (100 + tp p) f tc tk pl (un3 (fun u0 u1 u2 => wl_X5_splitIntoTokens_9 len tp xe Qb m (x + 1) (f + 1) u0 u1 u2))) (fun k_116 => if tp p < 48 then k_116 () else if 57 < tp p then k_116 () else wp_X5_endOfRow f 48 57 len tp (fun r => wp_X5_numberIn f r tp (fun v => wp_X5_addToken (1000 + v) f tc tk pl (un3 (fun u0 u1 u2 => wl_X5_splitIntoTokens_9 len tp xe Qb m (x + 1) r u0 u1 u2))))) := fun ns => by
          refine jn_s ?_
          have sign : ¬ (48 ≤ (tp p).toInt ∧ (tp p).toInt ≤ 57) → (if tp p = 32 then wl_X5_splitIntoTokens_9 len tp xe Qb m (x + 1) (f + 1) tc tk pl else wp_X5_addToken (100 + tp p) f tc tk pl (un3 (fun u0 u1 u2 => wl_X5_splitIntoTokens_9 len tp xe Qb m (x + 1) (f + 1) u0 u1 u2))) := fun nd => by
            by_cases c32 : tp p = 32
            · refine br1 c32 ?_
              have lt : p < st k := by
                rcases Nat.lt_or_ge p (st k) with w | w
                · exact w
                · have h1 := a7.1
                  have e : st k = p := by omega
                  have := a7.2.2.2 (by omega)
                  rw [e] at this
                  exact absurd c32 this
              exact ih (p + 1) k (x + 1) (f + 1) tc tk pl (add1 a1 (by omega)) (by omega) a3 (by omega) (by omega) (by omega) ⟨by omega, a7.2.1, fun r r1 r2 => a7.2.2.1 r (by omega) r2, a7.2.2.2⟩ a8 (by omega)
            · have ep := stp c32
              refine br0 c32 (x_addTok a3 (by omega) (un3_i ?_))
              rcases (hL.2 k).1 with ⟨b1, _⟩ | ⟨_, b2, _⟩ | ⟨_, b2, _⟩ | ⟨b1, b2, b3, b4, b5, b6, b7⟩
              · omega
              · rw [← ep] at b2; exact absurd b2 ns
              · rw [← ep] at b2; exact absurd b2 nd
              · rw [← ep] at b5 b6 b7
                have ea : (100 + tp p).toInt = 100 + (tp p).toInt := add_z (a := 100) (b := tp p) rfl rfl (by omega) (by omega)
                exact go 0 (f + 1) (100 + tp p) ep (by rw [add1 a1 (by omega), b6]) (by rw [ea, b7]) (by omega)
          by_cases d1 : tp p < 48
          · have d1' := lt_z (x := (tp p).toInt) (y := 48) rfl rfl d1
            exact br1 d1 (sign (by omega))
          · have d1' := nlt_z (x := (tp p).toInt) (y := 48) rfl rfl d1
            refine br0 d1 ?_
            by_cases d2 : 57 < tp p
            · have d2' := lt_z (x := 57) (y := (tp p).toInt) rfl rfl d2
              exact br1 d2 (sign (by omega))
            · have d2' := nlt_z (x := 57) (y := (tp p).toInt) rfl rfl d2
              have ep := stp (fun q => by rw [q] at d1'; exact absurd d1' (by decide))
              refine br0 d2 (x_ceor a1 a2 rfl rfl hn h4 (fun r e r1 r2 => ?_))
              refine x_cnum a1 r1 r2.1 (by have := r2.2.1; omega) r2.2.2.1 (fun v hv => ?_)
              refine x_addTok a3 (by omega) (un3_i ?_)
              rcases (hL.2 k).1 with ⟨b1, _⟩ | ⟨_, b2, _⟩ | ⟨b1, b2, b3, b4⟩ | ⟨b1, b2, b3, b4, b5, b6, b7⟩
              · omega
              · rw [← ep] at b2; exact absurd b2 ns
              · rw [← ep] at b3 b4
                have ee := r2.uq b3
                subst ee
                have nb := lx_nmb (tp := tp) (s := p) (en k - p) (fun i hi => b3.2.2.1 (p + i) (by omega) (by omega))
                have ea : (1000 + v).toInt = 1000 + lx_nm tp p (en k - p) := add_z (a := 1000) (b := v) rfl hv (by omega) (by omega)
                exact go 0 r (1000 + v) ep r1 (by rw [ea, b4]) (by omega)
              · rw [← ep] at b3; exact absurd ⟨d1', d2'⟩ b3
        by_cases d1 : tp p < 97
        · have d1' := lt_z (x := (tp p).toInt) (y := 97) rfl rfl d1
          exact br1 d1 (rest (by omega))
        · have d1' := nlt_z (x := (tp p).toInt) (y := 97) rfl rfl d1
          refine br0 d1 ?_
          by_cases d2 : 122 < tp p
          · have d2' := lt_z (x := 122) (y := (tp p).toInt) rfl rfl d2
            exact br1 d2 (rest (by omega))
          · have d2' := nlt_z (x := 122) (y := (tp p).toInt) rfl rfl d2
            have ep := stp (fun q => by rw [q] at d1'; exact absurd d1' (by decide))
            refine br0 d2 (x_ceor a1 a2 rfl rfl hn h4 (fun r e r1 r2 => ?_))
            refine x_cwordIn hx a1 r1 r2.1 (by have := r2.2.1; omega) (fun w z hz hw => ?_)
            refine x_addTok a3 (by omega) (un3_i ?_)
            rcases (hL.2 k).1 with ⟨b1, _⟩ | ⟨b1, b2, b3, b4⟩ | ⟨_, b2, _⟩ | ⟨b1, b2, b3, b4, b5, b6, b7⟩
            · omega
            · rw [← ep] at b3 b4
              have ee := r2.uq b3
              subst ee
              have ez := lx_wdu hw b4
              have wb := lx_wdb b4
              exact go 0 r w ep r1 (by rw [hz, ez]) (by omega)
            · rw [← ep] at b2; omega
            · rw [← ep] at b2; exact absurd ⟨d1', d2'⟩ b2
theorem x_split {tp : Nat → Int32} {n : Nat} {st en : Nat → Nat} {T : Nat → Int} (hL : Lex tp n st en T) {len : Int32} (hn : len.toInt = (n : Int)) (h4 : n ≤ 400) {xe : XE} (hx : isRf xe.2.2) {tk pl : Nat → Int32} {Q : (Int32 × (Nat → Int32) × (Nat → Int32)) → Prop} (hq : ∀ (tc : Int32) (tk pl : Nat → Int32), TkX n st T tc tk pl → Q (tc, tk, pl)) : wp_X5_splitIntoTokens len tp tk pl xe Q := by
  unfold wp_X5_splitIntoTokens
  refine x_split0 hL hn h4 hx (fun x f tc tk pl k k1 k2 k3 k4 k5 => ?_) _ 0 0 0 0 0 tk pl rfl (by omega) rfl (Nat.le_refl _) (by decide) (by decide) hL.1 (fun i hi => absurd hi (Nat.not_lt_zero _)) (by omega)
  refine x_addTok k1 k2 (un3_i (hq _ _ _ ⟨k, add1 k1 (by omega), k2, fun i hi => ?_, fun i hi => (k3 i hi).2.2, k4, fun i hi => ?_, hL.tb⟩))
  · unfold upd
    by_cases e : i = k
    · rw [if_pos e, if_pos e, e, k4]; exact ⟨rfl, by rw [hn, k5]⟩
    · rw [if_neg e, if_neg e]; exact ⟨(k3 i (by omega)).1, (k3 i (by omega)).2.1⟩
  · have := hL.e31 k4 (i - k)
    rw [Nat.add_sub_cancel' hi] at this
    exact this
theorem x_tokenNow {n : Nat} {st : Nat → Nat} {T : Nat → Int} {tc now : Int32} {tk pl : Nat → Int32} (h : TkX n st T tc tk pl) {i : Nat} (hi : now.toInt = (i : Int)) {Q : Int32 → Prop} (hq : ∀ r : Int32, r.toInt = T i → Q r) : wp_X5_tokenNow tc now tk Q := by
  obtain ⟨c, h1, h2, h3, h4, h5, h6, h7⟩ := h
  unfold wp_X5_tokenNow
  refine br0 (z_nlt (y := 0) hi rfl (by omega)) ?_
  by_cases d : tc ≤ now
  · have d' := le_z h1 hi d
    refine br1 d (hq 31 ?_)
    rw [(h6 i (by omega)).1]; rfl
  · have d' := nle_z h1 hi d
    refine br0 d ⟨vpi hi (by omega) (by omega), ?_⟩
    rw [tnN hi]
    exact hq _ (h3 i (by omega)).1
theorem x_take {n : Nat} {st : Nat → Nat} {T : Nat → Int} {tc now : Int32} {tk pl : Nat → Int32} (h : TkX n st T tc tk pl) {i : Nat} (hi : now.toInt = (i : Int)) {a : Int32} {z : Int} (ha : a.toInt = z) (hz : ¬ z = 31) {Q : Int32 → Int32 → Prop} (h1 : T i = z → i < 400 → Q 1 (now + 1)) (h0 : ¬ T i = z → Q 0 now) : wp_X5_take a tc now tk Q := by
  obtain ⟨c, g1, g2, g3, g4, g5, g6, g7⟩ := h
  unfold wp_X5_take
  refine br0 (z_nlt (y := 0) hi rfl (by omega)) ?_
  by_cases d : tc ≤ now
  · have d' := le_z g1 hi d
    refine br1 d (h0 ?_)
    rw [(g6 i (by omega)).1]; exact fun q => hz q.symm
  · have d' := nle_z g1 hi d
    refine br0 d ⟨vpi hi (by omega) (by omega), ?_⟩
    rw [tnN hi]
    have e := (g3 i (by omega)).1
    by_cases q : tk i = a
    · have q' := eq_z e ha q
      refine br1 q (h1 q' ?_)
      rcases Nat.lt_or_ge i c with w | w
      · omega
      · have := (g6 i w).1; omega
    · exact br0 q (h0 (ne_z e ha q))
theorem x_placeNow {n : Nat} {st : Nat → Nat} {T : Nat → Int} {tc now len : Int32} {tk pl : Nat → Int32} (h : TkX n st T tc tk pl) {i : Nat} (hi : now.toInt = (i : Int)) (hn : len.toInt = (n : Int)) {Q : Int32 → Prop} (hq : ∀ r : Int32, r.toInt = (st i : Int) → Q r) : wp_X5_placeNow len tc now pl Q := by
  obtain ⟨c, h1, h2, h3, h4, h5, h6, h7⟩ := h
  unfold wp_X5_placeNow
  refine br0 (z_nlt (y := 0) hi rfl (by omega)) ?_
  by_cases d : tc ≤ now
  · have d' := le_z h1 hi d
    refine br1 d (hq len ?_)
    rw [(h6 i (by omega)).2]; exact hn
  · have d' := nle_z h1 hi d
    refine br0 d ⟨vpi hi (by omega) (by omega), ?_⟩
    rw [tnN hi]
    exact hq _ (h3 i (by omega)).2
theorem TkX.lt {n : Nat} {st : Nat → Nat} {T : Nat → Int} {tc : Int32} {tk pl : Nat → Int32} (h : TkX n st T tc tk pl) {i : Nat} (hi : ¬ T i = 31) : i < 400 := by
  obtain ⟨c, h1, h2, h3, h4, h5, h6, h7⟩ := h
  rcases Nat.lt_or_ge i c with w | w
  · omega
  · exact absurd (h6 i w).1 hi
theorem TkX.tb {n : Nat} {st : Nat → Nat} {T : Nat → Int} {tc : Int32} {tk pl : Nat → Int32} (h : TkX n st T tc tk pl) (i : Nat) : 0 ≤ T i ∧ T i ≤ 2001 := by
  obtain ⟨c, h1, h2, h3, h4, h5, h6, h7⟩ := h
  exact h7 i
