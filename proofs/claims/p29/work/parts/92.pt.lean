/-! the reference's reader: sums and tests -/
theorem PI.imp {g g' : Prop} {t s n p fr : Nat} {o0 a0 pile pat op ar : Nat → Int32} (h : PI g t s n p fr o0 a0 pile pat op ar) (hg : g' → g) : PI g' t s n p fr o0 a0 pile pat op ar := ⟨h.1, h.2.1, fun q => h.2.2 (hg q)⟩
/-- the reader's state between two tokens -/
def RS (t s : Nat) (o0 a0 : Nat → Int32) (taped fr to sort bad nCode piled : Int32) (pile pat op ar : Nat → Int32) : Prop := ∃ n p f : Nat, nCode.toInt = (n : Int) ∧ piled.toInt = (p : Int) ∧ fr.toInt = (f : Int) ∧ PI (bad = 0) t s n p f o0 a0 pile pat op ar ∧ Tk taped fr to sort ∧ (bad = 0 ∨ bad = 1)
def NS (piled : Int32) (pile : Nat → Int32) : Prop := ∀ k : Nat, (k : Int) < piled.toInt → (pile k).toInt ≠ 32
def NB (piled : Int32) (pile : Nat → Int32) : Prop := ∀ k : Nat, (k : Int) < piled.toInt → (pile k).toInt ≤ 30
theorem RS.bad {t t' s : Nat} {taped fr to sort bad nCode piled : Int32} {o0 a0 pile pat op ar : Nat → Int32} (h : RS t s o0 a0 taped fr to sort bad nCode piled pile pat op ar) (hb : ¬ bad = 0) : RS t' s o0 a0 taped fr to sort bad nCode piled pile pat op ar := by
  obtain ⟨n, p, f, h1, h2, h3, h4, h5⟩ := h
  exact ⟨n, p, f, h1, h2, h3, h4.weak hb t', h5⟩
/-- further on on the tape -/
theorem RS.must {t s : Nat} {taped fr to sort bad nCode piled : Int32} {o0 a0 pile pat op ar : Nat → Int32} (h : RS t s o0 a0 taped fr to sort bad nCode piled pile pat op ar) {fr' to' sort' bad' : Int32} (hT : Tk taped fr' to' sort') (hf : fr.toInt ≤ fr'.toInt) (hb : bad' = 0 ∨ bad' = 1) (hi : bad' = 0 → bad = 0) : RS t s o0 a0 taped fr' to' sort' bad' nCode piled pile pat op ar := by
  obtain ⟨n, p, f, h1, h2, h3, h4, h5, h6⟩ := h
  refine ⟨n, p, fr'.toInt.toNat, h1, h2, ?_, (h4.imp hi).more ?_, hT, hb⟩
  · omega
  · omega
theorem sl_inner {piled : Int32} {pile : Nat → Int32} {p : Nat} (hp : piled.toInt = (p : Int)) (h4 : p ≤ 400) {Qb : Int32 → Int32 → Prop} (K : ∀ x v : Int32, ((v = -1 ∧ ∀ k, k < p → (pile k).toInt ≤ 30) ∨ ∃ k, k < p ∧ v = pile k ∧ 31 ≤ (pile k).toInt ∧ ∀ j, k < j → j < p → (pile j).toInt ≤ 30) → Qb x v) : ∀ (m i : Nat) (x v : Int32), x.toInt = (i : Int) → i ≤ p → p - i < m → ((v = -1 ∧ ∀ k, k < i → (pile k).toInt ≤ 30) ∨ ∃ k, k < i ∧ v = pile k ∧ 31 ≤ (pile k).toInt ∧ ∀ j, k < j → j < i → (pile j).toInt ≤ 30) → wl_X12_inner_4 piled pile Qb m x v := by
  intro m
  induction m with
  | zero => intro i x v _ _ h; omega
  | succ m ih =>
    intro i x v hx hi hm hI
    unfold wl_X12_inner_4
    by_cases c : piled ≤ x
    · have c' := le_z rfl rfl c
      obtain rfl : i = p := by omega
      exact br1 c (K x v hI)
    · have c' := nle_z rfl rfl c
      refine br0 c ⟨vpi hx (by omega) (by omega), ?_⟩
      rw [tnN hx]
      by_cases d : pile i < 31
      · have d' := lt_z (y := 31) rfl rfl d
        refine br1 d (ih (i + 1) _ _ (add1 hx (by omega)) (by omega) (by omega) ?_)
        rcases hI with ⟨q1, q2⟩ | ⟨k, q1, q2, q3, q4⟩
        · refine Or.inl ⟨q1, fun k hk => ?_⟩
          by_cases e : k = i
          · rw [e]; omega
          · exact q2 k (by omega)
        · refine Or.inr ⟨k, by omega, q2, q3, fun j j1 j2 => ?_⟩
          by_cases e : j = i
          · rw [e]; omega
          · exact q4 j j1 (by omega)
      · have d' := nlt_z (y := 31) rfl rfl d
        refine br0 d ⟨vpi hx (by omega) (by omega), ih (i + 1) _ _ (add1 hx (by omega)) (by omega) (by omega) (Or.inr ⟨i, by omega, rfl, d', fun j j1 j2 => by omega⟩)⟩
theorem s_inner {piled : Int32} {pile : Nat → Int32} {p : Nat} (hp : piled.toInt = (p : Int)) (h4 : p ≤ 400) {Q : Int32 → Prop} (hq : ∀ v : Int32, ((v = -1 ∧ ∀ k, k < p → (pile k).toInt ≤ 30) ∨ ∃ k, k < p ∧ v = pile k ∧ 31 ≤ (pile k).toInt ∧ ∀ j, k < j → j < p → (pile j).toInt ≤ 30) → Q v) : wp_X12_inner piled pile Q := by
  unfold wp_X12_inner
  exact sl_inner hp h4 (fun x v h => hq v h) _ 0 0 (-1) rfl (by omega) (by omega) (Or.inl ⟨rfl, fun k hk => by omega⟩)
theorem e_in {a b d : Int64} {Q : Int32 → Prop} (h1 : b.toInt ≤ a.toInt → a.toInt ≤ d.toInt → Q 1) (h0 : ¬ (b.toInt ≤ a.toInt ∧ a.toInt ≤ d.toInt) → Q 0) : wp_X12_in a b d Q := by
  unfold wp_X12_in
  by_cases c : lg_cmp a b < 0
  · refine br1 c (h0 ?_)
    have := c_lt rfl rfl c; omega
  · have c' := c_nlt rfl rfl c
    refine br0 c ?_
    by_cases e : 0 < lg_cmp a d
    · refine br1 e (h0 ?_)
      have := c_gt rfl rfl e; omega
    · exact br0 e (h1 c' (c_ngt rfl rfl e))
theorem sl_isCompared {pile : Nat → Int32} {Qb : Int32 → Prop} (K : ∀ x : Int32, -1 ≤ x.toInt → x.toInt < 400 → Qb x) : ∀ (m : Nat) (x : Int32), -1 ≤ x.toInt → x.toInt < 400 → x.toInt + 1 < m → wl_X12_isCompared_7 pile Qb m x := by
  intro m
  induction m with
  | zero => intro x a b c; exfalso; have c : x.toInt + 1 < 0 := c; omega
  | succ m ih =>
    intro x a b c
    unfold wl_X12_isCompared_7
    by_cases d : x < 0
    · exact br1 d (K x a b)
    · have d' := nlt_z (y := 0) rfl rfl d
      have e1 : (x + (-1)).toInt = x.toInt + (-1) := add_z rfl (by decide) (by omega) (by omega)
      refine br0 d ⟨vpi rfl (by omega) (by omega), e_in (fun _ _ => ?_) (fun _ => br1 rfl (K x a b))⟩
      exact br0 (by decide) (ih _ (by omega) (by omega) (by omega))
theorem s_isCompared {piled : Int32} {pile : Nat → Int32} (h0 : 0 ≤ piled.toInt) (h4 : piled.toInt ≤ 400) {Q : Int32 → Prop} (hq : ∀ r : Int32, Q r) : wp_X12_isCompared piled pile Q := by
  unfold wp_X12_isCompared
  have e1 : (piled - 1).toInt = piled.toInt - 1 := sub_z rfl rfl (by omega) (by omega)
  refine sl_isCompared (fun x a b => ?_) _ _ (by omega) (by omega) (by omega)
  by_cases d : x < 0
  · exact br1 d (hq _)
  · have d' := nlt_z (y := 0) rfl rfl d
    exact br0 d ⟨vpi rfl (by omega) (by omega), e_in (fun _ _ => br0 (by decide) (hq _)) (fun _ => br1 rfl (hq _))⟩
theorem s_openBracket {s : Nat} {a taped fr to sort : Int32} {worth : Int64} {fault bad nCode piled opened : Int32} {o0 a0 tape pile pat op ar : Nat → Int32} (h : RS 0 s o0 a0 taped fr to sort bad nCode piled pile pat op ar) (hs : ¬ sort = 0) (ha : a.toInt = 32 ∨ (a.toInt = 31 ∧ (bad = 0 → NS piled pile))) {Q : (Int32 × Int32 × Int32 × Int64 × Int32 × Int32 × Int32 × Int32 × (Nat → Int32) × (Nat → Int32)) → Prop} (hq : ∀ (fr' to' sort' : Int32) (worth' : Int64) (fault' bad' piled' opened' : Int32) (pile' pat' : Nat → Int32), RS 0 s o0 a0 taped fr' to' sort' bad' nCode piled' pile' pat' op ar → (bad' = 0 → fr.toInt < fr'.toInt ∧ (a.toInt = 31 → NS piled' pile')) → Q (fr', to', sort', worth', fault', bad', piled', opened', pile', pat')) : wp_X12_openBracket a taped fr to sort worth fault bad piled opened tape pile pat Q := by
  unfold wp_X12_openBracket
  obtain ⟨n, p, f, h1, h2, h3, h4, h5, h6⟩ := id h
  have a3 := h4.1.2.2.1
  have T := h5
  obtain ⟨t1, t2, t3, t4, t5, t6, t7⟩ := T
  have t8 := t7 hs
  refine jn1_i (fun _ => True) (fun y _ => ?_) (fun z hz => ?_)
  · refine s_must h5 (fun _ => hs) h6 (fun fr' to' sort' w' fault' bad' g1 g2 g3 g4 => un6_i ?_)
    by_cases c : bad' = 0
    · refine br1 c ?_
      obtain ⟨g5, -, g6⟩ := g4 c
      unfold wp_X12_push
      refine ⟨vpi h2 (by omega) (by omega), vpi h2 (by omega) (by omega), un3_i (hq _ _ _ _ _ _ _ _ _ _ ⟨n, p + 1, fr'.toInt.toNat, h1, add1 h2 (by omega), by have := g1.1; omega, ?_, g1, g3⟩ (fun _ => ⟨g6, fun e => ?_⟩))⟩
      · rw [tnN h2]
        refine (h4.imp (fun _ => g5)).push (t' := 0) 0 (by omega) (by omega) (by unfold isJ; omega) (by rw [if_neg (by omega)]) ?_ (by omega)
        rcases ha with ha | ⟨ha, hn⟩
        · exact Or.inr (Or.inl ha)
        · exact Or.inr (Or.inr (fun k hk => hn g5 k (by omega)))
      · rw [tnN h2]
        intro k hk
        rw [add1 h2 (by omega)] at hk
        by_cases e2 : k = p
        · rw [e2, pk_us]; omega
        · rw [pk_un e2]
          rcases ha with ha | ⟨ha, hn⟩
          · omega
          · exact hn g5 k (by omega)
    · exact br0 c (hq _ _ _ _ _ _ _ _ _ _ (h.must g1 g2 g3 (fun q => (c q).elim)) (fun q => (c q).elim))
  · by_cases c : 8 ≤ opened
    · exact br1 c (hz _ trivial)
    · exact br0 c (hz _ trivial)
theorem s_leaf {s : Nat} {a b d taped fr to sort : Int32} {worth : Int64} {fault bad nCode nLeaves piled : Int32} {o0 a0 tape pile pat op ar : Nat → Int32} (h : RS 0 s o0 a0 taped fr to sort bad nCode piled pile pat op ar) (hs : ¬ a = 0 → ¬ sort = 0) (h0 : 0 ≤ b.toInt) (h12 : b.toInt ≤ 9) {Q : (Int32 × Int32 × Int32 × Int64 × Int32 × Int32 × Int32 × Int32 × (Nat → Int32) × (Nat → Int32)) → Prop} (hq : ∀ (fr' to' sort' : Int32) (worth' : Int64) (fault' bad' nCode' nLeaves' : Int32) (op' ar' : Nat → Int32), RS 1 s o0 a0 taped fr' to' sort' bad' nCode' piled pile pat op' ar' → (bad' = 0 → fr.toInt < fr'.toInt ∧ ∃ m : Nat, nCode'.toInt = ((m + 1 : Nat) : Int) ∧ s ≤ m ∧ (op' m).toInt ≤ 9) → Q (fr', to', sort', worth', fault', bad', nCode', nLeaves', op', ar')) : wp_X12_leaf a b d taped fr to sort worth fault bad nCode nLeaves tape op ar Q := by
  unfold wp_X12_leaf
  obtain ⟨n, p, f, h1, h2, h3, h4, h5, h6⟩ := id h
  obtain ⟨a1, a2, a3, a4, a5⟩ := h4.1
  obtain ⟨t1, t2, t3, t4, t5, t6, t7⟩ := id h5
  refine jn1_i (fun y : Int32 => ¬ y = 0 → ¬ a = 0) (fun y hy => ?_) (fun z hz => ?_)
  · refine s_must h5 (fun e => hs (hy e)) h6 (fun fr' to' sort' w' fault' bad' g1 g2 g3 g4 => un6_i ?_)
    by_cases c : bad' = 0
    · refine br1 c ?_
      obtain ⟨g5, g7, g6⟩ := g4 c
      have t8 := t7 (hs (hy g7))
      unfold wp_X12_emit
      refine ⟨vpi h1 (by omega) (by omega), vpi h1 (by omega) (by omega), un3_i (hq _ _ _ _ _ _ _ _ _ _ ⟨n + 1, p, fr'.toInt.toNat, add1 h1 (by omega), h2, by have := g1.1; omega, ?_, g1, g3⟩ (fun _ => ⟨g6, n, add1 h1 (by omega), a1, ?_⟩))⟩
      · rw [tnN h1]
        exact (h4.imp (fun _ => g5)).leaf d h0 h12 (by omega)
      · rw [tnN h1, pk_us]; exact h12
    · exact br0 c (hq _ _ _ _ _ _ _ _ _ _ ((h.must g1 g2 g3 (fun q => (c q).elim)).bad c) (fun q => (c q).elim))
  · by_cases c : a = 0
    · exact br1 c (hz 0 (fun q => absurd rfl q))
    · refine br0 c ?_
      by_cases e : 50 ≤ nLeaves
      · exact br1 e (hz 0 (fun q => absurd rfl q))
      · exact br0 e (hz 1 (fun _ => c))
def RP (s : Nat) (o0 a0 : Nat → Int32) (taped fr : Int32) (r fr' to' sort' bad' nCode' piled' : Int32) (pile' pat' op' ar' : Nat → Int32) : Prop := ((r = 1 ∧ RS 0 s o0 a0 taped fr' to' sort' bad' nCode' piled' pile' pat' op' ar') ∨ (r = 3 ∧ RS 1 s o0 a0 taped fr' to' sort' bad' nCode' piled' pile' pat' op' ar')) ∧ (bad' = 0 → fr.toInt < fr'.toInt)
theorem s_readPart {s : Nat} {taped fr to sort : Int32} {worth : Int64} {fault bad ordered nCode nLeaves piled opened : Int32} {words oWords : Nat → Int64} {o0 a0 tape pile pat op ar : Nat → Int32} (h : RS 0 s o0 a0 taped fr to sort bad nCode piled pile pat op ar) {Q : Int32 → (Int32 × Int32 × Int32 × Int64 × Int32 × Int32 × Int32 × Int32 × Int32 × Int32 × (Nat → Int32) × (Nat → Int32) × (Nat → Int32) × (Nat → Int32)) → Prop} (hq : ∀ (r fr' to' sort' : Int32) (worth' : Int64) (fault' bad' nCode' nLeaves' piled' opened' : Int32) (op' ar' pile' pat' : Nat → Int32), RP s o0 a0 taped fr r fr' to' sort' bad' nCode' piled' pile' pat' op' ar' → Q r (fr', to', sort', worth', fault', bad', nCode', nLeaves', piled', opened', op', ar', pile', pat')) : wp_X12_readPart taped fr to sort worth fault bad ordered nCode nLeaves piled opened words oWords tape op ar pile pat Q := by
  unfold wp_X12_readPart
  refine e_isSign (fun s1 _ => ?_) ?_
  · refine br0 (by decide) (s_openBracket h (nz_of s1 (by decide)) (Or.inl (by decide)) (fun fr' to' sort' w' fault' bad' piled' opened' pile' pat' g1 g2 => un10_i (hq _ _ _ _ _ _ _ _ _ _ _ _ _ _ _ ⟨Or.inl ⟨rfl, g1⟩, fun q => (g2 q).1⟩)))
  · refine br1 rfl ?_
    refine jn1_i (fun y : Int32 => y = -1 ∨ (sort = 1 ∧ 1 ≤ y.toInt ∧ y.toInt ≤ 9)) (fun y hy => ?_) (fun z hz => ?_)
    · refine jn1_i (fun w : Int32 => ¬ w = 0 → sort = 2) (fun w hw => ?_) (fun z hz => ?_)
      · refine jn1_i (fun a : Int32 => ¬ a = 0 → ¬ sort = 0) (fun a ha => ?_) (fun z hz => ?_)
        · refine jn1_i (fun b : Int32 => 0 ≤ b.toInt ∧ b.toInt ≤ 9) (fun b hb => ?_) (fun z hz => ?_)
          · refine jn1_i (fun _ => True) (fun d _ => ?_) (fun z hz => ?_)
            · refine s_leaf h ha hb.1 hb.2 (fun fr' to' sort' w' fault' bad' nCode' nLeaves' op' ar' g1 g2 => un10_i ?_)
              have L : Q 3 (fr', to', sort', w', fault', bad', nCode', nLeaves', piled, opened, op', ar', pile, pat) := hq _ _ _ _ _ _ _ _ _ _ _ _ _ _ _ ⟨Or.inr ⟨rfl, g1⟩, fun q => (g2 q).1⟩
              by_cases c1 : ordered = 0
              · exact br1 c1 L
              · refine br0 c1 ?_
                by_cases c2 : y < 4
                · exact br1 c2 L
                · refine br0 c2 ?_
                  by_cases c3 : bad' = 0
                  · refine br1 c3 ?_
                    obtain ⟨n, p, f, h1, h2, h3, h4, h5, h6⟩ := id g1
                    obtain ⟨l1, m, l2, x0, l3⟩ := g2 c3
                    obtain rfl : n = m + 1 := by omega
                    have e1 := sub1 l2
                    have x1 := h4.1.2.1
                    obtain ⟨t1, t2, t3, t4, t5, t6, t7⟩ := id h5
                    have N : ∀ (lo hi : Int64), wp_X12_number lo hi taped fr' to' sort' w' fault' bad' tape (fun r => un6 fun u0 u1 u2 u3 u4 u5 => (vp_in (nCode' - 1) 400 ∧ Q 3 (u0, u1, u2, u3, u4, u5, nCode', nLeaves', piled, opened, op', upd ar' (nCode' - 1).toNatClampNeg r, pile, pat))) := fun lo hi =>
                      s_number h5 h6 (fun r f1 f2 f3 f4 f5 f6 k1 k2 k3 k4 => un6_i ⟨vpi e1 (by omega) (by omega), hq _ _ _ _ _ _ _ _ _ _ _ _ _ _ _ ⟨Or.inr ⟨rfl, m + 1, p, f1.toInt.toNat, h1, h2, by have := k1.1; omega, by
                        rw [tnN e1]
                        exact ((h4.imp (fun q => (k4 q).1)).arg x0 l3 r).more (by omega), k1, k3⟩, fun q => by have := (k4 q).2.1; omega⟩⟩)
                    by_cases c4 : y = 6
                    · exact br1 c4 (N 0 4)
                    · exact br0 c4 (N 0 5)
                  · exact br0 c3 L
            · by_cases c : w = 0
              · exact br1 c (hz _ trivial)
              · exact br0 c (hz _ trivial)
          · by_cases c : y = -1
            · exact br1 c (hz _ (by decide))
            · refine br0 c (hz _ ?_)
              rcases hy with hy | hy
              · exact (c hy).elim
              · omega
        · by_cases c : y = -1
          · refine br1 c ?_
            by_cases e : w = 0
            · exact br1 e (hz 0 (fun q => absurd rfl q))
            · exact br0 e (hz 1 (fun _ => nz_of (hw e) (by decide)))
          · refine br0 c (hz 1 (fun _ => ?_))
            rcases hy with hy | hy
            · exact (c hy).elim
            · exact nz_of hy.1 (by decide)
      · by_cases c : sort = 2
        · refine br1 c ?_
          by_cases e : 0 < lg_cmp worth 1000
          · exact br1 e (hz 0 (fun q => absurd rfl q))
          · exact br0 e (hz 1 (fun _ => c))
        · exact br0 c (hz 0 (fun q => absurd rfl q))
    · by_cases c : ordered = 0
      · exact br1 c (s_partAt (fun r hr => hz r hr))
      · refine br0 c (s_orderPartAt (fun r hr => hz r ?_))
        rcases hr with hr | hr
        · exact Or.inl hr
        · exact Or.inr ⟨hr.1, hr.2.1, by omega⟩
def RQ (s : Nat) (o0 a0 : Nat → Int32) (taped fr : Int32) (r fr' to' sort' bad' nCode' piled' : Int32) (pile' pat' op' ar' : Nat → Int32) : Prop := ((r = 0 ∧ RS 0 s o0 a0 taped fr' to' sort' bad' nCode' piled' pile' pat' op' ar' ∧ (bad' = 0 → NS piled' pile')) ∨ (r = 1 ∧ RS 0 s o0 a0 taped fr' to' sort' bad' nCode' piled' pile' pat' op' ar') ∨ (r = 3 ∧ RS 1 s o0 a0 taped fr' to' sort' bad' nCode' piled' pile' pat' op' ar')) ∧ (bad' = 0 → fr.toInt < fr'.toInt)
theorem s_readPlain {s : Nat} {taped fr to sort : Int32} {worth : Int64} {fault bad ordered nCode nLeaves piled opened : Int32} {words oWords : Nat → Int64} {o0 a0 tape pile pat op ar : Nat → Int32} (h : RS 0 s o0 a0 taped fr to sort bad nCode piled pile pat op ar) (hb : bad = 0) (hN : NS piled pile) {Q : Int32 → (Int32 × Int32 × Int32 × Int64 × Int32 × Int32 × Int32 × Int32 × Int32 × Int32 × (Nat → Int32) × (Nat → Int32) × (Nat → Int32) × (Nat → Int32)) → Prop} (hq : ∀ (r fr' to' sort' : Int32) (worth' : Int64) (fault' bad' nCode' nLeaves' piled' opened' : Int32) (op' ar' pile' pat' : Nat → Int32), RQ s o0 a0 taped fr r fr' to' sort' bad' nCode' piled' pile' pat' op' ar' → Q r (fr', to', sort', worth', fault', bad', nCode', nLeaves', piled', opened', op', ar', pile', pat')) : wp_X12_readPlain taped fr to sort worth fault bad ordered nCode nLeaves piled opened words oWords tape op ar pile pat Q := by
  unfold wp_X12_readPlain
  refine e_isWord (fun s1 _ => ?_) ?_
  · obtain ⟨n, p, f, h1, h2, h3, h4, h5, h6⟩ := id h
    have a3 := h4.1.2.2.1
    obtain ⟨t1, t2, t3, t4, t5, t6, t7⟩ := id h5
    have t8 := t7 (nz_of s1 (by decide))
    refine br0 (by decide) ?_
    unfold wp_X12_push
    refine ⟨vpi h2 (by omega) (by omega), vpi h2 (by omega) (by omega), un3_i (h5.next (nz_of s1 (by decide)) (fun fr' to' sort' w' g1 g2 => un4_i (hq _ _ _ _ _ _ _ _ _ _ _ _ _ _ _ ⟨Or.inl ⟨rfl, ⟨n, p + 1, fr'.toInt.toNat, h1, add1 h2 (by omega), by have := g2.1; omega, ?_, g2, h6⟩, fun _ => ?_⟩, fun _ => g1⟩)))⟩
    · rw [tnN h2]
      exact h4.push (t' := 0) 0 (by decide) (by decide) (by unfold isJ; decide) (by rw [if_neg (by decide)]) (Or.inr (Or.inr (fun k hk => hN k (by omega)))) (by omega)
    · rw [tnN h2]
      intro k hk
      rw [add1 h2 (by omega)] at hk
      by_cases e2 : k = p
      · rw [e2, pk_us]; decide
      · rw [pk_un e2]; exact hN k (by omega)
  · refine br1 rfl (e_isSign (fun s1 _ => ?_) ?_)
    · exact br0 (by decide) (s_openBracket h (nz_of s1 (by decide)) (Or.inr ⟨by decide, fun _ => hN⟩) (fun fr' to' sort' w' fault' bad' piled' opened' pile' pat' g1 g2 => un10_i (hq _ _ _ _ _ _ _ _ _ _ _ _ _ _ _ ⟨Or.inl ⟨rfl, g1, fun q => (g2 q).2 (by decide)⟩, fun q => (g2 q).1⟩)))
    · refine br1 rfl (s_readPart h (fun r fr' to' sort' w' fault' bad' nCode' nLeaves' piled' opened' op' ar' pile' pat' g => un14_i (hq _ _ _ _ _ _ _ _ _ _ _ _ _ _ _ ⟨?_, g.2⟩)))
      rcases g.1 with g1 | g1
      · exact Or.inr (Or.inl g1)
      · exact Or.inr (Or.inr g1)
