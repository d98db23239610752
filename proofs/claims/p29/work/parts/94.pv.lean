/-! the reference's reader: an expression, a clause -/
def wt (r : Int32) : Int := if r = 3 then 2 else if r = 2 then 1 else 0
theorem wt_b (r : Int32) : 0 ≤ wt r ∧ wt r ≤ 2 := by
  unfold wt
  split
  · omega
  · split <;> omega
def RX (s : Nat) (o0 a0 : Nat → Int32) (taped r fr to sort bad nCode piled : Int32) (pile pat op ar : Nat → Int32) : Prop :=
  (r = 0 ∧ RS 0 s o0 a0 taped fr to sort bad nCode piled pile pat op ar ∧ (bad = 0 → NS piled pile)) ∨ (r = 1 ∧ RS 0 s o0 a0 taped fr to sort bad nCode piled pile pat op ar) ∨ (r = 2 ∧ RS 1 s o0 a0 taped fr to sort bad nCode piled pile pat op ar ∧ (bad = 0 → NS piled pile)) ∨ (r = 3 ∧ RS 1 s o0 a0 taped fr to sort bad nCode piled pile pat op ar) ∨ (r = 4 ∧ RS 1 s o0 a0 taped fr to sort bad nCode piled pile pat op ar ∧ (bad = 0 → NB piled pile))
theorem RX.fr {s : Nat} {o0 a0 : Nat → Int32} {taped r fr to sort bad nCode piled : Int32} {pile pat op ar : Nat → Int32} (h : RX s o0 a0 taped r fr to sort bad nCode piled pile pat op ar) : 0 ≤ fr.toInt ∧ fr.toInt ≤ 400 := by
  have g : ∀ t, RS t s o0 a0 taped fr to sort bad nCode piled pile pat op ar → 0 ≤ fr.toInt ∧ fr.toInt ≤ 400 := fun t h => by
    obtain ⟨n, p, f, _, _, _, _, ⟨t1, t2, t3, t4, _⟩, _⟩ := h
    omega
  rcases h with h | h | h | h | h
  · exact g _ h.2.1
  · exact g _ h.2
  · exact g _ h.2.1
  · exact g _ h.2
  · exact g _ h.2.1
theorem sl_rx {s : Nat} {o0 a0 : Nat → Int32} {a taped ordered : Int32} {tape : Nat → Int32} {words oWords : Nat → Int64} {fr0 : Int} {Qb : Int32 → Int32 → Int32 → Int32 → Int64 → Int32 → Int32 → Int32 → Int32 → Int32 → Int32 → (Nat → Int32) → (Nat → Int32) → (Nat → Int32) → (Nat → Int32) → Prop} (K : ∀ (r fr to sort : Int32) (worth : Int64) (fault bad nCode nLeaves piled opened : Int32) (pile op ar pat : Nat → Int32), RS 1 s o0 a0 taped fr to sort bad nCode piled pile pat op ar → (bad = 0 → NB piled pile) → (bad = 0 → fr0 ≤ fr.toInt) → Qb r fr to sort worth fault bad nCode nLeaves piled opened pile op ar pat) : ∀ (m : Nat) (r fr to sort : Int32) (worth : Int64) (fault bad nCode nLeaves piled opened : Int32) (pile op ar pat : Nat → Int32), RX s o0 a0 taped r fr to sort bad nCode piled pile pat op ar → (bad = 0 → fr0 ≤ fr.toInt) → 0 < m → (bad = 0 → 3 * (400 - fr.toInt) + wt r + 1 < m) → wl_X12_readExpression_20 a taped ordered tape words oWords Qb m r fr to sort worth fault bad nCode nLeaves piled opened pile op ar pat := by
  intro m
  induction m with
  | zero => intro r fr to sort worth fault bad nCode nLeaves piled opened pile op ar pat _ _ h; omega
  | succ m ih =>
    intro r fr to sort worth fault bad nCode nLeaves piled opened pile op ar pat hX hf hm hM
    unfold wl_X12_readExpression_20
    by_cases cb : bad = 0
    · refine br1 cb ?_
      have hM := hM cb
      have hf := hf cb
      have hr := hX.fr
      have wb := wt_b r
      have g0 : (((m + 1 : Nat)) : Int) = (m : Int) + 1 := by omega
      by_cases r4 : r = 4
      · refine br1 r4 ?_
        rcases hX with h | h | h | h | h
        · rw [h.1] at r4; exact absurd r4 (by decide)
        · rw [h.1] at r4; exact absurd r4 (by decide)
        · rw [h.1] at r4; exact absurd r4 (by decide)
        · rw [h.1] at r4; exact absurd r4 (by decide)
        · exact K _ _ _ _ _ _ _ _ _ _ _ _ _ _ _ h.2.1 h.2.2 (fun _ => hf)
      · refine br0 r4 ?_
        by_cases r0 : r = 0
        · refine br1 r0 ?_
          have hs : RS 0 s o0 a0 taped fr to sort bad nCode piled pile pat op ar ∧ NS piled pile := by
            rcases hX with h | h | h | h | h
            · exact ⟨h.2.1, h.2.2 cb⟩
            · rw [h.1] at r0; exact absurd r0 (by decide)
            · rw [h.1] at r0; exact absurd r0 (by decide)
            · rw [h.1] at r0; exact absurd r0 (by decide)
            · exact (r4 h.1).elim
          refine s_readPlain hs.1 cb hs.2 (fun r' fr' to' sort' w' fault' bad' nCode' nLeaves' piled' opened' op' ar' pile' pat' g => un14_i (ih _ _ _ _ _ _ _ _ _ _ _ _ _ _ _ ?_ (fun q => by have := g.2 q; omega) (by omega) (fun q => by have := g.2 q; have := wt_b r'; omega)))
          rcases g.1 with g | g | g
          · exact Or.inl g
          · exact Or.inr (Or.inl g)
          · exact Or.inr (Or.inr (Or.inr (Or.inl g)))
        · refine br0 r0 ?_
          by_cases r1 : r = 1
          · refine br1 r1 ?_
            have hs : RS 0 s o0 a0 taped fr to sort bad nCode piled pile pat op ar := by
              rcases hX with h | h | h | h | h
              · exact (r0 h.1).elim
              · exact h.2
              · rw [h.1] at r1; exact absurd r1 (by decide)
              · rw [h.1] at r1; exact absurd r1 (by decide)
              · exact (r4 h.1).elim
            refine s_readPart hs (fun r' fr' to' sort' w' fault' bad' nCode' nLeaves' piled' opened' op' ar' pile' pat' g => un14_i (ih _ _ _ _ _ _ _ _ _ _ _ _ _ _ _ ?_ (fun q => by have := g.2 q; omega) (by omega) (fun q => by have := g.2 q; have := wt_b r'; omega)))
            rcases g.1 with g | g
            · exact Or.inr (Or.inl g)
            · exact Or.inr (Or.inr (Or.inr (Or.inl g)))
          · refine br0 r1 ?_
            by_cases r3 : r = 3
            · refine br1 r3 ?_
              have hs : RS 1 s o0 a0 taped fr to sort bad nCode piled pile pat op ar := by
                rcases hX with h | h | h | h | h
                · exact (r0 h.1).elim
                · exact (r1 h.1).elim
                · exact h.2.1
                · exact h.2
                · exact h.2.1
              have w3 : wt r = 2 := by rw [r3]; rfl
              refine s_behindSum hs cb (fun r' fr' to' sort' w' fault' bad' nCode' piled' opened' pile' op' ar' pat' g => un13_i (ih _ _ _ _ _ _ _ _ _ _ _ _ _ _ _ ?_ (fun q => ?_) (by omega) (fun q => ?_)))
              · rcases g with g | g | g | g
                · exact Or.inr (Or.inl ⟨g.1, g.2.1⟩)
                · exact Or.inr (Or.inr (Or.inr (Or.inl ⟨g.1, g.2.1⟩)))
                · exact Or.inr (Or.inr (Or.inr (Or.inr ⟨g.1, g.2.1, fun _ => g.2.2.1⟩)))
                · exact Or.inr (Or.inr (Or.inl ⟨g.1, g.2.1, fun _ => g.2.2.1⟩))
              · rcases g with g | g | g | g
                · have := g.2.2 q; omega
                · have := g.2.2 q; omega
                · rw [← g.2.2.2]; exact hf
                · rw [← g.2.2.2]; exact hf
              · rcases g with g | g | g | g
                · have := g.2.2 q; have := wt_b r'; omega
                · have := g.2.2 q; have := wt_b r'; omega
                · rw [← g.2.2.2]; have e : wt r' = 0 := by rw [g.1]; rfl
                  omega
                · rw [← g.2.2.2]; have e : wt r' = 1 := by rw [g.1]; rfl
                  omega
            · refine br0 r3 ?_
              have hs : r = 2 ∧ RS 1 s o0 a0 taped fr to sort bad nCode piled pile pat op ar ∧ NS piled pile := by
                rcases hX with h | h | h | h | h
                · exact (r0 h.1).elim
                · exact (r1 h.1).elim
                · exact ⟨h.1, h.2.1, h.2.2 cb⟩
                · exact (r3 h.1).elim
                · exact (r4 h.1).elim
              have w2 : wt r = 1 := by rw [hs.1]; rfl
              refine s_behindTest hs.2.1 cb hs.2.2 (fun r' fr' to' sort' w' fault' bad' nCode' piled' opened' pile' op' ar' pat' g => un13_i (ih _ _ _ _ _ _ _ _ _ _ _ _ _ _ _ ?_ (fun q => ?_) (by omega) (fun q => ?_)))
              · rcases g with g | g | g
                · exact Or.inl ⟨g.1, g.2.1, g.2.2.1⟩
                · exact Or.inr (Or.inr (Or.inr (Or.inr ⟨g.1, g.2.1, fun _ => g.2.2.1⟩)))
                · exact Or.inr (Or.inr (Or.inl ⟨g.1, g.2.1, g.2.2.1⟩))
              · rcases g with g | g | g
                · have := g.2.2.2 q; omega
                · rw [← g.2.2.2]; exact hf
                · have := g.2.2.2 q; omega
              · rcases g with g | g | g
                · have := g.2.2.2 q; have := wt_b r'; omega
                · rw [← g.2.2.2]; have e : wt r' = 0 := by rw [g.1]; rfl
                  omega
                · have := g.2.2.2 q; have := wt_b r'; omega
    · refine br0 cb (K _ _ _ _ _ _ _ _ _ _ _ _ _ _ _ ?_ (fun q => (cb q).elim) (fun q => (cb q).elim))
      rcases hX with h | h | h | h | h
      · exact h.2.1.bad cb
      · exact h.2.bad cb
      · exact h.2.1
      · exact h.2
      · exact h.2.1
theorem sl_rxa {s : Nat} {o0 a0 : Nat → Int32} {a taped ordered : Int32} {tape : Nat → Int32} {words oWords : Nat → Int64} {fr0 : Int} {Qb : Int32 → Int32 → Int32 → Int32 → Int64 → Int32 → Int32 → Int32 → Int32 → Int32 → Int32 → (Nat → Int32) → (Nat → Int32) → (Nat → Int32) → (Nat → Int32) → Prop} (K : ∀ (r fr to sort : Int32) (worth : Int64) (fault bad nCode nLeaves piled opened : Int32) (pile op ar pat : Nat → Int32), RS 1 s o0 a0 taped fr to sort bad nCode piled pile pat op ar → (bad = 0 → NB piled pile) → (bad = 0 → fr0 ≤ fr.toInt) → Qb r fr to sort worth fault bad nCode nLeaves piled opened pile op ar pat) : ∀ (m : Nat) (r fr to sort : Int32) (worth : Int64) (fault bad nCode nLeaves piled opened : Int32) (pile op ar pat : Nat → Int32), RX s o0 a0 taped r fr to sort bad nCode piled pile pat op ar → (bad = 0 → fr0 ≤ fr.toInt) → 0 < m → (bad = 0 → 3 * (400 - fr.toInt) + wt r + 1 < m) → wl_X12_readExpression_20a a taped ordered tape words oWords Qb m r fr to sort worth fault bad nCode nLeaves piled opened pile op ar pat := by
  intro m
  induction m with
  | zero => intro r fr to sort worth fault bad nCode nLeaves piled opened pile op ar pat _ _ h; omega
  | succ m ih =>
    intro r fr to sort worth fault bad nCode nLeaves piled opened pile op ar pat hX hf hm hM
    unfold wl_X12_readExpression_20a
    by_cases cb : bad = 0
    · refine br1 cb ?_
      have hM := hM cb
      have hf := hf cb
      have hr := hX.fr
      have wb := wt_b r
      have g0 : (((m + 1 : Nat)) : Int) = (m : Int) + 1 := by omega
      by_cases r4 : r = 4
      · refine br1 r4 ?_
        rcases hX with h | h | h | h | h
        · rw [h.1] at r4; exact absurd r4 (by decide)
        · rw [h.1] at r4; exact absurd r4 (by decide)
        · rw [h.1] at r4; exact absurd r4 (by decide)
        · rw [h.1] at r4; exact absurd r4 (by decide)
        · exact K _ _ _ _ _ _ _ _ _ _ _ _ _ _ _ h.2.1 h.2.2 (fun _ => hf)
      · refine br0 r4 ?_
        by_cases r0 : r = 0
        · refine br1 r0 ?_
          have hs : RS 0 s o0 a0 taped fr to sort bad nCode piled pile pat op ar ∧ NS piled pile := by
            rcases hX with h | h | h | h | h
            · exact ⟨h.2.1, h.2.2 cb⟩
            · rw [h.1] at r0; exact absurd r0 (by decide)
            · rw [h.1] at r0; exact absurd r0 (by decide)
            · rw [h.1] at r0; exact absurd r0 (by decide)
            · exact (r4 h.1).elim
          refine s_readPlain hs.1 cb hs.2 (fun r' fr' to' sort' w' fault' bad' nCode' nLeaves' piled' opened' op' ar' pile' pat' g => un14_i (ih _ _ _ _ _ _ _ _ _ _ _ _ _ _ _ ?_ (fun q => by have := g.2 q; omega) (by omega) (fun q => by have := g.2 q; have := wt_b r'; omega)))
          rcases g.1 with g | g | g
          · exact Or.inl g
          · exact Or.inr (Or.inl g)
          · exact Or.inr (Or.inr (Or.inr (Or.inl g)))
        · refine br0 r0 ?_
          by_cases r1 : r = 1
          · refine br1 r1 ?_
            have hs : RS 0 s o0 a0 taped fr to sort bad nCode piled pile pat op ar := by
              rcases hX with h | h | h | h | h
              · exact (r0 h.1).elim
              · exact h.2
              · rw [h.1] at r1; exact absurd r1 (by decide)
              · rw [h.1] at r1; exact absurd r1 (by decide)
              · exact (r4 h.1).elim
            refine s_readPart hs (fun r' fr' to' sort' w' fault' bad' nCode' nLeaves' piled' opened' op' ar' pile' pat' g => un14_i (ih _ _ _ _ _ _ _ _ _ _ _ _ _ _ _ ?_ (fun q => by have := g.2 q; omega) (by omega) (fun q => by have := g.2 q; have := wt_b r'; omega)))
            rcases g.1 with g | g
            · exact Or.inr (Or.inl g)
            · exact Or.inr (Or.inr (Or.inr (Or.inl g)))
          · refine br0 r1 ?_
            by_cases r3 : r = 3
            · refine br1 r3 ?_
              have hs : RS 1 s o0 a0 taped fr to sort bad nCode piled pile pat op ar := by
                rcases hX with h | h | h | h | h
                · exact (r0 h.1).elim
                · exact (r1 h.1).elim
                · exact h.2.1
                · exact h.2
                · exact h.2.1
              have w3 : wt r = 2 := by rw [r3]; rfl
              refine s_behindSum hs cb (fun r' fr' to' sort' w' fault' bad' nCode' piled' opened' pile' op' ar' pat' g => un13_i (ih _ _ _ _ _ _ _ _ _ _ _ _ _ _ _ ?_ (fun q => ?_) (by omega) (fun q => ?_)))
              · rcases g with g | g | g | g
                · exact Or.inr (Or.inl ⟨g.1, g.2.1⟩)
                · exact Or.inr (Or.inr (Or.inr (Or.inl ⟨g.1, g.2.1⟩)))
                · exact Or.inr (Or.inr (Or.inr (Or.inr ⟨g.1, g.2.1, fun _ => g.2.2.1⟩)))
                · exact Or.inr (Or.inr (Or.inl ⟨g.1, g.2.1, fun _ => g.2.2.1⟩))
              · rcases g with g | g | g | g
                · have := g.2.2 q; omega
                · have := g.2.2 q; omega
                · rw [← g.2.2.2]; exact hf
                · rw [← g.2.2.2]; exact hf
              · rcases g with g | g | g | g
                · have := g.2.2 q; have := wt_b r'; omega
                · have := g.2.2 q; have := wt_b r'; omega
                · rw [← g.2.2.2]; have e : wt r' = 0 := by rw [g.1]; rfl
                  omega
                · rw [← g.2.2.2]; have e : wt r' = 1 := by rw [g.1]; rfl
                  omega
            · refine br0 r3 ?_
              have hs : r = 2 ∧ RS 1 s o0 a0 taped fr to sort bad nCode piled pile pat op ar ∧ NS piled pile := by
                rcases hX with h | h | h | h | h
                · exact (r0 h.1).elim
                · exact (r1 h.1).elim
                · exact ⟨h.1, h.2.1, h.2.2 cb⟩
                · exact (r3 h.1).elim
                · exact (r4 h.1).elim
              have w2 : wt r = 1 := by rw [hs.1]; rfl
              refine s_behindTest hs.2.1 cb hs.2.2 (fun r' fr' to' sort' w' fault' bad' nCode' piled' opened' pile' op' ar' pat' g => un13_i (ih _ _ _ _ _ _ _ _ _ _ _ _ _ _ _ ?_ (fun q => ?_) (by omega) (fun q => ?_)))
              · rcases g with g | g | g
                · exact Or.inl ⟨g.1, g.2.1, g.2.2.1⟩
                · exact Or.inr (Or.inr (Or.inr (Or.inr ⟨g.1, g.2.1, fun _ => g.2.2.1⟩)))
                · exact Or.inr (Or.inr (Or.inl ⟨g.1, g.2.1, g.2.2.1⟩))
              · rcases g with g | g | g
                · have := g.2.2.2 q; omega
                · rw [← g.2.2.2]; exact hf
                · have := g.2.2.2 q; omega
              · rcases g with g | g | g
                · have := g.2.2.2 q; have := wt_b r'; omega
                · rw [← g.2.2.2]; have e : wt r' = 0 := by rw [g.1]; rfl
                  omega
                · have := g.2.2.2 q; have := wt_b r'; omega
    · refine br0 cb (K _ _ _ _ _ _ _ _ _ _ _ _ _ _ _ ?_ (fun q => (cb q).elim) (fun q => (cb q).elim))
      rcases hX with h | h | h | h | h
      · exact h.2.1.bad cb
      · exact h.2.bad cb
      · exact h.2.1
      · exact h.2
      · exact h.2.1
/-- behind an expression -/
def EX (n : Nat) (op ar : Nat → Int32) (taped fr : Int32) (fr' to' sort' bad' nCode' : Int32) (op' ar' : Nat → Int32) : Prop := Tk taped fr' to' sort' ∧ (bad' = 0 ∨ bad' = 1) ∧ ∃ n' : Nat, nCode'.toInt = (n' : Int) ∧ n ≤ n' ∧ n' ≤ 400 ∧ (bad' = 0 → (n' : Int) ≤ fr'.toInt ∧ fr.toInt ≤ fr'.toInt ∧ SG op' ar' n n' ∧ ∀ i, i < n → op' i = op i ∧ ar' i = ar i)
theorem s_readExpression {n : Nat} {a taped fr to sort : Int32} {worth : Int64} {fault bad ordered nCode nLeaves : Int32} {pile tape op ar pat : Nat → Int32} {words oWords : Nat → Int64} (hT : Tk taped fr to sort) (hb : bad = 0) (hn : nCode.toInt = (n : Int)) (hf : (n : Int) ≤ fr.toInt) {Q : (Int32 × Int32 × Int32 × Int64 × Int32 × Int32 × Int32 × Int32 × Int32 × Int32 × (Nat → Int32) × (Nat → Int32) × (Nat → Int32) × (Nat → Int32)) → Prop} (hq : ∀ (fr' to' sort' : Int32) (worth' : Int64) (fault' bad' nCode' nLeaves' piled' opened' : Int32) (pile' op' ar' pat' : Nat → Int32), EX n op ar taped fr fr' to' sort' bad' nCode' op' ar' → Q (fr', to', sort', worth', fault', bad', nCode', nLeaves', piled', opened', pile', op', ar', pat')) : wp_X12_readExpression a taped fr to sort worth fault bad ordered nCode nLeaves pile tape op ar pat words oWords Q := by
  unfold wp_X12_readExpression
  have t := hT
  obtain ⟨t1, t2, t3, t4, t5, t6, t7⟩ := t
  have e0 : (0 : Int32).toInt = ((0 : Nat) : Int) := rfl
  have R0 : RS 0 n op ar taped fr to sort bad nCode 0 pile pat op ar := ⟨n, 0, fr.toInt.toNat, hn, e0, by omega, PI.start _ (by omega) pile pat op ar, hT, Or.inl hb⟩
  have KK : ∀ (r fr' to' sort' : Int32) (worth' : Int64) (fault' bad' nCode' nLeaves' piled' opened' : Int32) (pile' op' ar' pat' : Nat → Int32), RS 1 n op ar taped fr' to' sort' bad' nCode' piled' pile' pat' op' ar' → (bad' = 0 → NB piled' pile') → (bad' = 0 → fr.toInt ≤ fr'.toInt) → wp_X12_settle 1 nCode' piled' pile' op' ar' pat' (un4 fun u0 u1 u2 u3 => Q (fr', to', sort', worth', fault', bad', u0, nLeaves', u1, opened', pile', u2, u3, pat')) := fun r fr' to' sort' worth' fault' bad' nCode' nLeaves' piled' opened' pile' op' ar' pat' hR hB hF => by
    obtain ⟨n', p', f', h1, h2, h3, h4, h5, h6⟩ := hR
    obtain ⟨s1, s2, s3, s4, _⟩ := id h5
    refine s_settle (by omega) (by decide) h1 h2 h4 (fun n2 p2 c2 q2 op2 ar2 k1 k2 k3 k4 k5 k6 => un4_i (hq _ _ _ _ _ _ _ _ _ _ _ _ _ _ ⟨h5, h6, n2, k1, k3.1.1, ?_, fun q => ?_⟩))
    · have := k3.1.2.1; omega
    · have e1 : (1 : Int32).toInt = 1 := rfl
      have z : p2 = 0 := by
        rcases k6 with k6 | ⟨k, k6, k7⟩
        · exact k6
        · have := hB q k (by omega)
          have := bnd_v (pile' k)
          omega
      subst z
      refine ⟨by have := k3.1.2.1; omega, hF q, k3.done q, k3.low q⟩
  have w0 : wt 0 = 0 := rfl
  have w1 : wt 1 = 0 := rfl
  by_cases c : a = 0
  · refine br1 c (sl_rx (s := n) (o0 := op) (a0 := ar) (fr0 := fr.toInt) (fun r fr' to' sort' worth' fault' bad' nCode' nLeaves' piled' opened' pile' op' ar' pat' q1 q2 q3 => KK r fr' to' sort' worth' fault' bad' nCode' nLeaves' piled' opened' pile' op' ar' pat' q1 q2 q3) _ _ _ _ _ _ _ _ _ _ _ _ _ _ _ _ (Or.inr (Or.inl ⟨rfl, R0⟩)) (fun _ => Int.le_refl _) (by omega) (fun _ => by omega))
  · refine br0 c (sl_rxa (s := n) (o0 := op) (a0 := ar) (fr0 := fr.toInt) (fun r fr' to' sort' worth' fault' bad' nCode' nLeaves' piled' opened' pile' op' ar' pat' q1 q2 q3 => KK r fr' to' sort' worth' fault' bad' nCode' nLeaves' piled' opened' pile' op' ar' pat' q1 q2 q3) _ _ _ _ _ _ _ _ _ _ _ _ _ _ _ _ (Or.inl ⟨rfl, R0, fun _ k hk => ?_⟩) (fun _ => Int.le_refl _) (by omega) (fun _ => by omega))
    rw [e0] at hk; omega
theorem SG.cong {op ar op' ar' : Nat → Int32} {a b n : Nat} (h : SG op ar a b) (hb : b ≤ n) (e : ∀ i, i < n → op' i = op i ∧ ar' i = ar i) : SG op' ar' a b := by
  obtain ⟨ht, z, h⟩ := h
  refine ⟨ht, z, fun i i1 i2 => ?_⟩
  have := h i i1 i2
  obtain ⟨e1, e2⟩ := e i (by omega)
  unfold ST at this ⊢
  rw [e1, e2]
  exact this
theorem SG.nil (op ar : Nat → Int32) (a : Nat) : SG op ar a a := ⟨fun _ => 0, rfl, fun i i1 i2 => by omega⟩
/-- the clauses that are read so far -/
def CLs (f op ar : Nat → Int32) (c n : Nat) : Prop := ∀ k, k < c → ∃ p3 p4 p5 p6 : Nat, (f (8 * k + 3)).toInt = (p3 : Int) ∧ (f (8 * k + 4)).toInt = (p4 : Int) ∧ (f (8 * k + 5)).toInt = (p5 : Int) ∧ (f (8 * k + 6)).toInt = (p6 : Int) ∧ p4 ≤ n ∧ p6 ≤ n ∧ p3 ≤ p4 ∧ p5 ≤ p6 ∧ SG op ar p3 p4 ∧ SG op ar p5 p6
/-- the reader of laws between two clauses -/
def LaS (taped fr to sort bad nClauses nCode : Int32) (f op ar : Nat → Int32) : Prop := Tk taped fr to sort ∧ (bad = 0 ∨ bad = 1) ∧ (bad = 0 → ∃ c n : Nat, nClauses.toInt = (c : Int) ∧ nCode.toInt = (n : Int) ∧ c ≤ 12 ∧ (n : Int) ≤ fr.toInt ∧ CLs f op ar c n)
theorem sl_readLaw75 {nC : Int32} {c : Nat} (hc : nC.toInt = (c : Int)) (h12 : c < 12) {Qb : Int32 → (Nat → Int32) → Prop} {f : Nat → Int32} (K : ∀ (x : Int32) (f' : Nat → Int32), (∀ i, i < 8 * c → f' i = f i) → Qb x f') : ∀ (m : Nat) (x : Int32) (f' : Nat → Int32), 0 ≤ x.toInt → x.toInt ≤ 8 → 8 - x.toInt < m → (∀ i, i < 8 * c → f' i = f i) → wl_X12_readLaw_75 nC Qb m x f' := by
  intro m
  induction m with
  | zero => intro x f' a b d; exfalso; have d : 8 - x.toInt < 0 := d; omega
  | succ m ih =>
    intro x f' a b d e
    unfold wl_X12_readLaw_75
    by_cases g : 8 ≤ x
    · exact br1 g (K x f' e)
    · have g' := nle_z (x := 8) rfl rfl g
      have m8 : (8 * nC).toInt = 8 * nC.toInt := mul_z rfl rfl (by omega) (by omega)
      have e8 : (8 * nC + x).toInt = (8 * nC).toInt + x.toInt := add_z rfl rfl (by omega) (by omega)
      have x1 := li_1 (x := x) (hi := 8) (by omega) (by omega)
      refine br0 g ⟨vpi rfl (by omega) (by omega), ih _ _ (by omega) (by omega) (by omega) (fun i hi => ?_)⟩
      have := tnz (x := (8 * nC + x).toInt) rfl (by omega)
      rw [pk_un (by omega)]
      exact e i hi
theorem ix8 {nC : Int32} {c : Nat} (hc : nC.toInt = (c : Int)) (h12 : c < 12) {j : Int32} {J : Nat} (hj : j.toInt = (J : Int)) (hJ : J < 8) : (8 * nC + j).toInt = ((8 * c + J : Nat) : Int) := by
  have m8 : (8 * nC).toInt = 8 * nC.toInt := mul_z rfl rfl (by omega) (by omega)
  have e8 : (8 * nC + j).toInt = (8 * nC).toInt + j.toInt := add_z rfl rfl (by omega) (by omega)
  omega
theorem ix80 {nC : Int32} {c : Nat} (hc : nC.toInt = (c : Int)) (h12 : c < 12) : (8 * nC).toInt = ((8 * c : Nat) : Int) := by
  have m8 : (8 * nC).toInt = 8 * nC.toInt := mul_z rfl rfl (by omega) (by omega)
  omega
theorem CLs.add {f f0 op ar op' ar' : Nat → Int32} {c n n1 n2 : Nat} (h : CLs f op ar c n) (he : ∀ i, i < 8 * c → f0 i = f i) (hn : n ≤ n1) (hn2 : n1 ≤ n2) (ho : ∀ i, i < n → op' i = op i ∧ ar' i = ar i) {v a3 a4 a5 a6 : Int32} (h3 : a3.toInt = (n : Int)) (h4 : a4.toInt = (n1 : Int)) (h5 : a5.toInt = (n1 : Int)) (h6 : a6.toInt = (n2 : Int)) (s1 : SG op' ar' n n1) (s2 : SG op' ar' n1 n2) : CLs (upd (upd (upd (upd (upd f0 (8 * c) v) (8 * c + 3) a3) (8 * c + 4) a4) (8 * c + 5) a5) (8 * c + 6) a6) op' ar' (c + 1) n2 := by
  intro k hk
  by_cases e : k = c
  · subst e
    refine ⟨n, n1, n1, n2, ?_, ?_, ?_, ?_, hn2, Nat.le_refl n2, hn, hn2, s1, s2⟩
    · rw [pk_un (by omega), pk_un (by omega), pk_un (by omega), pk_us]; exact h3
    · rw [pk_un (by omega), pk_un (by omega), pk_us]; exact h4
    · rw [pk_un (by omega), pk_us]; exact h5
    · rw [pk_us]; exact h6
  · obtain ⟨p3, p4, p5, p6, q3, q4, q5, q6, q7, q8, q9, q10, t1, t2⟩ := h k (by omega)
    have g : ∀ j, j < 8 → upd (upd (upd (upd (upd f0 (8 * c) v) (8 * c + 3) a3) (8 * c + 4) a4) (8 * c + 5) a5) (8 * c + 6) a6 (8 * k + j) = f (8 * k + j) := fun j hj => by
      rw [pk_un (by omega), pk_un (by omega), pk_un (by omega), pk_un (by omega), pk_un (by omega)]
      exact he _ (by omega)
    refine ⟨p3, p4, p5, p6, ?_, ?_, ?_, ?_, by omega, by omega, q9, q10, t1.cong q7 ho, t2.cong q8 ho⟩
    · rw [g 3 (by omega)]; exact q3
    · rw [g 4 (by omega)]; exact q4
    · rw [g 5 (by omega)]; exact q5
    · rw [g 6 (by omega)]; exact q6
theorem s_readLaw {taped fr to sort : Int32} {worth : Int64} {fault bad ordered nClauses nCode nLeaves piled opened : Int32} {heads : Nat → Int64} {tape f pile op ar pat : Nat → Int32} {words oWords : Nat → Int64} (h : LaS taped fr to sort bad nClauses nCode f op ar) (hb : bad = 0) {Q : (Int32 × Int32 × Int32 × Int64 × Int32 × Int32 × Int32 × Int32 × Int32 × Int32 × Int32 × (Nat → Int32) × (Nat → Int32) × (Nat → Int32) × (Nat → Int32) × (Nat → Int32)) → Prop} (hq : ∀ (fr' to' sort' : Int32) (worth' : Int64) (fault' bad' nClauses' nCode' nLeaves' piled' opened' : Int32) (f' pile' op' ar' pat' : Nat → Int32), LaS taped fr' to' sort' bad' nClauses' nCode' f' op' ar' → (bad' = 0 → fr.toInt ≤ fr'.toInt) → Q (fr', to', sort', worth', fault', bad', nClauses', nCode', nLeaves', piled', opened', f', pile', op', ar', pat')) : wp_X12_readLaw taped fr to sort worth fault bad ordered nClauses nCode nLeaves piled opened heads tape f pile op ar pat words oWords Q := by
  unfold wp_X12_readLaw
  obtain ⟨hT, hb1, hC⟩ := h
  obtain ⟨c, n, hc, hn, h12, hnf, hcl⟩ := hC hb
  refine sl_readLaw4 (fun x v hv => ?_) _ 0 (-1) (by decide) (by decide) (Or.inl rfl) (by decide)
  refine jn1_i (fun y : Int32 => ¬ y = 0 → sort = 1 ∧ c < 12) (fun y hy => ?_) (fun z hz => ?_)
  · refine s_must hT (fun q => nz_of (hy q).1 (by decide)) hb1 (fun fr1 to1 sort1 w1 fault1 bad1 g1 g2 g3 g4 => un6_i ?_)
    by_cases b1 : bad1 = 0
    · refine br1 b1 ?_
      obtain ⟨-, g5, g6⟩ := g4 b1
      have c12 := (hy g5).2
      have i0 := ix80 hc c12
      have i3 := ix8 hc c12 (j := 3) (J := 3) rfl (by omega)
      have i4 := ix8 hc c12 (j := 4) (J := 4) rfl (by omega)
      have i5 := ix8 hc c12 (j := 5) (J := 5) rfl (by omega)
      have i6 := ix8 hc c12 (j := 6) (J := 6) rfl (by omega)
      have hcc := add1 hc (by omega)
      refine sl_readLaw75 hc c12 (f := f) (fun x2 f2 hf2 => ?_) _ 0 f (by decide) (by decide) (by decide) (fun i _ => rfl)
      refine ⟨vpi i0 (by omega) (by omega), vpi i3 (by omega) (by omega), ?_⟩
      rw [tnN i0, tnN i3, tnN i4, tnN i5, tnN i6]
      refine jn1_i (un14 (fun (y0 y1 y2 y3 : Nat → Int32) (y4 y5 y6 : Int32) (y7 : Int64) (y8 y9 y10 y11 y12 y13 : Int32) => EX n op ar taped fr1 y4 y5 y6 y9 y10 y1 y2)) (fun y hy => ?_) (fun z hz => ?_)
      · obtain ⟨y0, y1, y2, y3, y4, y5, y6, y7, y8, y9, y10, y11, y12, y13⟩ := y
        obtain ⟨eT, eb, n1, en, e1, e2, e3⟩ : EX n op ar taped fr1 y4 y5 y6 y9 y10 y1 y2 := hy
        refine un14_i ⟨vpi i4 (by omega) (by omega), vpi i5 (by omega) (by omega), ?_⟩
        by_cases b2 : y9 = 0
        · obtain ⟨e4, e5, e6, e7⟩ := e3 b2
          refine br1 b2 (e_isWord (fun s1 _ => ?_) ?_)
          · refine br0 (by decide) (eT.next (nz_of s1 (by decide)) (fun fr3 to3 sort3 w3 k1 k2 => un4_i ?_))
            refine s_readExpression k2 b2 en (by omega) (fun fr4 to4 sort4 w4 fault4 bad4 nC4 nL4 pd4 od4 pile4 op4 ar4 pat4 hE => un14_i ⟨vpi i6 (by omega) (by omega), ?_⟩)
            obtain ⟨j1, j2, n2, j3, j4, j5, j6⟩ := hE
            refine hq _ _ _ _ _ _ _ _ _ _ _ _ _ _ _ _ ⟨j1, j2, fun q => ⟨c + 1, n2, hcc, j3, by omega, (j6 q).1, ?_⟩⟩ (fun q => by have := (j6 q).2.1; omega)
            obtain ⟨l1, l2, l3, l4⟩ := j6 q
            exact hcl.add hf2 e1 j4 (fun i hi => by rw [(l4 i (by omega)).1, (l4 i (by omega)).2]; exact e7 i hi) hn en en j3 (e6.cong (Nat.le_refl n1) l4) l3
          · refine br1 rfl ⟨vpi i6 (by omega) (by omega), hq _ _ _ _ _ _ _ _ _ _ _ _ _ _ _ _ ⟨eT, eb, fun q => ⟨c + 1, n1, hcc, en, by omega, e4, ?_⟩⟩ (fun q => by omega)⟩
            exact hcl.add hf2 e1 (Nat.le_refl n1) e7 hn en en en e6 (SG.nil y1 y2 n1)
        · refine br0 b2 ⟨vpi i6 (by omega) (by omega), hq _ _ _ _ _ _ _ _ _ _ _ _ _ _ _ _ ⟨eT, eb, fun q => (b2 q).elim⟩ (fun q => (b2 q).elim)⟩
      · by_cases v4 : v = 4
        · refine br1 v4 (hz _ ?_)
          show EX n op ar taped fr1 fr1 to1 sort1 bad1 nCode op ar
          exact ⟨g1, g3, n, hn, Nat.le_refl n, by have := g1.2.1; have := g1.2.2.1; have := g1.2.2.2.1; omega, fun _ => ⟨by omega, Int.le_refl _, SG.nil op ar n, fun _ _ => ⟨rfl, rfl⟩⟩⟩
        · refine br0 v4 (s_readExpression g1 b1 hn (by omega) (fun fr4 to4 sort4 w4 fault4 bad4 nC4 nL4 pd4 od4 pile4 op4 ar4 pat4 hE => un14_i (hz _ hE)))
    · exact br0 b1 (hq _ _ _ _ _ _ _ _ _ _ _ _ _ _ _ _ ⟨g1, g3, fun q => (b1 q).elim⟩ (fun q => (b1 q).elim))
  · by_cases v1 : v = -1
    · exact br1 v1 (hz 0 (fun q => absurd rfl q))
    · refine br0 v1 ?_
      by_cases c1 : 12 ≤ nClauses
      · exact br1 c1 (hz 0 (fun q => absurd rfl q))
      · have c1' := nle_z (x := 12) rfl rfl c1
        refine br0 c1 (hz 1 (fun _ => ⟨?_, by omega⟩))
        rcases hv with e | e
        · exact (v1 e).elim
        · exact e.1
theorem s_begin {taped : Int32} {tape : Nat → Int32} (h0 : 0 ≤ taped.toInt) (h4 : taped.toInt ≤ 400) {Q : (Int32 × Int32 × Int32 × Int64 × Int32 × Int32) → Prop} (hq : ∀ (fr to sort : Int32) (worth : Int64), Tk taped fr to sort → Q (fr, to, sort, worth, -1, 0)) : wp_X12_begin taped tape Q := by
  unfold wp_X12_begin
  exact s_nextToken (to := 0) (by decide) h0 h4 (fun fr to sort w _ h => un4_i (hq _ _ _ _ h))
theorem s_endText {taped fr to sort : Int32} {worth : Int64} {fault bad : Int32} {tape : Nat → Int32} {Q : (Int32 × Int32 × Int32 × Int32 × Int64 × Int32 × Int32 × Int32) → Prop} (hT : Tk taped fr to sort) (hb : bad = 0 ∨ bad = 1) (hq : ∀ (fr' to' sort' : Int32) (worth' : Int64) (fault' bad' : Int32), (bad' = 0 ∨ bad' = 1) → (bad' = 0 → bad = 0) → Q (0, fr', to', sort', worth', fault', bad', 0)) : wp_X12_endText taped fr to sort worth fault bad tape Q := by
  unfold wp_X12_endText
  by_cases c : bad = 0
  · refine br1 c ?_
    by_cases d : sort = 0
    · exact br1 d (hq _ _ _ _ _ _ hb (fun _ => c))
    · refine br0 d (s_must hT (fun q => absurd rfl q) hb (fun f1 f2 f3 f4 f5 f6 h1 h2 h3 h4 => un6_i (hq _ _ _ _ _ _ h3 (fun _ => c))))
  · exact br0 c (hq _ _ _ _ _ _ hb (fun q => q))
theorem sl_law37 {taped ordered : Int32} {tape : Nat → Int32} {heads words oWords : Nat → Int64} {Qb : Int32 → Int32 → Int32 → Int64 → Int32 → Int32 → Int32 → Int32 → Int32 → Int32 → Int32 → (Nat → Int32) → (Nat → Int32) → (Nat → Int32) → (Nat → Int32) → (Nat → Int32) → Prop} (K : ∀ (fr to sort : Int32) (worth : Int64) (fault bad nClauses nCode nLeaves piled opened : Int32) (f pile op ar pat : Nat → Int32), LaS taped fr to sort bad nClauses nCode f op ar → Qb fr to sort worth fault bad nClauses nCode nLeaves piled opened f pile op ar pat) : ∀ (m : Nat) (fr to sort : Int32) (worth : Int64) (fault bad nClauses nCode nLeaves piled opened : Int32) (f pile op ar pat : Nat → Int32), LaS taped fr to sort bad nClauses nCode f op ar → 0 < m → (bad = 0 → 401 - fr.toInt < m) → wl_X12_law_37 taped tape heads words oWords ordered Qb m fr to sort worth fault bad nClauses nCode nLeaves piled opened f pile op ar pat := by
  intro m
  induction m with
  | zero => intro fr to sort worth fault bad nClauses nCode nLeaves piled opened f pile op ar pat _ h; omega
  | succ m ih =>
    intro fr to sort worth fault bad nClauses nCode nLeaves piled opened f pile op ar pat hL hm hM
    unfold wl_X12_law_37
    by_cases b : bad = 0
    · have hM := hM b
      obtain ⟨hT, hb, hC⟩ := id hL
      have u2 := hT.2.1
      have u3 := hT.2.2.1
      have u4 := hT.2.2.2.1
      refine br1 b (e_isSign (fun s1 _ => ?_) (br1 rfl (K _ _ _ _ _ _ _ _ _ _ _ _ _ _ _ _ hL)))
      refine br0 (by decide) (hT.next (nz_of s1 (by decide)) (fun fr2 to2 sort2 w2 k1 k2 => un4_i ?_))
      refine s_readLaw ⟨k2, hb, fun q => ?_⟩ b (fun fr3 to3 sort3 w3 fault3 bad3 nC3 nD3 nL3 pd3 od3 f3 pile3 op3 ar3 pat3 g1 g2 => un16_i (ih _ _ _ _ _ _ _ _ _ _ _ _ _ _ _ _ g1 (by omega) (fun q => by have := g2 q; omega)))
      obtain ⟨c, n, x1, x2, x3, x4, x5⟩ := hC q
      exact ⟨c, n, x1, x2, x3, by omega, x5⟩
    · exact br0 b (K _ _ _ _ _ _ _ _ _ _ _ _ _ _ _ _ hL)
/-- behind the row's head: the law that is laid at its place -/
def LC1 (r r0 f : Nat → Int32) (at_ i : Nat) : Prop := (∀ j, j < at_ + 2 → r j = r0 j) ∧ (∀ j, at_ + 98 ≤ j → r j = r0 j) ∧ ∀ k, k < i → r (at_ + 2 + k) = f k
def LC2 (r r0 op ar : Nat → Int32) (at_ i : Nat) : Prop := (∀ j, j < at_ + 98 → r j = r0 j) ∧ (∀ j, at_ + 898 ≤ j → r j = r0 j) ∧ ∀ k, k < i → r (at_ + 98 + 2 * k) = op k ∧ r (at_ + 98 + 2 * k + 1) = ar k
theorem atL {row : Nat → Int32} {M : Nat} (hM : (row (5 : Int32).toNatClampNeg).toInt = (M : Int)) (h6 : M < 6) : (250 + 900 * (row (5 : Int32).toNatClampNeg)).toInt = ((250 + 900 * M : Nat) : Int) := by
  have m1 : (900 * (row (5 : Int32).toNatClampNeg)).toInt = 900 * (row (5 : Int32).toNatClampNeg).toInt := mul_z rfl rfl (by omega) (by omega)
  have m2 : (250 + 900 * (row (5 : Int32).toNatClampNeg)).toInt = 250 + (900 * (row (5 : Int32).toNatClampNeg)).toInt := add_z rfl rfl (by omega) (by omega)
  omega
theorem addN {a b : Int32} {x y : Nat} (ha : a.toInt = (x : Int)) (hb : b.toInt = (y : Int)) (h : x + y ≤ 100000) : (a + b).toInt = ((x + y : Nat) : Int) := by
  have := add_z ha hb (by omega) (by omega)
  omega
theorem mulN {a b : Int32} {x y : Nat} (ha : a.toInt = (x : Int)) (hb : b.toInt = (y : Int)) (h : x * y ≤ 100000) : (a * b).toInt = ((x * y : Nat) : Int) := by
  have h2 : (x : Int) * (y : Int) = ((x * y : Nat) : Int) := (Int.natCast_mul x y).symm
  have := mul_z ha hb (by rw [h2]; omega) (by rw [h2]; omega)
  rw [this, h2]
theorem sl_law111 {row : Nat → Int32} {M c : Nat} (hM : (row (5 : Int32).toNatClampNeg).toInt = (M : Int)) (h6 : M < 6) {nC : Int32} (hc : nC.toInt = (c : Int)) (h12 : c ≤ 12) {f r0 : Nat → Int32} {Qb : Int32 → (Nat → Int32) → Prop} (K : ∀ (x : Int32) (r : Nat → Int32), LC1 r r0 f (250 + 900 * M) (8 * c) → Qb x r) : ∀ (m i : Nat) (x : Int32) (r : Nat → Int32), x.toInt = (i : Int) → i ≤ 8 * c → 8 * c - i < m → LC1 r r0 f (250 + 900 * M) i → wl_X12_law_111 row nC f Qb m x r := by
  intro m
  have hA := atL hM h6
  have c8 : (8 * nC).toInt = ((8 * c : Nat) : Int) := mulN (x := 8) rfl hc (by omega)
  induction m with
  | zero => intro i x r _ _ h; omega
  | succ m ih =>
    intro i x r hx hi hm hL
    unfold wl_X12_law_111
    by_cases d : 8 * nC ≤ x
    · have d' := le_z rfl rfl d
      obtain rfl : i = 8 * c := by omega
      exact br1 d (K x r hL)
    · have d' := nle_z rfl rfl d
      have e2 := addN (addN hA (b := 2) (y := 2) rfl (by omega)) hx (by omega)
      refine br0 d ⟨vpi hx (by omega) (by omega), vpi e2 (by omega) (by omega), ?_⟩
      rw [tnN e2, tnN hx]
      refine ih (i + 1) _ _ (add1 hx (by omega)) (by omega) (by omega) ⟨fun j hj => ?_, fun j hj => ?_, fun k hk => ?_⟩
      · rw [pk_un (by omega)]; exact hL.1 j hj
      · rw [pk_un (by omega)]; exact hL.2.1 j hj
      · by_cases e : k = i
        · rw [e, pk_us]
        · rw [pk_un (by omega)]; exact hL.2.2 k (by omega)
theorem sl_law146 {row : Nat → Int32} {M n : Nat} (hM : (row (5 : Int32).toNatClampNeg).toInt = (M : Int)) (h6 : M < 6) {nC : Int32} (hc : nC.toInt = (n : Int)) (h4 : n ≤ 400) {op ar r0 : Nat → Int32} {Qb : Int32 → (Nat → Int32) → Prop} (K : ∀ (x : Int32) (r : Nat → Int32), LC2 r r0 op ar (250 + 900 * M) n → Qb x r) : ∀ (m i : Nat) (x : Int32) (r : Nat → Int32), x.toInt = (i : Int) → i ≤ n → n - i < m → LC2 r r0 op ar (250 + 900 * M) i → wl_X12_law_146 row nC op ar Qb m x r := by
  intro m
  have hA := atL hM h6
  induction m with
  | zero => intro i x r _ _ h; omega
  | succ m ih =>
    intro i x r hx hi hm hL
    unfold wl_X12_law_146
    by_cases d : nC ≤ x
    · have d' := le_z rfl rfl d
      obtain rfl : i = n := by omega
      exact br1 d (K x r hL)
    · have d' := nle_z rfl rfl d
      have e2 := addN (addN hA (b := 98) (y := 98) rfl (by omega)) (mulN (x := 2) (a := 2) rfl hx (by omega)) (by omega)
      have e3 := addN e2 (b := 1) (y := 1) rfl (by omega)
      refine br0 d ⟨vpi hx (by omega) (by omega), vpi e2 (by omega) (by omega), vpi hx (by omega) (by omega), vpi e3 (by omega) (by omega), ?_⟩
      rw [tnN e2, tnN e3, tnN hx]
      refine ih (i + 1) _ _ (add1 hx (by omega)) (by omega) (by omega) ⟨fun j hj => ?_, fun j hj => ?_, fun k hk => ?_⟩
      · rw [pk_un (by omega), pk_un (by omega)]; exact hL.1 j hj
      · rw [pk_un (by omega), pk_un (by omega)]; exact hL.2.1 j hj
      · by_cases e : k = i
        · rw [e, pk_un (by omega), pk_us, pk_us]; exact ⟨rfl, rfl⟩
        · rw [pk_un (by omega), pk_un (by omega), pk_un (by omega), pk_un (by omega)]; exact hL.2.2 k (by omega)
theorem LW.law {row r1 r2 f op ar : Nat → Int32} {M c n : Nat} (h : LW row) {nC : Int32} (hc : nC.toInt = (c : Int)) (h12 : c ≤ 12) (hn : n ≤ 400) (hM : M < 6) (hcl : CLs f op ar c n) (h1 : LC1 r1 (upd row (250 + 900 * M + 1) nC) f (250 + 900 * M) (8 * c)) (h2 : LC2 r2 r1 op ar (250 + 900 * M) n) : LW r2 := by
  intro m hm
  by_cases e : m = M
  · subst e
    have a1 : r2 (251 + 900 * m) = nC := by
      rw [h2.1 _ (by omega), h1.1 _ (by omega)]
      rw [show 251 + 900 * m = 250 + 900 * m + 1 by omega, pk_us]
    rw [a1]
    refine ⟨by omega, fun k hk => ?_⟩
    have hk' : k < c := by omega
    obtain ⟨p3, p4, p5, p6, q3, q4, q5, q6, q7, q8, q9, q10, s1, s2⟩ := hcl k hk'
    have g : ∀ j, j < 8 → r2 (252 + 900 * m + 8 * k + j) = f (8 * k + j) := fun j hj => by
      rw [h2.1 _ (by omega), show 252 + 900 * m + 8 * k + j = 250 + 900 * m + 2 + (8 * k + j) by omega, h1.2.2 _ (by omega)]
    have go : ∀ i, i < n → (fun i => r2 (348 + 900 * m + 2 * i)) i = op i ∧ (fun i => r2 (348 + 900 * m + 2 * i + 1)) i = ar i := fun i hi => by
      obtain ⟨x1, x2⟩ := h2.2.2 i hi
      refine ⟨?_, ?_⟩
      · show r2 (348 + 900 * m + 2 * i) = _
        rw [show 348 + 900 * m + 2 * i = 250 + 900 * m + 98 + 2 * i by omega]; exact x1
      · show r2 (348 + 900 * m + 2 * i + 1) = _
        rw [show 348 + 900 * m + 2 * i + 1 = 250 + 900 * m + 98 + 2 * i + 1 by omega]; exact x2
    refine ⟨p3, p4, p5, p6, ?_, ?_, ?_, ?_, by omega, by omega, q9, q10, s1.cong q7 go, s2.cong q8 go⟩
    · rw [g 3 (by omega)]; exact q3
    · rw [g 4 (by omega)]; exact q4
    · rw [g 5 (by omega)]; exact q5
    · rw [g 6 (by omega)]; exact q6
  · obtain ⟨x1, x2⟩ := h m hm
    have g : ∀ j, 251 + 900 * m ≤ j → j < 250 + 900 * m + 900 → r2 j = row j := fun j j1 j2 => by
      by_cases d : m < M
      · rw [h2.1 _ (by omega), h1.1 _ (by omega), pk_un (by omega)]
      · rw [h2.2.1 _ (by omega), h1.2.1 _ (by omega), pk_un (by omega)]
    rw [g _ (by omega) (by omega)]
    refine ⟨x1, fun k hk => ?_⟩
    obtain ⟨p3, p4, p5, p6, q3, q4, q5, q6, q7, q8, q9, q10, s1, s2⟩ := x2 k hk
    have go : ∀ i, i < 400 → (fun i => r2 (348 + 900 * m + 2 * i)) i = (fun i => row (348 + 900 * m + 2 * i)) i ∧ (fun i => r2 (348 + 900 * m + 2 * i + 1)) i = (fun i => row (348 + 900 * m + 2 * i + 1)) i := fun i hi => ⟨g _ (by omega) (by omega), g _ (by omega) (by omega)⟩
    refine ⟨p3, p4, p5, p6, ?_, ?_, ?_, ?_, q7, q8, q9, q10, s1.cong q7 go, s2.cong q8 go⟩
    · rw [g _ (by omega) (by omega)]; exact q3
    · rw [g _ (by omega) (by omega)]; exact q4
    · rw [g _ (by omega) (by omega)]; exact q5
    · rw [g _ (by omega) (by omega)]; exact q6
