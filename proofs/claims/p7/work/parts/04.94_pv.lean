section
/-! the reference₉s reader: an expression, a clause -/
def wt (r : Int32) : Int := if r = 3 then 2 else if r = 2 then 1 else 0
theorem wt_b (r : Int32) : 0 ≤ wt r ∧ wt r ≤ 2 := by
  unfold wt
  split
  · omega
  · split <;> omega
def RX (s : Nat) (o0 a0 : Nat → Int32) (taped r fr to sort bad nCode piled : Int32) (pile pat op ar : Nat → Int32) : Prop :=
  (r = 0 ∧ RS 0 s o0 a0 taped fr to sort bad nCode piled pile pat op ar ∧ (bad = 0 → NS piled pile)) ∨ (r = 1 ∧ RS 0 s o0 a0 taped fr to sort bad nCode piled pile pat op ar) ∨ (r = 2 ∧ RS 1 s o0 a0 taped fr to sort bad nCode piled pile pat op ar ∧ (bad = 0 → NS piled pile)) ∨ (r = 3 ∧ RS 1 s o0 a0 taped fr to sort bad nCode piled pile pat op ar) ∨ (r = 4 ∧ RS 1 s o0 a0 taped fr to sort bad nCode piled pile pat op ar ∧ (bad = 0 → NB piled pile))
theorem RX.fr {s : Nat} {o0 a0 : Nat → Int32} {taped r fr to sort bad nCode piled : Int32} {pile pat op ar : Nat → Int32} (h : RX s o0 a0 taped r fr to sort bad nCode piled pile pat op ar) : 0 ≤ fr.toInt ∧ fr.toInt ≤ 400 := by
  have g : ∀ t, RS t s o0 a0 taped fr to sort bad nCode piled pile pat op ar → 0 ≤ fr.toInt ∧ fr.toInt ≤ 400 := fun t h => by
    obtain ⟨n, p, f, _, _, _, _, ⟨t1, t2, t3, t4, _⟩, _⟩ := h
    omega
  rcases h with h | h | h | h | h
  · exact g _ h.2.1
  · exact g _ h.2
  · exact g _ h.2.1
  · exact g _ h.2
  · exact g _ h.2.1
theorem sl_rx {s : Nat} {o0 a0 : Nat → Int32} {a taped ordered : Int32} {tape : Nat → Int32} {words oWords : Nat → Int64} {fr0 : Int} {Qb : Int32 → Int32 → Int32 → Int32 → Int64 → Int32 → Int32 → Int32 → Int32 → Int32 → Int32 → (Nat → Int32) → (Nat → Int32) → (Nat → Int32) → (Nat → Int32) → Prop} (K : ∀ (r fr to sort : Int32) (worth : Int64) (fault bad nCode nLeaves piled opened : Int32) (pile op ar pat : Nat → Int32), RS 1 s o0 a0 taped fr to sort bad nCode piled pile pat op ar → (bad = 0 → NB piled pile) → (bad = 0 → fr0 ≤ fr.toInt) → Qb r fr to sort worth fault bad nCode nLeaves piled opened pile op ar pat) : ∀ (m : Nat) (r fr to sort : Int32) (worth : Int64) (fault bad nCode nLeaves piled opened : Int32) (pile op ar pat : Nat → Int32), RX s o0 a0 taped r fr to sort bad nCode piled pile pat op ar → (bad = 0 → fr0 ≤ fr.toInt) → 0 < m → (bad = 0 → 3 * (400 - fr.toInt) + wt r + 1 < m) → wl_X12_readExpression_20 a taped ordered tape words oWords Qb m r fr to sort worth fault bad nCode nLeaves piled opened pile op ar pat := by
  intro m
  induction m with
  | zero => intro r fr to sort worth fault bad nCode nLeaves piled opened pile op ar pat _ _ h; omega
  | succ m ih =>
    intro r fr to sort worth fault bad nCode nLeaves piled opened pile op ar pat hX hf hm hM
    unfold wl_X12_readExpression_20
    by_cases cb : bad = 0
    · refine br1 cb ?_
      have hM := hM cb
      have hf := hf cb
      have hr := hX.fr
      have wb := wt_b r
      have g0 : (((m + 1 : Nat)) : Int) = (m : Int) + 1 := by omega
      by_cases r4 : r = 4
      · refine br1 r4 ?_
        rcases hX with h | h | h | h | h
        · rw [h.1] at r4; exact absurd r4 (by decide)
        · rw [h.1] at r4; exact absurd r4 (by decide)
        · rw [h.1] at r4; exact absurd r4 (by decide)
        · rw [h.1] at r4; exact absurd r4 (by decide)
        · exact K _ _ _ _ _ _ _ _ _ _ _ _ _ _ _ h.2.1 h.2.2 (fun _ => hf)
      · refine br0 r4 ?_
        by_cases r0 : r = 0
        · refine br1 r0 ?_
          have hs : RS 0 s o0 a0 taped fr to sort bad nCode piled pile pat op ar ∧ NS piled pile := by
            rcases hX with h | h | h | h | h
            · exact ⟨h.2.1, h.2.2 cb⟩
            · rw [h.1] at r0; exact absurd r0 (by decide)
            · rw [h.1] at r0; exact absurd r0 (by decide)
            · rw [h.1] at r0; exact absurd r0 (by decide)
            · exact (r4 h.1).elim
          refine s_readPlain hs.1 cb hs.2 (fun r₉ fr₉ to₉ sort₉ w₉ fault₉ bad₉ nCode₉ nLeaves₉ piled₉ opened₉ op₉ ar₉ pile₉ pat₉ g => un14_i (ih _ _ _ _ _ _ _ _ _ _ _ _ _ _ _ ?_ (fun q => by have := g.2 q; omega) (by omega) (fun q => by have := g.2 q; have := wt_b r₉; omega)))
          rcases g.1 with g | g | g
          · exact Or.inl g
          · exact Or.inr (Or.inl g)
          · exact Or.inr (Or.inr (Or.inr (Or.inl g)))
        · refine br0 r0 ?_
          by_cases r1 : r = 1
          · refine br1 r1 ?_
            have hs : RS 0 s o0 a0 taped fr to sort bad nCode piled pile pat op ar := by
              rcases hX with h | h | h | h | h
              · exact (r0 h.1).elim
              · exact h.2
              · rw [h.1] at r1; exact absurd r1 (by decide)
              · rw [h.1] at r1; exact absurd r1 (by decide)
              · exact (r4 h.1).elim
            refine s_readPart hs (fun r₉ fr₉ to₉ sort₉ w₉ fault₉ bad₉ nCode₉ nLeaves₉ piled₉ opened₉ op₉ ar₉ pile₉ pat₉ g => un14_i (ih _ _ _ _ _ _ _ _ _ _ _ _ _ _ _ ?_ (fun q => by have := g.2 q; omega) (by omega) (fun q => by have := g.2 q; have := wt_b r₉; omega)))
            rcases g.1 with g | g
            · exact Or.inr (Or.inl g)
            · exact Or.inr (Or.inr (Or.inr (Or.inl g)))
          · refine br0 r1 ?_
            by_cases r3 : r = 3
            · refine br1 r3 ?_
              have hs : RS 1 s o0 a0 taped fr to sort bad nCode piled pile pat op ar := by
                rcases hX with h | h | h | h | h
                · exact (r0 h.1).elim
                · exact (r1 h.1).elim
                · exact h.2.1
                · exact h.2
                · exact h.2.1
              have w3 : wt r = 2 := by rw [r3]; rfl
              refine s_behindSum hs cb (fun r₉ fr₉ to₉ sort₉ w₉ fault₉ bad₉ nCode₉ piled₉ opened₉ pile₉ op₉ ar₉ pat₉ g => un13_i (ih _ _ _ _ _ _ _ _ _ _ _ _ _ _ _ ?_ (fun q => ?_) (by omega) (fun q => ?_)))
              · rcases g with g | g | g | g
                · exact Or.inr (Or.inl ⟨g.1, g.2.1⟩)
                · exact Or.inr (Or.inr (Or.inr (Or.inl ⟨g.1, g.2.1⟩)))
                · exact Or.inr (Or.inr (Or.inr (Or.inr ⟨g.1, g.2.1, fun _ => g.2.2.1⟩)))
                · exact Or.inr (Or.inr (Or.inl ⟨g.1, g.2.1, fun _ => g.2.2.1⟩))
              · rcases g with g | g | g | g
                · have := g.2.2 q; omega
                · have := g.2.2 q; omega
                · rw [← g.2.2.2]; exact hf
                · rw [← g.2.2.2]; exact hf
              · rcases g with g | g | g | g
                · have := g.2.2 q; have := wt_b r₉; omega
                · have := g.2.2 q; have := wt_b r₉; omega
                · rw [← g.2.2.2]; have e : wt r₉ = 0 := by rw [g.1]; rfl
                  omega
                · rw [← g.2.2.2]; have e : wt r₉ = 1 := by rw [g.1]; rfl
                  omega
            · refine br0 r3 ?_
              have hs : r = 2 ∧ RS 1 s o0 a0 taped fr to sort bad nCode piled pile pat op ar ∧ NS piled pile := by
                rcases hX with h | h | h | h | h
                · exact (r0 h.1).elim
                · exact (r1 h.1).elim
                · exact ⟨h.1, h.2.1, h.2.2 cb⟩
                · exact (r3 h.1).elim
                · exact (r4 h.1).elim
              have w2 : wt r = 1 := by rw [hs.1]; rfl
              refine s_behindTest hs.2.1 cb hs.2.2 (fun r₉ fr₉ to₉ sort₉ w₉ fault₉ bad₉ nCode₉ piled₉ opened₉ pile₉ op₉ ar₉ pat₉ g => un13_i (ih _ _ _ _ _ _ _ _ _ _ _ _ _ _ _ ?_ (fun q => ?_) (by omega) (fun q => ?_)))
              · rcases g with g | g | g
                · exact Or.inl ⟨g.1, g.2.1, g.2.2.1⟩
                · exact Or.inr (Or.inr (Or.inr (Or.inr ⟨g.1, g.2.1, fun _ => g.2.2.1⟩)))
                · exact Or.inr (Or.inr (Or.inl ⟨g.1, g.2.1, g.2.2.1⟩))
              · rcases g with g | g | g
                · have := g.2.2.2 q; omega
                · rw [← g.2.2.2]; exact hf
                · have := g.2.2.2 q; omega
              · rcases g with g | g | g
                · have := g.2.2.2 q; have := wt_b r₉; omega
                · rw [← g.2.2.2]; have e : wt r₉ = 0 := by rw [g.1]; rfl
                  omega
                · have := g.2.2.2 q; have := wt_b r₉; omega
    · refine br0 cb (K _ _ _ _ _ _ _ _ _ _ _ _ _ _ _ ?_ (fun q => (cb q).elim) (fun q => (cb q).elim))
      rcases hX with h | h | h | h | h
      · exact h.2.1.bad cb
      · exact h.2.bad cb
      · exact h.2.1
      · exact h.2
      · exact h.2.1
theorem sl_rxa {s : Nat} {o0 a0 : Nat → Int32} {a taped ordered : Int32} {tape : Nat → Int32} {words oWords : Nat → Int64} {fr0 : Int} {Qb : Int32 → Int32 → Int32 → Int32 → Int64 → Int32 → Int32 → Int32 → Int32 → Int32 → Int32 → (Nat → Int32) → (Nat → Int32) → (Nat → Int32) → (Nat → Int32) → Prop} (K : ∀ (r fr to sort : Int32) (worth : Int64) (fault bad nCode nLeaves piled opened : Int32) (pile op ar pat : Nat → Int32), RS 1 s o0 a0 taped fr to sort bad nCode piled pile pat op ar → (bad = 0 → NB piled pile) → (bad = 0 → fr0 ≤ fr.toInt) → Qb r fr to sort worth fault bad nCode nLeaves piled opened pile op ar pat) : ∀ (m : Nat) (r fr to sort : Int32) (worth : Int64) (fault bad nCode nLeaves piled opened : Int32) (pile op ar pat : Nat → Int32), RX s o0 a0 taped r fr to sort bad nCode piled pile pat op ar → (bad = 0 → fr0 ≤ fr.toInt) → 0 < m → (bad = 0 → 3 * (400 - fr.toInt) + wt r + 1 < m) → wl_X12_readExpression_20a a taped ordered tape words oWords Qb m r fr to sort worth fault bad nCode nLeaves piled opened pile op ar pat := by
  intro m
  induction m with
  | zero => intro r fr to sort worth fault bad nCode nLeaves piled opened pile op ar pat _ _ h; omega
  | succ m ih =>
    intro r fr to sort worth fault bad nCode nLeaves piled opened pile op ar pat hX hf hm hM
    unfold wl_X12_readExpression_20a
    by_cases cb : bad = 0
    · refine br1 cb ?_
      have hM := hM cb
      have hf := hf cb
      have hr := hX.fr
      have wb := wt_b r
      have g0 : (((m + 1 : Nat)) : Int) = (m : Int) + 1 := by omega
      by_cases r4 : r = 4
      · refine br1 r4 ?_
        rcases hX with h | h | h | h | h
        · rw [h.1] at r4; exact absurd r4 (by decide)
        · rw [h.1] at r4; exact absurd r4 (by decide)
        · rw [h.1] at r4; exact absurd r4 (by decide)
        · rw [h.1] at r4; exact absurd r4 (by decide)
        · exact K _ _ _ _ _ _ _ _ _ _ _ _ _ _ _ h.2.1 h.2.2 (fun _ => hf)
      · refine br0 r4 ?_
        by_cases r0 : r = 0
        · refine br1 r0 ?_
          have hs : RS 0 s o0 a0 taped fr to sort bad nCode piled pile pat op ar ∧ NS piled pile := by
            rcases hX with h | h | h | h | h
            · exact ⟨h.2.1, h.2.2 cb⟩
            · rw [h.1] at r0; exact absurd r0 (by decide)
            · rw [h.1] at r0; exact absurd r0 (by decide)
            · rw [h.1] at r0; exact absurd r0 (by decide)
            · exact (r4 h.1).elim
          refine s_readPlain hs.1 cb hs.2 (fun r₉ fr₉ to₉ sort₉ w₉ fault₉ bad₉ nCode₉ nLeaves₉ piled₉ opened₉ op₉ ar₉ pile₉ pat₉ g => un14_i (ih _ _ _ _ _ _ _ _ _ _ _ _ _ _ _ ?_ (fun q => by have := g.2 q; omega) (by omega) (fun q => by have := g.2 q; have := wt_b r₉; omega)))
          rcases g.1 with g | g | g
          · exact Or.inl g
          · exact Or.inr (Or.inl g)
          · exact Or.inr (Or.inr (Or.inr (Or.inl g)))
        · refine br0 r0 ?_
          by_cases r1 : r = 1
          · refine br1 r1 ?_
            have hs : RS 0 s o0 a0 taped fr to sort bad nCode piled pile pat op ar := by
              rcases hX with h | h | h | h | h
              · exact (r0 h.1).elim
              · exact h.2
              · rw [h.1] at r1; exact absurd r1 (by decide)
              · rw [h.1] at r1; exact absurd r1 (by decide)
              · exact (r4 h.1).elim
            refine s_readPart hs (fun r₉ fr₉ to₉ sort₉ w₉ fault₉ bad₉ nCode₉ nLeaves₉ piled₉ opened₉ op₉ ar₉ pile₉ pat₉ g => un14_i (ih _ _ _ _ _ _ _ _ _ _ _ _ _ _ _ ?_ (fun q => by have := g.2 q; omega) (by omega) (fun q => by have := g.2 q; have := wt_b r₉; omega)))
            rcases g.1 with g | g
            · exact Or.inr (Or.inl g)
            · exact Or.inr (Or.inr (Or.inr (Or.inl g)))
          · refine br0 r1 ?_
            by_cases r3 : r = 3
            · refine br1 r3 ?_
              have hs : RS 1 s o0 a0 taped fr to sort bad nCode piled pile pat op ar := by
                rcases hX with h | h | h | h | h
                · exact (r0 h.1).elim
                · exact (r1 h.1).elim
                · exact h.2.1
                · exact h.2
                · exact h.2.1
              have w3 : wt r = 2 := by rw [r3]; rfl
              refine s_behindSum hs cb (fun r₉ fr₉ to₉ sort₉ w₉ fault₉ bad₉ nCode₉ piled₉ opened₉ pile₉ op₉ ar₉ pat₉ g => un13_i (ih _ _ _ _ _ _ _ _ _ _ _ _ _ _ _ ?_ (fun q => ?_) (by omega) (fun q => ?_)))
              · rcases g with g | g | g | g
                · exact Or.inr (Or.inl ⟨g.1, g.2.1⟩)
                · exact Or.inr (Or.inr (Or.inr (Or.inl ⟨g.1, g.2.1⟩)))
                · exact Or.inr (Or.inr (Or.inr (Or.inr ⟨g.1, g.2.1, fun _ => g.2.2.1⟩)))
                · exact Or.inr (Or.inr (Or.inl ⟨g.1, g.2.1, fun _ => g.2.2.1⟩))
              · rcases g with g | g | g | g
                · have := g.2.2 q; omega
                · have := g.2.2 q; omega
                · rw [← g.2.2.2]; exact hf
                · rw [← g.2.2.2]; exact hf
              · rcases g with g | g | g | g
                · have := g.2.2 q; have := wt_b r₉; omega
                · have := g.2.2 q; have := wt_b r₉; omega
                · rw [← g.2.2.2]; have e : wt r₉ = 0 := by rw [g.1]; rfl
                  omega
                · rw [← g.2.2.2]; have e : wt r₉ = 1 := by rw [g.1]; rfl
                  omega
            · refine br0 r3 ?_
              have hs : r = 2 ∧ RS 1 s o0 a0 taped fr to sort bad nCode piled pile pat op ar ∧ NS piled pile := by
                rcases hX with h | h | h | h | h
                · exact (r0 h.1).elim
                · exact (r1 h.1).elim
                · exact ⟨h.1, h.2.1, h.2.2 cb⟩
                · exact (r3 h.1).elim
                · exact (r4 h.1).elim
              have w2 : wt r = 1 := by rw [hs.1]; rfl
              refine s_behindTest hs.2.1 cb hs.2.2 (fun r₉ fr₉ to₉ sort₉ w₉ fault₉ bad₉ nCode₉ piled₉ opened₉ pile₉ op₉ ar₉ pat₉ g => un13_i (ih _ _ _ _ _ _ _ _ _ _ _ _ _ _ _ ?_ (fun q => ?_) (by omega) (fun q => ?_)))
              · rcases g with g | g | g
                · exact Or.inl ⟨g.1, g.2.1, g.2.2.1⟩
                · exact Or.inr (Or.inr (Or.inr (Or.inr ⟨g.1, g.2.1, fun _ => g.2.2.1⟩)))
                · exact Or.inr (Or.inr (Or.inl ⟨g.1, g.2.1, g.2.2.1⟩))
              · rcases g with g | g | g
                · have := g.2.2.2 q; omega
                · rw [← g.2.2.2]; exact hf
                · have := g.2.2.2 q; omega
              · rcases g with g | g | g
                · have := g.2.2.2 q; have := wt_b r₉; omega
                · rw [← g.2.2.2]; have e : wt r₉ = 0 := by rw [g.1]; rfl
                  omega
                · have := g.2.2.2 q; have := wt_b r₉; omega
    · refine br0 cb (K _ _ _ _ _ _ _ _ _ _ _ _ _ _ _ ?_ (fun q => (cb q).elim) (fun q => (cb q).elim))
      rcases hX with h | h | h | h | h
      · exact h.2.1.bad cb
      · exact h.2.bad cb
      · exact h.2.1
      · exact h.2
      · exact h.2.1
/-- behind an expression -/
def EX (n : Nat) (op ar : Nat → Int32) (taped fr : Int32) (fr₉ to₉ sort₉ bad₉ nCode₉ : Int32) (op₉ ar₉ : Nat → Int32) : Prop := Tk taped fr₉ to₉ sort₉ ∧ (bad₉ = 0 ∨ bad₉ = 1) ∧ ∃ n₉ : Nat, nCode₉.toInt = (n₉ : Int) ∧ n ≤ n₉ ∧ n₉ ≤ 400 ∧ (bad₉ = 0 → (n₉ : Int) ≤ fr₉.toInt ∧ fr.toInt ≤ fr₉.toInt ∧ SG op₉ ar₉ n n₉ ∧ ∀ i, i < n → op₉ i = op i ∧ ar₉ i = ar i)
theorem s_readExpression {n : Nat} {a taped fr to sort : Int32} {worth : Int64} {fault bad ordered nCode nLeaves : Int32} {pile tape op ar pat : Nat → Int32} {words oWords : Nat → Int64} (hT : Tk taped fr to sort) (hb : bad = 0) (hn : nCode.toInt = (n : Int)) (hf : (n : Int) ≤ fr.toInt) {Q : (Int32 × Int32 × Int32 × Int64 × Int32 × Int32 × Int32 × Int32 × Int32 × Int32 × (Nat → Int32) × (Nat → Int32) × (Nat → Int32) × (Nat → Int32)) → Prop} (hq : ∀ (fr₉ to₉ sort₉ : Int32) (worth₉ : Int64) (fault₉ bad₉ nCode₉ nLeaves₉ piled₉ opened₉ : Int32) (pile₉ op₉ ar₉ pat₉ : Nat → Int32), EX n op ar taped fr fr₉ to₉ sort₉ bad₉ nCode₉ op₉ ar₉ → Q (fr₉, to₉, sort₉, worth₉, fault₉, bad₉, nCode₉, nLeaves₉, piled₉, opened₉, pile₉, op₉, ar₉, pat₉)) : wp_X12_readExpression a taped fr to sort worth fault bad ordered nCode nLeaves pile tape op ar pat words oWords Q := by
  unfold wp_X12_readExpression
  have t := hT
  obtain ⟨t1, t2, t3, t4, t5, t6, t7⟩ := t
  have e0 : (0 : Int32).toInt = ((0 : Nat) : Int) := rfl
  have R0 : RS 0 n op ar taped fr to sort bad nCode 0 pile pat op ar := ⟨n, 0, fr.toInt.toNat, hn, e0, by omega, PI.start _ (by omega) pile pat op ar, hT, Or.inl hb⟩
  have KK : ∀ (r fr₉ to₉ sort₉ : Int32) (worth₉ : Int64) (fault₉ bad₉ nCode₉ nLeaves₉ piled₉ opened₉ : Int32) (pile₉ op₉ ar₉ pat₉ : Nat → Int32), RS 1 n op ar taped fr₉ to₉ sort₉ bad₉ nCode₉ piled₉ pile₉ pat₉ op₉ ar₉ → (bad₉ = 0 → NB piled₉ pile₉) → (bad₉ = 0 → fr.toInt ≤ fr₉.toInt) → wp_X12_settle 1 nCode₉ piled₉ pile₉ op₉ ar₉ pat₉ (un4 fun u0 u1 u2 u3 => Q (fr₉, to₉, sort₉, worth₉, fault₉, bad₉, u0, nLeaves₉, u1, opened₉, pile₉, u2, u3, pat₉)) := fun r fr₉ to₉ sort₉ worth₉ fault₉ bad₉ nCode₉ nLeaves₉ piled₉ opened₉ pile₉ op₉ ar₉ pat₉ hR hB hF => by
    obtain ⟨n₉, p₉, f₉, h1, h2, h3, h4, h5, h6⟩ := hR
    obtain ⟨s1, s2, s3, s4, _⟩ := id h5
    refine s_settle (by omega) (by decide) h1 h2 h4 (fun n2 p2 c2 q2 op2 ar2 k1 k2 k3 k4 k5 k6 => un4_i (hq _ _ _ _ _ _ _ _ _ _ _ _ _ _ ⟨h5, h6, n2, k1, k3.1.1, ?_, fun q => ?_⟩))
    · have := k3.1.2.1; omega
    · have e1 : (1 : Int32).toInt = 1 := rfl
      have z : p2 = 0 := by
        rcases k6 with k6 | ⟨k, k6, k7⟩
        · exact k6
        · have := hB q k (by omega)
          have := bnd_v (pile₉ k)
          omega
      subst z
      refine ⟨by have := k3.1.2.1; omega, hF q, k3.done q, k3.low q⟩
  have w0 : wt 0 = 0 := rfl
  have w1 : wt 1 = 0 := rfl
  by_cases c : a = 0
  · refine br1 c (sl_rx (s := n) (o0 := op) (a0 := ar) (fr0 := fr.toInt) (fun r fr₉ to₉ sort₉ worth₉ fault₉ bad₉ nCode₉ nLeaves₉ piled₉ opened₉ pile₉ op₉ ar₉ pat₉ q1 q2 q3 => KK r fr₉ to₉ sort₉ worth₉ fault₉ bad₉ nCode₉ nLeaves₉ piled₉ opened₉ pile₉ op₉ ar₉ pat₉ q1 q2 q3) _ _ _ _ _ _ _ _ _ _ _ _ _ _ _ _ (Or.inr (Or.inl ⟨rfl, R0⟩)) (fun _ => Int.le_refl _) (by omega) (fun _ => by omega))
  · refine br0 c (sl_rxa (s := n) (o0 := op) (a0 := ar) (fr0 := fr.toInt) (fun r fr₉ to₉ sort₉ worth₉ fault₉ bad₉ nCode₉ nLeaves₉ piled₉ opened₉ pile₉ op₉ ar₉ pat₉ q1 q2 q3 => KK r fr₉ to₉ sort₉ worth₉ fault₉ bad₉ nCode₉ nLeaves₉ piled₉ opened₉ pile₉ op₉ ar₉ pat₉ q1 q2 q3) _ _ _ _ _ _ _ _ _ _ _ _ _ _ _ _ (Or.inl ⟨rfl, R0, fun _ k hk => ?_⟩) (fun _ => Int.le_refl _) (by omega) (fun _ => by omega))
    rw [e0] at hk; omega
theorem SG.cong {op ar op₉ ar₉ : Nat → Int32} {a b n : Nat} (h : SG op ar a b) (hb : b ≤ n) (e : ∀ i, i < n → op₉ i = op i ∧ ar₉ i = ar i) : SG op₉ ar₉ a b := by
  obtain ⟨ht, z, h⟩ := h
  refine ⟨ht, z, fun i i1 i2 => ?_⟩
  have := h i i1 i2
  obtain ⟨e1, e2⟩ := e i (by omega)
  unfold ST at this ⊢
  rw [e1, e2]
  exact this
theorem SG.nil (op ar : Nat → Int32) (a : Nat) : SG op ar a a := ⟨fun _ => 0, rfl, fun i i1 i2 => by omega⟩
/-- the clauses that are read so far -/
def CLs (f op ar : Nat → Int32) (c n : Nat) : Prop := ∀ k, k < c → ∃ p3 p4 p5 p6 : Nat, (f (8 * k + 3)).toInt = (p3 : Int) ∧ (f (8 * k + 4)).toInt = (p4 : Int) ∧ (f (8 * k + 5)).toInt = (p5 : Int) ∧ (f (8 * k + 6)).toInt = (p6 : Int) ∧ p4 ≤ n ∧ p6 ≤ n ∧ p3 ≤ p4 ∧ p5 ≤ p6 ∧ SG op ar p3 p4 ∧ SG op ar p5 p6
/-- the reader of laws between two clauses -/
def LaS (taped fr to sort bad nClauses nCode : Int32) (f op ar : Nat → Int32) : Prop := Tk taped fr to sort ∧ (bad = 0 ∨ bad = 1) ∧ (bad = 0 → ∃ c n : Nat, nClauses.toInt = (c : Int) ∧ nCode.toInt = (n : Int) ∧ c ≤ 12 ∧ (n : Int) ≤ fr.toInt ∧ CLs f op ar c n)
theorem sl_readLaw75 {nC : Int32} {c : Nat} (hc : nC.toInt = (c : Int)) (h12 : c < 12) {Qb : Int32 → (Nat → Int32) → Prop} {f : Nat → Int32} (K : ∀ (x : Int32) (f₉ : Nat → Int32), (∀ i, i < 8 * c → f₉ i = f i) → Qb x f₉) : ∀ (m : Nat) (x : Int32) (f₉ : Nat → Int32), 0 ≤ x.toInt → x.toInt ≤ 8 → 8 - x.toInt < m → (∀ i, i < 8 * c → f₉ i = f i) → wl_X12_readLaw_75 nC Qb m x f₉ := by
  intro m
  induction m with
  | zero => intro x f₉ a b d; exfalso; have d : 8 - x.toInt < 0 := d; omega
  | succ m ih =>
    intro x f₉ a b d e
    unfold wl_X12_readLaw_75
    by_cases g : 8 ≤ x
    · exact br1 g (K x f₉ e)
    · have g₉ := nle_z (x := 8) rfl rfl g
      have m8 : (8 * nC).toInt = 8 * nC.toInt := mul_z rfl rfl (by omega) (by omega)
      have e8 : (8 * nC + x).toInt = (8 * nC).toInt + x.toInt := add_z rfl rfl (by omega) (by omega)
      have x1 := li_1 (x := x) (hi := 8) (by omega) (by omega)
      refine br0 g ⟨vpi rfl (by omega) (by omega), ih _ _ (by omega) (by omega) (by omega) (fun i hi => ?_)⟩
      have := tnz (x := (8 * nC + x).toInt) rfl (by omega)
      rw [pk_un (by omega)]
      exact e i hi
theorem ix8 {nC : Int32} {c : Nat} (hc : nC.toInt = (c : Int)) (h12 : c < 12) {j : Int32} {J : Nat} (hj : j.toInt = (J : Int)) (hJ : J < 8) : (8 * nC + j).toInt = ((8 * c + J : Nat) : Int) := by
  have m8 : (8 * nC).toInt = 8 * nC.toInt := mul_z rfl rfl (by omega) (by omega)
  have e8 : (8 * nC + j).toInt = (8 * nC).toInt + j.toInt := add_z rfl rfl (by omega) (by omega)
  omega
theorem ix80 {nC : Int32} {c : Nat} (hc : nC.toInt = (c : Int)) (h12 : c < 12) : (8 * nC).toInt = ((8 * c : Nat) : Int) := by
  have m8 : (8 * nC).toInt = 8 * nC.toInt := mul_z rfl rfl (by omega) (by omega)
  omega
theorem CLs.add {f f0 op ar op₉ ar₉ : Nat → Int32} {c n n1 n2 : Nat} (h : CLs f op ar c n) (he : ∀ i, i < 8 * c → f0 i = f i) (hn : n ≤ n1) (hn2 : n1 ≤ n2) (ho : ∀ i, i < n → op₉ i = op i ∧ ar₉ i = ar i) {v a3 a4 a5 a6 : Int32} (h3 : a3.toInt = (n : Int)) (h4 : a4.toInt = (n1 : Int)) (h5 : a5.toInt = (n1 : Int)) (h6 : a6.toInt = (n2 : Int)) (s1 : SG op₉ ar₉ n n1) (s2 : SG op₉ ar₉ n1 n2) : CLs (upd (upd (upd (upd (upd f0 (8 * c) v) (8 * c + 3) a3) (8 * c + 4) a4) (8 * c + 5) a5) (8 * c + 6) a6) op₉ ar₉ (c + 1) n2 := by
  intro k hk
  by_cases e : k = c
  · subst e
    refine ⟨n, n1, n1, n2, ?_, ?_, ?_, ?_, hn2, Nat.le_refl n2, hn, hn2, s1, s2⟩
    · rw [pk_un (by omega), pk_un (by omega), pk_un (by omega), pk_us]; exact h3
    · rw [pk_un (by omega), pk_un (by omega), pk_us]; exact h4
    · rw [pk_un (by omega), pk_us]; exact h5
    · rw [pk_us]; exact h6
  · obtain ⟨p3, p4, p5, p6, q3, q4, q5, q6, q7, q8, q9, q10, t1, t2⟩ := h k (by omega)
    have g : ∀ j, j < 8 → upd (upd (upd (upd (upd f0 (8 * c) v) (8 * c + 3) a3) (8 * c + 4) a4) (8 * c + 5) a5) (8 * c + 6) a6 (8 * k + j) = f (8 * k + j) := fun j hj => by
      rw [pk_un (by omega), pk_un (by omega), pk_un (by omega), pk_un (by omega), pk_un (by omega)]
      exact he _ (by omega)
    refine ⟨p3, p4, p5, p6, ?_, ?_, ?_, ?_, by omega, by omega, q9, q10, t1.cong q7 ho, t2.cong q8 ho⟩
    · rw [g 3 (by omega)]; exact q3
    · rw [g 4 (by omega)]; exact q4
    · rw [g 5 (by omega)]; exact q5
    · rw [g 6 (by omega)]; exact q6
theorem s_readLaw {taped fr to sort : Int32} {worth : Int64} {fault bad ordered nClauses nCode nLeaves piled opened : Int32} {heads : Nat → Int64} {tape f pile op ar pat : Nat → Int32} {words oWords : Nat → Int64} (h : LaS taped fr to sort bad nClauses nCode f op ar) (hb : bad = 0) {Q : (Int32 × Int32 × Int32 × Int64 × Int32 × Int32 × Int32 × Int32 × Int32 × Int32 × Int32 × (Nat → Int32) × (Nat → Int32) × (Nat → Int32) × (Nat → Int32) × (Nat → Int32)) → Prop} (hq : ∀ (fr₉ to₉ sort₉ : Int32) (worth₉ : Int64) (fault₉ bad₉ nClauses₉ nCode₉ nLeaves₉ piled₉ opened₉ : Int32) (f₉ pile₉ op₉ ar₉ pat₉ : Nat → Int32), LaS taped fr₉ to₉ sort₉ bad₉ nClauses₉ nCode₉ f₉ op₉ ar₉ → (bad₉ = 0 → fr.toInt ≤ fr₉.toInt) → Q (fr₉, to₉, sort₉, worth₉, fault₉, bad₉, nClauses₉, nCode₉, nLeaves₉, piled₉, opened₉, f₉, pile₉, op₉, ar₉, pat₉)) : wp_X12_readLaw taped fr to sort worth fault bad ordered nClauses nCode nLeaves piled opened heads tape f pile op ar pat words oWords Q := by
  unfold wp_X12_readLaw
  obtain ⟨hT, hb1, hC⟩ := h
  obtain ⟨c, n, hc, hn, h12, hnf, hcl⟩ := hC hb
  refine sl_readLaw4 (fun x v hv => ?_) _ 0 (-1) (by decide) (by decide) (Or.inl rfl) (by decide)
  refine jn1_i (fun y : Int32 => ¬ y = 0 → sort = 1 ∧ c < 12) (fun y hy => ?_) (fun z hz => ?_)
  · refine s_must hT (fun q => nz_of (hy q).1 (by decide)) hb1 (fun fr1 to1 sort1 w1 fault1 bad1 g1 g2 g3 g4 => un6_i ?_)
    by_cases b1 : bad1 = 0
    · refine br1 b1 ?_
      obtain ⟨-, g5, g6⟩ := g4 b1
      have c12 := (hy g5).2
      have i0 := ix80 hc c12
      have i3 := ix8 hc c12 (j := 3) (J := 3) rfl (by omega)
      have i4 := ix8 hc c12 (j := 4) (J := 4) rfl (by omega)
      have i5 := ix8 hc c12 (j := 5) (J := 5) rfl (by omega)
      have i6 := ix8 hc c12 (j := 6) (J := 6) rfl (by omega)
      have hcc := add1 hc (by omega)
      refine sl_readLaw75 hc c12 (f := f) (fun x2 f2 hf2 => ?_) _ 0 f (by decide) (by decide) (by decide) (fun i _ => rfl)
      refine ⟨vpi i0 (by omega) (by omega), vpi i3 (by omega) (by omega), ?_⟩
      rw [tnN i0, tnN i3, tnN i4, tnN i5, tnN i6]
      refine jn1_i (un14 (fun (y0 y1 y2 y3 : Nat → Int32) (y4 y5 y6 : Int32) (y7 : Int64) (y8 y9 y10 y11 y12 y13 : Int32) => EX n op ar taped fr1 y4 y5 y6 y9 y10 y1 y2)) (fun y hy => ?_) (fun z hz => ?_)
      · obtain ⟨y0, y1, y2, y3, y4, y5, y6, y7, y8, y9, y10, y11, y12, y13⟩ := y
        obtain ⟨eT, eb, n1, en, e1, e2, e3⟩ : EX n op ar taped fr1 y4 y5 y6 y9 y10 y1 y2 := hy
        refine un14_i ⟨vpi i4 (by omega) (by omega), vpi i5 (by omega) (by omega), ?_⟩
        by_cases b2 : y9 = 0
        · obtain ⟨e4, e5, e6, e7⟩ := e3 b2
          refine br1 b2 (e_isWord (fun s1 _ => ?_) ?_)
          · refine br0 (by decide) (eT.next (nz_of s1 (by decide)) (fun fr3 to3 sort3 w3 k1 k2 => un4_i ?_))
            refine s_readExpression k2 b2 en (by omega) (fun fr4 to4 sort4 w4 fault4 bad4 nC4 nL4 pd4 od4 pile4 op4 ar4 pat4 hE => un14_i ⟨vpi i6 (by omega) (by omega), ?_⟩)
            obtain ⟨j1, j2, n2, j3, j4, j5, j6⟩ := hE
            refine hq _ _ _ _ _ _ _ _ _ _ _ _ _ _ _ _ ⟨j1, j2, fun q => ⟨c + 1, n2, hcc, j3, by omega, (j6 q).1, ?_⟩⟩ (fun q => by have := (j6 q).2.1; omega)
            obtain ⟨l1, l2, l3, l4⟩ := j6 q
            exact hcl.add hf2 e1 j4 (fun i hi => by rw [(l4 i (by omega)).1, (l4 i (by omega)).2]; exact e7 i hi) hn en en j3 (e6.cong (Nat.le_refl n1) l4) l3
          · refine br1 rfl ⟨vpi i6 (by omega) (by omega), hq _ _ _ _ _ _ _ _ _ _ _ _ _ _ _ _ ⟨eT, eb, fun q => ⟨c + 1, n1, hcc, en, by omega, e4, ?_⟩⟩ (fun q => by omega)⟩
            exact hcl.add hf2 e1 (Nat.le_refl n1) e7 hn en en en e6 (SG.nil y1 y2 n1)
        · refine br0 b2 ⟨vpi i6 (by omega) (by omega), hq _ _ _ _ _ _ _ _ _ _ _ _ _ _ _ _ ⟨eT, eb, fun q => (b2 q).elim⟩ (fun q => (b2 q).elim)⟩
      · by_cases v4 : v = 4
        · refine br1 v4 (hz _ ?_)
          show EX n op ar taped fr1 fr1 to1 sort1 bad1 nCode op ar
          exact ⟨g1, g3, n, hn, Nat.le_refl n, by have := g1.2.1; have := g1.2.2.1; have := g1.2.2.2.1; omega, fun _ => ⟨by omega, Int.le_refl _, SG.nil op ar n, fun _ _ => ⟨rfl, rfl⟩⟩⟩
        · refine br0 v4 (s_readExpression g1 b1 hn (by omega) (fun fr4 to4 sort4 w4 fault4 bad4 nC4 nL4 pd4 od4 pile4 op4 ar4 pat4 hE => un14_i (hz _ hE)))
    · exact br0 b1 (hq _ _ _ _ _ _ _ _ _ _ _ _ _ _ _ _ ⟨g1, g3, fun q => (b1 q).elim⟩ (fun q => (b1 q).elim))
  · by_cases v1 : v = -1
    · exact br1 v1 (hz 0 (fun q => absurd rfl q))
    · refine br0 v1 ?_
      by_cases c1 : 12 ≤ nClauses
      · exact br1 c1 (hz 0 (fun q => absurd rfl q))
      · have c1₉ := nle_z (x := 12) rfl rfl c1
        refine br0 c1 (hz 1 (fun _ => ⟨?_, by omega⟩))
        rcases hv with e | e
        · exact (v1 e).elim
        · exact e.1
theorem s_begin {taped : Int32} {tape : Nat → Int32} (h0 : 0 ≤ taped.toInt) (h4 : taped.toInt ≤ 400) {Q : (Int32 × Int32 × Int32 × Int64 × Int32 × Int32) → Prop} (hq : ∀ (fr to sort : Int32) (worth : Int64), Tk taped fr to sort → Q (fr, to, sort, worth, -1, 0)) : wp_X12_begin taped tape Q := by
  unfold wp_X12_begin
  exact s_nextToken (to := 0) (by decide) h0 h4 (fun fr to sort w _ h => un4_i (hq _ _ _ _ h))
theorem s_endText {taped fr to sort : Int32} {worth : Int64} {fault bad : Int32} {tape : Nat → Int32} {Q : (Int32 × Int32 × Int32 × Int32 × Int64 × Int32 × Int32 × Int32) → Prop} (hT : Tk taped fr to sort) (hb : bad = 0 ∨ bad = 1) (hq : ∀ (fr₉ to₉ sort₉ : Int32) (worth₉ : Int64) (fault₉ bad₉ : Int32), (bad₉ = 0 ∨ bad₉ = 1) → (bad₉ = 0 → bad = 0) → Q (0, fr₉, to₉, sort₉, worth₉, fault₉, bad₉, 0)) : wp_X12_endText taped fr to sort worth fault bad tape Q := by
  unfold wp_X12_endText
  by_cases c : bad = 0
  · refine br1 c ?_
    by_cases d : sort = 0
    · exact br1 d (hq _ _ _ _ _ _ hb (fun _ => c))
    · refine br0 d (s_must hT (fun q => absurd rfl q) hb (fun f1 f2 f3 f4 f5 f6 h1 h2 h3 h4 => un6_i (hq _ _ _ _ _ _ h3 (fun _ => c))))
  · exact br0 c (hq _ _ _ _ _ _ hb (fun q => q))
theorem sl_law37 {taped ordered : Int32} {tape : Nat → Int32} {heads words oWords : Nat → Int64} {Qb : Int32 → Int32 → Int32 → Int64 → Int32 → Int32 → Int32 → Int32 → Int32 → Int32 → Int32 → (Nat → Int32) → (Nat → Int32) → (Nat → Int32) → (Nat → Int32) → (Nat → Int32) → Prop} (K : ∀ (fr to sort : Int32) (worth : Int64) (fault bad nClauses nCode nLeaves piled opened : Int32) (f pile op ar pat : Nat → Int32), LaS taped fr to sort bad nClauses nCode f op ar → Qb fr to sort worth fault bad nClauses nCode nLeaves piled opened f pile op ar pat) : ∀ (m : Nat) (fr to sort : Int32) (worth : Int64) (fault bad nClauses nCode nLeaves piled opened : Int32) (f pile op ar pat : Nat → Int32), LaS taped fr to sort bad nClauses nCode f op ar → 0 < m → (bad = 0 → 401 - fr.toInt < m) → wl_X12_law_37 taped tape heads words oWords ordered Qb m fr to sort worth fault bad nClauses nCode nLeaves piled opened f pile op ar pat := by
  intro m
  induction m with
  | zero => intro fr to sort worth fault bad nClauses nCode nLeaves piled opened f pile op ar pat _ h; omega
  | succ m ih =>
    intro fr to sort worth fault bad nClauses nCode nLeaves piled opened f pile op ar pat hL hm hM
    unfold wl_X12_law_37
    by_cases b : bad = 0
    · have hM := hM b
      obtain ⟨hT, hb, hC⟩ := id hL
      have u2 := hT.2.1
      have u3 := hT.2.2.1
      have u4 := hT.2.2.2.1
      refine br1 b (e_isSign (fun s1 _ => ?_) (br1 rfl (K _ _ _ _ _ _ _ _ _ _ _ _ _ _ _ _ hL)))
      refine br0 (by decide) (hT.next (nz_of s1 (by decide)) (fun fr2 to2 sort2 w2 k1 k2 => un4_i ?_))
      refine s_readLaw ⟨k2, hb, fun q => ?_⟩ b (fun fr3 to3 sort3 w3 fault3 bad3 nC3 nD3 nL3 pd3 od3 f3 pile3 op3 ar3 pat3 g1 g2 => un16_i (ih _ _ _ _ _ _ _ _ _ _ _ _ _ _ _ _ g1 (by omega) (fun q => by have := g2 q; omega)))
      obtain ⟨c, n, x1, x2, x3, x4, x5⟩ := hC q
      exact ⟨c, n, x1, x2, x3, by omega, x5⟩
    · exact br0 b (K _ _ _ _ _ _ _ _ _ _ _ _ _ _ _ _ hL)
/-- behind the row₉s head: the law that is laid at its place -/
def LC1 (r r0 f : Nat → Int32) (at_ i : Nat) : Prop := (∀ j, j < at_ + 2 → r j = r0 j) ∧ (∀ j, at_ + 98 ≤ j → r j = r0 j) ∧ ∀ k, k < i → r (at_ + 2 + k) = f k
def LC2 (r r0 op ar : Nat → Int32) (at_ i : Nat) : Prop := (∀ j, j < at_ + 98 → r j = r0 j) ∧ (∀ j, at_ + 898 ≤ j → r j = r0 j) ∧ ∀ k, k < i → r (at_ + 98 + 2 * k) = op k ∧ r (at_ + 98 + 2 * k + 1) = ar k
theorem atL {row : Nat → Int32} {M : Nat} (hM : (row (5 : Int32).toNatClampNeg).toInt = (M : Int)) (h6 : M < 6) : (250 + 900 * (row (5 : Int32).toNatClampNeg)).toInt = ((250 + 900 * M : Nat) : Int) := by
  have m1 : (900 * (row (5 : Int32).toNatClampNeg)).toInt = 900 * (row (5 : Int32).toNatClampNeg).toInt := mul_z rfl rfl (by omega) (by omega)
  have m2 : (250 + 900 * (row (5 : Int32).toNatClampNeg)).toInt = 250 + (900 * (row (5 : Int32).toNatClampNeg)).toInt := add_z rfl rfl (by omega) (by omega)
  omega
theorem addN {a b : Int32} {x y : Nat} (ha : a.toInt = (x : Int)) (hb : b.toInt = (y : Int)) (h : x + y ≤ 100000) : (a + b).toInt = ((x + y : Nat) : Int) := by
  have := add_z ha hb (by omega) (by omega)
  omega
theorem mulN {a b : Int32} {x y : Nat} (ha : a.toInt = (x : Int)) (hb : b.toInt = (y : Int)) (h : x * y ≤ 100000) : (a * b).toInt = ((x * y : Nat) : Int) := by
  have h2 : (x : Int) * (y : Int) = ((x * y : Nat) : Int) := (Int.natCast_mul x y).symm
  have := mul_z ha hb (by rw [h2]; omega) (by rw [h2]; omega)
  rw [this, h2]
theorem sl_law111 {row : Nat → Int32} {M c : Nat} (hM : (row (5 : Int32).toNatClampNeg).toInt = (M : Int)) (h6 : M < 6) {nC : Int32} (hc : nC.toInt = (c : Int)) (h12 : c ≤ 12) {f r0 : Nat → Int32} {Qb : Int32 → (Nat → Int32) → Prop} (K : ∀ (x : Int32) (r : Nat → Int32), LC1 r r0 f (250 + 900 * M) (8 * c) → Qb x r) : ∀ (m i : Nat) (x : Int32) (r : Nat → Int32), x.toInt = (i : Int) → i ≤ 8 * c → 8 * c - i < m → LC1 r r0 f (250 + 900 * M) i → wl_X12_law_111 row nC f Qb m x r := by
  intro m
  have hA := atL hM h6
  have c8 : (8 * nC).toInt = ((8 * c : Nat) : Int) := mulN (x := 8) rfl hc (by omega)
  induction m with
  | zero => intro i x r _ _ h; omega
  | succ m ih =>
    intro i x r hx hi hm hL
    unfold wl_X12_law_111
    by_cases d : 8 * nC ≤ x
    · have d₉ := le_z rfl rfl d
      obtain rfl : i = 8 * c := by omega
      exact br1 d (K x r hL)
    · have d₉ := nle_z rfl rfl d
      have e2 := addN (addN hA (b := 2) (y := 2) rfl (by omega)) hx (by omega)
      refine br0 d ⟨vpi hx (by omega) (by omega), vpi e2 (by omega) (by omega), ?_⟩
      rw [tnN e2, tnN hx]
      refine ih (i + 1) _ _ (add1 hx (by omega)) (by omega) (by omega) ⟨fun j hj => ?_, fun j hj => ?_, fun k hk => ?_⟩
      · rw [pk_un (by omega)]; exact hL.1 j hj
      · rw [pk_un (by omega)]; exact hL.2.1 j hj
      · by_cases e : k = i
        · rw [e, pk_us]
        · rw [pk_un (by omega)]; exact hL.2.2 k (by omega)
theorem sl_law146 {row : Nat → Int32} {M n : Nat} (hM : (row (5 : Int32).toNatClampNeg).toInt = (M : Int)) (h6 : M < 6) {nC : Int32} (hc : nC.toInt = (n : Int)) (h4 : n ≤ 400) {op ar r0 : Nat → Int32} {Qb : Int32 → (Nat → Int32) → Prop} (K : ∀ (x : Int32) (r : Nat → Int32), LC2 r r0 op ar (250 + 900 * M) n → Qb x r) : ∀ (m i : Nat) (x : Int32) (r : Nat → Int32), x.toInt = (i : Int) → i ≤ n → n - i < m → LC2 r r0 op ar (250 + 900 * M) i → wl_X12_law_146 row nC op ar Qb m x r := by
  intro m
  have hA := atL hM h6
  induction m with
  | zero => intro i x r _ _ h; omega
  | succ m ih =>
    intro i x r hx hi hm hL
    unfold wl_X12_law_146
    by_cases d : nC ≤ x
    · have d₉ := le_z rfl rfl d
      obtain rfl : i = n := by omega
      exact br1 d (K x r hL)
    · have d₉ := nle_z rfl rfl d
      have e2 := addN (addN hA (b := 98) (y := 98) rfl (by omega)) (mulN (x := 2) (a := 2) rfl hx (by omega)) (by omega)
      have e3 := addN e2 (b := 1) (y := 1) rfl (by omega)
      refine br0 d ⟨vpi hx (by omega) (by omega), vpi e2 (by omega) (by omega), vpi hx (by omega) (by omega), vpi e3 (by omega) (by omega), ?_⟩
      rw [tnN e2, tnN e3, tnN hx]
      refine ih (i + 1) _ _ (add1 hx (by omega)) (by omega) (by omega) ⟨fun j hj => ?_, fun j hj => ?_, fun k hk => ?_⟩
      · rw [pk_un (by omega), pk_un (by omega)]; exact hL.1 j hj
      · rw [pk_un (by omega), pk_un (by omega)]; exact hL.2.1 j hj
      · by_cases e : k = i
        · rw [e, pk_un (by omega), pk_us, pk_us]; exact ⟨rfl, rfl⟩
        · rw [pk_un (by omega), pk_un (by omega), pk_un (by omega), pk_un (by omega)]; exact hL.2.2 k (by omega)
theorem LW.law {row r1 r2 f op ar : Nat → Int32} {M c n : Nat} (h : LW row) {nC : Int32} (hc : nC.toInt = (c : Int)) (h12 : c ≤ 12) (hn : n ≤ 400) (hM : M < 6) (hcl : CLs f op ar c n) (h1 : LC1 r1 (upd row (250 + 900 * M + 1) nC) f (250 + 900 * M) (8 * c)) (h2 : LC2 r2 r1 op ar (250 + 900 * M) n) : LW r2 := by
  intro m hm
  by_cases e : m = M
  · subst e
    have a1 : r2 (251 + 900 * m) = nC := by
      rw [h2.1 _ (by omega), h1.1 _ (by omega)]
      rw [show 251 + 900 * m = 250 + 900 * m + 1 by omega, pk_us]
    rw [a1]
    refine ⟨by omega, fun k hk => ?_⟩
    have hk₉ : k < c := by omega
    obtain ⟨p3, p4, p5, p6, q3, q4, q5, q6, q7, q8, q9, q10, s1, s2⟩ := hcl k hk₉
    have g : ∀ j, j < 8 → r2 (252 + 900 * m + 8 * k + j) = f (8 * k + j) := fun j hj => by
      rw [h2.1 _ (by omega), show 252 + 900 * m + 8 * k + j = 250 + 900 * m + 2 + (8 * k + j) by omega, h1.2.2 _ (by omega)]
    have go : ∀ i, i < n → (fun i => r2 (348 + 900 * m + 2 * i)) i = op i ∧ (fun i => r2 (348 + 900 * m + 2 * i + 1)) i = ar i := fun i hi => by
      obtain ⟨x1, x2⟩ := h2.2.2 i hi
      refine ⟨?_, ?_⟩
      · show r2 (348 + 900 * m + 2 * i) = _
        rw [show 348 + 900 * m + 2 * i = 250 + 900 * m + 98 + 2 * i by omega]; exact x1
      · show r2 (348 + 900 * m + 2 * i + 1) = _
        rw [show 348 + 900 * m + 2 * i + 1 = 250 + 900 * m + 98 + 2 * i + 1 by omega]; exact x2
    refine ⟨p3, p4, p5, p6, ?_, ?_, ?_, ?_, by omega, by omega, q9, q10, s1.cong q7 go, s2.cong q8 go⟩
    · rw [g 3 (by omega)]; exact q3
    · rw [g 4 (by omega)]; exact q4
    · rw [g 5 (by omega)]; exact q5
    · rw [g 6 (by omega)]; exact q6
  · obtain ⟨x1, x2⟩ := h m hm
    have g : ∀ j, 251 + 900 * m ≤ j → j < 250 + 900 * m + 900 → r2 j = row j := fun j j1 j2 => by
      by_cases d : m < M
      · rw [h2.1 _ (by omega), h1.1 _ (by omega), pk_un (by omega)]
      · rw [h2.2.1 _ (by omega), h1.2.1 _ (by omega), pk_un (by omega)]
    rw [g _ (by omega) (by omega)]
    refine ⟨x1, fun k hk => ?_⟩
    obtain ⟨p3, p4, p5, p6, q3, q4, q5, q6, q7, q8, q9, q10, s1, s2⟩ := x2 k hk
    have go : ∀ i, i < 400 → (fun i => r2 (348 + 900 * m + 2 * i)) i = (fun i => row (348 + 900 * m + 2 * i)) i ∧ (fun i => r2 (348 + 900 * m + 2 * i + 1)) i = (fun i => row (348 + 900 * m + 2 * i + 1)) i := fun i hi => ⟨g _ (by omega) (by omega), g _ (by omega) (by omega)⟩
    refine ⟨p3, p4, p5, p6, ?_, ?_, ?_, ?_, q7, q8, q9, q10, s1.cong q7 go, s2.cong q8 go⟩
    · rw [g _ (by omega) (by omega)]; exact q3
    · rw [g _ (by omega) (by omega)]; exact q4
    · rw [g _ (by omega) (by omega)]; exact q5
    · rw [g _ (by omega) (by omega)]; exact q6
end
section
/-! the reference₉s reader: orders -/
/-- a clause of orders, its head at b -/
def OC1 (f op ar : Nat → Int32) (b n : Nat) : Prop := ∃ p1 p2 p3 p4 p5 p6 t : Nat, (f (b + 1)).toInt = (p1 : Int) ∧ (f (b + 2)).toInt = (p2 : Int) ∧ (f (b + 3)).toInt = (p3 : Int) ∧ (f (b + 4)).toInt = (p4 : Int) ∧ (f (b + 5)).toInt = (p5 : Int) ∧ (f (b + 6)).toInt = (p6 : Int) ∧ (f (b + 7)).toInt = (t : Int) ∧ p1 ≤ p2 ∧ p2 ≤ n ∧ p3 ≤ p4 ∧ p4 ≤ n ∧ p5 ≤ p6 ∧ p6 ≤ n ∧ t ≤ 20 ∧ SG op ar p1 p2 ∧ SG op ar p3 p4 ∧ SG op ar p5 p6
def OCs (f op ar : Nat → Int32) (c n : Nat) : Prop := ∀ k, k < c → OC1 f op ar (8 * k) n
/-- within a clause of orders: its sums -/
def OM (f0 f o0 a0 op ar : Nat → Int32) (b n n3 : Nat) : Prop := (∀ i, i < b → f i = f0 i) ∧ (∀ i, i < n → op i = o0 i ∧ ar i = a0 i) ∧ ∃ p1 p2 p3 p4 : Nat, (f (b + 1)).toInt = (p1 : Int) ∧ (f (b + 2)).toInt = (p2 : Int) ∧ (f (b + 3)).toInt = (p3 : Int) ∧ (f (b + 4)).toInt = (p4 : Int) ∧ p1 ≤ p2 ∧ p2 ≤ n3 ∧ p3 ≤ p4 ∧ p4 ≤ n3 ∧ SG op ar p1 p2 ∧ SG op ar p3 p4
theorem OM.a {f0 f2 o0 a0 op ar : Nat → Int32} {b n n1 : Nat} (h1 : ∀ i, i < b → f2 i = f0 i) (h2 : ∀ j, j < 8 → f2 (b + j) = 0) (v : Int32) {c1 c2 : Int32} (e1 : c1.toInt = (n : Int)) (e2 : c2.toInt = (n1 : Int)) (hn : n ≤ n1) (ho : ∀ i, i < n → op i = o0 i ∧ ar i = a0 i) (hs : SG op ar n n1) : OM f0 (upd (upd (upd f2 b v) (b + 1) c1) (b + 1 + 1) c2) o0 a0 op ar b n n1 := by
  refine ⟨fun i hi => ?_, ho, n, n1, 0, 0, ?_, ?_, ?_, ?_, hn, Nat.le_refl n1, Nat.le_refl 0, Nat.zero_le n1, hs, SG.nil op ar 0⟩
  · rw [pk_un (by omega), pk_un (by omega), pk_un (by omega)]; exact h1 i hi
  · rw [pk_un (by omega), pk_us]; exact e1
  · rw [pk_us]; exact e2
  · rw [pk_un (by omega), pk_un (by omega), pk_un (by omega), h2 3 (by omega)]; rfl
  · rw [pk_un (by omega), pk_un (by omega), pk_un (by omega), h2 4 (by omega)]; rfl
theorem OM.b {f0 f o0 a0 op ar op₉ ar₉ : Nat → Int32} {b n n1 n2 : Nat} (h : OM f0 f o0 a0 op ar b n n1) {c1 c2 : Int32} (e1 : c1.toInt = (n1 : Int)) (e2 : c2.toInt = (n2 : Int)) (hn0 : n ≤ n1) (hn : n1 ≤ n2) (ho : ∀ i, i < n1 → op₉ i = op i ∧ ar₉ i = ar i) (hs : SG op₉ ar₉ n1 n2) : OM f0 (upd (upd f (b + 3) c1) (b + 3 + 1) c2) o0 a0 op₉ ar₉ b n n2 := by
  obtain ⟨h1, h2, p1, p2, p3, p4, q1, q2, q3, q4, q5, q6, q7, q8, q9, q10⟩ := h
  refine ⟨fun i hi => ?_, fun i hi => ?_, p1, p2, n1, n2, ?_, ?_, ?_, ?_, q5, by omega, hn, Nat.le_refl n2, q9.cong q6 ho, hs⟩
  · rw [pk_un (by omega), pk_un (by omega)]; exact h1 i hi
  · rw [(ho i (by omega)).1, (ho i (by omega)).2]; exact h2 i hi
  · rw [pk_un (by omega), pk_un (by omega)]; exact q1
  · rw [pk_un (by omega), pk_un (by omega)]; exact q2
  · rw [pk_un (by omega), pk_us]; exact e1
  · rw [pk_us]; exact e2
theorem OM.t {f0 f f₉ o0 a0 op ar : Nat → Int32} {b n n1 : Nat} (h : OM f0 f o0 a0 op ar b n n1) (e : ∀ i, i ≠ b + 7 → f₉ i = f i) : OM f0 f₉ o0 a0 op ar b n n1 := by
  obtain ⟨h1, h2, p1, p2, p3, p4, q1, q2, q3, q4, q⟩ := h
  refine ⟨fun i hi => ?_, h2, p1, p2, p3, p4, ?_, ?_, ?_, ?_, q⟩
  · rw [e i (by omega)]; exact h1 i hi
  · rw [e _ (by omega)]; exact q1
  · rw [e _ (by omega)]; exact q2
  · rw [e _ (by omega)]; exact q3
  · rw [e _ (by omega)]; exact q4
theorem OM.fin {f0 f o0 a0 op ar op₉ ar₉ : Nat → Int32} {c n n1 n2 t : Nat} (h : OM f0 f o0 a0 op ar (8 * c) n n1) (h0 : OCs f0 o0 a0 c n) (hn0 : n ≤ n1) (hn : n1 ≤ n2) (ht : (f (8 * c + 7)).toInt = (t : Int)) (h20 : t ≤ 20) {c1 c2 : Int32} (e1 : c1.toInt = (n1 : Int)) (e2 : c2.toInt = (n2 : Int)) (ho : ∀ i, i < n1 → op₉ i = op i ∧ ar₉ i = ar i) (hs : SG op₉ ar₉ n1 n2) : OCs (upd (upd f (8 * c + 5) c1) (8 * c + 6) c2) op₉ ar₉ (c + 1) n2 := by
  obtain ⟨h1, h2, p1, p2, p3, p4, q1, q2, q3, q4, q5, q6, q7, q8, q9, q10⟩ := h
  intro k hk
  by_cases e : k = c
  · subst e
    refine ⟨p1, p2, p3, p4, n1, n2, t, ?_, ?_, ?_, ?_, ?_, ?_, ?_, q5, by omega, q7, by omega, hn, Nat.le_refl n2, h20, q9.cong q6 ho, q10.cong q8 ho, hs⟩
    · rw [pk_un (by omega), pk_un (by omega)]; exact q1
    · rw [pk_un (by omega), pk_un (by omega)]; exact q2
    · rw [pk_un (by omega), pk_un (by omega)]; exact q3
    · rw [pk_un (by omega), pk_un (by omega)]; exact q4
    · rw [pk_un (by omega), pk_us]; exact e1
    · rw [pk_us]; exact e2
    · rw [pk_un (by omega), pk_un (by omega)]; exact ht
  · obtain ⟨x1, x2, x3, x4, x5, x6, x7, y1, y2, y3, y4, y5, y6, y7, z1, z2, z3, z4, z5, z6, z7, s1, s2, s3⟩ := h0 k (by omega)
    have g : ∀ j, j < 8 → upd (upd f (8 * c + 5) c1) (8 * c + 6) c2 (8 * k + j) = f0 (8 * k + j) := fun j hj => by
      rw [pk_un (by omega), pk_un (by omega)]; exact h1 _ (by omega)
    have ho2 : ∀ i, i < n → op₉ i = o0 i ∧ ar₉ i = a0 i := fun i hi => by
      rw [(ho i (by omega)).1, (ho i (by omega)).2]; exact h2 i hi
    refine ⟨x1, x2, x3, x4, x5, x6, x7, ?_, ?_, ?_, ?_, ?_, ?_, ?_, z1, by omega, z3, by omega, z5, by omega, z7, s1.cong z2 ho2, s2.cong z4 ho2, s3.cong z6 ho2⟩
    · rw [g 1 (by omega)]; exact y1
    · rw [g 2 (by omega)]; exact y2
    · rw [g 3 (by omega)]; exact y3
    · rw [g 4 (by omega)]; exact y4
    · rw [g 5 (by omega)]; exact y5
    · rw [g 6 (by omega)]; exact y6
    · rw [g 7 (by omega)]; exact y7
end
section
/-! what a code tells: the reference₉s own reckoning as a function -/
def rkB (o : Int32) (a b : Int64) : Option Int64 :=
  if o = 20 then some (a + b) else if o = 21 then some (a - b) else if o = 22 then some (a * b) else
  if o = 23 then (if b = 0 then none else some (a / b)) else if o = 24 then (if b = 0 then none else some (a - a / b * b)) else
  if o = 25 then some (if a.toInt < b.toInt then 1 else 0) else if o = 26 then some (if b.toInt < a.toInt then 1 else 0) else some (if a = b then 1 else 0)
def RK (op ar : Nat → Int32) (vl : Int32 → Int32 → Int64) (b k : Nat) (st : List Int64) : Option (List Int64) :=
  if b ≤ k then some st else
  if (op k).toInt < 20 then RK op ar vl b (k + 1) (vl (op k) (ar k) :: st) else
  if (op k).toInt < 28 then
    (if rkB (op k) (st.tail.headD 0) (st.headD 0) = none then none else
    if -1000000000 ≤ ((rkB (op k) (st.tail.headD 0) (st.headD 0)).getD 0).toInt ∧ ((rkB (op k) (st.tail.headD 0) (st.headD 0)).getD 0).toInt ≤ 1000000000 then RK op ar vl b (k + 1) ((rkB (op k) (st.tail.headD 0) (st.headD 0)).getD 0 :: st.tail.tail) else none)
  else if (op k).toInt = 28 then RK op ar vl b (k + 1) ((1 - st.headD 0) :: st.tail)
  else if st.headD 0 = (if op k = 29 then 0 else 1) then (if k < (ar k).toInt.toNat then RK op ar vl b (ar k).toInt.toNat st else none) else RK op ar vl b (k + 1) st.tail
termination_by b - k
decreasing_by all_goals omega
section RKs
variable {op ar : Nat → Int32} {vl : Int32 → Int32 → Int64} {b k : Nat} {st r : List Int64} {x y v : Int64}
end RKs
def stk (f : Nat → Int64) : Nat → List Int64
  | 0 => []
  | n + 1 => f n :: stk f n
/-- what stands at the pile₉s bottom -/
def botD (st : List Int64) : Int64 := st.getLastD 0
/-- a leaf₉s number, in laws and in orders -/
def vlL (set : Nat → Int64) (o w : Int32) : Int64 := if o = 0 then w.toInt64 else set o.toNatClampNeg
end
section
/-! what a law tells: as a function of the row -/
def tstF (row : Nat → Int32) (c k : Nat) (vl : Int32 → Int32 → Int64) : Bool :=
  if (row (k + 5)).toInt < (row (k + 6)).toInt then
    match RK (fun i => row (c + 2 * i)) (fun i => row (c + 2 * i + 1)) vl (row (k + 6)).toInt.toNat (row (k + 5)).toInt.toNat [] with
    | none => false
    | some st => if botD st = 0 then false else true
  else true
def sumF (row : Nat → Int32) (c k : Nat) (vl : Int32 → Int32 → Int64) : Option Int64 :=
  match RK (fun i => row (c + 2 * i)) (fun i => row (c + 2 * i + 1)) vl (row (k + 4)).toInt.toNat (row (k + 3)).toInt.toNat [] with
  | none => none
  | some st => some (botD st)
/-- what a clause tells, if it holds -/
def clF (row : Nat → Int32) (c k : Nat) (vl : Int32 → Int32 → Int64) : Option Int64 := if tstF row c k vl = true then (if row k = 4 then some 1 else sumF row c k vl) else none
def setF (row : Nat → Int32) (b d g : Int32) (f_set : Nat → Int64) : Nat → Int64 := (vp_updL (vp_updL (vp_updL (vp_updL (vp_updL (vp_updL (vp_updL (vp_updL (vp_updL f_set 1 b.toInt64) 2 (b - b / 8 * 8).toInt64) 3 (b / 8).toInt64) 4 d.toInt64) 5 (row (153 + b).toNatClampNeg).toInt64) 6 (row (73 + b).toNatClampNeg).toInt64) 7 g.toInt64) 8 (row (7 : Int32).toNatClampNeg).toInt64) 9 (row (9 : Int32).toNatClampNeg).toInt64)
/-- a word₉s number in laws -/
def vlS (row : Nat → Int32) (b d g : Int32) : Int32 → Int32 → Int64 := vlL (setF row b d g (fun _ => 0))
/-- what the first c clauses of a law tell for a head -/
def TLf (row : Nat → Int32) (B : Nat) (a : Int32) (vl : Int32 → Int32 → Int64) : Nat → Int64 → Int64
  | 0, w => w
  | c + 1, w => if row (B + 2 + 8 * c) = a then (match clF row (B + 98) (B + 2 + 8 * c) vl with | some v => v | none => TLf row B a vl c w) else TLf row B a vl c w
def tlF (row : Nat → Int32) (a b d g : Int32) (w : Int64) : Int64 := if row 6 = -1 then w else TLf row (250 + 900 * (row 6).toInt.toNat) a (vlS row b d g) (row (251 + 900 * (row 6).toInt.toNat)).toInt.toNat w
/-- the nearest within two bounds -/
def wiF (v : Int64) (lo hi : Int32) : Int32 := if v.toInt < lo.toInt then lo else if v.toInt ≤ hi.toInt then v.toInt32 else hi
theorem wiF_b {v : Int64} {lo hi : Int32} (h : lo.toInt ≤ hi.toInt) : lo.toInt ≤ (wiF v lo hi).toInt ∧ (wiF v lo hi).toInt ≤ hi.toInt := by
  unfold wiF
  have := i32_lo lo
  have := i32_hi hi
  by_cases c : v.toInt < lo.toInt
  · rw [if_pos c]; omega
  · rw [if_neg c]
    by_cases d : v.toInt ≤ hi.toInt
    · rw [if_pos d]
      have e : v.toInt32.toInt = v.toInt := l2i_z rfl (by omega) (by omega)
      omega
    · rw [if_neg d]; omega
def dgF (row : Nat → Int32) (s c : Int32) : Int32 := wiF (tlF row 2 c (row (113 + c).toNatClampNeg) s (row (153 + c).toNatClampNeg).toInt64) 1 99
def psF (row : Nat → Int32) (s c : Int32) : Bool := if row (113 + c).toNatClampNeg = 1 then (if tlF row 4 c 1 s 0 = 1 then true else false) else true
theorem dgF_b (row : Nat → Int32) (s c : Int32) : 1 ≤ (dgF row s c).toInt ∧ (dgF row s c).toInt ≤ 99 := wiF_b (lo := 1) (hi := 99) (by decide)
end
section
/-! the quickest way down, in the reference -/
def B01 (b : Int32) : Prop := b = 0 ∨ b = 1
theorem B01.of {b b0 : Int32} (h0 : B01 b0) (h : b = 0 ∨ b = 1 ∨ b = b0) : B01 b := by
  rcases h with h | h | h
  · exact Or.inl h
  · exact Or.inr h
  · rw [h]; exact h0
def InC (c : Int32) : Prop := 0 ≤ c.toInt ∧ c.toInt < 40
theorem e_isColumn {a : Int32} {Q : Int32 → Prop} (h1 : 0 ≤ a.toInt → a.toInt ≤ 7 → Q 1) (h0 : ¬ (0 ≤ a.toInt ∧ a.toInt ≤ 7) → Q 0) : wp_X12_isColumn a Q := by
  unfold wp_X12_isColumn
  have e : a.toInt64.toInt = a.toInt := i2l_z rfl
  have z0 : (0 : Int64).toInt = 0 := rfl
  have z9 : (7 : Int64).toInt = 7 := rfl
  exact e_in (fun g1 g2 => h1 (by omega) (by omega)) (fun q => h0 (fun p => q (by first | with_reducible assumption | exact ⟨by omega, by omega⟩)))
def cbF (c w : Int32) : Int32 := if w = 1 then (if 40 ≤ (c + 8).toInt then -1 else c + 8) else (if 0 ≤ (c - c / 8 * 8 + w - 1).toInt ∧ (c - c / 8 * 8 + w - 1).toInt ≤ 7 then c + w - 1 else -1)
theorem e_cellBy {c w : Int32} {Q : Int32 → Prop} (h : Q (cbF c w)) : wp_X12_cellBy c w Q := by
  unfold wp_X12_cellBy
  unfold cbF at h
  by_cases d : w = 1
  · rw [if_pos d] at h
    refine br1 d ?_
    by_cases e : 40 ≤ c + 8
    · have e₉ := le_z (x := 40) rfl rfl e
      rw [if_pos e₉] at h
      exact br1 e h
    · have e₉ := nle_z (x := 40) rfl rfl e
      rw [if_neg (by omega)] at h
      exact br0 e h
  · rw [if_neg d] at h
    refine br0 d (e_isColumn (fun g1 g2 => ?_) (fun g => ?_))
    · rw [if_pos ⟨g1, g2⟩] at h
      exact br0 (by decide) h
    · rw [if_neg g] at h
      exact br1 rfl h
/-- a cell beside another: none, or another cell -/
theorem cbF_b {c w : Int32} (hc : InC c) (h0 : 0 ≤ w.toInt) (h2 : w.toInt ≤ 2) : cbF c w = -1 ∨ (InC (cbF c w) ∧ (cbF c w).toInt ≠ c.toInt) := by
  unfold cbF InC at *
  have m : (c - c / 8 * 8).toInt = c.toInt % 8 := rem_z rfl rfl hc.1 (by decide)
  have e8 : (c + 8).toInt = c.toInt + 8 := add_z rfl rfl (by omega) (by omega)
  have e1 : (c - c / 8 * 8 + w).toInt = (c - c / 8 * 8).toInt + w.toInt := add_z rfl rfl (by omega) (by omega)
  have e2 : (c - c / 8 * 8 + w - 1).toInt = (c - c / 8 * 8 + w).toInt - 1 := sub_z rfl rfl (by omega) (by omega)
  have e3 : (c + w).toInt = c.toInt + w.toInt := add_z rfl rfl (by omega) (by omega)
  have e4 : (c + w - 1).toInt = (c + w).toInt - 1 := sub_z rfl rfl (by omega) (by omega)
  by_cases d : w = 1
  · rw [if_pos d]
    by_cases e : 40 ≤ (c + 8).toInt
    · rw [if_pos e]; exact Or.inl rfl
    · rw [if_neg e]; exact Or.inr (by first | with_reducible assumption | exact ⟨by omega, by omega⟩)
  · have d₉ := ne_z (y := 1) rfl rfl d
    rw [if_neg d]
    by_cases e : 0 ≤ (c - c / 8 * 8 + w - 1).toInt ∧ (c - c / 8 * 8 + w - 1).toInt ≤ 7
    · rw [if_pos e]; exact Or.inr (by first | with_reducible assumption | exact ⟨by omega, by omega⟩)
    · rw [if_neg e]; exact Or.inl rfl
/-- the days by a way, as they stand now -/
def dyF (row days : Nat → Int32) (s c w g : Int32) : Int32 :=
  if cbF c w = -1 then 100000000 else if row (33 + cbF c w).toNatClampNeg = 1 then 100000000 else if psF row s (cbF c w) = false then 100000000 else
  if ¬ cbF c w = g ∧ 1 < (row (113 + cbF c w).toNatClampNeg).toInt then 100000000 else if days (cbF c w).toNatClampNeg = 100000000 then 100000000 else days (cbF c w).toNatClampNeg + dgF row s (cbF c w)
/-- the sum of the days of the first k cells -/
def SD (f : Nat → Int32) : Nat → Int
  | 0 => 0
  | k + 1 => SD f k + (f k).toInt
theorem SD_u {f : Nat → Int32} {n : Nat} {v : Int32} : ∀ k, k ≤ n → SD (upd f n v) k = SD f k := by
  intro k
  induction k with
  | zero => intro _; rfl
  | succ k ih =>
    intro h
    show SD (upd f n v) k + (upd f n v k).toInt = SD f k + (f k).toInt
    rw [ih (by omega), pk_un (by omega)]
theorem SD_s {f : Nat → Int32} {n : Nat} {v : Int32} : ∀ k, n < k → SD (upd f n v) k = SD f k - (f n).toInt + v.toInt := by
  intro k
  induction k with
  | zero => intro h; omega
  | succ k ih =>
    intro h
    show SD (upd f n v) k + (upd f n v k).toInt = SD f k + (f k).toInt - (f n).toInt + v.toInt
    by_cases e : k = n
    · subst e; rw [SD_u k (Nat.le_refl k), pk_us]; omega
    · rw [ih (by omega), pk_un e]; omega
theorem SD_b {f : Nat → Int32} (h : DY f) : ∀ k, k ≤ 40 → 0 ≤ SD f k ∧ SD f k ≤ 100000000 * k := by
  intro k
  induction k with
  | zero => intro _; exact ⟨Int.le_refl 0, Int.le_refl 0⟩
  | succ k ih =>
    intro hk
    have := ih (by omega)
    have b := DY.at_0 h (n := k) (z := k) rfl (by omega) (by omega)
    show 0 ≤ SD f k + (f k).toInt ∧ SD f k + (f k).toInt ≤ 100000000 * ((k + 1 : Nat) : Int)
    omega
theorem upd_self {f : Nat → Int32} {n : Nat} : upd f n (f n) = f := by
  funext i
  by_cases e : i = n
  · rw [e, pk_us]
  · rw [pk_un e]
/-- each cell with a number has a way that is as quick -/
def FA (row : Nat → Int32) (s g : Int32) (days : Nat → Int32) : Prop := ∀ c : Int32, InC c → ¬ c = g → (days c.toNatClampNeg).toInt < 100000000 → ∃ w : Int32, 0 ≤ w.toInt ∧ w.toInt ≤ 2 ∧ (dyF row days s c w g).toInt ≤ (days c.toNatClampNeg).toInt
theorem tn_ne {a b : Int32} (ha : InC a) (hb : InC b) (h : a.toInt ≠ b.toInt) : a.toNatClampNeg ≠ b.toNatClampNeg := by
  have := tnz (x := a.toInt) rfl ha.1
  have := tnz (x := b.toInt) rfl hb.1
  omega
/-- days that are fewer at a cell: no way gets longer -/
theorem dyF_u {row days : Nat → Int32} {s c w g x v : Int32} (hD : DY days) (hc : InC c) (h0 : 0 ≤ w.toInt) (h2 : w.toInt ≤ 2) (hx : InC x) (hv0 : 0 ≤ v.toInt) (hv : v.toInt ≤ (days x.toNatClampNeg).toInt) (hf : (dyF row days s c w g).toInt < 100000000) : (dyF row (upd days x.toNatClampNeg v) s c w g).toInt ≤ (dyF row days s c w g).toInt := by
  unfold dyF at hf ⊢
  have B := cbF_b hc h0 h2
  generalize cbF c w = r at *
  have zf : (100000000 : Int32).toInt = 100000000 := rfl
  by_cases c1 : r = -1
  · rw [if_pos c1] at hf; omega
  · rw [if_neg c1] at hf ⊢
    rw [if_neg c1]
    obtain ⟨Bc, -⟩ : InC r ∧ r.toInt ≠ c.toInt := by
      rcases B with B | B
      · exact (c1 B).elim
      · exact B
    by_cases c2 : row (33 + r).toNatClampNeg = 1
    · rw [if_pos c2] at hf; omega
    · rw [if_neg c2] at hf ⊢
      rw [if_neg c2]
      by_cases c3 : psF row s r = false
      · rw [if_pos c3] at hf; omega
      · rw [if_neg c3] at hf ⊢
        rw [if_neg c3]
        by_cases c4 : ¬ r = g ∧ 1 < (row (113 + r).toNatClampNeg).toInt
        · rw [if_pos c4] at hf; omega
        · rw [if_neg c4] at hf ⊢
          rw [if_neg c4]
          by_cases c5 : days r.toNatClampNeg = 100000000
          · rw [if_pos c5] at hf; omega
          · rw [if_neg c5] at hf ⊢
            have Dr := DY.at_0 hD (tnz (x := r.toInt) rfl Bc.1) (by have := Bc.1; omega) (by have := Bc.2; omega)
            have gb := dgF_b row s r
            have c5₉ := ne_z (y := 100000000) rfl rfl c5
            have e : (days r.toNatClampNeg + dgF row s r).toInt = (days r.toNatClampNeg).toInt + (dgF row s r).toInt := add_z rfl rfl (by omega) (by omega)
            by_cases c6 : r.toInt = x.toInt
            · have c6₉ : r = x := Int32.toInt_inj.mp c6
              subst c6₉
              rw [pk_us]
              have e2 : (v + dgF row s r).toInt = v.toInt + (dgF row s r).toInt := add_z rfl rfl (by omega) (by omega)
              rw [if_neg (z_ne (y := 100000000) rfl rfl (by omega))]
              omega
            · rw [pk_un (tn_ne Bc hx c6), if_neg c5]
              exact Int.le_refl _
theorem dyF_s {row days : Nat → Int32} {s c w g v : Int32} (hc : InC c) (h0 : 0 ≤ w.toInt) (h2 : w.toInt ≤ 2) : dyF row (upd days c.toNatClampNeg v) s c w g = dyF row days s c w g := by
  unfold dyF
  have B := cbF_b hc h0 h2
  generalize cbF c w = r at *
  by_cases c1 : r = -1
  · rw [if_pos c1, if_pos c1]
  · obtain ⟨Bc, Bn⟩ : InC r ∧ r.toInt ≠ c.toInt := by
      rcases B with B | B
      · exact (c1 B).elim
      · exact B
    rw [pk_un (tn_ne Bc hc Bn)]
theorem dyF_0 {row days : Nat → Int32} {s c w g : Int32} (hD : DY days) (hc : InC c) (h0 : 0 ≤ w.toInt) (h2 : w.toInt ≤ 2) : 0 ≤ (dyF row days s c w g).toInt := by
  unfold dyF
  have B := cbF_b hc h0 h2
  generalize cbF c w = r at *
  have zf : (100000000 : Int32).toInt = 100000000 := rfl
  split
  · omega
  · split
    · omega
    · split
      · omega
      · split
        · omega
        · split
          · omega
          · obtain ⟨Bc, -⟩ : InC r ∧ r.toInt ≠ c.toInt := by
              rcases B with B | B
              · exact absurd B (by assumption)
              · exact B
            have Dr := DY.at_0 hD (tnz (x := r.toInt) rfl Bc.1) (by have := Bc.1; omega) (by have := Bc.2; omega)
            have gb := dgF_b row s r
            have e : (days r.toNatClampNeg + dgF row s r).toInt = (days r.toNatClampNeg).toInt + (dgF row s r).toInt := add_z rfl rfl (by omega) (by omega)
            omega
theorem FA.up {row : Nat → Int32} {s g : Int32} {days : Nat → Int32} (h : FA row s g days) (hD : DY days) {x w : Int32} (hx : InC x) (h0 : 0 ≤ w.toInt) (h2 : w.toInt ≤ 2) (hlt : (dyF row days s x w g).toInt < (days x.toNatClampNeg).toInt) : FA row s g (upd days x.toNatClampNeg (dyF row days s x w g)) := by
  have Dx := DY.at_0 hD (tnz (x := x.toInt) rfl hx.1) (by have := hx.1; omega) (by have := hx.2; omega)
  intro c hc hg hf
  by_cases e : c.toInt = x.toInt
  · have e₉ : c = x := Int32.toInt_inj.mp e
    subst e₉
    refine ⟨w, h0, h2, ?_⟩
    rw [dyF_s hc h0 h2, pk_us]
    exact Int.le_refl _
  · rw [pk_un (tn_ne hc hx e)] at hf ⊢
    obtain ⟨w₉, a0, a2, a3⟩ := h c hc hg hf
    refine ⟨w₉, a0, a2, ?_⟩
    have := dyF_u (row := row) (s := s) (g := g) (w := w₉) hD hc a0 a2 hx (dyF_0 hD hx h0 h2) (Int.le_of_lt hlt) (v := dyF row days s x w g) (by omega)
    omega
theorem sl_fd2 {g : Int32} {Qb : Int32 → (Nat → Int32) → Prop} (K : ∀ (x : Int32) (days : Nat → Int32), (∀ c : Int32, InC c → days c.toNatClampNeg = (if c = g then 0 else 100000000)) → DY days → Qb x days) : ∀ (m : Nat) (x : Int32) (days : Nat → Int32), 0 ≤ x.toInt → x.toInt ≤ 40 → 40 - x.toInt < m → (∀ c : Int32, 0 ≤ c.toInt → c.toInt < x.toInt → days c.toNatClampNeg = (if c = g then 0 else 100000000)) → wl_X12_findDown_2 g Qb m x days := by
  intro m
  induction m with
  | zero => intro x days a1 a2 a3; exfalso; have a3 : 40 - x.toInt < 0 := a3; omega
  | succ m ih =>
    intro x days x0 x4 xm hd
    unfold wl_X12_findDown_2
    by_cases c : 40 ≤ x
    · have c₉ := le_z (x := 40) rfl rfl c
      have hd₉ : ∀ c : Int32, InC c → days c.toNatClampNeg = (if c = g then 0 else 100000000) := fun e he => hd e he.1 (by have := he.2; omega)
      refine br1 c (K x days hd₉ (fun j q hq k1 k2 => ?_))
      simp only [DYT, List.mem_cons, List.not_mem_nil, or_false] at hq
      subst hq
      have j40 : j < 40 := k2
      obtain ⟨e, he⟩ : ∃ e : Int32, e.toInt = (j : Int) := ⟨Int32.ofInt j, by
        rw [Int32.toInt_ofInt]
        exact bm32 (by omega) (by omega)⟩
      have := hd₉ e (by first | with_reducible assumption | exact ⟨by omega, by omega⟩)
      rw [tnN he] at this
      rw [this]
      split
      · decide
      · decide
    · have c₉ := nle_z (x := 40) rfl rfl c
      have x1 := li_1 (x := x) (hi := 40) (by omega) (by omega)
      have S : ∀ v : Int32, v = (if x = g then 0 else 100000000) → wl_X12_findDown_2 g Qb m (x + 1) (upd days x.toNatClampNeg v) := fun v hv => by
        refine ih _ _ (by omega) (by omega) (by omega) (fun e e0 e1 => ?_)
        by_cases q : e.toInt = x.toInt
        · have q₉ : e = x := Int32.toInt_inj.mp q
          rw [q₉, pk_us, hv]
        · rw [pk_un (tn_ne ⟨e0, by omega⟩ ⟨x0, by omega⟩ q)]
          exact hd e e0 (by omega)
      refine br0 c ?_
      by_cases d : x = g
      · exact br1 d ⟨vpi rfl (by omega) (by omega), S 0 (by rw [if_pos d])⟩
      · exact br0 d ⟨vpi rfl (by omega) (by omega), S 100000000 (by rw [if_neg d])⟩
end
section
/-! seasons of the reference -/
theorem lrem_z {a b : Int64} {x y : Int} (ha : a.toInt = x) (hb : b.toInt = y) (h0 : 0 ≤ x) (h1 : 0 < y) : (a - a / b * b).toInt = x % y := by
  have q2 := i64_hi a
  have q : x / y ≤ x := Int.ediv_le_self _ h0
  have q0 : 0 ≤ x / y := Int.ediv_nonneg h0 (by omega)
  have d : (a / b).toInt = x / y := by
    rw [Int64.toInt_div, ha, hb, Int.tdiv_eq_ediv_of_nonneg h0]
    exact bm64 (by omega) (by omega)
  have e : x / y * y + x % y = x := Int.ediv_mul_add_emod x y
  have q4 : 0 ≤ x % y := Int.emod_nonneg x (by omega)
  have q5 : 0 ≤ x / y * y := Int.mul_nonneg q0 (by omega)
  have m := lmul_z (a := a / b) (b := b) d hb (by omega) (by omega)
  rw [lsub_z ha m (by omega) (by omega)]
  omega
theorem e_tell {a : Int32} {f : Nat → Int32} (h : -6 ≤ a.toInt) {Q : Int32 → (Int32 × (Nat → Int32)) → Prop} (hq : ∀ (s : Int32) (f₉ : Nat → Int32), Q a (s, f₉)) : wp_X12_tell a f Q := by
  unfold wp_X12_tell
  refine jn1_i (fun _ => True) (fun y _ => ?_) (fun z hz => ?_)
  · by_cases c : 0 ≤ a
    · exact br1 c (hq _ _)
    · have c₉ := nle_z (x := 0) rfl rfl c
      have e : (-a).toInt = - a.toInt := neg_z rfl (by omega) (by omega)
      exact br0 c ⟨vpi e (by omega) (by omega), vpi e (by omega) (by omega), hq _ _⟩
  · by_cases c : 0 ≤ a
    · exact br1 c (hz _ trivial)
    · exact br0 c (hz _ trivial)
end
section
/-! bits of longs; veins of the reference -/
theorem wb_tb (n : Nat) : (lN n).toBitVec = BitVec.ofNat 64 n := rfl
theorem wb_inj {a b : Int64} (h : a.toBitVec = b.toBitVec) : a = b := Int64.toBitVec_inj.mp h
theorem wb_c : ∀ k, k < 64 → ((nI k).toInt64 &&& 63) = lN k := by decide +kernel
theorem wb_sm : ∀ k, k < 64 → (BitVec.ofNat 64 k).smod 64 = BitVec.ofNat 64 k := by decide +kernel
def bt (x : Int64) (k : Nat) : Bool := x.toBitVec.getLsbD k
theorem sh_amt {b : Int32} {k : Nat} (hb : b.toInt = (k : Int)) (hk : k < 64) : b.toInt64 &&& 63 = lN k := by
  have e : b = nI k := Int32.toInt_inj.mp (by rw [nI_toInt (by omega)]; exact hb)
  rw [e]; exact wb_c k hk
theorem sr_bv {x : Int64} {k : Nat} (hk : k < 64) : (x >>> lN k).toBitVec = x.toBitVec.sshiftRight k := by
  show x.toBitVec.sshiftRight ((lN k).toBitVec.smod 64).toNat = _
  rw [wb_tb k, wb_sm k hk, BitVec.toNat_ofNat, Nat.mod_eq_of_lt (by omega)]
theorem and1_bv (y : BitVec 64) : (y &&& 1#64 = 1#64) ↔ y.getLsbD 0 = true := by
  rw [BitVec.and_one_eq_setWidth_ofBool_getLsbD]
  cases y.getLsbD 0 with
  | true => exact ⟨fun _ => rfl, fun _ => by decide⟩
  | false => exact ⟨fun h => absurd h (by decide), fun h => by cases h⟩
theorem bt_is {x : Int64} {b : Int32} {k : Nat} (hb : b.toInt = (k : Int)) (hk : k < 64) : ((x >>> (b.toInt64 &&& 63)) &&& 1 = 1) ↔ bt x k = true := by
  rw [sh_amt hb hk]
  have e : ((x >>> lN k) &&& 1 = 1) ↔ ((x >>> lN k).toBitVec &&& 1#64 = 1#64) := by
    constructor
    · intro h
      have := congrArg Int64.toBitVec h
      rw [Int64.toBitVec_and] at this
      exact this
    · intro h
      apply wb_inj
      rw [Int64.toBitVec_and]
      exact h
  rw [e, and1_bv, sr_bv hk, BitVec.getLsbD_sshiftRight]
  unfold bt
  simp [hk]
theorem e_is {x : Int64} {b : Int32} {k : Nat} (hb : b.toInt = (k : Int)) (hk : k < 64) {Q : Int32 → Prop} (h1 : bt x k = true → Q 1) (h0 : ¬ bt x k = true → Q 0) : wp_X12_is x b Q := by
  unfold wp_X12_is
  by_cases c : lg_cmp ((x >>> (b.toInt64 &&& 63)) &&& 1) 1 = 0
  · exact br1 c (h1 ((bt_is hb hk).mp (Int64.toInt_inj.mp (cmp_eq.mp c))))
  · exact br0 c (h0 (fun q => c (cmp_eq.mpr (by rw [(bt_is hb hk).mpr q]))))
theorem sl_bv {k : Nat} (hk : k < 64) : ((1 : Int64) <<< lN k).toBitVec = BitVec.twoPow 64 k := by
  rw [Int64.toBitVec_shiftLeft, wb_tb, wb_sm k hk, BitVec.twoPow_eq, BitVec.shiftLeft_eq', BitVec.toNat_ofNat, Nat.mod_eq_of_lt (by omega)]
  rfl
theorem bt_or1 {x : Int64} {c : Int32} {k : Nat} (hc : c.toInt = (k : Int)) (hk : k < 64) (j : Nat) : bt (x ||| ((1 : Int64) <<< (c.toInt64 &&& 63))) j = (bt x j || decide (k = j)) := by
  rw [sh_amt hc hk]
  unfold bt
  rw [Int64.toBitVec_or, BitVec.getLsbD_or, sl_bv hk, BitVec.getLsbD_twoPow]
  simp [hk]
/-- how many of the first k cells are in it -/
def cnt (x : Int64) : Nat → Nat
  | 0 => 0
  | k + 1 => cnt x k + (if bt x k = true then 1 else 0)
theorem cnt_or {x y : Int64} {k : Nat} (h : ∀ j, bt y j = (bt x j || decide (k = j))) (hx : ¬ bt x k = true) : ∀ n, cnt y n = cnt x n + (if k < n then 1 else 0) := by
  intro n
  induction n with
  | zero => rfl
  | succ n ih =>
    show cnt y n + (if bt y n = true then 1 else 0) = cnt x n + (if bt x n = true then 1 else 0) + _
    rw [ih, h n]
    by_cases e : k = n
    · subst e
      have : bt x k = false := by cases g : bt x k with
        | true => exact (hx g).elim
        | false => rfl
      rw [this]
      simp
    · by_cases g : k < n
      · rw [if_pos g, if_pos (show k < n + 1 by omega)]
        simp [e]
        omega
      · rw [if_neg g, if_neg (show ¬ k < n + 1 by omega)]
        simp [e]
theorem or_same {x : Int64} {c : Int32} {k : Nat} (hc : c.toInt = (k : Int)) (hk : k < 64) (hx : bt x k = true) : x ||| ((1 : Int64) <<< (c.toInt64 &&& 63)) = x := by
  apply wb_inj
  apply BitVec.eq_of_getLsbD_eq
  intro j hj
  have := bt_or1 (x := x) hc hk j
  unfold bt at this
  rw [this]
  by_cases e : k = j
  · subst e
    have hx₉ : x.toBitVec.getLsbD k = true := hx
    rw [hx₉]; rfl
  · simp [e]
def VI (k0 : Nat) (its th : Int64) : Prop := (bt its k0 = true → bt th k0 = true) ∧ cnt its 40 ≤ cnt th 40 ∧ (cnt th 40 = cnt its 40 → th = its)
theorem VI.or {k0 : Nat} {its th : Int64} (h : VI k0 its th) {c : Int32} (hc : InC c) : VI k0 its (th ||| ((1 : Int64) <<< (c.toInt64 &&& 63))) := by
  obtain ⟨k, hk⟩ : ∃ k : Nat, c.toInt = (k : Int) := ⟨c.toInt.toNat, by have := hc.1; omega⟩
  have k4 : k < 40 := by have := hc.2; omega
  by_cases e : bt th k = true
  · rw [or_same hk (by omega) e]; exact h
  · have B := bt_or1 (x := th) hk (by omega)
    have C := cnt_or B e 40
    rw [if_pos k4] at C
    refine ⟨fun q => ?_, by have := h.2.1; omega, fun q => ?_⟩
    · rw [B k0, h.1 q]; rfl
    · have := h.2.1; omega
end
section
/-! gangs of the reference -/
def gw : Nat → Int
  | 0 => 1000000
  | 1 => 100000
  | 2 => 10000
  | 3 => 1000
  | 4 => 100
  | 5 => 10
  | _ => 1
/-- what is still to be gone through -/
def MS (f : Nat → Int32) (a : Int) : Nat → Int
  | 0 => 0
  | i + 1 => MS f a i + (a + 1 - (f i).toInt) * gw i
/-- the first k shafts have their goals -/
def GD (f : Nat → Int32) (a : Int) (k : Nat) : Prop := ∀ i, i < k → 0 ≤ (f i).toInt ∧ (f i).toInt ≤ a
/-- where the search stands -/
def FG (f : Nat → Int32) (a : Int) (n m : Nat) (x : Int32) : Prop :=
  (x.toInt = -1 ∧ 0 < m) ∨ (∃ k : Nat, x.toInt = (k : Int) ∧ k < n ∧ GD f a k ∧ -1 ≤ (f k).toInt ∧ (f k).toInt ≤ a ∧ MS f a (k + 1) + 1 < m) ∨ (x.toInt = (n : Int) ∧ GD f a n ∧ MS f a n + 2 < m)
theorem FG.back {f : Nat → Int32} {a : Int} {n m k : Nat} {x : Int32} (hx : x.toInt = (k : Int) - 1) (hk : k ≤ n) (hG : GD f a k) (hm : MS f a k + 1 < m) (h1 : 0 < m) : FG f a n m x := by
  cases k with
  | zero => exact Or.inl ⟨by omega, h1⟩
  | succ k =>
    have g := hG k (by omega)
    exact Or.inr (Or.inl ⟨k, by omega, by omega, fun i hi => hG i (by omega), by omega, g.2, hm⟩)
end
section
/-! images of the reference; ones, gangs -/
theorem RW.cong {f g : Nat → Int32} (h : RLW f) (e : ∀ j, j < 5650 → g j = f j) : RLW g := by
  refine ⟨fun j q hq k1 k2 => ?_, fun m hm => ?_⟩
  · have hj : j < 246 := by
      simp only [RWT, List.mem_cons, List.not_mem_nil, or_false] at hq
      rcases hq with rfl | rfl | rfl | rfl | rfl | rfl | rfl | rfl | rfl | rfl | rfl | rfl | rfl | rfl | rfl | rfl | rfl | rfl | rfl | rfl | rfl | rfl | rfl <;> simp only at k2 <;> omega
    rw [e j (by omega)]
    exact h.1 j q hq k1 k2
  · obtain ⟨x1, x2⟩ := h.2 m hm
    rw [e _ (by omega)]
    refine ⟨x1, fun k hk => ?_⟩
    obtain ⟨p3, p4, p5, p6, q3, q4, q5, q6, q7, q8, q9, q10, s1, s2⟩ := x2 k hk
    have go : ∀ i, i < 400 → (fun i => g (348 + 900 * m + 2 * i)) i = (fun i => f (348 + 900 * m + 2 * i)) i ∧ (fun i => g (348 + 900 * m + 2 * i + 1)) i = (fun i => f (348 + 900 * m + 2 * i + 1)) i := fun i hi => ⟨e _ (by omega), e _ (by omega)⟩
    refine ⟨p3, p4, p5, p6, ?_, ?_, ?_, ?_, q7, q8, q9, q10, s1.cong q7 go, s2.cong q8 go⟩
    · rw [e _ (by omega)]; exact q3
    · rw [e _ (by omega)]; exact q4
    · rw [e _ (by omega)]; exact q5
    · rw [e _ (by omega)]; exact q6
/-- what is kept can be gone back to -/
def IM (kept images : Nat → Int32) : Prop := ∀ k : Nat, k < 2 → ¬ kept k = 0 → RLW (fun j => images (5650 * k + j))
theorem sl_im23 {a : Int32} {row im0 : Nat → Int32} {k : Nat} (ha : a.toInt = (k : Int)) (hk : k < 2) {Qb : Int32 → (Nat → Int32) → Prop} (K : ∀ (x : Int32) (im : Nat → Int32), (∀ j, j < 5650 → im (5650 * k + j) = row j) → (∀ j, (j < 5650 * k ∨ 5650 * k + 5650 ≤ j) → im j = im0 j) → Qb x im) : ∀ (m i : Nat) (x : Int32) (im : Nat → Int32), x.toInt = (i : Int) → i ≤ 5650 → 5650 - i < m → (∀ j, j < i → im (5650 * k + j) = row j) → (∀ j, (j < 5650 * k ∨ 5650 * k + 5650 ≤ j) → im j = im0 j) → wl_X12_image_23 a row Qb m x im := by
  intro m
  induction m with
  | zero => intro i x im _ _ h; omega
  | succ m ih =>
    intro i x im hx hi hm h1 h2
    unfold wl_X12_image_23
    by_cases d : 5650 ≤ x
    · have d₉ := le_z (x := 5650) rfl rfl d
      exact br1 d (K _ _ (fun j hj => h1 j (by omega)) h2)
    · have d₉ := nle_z (x := 5650) rfl rfl d
      have e := addN (mulN (a := 5650) (x := 5650) rfl ha (by omega)) hx (by omega)
      refine br0 d ⟨vpi hx (by omega) (by omega), vpi e (by omega) (by omega), ?_⟩
      rw [tnN hx, tnN e]
      refine ih (i + 1) _ _ (add1 hx (by omega)) (by omega) (by omega) (fun j hj => ?_) (fun j hj => ?_)
      · by_cases q : j = i
        · rw [q, pk_us]
        · rw [pk_un (by omega)]; exact h1 j (by omega)
      · rw [pk_un (by omega)]; exact h2 j hj
theorem sl_ba39 {a : Int32} {im : Nat → Int32} {k : Nat} (ha : a.toInt = (k : Int)) (hk : k < 2) {Qb : Int32 → (Nat → Int32) → Prop} (K : ∀ (x : Int32) (row : Nat → Int32), (∀ j, j < 5650 → row j = im (5650 * k + j)) → Qb x row) : ∀ (m i : Nat) (x : Int32) (row : Nat → Int32), x.toInt = (i : Int) → i ≤ 5650 → 5650 - i < m → (∀ j, j < i → row j = im (5650 * k + j)) → wl_X12_back_39 a im Qb m x row := by
  intro m
  induction m with
  | zero => intro i x row _ _ h; omega
  | succ m ih =>
    intro i x row hx hi hm h1
    unfold wl_X12_back_39
    by_cases d : 5650 ≤ x
    · have d₉ := le_z (x := 5650) rfl rfl d
      exact br1 d (K _ _ (fun j hj => h1 j (by omega)))
    · have d₉ := nle_z (x := 5650) rfl rfl d
      have e := addN (mulN (a := 5650) (x := 5650) rfl ha (by omega)) hx (by omega)
      refine br0 d ⟨vpi e (by omega) (by omega), vpi hx (by omega) (by omega), ?_⟩
      rw [tnN hx, tnN e]
      refine ih (i + 1) _ _ (add1 hx (by omega)) (by omega) (by omega) (fun j hj => ?_)
      by_cases q : j = i
      · rw [q, pk_us]
      · rw [pk_un q]; exact h1 j (by omega)
/-- the answer of image, in both: a number of k alone -/
def imR (a : Int32) : Int32 := if 0 ≤ a.toInt ∧ a.toInt ≤ 1 then 0 else -1
end
section
/-! orders, laws of the reference: whole -/
theorem s_beginText {a taped : Int32} {tape : Nat → Int32} (ha : B01 a) (h0 : 0 ≤ taped.toInt) (h4 : taped.toInt ≤ 400) {Q : (Int32 × Int32 × Int32 × Int64 × Int32 × Int32 × Int32 × Int32 × Int32 × Int32) → Prop} (hq : ∀ (fr to sort : Int32) (worth : Int64), Tk taped fr to sort → Q (fr, to, sort, worth, -1, 0, a, 0, 0, 0)) : wp_X12_beginText a taped tape Q := by
  unfold wp_X12_beginText
  exact ⟨ha, s_begin h0 h4 (fun fr to sort w h => un6_i (hq _ _ _ _ h))⟩
theorem RW.mono {f g : Nat → Int32} (h : RW f) (e : ∀ j, j < 250 → g j = f j) : RW g := by
  intro j q hq k1 k2
  have hj : j < 246 := by
    simp only [RWT, List.mem_cons, List.not_mem_nil, or_false] at hq
    rcases hq with rfl | rfl | rfl | rfl | rfl | rfl | rfl | rfl | rfl | rfl | rfl | rfl | rfl | rfl | rfl | rfl | rfl | rfl | rfl | rfl | rfl | rfl | rfl <;> simp only at k2 <;> omega
  rw [e j (by omega)]
  exact h j q hq k1 k2
theorem s_lawF {taped fr to so : Int32} {wo : Int64} {fa ba od nC nD nL pd opd : Int32} {row tape : Nat → Int32} {heads : Nat → Int64} {f pile nOp nArg pat : Nat → Int32} {words oWords : Nat → Int64} {rfs : Nat → Int32} (hT : 0 ≤ taped.toInt ∧ taped.toInt ≤ 400) (hR : RLW row) (hod : od = 0) {Q : Int32 → (Int32 × Int32 × Int32 × Int32 × Int32 × Int32 × Int64 × Int32 × Int32 × Int32 × Int32 × Int32 × Int32 × Int32 × Int32 × (Nat → Int32) × (Nat → Int32) × (Nat → Int32) × (Nat → Int32) × (Nat → Int32) × (Nat → Int32) × (Nat → Int32)) → Prop} (hq : ∀ (r st tp fr to so : Int32) (wo : Int64) (fa ba od nC nD nL pd opd : Int32) (row f1 f2 f3 f4 f5 rf : Nat → Int32), tp = 0 → od = 0 → RLW row → Q r (0, st, tp, fr, to, so, wo, fa, ba, od, nC, nD, nL, pd, opd, row, f1, f2, f3, f4, f5, rf)) : wp_X12_law taped fr to so wo fa ba od nC nD nL pd opd row tape heads f pile nOp nArg pat words oWords rfs Q := by
  unfold wp_X12_law
  have r5 := RLW.at_5 hR (n := 5) (z := 5) rfl (by omega) (by omega)
  by_cases c : row (5 : Int32).toNatClampNeg = 6
  · exact br1 c (e_tell (by decide) (fun st ff => un2_i (hq _ _ _ _ _ _ _ _ _ _ _ _ _ _ _ _ _ _ _ _ _ _ rfl hod hR)))
  · have c₉ : ¬ (row 5).toInt = 6 := ne_z (y := 6) rfl rfl c
    obtain ⟨M, hM⟩ : ∃ M : Nat, (row 5).toInt = (M : Int) := ⟨(row 5).toInt.toNat, by omega⟩
    have M6 : M < 6 := by omega
    refine br0 c (s_beginText (Or.inl rfl) hT.1 hT.2 (fun fr to sort w hk => un10_i ?_))
    refine s_readLaw ⟨hk, Or.inl rfl, fun _ => ⟨0, 0, rfl, rfl, by omega, hk.1, fun k h => by omega⟩⟩ rfl (fun fr3 to3 sort3 w3 fault3 bad3 nC3 nD3 nL3 pd3 od3 f3 pile3 op3 ar3 pat3 g1 g2 => un16_i ?_)
    refine sl_law37 (fun fr4 to4 sort4 w4 fault4 bad4 nC4 nD4 nL4 pd4 od4 f4 pile4 op4 ar4 pat4 hL => ?_) _ _ _ _ _ _ _ _ _ _ _ _ _ _ _ _ _ g1 (by omega) (fun q => by have := g2 q; have := hk.1; omega)
    obtain ⟨kT, kb, kC⟩ := hL
    refine s_endText kT kb (fun fr5 to5 sort5 w5 fault5 bad5 h1 h2 => un8_i ?_)
    by_cases d : bad5 = 0
    · obtain ⟨c0, n, kc, kn, c12, knf, kO⟩ := kC (h2 d)
      have n4 : n ≤ 400 := by have := kT.2.1; have := kT.2.2.1; have := kT.2.2.2.1; omega
      have hA := atL (row := row) hM M6
      have i1 := addN hA (b := 1) (y := 1) rfl (by omega)
      refine br1 d ⟨vpi i1 (by omega) (by omega), ?_⟩
      rw [tnN i1]
      refine sl_law111 (row := row) hM M6 kc c12 (r0 := upd row (250 + 900 * M + 1) nC4) (fun x r1 h11 => ?_) _ 0 0 _ rfl (by omega) (by omega) ⟨fun j _ => rfl, fun j _ => rfl, fun k h => by omega⟩
      refine sl_law146 (row := row) hM M6 kn n4 (r0 := r1) (fun x r2 h22 => ?_) _ 0 0 _ rfl (by omega) (by omega) ⟨fun j _ => rfl, fun j _ => rfl, fun k h => by omega⟩
      have LW2 := LW.law hR.2 kc c12 n4 M6 kO h11 h22
      have lo : ∀ j, j < 250 → r2 j = row j := fun j hj => by rw [h22.1 j (by omega), h11.1 j (by omega), pk_un (by omega)]
      have R2 : RLW r2 := ⟨RW.mono hR.1 lo, LW2⟩
      have e5 : r2 (5 : Int32).toNatClampNeg = row 5 := lo 5 (by omega)
      have e6 : (r2 (5 : Int32).toNatClampNeg + 1).toInt = (row 5).toInt + 1 := by rw [e5]; exact add_z rfl rfl (by omega) (by omega)
      have e7 : (r2 (5 : Int32).toNatClampNeg + 1 - 1).toInt = (row 5).toInt := by
        have := sub_z e6 (b := 1) (y := 1) rfl (by omega) (by omega)
        omega
      exact e_tell (by omega) (fun st ff => un2_i (hq _ _ _ _ _ _ _ _ _ _ _ _ _ _ _ _ _ _ _ _ _ _ rfl rfl (RLW.up_5 R2 (n := 5) (z := 5) rfl (by omega) (by omega) e6 (by omega) (by omega))))
    · exact br0 d (e_tell (by decide) (fun st ff => un2_i (hq _ _ _ _ _ _ _ _ _ _ _ _ _ _ _ _ _ _ _ _ _ _ rfl rfl hR)))
end
section
/-! plain numbers of the class -/
theorem mx_z {a b : Int32} : a.toInt ≤ (if a < b then b else a).toInt ∧ b.toInt ≤ (if a < b then b else a).toInt ∧ ((if a < b then b else a).toInt = a.toInt ∨ (if a < b then b else a).toInt = b.toInt) := by
  by_cases c : a < b
  · have c₉ := lt_z rfl rfl c
    rw [if_pos c]; exact ⟨by omega, Int.le_refl _, Or.inr rfl⟩
  · have c₉ := nlt_z rfl rfl c
    rw [if_neg c]; exact ⟨Int.le_refl _, by omega, Or.inl rfl⟩
theorem mn_z {a b : Int32} : (if b < a then b else a).toInt ≤ a.toInt ∧ (if b < a then b else a).toInt ≤ b.toInt ∧ ((if b < a then b else a).toInt = a.toInt ∨ (if b < a then b else a).toInt = b.toInt) := by
  by_cases c : b < a
  · have c₉ := lt_z rfl rfl c
    rw [if_pos c]; exact ⟨by omega, Int.le_refl _, Or.inr rfl⟩
  · have c₉ := nlt_z rfl rfl c
    rw [if_neg c]; exact ⟨Int.le_refl _, by omega, Or.inl rfl⟩
theorem ab_z {a : Int32} (h : -2147483648 < a.toInt) : 0 ≤ (if 0 ≤ a then a else 0 - a).toInt ∧ ((if 0 ≤ a then a else 0 - a).toInt = a.toInt ∨ (if 0 ≤ a then a else 0 - a).toInt = - a.toInt) := by
  by_cases c : 0 ≤ a
  · have c₉ := le_z (x := 0) rfl rfl c
    rw [if_pos c]; exact ⟨c₉, Or.inl rfl⟩
  · have c₉ := nle_z (x := 0) rfl rfl c
    have e : (0 - a).toInt = 0 - a.toInt := sub_z rfl rfl (by omega) (by omega)
    rw [if_neg c]; exact ⟨by omega, Or.inr (by omega)⟩
theorem irm_z {a b : Int32} {x y : Int} (ha : a.toInt = x) (hb : b.toInt = y) (h0 : 0 ≤ x) (h1 : 0 < y) : (irm a b).toInt = x % y := rem_z ha hb h0 h1
theorem of_z {n : Nat} (h : n < 100000) : (Int32.ofNat n).toInt = (n : Int) := nI_toInt (by omega)
theorem sl_fl {b : Int64} {np : Nat} (hn : np < 100000) {Qb : Int32 → (Nat → Int64) → Prop} (K : ∀ (x : Int32) (f : Nat → Int64), (∀ j, j < np → f j = b) → Qb x f) : ∀ (m i : Nat) (x : Int32) (f : Nat → Int64), x.toInt = (i : Int) → i ≤ np → np - i < m → (∀ j, j < i → f j = b) → wl_J7_fill_d0a16_6 b np Qb m x f := by
  intro m
  induction m with
  | zero => intro i x f _ _ h; omega
  | succ m ih =>
    intro i x f hx hi hm hf
    unfold wl_J7_fill_d0a16_6
    have e := of_z hn
    by_cases c : Int32.ofNat np ≤ x
    · have c₉ := le_z rfl rfl c
      exact br1 c (K _ _ (fun j hj => hf j (by omega)))
    · have c₉ := nle_z rfl rfl c
      refine br0 c ⟨vpi hx (by omega) (by omega), ?_⟩
      rw [tnN hx]
      refine ih (i + 1) _ _ (add1 hx (by omega)) (by omega) (by omega) (fun j hj => ?_)
      by_cases q : j = i
      · rw [q, pk_uLs]
      · rw [pk_uLn q]; exact hf j (by omega)
theorem s_fillLF {b : Int64} {np : Nat} {f : Nat → Int64} (hn : np < 100000) {Q : (Nat → Int64) → Prop} (hq : ∀ f₉ : Nat → Int64, (∀ j, j < np → f₉ j = b) → Q f₉) : wp_J7_fill_d0a16 b np f Q := by
  unfold wp_J7_fill_d0a16
  exact sl_fl hn (fun x f h => hq f h) _ 0 0 f rfl (by omega) (by omega) (fun j hj => by omega)
theorem shl1_c {a : Int32} (h0 : 0 ≤ a.toInt) (h6 : a.toInt ≤ 5) : 1 ≤ ((1 : Int32) <<< (a &&& 31)).toInt ∧ ((1 : Int32) <<< (a &&& 31)).toInt ≤ 32 := by
  by_cases e0 : a.toInt = 0
  · rw [(z_eq (y := 0) rfl rfl e0 : a = 0)]; decide
  by_cases e1 : a.toInt = 1
  · rw [(z_eq (y := 1) rfl rfl e1 : a = 1)]; decide
  by_cases e2 : a.toInt = 2
  · rw [(z_eq (y := 2) rfl rfl e2 : a = 2)]; decide
  by_cases e3 : a.toInt = 3
  · rw [(z_eq (y := 3) rfl rfl e3 : a = 3)]; decide
  by_cases e4 : a.toInt = 4
  · rw [(z_eq (y := 4) rfl rfl e4 : a = 4)]; decide
  · rw [(z_eq (y := 5) rfl rfl (show a.toInt = 5 by omega) : a = 5)]; decide
theorem sr6_z {a : Int32} : (a >>> ((6 : Int32) &&& 31)).toInt = a.toInt / 64 := by
  have e : (a >>> ((6 : Int32) &&& 31)).toBitVec = a.toBitVec.sshiftRight 6 := by
    show a.toBitVec.sshiftRight (((6 : Int32) &&& 31).toBitVec.smod 32).toNat = _
    rw [show (((6 : Int32) &&& 31).toBitVec.smod 32).toNat = 6 from by decide +kernel]
  have e1 : (a >>> ((6 : Int32) &&& 31)).toInt = (a >>> ((6 : Int32) &&& 31)).toBitVec.toInt := rfl
  have e2 : a.toInt = a.toBitVec.toInt := rfl
  rw [e1, e, BitVec.toInt_sshiftRight, e2, Int.shiftRight_eq_div_pow]
  rfl
theorem or_z {a b : Int32} (ha : 0 ≤ a.toInt) (ha₉ : a.toInt ≤ 65535) (hb : 0 ≤ b.toInt) (hb₉ : b.toInt ≤ 65535) : 0 ≤ (a ||| b).toInt ∧ (a ||| b).toInt ≤ 65535 := by
  have h1 := nn_i a ha
  have h2 := nn_i b hb
  have h3 : (a ||| b).toBitVec.toNat < 2 ^ 16 := by
    rw [Int32.toBitVec_or, BitVec.toNat_or]
    exact Nat.or_lt_two_pow (by omega) (by omega)
  have e : (a ||| b).toInt = (a ||| b).toBitVec.toInt := rfl
  rw [e, BitVec.toInt_eq_toNat_cond]
  split <;> omega
theorem sl6_z {a : Int32} (ha : 0 ≤ a.toInt) (ha₉ : a.toInt ≤ 1023) : (a <<< ((6 : Int32) &&& 31)).toInt = 64 * a.toInt := by
  have h1 := nn_i a ha
  have e : (a <<< ((6 : Int32) &&& 31)).toBitVec = a.toBitVec <<< 6 := by
    show a.toBitVec <<< (((6 : Int32) &&& 31).toBitVec.smod 32).toNat = _
    rw [show (((6 : Int32) &&& 31).toBitVec.smod 32).toNat = 6 from by decide +kernel]
  have h3 : (a.toBitVec <<< 6).toNat = 64 * a.toBitVec.toNat := by
    rw [BitVec.toNat_shiftLeft, Nat.shiftLeft_eq, Nat.mod_eq_of_lt (by omega)]; omega
  have e1 : (a <<< ((6 : Int32) &&& 31)).toInt = (a <<< ((6 : Int32) &&& 31)).toBitVec.toInt := rfl
  rw [e1, e, BitVec.toInt_eq_toNat_cond]
  split <;> omega
/-- a line of the diary -/
def DR (d w b k y : Int) : Prop := 0 ≤ d ∧ d ≤ 3 ∧ (d ≤ 1 → 0 ≤ w ∧ w ≤ 5 ∧ 0 ≤ y ∧ y ≤ 9999) ∧ (d = 0 → 0 ≤ b ∧ b ≤ 39) ∧ (d = 1 → 0 ≤ b ∧ b ≤ 99 ∧ 0 ≤ k ∧ k ≤ 9999) ∧ (d = 3 → 0 ≤ w ∧ w ≤ 4 ∧ 0 ≤ b ∧ b ≤ 7)
def DI (d w b k y : Nat → Int32) : Prop := ∀ i, i < 16 → DR (d i).toInt (w i).toInt (b i).toInt (k i).toInt (y i).toInt
theorem DI.up {d w b k y : Nat → Int32} (h : DI d w b k y) {n : Nat} {vd vw vb vk vy : Int32} (hv : DR vd.toInt vw.toInt vb.toInt vk.toInt vy.toInt) : DI (upd d n vd) (upd w n vw) (upd b n vb) (upd k n vk) (upd y n vy) := by
  intro i hi
  by_cases e : i = n
  · rw [e, pk_us, pk_us, pk_us, pk_us, pk_us]; exact hv
  · rw [pk_un e, pk_un e, pk_un e, pk_un e, pk_un e]; exact h i hi
theorem DI.at {d w b k y : Nat → Int32} (h : DI d w b k y) {n : Nat} {z : Int} (hn : (n : Int) = z) (h1 : 0 ≤ z) (h2 : z < 16) : 0 ≤ (d n).toInt ∧ (d n).toInt ≤ 3 ∧ ((d n).toInt ≤ 1 → 0 ≤ (w n).toInt ∧ (w n).toInt ≤ 5 ∧ 0 ≤ (y n).toInt ∧ (y n).toInt ≤ 9999) ∧ ((d n).toInt = 0 → 0 ≤ (b n).toInt ∧ (b n).toInt ≤ 39) ∧ ((d n).toInt = 1 → 0 ≤ (b n).toInt ∧ (b n).toInt ≤ 99 ∧ 0 ≤ (k n).toInt ∧ (k n).toInt ≤ 9999) ∧ ((d n).toInt = 3 → 0 ≤ (w n).toInt ∧ (w n).toInt ≤ 4 ∧ 0 ≤ (b n).toInt ∧ (b n).toInt ≤ 7) := h n (by omega)
theorem DI.cp {d w b k y d₉ w₉ b₉ k₉ y₉ : Nat → Int32} (h : DI d w b k y) : DI (va_cpy d d₉ 0 0 16) (va_cpy w w₉ 0 0 16) (va_cpy b b₉ 0 0 16) (va_cpy k k₉ 0 0 16) (va_cpy y y₉ 0 0 16) := by
  intro i hi
  rw [sb_cpy0 hi, sb_cpy0 hi, sb_cpy0 hi, sb_cpy0 hi, sb_cpy0 hi]; exact h i hi
end
section
def KIT : List (Nat × Nat × Int × Int) := [(0, 40, 0, 3)]
/-- a value that may stand at a place -/
def KIv (j : Nat) (v : Int32) : Prop := ∀ q ∈ KIT, q.1 ≤ j → j < q.2.1 → q.2.2.1 ≤ v.toInt ∧ v.toInt ≤ q.2.2.2
def KI (f : Nat → Int32) : Prop := ∀ j : Nat, KIv j (f j)
theorem KI.up {f : Nat → Int32} (h : KI f) {n : Nat} {v : Int32} (hv : KIv n v) : KI (upd f n v) := by
  intro i
  unfold upd
  by_cases e : i = n
  · rw [if_pos e, e]; exact hv
  · rw [if_neg e]; exact h i
theorem KI.at_0 {f : Nat → Int32} (h : KI f) {n : Nat} {z : Int} (hn : (n : Int) = z) (h1 : 0 ≤ z) (h2 : z < 40) : 0 ≤ (f n).toInt ∧ (f n).toInt ≤ 3 := h n (0, 40, 0, 3) (by decide) (by show 0 ≤ n; omega) (by show n < 40; omega)
theorem KI.up_0 {f : Nat → Int32} (h : KI f) {n : Nat} {z : Int} (hn : (n : Int) = z) (h1 : 0 ≤ z) (h2 : z < 40) {v : Int32} {w : Int} (hv : v.toInt = w) (h3 : 0 ≤ w) (h4 : w ≤ 3) : KI (upd f n v) := by
  refine h.up (fun q hq k1 k2 => ?_)
  simp only [KIT, List.mem_cons, List.not_mem_nil, or_false] at hq
  rcases hq with rfl <;> simp only at k1 k2 ⊢ <;> omega
def HAT : List (Nat × Nat × Int × Int) := [(0, 40, 1, 9)]
/-- a value that may stand at a place -/
def HAv (j : Nat) (v : Int32) : Prop := ∀ q ∈ HAT, q.1 ≤ j → j < q.2.1 → q.2.2.1 ≤ v.toInt ∧ v.toInt ≤ q.2.2.2
def HA (f : Nat → Int32) : Prop := ∀ j : Nat, HAv j (f j)
theorem HA.up {f : Nat → Int32} (h : HA f) {n : Nat} {v : Int32} (hv : HAv n v) : HA (upd f n v) := by
  intro i
  unfold upd
  by_cases e : i = n
  · rw [if_pos e, e]; exact hv
  · rw [if_neg e]; exact h i
theorem HA.at_0 {f : Nat → Int32} (h : HA f) {n : Nat} {z : Int} (hn : (n : Int) = z) (h1 : 0 ≤ z) (h2 : z < 40) : 1 ≤ (f n).toInt ∧ (f n).toInt ≤ 9 := h n (0, 40, 1, 9) (by decide) (by show 0 ≤ n; omega) (by show n < 40; omega)
theorem HA.up_0 {f : Nat → Int32} (h : HA f) {n : Nat} {z : Int} (hn : (n : Int) = z) (h1 : 0 ≤ z) (h2 : z < 40) {v : Int32} {w : Int} (hv : v.toInt = w) (h3 : 1 ≤ w) (h4 : w ≤ 9) : HA (upd f n v) := by
  refine h.up (fun q hq k1 k2 => ?_)
  simp only [HAT, List.mem_cons, List.not_mem_nil, or_false] at hq
  rcases hq with rfl <;> simp only at k1 k2 ⊢ <;> omega
def WAT : List (Nat × Nat × Int × Int) := [(0, 40, 0, 99)]
/-- a value that may stand at a place -/
def WAv (j : Nat) (v : Int32) : Prop := ∀ q ∈ WAT, q.1 ≤ j → j < q.2.1 → q.2.2.1 ≤ v.toInt ∧ v.toInt ≤ q.2.2.2
def WA (f : Nat → Int32) : Prop := ∀ j : Nat, WAv j (f j)
theorem WA.up {f : Nat → Int32} (h : WA f) {n : Nat} {v : Int32} (hv : WAv n v) : WA (upd f n v) := by
  intro i
  unfold upd
  by_cases e : i = n
  · rw [if_pos e, e]; exact hv
  · rw [if_neg e]; exact h i
theorem WA.at_0 {f : Nat → Int32} (h : WA f) {n : Nat} {z : Int} (hn : (n : Int) = z) (h1 : 0 ≤ z) (h2 : z < 40) : 0 ≤ (f n).toInt ∧ (f n).toInt ≤ 99 := h n (0, 40, 0, 99) (by decide) (by show 0 ≤ n; omega) (by show n < 40; omega)
theorem WA.up_0 {f : Nat → Int32} (h : WA f) {n : Nat} {z : Int} (hn : (n : Int) = z) (h1 : 0 ≤ z) (h2 : z < 40) {v : Int32} {w : Int} (hv : v.toInt = w) (h3 : 0 ≤ w) (h4 : w ≤ 99) : WA (upd f n v) := by
  refine h.up (fun q hq k1 k2 => ?_)
  simp only [WAT, List.mem_cons, List.not_mem_nil, or_false] at hq
  rcases hq with rfl <;> simp only at k1 k2 ⊢ <;> omega
def CET : List (Nat × Nat × Int × Int) := [(0, 6, 0, 39)]
/-- a value that may stand at a place -/
def CEv (j : Nat) (v : Int32) : Prop := ∀ q ∈ CET, q.1 ≤ j → j < q.2.1 → q.2.2.1 ≤ v.toInt ∧ v.toInt ≤ q.2.2.2
def CE (f : Nat → Int32) : Prop := ∀ j : Nat, CEv j (f j)
theorem CE.up {f : Nat → Int32} (h : CE f) {n : Nat} {v : Int32} (hv : CEv n v) : CE (upd f n v) := by
  intro i
  unfold upd
  by_cases e : i = n
  · rw [if_pos e, e]; exact hv
  · rw [if_neg e]; exact h i
theorem CE.at_0 {f : Nat → Int32} (h : CE f) {n : Nat} {z : Int} (hn : (n : Int) = z) (h1 : 0 ≤ z) (h2 : z < 6) : 0 ≤ (f n).toInt ∧ (f n).toInt ≤ 39 := h n (0, 6, 0, 39) (by decide) (by show 0 ≤ n; omega) (by show n < 6; omega)
theorem CE.up_0 {f : Nat → Int32} (h : CE f) {n : Nat} {z : Int} (hn : (n : Int) = z) (h1 : 0 ≤ z) (h2 : z < 6) {v : Int32} {w : Int} (hv : v.toInt = w) (h3 : 0 ≤ w) (h4 : w ≤ 39) : CE (upd f n v) := by
  refine h.up (fun q hq k1 k2 => ?_)
  simp only [CET, List.mem_cons, List.not_mem_nil, or_false] at hq
  rcases hq with rfl <;> simp only at k1 k2 ⊢ <;> omega
def BUT : List (Nat × Nat × Int × Int) := [(0, 6, 0, 9999)]
/-- a value that may stand at a place -/
def BUv (j : Nat) (v : Int32) : Prop := ∀ q ∈ BUT, q.1 ≤ j → j < q.2.1 → q.2.2.1 ≤ v.toInt ∧ v.toInt ≤ q.2.2.2
def BU (f : Nat → Int32) : Prop := ∀ j : Nat, BUv j (f j)
theorem BU.up {f : Nat → Int32} (h : BU f) {n : Nat} {v : Int32} (hv : BUv n v) : BU (upd f n v) := by
  intro i
  unfold upd
  by_cases e : i = n
  · rw [if_pos e, e]; exact hv
  · rw [if_neg e]; exact h i
theorem BU.at_0 {f : Nat → Int32} (h : BU f) {n : Nat} {z : Int} (hn : (n : Int) = z) (h1 : 0 ≤ z) (h2 : z < 6) : 0 ≤ (f n).toInt ∧ (f n).toInt ≤ 9999 := h n (0, 6, 0, 9999) (by decide) (by show 0 ≤ n; omega) (by show n < 6; omega)
theorem BU.up_0 {f : Nat → Int32} (h : BU f) {n : Nat} {z : Int} (hn : (n : Int) = z) (h1 : 0 ≤ z) (h2 : z < 6) {v : Int32} {w : Int} (hv : v.toInt = w) (h3 : 0 ≤ w) (h4 : w ≤ 9999) : BU (upd f n v) := by
  refine h.up (fun q hq k1 k2 => ?_)
  simp only [BUT, List.mem_cons, List.not_mem_nil, or_false] at hq
  rcases hq with rfl <;> simp only at k1 k2 ⊢ <;> omega
def COT : List (Nat × Nat × Int × Int) := [(0, 5, 0, 7)]
/-- a value that may stand at a place -/
def COv (j : Nat) (v : Int32) : Prop := ∀ q ∈ COT, q.1 ≤ j → j < q.2.1 → q.2.2.1 ≤ v.toInt ∧ v.toInt ≤ q.2.2.2
def CO (f : Nat → Int32) : Prop := ∀ j : Nat, COv j (f j)
theorem CO.up {f : Nat → Int32} (h : CO f) {n : Nat} {v : Int32} (hv : COv n v) : CO (upd f n v) := by
  intro i
  unfold upd
  by_cases e : i = n
  · rw [if_pos e, e]; exact hv
  · rw [if_neg e]; exact h i
theorem CO.at_0 {f : Nat → Int32} (h : CO f) {n : Nat} {z : Int} (hn : (n : Int) = z) (h1 : 0 ≤ z) (h2 : z < 5) : 0 ≤ (f n).toInt ∧ (f n).toInt ≤ 7 := h n (0, 5, 0, 7) (by decide) (by show 0 ≤ n; omega) (by show n < 5; omega)
theorem CO.up_0 {f : Nat → Int32} (h : CO f) {n : Nat} {z : Int} (hn : (n : Int) = z) (h1 : 0 ≤ z) (h2 : z < 5) {v : Int32} {w : Int} (hv : v.toInt = w) (h3 : 0 ≤ w) (h4 : w ≤ 7) : CO (upd f n v) := by
  refine h.up (fun q hq k1 k2 => ?_)
  simp only [COT, List.mem_cons, List.not_mem_nil, or_false] at hq
  rcases hq with rfl <;> simp only at k1 k2 ⊢ <;> omega
def EAT : List (Nat × Nat × Int × Int) := [(0, 5, 0, 20)]
/-- a value that may stand at a place -/
def EAv (j : Nat) (v : Int32) : Prop := ∀ q ∈ EAT, q.1 ≤ j → j < q.2.1 → q.2.2.1 ≤ v.toInt ∧ v.toInt ≤ q.2.2.2
def EA (f : Nat → Int32) : Prop := ∀ j : Nat, EAv j (f j)
theorem EA.up {f : Nat → Int32} (h : EA f) {n : Nat} {v : Int32} (hv : EAv n v) : EA (upd f n v) := by
  intro i
  unfold upd
  by_cases e : i = n
  · rw [if_pos e, e]; exact hv
  · rw [if_neg e]; exact h i
theorem EA.at_0 {f : Nat → Int32} (h : EA f) {n : Nat} {z : Int} (hn : (n : Int) = z) (h1 : 0 ≤ z) (h2 : z < 5) : 0 ≤ (f n).toInt ∧ (f n).toInt ≤ 20 := h n (0, 5, 0, 20) (by decide) (by show 0 ≤ n; omega) (by show n < 5; omega)
theorem EA.up_0 {f : Nat → Int32} (h : EA f) {n : Nat} {z : Int} (hn : (n : Int) = z) (h1 : 0 ≤ z) (h2 : z < 5) {v : Int32} {w : Int} (hv : v.toInt = w) (h3 : 0 ≤ w) (h4 : w ≤ 20) : EA (upd f n v) := by
  refine h.up (fun q hq k1 k2 => ?_)
  simp only [EAT, List.mem_cons, List.not_mem_nil, or_false] at hq
  rcases hq with rfl <;> simp only at k1 k2 ⊢ <;> omega
def NCT : List (Nat × Nat × Int × Int) := [(0, 6, 0, 7)]
/-- a value that may stand at a place -/
def NCv (j : Nat) (v : Int32) : Prop := ∀ q ∈ NCT, q.1 ≤ j → j < q.2.1 → q.2.2.1 ≤ v.toInt ∧ v.toInt ≤ q.2.2.2
def NC (f : Nat → Int32) : Prop := ∀ j : Nat, NCv j (f j)
theorem NC.up {f : Nat → Int32} (h : NC f) {n : Nat} {v : Int32} (hv : NCv n v) : NC (upd f n v) := by
  intro i
  unfold upd
  by_cases e : i = n
  · rw [if_pos e, e]; exact hv
  · rw [if_neg e]; exact h i
theorem NC.at_0 {f : Nat → Int32} (h : NC f) {n : Nat} {z : Int} (hn : (n : Int) = z) (h1 : 0 ≤ z) (h2 : z < 6) : 0 ≤ (f n).toInt ∧ (f n).toInt ≤ 7 := h n (0, 6, 0, 7) (by decide) (by show 0 ≤ n; omega) (by show n < 6; omega)
theorem NC.up_0 {f : Nat → Int32} (h : NC f) {n : Nat} {z : Int} (hn : (n : Int) = z) (h1 : 0 ≤ z) (h2 : z < 6) {v : Int32} {w : Int} (hv : v.toInt = w) (h3 : 0 ≤ w) (h4 : w ≤ 7) : NC (upd f n v) := by
  refine h.up (fun q hq k1 k2 => ?_)
  simp only [NCT, List.mem_cons, List.not_mem_nil, or_false] at hq
  rcases hq with rfl <;> simp only at k1 k2 ⊢ <;> omega
def NLT : List (Nat × Nat × Int × Int) := [(0, 6, 0, 20)]
/-- a value that may stand at a place -/
def NLv (j : Nat) (v : Int32) : Prop := ∀ q ∈ NLT, q.1 ≤ j → j < q.2.1 → q.2.2.1 ≤ v.toInt ∧ v.toInt ≤ q.2.2.2
def NL (f : Nat → Int32) : Prop := ∀ j : Nat, NLv j (f j)
theorem NL.up {f : Nat → Int32} (h : NL f) {n : Nat} {v : Int32} (hv : NLv n v) : NL (upd f n v) := by
  intro i
  unfold upd
  by_cases e : i = n
  · rw [if_pos e, e]; exact hv
  · rw [if_neg e]; exact h i
theorem NL.at_0 {f : Nat → Int32} (h : NL f) {n : Nat} {z : Int} (hn : (n : Int) = z) (h1 : 0 ≤ z) (h2 : z < 6) : 0 ≤ (f n).toInt ∧ (f n).toInt ≤ 20 := h n (0, 6, 0, 20) (by decide) (by show 0 ≤ n; omega) (by show n < 6; omega)
theorem NL.up_0 {f : Nat → Int32} (h : NL f) {n : Nat} {z : Int} (hn : (n : Int) = z) (h1 : 0 ≤ z) (h2 : z < 6) {v : Int32} {w : Int} (hv : v.toInt = w) (h3 : 0 ≤ w) (h4 : w ≤ 20) : NL (upd f n v) := by
  refine h.up (fun q hq k1 k2 => ?_)
  simp only [NLT, List.mem_cons, List.not_mem_nil, or_false] at hq
  rcases hq with rfl <;> simp only at k1 k2 ⊢ <;> omega
def HCT : List (Nat × Nat × Int × Int) := [(0, 8, 0, 7)]
/-- a value that may stand at a place -/
def HCv (j : Nat) (v : Int32) : Prop := ∀ q ∈ HCT, q.1 ≤ j → j < q.2.1 → q.2.2.1 ≤ v.toInt ∧ v.toInt ≤ q.2.2.2
def HC (f : Nat → Int32) : Prop := ∀ j : Nat, HCv j (f j)
theorem HC.up {f : Nat → Int32} (h : HC f) {n : Nat} {v : Int32} (hv : HCv n v) : HC (upd f n v) := by
  intro i
  unfold upd
  by_cases e : i = n
  · rw [if_pos e, e]; exact hv
  · rw [if_neg e]; exact h i
theorem HC.at_0 {f : Nat → Int32} (h : HC f) {n : Nat} {z : Int} (hn : (n : Int) = z) (h1 : 0 ≤ z) (h2 : z < 8) : 0 ≤ (f n).toInt ∧ (f n).toInt ≤ 7 := h n (0, 8, 0, 7) (by decide) (by show 0 ≤ n; omega) (by show n < 8; omega)
theorem HC.up_0 {f : Nat → Int32} (h : HC f) {n : Nat} {z : Int} (hn : (n : Int) = z) (h1 : 0 ≤ z) (h2 : z < 8) {v : Int32} {w : Int} (hv : v.toInt = w) (h3 : 0 ≤ w) (h4 : w ≤ 7) : HC (upd f n v) := by
  refine h.up (fun q hq k1 k2 => ?_)
  simp only [HCT, List.mem_cons, List.not_mem_nil, or_false] at hq
  rcases hq with rfl <;> simp only at k1 k2 ⊢ <;> omega
def HLT : List (Nat × Nat × Int × Int) := [(0, 8, 0, 99)]
/-- a value that may stand at a place -/
def HLv (j : Nat) (v : Int32) : Prop := ∀ q ∈ HLT, q.1 ≤ j → j < q.2.1 → q.2.2.1 ≤ v.toInt ∧ v.toInt ≤ q.2.2.2
def HL (f : Nat → Int32) : Prop := ∀ j : Nat, HLv j (f j)
theorem HL.up {f : Nat → Int32} (h : HL f) {n : Nat} {v : Int32} (hv : HLv n v) : HL (upd f n v) := by
  intro i
  unfold upd
  by_cases e : i = n
  · rw [if_pos e, e]; exact hv
  · rw [if_neg e]; exact h i
theorem HL.at_0 {f : Nat → Int32} (h : HL f) {n : Nat} {z : Int} (hn : (n : Int) = z) (h1 : 0 ≤ z) (h2 : z < 8) : 0 ≤ (f n).toInt ∧ (f n).toInt ≤ 99 := h n (0, 8, 0, 99) (by decide) (by show 0 ≤ n; omega) (by show n < 8; omega)
theorem HL.up_0 {f : Nat → Int32} (h : HL f) {n : Nat} {z : Int} (hn : (n : Int) = z) (h1 : 0 ≤ z) (h2 : z < 8) {v : Int32} {w : Int} (hv : v.toInt = w) (h3 : 0 ≤ w) (h4 : w ≤ 99) : HL (upd f n v) := by
  refine h.up (fun q hq k1 k2 => ?_)
  simp only [HLT, List.mem_cons, List.not_mem_nil, or_false] at hq
  rcases hq with rfl <;> simp only at k1 k2 ⊢ <;> omega
def BYT : List (Nat × Nat × Int × Int) := [(0, 400, 0, 255)]
/-- a value that may stand at a place -/
def BYv (j : Nat) (v : Int32) : Prop := ∀ q ∈ BYT, q.1 ≤ j → j < q.2.1 → q.2.2.1 ≤ v.toInt ∧ v.toInt ≤ q.2.2.2
def BY (f : Nat → Int32) : Prop := ∀ j : Nat, BYv j (f j)
theorem BY.up {f : Nat → Int32} (h : BY f) {n : Nat} {v : Int32} (hv : BYv n v) : BY (upd f n v) := by
  intro i
  unfold upd
  by_cases e : i = n
  · rw [if_pos e, e]; exact hv
  · rw [if_neg e]; exact h i
theorem BY.at_0 {f : Nat → Int32} (h : BY f) {n : Nat} {z : Int} (hn : (n : Int) = z) (h1 : 0 ≤ z) (h2 : z < 400) : 0 ≤ (f n).toInt ∧ (f n).toInt ≤ 255 := h n (0, 400, 0, 255) (by decide) (by show 0 ≤ n; omega) (by show n < 400; omega)
theorem BY.up_0 {f : Nat → Int32} (h : BY f) {n : Nat} {z : Int} (hn : (n : Int) = z) (h1 : 0 ≤ z) (h2 : z < 400) {v : Int32} {w : Int} (hv : v.toInt = w) (h3 : 0 ≤ w) (h4 : w ≤ 255) : BY (upd f n v) := by
  refine h.up (fun q hq k1 k2 => ?_)
  simp only [BYT, List.mem_cons, List.not_mem_nil, or_false] at hq
  rcases hq with rfl <;> simp only at k1 k2 ⊢ <;> omega
def CST : List (Nat × Nat × Int × Int) := [(0, 40, 0, 99)]
/-- a value that may stand at a place -/
def CSv (j : Nat) (v : Int32) : Prop := ∀ q ∈ CST, q.1 ≤ j → j < q.2.1 → q.2.2.1 ≤ v.toInt ∧ v.toInt ≤ q.2.2.2
def CS (f : Nat → Int32) : Prop := ∀ j : Nat, CSv j (f j)
theorem CS.up {f : Nat → Int32} (h : CS f) {n : Nat} {v : Int32} (hv : CSv n v) : CS (upd f n v) := by
  intro i
  unfold upd
  by_cases e : i = n
  · rw [if_pos e, e]; exact hv
  · rw [if_neg e]; exact h i
theorem CS.at_0 {f : Nat → Int32} (h : CS f) {n : Nat} {z : Int} (hn : (n : Int) = z) (h1 : 0 ≤ z) (h2 : z < 40) : 0 ≤ (f n).toInt ∧ (f n).toInt ≤ 99 := h n (0, 40, 0, 99) (by decide) (by show 0 ≤ n; omega) (by show n < 40; omega)
theorem CS.up_0 {f : Nat → Int32} (h : CS f) {n : Nat} {z : Int} (hn : (n : Int) = z) (h1 : 0 ≤ z) (h2 : z < 40) {v : Int32} {w : Int} (hv : v.toInt = w) (h3 : 0 ≤ w) (h4 : w ≤ 99) : CS (upd f n v) := by
  refine h.up (fun q hq k1 k2 => ?_)
  simp only [CST, List.mem_cons, List.not_mem_nil, or_false] at hq
  rcases hq with rfl <;> simp only at k1 k2 ⊢ <;> omega
def LET : List (Nat × Nat × Int × Int) := [(0, 40, 0, 2000000)]
/-- a value that may stand at a place -/
def LEv (j : Nat) (v : Int32) : Prop := ∀ q ∈ LET, q.1 ≤ j → j < q.2.1 → q.2.2.1 ≤ v.toInt ∧ v.toInt ≤ q.2.2.2
def LE (f : Nat → Int32) : Prop := ∀ j : Nat, LEv j (f j)
theorem LE.up {f : Nat → Int32} (h : LE f) {n : Nat} {v : Int32} (hv : LEv n v) : LE (upd f n v) := by
  intro i
  unfold upd
  by_cases e : i = n
  · rw [if_pos e, e]; exact hv
  · rw [if_neg e]; exact h i
theorem LE.at_0 {f : Nat → Int32} (h : LE f) {n : Nat} {z : Int} (hn : (n : Int) = z) (h1 : 0 ≤ z) (h2 : z < 40) : 0 ≤ (f n).toInt ∧ (f n).toInt ≤ 2000000 := h n (0, 40, 0, 2000000) (by decide) (by show 0 ≤ n; omega) (by show n < 40; omega)
theorem LE.up_0 {f : Nat → Int32} (h : LE f) {n : Nat} {z : Int} (hn : (n : Int) = z) (h1 : 0 ≤ z) (h2 : z < 40) {v : Int32} {w : Int} (hv : v.toInt = w) (h3 : 0 ≤ w) (h4 : w ≤ 2000000) : LE (upd f n v) := by
  refine h.up (fun q hq k1 k2 => ?_)
  simp only [LET, List.mem_cons, List.not_mem_nil, or_false] at hq
  rcases hq with rfl <;> simp only at k1 k2 ⊢ <;> omega
def TOT : List (Nat × Nat × Int × Int) := [(0, 6, 0, 39)]
/-- a value that may stand at a place -/
def TOv (j : Nat) (v : Int32) : Prop := ∀ q ∈ TOT, q.1 ≤ j → j < q.2.1 → q.2.2.1 ≤ v.toInt ∧ v.toInt ≤ q.2.2.2
def TO (f : Nat → Int32) : Prop := ∀ j : Nat, TOv j (f j)
theorem TO.up {f : Nat → Int32} (h : TO f) {n : Nat} {v : Int32} (hv : TOv n v) : TO (upd f n v) := by
  intro i
  unfold upd
  by_cases e : i = n
  · rw [if_pos e, e]; exact hv
  · rw [if_neg e]; exact h i
theorem TO.at_0 {f : Nat → Int32} (h : TO f) {n : Nat} {z : Int} (hn : (n : Int) = z) (h1 : 0 ≤ z) (h2 : z < 6) : 0 ≤ (f n).toInt ∧ (f n).toInt ≤ 39 := h n (0, 6, 0, 39) (by decide) (by show 0 ≤ n; omega) (by show n < 6; omega)
theorem TO.up_0 {f : Nat → Int32} (h : TO f) {n : Nat} {z : Int} (hn : (n : Int) = z) (h1 : 0 ≤ z) (h2 : z < 6) {v : Int32} {w : Int} (hv : v.toInt = w) (h3 : 0 ≤ w) (h4 : w ≤ 39) : TO (upd f n v) := by
  refine h.up (fun q hq k1 k2 => ?_)
  simp only [TOT, List.mem_cons, List.not_mem_nil, or_false] at hq
  rcases hq with rfl <;> simp only at k1 k2 ⊢ <;> omega
def PCT : List (Nat × Nat × Int × Int) := [(0, 36, 0, 2000000)]
/-- a value that may stand at a place -/
def PCv (j : Nat) (v : Int32) : Prop := ∀ q ∈ PCT, q.1 ≤ j → j < q.2.1 → q.2.2.1 ≤ v.toInt ∧ v.toInt ≤ q.2.2.2
def PC (f : Nat → Int32) : Prop := ∀ j : Nat, PCv j (f j)
theorem PC.up {f : Nat → Int32} (h : PC f) {n : Nat} {v : Int32} (hv : PCv n v) : PC (upd f n v) := by
  intro i
  unfold upd
  by_cases e : i = n
  · rw [if_pos e, e]; exact hv
  · rw [if_neg e]; exact h i
theorem PC.at_0 {f : Nat → Int32} (h : PC f) {n : Nat} {z : Int} (hn : (n : Int) = z) (h1 : 0 ≤ z) (h2 : z < 36) : 0 ≤ (f n).toInt ∧ (f n).toInt ≤ 2000000 := h n (0, 36, 0, 2000000) (by decide) (by show 0 ≤ n; omega) (by show n < 36; omega)
theorem PC.up_0 {f : Nat → Int32} (h : PC f) {n : Nat} {z : Int} (hn : (n : Int) = z) (h1 : 0 ≤ z) (h2 : z < 36) {v : Int32} {w : Int} (hv : v.toInt = w) (h3 : 0 ≤ w) (h4 : w ≤ 2000000) : PC (upd f n v) := by
  refine h.up (fun q hq k1 k2 => ?_)
  simp only [PCT, List.mem_cons, List.not_mem_nil, or_false] at hq
  rcases hq with rfl <;> simp only at k1 k2 ⊢ <;> omega
def SAT : List (Nat × Nat × Int × Int) := [(0, 40, 0, 99)]
/-- a value that may stand at a place -/
def SAv (j : Nat) (v : Int32) : Prop := ∀ q ∈ SAT, q.1 ≤ j → j < q.2.1 → q.2.2.1 ≤ v.toInt ∧ v.toInt ≤ q.2.2.2
def SA (f : Nat → Int32) : Prop := ∀ j : Nat, SAv j (f j)
theorem SA.up {f : Nat → Int32} (h : SA f) {n : Nat} {v : Int32} (hv : SAv n v) : SA (upd f n v) := by
  intro i
  unfold upd
  by_cases e : i = n
  · rw [if_pos e, e]; exact hv
  · rw [if_neg e]; exact h i
theorem SA.at_0 {f : Nat → Int32} (h : SA f) {n : Nat} {z : Int} (hn : (n : Int) = z) (h1 : 0 ≤ z) (h2 : z < 40) : 0 ≤ (f n).toInt ∧ (f n).toInt ≤ 99 := h n (0, 40, 0, 99) (by decide) (by show 0 ≤ n; omega) (by show n < 40; omega)
theorem SA.up_0 {f : Nat → Int32} (h : SA f) {n : Nat} {z : Int} (hn : (n : Int) = z) (h1 : 0 ≤ z) (h2 : z < 40) {v : Int32} {w : Int} (hv : v.toInt = w) (h3 : 0 ≤ w) (h4 : w ≤ 99) : SA (upd f n v) := by
  refine h.up (fun q hq k1 k2 => ?_)
  simp only [SAT, List.mem_cons, List.not_mem_nil, or_false] at hq
  rcases hq with rfl <;> simp only at k1 k2 ⊢ <;> omega
def LOT : List (Nat × Nat × Int × Int) := [(0, 40, 0, 9)]
/-- a value that may stand at a place -/
def LOv (j : Nat) (v : Int32) : Prop := ∀ q ∈ LOT, q.1 ≤ j → j < q.2.1 → q.2.2.1 ≤ v.toInt ∧ v.toInt ≤ q.2.2.2
def LO (f : Nat → Int32) : Prop := ∀ j : Nat, LOv j (f j)
theorem LO.up {f : Nat → Int32} (h : LO f) {n : Nat} {v : Int32} (hv : LOv n v) : LO (upd f n v) := by
  intro i
  unfold upd
  by_cases e : i = n
  · rw [if_pos e, e]; exact hv
  · rw [if_neg e]; exact h i
theorem LO.at_0 {f : Nat → Int32} (h : LO f) {n : Nat} {z : Int} (hn : (n : Int) = z) (h1 : 0 ≤ z) (h2 : z < 40) : 0 ≤ (f n).toInt ∧ (f n).toInt ≤ 9 := h n (0, 40, 0, 9) (by decide) (by show 0 ≤ n; omega) (by show n < 40; omega)
theorem LO.up_0 {f : Nat → Int32} (h : LO f) {n : Nat} {z : Int} (hn : (n : Int) = z) (h1 : 0 ≤ z) (h2 : z < 40) {v : Int32} {w : Int} (hv : v.toInt = w) (h3 : 0 ≤ w) (h4 : w ≤ 9) : LO (upd f n v) := by
  refine h.up (fun q hq k1 k2 => ?_)
  simp only [LOT, List.mem_cons, List.not_mem_nil, or_false] at hq
  rcases hq with rfl <;> simp only at k1 k2 ⊢ <;> omega
def TET : List (Nat × Nat × Int × Int) := [(0, 3, 0, 9999)]
/-- a value that may stand at a place -/
def TEv (j : Nat) (v : Int32) : Prop := ∀ q ∈ TET, q.1 ≤ j → j < q.2.1 → q.2.2.1 ≤ v.toInt ∧ v.toInt ≤ q.2.2.2
def TE (f : Nat → Int32) : Prop := ∀ j : Nat, TEv j (f j)
theorem TE.up {f : Nat → Int32} (h : TE f) {n : Nat} {v : Int32} (hv : TEv n v) : TE (upd f n v) := by
  intro i
  unfold upd
  by_cases e : i = n
  · rw [if_pos e, e]; exact hv
  · rw [if_neg e]; exact h i
theorem TE.at_0 {f : Nat → Int32} (h : TE f) {n : Nat} {z : Int} (hn : (n : Int) = z) (h1 : 0 ≤ z) (h2 : z < 3) : 0 ≤ (f n).toInt ∧ (f n).toInt ≤ 9999 := h n (0, 3, 0, 9999) (by decide) (by show 0 ≤ n; omega) (by show n < 3; omega)
theorem TE.up_0 {f : Nat → Int32} (h : TE f) {n : Nat} {z : Int} (hn : (n : Int) = z) (h1 : 0 ≤ z) (h2 : z < 3) {v : Int32} {w : Int} (hv : v.toInt = w) (h3 : 0 ≤ w) (h4 : w ≤ 9999) : TE (upd f n v) := by
  refine h.up (fun q hq k1 k2 => ?_)
  simp only [TET, List.mem_cons, List.not_mem_nil, or_false] at hq
  rcases hq with rfl <;> simp only at k1 k2 ⊢ <;> omega
def FWT : List (Nat × Nat × Int × Int) := [(0, 448, 0, 1000000)]
/-- a value that may stand at a place -/
def FWv (j : Nat) (v : Int32) : Prop := ∀ q ∈ FWT, q.1 ≤ j → j < q.2.1 → q.2.2.1 ≤ v.toInt ∧ v.toInt ≤ q.2.2.2
def FW (f : Nat → Int32) : Prop := ∀ j : Nat, FWv j (f j)
theorem FW.up {f : Nat → Int32} (h : FW f) {n : Nat} {v : Int32} (hv : FWv n v) : FW (upd f n v) := by
  intro i
  unfold upd
  by_cases e : i = n
  · rw [if_pos e, e]; exact hv
  · rw [if_neg e]; exact h i
theorem FW.at_0 {f : Nat → Int32} (h : FW f) {n : Nat} {z : Int} (hn : (n : Int) = z) (h1 : 0 ≤ z) (h2 : z < 448) : 0 ≤ (f n).toInt ∧ (f n).toInt ≤ 1000000 := h n (0, 448, 0, 1000000) (by decide) (by show 0 ≤ n; omega) (by show n < 448; omega)
theorem FW.up_0 {f : Nat → Int32} (h : FW f) {n : Nat} {z : Int} (hn : (n : Int) = z) (h1 : 0 ≤ z) (h2 : z < 448) {v : Int32} {w : Int} (hv : v.toInt = w) (h3 : 0 ≤ w) (h4 : w ≤ 1000000) : FW (upd f n v) := by
  refine h.up (fun q hq k1 k2 => ?_)
  simp only [FWT, List.mem_cons, List.not_mem_nil, or_false] at hq
  rcases hq with rfl <;> simp only at k1 k2 ⊢ <;> omega
def CDT : List (Nat × Nat × Int × Int) := [(0, 400, 0, 65535)]
/-- a value that may stand at a place -/
def CDv (j : Nat) (v : Int32) : Prop := ∀ q ∈ CDT, q.1 ≤ j → j < q.2.1 → q.2.2.1 ≤ v.toInt ∧ v.toInt ≤ q.2.2.2
def CD (f : Nat → Int32) : Prop := ∀ j : Nat, CDv j (f j)
theorem CD.up {f : Nat → Int32} (h : CD f) {n : Nat} {v : Int32} (hv : CDv n v) : CD (upd f n v) := by
  intro i
  unfold upd
  by_cases e : i = n
  · rw [if_pos e, e]; exact hv
  · rw [if_neg e]; exact h i
theorem CD.at_0 {f : Nat → Int32} (h : CD f) {n : Nat} {z : Int} (hn : (n : Int) = z) (h1 : 0 ≤ z) (h2 : z < 400) : 0 ≤ (f n).toInt ∧ (f n).toInt ≤ 65535 := h n (0, 400, 0, 65535) (by decide) (by show 0 ≤ n; omega) (by show n < 400; omega)
theorem CD.up_0 {f : Nat → Int32} (h : CD f) {n : Nat} {z : Int} (hn : (n : Int) = z) (h1 : 0 ≤ z) (h2 : z < 400) {v : Int32} {w : Int} (hv : v.toInt = w) (h3 : 0 ≤ w) (h4 : w ≤ 65535) : CD (upd f n v) := by
  refine h.up (fun q hq k1 k2 => ?_)
  simp only [CDT, List.mem_cons, List.not_mem_nil, or_false] at hq
  rcases hq with rfl <;> simp only at k1 k2 ⊢ <;> omega
theorem KI.cp {f g : Nat → Int32} (h : KI f) : KI (va_cpy f g 0 0 40) := fun j q hq k1 k2 => by
  have hq2 := hq
  simp only [KIT, List.mem_cons, List.not_mem_nil, or_false] at hq2
  subst hq2
  rw [sb_cpy0 (show j < 40 from k2)]; exact h j _ hq k1 k2
theorem HA.cp {f g : Nat → Int32} (h : HA f) : HA (va_cpy f g 0 0 40) := fun j q hq k1 k2 => by
  have hq2 := hq
  simp only [HAT, List.mem_cons, List.not_mem_nil, or_false] at hq2
  subst hq2
  rw [sb_cpy0 (show j < 40 from k2)]; exact h j _ hq k1 k2
theorem WA.cp {f g : Nat → Int32} (h : WA f) : WA (va_cpy f g 0 0 40) := fun j q hq k1 k2 => by
  have hq2 := hq
  simp only [WAT, List.mem_cons, List.not_mem_nil, or_false] at hq2
  subst hq2
  rw [sb_cpy0 (show j < 40 from k2)]; exact h j _ hq k1 k2
theorem CE.cp {f g : Nat → Int32} (h : CE f) : CE (va_cpy f g 0 0 6) := fun j q hq k1 k2 => by
  have hq2 := hq
  simp only [CET, List.mem_cons, List.not_mem_nil, or_false] at hq2
  subst hq2
  rw [sb_cpy0 (show j < 6 from k2)]; exact h j _ hq k1 k2
theorem BU.cp {f g : Nat → Int32} (h : BU f) : BU (va_cpy f g 0 0 6) := fun j q hq k1 k2 => by
  have hq2 := hq
  simp only [BUT, List.mem_cons, List.not_mem_nil, or_false] at hq2
  subst hq2
  rw [sb_cpy0 (show j < 6 from k2)]; exact h j _ hq k1 k2
theorem CO.cp {f g : Nat → Int32} (h : CO f) : CO (va_cpy f g 0 0 5) := fun j q hq k1 k2 => by
  have hq2 := hq
  simp only [COT, List.mem_cons, List.not_mem_nil, or_false] at hq2
  subst hq2
  rw [sb_cpy0 (show j < 5 from k2)]; exact h j _ hq k1 k2
theorem EA.cp {f g : Nat → Int32} (h : EA f) : EA (va_cpy f g 0 0 5) := fun j q hq k1 k2 => by
  have hq2 := hq
  simp only [EAT, List.mem_cons, List.not_mem_nil, or_false] at hq2
  subst hq2
  rw [sb_cpy0 (show j < 5 from k2)]; exact h j _ hq k1 k2
theorem NC.cp {f g : Nat → Int32} (h : NC f) : NC (va_cpy f g 0 0 6) := fun j q hq k1 k2 => by
  have hq2 := hq
  simp only [NCT, List.mem_cons, List.not_mem_nil, or_false] at hq2
  subst hq2
  rw [sb_cpy0 (show j < 6 from k2)]; exact h j _ hq k1 k2
theorem NL.cp {f g : Nat → Int32} (h : NL f) : NL (va_cpy f g 0 0 6) := fun j q hq k1 k2 => by
  have hq2 := hq
  simp only [NLT, List.mem_cons, List.not_mem_nil, or_false] at hq2
  subst hq2
  rw [sb_cpy0 (show j < 6 from k2)]; exact h j _ hq k1 k2
theorem HC.cp {f g : Nat → Int32} (h : HC f) : HC (va_cpy f g 0 0 8) := fun j q hq k1 k2 => by
  have hq2 := hq
  simp only [HCT, List.mem_cons, List.not_mem_nil, or_false] at hq2
  subst hq2
  rw [sb_cpy0 (show j < 8 from k2)]; exact h j _ hq k1 k2
theorem HL.cp {f g : Nat → Int32} (h : HL f) : HL (va_cpy f g 0 0 8) := fun j q hq k1 k2 => by
  have hq2 := hq
  simp only [HLT, List.mem_cons, List.not_mem_nil, or_false] at hq2
  subst hq2
  rw [sb_cpy0 (show j < 8 from k2)]; exact h j _ hq k1 k2
theorem BY.cp {f g : Nat → Int32} (h : BY f) : BY (va_cpy f g 0 0 400) := fun j q hq k1 k2 => by
  have hq2 := hq
  simp only [BYT, List.mem_cons, List.not_mem_nil, or_false] at hq2
  subst hq2
  rw [sb_cpy0 (show j < 400 from k2)]; exact h j _ hq k1 k2
theorem CS.cp {f g : Nat → Int32} (h : CS f) : CS (va_cpy f g 0 0 40) := fun j q hq k1 k2 => by
  have hq2 := hq
  simp only [CST, List.mem_cons, List.not_mem_nil, or_false] at hq2
  subst hq2
  rw [sb_cpy0 (show j < 40 from k2)]; exact h j _ hq k1 k2
theorem LE.cp {f g : Nat → Int32} (h : LE f) : LE (va_cpy f g 0 0 40) := fun j q hq k1 k2 => by
  have hq2 := hq
  simp only [LET, List.mem_cons, List.not_mem_nil, or_false] at hq2
  subst hq2
  rw [sb_cpy0 (show j < 40 from k2)]; exact h j _ hq k1 k2
theorem TO.cp {f g : Nat → Int32} (h : TO f) : TO (va_cpy f g 0 0 6) := fun j q hq k1 k2 => by
  have hq2 := hq
  simp only [TOT, List.mem_cons, List.not_mem_nil, or_false] at hq2
  subst hq2
  rw [sb_cpy0 (show j < 6 from k2)]; exact h j _ hq k1 k2
theorem PC.cp {f g : Nat → Int32} (h : PC f) : PC (va_cpy f g 0 0 36) := fun j q hq k1 k2 => by
  have hq2 := hq
  simp only [PCT, List.mem_cons, List.not_mem_nil, or_false] at hq2
  subst hq2
  rw [sb_cpy0 (show j < 36 from k2)]; exact h j _ hq k1 k2
theorem SA.cp {f g : Nat → Int32} (h : SA f) : SA (va_cpy f g 0 0 40) := fun j q hq k1 k2 => by
  have hq2 := hq
  simp only [SAT, List.mem_cons, List.not_mem_nil, or_false] at hq2
  subst hq2
  rw [sb_cpy0 (show j < 40 from k2)]; exact h j _ hq k1 k2
theorem LO.cp {f g : Nat → Int32} (h : LO f) : LO (va_cpy f g 0 0 40) := fun j q hq k1 k2 => by
  have hq2 := hq
  simp only [LOT, List.mem_cons, List.not_mem_nil, or_false] at hq2
  subst hq2
  rw [sb_cpy0 (show j < 40 from k2)]; exact h j _ hq k1 k2
theorem TE.cp {f g : Nat → Int32} (h : TE f) : TE (va_cpy f g 0 0 3) := fun j q hq k1 k2 => by
  have hq2 := hq
  simp only [TET, List.mem_cons, List.not_mem_nil, or_false] at hq2
  subst hq2
  rw [sb_cpy0 (show j < 3 from k2)]; exact h j _ hq k1 k2
theorem FW.cp {f g : Nat → Int32} (h : FW f) : FW (va_cpy f g 0 0 448) := fun j q hq k1 k2 => by
  have hq2 := hq
  simp only [FWT, List.mem_cons, List.not_mem_nil, or_false] at hq2
  subst hq2
  rw [sb_cpy0 (show j < 448 from k2)]; exact h j _ hq k1 k2
theorem CD.cp {f g : Nat → Int32} (h : CD f) : CD (va_cpy f g 0 0 400) := fun j q hq k1 k2 => by
  have hq2 := hq
  simp only [CDT, List.mem_cons, List.not_mem_nil, or_false] at hq2
  subst hq2
  rw [sb_cpy0 (show j < 400 from k2)]; exact h j _ hq k1 k2
theorem o_X0_turnTo_N (Q : Unit → Prop) (h : (Q ())) : wp_X0_turnTo_N Q := h

theorem o_X0_turnTo_T (Q : Unit → Prop) (h : (Q ())) : wp_X0_turnTo_T Q := h

theorem o_X10_hasLaw (a : Int32) (h0_lawCount : Int32) (Q : Int32 → Prop) (h : (if a < (-1) then (Q 0) else (if h0_lawCount ≤ a then (Q 0) else (Q 1)))) : wp_X10_hasLaw a h0_lawCount Q := h

theorem o_X10_lawInForce_N (h0_lawCount : Int32) (h0_force : Int32) (f_h0_laws : Nat → Option Nat) (Q : Prop) (h : (wp_X10_lawOf_N h0_force h0_lawCount (f_h0_laws) Q)) : wp_X10_lawInForce_N h0_lawCount h0_force f_h0_laws Q := h

theorem o_X10_lawInForce_T (h0_lawCount : Int32) (h0_force : Int32) (f_h0_laws : Nat → Option Nat) (t : Nat) (Q : Prop) (h : (wp_X10_lawOf_T h0_force h0_lawCount (f_h0_laws) t Q)) : wp_X10_lawInForce_T h0_lawCount h0_force f_h0_laws t Q := h

theorem o_X10_lawOf_N (a : Int32) (h0_lawCount : Int32) (f_h0_laws : Nat → Option Nat) (Q : Prop) (h : (if a < 0 then Q else (if h0_lawCount ≤ a then Q else (if 6 ≤ a then Q else (vp_in a 6 ∧ ((f_h0_laws a.toNatClampNeg) = none ∧ Q)))))) : wp_X10_lawOf_N a h0_lawCount f_h0_laws Q := h

theorem o_X10_lawOf_T (a : Int32) (h0_lawCount : Int32) (f_h0_laws : Nat → Option Nat) (t : Nat) (Q : Prop) (h : (if a < 0 then (False ∧ True) else (if h0_lawCount ≤ a then (False ∧ True) else (if 6 ≤ a then (False ∧ True) else (vp_in a 6 ∧ ((f_h0_laws a.toNatClampNeg) = some t ∧ Q)))))) : wp_X10_lawOf_T a h0_lawCount f_h0_laws t Q := h

theorem o_X10_termCanBe (a : Int32) (b : Int32) (Q : Int32 → Prop) (h : (if a = 0 then (if b < 0 then (Q 0) else (if 9999 < b then (Q 0) else (Q 1))) else (if a = 1 then (if b < 0 then (Q 0) else (if 10 < b then (Q 0) else (Q 1))) else (if a = 2 then (if b < 0 then (Q 0) else (if 9 < b then (Q 0) else (Q 1))) else (Q 0))))) : wp_X10_termCanBe a b Q := h

theorem o_X11_isWithin (a : Int32) (b : Int32) (Q : Int32 → Prop) (h : (if a < 0 then (Q 0) else (if b ≤ a then (Q 0) else (Q 1)))) : wp_X11_isWithin a b Q := h

theorem o_X2_clear (Q : Int32 → Prop) (h : (Q 0)) : wp_X2_clear Q := h

theorem o_X6_canBe (a : Int32) (b : Int32) (Q : Int32 → Prop) (h : (if a = 0 then (if b < 0 then (Q 0) else (if 3 < b then (Q 0) else (Q 1))) else (if a = 1 then (if b < 1 then (Q 0) else (if 9 < b then (Q 0) else (Q 1))) else (if a = 2 then (if b < 0 then (Q 0) else (if 99 < b then (Q 0) else (Q 1))) else (Q 0))))) : wp_X6_canBe a b Q := h

theorem o_X6_endsAWay (a : Int32) (h0kf : Nat → Int32) (Q : Int32 → Prop) (h : (vp_in a 40 ∧ (if (h0kf a.toNatClampNeg) = 2 then (Q 1) else (vp_in a 40 ∧ (if (h0kf a.toNatClampNeg) = 3 then (Q 1) else (Q 0)))))) : wp_X6_endsAWay a h0kf Q := h

theorem o_X6_mark (a : Int32) (h0_dug : Int64) (Q : Int64 → Prop) (h : (Q (h0_dug ||| ((1 : Int64) <<< (a.toInt64 &&& 63))))) : wp_X6_mark a h0_dug Q := h
end
section
/-- a clause₉s TIMES -/
def HD (f : Nat → Int32) : Prop := ∀ i : Nat, i % 5 = 4 → (f i).toInt ≤ 20
theorem HD.up {f : Nat → Int32} (h : HD f) {n : Nat} {z : Int} {v : Int32} (hn : (n : Int) = z) (hv : ¬ z % 5 = 4 ∨ v.toInt ≤ 20) : HD (upd f n v) := by
  intro i hi
  by_cases e : i = n
  · rw [e, pk_us]; rw [e] at hi; omega
  · rw [pk_un e]; exact h i hi
theorem HD.at {f : Nat → Int32} (h : HD f) {n : Nat} {z : Int} (hn : (n : Int) = z) : ¬ z % 5 = 4 ∨ (f n).toInt ≤ 20 := by
  by_cases e : n % 5 = 4
  · exact Or.inr (h n e)
  · exact Or.inl (by omega)
/-! the word list -/
theorem zby_n : ∀ k, k < 232 → narrow .char (Value.int (((((zby k) &&& 255)).toUInt32 % 65536).toInt32)) = Value.int (((((zby k) &&& 255)).toUInt32 % 65536).toInt32) := by decide +kernel
theorem s_ccharAt {a : Int32} {xe : XE} (hx : isRf xe.2.2) (h0 : 0 ≤ a.toInt) (h1 : a.toInt < 232) {Q : Int32 → Prop} (hq : ∀ r, Q r) : wp_J0_charAt_5068e a xe Q := by
  unfold wp_J0_charAt_5068e wp_J0_isLatin1_aae02
  refine br0 (by decide) ?_
  unfold wp_J1_charAt_3b067 wp_J0_checkIndex_df160 wp_J3_checkIndex_8e157
  refine ⟨hx, ?_⟩
  unfold wp_J3_checkIndex_8e157n
  refine br0 (z_nlt (a := a) (b := 0) (x := a.toInt) (y := 0) rfl rfl h0) ?_
  refine br1 (z_lt (a := a) (b := 232) (x := a.toInt) (y := 232) rfl rfl h1) ?_
  have e := tnz (i := a) (x := a.toInt) rfl h0
  have n := zby_n a.toNatClampNeg (by omega)
  exact ⟨vpi (i := a) (x := a.toInt) rfl h0 (by omega), n, n, hq _⟩
theorem sl_cisWord {w f t : Int32} {fb : Nat → Int32} {xe : XE} (hx : isRf xe.2.2) (w0 : 0 ≤ w.toInt) (w1 : w.toInt ≤ 28) (f0 : 0 ≤ f.toInt) (t1 : t.toInt ≤ 400) (d1 : t.toInt - f.toInt < 8) {Q : Int32 → Prop} (hq : ∀ r, Q r) {Qb : Int32 → Prop} (KX : ∀ x, Qb x) : ∀ (n : Nat) (x : Int32), f.toInt ≤ x.toInt → t.toInt + 1 - x.toInt < (n : Int) → 0 < (n : Int) → wl_X5_isWord_9 w f t fb xe Q Qb n x := by
  intro n
  induction n with
  | zero => intro x _ _ h; exact absurd h (by decide)
  | succ n ih =>
    intro x hx0 hm _
    have hm : t.toInt + 1 - x.toInt < (n : Int) + 1 := by simpa using hm
    unfold wl_X5_isWord_9
    by_cases c : t ≤ x
    · exact br1 c (KX _)
    · refine br0 c ?_
      have c1 := nle_z (a := t) (b := x) (x := t.toInt) (y := x.toInt) rfl rfl c
      have e1 : (8 * w).toInt = 8 * w.toInt := mul_z (a := 8) (b := w) rfl rfl (by omega) (by omega)
      have e2 : (8 * w + x).toInt = 8 * w.toInt + x.toInt := add_z e1 rfl (by omega) (by omega)
      have e3 : (8 * w + x - f).toInt = 8 * w.toInt + x.toInt - f.toInt := sub_z e2 rfl (by omega) (by omega)
      refine s_ccharAt hx (by omega) (by omega) (fun r => ?_)
      refine ⟨vpi (i := x) (x := x.toInt) rfl (by omega) (by omega), ?_⟩
      by_cases c2 : r = fb x.toNatClampNeg
      · refine br1 c2 ?_
        have e4 : (x + 1).toInt = x.toInt + 1 := add_z (a := x) (b := 1) rfl rfl (by omega) (by omega)
        exact ih _ (by omega) (by omega) (by omega)
      · exact br0 c2 (hq _)
theorem s_cisWord {w f t : Int32} {fb : Nat → Int32} {xe : XE} (hx : isRf xe.2.2) (w0 : 0 ≤ w.toInt) (w1 : w.toInt ≤ 28) (f0 : 0 ≤ f.toInt) (ft : f.toInt ≤ t.toInt) (t1 : t.toInt ≤ 400) (d1 : t.toInt - f.toInt < 8) {Q : Int32 → Prop} (hq : ∀ r, Q r) : wp_X5_isWord w f t fb xe Q := by
  unfold wp_X5_isWord
  refine sl_cisWord hx w0 w1 f0 t1 d1 hq (fun x => ?_) _ _ (by omega) (by omega) (by omega)
  have e1 : (8 * w).toInt = 8 * w.toInt := mul_z (a := 8) (b := w) rfl rfl (by omega) (by omega)
  have e2 : (8 * w + t).toInt = 8 * w.toInt + t.toInt := add_z e1 rfl (by omega) (by omega)
  have e3 : (8 * w + t - f).toInt = 8 * w.toInt + t.toInt - f.toInt := sub_z e2 rfl (by omega) (by omega)
  refine s_ccharAt hx (by omega) (by omega) (fun r => ?_)
  by_cases c2 : r = 32
  · exact br1 c2 (hq _)
  · exact br0 c2 (hq _)
theorem sl_cwordIn {f t : Int32} {fb : Nat → Int32} {xe : XE} (hx : isRf xe.2.2) (f0 : 0 ≤ f.toInt) (ft : f.toInt ≤ t.toInt) (t1 : t.toInt ≤ 400) (d1 : t.toInt - f.toInt < 8) {Q : Int32 → Prop} (hq : ∀ r, Q r) {Qb : Int32 → Prop} (KX : ∀ x, Qb x) : ∀ (n : Nat) (x : Int32), 0 ≤ x.toInt → x.toInt ≤ 29 → 30 - x.toInt < (n : Int) → wl_X5_wordIn_13 f t fb xe Q Qb n x := by
  intro n
  induction n with
  | zero => intro x _ _ h; exfalso; have h : 30 - x.toInt < 0 := h; omega
  | succ n ih =>
    intro x h0 h1 hm
    have hm : 30 - x.toInt < (n : Int) + 1 := by simpa using hm
    unfold wl_X5_wordIn_13
    by_cases c : 29 ≤ x
    · exact br1 c (KX _)
    · refine br0 c ?_
      have c1 := nle_z (a := 29) (b := x) (x := 29) (y := x.toInt) rfl rfl c
      refine s_cisWord hx h0 (by omega) f0 ft t1 d1 (fun r => ?_)
      by_cases c2 : r = 0
      · refine br1 c2 ?_
        have e4 : (x + 1).toInt = x.toInt + 1 := add_z (a := x) (b := 1) rfl rfl (by omega) (by omega)
        exact ih _ (by omega) (by omega) (by omega)
      · exact br0 c2 (hq _)
theorem s_X5_wordIn (a : Int32) (b : Int32) (f_h0_bytes : Nat → Int32) (xe : XE) (h_a : 0 ≤ a.toInt ∧ a.toInt ≤ 400) (h_b : 0 ≤ b.toInt ∧ b.toInt ≤ 400) (h_f : BY f_h0_bytes) (e_0 : isRf xe.2.2) (e_1 : a.toInt ≤ b.toInt) {Q : Int32 → Prop} (hq : ∀ (r : Int32), True → Q r) : wp_X5_wordIn a b f_h0_bytes xe Q := by
  unfold wp_X5_wordIn
  by_cases c : (b - a) < 8
  · refine br1 c ?_
    have c1 := lt_z (a := b - a) (b := 8) (x := (b - a).toInt) (y := 8) rfl rfl c
    have e1 : (b - a).toInt = b.toInt - a.toInt := sub_z rfl rfl (by omega) (by omega)
    exact sl_cwordIn e_0 (by omega) e_1 (by omega) (by omega) (fun r => hq r trivial) (fun x => hq _ trivial) _ _ (by decide) (by decide) (by have : Int32.toInt 0 = 0 := rfl; omega)
  · exact br0 c (hq _ trivial)
set_option maxRecDepth 100000 in
theorem s_X5_tokenNow (h0_tokenCount : Int32) (h0_now : Int32) (f_h0_tokens : Nat → Int32) (h_h0_tokenCount : 0 ≤ h0_tokenCount.toInt ∧ h0_tokenCount.toInt ≤ 401) {Q : Int32 → Prop} (hq : ∀ (r : Int32), True → Q r) : wp_X5_tokenNow h0_tokenCount h0_now f_h0_tokens Q := by
  unfold wp_X5_tokenNow
  by_cases c1 : h0_now < 0
  · refine br1 c1 ?_
    have d2 := lt_z (a := h0_now) (b := 0) (x := (Int32.toInt h0_now)) (y := 0) rfl rfl c1
    exact hq _ trivial
  · refine br0 c1 ?_
    have d3 := nlt_z (a := h0_now) (b := 0) (x := (Int32.toInt h0_now)) (y := 0) rfl rfl c1
    by_cases c4 : h0_tokenCount ≤ h0_now
    · refine br1 c4 ?_
      have d5 := le_z (a := h0_tokenCount) (b := h0_now) (x := (Int32.toInt h0_tokenCount)) (y := (Int32.toInt h0_now)) rfl rfl c4
      exact hq _ trivial
    · refine br0 c4 ?_
      have d6 := nle_z (a := h0_tokenCount) (b := h0_now) (x := (Int32.toInt h0_tokenCount)) (y := (Int32.toInt h0_now)) rfl rfl c4
      refine ⟨vpi (x := (Int32.toInt h0_now)) rfl (by omega) (by omega), ?_⟩
      exact hq _ trivial


set_option maxRecDepth 100000 in
theorem s_X5_take (a : Int32) (h0_tokenCount : Int32) (h0_now : Int32) (f_h0_tokens : Nat → Int32) (h_h0_tokenCount : 0 ≤ h0_tokenCount.toInt ∧ h0_tokenCount.toInt ≤ 401) {Q : Int32 → Int32 → Prop} (hq : ∀ (r : Int32) (u : Int32), True → Q r u) : wp_X5_take a h0_tokenCount h0_now f_h0_tokens Q := by
  unfold wp_X5_take
  by_cases c1 : h0_now < 0
  · refine br1 c1 ?_
    have d2 := lt_z (a := h0_now) (b := 0) (x := (Int32.toInt h0_now)) (y := 0) rfl rfl c1
    exact hq _ _ trivial
  · refine br0 c1 ?_
    have d3 := nlt_z (a := h0_now) (b := 0) (x := (Int32.toInt h0_now)) (y := 0) rfl rfl c1
    by_cases c4 : h0_tokenCount ≤ h0_now
    · refine br1 c4 ?_
      have d5 := le_z (a := h0_tokenCount) (b := h0_now) (x := (Int32.toInt h0_tokenCount)) (y := (Int32.toInt h0_now)) rfl rfl c4
      exact hq _ _ trivial
    · refine br0 c4 ?_
      have d6 := nle_z (a := h0_tokenCount) (b := h0_now) (x := (Int32.toInt h0_tokenCount)) (y := (Int32.toInt h0_now)) rfl rfl c4
      refine ⟨vpi (x := (Int32.toInt h0_now)) rfl (by omega) (by omega), ?_⟩
      by_cases c7 : (f_h0_tokens h0_now.toNatClampNeg) = a
      · refine br1 c7 ?_
        have d8 := eq_z (a := (f_h0_tokens h0_now.toNatClampNeg)) (b := a) (x := (Int32.toInt (f_h0_tokens h0_now.toNatClampNeg))) (y := (Int32.toInt a)) rfl rfl c7
        have t9 : (Int32.toInt (h0_now + 1)) = (Int32.toInt h0_now) + 1 := add_z rfl rfl (by omega) (by omega)
        exact hq _ _ trivial
      · refine br0 c7 ?_
        have d10 := ne_z (a := (f_h0_tokens h0_now.toNatClampNeg)) (b := a) (x := (Int32.toInt (f_h0_tokens h0_now.toNatClampNeg))) (y := (Int32.toInt a)) rfl rfl c7
        exact hq _ _ trivial


set_option maxRecDepth 100000 in
theorem s_X5_open (a : Int32) (h0_now : Int32) {Q : Int32 → Int32 → Prop} (hq : ∀ (r : Int32) (u : Int32), (r.toInt = 0 ∨ a.toInt ≤ 7) → Q r u) : wp_X5_open a h0_now Q := by
  unfold wp_X5_open
  by_cases c1 : a < 8
  · refine br1 c1 ?_
    have d2 := lt_z (a := a) (b := 8) (x := (Int32.toInt a)) (y := 8) rfl rfl c1
    have k3 : Int32.toInt 1 = 1 := rfl
    exact hq _ _ (by omega)
  · refine br0 c1 ?_
    have d4 := nlt_z (a := a) (b := 8) (x := (Int32.toInt a)) (y := 8) rfl rfl c1
    have k5 : Int32.toInt 0 = 0 := rfl
    exact hq _ _ (by omega)


set_option maxRecDepth 100000 in
theorem s_X5_isPlainWord (a : Int32) (h0_asOrders : Int32) (h_h0_asOrders : 0 ≤ h0_asOrders.toInt ∧ h0_asOrders.toInt ≤ 1) {Q : Int32 → Prop} (hq : ∀ (r : Int32), (r.toInt = 0 ∨ (9 ≤ a.toInt ∧ a.toInt ≤ 28)) → Q r) : wp_X5_isPlainWord a h0_asOrders Q := by
  unfold wp_X5_isPlainWord
  by_cases c1 : h0_asOrders = 0
  · refine br1 c1 ?_
    have d2 := eq_z (a := h0_asOrders) (b := 0) (x := (Int32.toInt h0_asOrders)) (y := 0) rfl rfl c1
    by_cases c3 : a < 9
    · refine br1 c3 ?_
      have d4 := lt_z (a := a) (b := 9) (x := (Int32.toInt a)) (y := 9) rfl rfl c3
      have k5 : Int32.toInt 0 = 0 := rfl
      exact hq _ (by omega)
    · refine br0 c3 ?_
      have d6 := nlt_z (a := a) (b := 9) (x := (Int32.toInt a)) (y := 9) rfl rfl c3
      by_cases c7 : 17 < a
      · refine br1 c7 ?_
        have d8 := lt_z (a := 17) (b := a) (x := 17) (y := (Int32.toInt a)) rfl rfl c7
        have k9 : Int32.toInt 0 = 0 := rfl
        exact hq _ (by omega)
      · refine br0 c7 ?_
        have d10 := nlt_z (a := 17) (b := a) (x := 17) (y := (Int32.toInt a)) rfl rfl c7
        have k11 : Int32.toInt 1 = 1 := rfl
        exact hq _ (by omega)
  · refine br0 c1 ?_
    have d12 := ne_z (a := h0_asOrders) (b := 0) (x := (Int32.toInt h0_asOrders)) (y := 0) rfl rfl c1
    by_cases c13 : a = 16
    · refine br1 c13 ?_
      have d14 := eq_z (a := a) (b := 16) (x := (Int32.toInt a)) (y := 16) rfl rfl c13
      have k15 : Int32.toInt 1 = 1 := rfl
      exact hq _ (by omega)
    · refine br0 c13 ?_
      have d16 := ne_z (a := a) (b := 16) (x := (Int32.toInt a)) (y := 16) rfl rfl c13
      by_cases c17 : a = 25
      · refine br1 c17 ?_
        have d18 := eq_z (a := a) (b := 25) (x := (Int32.toInt a)) (y := 25) rfl rfl c17
        have k19 : Int32.toInt 1 = 1 := rfl
        exact hq _ (by omega)
      · refine br0 c17 ?_
        have d20 := ne_z (a := a) (b := 25) (x := (Int32.toInt a)) (y := 25) rfl rfl c17
        by_cases c21 : a = 26
        · refine br1 c21 ?_
          have d22 := eq_z (a := a) (b := 26) (x := (Int32.toInt a)) (y := 26) rfl rfl c21
          have k23 : Int32.toInt 1 = 1 := rfl
          exact hq _ (by omega)
        · refine br0 c21 ?_
          have d24 := ne_z (a := a) (b := 26) (x := (Int32.toInt a)) (y := 26) rfl rfl c21
          have k25 : Int32.toInt 0 = 0 := rfl
          exact hq _ (by omega)


set_option maxRecDepth 100000 in
theorem s_X5_choicesBehind (a : Int32) {Q : Int32 → Prop} (hq : ∀ (r : Int32), (0 ≤ r.toInt ∧ r.toInt ≤ 6) ∧ (r.toInt = 0 ∨ (10 ≤ a.toInt ∧ a.toInt ≤ 28)) → Q r) : wp_X5_choicesBehind a Q := by
  unfold wp_X5_choicesBehind
  by_cases c1 : a = 10
  · refine br1 c1 ?_
    have d2 := eq_z (a := a) (b := 10) (x := (Int32.toInt a)) (y := 10) rfl rfl c1
    have k3 : Int32.toInt 5 = 5 := rfl
    exact hq _ ⟨(by decide), (by omega)⟩
  · refine br0 c1 ?_
    have d4 := ne_z (a := a) (b := 10) (x := (Int32.toInt a)) (y := 10) rfl rfl c1
    by_cases c5 : a = 27
    · refine br1 c5 ?_
      have d6 := eq_z (a := a) (b := 27) (x := (Int32.toInt a)) (y := 27) rfl rfl c5
      have k7 : Int32.toInt 6 = 6 := rfl
      exact hq _ ⟨(by decide), (by omega)⟩
    · refine br0 c5 ?_
      have d8 := ne_z (a := a) (b := 27) (x := (Int32.toInt a)) (y := 27) rfl rfl c5
      by_cases c9 : a = 28
      · refine br1 c9 ?_
        have d10 := eq_z (a := a) (b := 28) (x := (Int32.toInt a)) (y := 28) rfl rfl c9
        have k11 : Int32.toInt 6 = 6 := rfl
        exact hq _ ⟨(by decide), (by omega)⟩
      · refine br0 c9 ?_
        have d12 := ne_z (a := a) (b := 28) (x := (Int32.toInt a)) (y := 28) rfl rfl c9
        have k13 : Int32.toInt 0 = 0 := rfl
        exact hq _ ⟨(by decide), (by omega)⟩


set_option maxRecDepth 100000 in
theorem s_X5_comparisonOf (a : Int32) {Q : Int32 → Prop} (hq : ∀ (r : Int32), ((-1) ≤ r.toInt ∧ r.toInt ≤ 9) → Q r) : wp_X5_comparisonOf a Q := by
  unfold wp_X5_comparisonOf
  by_cases c1 : (a - 100) = 60
  · refine br1 c1 ?_
    have d2 := eq_z (a := (a - 100)) (b := 60) (x := (Int32.toInt (a - 100))) (y := 60) rfl rfl c1
    exact hq _ (by decide)
  · refine br0 c1 ?_
    have d3 := ne_z (a := (a - 100)) (b := 60) (x := (Int32.toInt (a - 100))) (y := 60) rfl rfl c1
    by_cases c4 : (a - 100) = 61
    · refine br1 c4 ?_
      have d5 := eq_z (a := (a - 100)) (b := 61) (x := (Int32.toInt (a - 100))) (y := 61) rfl rfl c4
      exact hq _ (by decide)
    · refine br0 c4 ?_
      have d6 := ne_z (a := (a - 100)) (b := 61) (x := (Int32.toInt (a - 100))) (y := 61) rfl rfl c4
      by_cases c7 : (a - 100) = 62
      · refine br1 c7 ?_
        have d8 := eq_z (a := (a - 100)) (b := 62) (x := (Int32.toInt (a - 100))) (y := 62) rfl rfl c7
        exact hq _ (by decide)
      · refine br0 c7 ?_
        have d9 := ne_z (a := (a - 100)) (b := 62) (x := (Int32.toInt (a - 100))) (y := 62) rfl rfl c7
        exact hq _ (by decide)


set_option maxRecDepth 100000 in
theorem s_X5_addingOf (a : Int32) {Q : Int32 → Prop} (hq : ∀ (r : Int32), ((-1) ≤ r.toInt ∧ r.toInt ≤ 3) → Q r) : wp_X5_addingOf a Q := by
  unfold wp_X5_addingOf
  by_cases c1 : (a - 100) = 43
  · refine br1 c1 ?_
    have d2 := eq_z (a := (a - 100)) (b := 43) (x := (Int32.toInt (a - 100))) (y := 43) rfl rfl c1
    exact hq _ (by decide)
  · refine br0 c1 ?_
    have d3 := ne_z (a := (a - 100)) (b := 43) (x := (Int32.toInt (a - 100))) (y := 43) rfl rfl c1
    by_cases c4 : (a - 100) = 45
    · refine br1 c4 ?_
      have d5 := eq_z (a := (a - 100)) (b := 45) (x := (Int32.toInt (a - 100))) (y := 45) rfl rfl c4
      exact hq _ (by decide)
    · refine br0 c4 ?_
      have d6 := ne_z (a := (a - 100)) (b := 45) (x := (Int32.toInt (a - 100))) (y := 45) rfl rfl c4
      exact hq _ (by decide)


set_option maxRecDepth 100000 in
theorem s_X5_timingOf (a : Int32) {Q : Int32 → Prop} (hq : ∀ (r : Int32), ((-1) ≤ r.toInt ∧ r.toInt ≤ 6) → Q r) : wp_X5_timingOf a Q := by
  unfold wp_X5_timingOf
  by_cases c1 : (a - 100) = 37
  · refine br1 c1 ?_
    have d2 := eq_z (a := (a - 100)) (b := 37) (x := (Int32.toInt (a - 100))) (y := 37) rfl rfl c1
    exact hq _ (by decide)
  · refine br0 c1 ?_
    have d3 := ne_z (a := (a - 100)) (b := 37) (x := (Int32.toInt (a - 100))) (y := 37) rfl rfl c1
    by_cases c4 : (a - 100) = 42
    · refine br1 c4 ?_
      have d5 := eq_z (a := (a - 100)) (b := 42) (x := (Int32.toInt (a - 100))) (y := 42) rfl rfl c4
      exact hq _ (by decide)
    · refine br0 c4 ?_
      have d6 := ne_z (a := (a - 100)) (b := 42) (x := (Int32.toInt (a - 100))) (y := 42) rfl rfl c4
      by_cases c7 : (a - 100) = 47
      · refine br1 c7 ?_
        have d8 := eq_z (a := (a - 100)) (b := 47) (x := (Int32.toInt (a - 100))) (y := 47) rfl rfl c7
        exact hq _ (by decide)
      · refine br0 c7 ?_
        have d9 := ne_z (a := (a - 100)) (b := 47) (x := (Int32.toInt (a - 100))) (y := 47) rfl rfl c7
        exact hq _ (by decide)


set_option maxRecDepth 100000 in
theorem s_X5_write (a : Int32) (b : Int32) (h0_draft_length : Int32) (f_h0_draft_code : Nat → Int32) (h_a : (-1) ≤ a.toInt ∧ a.toInt ≤ 63) (h_b : 0 ≤ b.toInt ∧ b.toInt ≤ 1023) (h_h0_draft_length : 0 ≤ h0_draft_length.toInt ∧ h0_draft_length.toInt ≤ 400) (h_f_h0_draft_code : CD f_h0_draft_code) {Q : Int32 → (Int32 × (Nat → Int32)) → Prop} (hq : ∀ (r : Int32) (u_0 : Int32) (u_1 : Nat → Int32), (0 ≤ u_0.toInt ∧ u_0.toInt ≤ 400) ∧ (CD u_1) → Q r (u_0, u_1)) : wp_X5_write a b h0_draft_length f_h0_draft_code Q := by
  unfold wp_X5_write
  by_cases c1 : a = (-1)
  · refine br1 c1 ?_
    have d2 := eq_z (a := a) (b := (-1)) (x := (Int32.toInt a)) (y := (-1)) rfl (by decide) c1
    exact hq _ _ _ ⟨(by first | with_reducible assumption | exact ⟨by omega, by omega⟩), h_f_h0_draft_code⟩
  · refine br0 c1 ?_
    have d3 := ne_z (a := a) (b := (-1)) (x := (Int32.toInt a)) (y := (-1)) rfl (by decide) c1
    by_cases c4 : h0_draft_length < 400
    · refine br1 c4 ?_
      have d5 := lt_z (a := h0_draft_length) (b := 400) (x := (Int32.toInt h0_draft_length)) (y := 400) rfl rfl c4
      refine ⟨vpi (x := (Int32.toInt h0_draft_length)) rfl (by omega) (by omega), ?_⟩
      have t6 : (Int32.toInt (h0_draft_length + 1)) = (Int32.toInt h0_draft_length) + 1 := add_z rfl rfl (by omega) (by omega)
      have t7 : (Int32.toInt (b <<< ((6 : Int32) &&& 31))) = 64 * (Int32.toInt b) := sl6_z (by omega) (by omega)
      have t8 : 0 ≤ (Int32.toInt ((b <<< ((6 : Int32) &&& 31)) ||| a)) ∧ (Int32.toInt ((b <<< ((6 : Int32) &&& 31)) ||| a)) ≤ 65535 := or_z (by omega) (by omega) (by omega) (by omega)
      have R9 : CD (upd f_h0_draft_code h0_draft_length.toNatClampNeg ((b <<< ((6 : Int32) &&& 31)) ||| a)) := CD.up_0 h_f_h0_draft_code (tnz (x := (Int32.toInt h0_draft_length)) rfl (by omega)) (by omega) (by omega) (w := (Int32.toInt ((b <<< ((6 : Int32) &&& 31)) ||| a))) rfl (by omega) (by omega)
      exact hq _ _ _ ⟨(by first | with_reducible assumption | exact ⟨by omega, by omega⟩), R9⟩
    · refine br0 c4 ?_
      have d10 := nlt_z (a := h0_draft_length) (b := 400) (x := (Int32.toInt h0_draft_length)) (y := 400) rfl rfl c4
      exact hq _ _ _ ⟨(by first | with_reducible assumption | exact ⟨by omega, by omega⟩), h_f_h0_draft_code⟩


set_option maxRecDepth 100000 in
theorem s_X5_aimHere (a : Int32) (h0_draft_length : Int32) (f_h0_draft_code : Nat → Int32) (h_h0_draft_length : 0 ≤ h0_draft_length.toInt ∧ h0_draft_length.toInt ≤ 400) (h_f_h0_draft_code : CD f_h0_draft_code) {Q : (Nat → Int32) → Prop} (hq : ∀ (u : Nat → Int32), (CD u) → Q u) : wp_X5_aimHere a h0_draft_length f_h0_draft_code Q := by
  unfold wp_X5_aimHere
  by_cases c1 : a < 0
  · refine br1 c1 ?_
    have d2 := lt_z (a := a) (b := 0) (x := (Int32.toInt a)) (y := 0) rfl rfl c1
    exact hq _ h_f_h0_draft_code
  · refine br0 c1 ?_
    have d3 := nlt_z (a := a) (b := 0) (x := (Int32.toInt a)) (y := 0) rfl rfl c1
    by_cases c4 : h0_draft_length ≤ a
    · refine br1 c4 ?_
      have d5 := le_z (a := h0_draft_length) (b := a) (x := (Int32.toInt h0_draft_length)) (y := (Int32.toInt a)) rfl rfl c4
      exact hq _ h_f_h0_draft_code
    · refine br0 c4 ?_
      have d6 := nle_z (a := h0_draft_length) (b := a) (x := (Int32.toInt h0_draft_length)) (y := (Int32.toInt a)) rfl rfl c4
      refine ⟨vpi (x := (Int32.toInt a)) rfl (by omega) (by omega), ?_⟩
      refine ⟨vpi (x := (Int32.toInt a)) rfl (by omega) (by omega), ?_⟩
      have g7 : 0 ≤ (Int32.toInt (f_h0_draft_code a.toNatClampNeg)) ∧ (Int32.toInt (f_h0_draft_code a.toNatClampNeg)) ≤ 65535 := CD.at_0 h_f_h0_draft_code (tnz (x := (Int32.toInt a)) rfl (by omega)) (by omega) (by omega)
      have t8 : (Int32.toInt (h0_draft_length <<< ((6 : Int32) &&& 31))) = 64 * (Int32.toInt h0_draft_length) := sl6_z (by omega) (by omega)
      have t9 : 0 ≤ (Int32.toInt ((f_h0_draft_code a.toNatClampNeg) ||| (h0_draft_length <<< ((6 : Int32) &&& 31)))) ∧ (Int32.toInt ((f_h0_draft_code a.toNatClampNeg) ||| (h0_draft_length <<< ((6 : Int32) &&& 31)))) ≤ 65535 := or_z (by omega) (by omega) (by omega) (by omega)
      have R10 : CD (upd f_h0_draft_code a.toNatClampNeg ((f_h0_draft_code a.toNatClampNeg) ||| (h0_draft_length <<< ((6 : Int32) &&& 31)))) := CD.up_0 h_f_h0_draft_code (tnz (x := (Int32.toInt a)) rfl (by omega)) (by omega) (by omega) (w := (Int32.toInt ((f_h0_draft_code a.toNatClampNeg) ||| (h0_draft_length <<< ((6 : Int32) &&& 31))))) rfl (by omega) (by omega)
      exact hq _ R10


set_option maxRecDepth 100000 in
theorem s_X8_setHeadh (a : Int32) (b : Int32) (d : Int32) (n_h0_heads : Nat) (f_h0_heads : Nat → Int32) (h_a : 0 ≤ a.toInt ∧ a.toInt ≤ 12) (h_b : 0 ≤ b.toInt ∧ b.toInt ≤ 4) (h_f_h0_heads : HD f_h0_heads) (e_0 : n_h0_heads < 100000) (e_1 : b.toInt ≤ 3 ∨ d.toInt ≤ 20) {Q : (Nat → Int32) → Prop} (hq : ∀ (u : Nat → Int32), (HD u) → Q u) : wp_X8_setHead a b d n_h0_heads f_h0_heads Q := by
  unfold wp_X8_setHead
  have t1 : (Int32.toInt (5 * a)) = 5 * (Int32.toInt a) := mul_z rfl rfl (by omega) (by omega)
  have t2 : (Int32.toInt ((5 * a) + b)) = (Int32.toInt (5 * a)) + (Int32.toInt b) := add_z rfl rfl (by omega) (by omega)
  refine br0 (z_nlt (x := (Int32.toInt ((5 * a) + b))) (y := 0) rfl rfl (by omega)) ?_
  by_cases c3 : (Int32.ofNat n_h0_heads) ≤ ((5 * a) + b)
  · refine br1 c3 ?_
    have t4 := of_z (n := n_h0_heads) (by omega)
    have d5 := le_z (a := (Int32.ofNat n_h0_heads)) (b := ((5 * a) + b)) (x := (Int32.toInt (Int32.ofNat n_h0_heads))) (y := (Int32.toInt ((5 * a) + b))) rfl rfl c3
    exact hq _ h_f_h0_heads
  · refine br0 c3 ?_
    have t6 := of_z (n := n_h0_heads) (by omega)
    have d7 := nle_z (a := (Int32.ofNat n_h0_heads)) (b := ((5 * a) + b)) (x := (Int32.toInt (Int32.ofNat n_h0_heads))) (y := (Int32.toInt ((5 * a) + b))) rfl rfl c3
    refine ⟨vpi (x := (Int32.toInt ((5 * a) + b))) rfl (by omega) (by omega), ?_⟩
    have R8 : HD (upd f_h0_heads ((5 * a) + b).toNatClampNeg d) := (HD.up h_f_h0_heads (tnz (x := (Int32.toInt ((5 * a) + b))) rfl (by omega)) (by omega))
    exact hq _ R8


set_option maxRecDepth 100000 in
theorem s_X5_setHead (a : Int32) (b : Int32) (h0_draft_clauses : Int32) (f_h0_draft_heads : Nat → Int32) (h_a : 0 ≤ a.toInt ∧ a.toInt ≤ 4) (h_h0_draft_clauses : 0 ≤ h0_draft_clauses.toInt ∧ h0_draft_clauses.toInt ≤ 12) (h_f_h0_draft_heads : HD f_h0_draft_heads) (e_0 : a.toInt ≤ 3 ∨ b.toInt ≤ 20) {Q : (Nat → Int32) → Prop} (hq : ∀ (u : Nat → Int32), (HD u) → Q u) : wp_X5_setHead a b h0_draft_clauses f_h0_draft_heads Q := by
  unfold wp_X5_setHead
  refine s_X8_setHeadh h0_draft_clauses a b 60 (f_h0_draft_heads) (by first | with_reducible assumption | exact ⟨by omega, by omega⟩) (by first | with_reducible assumption | exact ⟨by omega, by omega⟩) h_f_h0_draft_heads (by omega) (by omega) (fun u1 H2 => ?_)
  have j3 := H2
  exact hq _ j3


set_option maxRecDepth 100000 in
theorem s_X5_readTimes (h0_tokenCount : Int32) (h0_now : Int32) (f_h0_tokens : Nat → Int32) (h0_draft_clauses : Int32) (f_h0_draft_heads : Nat → Int32) (h_h0_tokenCount : 0 ≤ h0_tokenCount.toInt ∧ h0_tokenCount.toInt ≤ 401) (h_h0_draft_clauses : 0 ≤ h0_draft_clauses.toInt ∧ h0_draft_clauses.toInt ≤ 12) (h_f_h0_draft_heads : HD f_h0_draft_heads) {Q : Int32 → (Int32 × (Nat → Int32)) → Prop} (hq : ∀ (r : Int32) (u_0 : Int32) (u_1 : Nat → Int32), (HD u_1) → Q r (u_0, u_1)) : wp_X5_readTimes h0_tokenCount h0_now f_h0_tokens h0_draft_clauses f_h0_draft_heads Q := by
  unfold wp_X5_readTimes
  refine s_X5_tokenNow h0_tokenCount h0_now (f_h0_tokens) (by first | with_reducible assumption | exact ⟨by omega, by omega⟩) (fun r1 H2 => ?_)
  by_cases c3 : (r1 - 1000) < 1
  · refine br1 c3 ?_
    have d4 := lt_z (a := (r1 - 1000)) (b := 1) (x := (Int32.toInt (r1 - 1000))) (y := 1) rfl rfl c3
    exact hq _ _ _ h_f_h0_draft_heads
  · refine br0 c3 ?_
    have d5 := nlt_z (a := (r1 - 1000)) (b := 1) (x := (Int32.toInt (r1 - 1000))) (y := 1) rfl rfl c3
    by_cases c6 : (r1 - 1000) ≤ 20
    · refine br1 c6 ?_
      have d7 := le_z (a := (r1 - 1000)) (b := 20) (x := (Int32.toInt (r1 - 1000))) (y := 20) rfl rfl c6
      have k8 : Int32.toInt 4 = 4 := rfl
      refine s_X5_setHead 4 (r1 - 1000) h0_draft_clauses (f_h0_draft_heads) (by decide) (by first | with_reducible assumption | exact ⟨by omega, by omega⟩) h_f_h0_draft_heads (by omega) (fun u9 H10 => ?_)
      have j11 := H10
      exact hq _ _ _ j11
    · refine br0 c6 ?_
      have d12 := nle_z (a := (r1 - 1000)) (b := 20) (x := (Int32.toInt (r1 - 1000))) (y := 20) rfl rfl c6
      exact hq _ _ _ h_f_h0_draft_heads


set_option maxRecDepth 100000 in
theorem s_X5_placeNow (h0_length : Int32) (h0_tokenCount : Int32) (h0_now : Int32) (f_h0_places : Nat → Int32) (h_h0_length : 0 ≤ h0_length.toInt ∧ h0_length.toInt ≤ 400) (h_h0_tokenCount : 0 ≤ h0_tokenCount.toInt ∧ h0_tokenCount.toInt ≤ 401) {Q : Int32 → Prop} (hq : ∀ (r : Int32), True → Q r) : wp_X5_placeNow h0_length h0_tokenCount h0_now f_h0_places Q := by
  unfold wp_X5_placeNow
  by_cases c1 : h0_now < 0
  · refine br1 c1 ?_
    have d2 := lt_z (a := h0_now) (b := 0) (x := (Int32.toInt h0_now)) (y := 0) rfl rfl c1
    exact hq _ trivial
  · refine br0 c1 ?_
    have d3 := nlt_z (a := h0_now) (b := 0) (x := (Int32.toInt h0_now)) (y := 0) rfl rfl c1
    by_cases c4 : h0_tokenCount ≤ h0_now
    · refine br1 c4 ?_
      have d5 := le_z (a := h0_tokenCount) (b := h0_now) (x := (Int32.toInt h0_tokenCount)) (y := (Int32.toInt h0_now)) rfl rfl c4
      exact hq _ trivial
    · refine br0 c4 ?_
      have d6 := nle_z (a := h0_tokenCount) (b := h0_now) (x := (Int32.toInt h0_tokenCount)) (y := (Int32.toInt h0_now)) rfl rfl c4
      refine ⟨vpi (x := (Int32.toInt h0_now)) rfl (by omega) (by omega), ?_⟩
      exact hq _ trivial


set_option maxRecDepth 100000 in
theorem s_X5_addToken (a : Int32) (b : Int32) (h0_tokenCount : Int32) (f_h0_tokens : Nat → Int32) (f_h0_places : Nat → Int32) (h_h0_tokenCount : 0 ≤ h0_tokenCount.toInt ∧ h0_tokenCount.toInt ≤ 401) {Q : (Int32 × (Nat → Int32) × (Nat → Int32)) → Prop} (hq : ∀ (u_0 : Int32) (u_1 : Nat → Int32) (u_2 : Nat → Int32), (0 ≤ u_0.toInt ∧ u_0.toInt ≤ 401) → Q (u_0, u_1, u_2)) : wp_X5_addToken a b h0_tokenCount f_h0_tokens f_h0_places Q := by
  unfold wp_X5_addToken
  by_cases c1 : 401 ≤ h0_tokenCount
  · refine br1 c1 ?_
    have d2 := le_z (a := 401) (b := h0_tokenCount) (x := 401) (y := (Int32.toInt h0_tokenCount)) rfl rfl c1
    exact hq _ _ _ (by first | with_reducible assumption | exact ⟨by omega, by omega⟩)
  · refine br0 c1 ?_
    have d3 := nle_z (a := 401) (b := h0_tokenCount) (x := 401) (y := (Int32.toInt h0_tokenCount)) rfl rfl c1
    refine ⟨vpi (x := (Int32.toInt h0_tokenCount)) rfl (by omega) (by omega), ?_⟩
    refine ⟨vpi (x := (Int32.toInt h0_tokenCount)) rfl (by omega) (by omega), ?_⟩
    have t4 : (Int32.toInt (h0_tokenCount + 1)) = (Int32.toInt h0_tokenCount) + 1 := add_z rfl rfl (by omega) (by omega)
    exact hq _ _ _ (by first | with_reducible assumption | exact ⟨by omega, by omega⟩)


set_option maxRecDepth 100000 in
theorem sl_X5_endOfRow_3 (b : Int32) (d : Int32) (h0_length : Int32) (f_h0_bytes : Nat → Int32) (g0 : Int) (h_h0_length : 0 ≤ h0_length.toInt ∧ h0_length.toInt ≤ 400) (h_f_h0_bytes : BY f_h0_bytes) (Qb : Int32 → Prop) (KX : ∀ (x_3 : Int32), (0 ≤ x_3.toInt ∧ x_3.toInt ≤ 400) ∧ (g0 ≤ x_3.toInt) → Qb x_3) : ∀ (n : Nat) (x_3 : Int32), (0 ≤ x_3.toInt ∧ x_3.toInt ≤ 400) ∧ (g0 ≤ x_3.toInt) → 401 - x_3.toInt < (n : Int) → wl_X5_endOfRow_3 b d h0_length f_h0_bytes Qb n x_3 := by
  intro n
  induction n with
  | zero =>
    intro x_3 hI hm
    exfalso; have hm : 401 - x_3.toInt < 0 := hm; omega
  | succ n ih =>
    intro x_3 hI hm
    have hm : 401 - x_3.toInt < (n : Int) + 1 := by simpa using hm
    have h_x_3 := hI.1
    have h_rel0 := hI.2
    unfold wl_X5_endOfRow_3
    by_cases c1 : h0_length ≤ x_3
    · refine br1 c1 ?_
      have d2 := le_z (a := h0_length) (b := x_3) (x := (Int32.toInt h0_length)) (y := (Int32.toInt x_3)) rfl rfl c1
      exact KX _ ⟨(by first | with_reducible assumption | exact ⟨by omega, by omega⟩), (by omega)⟩
    · refine br0 c1 ?_
      have d3 := nle_z (a := h0_length) (b := x_3) (x := (Int32.toInt h0_length)) (y := (Int32.toInt x_3)) rfl rfl c1
      refine ⟨vpi (x := (Int32.toInt x_3)) rfl (by omega) (by omega), ?_⟩
      by_cases c4 : (f_h0_bytes x_3.toNatClampNeg) < b
      · refine br1 c4 ?_
        have g5 : 0 ≤ (Int32.toInt (f_h0_bytes x_3.toNatClampNeg)) ∧ (Int32.toInt (f_h0_bytes x_3.toNatClampNeg)) ≤ 255 := BY.at_0 h_f_h0_bytes (tnz (x := (Int32.toInt x_3)) rfl (by omega)) (by omega) (by omega)
        have d6 := lt_z (a := (f_h0_bytes x_3.toNatClampNeg)) (b := b) (x := (Int32.toInt (f_h0_bytes x_3.toNatClampNeg))) (y := (Int32.toInt b)) rfl rfl c4
        exact KX _ ⟨(by first | with_reducible assumption | exact ⟨by omega, by omega⟩), (by omega)⟩
      · refine br0 c4 ?_
        have g7 : 0 ≤ (Int32.toInt (f_h0_bytes x_3.toNatClampNeg)) ∧ (Int32.toInt (f_h0_bytes x_3.toNatClampNeg)) ≤ 255 := BY.at_0 h_f_h0_bytes (tnz (x := (Int32.toInt x_3)) rfl (by omega)) (by omega) (by omega)
        have d8 := nlt_z (a := (f_h0_bytes x_3.toNatClampNeg)) (b := b) (x := (Int32.toInt (f_h0_bytes x_3.toNatClampNeg))) (y := (Int32.toInt b)) rfl rfl c4
        refine ⟨vpi (x := (Int32.toInt x_3)) rfl (by omega) (by omega), ?_⟩
        by_cases c9 : d < (f_h0_bytes x_3.toNatClampNeg)
        · refine br1 c9 ?_
          have d10 := lt_z (a := d) (b := (f_h0_bytes x_3.toNatClampNeg)) (x := (Int32.toInt d)) (y := (Int32.toInt (f_h0_bytes x_3.toNatClampNeg))) rfl rfl c9
          exact KX _ ⟨(by first | with_reducible assumption | exact ⟨by omega, by omega⟩), (by omega)⟩
        · refine br0 c9 ?_
          have d11 := nlt_z (a := d) (b := (f_h0_bytes x_3.toNatClampNeg)) (x := (Int32.toInt d)) (y := (Int32.toInt (f_h0_bytes x_3.toNatClampNeg))) rfl rfl c9
          have t12 : (Int32.toInt (x_3 + 1)) = (Int32.toInt x_3) + 1 := add_z rfl rfl (by omega) (by omega)
          exact ih _ ⟨(by first | with_reducible assumption | exact ⟨by omega, by omega⟩), (by omega)⟩ (by omega)
set_option maxRecDepth 100000 in
theorem s_X5_endOfRow (a : Int32) (b : Int32) (d : Int32) (h0_length : Int32) (f_h0_bytes : Nat → Int32) (h_a : 0 ≤ a.toInt ∧ a.toInt ≤ 400) (h_h0_length : 0 ≤ h0_length.toInt ∧ h0_length.toInt ≤ 400) (h_f_h0_bytes : BY f_h0_bytes) {Q : Int32 → Prop} (hq : ∀ (r : Int32), (0 ≤ r.toInt ∧ r.toInt ≤ 400) ∧ (a.toInt ≤ r.toInt) → Q r) : wp_X5_endOfRow a b d h0_length f_h0_bytes Q := by
  unfold wp_X5_endOfRow
  refine sl_X5_endOfRow_3 b d h0_length (f_h0_bytes) a.toInt (by first | with_reducible assumption | exact ⟨by omega, by omega⟩) h_f_h0_bytes _ (fun x1 X2 => ?_) 1000000000000 a ⟨(by first | with_reducible assumption | exact ⟨by omega, by omega⟩), (by omega)⟩ (by omega)
  have j3 := X2.1
  have j4 := X2.2
  exact hq _ ⟨(by first | with_reducible assumption | exact ⟨by omega, by omega⟩), (by omega)⟩


set_option maxRecDepth 100000 in
theorem sl_X5_numberIn_5 (b : Int32) (f_h0_bytes : Nat → Int32) (h_b : 0 ≤ b.toInt ∧ b.toInt ≤ 400) (h_f_h0_bytes : BY f_h0_bytes) (Qb : Int32 → Int32 → Prop) (KX : ∀ (x_5_0 : Int32) (x_5_1 : Int32), (0 ≤ x_5_0.toInt ∧ x_5_0.toInt ≤ 400) ∧ ((-2147483648) ≤ x_5_1.toInt ∧ x_5_1.toInt ≤ 1001) → Qb x_5_0 x_5_1) : ∀ (n : Nat) (x_5_0 : Int32) (x_5_1 : Int32), (0 ≤ x_5_0.toInt ∧ x_5_0.toInt ≤ 400) ∧ ((-2147483648) ≤ x_5_1.toInt ∧ x_5_1.toInt ≤ 1001) → 401 - x_5_0.toInt < (n : Int) → wl_X5_numberIn_5 b f_h0_bytes Qb n x_5_0 x_5_1 := by
  intro n
  induction n with
  | zero =>
    intro x_5_0 x_5_1 hI hm
    exfalso; have hm : 401 - x_5_0.toInt < 0 := hm; omega
  | succ n ih =>
    intro x_5_0 x_5_1 hI hm
    have hm : 401 - x_5_0.toInt < (n : Int) + 1 := by simpa using hm
    have h_x_5_0 := hI.1
    have h_x_5_1 := hI.2
    unfold wl_X5_numberIn_5
    by_cases c1 : b ≤ x_5_0
    · refine br1 c1 ?_
      have d2 := le_z (a := b) (b := x_5_0) (x := (Int32.toInt b)) (y := (Int32.toInt x_5_0)) rfl rfl c1
      have t3 := i32_lo x_5_1
      exact KX _ _ ⟨(by first | with_reducible assumption | exact ⟨by omega, by omega⟩), (by first | with_reducible assumption | exact ⟨by omega, by omega⟩)⟩
    · refine br0 c1 ?_
      have d4 := nle_z (a := b) (b := x_5_0) (x := (Int32.toInt b)) (y := (Int32.toInt x_5_0)) rfl rfl c1
      refine ⟨vpi (x := (Int32.toInt x_5_0)) rfl (by omega) (by omega), ?_⟩
      have t5 : (Int32.toInt (x_5_0 + 1)) = (Int32.toInt x_5_0) + 1 := add_z rfl rfl (by omega) (by omega)
      have g6 : 0 ≤ (Int32.toInt (f_h0_bytes x_5_0.toNatClampNeg)) ∧ (Int32.toInt (f_h0_bytes x_5_0.toNatClampNeg)) ≤ 255 := BY.at_0 h_f_h0_bytes (tnz (x := (Int32.toInt x_5_0)) rfl (by omega)) (by omega) (by omega)
      have t7 := mn_z (a := 1001) (b := (((10 * x_5_1) + (f_h0_bytes x_5_0.toNatClampNeg)) - 48))
      have k8 : Int32.toInt 1001 = 1001 := rfl
      have t9 := i32_lo (if (((10 * x_5_1) + (f_h0_bytes x_5_0.toNatClampNeg)) - 48) < 1001 then (((10 * x_5_1) + (f_h0_bytes x_5_0.toNatClampNeg)) - 48) else 1001)
      exact ih _ _ ⟨(by first | with_reducible assumption | exact ⟨by omega, by omega⟩), (by first | with_reducible assumption | exact ⟨by omega, by omega⟩)⟩ (by omega)
set_option maxRecDepth 100000 in
theorem s_X5_numberIn (a : Int32) (b : Int32) (f_h0_bytes : Nat → Int32) (h_a : 0 ≤ a.toInt ∧ a.toInt ≤ 400) (h_b : 0 ≤ b.toInt ∧ b.toInt ≤ 400) (h_f_h0_bytes : BY f_h0_bytes) {Q : Int32 → Prop} (hq : ∀ (r : Int32), True → Q r) : wp_X5_numberIn a b f_h0_bytes Q := by
  unfold wp_X5_numberIn
  have k3 : Int32.toInt 0 = 0 := rfl
  refine sl_X5_numberIn_5 b (f_h0_bytes) (by first | with_reducible assumption | exact ⟨by omega, by omega⟩) h_f_h0_bytes _ (fun x1_0 x1_1 X2 => ?_) 1000000000000 a 0 ⟨(by first | with_reducible assumption | exact ⟨by omega, by omega⟩), (by decide)⟩ (by omega)
  have j4 := X2.1
  have j5 := X2.2
  exact hq _ trivial


set_option maxRecDepth 100000 in
theorem s_X5_beginHead (h0_draft_clauses : Int32) (f_h0_draft_heads : Nat → Int32) (h_h0_draft_clauses : 0 ≤ h0_draft_clauses.toInt ∧ h0_draft_clauses.toInt ≤ 12) (h_f_h0_draft_heads : HD f_h0_draft_heads) {Q : (Nat → Int32) → Prop} (hq : ∀ (u : Nat → Int32), (HD u) → Q u) : wp_X5_beginHead h0_draft_clauses f_h0_draft_heads Q := by
  unfold wp_X5_beginHead
  have k1 : Int32.toInt 0 = 0 := rfl
  have k2 : Int32.toInt (-1) = (-1) := (by decide)
  refine s_X5_setHead 0 (-1) h0_draft_clauses (f_h0_draft_heads) (by decide) (by first | with_reducible assumption | exact ⟨by omega, by omega⟩) h_f_h0_draft_heads (by omega) (fun u3 H4 => ?_)
  have j5 := H4
  have k6 : Int32.toInt 1 = 1 := rfl
  refine s_X5_setHead 1 (-1) h0_draft_clauses (u3) (by decide) (by first | with_reducible assumption | exact ⟨by omega, by omega⟩) j5 (by omega) (fun u7 H8 => ?_)
  have j9 := H8
  have k10 : Int32.toInt 2 = 2 := rfl
  refine s_X5_setHead 2 (-1) h0_draft_clauses (u7) (by decide) (by first | with_reducible assumption | exact ⟨by omega, by omega⟩) j9 (by omega) (fun u11 H12 => ?_)
  have j13 := H12
  have k14 : Int32.toInt 3 = 3 := rfl
  refine s_X5_setHead 3 (-1) h0_draft_clauses (u11) (by decide) (by first | with_reducible assumption | exact ⟨by omega, by omega⟩) j13 (by omega) (fun u15 H16 => ?_)
  have j17 := H16
  have k18 : Int32.toInt 4 = 4 := rfl
  refine s_X5_setHead 4 1 h0_draft_clauses (u15) (by decide) (by first | with_reducible assumption | exact ⟨by omega, by omega⟩) j17 (by omega) (fun u19 H20 => ?_)
  have j21 := H20
  exact hq _ j21
end
section
set_option maxRecDepth 100000 in
theorem sl_X5_splitIntoTokens_9 (h0_length : Int32) (f_h0_bytes : Nat → Int32) (xe : XE) (h_h0_length : 0 ≤ h0_length.toInt ∧ h0_length.toInt ≤ 400) (h_f_h0_bytes : BY f_h0_bytes) (hxe : isRf xe.2.2) (Qb : Int32 → Int32 → Int32 → (Nat → Int32) → (Nat → Int32) → Prop) (KX : ∀ (x_9_0 : Int32) (x_9_1 : Int32) (x_9_2 : Int32) (x_9_3 : Nat → Int32) (x_9_4 : Nat → Int32), (0 ≤ x_9_0.toInt ∧ x_9_0.toInt ≤ 400) ∧ (0 ≤ x_9_1.toInt ∧ x_9_1.toInt ≤ 400) ∧ (0 ≤ x_9_2.toInt ∧ x_9_2.toInt ≤ 401) → Qb x_9_0 x_9_1 x_9_2 x_9_3 x_9_4) : ∀ (n : Nat) (x_9_0 : Int32) (x_9_1 : Int32) (x_9_2 : Int32) (x_9_3 : Nat → Int32) (x_9_4 : Nat → Int32), (0 ≤ x_9_0.toInt ∧ x_9_0.toInt ≤ 400) ∧ (0 ≤ x_9_1.toInt ∧ x_9_1.toInt ≤ 400) ∧ (0 ≤ x_9_2.toInt ∧ x_9_2.toInt ≤ 401) → 401 - x_9_0.toInt < (n : Int) → wl_X5_splitIntoTokens_9 h0_length f_h0_bytes xe Qb n x_9_0 x_9_1 x_9_2 x_9_3 x_9_4 := by
  intro n
  induction n with
  | zero =>
    intro x_9_0 x_9_1 x_9_2 x_9_3 x_9_4 hI hm
    exfalso; have hm : 401 - x_9_0.toInt < 0 := hm; omega
  | succ n ih =>
    intro x_9_0 x_9_1 x_9_2 x_9_3 x_9_4 hI hm
    have hm : 401 - x_9_0.toInt < (n : Int) + 1 := by simpa using hm
    have h_x_9_0 := hI.1
    have h_x_9_1 := hI.2.1
    have h_x_9_2 := hI.2.2
    unfold wl_X5_splitIntoTokens_9
    by_cases c1 : 400 ≤ x_9_0
    · refine br1 c1 ?_
      have d2 := le_z (a := 400) (b := x_9_0) (x := 400) (y := (Int32.toInt x_9_0)) rfl rfl c1
      exact KX _ _ _ _ _ ⟨(by first | with_reducible assumption | exact ⟨by omega, by omega⟩), (by first | with_reducible assumption | exact ⟨by omega, by omega⟩), (by first | with_reducible assumption | exact ⟨by omega, by omega⟩)⟩
    · refine br0 c1 ?_
      have d3 := nle_z (a := 400) (b := x_9_0) (x := 400) (y := (Int32.toInt x_9_0)) rfl rfl c1
      by_cases c4 : h0_length ≤ x_9_1
      · refine br1 c4 ?_
        have d5 := le_z (a := h0_length) (b := x_9_1) (x := (Int32.toInt h0_length)) (y := (Int32.toInt x_9_1)) rfl rfl c4
        exact KX _ _ _ _ _ ⟨(by first | with_reducible assumption | exact ⟨by omega, by omega⟩), (by first | with_reducible assumption | exact ⟨by omega, by omega⟩), (by first | with_reducible assumption | exact ⟨by omega, by omega⟩)⟩
      · refine br0 c4 ?_
        have d6 := nle_z (a := h0_length) (b := x_9_1) (x := (Int32.toInt h0_length)) (y := (Int32.toInt x_9_1)) rfl rfl c4
        refine ⟨vpi (x := (Int32.toInt x_9_1)) rfl (by omega) (by omega), ?_⟩
        refine jn_s ?_
        by_cases c7 : (f_h0_bytes x_9_1.toNatClampNeg) < 97
        · refine br1 c7 ?_
          have g8 : 0 ≤ (Int32.toInt (f_h0_bytes x_9_1.toNatClampNeg)) ∧ (Int32.toInt (f_h0_bytes x_9_1.toNatClampNeg)) ≤ 255 := BY.at_0 h_f_h0_bytes (tnz (x := (Int32.toInt x_9_1)) rfl (by omega)) (by omega) (by omega)
          have d9 := lt_z (a := (f_h0_bytes x_9_1.toNatClampNeg)) (b := 97) (x := (Int32.toInt (f_h0_bytes x_9_1.toNatClampNeg))) (y := 97) rfl rfl c7
          refine jn_s ?_
          by_cases c10 : (f_h0_bytes x_9_1.toNatClampNeg) < 48
          · refine br1 c10 ?_
            have d11 := lt_z (a := (f_h0_bytes x_9_1.toNatClampNeg)) (b := 48) (x := (Int32.toInt (f_h0_bytes x_9_1.toNatClampNeg))) (y := 48) rfl rfl c10
            by_cases c12 : (f_h0_bytes x_9_1.toNatClampNeg) = 32
            · refine br1 c12 ?_
              have d13 := eq_z (a := (f_h0_bytes x_9_1.toNatClampNeg)) (b := 32) (x := (Int32.toInt (f_h0_bytes x_9_1.toNatClampNeg))) (y := 32) rfl rfl c12
              have t14 : (Int32.toInt (x_9_0 + 1)) = (Int32.toInt x_9_0) + 1 := add_z rfl rfl (by omega) (by omega)
              have t15 : (Int32.toInt (x_9_1 + 1)) = (Int32.toInt x_9_1) + 1 := add_z rfl rfl (by omega) (by omega)
              exact ih _ _ _ _ _ ⟨(by first | with_reducible assumption | exact ⟨by omega, by omega⟩), (by first | with_reducible assumption | exact ⟨by omega, by omega⟩), (by first | with_reducible assumption | exact ⟨by omega, by omega⟩)⟩ (by omega)
            · refine br0 c12 ?_
              have d16 := ne_z (a := (f_h0_bytes x_9_1.toNatClampNeg)) (b := 32) (x := (Int32.toInt (f_h0_bytes x_9_1.toNatClampNeg))) (y := 32) rfl rfl c12
              refine s_X5_addToken (100 + (f_h0_bytes x_9_1.toNatClampNeg)) x_9_1 x_9_2 (x_9_3) (x_9_4) (by first | with_reducible assumption | exact ⟨by omega, by omega⟩) (fun u17_0 u17_1 u17_2 H18 => ?_)
              have j19 := H18
              refine un3_i ?_
              have t20 : (Int32.toInt (x_9_0 + 1)) = (Int32.toInt x_9_0) + 1 := add_z rfl rfl (by omega) (by omega)
              have t21 : (Int32.toInt (x_9_1 + 1)) = (Int32.toInt x_9_1) + 1 := add_z rfl rfl (by omega) (by omega)
              exact ih _ _ _ _ _ ⟨(by first | with_reducible assumption | exact ⟨by omega, by omega⟩), (by first | with_reducible assumption | exact ⟨by omega, by omega⟩), (by first | with_reducible assumption | exact ⟨by omega, by omega⟩)⟩ (by omega)
          · refine br0 c10 ?_
            have d22 := nlt_z (a := (f_h0_bytes x_9_1.toNatClampNeg)) (b := 48) (x := (Int32.toInt (f_h0_bytes x_9_1.toNatClampNeg))) (y := 48) rfl rfl c10
            by_cases c23 : 57 < (f_h0_bytes x_9_1.toNatClampNeg)
            · refine br1 c23 ?_
              have d24 := lt_z (a := 57) (b := (f_h0_bytes x_9_1.toNatClampNeg)) (x := 57) (y := (Int32.toInt (f_h0_bytes x_9_1.toNatClampNeg))) rfl rfl c23
              refine br0 (z_ne (x := (Int32.toInt (f_h0_bytes x_9_1.toNatClampNeg))) (y := 32) rfl rfl (by omega)) ?_
              refine s_X5_addToken (100 + (f_h0_bytes x_9_1.toNatClampNeg)) x_9_1 x_9_2 (x_9_3) (x_9_4) (by first | with_reducible assumption | exact ⟨by omega, by omega⟩) (fun u25_0 u25_1 u25_2 H26 => ?_)
              have j27 := H26
              refine un3_i ?_
              have t28 : (Int32.toInt (x_9_0 + 1)) = (Int32.toInt x_9_0) + 1 := add_z rfl rfl (by omega) (by omega)
              have t29 : (Int32.toInt (x_9_1 + 1)) = (Int32.toInt x_9_1) + 1 := add_z rfl rfl (by omega) (by omega)
              exact ih _ _ _ _ _ ⟨(by first | with_reducible assumption | exact ⟨by omega, by omega⟩), (by first | with_reducible assumption | exact ⟨by omega, by omega⟩), (by first | with_reducible assumption | exact ⟨by omega, by omega⟩)⟩ (by omega)
            · refine br0 c23 ?_
              have d30 := nlt_z (a := 57) (b := (f_h0_bytes x_9_1.toNatClampNeg)) (x := 57) (y := (Int32.toInt (f_h0_bytes x_9_1.toNatClampNeg))) rfl rfl c23
              refine s_X5_endOfRow x_9_1 48 57 h0_length (f_h0_bytes) (by first | with_reducible assumption | exact ⟨by omega, by omega⟩) (by first | with_reducible assumption | exact ⟨by omega, by omega⟩) h_f_h0_bytes (fun r31 H32 => ?_)
              have j33 := H32.1
              have j34 := H32.2
              refine s_X5_numberIn x_9_1 r31 (f_h0_bytes) (by first | with_reducible assumption | exact ⟨by omega, by omega⟩) (by first | with_reducible assumption | exact ⟨by omega, by omega⟩) h_f_h0_bytes (fun r35 H36 => ?_)
              refine s_X5_addToken (1000 + r35) x_9_1 x_9_2 (x_9_3) (x_9_4) (by first | with_reducible assumption | exact ⟨by omega, by omega⟩) (fun u37_0 u37_1 u37_2 H38 => ?_)
              have j39 := H38
              refine un3_i ?_
              have t40 : (Int32.toInt (x_9_0 + 1)) = (Int32.toInt x_9_0) + 1 := add_z rfl rfl (by omega) (by omega)
              exact ih _ _ _ _ _ ⟨(by first | with_reducible assumption | exact ⟨by omega, by omega⟩), (by first | with_reducible assumption | exact ⟨by omega, by omega⟩), (by first | with_reducible assumption | exact ⟨by omega, by omega⟩)⟩ (by omega)
        · refine br0 c7 ?_
          have g41 : 0 ≤ (Int32.toInt (f_h0_bytes x_9_1.toNatClampNeg)) ∧ (Int32.toInt (f_h0_bytes x_9_1.toNatClampNeg)) ≤ 255 := BY.at_0 h_f_h0_bytes (tnz (x := (Int32.toInt x_9_1)) rfl (by omega)) (by omega) (by omega)
          have d42 := nlt_z (a := (f_h0_bytes x_9_1.toNatClampNeg)) (b := 97) (x := (Int32.toInt (f_h0_bytes x_9_1.toNatClampNeg))) (y := 97) rfl rfl c7
          by_cases c43 : 122 < (f_h0_bytes x_9_1.toNatClampNeg)
          · refine br1 c43 ?_
            have d44 := lt_z (a := 122) (b := (f_h0_bytes x_9_1.toNatClampNeg)) (x := 122) (y := (Int32.toInt (f_h0_bytes x_9_1.toNatClampNeg))) rfl rfl c43
            refine jn_s ?_
            refine br0 (z_nlt (x := (Int32.toInt (f_h0_bytes x_9_1.toNatClampNeg))) (y := 48) rfl rfl (by omega)) ?_
            refine br1 (z_lt (x := 57) (y := (Int32.toInt (f_h0_bytes x_9_1.toNatClampNeg))) rfl rfl (by omega)) ?_
            refine br0 (z_ne (x := (Int32.toInt (f_h0_bytes x_9_1.toNatClampNeg))) (y := 32) rfl rfl (by omega)) ?_
            refine s_X5_addToken (100 + (f_h0_bytes x_9_1.toNatClampNeg)) x_9_1 x_9_2 (x_9_3) (x_9_4) (by first | with_reducible assumption | exact ⟨by omega, by omega⟩) (fun u45_0 u45_1 u45_2 H46 => ?_)
            have j47 := H46
            refine un3_i ?_
            have t48 : (Int32.toInt (x_9_0 + 1)) = (Int32.toInt x_9_0) + 1 := add_z rfl rfl (by omega) (by omega)
            have t49 : (Int32.toInt (x_9_1 + 1)) = (Int32.toInt x_9_1) + 1 := add_z rfl rfl (by omega) (by omega)
            exact ih _ _ _ _ _ ⟨(by first | with_reducible assumption | exact ⟨by omega, by omega⟩), (by first | with_reducible assumption | exact ⟨by omega, by omega⟩), (by first | with_reducible assumption | exact ⟨by omega, by omega⟩)⟩ (by omega)
          · refine br0 c43 ?_
            have d50 := nlt_z (a := 122) (b := (f_h0_bytes x_9_1.toNatClampNeg)) (x := 122) (y := (Int32.toInt (f_h0_bytes x_9_1.toNatClampNeg))) rfl rfl c43
            refine s_X5_endOfRow x_9_1 97 122 h0_length (f_h0_bytes) (by first | with_reducible assumption | exact ⟨by omega, by omega⟩) (by first | with_reducible assumption | exact ⟨by omega, by omega⟩) h_f_h0_bytes (fun r51 H52 => ?_)
            have j53 := H52.1
            have j54 := H52.2
            refine s_X5_wordIn x_9_1 r51 (f_h0_bytes) xe (by first | with_reducible assumption | exact ⟨by omega, by omega⟩) (by first | with_reducible assumption | exact ⟨by omega, by omega⟩) h_f_h0_bytes hxe (by omega) (fun r55 H56 => ?_)
            refine s_X5_addToken r55 x_9_1 x_9_2 (x_9_3) (x_9_4) (by first | with_reducible assumption | exact ⟨by omega, by omega⟩) (fun u57_0 u57_1 u57_2 H58 => ?_)
            have j59 := H58
            refine un3_i ?_
            have t60 : (Int32.toInt (x_9_0 + 1)) = (Int32.toInt x_9_0) + 1 := add_z rfl rfl (by omega) (by omega)
            exact ih _ _ _ _ _ ⟨(by first | with_reducible assumption | exact ⟨by omega, by omega⟩), (by first | with_reducible assumption | exact ⟨by omega, by omega⟩), (by first | with_reducible assumption | exact ⟨by omega, by omega⟩)⟩ (by omega)
set_option maxRecDepth 100000 in
theorem s_X5_splitIntoTokens (h0_length : Int32) (f_h0_bytes : Nat → Int32) (f_h0_tokens : Nat → Int32) (f_h0_places : Nat → Int32) (xe : XE) (h_h0_length : 0 ≤ h0_length.toInt ∧ h0_length.toInt ≤ 400) (h_f_h0_bytes : BY f_h0_bytes) (e_0 : isRf xe.2.2) {Q : (Int32 × (Nat → Int32) × (Nat → Int32)) → Prop} (hq : ∀ (u_0 : Int32) (u_1 : Nat → Int32) (u_2 : Nat → Int32), (0 ≤ u_0.toInt ∧ u_0.toInt ≤ 401) → Q (u_0, u_1, u_2)) : wp_X5_splitIntoTokens h0_length f_h0_bytes f_h0_tokens f_h0_places xe Q := by
  unfold wp_X5_splitIntoTokens
  have k3 : Int32.toInt 0 = 0 := rfl
  refine sl_X5_splitIntoTokens_9 h0_length (f_h0_bytes) xe (by first | with_reducible assumption | exact ⟨by omega, by omega⟩) h_f_h0_bytes e_0 _ (fun x1_0 x1_1 x1_2 x1_3 x1_4 X2 => ?_) 1000000000000 0 0 0 (f_h0_tokens) (f_h0_places) ⟨(by decide), (by decide), (by decide)⟩ (by omega)
  have j4 := X2.1
  have j5 := X2.2.1
  have j6 := X2.2.2
  refine s_X5_addToken 31 h0_length x1_2 (x1_3) (x1_4) (by first | with_reducible assumption | exact ⟨by omega, by omega⟩) (fun u7_0 u7_1 u7_2 H8 => ?_)
  have j9 := H8
  refine un3_i ?_
  exact hq _ _ _ (by first | with_reducible assumption | exact ⟨by omega, by omega⟩)


set_option maxRecDepth 100000 in
theorem s_X5_readPart (wS : Int32 → Int32 → Int32 → Int32 → Int32 → Int32 → Int32 → (Nat → Int32) → Int32 → Int32 → (Nat → Int32) → (Int32 → (Int32 × Int32 × Int32 × (Nat → Int32)) → Prop) → Prop) (a : Int32) (h0_length : Int32) (h0_tokenCount : Int32) (h0_now : Int32) (h0_parts : Int32) (h0_asOrders : Int32) (h0_faultPlace : Int32) (f_h0_tokens : Nat → Int32) (h0_draft_clauses : Int32) (h0_draft_length : Int32) (f_h0_draft_code : Nat → Int32) (lv : Int) (hS : ∀ (a : Int32) (h0_length : Int32) (h0_tokenCount : Int32) (h0_now : Int32) (h0_parts : Int32) (h0_asOrders : Int32) (h0_faultPlace : Int32) (f_h0_tokens : Nat → Int32) (h0_draft_clauses : Int32) (h0_draft_length : Int32) (f_h0_draft_code : Nat → Int32), (0 ≤ a.toInt ∧ a.toInt ≤ 8) → (0 ≤ h0_length.toInt ∧ h0_length.toInt ≤ 400) → (0 ≤ h0_tokenCount.toInt ∧ h0_tokenCount.toInt ≤ 401) → (0 ≤ h0_asOrders.toInt ∧ h0_asOrders.toInt ≤ 1) → (0 ≤ h0_draft_clauses.toInt ∧ h0_draft_clauses.toInt ≤ 12) → (0 ≤ h0_draft_length.toInt ∧ h0_draft_length.toInt ≤ 400) → (CD f_h0_draft_code) → (lv + 1 ≤ a.toInt) → ∀ {Q : Int32 → (Int32 × Int32 × Int32 × (Nat → Int32)) → Prop}, (∀ (r : Int32) (u_0 : Int32) (u_1 : Int32) (u_2 : Int32) (u_3 : Nat → Int32), (0 ≤ u_2.toInt ∧ u_2.toInt ≤ 400) ∧ (CD u_3) → Q r (u_0, u_1, u_2, u_3)) → wS a h0_length h0_tokenCount h0_now h0_parts h0_asOrders h0_faultPlace f_h0_tokens h0_draft_clauses h0_draft_length f_h0_draft_code Q) (h_a : 0 ≤ a.toInt ∧ a.toInt ≤ 8) (h_h0_length : 0 ≤ h0_length.toInt ∧ h0_length.toInt ≤ 400) (h_h0_tokenCount : 0 ≤ h0_tokenCount.toInt ∧ h0_tokenCount.toInt ≤ 401) (h_h0_asOrders : 0 ≤ h0_asOrders.toInt ∧ h0_asOrders.toInt ≤ 1) (h_h0_draft_clauses : 0 ≤ h0_draft_clauses.toInt ∧ h0_draft_clauses.toInt ≤ 12) (h_h0_draft_length : 0 ≤ h0_draft_length.toInt ∧ h0_draft_length.toInt ≤ 400) (h_f_h0_draft_code : CD f_h0_draft_code) (e_0 : lv ≤ a.toInt) {Q : Int32 → (Int32 × Int32 × Int32 × (Nat → Int32)) → Prop} (hq : ∀ (r : Int32) (u_0 : Int32) (u_1 : Int32) (u_2 : Int32) (u_3 : Nat → Int32), (0 ≤ u_2.toInt ∧ u_2.toInt ≤ 400) ∧ (CD u_3) → Q r (u_0, u_1, u_2, u_3)) : wp_X5_readPart wS a h0_length h0_tokenCount h0_now h0_parts h0_asOrders h0_faultPlace f_h0_tokens h0_draft_clauses h0_draft_length f_h0_draft_code Q := by
  unfold wp_X5_readPart
  refine s_X5_tokenNow h0_tokenCount h0_now (f_h0_tokens) (by first | with_reducible assumption | exact ⟨by omega, by omega⟩) (fun r1 H2 => ?_)
  by_cases c3 : r1 = 191
  · refine br1 c3 ?_
    have d4 := eq_z (a := r1) (b := 191) (x := (Int32.toInt r1)) (y := 191) rfl rfl c3
    refine s_X5_open a h0_now  (fun r5 u6 H7 => ?_)
    have j8 := H7
    by_cases c9 : r5 = 0
    · refine br1 c9 ?_
      have d10 := eq_z (a := r5) (b := 0) (x := (Int32.toInt r5)) (y := 0) rfl rfl c9
      exact hq _ _ _ _ _ ⟨(by first | with_reducible assumption | exact ⟨by omega, by omega⟩), h_f_h0_draft_code⟩
    · refine br0 c9 ?_
      have d11 := ne_z (a := r5) (b := 0) (x := (Int32.toInt r5)) (y := 0) rfl rfl c9
      have t12 : (Int32.toInt (a + 1)) = (Int32.toInt a) + 1 := add_z rfl rfl (by omega) (by omega)
      refine hS (a + 1) h0_length h0_tokenCount u6 h0_parts h0_asOrders h0_faultPlace (f_h0_tokens) h0_draft_clauses h0_draft_length (f_h0_draft_code) (by first | with_reducible assumption | exact ⟨by omega, by omega⟩) (by first | with_reducible assumption | exact ⟨by omega, by omega⟩) (by first | with_reducible assumption | exact ⟨by omega, by omega⟩) (by first | with_reducible assumption | exact ⟨by omega, by omega⟩) (by first | with_reducible assumption | exact ⟨by omega, by omega⟩) (by first | with_reducible assumption | exact ⟨by omega, by omega⟩) h_f_h0_draft_code (by omega) (fun r13 u14_0 u14_1 u14_2 u14_3 H15 => ?_)
      have j16 := H15.1
      have j17 := H15.2
      refine un4_i ?_
      by_cases c18 : r13 = 0
      · refine br1 c18 ?_
        have d19 := eq_z (a := r13) (b := 0) (x := (Int32.toInt r13)) (y := 0) rfl rfl c18
        exact hq _ _ _ _ _ ⟨(by first | with_reducible assumption | exact ⟨by omega, by omega⟩), j17⟩
      · refine br0 c18 ?_
        have d20 := ne_z (a := r13) (b := 0) (x := (Int32.toInt r13)) (y := 0) rfl rfl c18
        refine s_X5_take 193 h0_tokenCount u14_0 (f_h0_tokens) (by first | with_reducible assumption | exact ⟨by omega, by omega⟩) (fun r21 u22 H23 => ?_)
        by_cases c24 : r21 = 0
        · refine br1 c24 ?_
          have d25 := eq_z (a := r21) (b := 0) (x := (Int32.toInt r21)) (y := 0) rfl rfl c24
          exact hq _ _ _ _ _ ⟨(by first | with_reducible assumption | exact ⟨by omega, by omega⟩), j17⟩
        · refine br0 c24 ?_
          have d26 := ne_z (a := r21) (b := 0) (x := (Int32.toInt r21)) (y := 0) rfl rfl c24
          exact hq _ _ _ _ _ ⟨(by first | with_reducible assumption | exact ⟨by omega, by omega⟩), j17⟩
  · refine br0 c3 ?_
    have d27 := ne_z (a := r1) (b := 191) (x := (Int32.toInt r1)) (y := 191) rfl rfl c3
    refine jn_s ?_
    by_cases c28 : r1 < 1000
    · refine br1 c28 ?_
      have d29 := lt_z (a := r1) (b := 1000) (x := (Int32.toInt r1)) (y := 1000) rfl rfl c28
      refine jn_s ?_
      by_cases c30 : h0_asOrders = 0
      · refine br1 c30 ?_
        have d31 := eq_z (a := h0_asOrders) (b := 0) (x := (Int32.toInt h0_asOrders)) (y := 0) rfl rfl c30
        by_cases c32 : 50 ≤ h0_parts
        · refine br1 c32 ?_
          have d33 := le_z (a := 50) (b := h0_parts) (x := 50) (y := (Int32.toInt h0_parts)) rfl rfl c32
          exact hq _ _ _ _ _ ⟨(by first | with_reducible assumption | exact ⟨by omega, by omega⟩), h_f_h0_draft_code⟩
        · refine br0 c32 ?_
          have d34 := nle_z (a := 50) (b := h0_parts) (x := 50) (y := (Int32.toInt h0_parts)) rfl rfl c32
          refine jn_s ?_
          refine br1 (by decide) ?_
          refine br1 (by decide) ?_
          refine s_X5_isPlainWord r1 h0_asOrders (by first | with_reducible assumption | exact ⟨by omega, by omega⟩) (fun r35 H36 => ?_)
          have j37 := H36
          rcases j37 with j37 | j37
          · skip
            refine br1 (z_eq (x := (Int32.toInt r35)) (y := 0) rfl rfl (by omega)) ?_
            exact hq _ _ _ _ _ ⟨(by first | with_reducible assumption | exact ⟨by omega, by omega⟩), h_f_h0_draft_code⟩
          · skip
            by_cases c38 : r35 = 0
            · refine br1 c38 ?_
              have d39 := eq_z (a := r35) (b := 0) (x := (Int32.toInt r35)) (y := 0) rfl rfl c38
              exact hq _ _ _ _ _ ⟨(by first | with_reducible assumption | exact ⟨by omega, by omega⟩), h_f_h0_draft_code⟩
            · refine br0 c38 ?_
              have d40 := ne_z (a := r35) (b := 0) (x := (Int32.toInt r35)) (y := 0) rfl rfl c38
              refine br1 (by decide) ?_
              refine br1 (by decide) ?_
              have t41 : (Int32.toInt (20 + r1)) = 20 + (Int32.toInt r1) := add_z rfl rfl (by omega) (by omega)
              refine s_X5_write (20 + r1) 0 h0_draft_length (f_h0_draft_code) (by first | with_reducible assumption | exact ⟨by omega, by omega⟩) (by decide) (by first | with_reducible assumption | exact ⟨by omega, by omega⟩) h_f_h0_draft_code (fun r42 u43_0 u43_1 H44 => ?_)
              have j45 := H44.1
              have j46 := H44.2
              refine un2_i ?_
              have t47 := i32_lo h0_parts
              have t48 : (Int32.toInt (h0_parts + 1)) = (Int32.toInt h0_parts) + 1 := add_z rfl rfl (by omega) (by omega)
              exact hq _ _ _ _ _ ⟨(by first | with_reducible assumption | exact ⟨by omega, by omega⟩), j46⟩
      · refine br0 c30 ?_
        have d49 := ne_z (a := h0_asOrders) (b := 0) (x := (Int32.toInt h0_asOrders)) (y := 0) rfl rfl c30
        refine s_X5_choicesBehind r1  (fun r50 H51 => ?_)
        have j52 := H51.1
        have j53 := H51.2
        rcases j53 with j53 | j53
        · skip
          by_cases c54 : 50 ≤ h0_parts
          · refine br1 c54 ?_
            have d55 := le_z (a := 50) (b := h0_parts) (x := 50) (y := (Int32.toInt h0_parts)) rfl rfl c54
            exact hq _ _ _ _ _ ⟨(by first | with_reducible assumption | exact ⟨by omega, by omega⟩), h_f_h0_draft_code⟩
          · refine br0 c54 ?_
            have d56 := nle_z (a := 50) (b := h0_parts) (x := 50) (y := (Int32.toInt h0_parts)) rfl rfl c54
            refine jn_s ?_
            refine br1 (by decide) ?_
            refine br1 (z_eq (x := (Int32.toInt r50)) (y := 0) rfl rfl (by omega)) ?_
            refine s_X5_isPlainWord r1 h0_asOrders (by first | with_reducible assumption | exact ⟨by omega, by omega⟩) (fun r57 H58 => ?_)
            have j59 := H58
            rcases j59 with j59 | j59
            · skip
              refine br1 (z_eq (x := (Int32.toInt r57)) (y := 0) rfl rfl (by omega)) ?_
              exact hq _ _ _ _ _ ⟨(by first | with_reducible assumption | exact ⟨by omega, by omega⟩), h_f_h0_draft_code⟩
            · skip
              by_cases c60 : r57 = 0
              · refine br1 c60 ?_
                have d61 := eq_z (a := r57) (b := 0) (x := (Int32.toInt r57)) (y := 0) rfl rfl c60
                exact hq _ _ _ _ _ ⟨(by first | with_reducible assumption | exact ⟨by omega, by omega⟩), h_f_h0_draft_code⟩
              · refine br0 c60 ?_
                have d62 := ne_z (a := r57) (b := 0) (x := (Int32.toInt r57)) (y := 0) rfl rfl c60
                refine br1 (by decide) ?_
                refine br1 (z_eq (x := (Int32.toInt r50)) (y := 0) rfl rfl (by omega)) ?_
                have t63 : (Int32.toInt (20 + r1)) = 20 + (Int32.toInt r1) := add_z rfl rfl (by omega) (by omega)
                refine s_X5_write (20 + r1) 0 h0_draft_length (f_h0_draft_code) (by first | with_reducible assumption | exact ⟨by omega, by omega⟩) (by decide) (by first | with_reducible assumption | exact ⟨by omega, by omega⟩) h_f_h0_draft_code (fun r64 u65_0 u65_1 H66 => ?_)
                have j67 := H66.1
                have j68 := H66.2
                refine un2_i ?_
                have t69 := i32_lo h0_parts
                have t70 : (Int32.toInt (h0_parts + 1)) = (Int32.toInt h0_parts) + 1 := add_z rfl rfl (by omega) (by omega)
                exact hq _ _ _ _ _ ⟨(by first | with_reducible assumption | exact ⟨by omega, by omega⟩), j68⟩
        · skip
          by_cases c71 : 50 ≤ h0_parts
          · refine br1 c71 ?_
            have d72 := le_z (a := 50) (b := h0_parts) (x := 50) (y := (Int32.toInt h0_parts)) rfl rfl c71
            exact hq _ _ _ _ _ ⟨(by first | with_reducible assumption | exact ⟨by omega, by omega⟩), h_f_h0_draft_code⟩
          · refine br0 c71 ?_
            have d73 := nle_z (a := 50) (b := h0_parts) (x := 50) (y := (Int32.toInt h0_parts)) rfl rfl c71
            refine jn_s ?_
            refine br1 (by decide) ?_
            by_cases c74 : r50 = 0
            · refine br1 c74 ?_
              have d75 := eq_z (a := r50) (b := 0) (x := (Int32.toInt r50)) (y := 0) rfl rfl c74
              refine s_X5_isPlainWord r1 h0_asOrders (by first | with_reducible assumption | exact ⟨by omega, by omega⟩) (fun r76 H77 => ?_)
              have j78 := H77
              rcases j78 with j78 | j78
              · skip
                refine br1 (z_eq (x := (Int32.toInt r76)) (y := 0) rfl rfl (by omega)) ?_
                exact hq _ _ _ _ _ ⟨(by first | with_reducible assumption | exact ⟨by omega, by omega⟩), h_f_h0_draft_code⟩
              · skip
                by_cases c79 : r76 = 0
                · refine br1 c79 ?_
                  have d80 := eq_z (a := r76) (b := 0) (x := (Int32.toInt r76)) (y := 0) rfl rfl c79
                  exact hq _ _ _ _ _ ⟨(by first | with_reducible assumption | exact ⟨by omega, by omega⟩), h_f_h0_draft_code⟩
                · refine br0 c79 ?_
                  have d81 := ne_z (a := r76) (b := 0) (x := (Int32.toInt r76)) (y := 0) rfl rfl c79
                  refine br1 (by decide) ?_
                  refine br1 (z_eq (x := (Int32.toInt r50)) (y := 0) rfl rfl (by omega)) ?_
                  have t82 : (Int32.toInt (20 + r1)) = 20 + (Int32.toInt r1) := add_z rfl rfl (by omega) (by omega)
                  refine s_X5_write (20 + r1) 0 h0_draft_length (f_h0_draft_code) (by first | with_reducible assumption | exact ⟨by omega, by omega⟩) (by decide) (by first | with_reducible assumption | exact ⟨by omega, by omega⟩) h_f_h0_draft_code (fun r83 u84_0 u84_1 H85 => ?_)
                  have j86 := H85.1
                  have j87 := H85.2
                  refine un2_i ?_
                  have t88 := i32_lo h0_parts
                  have t89 : (Int32.toInt (h0_parts + 1)) = (Int32.toInt h0_parts) + 1 := add_z rfl rfl (by omega) (by omega)
                  exact hq _ _ _ _ _ ⟨(by first | with_reducible assumption | exact ⟨by omega, by omega⟩), j87⟩
            · refine br0 c74 ?_
              have d90 := ne_z (a := r50) (b := 0) (x := (Int32.toInt r50)) (y := 0) rfl rfl c74
              refine br1 (by decide) ?_
              refine br0 (z_ne (x := (Int32.toInt r50)) (y := 0) rfl rfl (by omega)) ?_
              refine s_X5_tokenNow h0_tokenCount (h0_now + 1) (f_h0_tokens) (by first | with_reducible assumption | exact ⟨by omega, by omega⟩) (fun r91 H92 => ?_)
              by_cases c93 : (r91 - 1000) < 0
              · refine br1 c93 ?_
                have d94 := lt_z (a := (r91 - 1000)) (b := 0) (x := (Int32.toInt (r91 - 1000))) (y := 0) rfl rfl c93
                have t95 := i32_lo h0_parts
                have t96 : (Int32.toInt (h0_parts + 1)) = (Int32.toInt h0_parts) + 1 := add_z rfl rfl (by omega) (by omega)
                exact hq _ _ _ _ _ ⟨(by first | with_reducible assumption | exact ⟨by omega, by omega⟩), h_f_h0_draft_code⟩
              · refine br0 c93 ?_
                have d97 := nlt_z (a := (r91 - 1000)) (b := 0) (x := (Int32.toInt (r91 - 1000))) (y := 0) rfl rfl c93
                by_cases c98 : (r91 - 1000) < r50
                · refine br1 c98 ?_
                  have d99 := lt_z (a := (r91 - 1000)) (b := r50) (x := (Int32.toInt (r91 - 1000))) (y := (Int32.toInt r50)) rfl rfl c98
                  by_cases c100 : r1 = 10
                  · refine br1 c100 ?_
                    have d101 := eq_z (a := r1) (b := 10) (x := (Int32.toInt r1)) (y := 10) rfl rfl c100
                    refine s_X5_write 13 (r91 - 1000) h0_draft_length (f_h0_draft_code) (by decide) (by first | with_reducible assumption | exact ⟨by omega, by omega⟩) (by first | with_reducible assumption | exact ⟨by omega, by omega⟩) h_f_h0_draft_code (fun r102 u103_0 u103_1 H104 => ?_)
                    have j105 := H104.1
                    have j106 := H104.2
                    refine un2_i ?_
                    have t107 := i32_lo h0_parts
                    have t108 : (Int32.toInt (h0_parts + 1)) = (Int32.toInt h0_parts) + 1 := add_z rfl rfl (by omega) (by omega)
                    exact hq _ _ _ _ _ ⟨(by first | with_reducible assumption | exact ⟨by omega, by omega⟩), j106⟩
                  · refine br0 c100 ?_
                    have d109 := ne_z (a := r1) (b := 10) (x := (Int32.toInt r1)) (y := 10) rfl rfl c100
                    have t110 : (Int32.toInt (20 + r1)) = 20 + (Int32.toInt r1) := add_z rfl rfl (by omega) (by omega)
                    refine s_X5_write (20 + r1) (r91 - 1000) h0_draft_length (f_h0_draft_code) (by first | with_reducible assumption | exact ⟨by omega, by omega⟩) (by first | with_reducible assumption | exact ⟨by omega, by omega⟩) (by first | with_reducible assumption | exact ⟨by omega, by omega⟩) h_f_h0_draft_code (fun r111 u112_0 u112_1 H113 => ?_)
                    have j114 := H113.1
                    have j115 := H113.2
                    refine un2_i ?_
                    have t116 := i32_lo h0_parts
                    have t117 : (Int32.toInt (h0_parts + 1)) = (Int32.toInt h0_parts) + 1 := add_z rfl rfl (by omega) (by omega)
                    exact hq _ _ _ _ _ ⟨(by first | with_reducible assumption | exact ⟨by omega, by omega⟩), j115⟩
                · refine br0 c98 ?_
                  have d118 := nlt_z (a := (r91 - 1000)) (b := r50) (x := (Int32.toInt (r91 - 1000))) (y := (Int32.toInt r50)) rfl rfl c98
                  have t119 := i32_lo h0_parts
                  have t120 : (Int32.toInt (h0_parts + 1)) = (Int32.toInt h0_parts) + 1 := add_z rfl rfl (by omega) (by omega)
                  exact hq _ _ _ _ _ ⟨(by first | with_reducible assumption | exact ⟨by omega, by omega⟩), h_f_h0_draft_code⟩
    · refine br0 c28 ?_
      have d121 := nlt_z (a := r1) (b := 1000) (x := (Int32.toInt r1)) (y := 1000) rfl rfl c28
      by_cases c122 : 2000 < r1
      · refine br1 c122 ?_
        have d123 := lt_z (a := 2000) (b := r1) (x := 2000) (y := (Int32.toInt r1)) rfl rfl c122
        refine jn_s ?_
        by_cases c124 : h0_asOrders = 0
        · refine br1 c124 ?_
          have d125 := eq_z (a := h0_asOrders) (b := 0) (x := (Int32.toInt h0_asOrders)) (y := 0) rfl rfl c124
          by_cases c126 : 50 ≤ h0_parts
          · refine br1 c126 ?_
            have d127 := le_z (a := 50) (b := h0_parts) (x := 50) (y := (Int32.toInt h0_parts)) rfl rfl c126
            exact hq _ _ _ _ _ ⟨(by first | with_reducible assumption | exact ⟨by omega, by omega⟩), h_f_h0_draft_code⟩
          · refine br0 c126 ?_
            have d128 := nle_z (a := 50) (b := h0_parts) (x := 50) (y := (Int32.toInt h0_parts)) rfl rfl c126
            refine jn_s ?_
            refine br1 (by decide) ?_
            refine br1 (by decide) ?_
            refine s_X5_isPlainWord r1 h0_asOrders (by first | with_reducible assumption | exact ⟨by omega, by omega⟩) (fun r129 H130 => ?_)
            have j131 := H130
            rcases j131 with j131 | j131
            · skip
              refine br1 (z_eq (x := (Int32.toInt r129)) (y := 0) rfl rfl (by omega)) ?_
              exact hq _ _ _ _ _ ⟨(by first | with_reducible assumption | exact ⟨by omega, by omega⟩), h_f_h0_draft_code⟩
            · skip
              by_cases c132 : r129 = 0
              · refine br1 c132 ?_
                have d133 := eq_z (a := r129) (b := 0) (x := (Int32.toInt r129)) (y := 0) rfl rfl c132
                exact hq _ _ _ _ _ ⟨(by first | with_reducible assumption | exact ⟨by omega, by omega⟩), h_f_h0_draft_code⟩
              · refine br0 c132 ?_
                have d134 := ne_z (a := r129) (b := 0) (x := (Int32.toInt r129)) (y := 0) rfl rfl c132
                refine br1 (by decide) ?_
                refine br1 (by decide) ?_
                have t135 : (Int32.toInt (20 + r1)) = 20 + (Int32.toInt r1) := add_z rfl rfl (by omega) (by omega)
                refine s_X5_write (20 + r1) 0 h0_draft_length (f_h0_draft_code) (by first | with_reducible assumption | exact ⟨by omega, by omega⟩) (by decide) (by first | with_reducible assumption | exact ⟨by omega, by omega⟩) h_f_h0_draft_code (fun r136 u137_0 u137_1 H138 => ?_)
                have j139 := H138.1
                have j140 := H138.2
                refine un2_i ?_
                have t141 := i32_lo h0_parts
                have t142 : (Int32.toInt (h0_parts + 1)) = (Int32.toInt h0_parts) + 1 := add_z rfl rfl (by omega) (by omega)
                exact hq _ _ _ _ _ ⟨(by first | with_reducible assumption | exact ⟨by omega, by omega⟩), j140⟩
        · refine br0 c124 ?_
          have d143 := ne_z (a := h0_asOrders) (b := 0) (x := (Int32.toInt h0_asOrders)) (y := 0) rfl rfl c124
          refine s_X5_choicesBehind r1  (fun r144 H145 => ?_)
          have j146 := H145.1
          have j147 := H145.2
          rcases j147 with j147 | j147
          · skip
            by_cases c148 : 50 ≤ h0_parts
            · refine br1 c148 ?_
              have d149 := le_z (a := 50) (b := h0_parts) (x := 50) (y := (Int32.toInt h0_parts)) rfl rfl c148
              exact hq _ _ _ _ _ ⟨(by first | with_reducible assumption | exact ⟨by omega, by omega⟩), h_f_h0_draft_code⟩
            · refine br0 c148 ?_
              have d150 := nle_z (a := 50) (b := h0_parts) (x := 50) (y := (Int32.toInt h0_parts)) rfl rfl c148
              refine jn_s ?_
              refine br1 (by decide) ?_
              refine br1 (z_eq (x := (Int32.toInt r144)) (y := 0) rfl rfl (by omega)) ?_
              refine s_X5_isPlainWord r1 h0_asOrders (by first | with_reducible assumption | exact ⟨by omega, by omega⟩) (fun r151 H152 => ?_)
              have j153 := H152
              rcases j153 with j153 | j153
              · skip
                refine br1 (z_eq (x := (Int32.toInt r151)) (y := 0) rfl rfl (by omega)) ?_
                exact hq _ _ _ _ _ ⟨(by first | with_reducible assumption | exact ⟨by omega, by omega⟩), h_f_h0_draft_code⟩
              · skip
                by_cases c154 : r151 = 0
                · refine br1 c154 ?_
                  have d155 := eq_z (a := r151) (b := 0) (x := (Int32.toInt r151)) (y := 0) rfl rfl c154
                  exact hq _ _ _ _ _ ⟨(by first | with_reducible assumption | exact ⟨by omega, by omega⟩), h_f_h0_draft_code⟩
                · refine br0 c154 ?_
                  have d156 := ne_z (a := r151) (b := 0) (x := (Int32.toInt r151)) (y := 0) rfl rfl c154
                  refine br1 (by decide) ?_
                  refine br1 (z_eq (x := (Int32.toInt r144)) (y := 0) rfl rfl (by omega)) ?_
                  have t157 : (Int32.toInt (20 + r1)) = 20 + (Int32.toInt r1) := add_z rfl rfl (by omega) (by omega)
                  refine s_X5_write (20 + r1) 0 h0_draft_length (f_h0_draft_code) (by first | with_reducible assumption | exact ⟨by omega, by omega⟩) (by decide) (by first | with_reducible assumption | exact ⟨by omega, by omega⟩) h_f_h0_draft_code (fun r158 u159_0 u159_1 H160 => ?_)
                  have j161 := H160.1
                  have j162 := H160.2
                  refine un2_i ?_
                  have t163 := i32_lo h0_parts
                  have t164 : (Int32.toInt (h0_parts + 1)) = (Int32.toInt h0_parts) + 1 := add_z rfl rfl (by omega) (by omega)
                  exact hq _ _ _ _ _ ⟨(by first | with_reducible assumption | exact ⟨by omega, by omega⟩), j162⟩
          · skip
            by_cases c165 : 50 ≤ h0_parts
            · refine br1 c165 ?_
              have d166 := le_z (a := 50) (b := h0_parts) (x := 50) (y := (Int32.toInt h0_parts)) rfl rfl c165
              exact hq _ _ _ _ _ ⟨(by first | with_reducible assumption | exact ⟨by omega, by omega⟩), h_f_h0_draft_code⟩
            · refine br0 c165 ?_
              have d167 := nle_z (a := 50) (b := h0_parts) (x := 50) (y := (Int32.toInt h0_parts)) rfl rfl c165
              refine jn_s ?_
              refine br1 (by decide) ?_
              by_cases c168 : r144 = 0
              · refine br1 c168 ?_
                have d169 := eq_z (a := r144) (b := 0) (x := (Int32.toInt r144)) (y := 0) rfl rfl c168
                refine s_X5_isPlainWord r1 h0_asOrders (by first | with_reducible assumption | exact ⟨by omega, by omega⟩) (fun r170 H171 => ?_)
                have j172 := H171
                rcases j172 with j172 | j172
                · skip
                  refine br1 (z_eq (x := (Int32.toInt r170)) (y := 0) rfl rfl (by omega)) ?_
                  exact hq _ _ _ _ _ ⟨(by first | with_reducible assumption | exact ⟨by omega, by omega⟩), h_f_h0_draft_code⟩
                · skip
                  by_cases c173 : r170 = 0
                  · refine br1 c173 ?_
                    have d174 := eq_z (a := r170) (b := 0) (x := (Int32.toInt r170)) (y := 0) rfl rfl c173
                    exact hq _ _ _ _ _ ⟨(by first | with_reducible assumption | exact ⟨by omega, by omega⟩), h_f_h0_draft_code⟩
                  · refine br0 c173 ?_
                    have d175 := ne_z (a := r170) (b := 0) (x := (Int32.toInt r170)) (y := 0) rfl rfl c173
                    refine br1 (by decide) ?_
                    refine br1 (z_eq (x := (Int32.toInt r144)) (y := 0) rfl rfl (by omega)) ?_
                    have t176 : (Int32.toInt (20 + r1)) = 20 + (Int32.toInt r1) := add_z rfl rfl (by omega) (by omega)
                    refine s_X5_write (20 + r1) 0 h0_draft_length (f_h0_draft_code) (by first | with_reducible assumption | exact ⟨by omega, by omega⟩) (by decide) (by first | with_reducible assumption | exact ⟨by omega, by omega⟩) h_f_h0_draft_code (fun r177 u178_0 u178_1 H179 => ?_)
                    have j180 := H179.1
                    have j181 := H179.2
                    refine un2_i ?_
                    have t182 := i32_lo h0_parts
                    have t183 : (Int32.toInt (h0_parts + 1)) = (Int32.toInt h0_parts) + 1 := add_z rfl rfl (by omega) (by omega)
                    exact hq _ _ _ _ _ ⟨(by first | with_reducible assumption | exact ⟨by omega, by omega⟩), j181⟩
              · refine br0 c168 ?_
                have d184 := ne_z (a := r144) (b := 0) (x := (Int32.toInt r144)) (y := 0) rfl rfl c168
                refine br1 (by decide) ?_
                refine br0 (z_ne (x := (Int32.toInt r144)) (y := 0) rfl rfl (by omega)) ?_
                refine s_X5_tokenNow h0_tokenCount (h0_now + 1) (f_h0_tokens) (by first | with_reducible assumption | exact ⟨by omega, by omega⟩) (fun r185 H186 => ?_)
                by_cases c187 : (r185 - 1000) < 0
                · refine br1 c187 ?_
                  have d188 := lt_z (a := (r185 - 1000)) (b := 0) (x := (Int32.toInt (r185 - 1000))) (y := 0) rfl rfl c187
                  have t189 := i32_lo h0_parts
                  have t190 : (Int32.toInt (h0_parts + 1)) = (Int32.toInt h0_parts) + 1 := add_z rfl rfl (by omega) (by omega)
                  exact hq _ _ _ _ _ ⟨(by first | with_reducible assumption | exact ⟨by omega, by omega⟩), h_f_h0_draft_code⟩
                · refine br0 c187 ?_
                  have d191 := nlt_z (a := (r185 - 1000)) (b := 0) (x := (Int32.toInt (r185 - 1000))) (y := 0) rfl rfl c187
                  by_cases c192 : (r185 - 1000) < r144
                  · refine br1 c192 ?_
                    have d193 := lt_z (a := (r185 - 1000)) (b := r144) (x := (Int32.toInt (r185 - 1000))) (y := (Int32.toInt r144)) rfl rfl c192
                    refine br0 (z_ne (x := (Int32.toInt r1)) (y := 10) rfl rfl (by omega)) ?_
                    have t194 : (Int32.toInt (20 + r1)) = 20 + (Int32.toInt r1) := add_z rfl rfl (by omega) (by omega)
                    refine s_X5_write (20 + r1) (r185 - 1000) h0_draft_length (f_h0_draft_code) (by first | with_reducible assumption | exact ⟨by omega, by omega⟩) (by first | with_reducible assumption | exact ⟨by omega, by omega⟩) (by first | with_reducible assumption | exact ⟨by omega, by omega⟩) h_f_h0_draft_code (fun r195 u196_0 u196_1 H197 => ?_)
                    have j198 := H197.1
                    have j199 := H197.2
                    refine un2_i ?_
                    have t200 := i32_lo h0_parts
                    have t201 : (Int32.toInt (h0_parts + 1)) = (Int32.toInt h0_parts) + 1 := add_z rfl rfl (by omega) (by omega)
                    exact hq _ _ _ _ _ ⟨(by first | with_reducible assumption | exact ⟨by omega, by omega⟩), j199⟩
                  · refine br0 c192 ?_
                    have d202 := nlt_z (a := (r185 - 1000)) (b := r144) (x := (Int32.toInt (r185 - 1000))) (y := (Int32.toInt r144)) rfl rfl c192
                    have t203 := i32_lo h0_parts
                    have t204 : (Int32.toInt (h0_parts + 1)) = (Int32.toInt h0_parts) + 1 := add_z rfl rfl (by omega) (by omega)
                    exact hq _ _ _ _ _ ⟨(by first | with_reducible assumption | exact ⟨by omega, by omega⟩), h_f_h0_draft_code⟩
      · refine br0 c122 ?_
        have d205 := nlt_z (a := 2000) (b := r1) (x := 2000) (y := (Int32.toInt r1)) rfl rfl c122
        refine jn_s ?_
        by_cases c206 : h0_asOrders = 0
        · refine br1 c206 ?_
          have d207 := eq_z (a := h0_asOrders) (b := 0) (x := (Int32.toInt h0_asOrders)) (y := 0) rfl rfl c206
          by_cases c208 : 50 ≤ h0_parts
          · refine br1 c208 ?_
            have d209 := le_z (a := 50) (b := h0_parts) (x := 50) (y := (Int32.toInt h0_parts)) rfl rfl c208
            exact hq _ _ _ _ _ ⟨(by first | with_reducible assumption | exact ⟨by omega, by omega⟩), h_f_h0_draft_code⟩
          · refine br0 c208 ?_
            have d210 := nle_z (a := 50) (b := h0_parts) (x := 50) (y := (Int32.toInt h0_parts)) rfl rfl c208
            refine jn_s ?_
            refine br0 (by decide) ?_
            refine br0 (by decide) ?_
            have t211 : (Int32.toInt (r1 - 1000)) = (Int32.toInt r1) - 1000 := sub_z rfl rfl (by omega) (by omega)
            refine s_X5_write 1 (r1 - 1000) h0_draft_length (f_h0_draft_code) (by decide) (by first | with_reducible assumption | exact ⟨by omega, by omega⟩) (by first | with_reducible assumption | exact ⟨by omega, by omega⟩) h_f_h0_draft_code (fun r212 u213_0 u213_1 H214 => ?_)
            have j215 := H214.1
            have j216 := H214.2
            refine un2_i ?_
            have t217 := i32_lo h0_parts
            have t218 : (Int32.toInt (h0_parts + 1)) = (Int32.toInt h0_parts) + 1 := add_z rfl rfl (by omega) (by omega)
            exact hq _ _ _ _ _ ⟨(by first | with_reducible assumption | exact ⟨by omega, by omega⟩), j216⟩
        · refine br0 c206 ?_
          have d219 := ne_z (a := h0_asOrders) (b := 0) (x := (Int32.toInt h0_asOrders)) (y := 0) rfl rfl c206
          refine s_X5_choicesBehind r1  (fun r220 H221 => ?_)
          have j222 := H221.1
          have j223 := H221.2
          rcases j223 with j223 | j223
          · skip
            by_cases c224 : 50 ≤ h0_parts
            · refine br1 c224 ?_
              have d225 := le_z (a := 50) (b := h0_parts) (x := 50) (y := (Int32.toInt h0_parts)) rfl rfl c224
              exact hq _ _ _ _ _ ⟨(by first | with_reducible assumption | exact ⟨by omega, by omega⟩), h_f_h0_draft_code⟩
            · refine br0 c224 ?_
              have d226 := nle_z (a := 50) (b := h0_parts) (x := 50) (y := (Int32.toInt h0_parts)) rfl rfl c224
              refine jn_s ?_
              refine br0 (by decide) ?_
              refine br0 (by decide) ?_
              have t227 : (Int32.toInt (r1 - 1000)) = (Int32.toInt r1) - 1000 := sub_z rfl rfl (by omega) (by omega)
              refine s_X5_write 1 (r1 - 1000) h0_draft_length (f_h0_draft_code) (by decide) (by first | with_reducible assumption | exact ⟨by omega, by omega⟩) (by first | with_reducible assumption | exact ⟨by omega, by omega⟩) h_f_h0_draft_code (fun r228 u229_0 u229_1 H230 => ?_)
              have j231 := H230.1
              have j232 := H230.2
              refine un2_i ?_
              have t233 := i32_lo h0_parts
              have t234 : (Int32.toInt (h0_parts + 1)) = (Int32.toInt h0_parts) + 1 := add_z rfl rfl (by omega) (by omega)
              exact hq _ _ _ _ _ ⟨(by first | with_reducible assumption | exact ⟨by omega, by omega⟩), j232⟩
          · skip
            by_cases c235 : 50 ≤ h0_parts
            · refine br1 c235 ?_
              have d236 := le_z (a := 50) (b := h0_parts) (x := 50) (y := (Int32.toInt h0_parts)) rfl rfl c235
              exact hq _ _ _ _ _ ⟨(by first | with_reducible assumption | exact ⟨by omega, by omega⟩), h_f_h0_draft_code⟩
            · refine br0 c235 ?_
              have d237 := nle_z (a := 50) (b := h0_parts) (x := 50) (y := (Int32.toInt h0_parts)) rfl rfl c235
              refine jn_s ?_
              refine br0 (by decide) ?_
              refine br0 (by decide) ?_
              have t238 : (Int32.toInt (r1 - 1000)) = (Int32.toInt r1) - 1000 := sub_z rfl rfl (by omega) (by omega)
              refine s_X5_write 1 (r1 - 1000) h0_draft_length (f_h0_draft_code) (by decide) (by first | with_reducible assumption | exact ⟨by omega, by omega⟩) (by first | with_reducible assumption | exact ⟨by omega, by omega⟩) h_f_h0_draft_code (fun r239 u240_0 u240_1 H241 => ?_)
              have j242 := H241.1
              have j243 := H241.2
              refine un2_i ?_
              have t244 := i32_lo h0_parts
              have t245 : (Int32.toInt (h0_parts + 1)) = (Int32.toInt h0_parts) + 1 := add_z rfl rfl (by omega) (by omega)
              exact hq _ _ _ _ _ ⟨(by first | with_reducible assumption | exact ⟨by omega, by omega⟩), j243⟩


set_option maxRecDepth 100000 in
theorem sl_X5_readSum_17 (a : Int32) (h0_length : Int32) (h0_tokenCount : Int32) (h0_asOrders : Int32) (h0_faultPlace : Int32) (f_h0_tokens : Nat → Int32) (h0_draft_clauses : Int32) (wS : Int32 → Int32 → Int32 → Int32 → Int32 → Int32 → Int32 → (Nat → Int32) → Int32 → Int32 → (Nat → Int32) → (Int32 → (Int32 × Int32 × Int32 × (Nat → Int32)) → Prop) → Prop) (lv : Int) (h_a : 0 ≤ a.toInt ∧ a.toInt ≤ 8) (h_h0_length : 0 ≤ h0_length.toInt ∧ h0_length.toInt ≤ 400) (h_h0_tokenCount : 0 ≤ h0_tokenCount.toInt ∧ h0_tokenCount.toInt ≤ 401) (h_h0_asOrders : 0 ≤ h0_asOrders.toInt ∧ h0_asOrders.toInt ≤ 1) (h_h0_draft_clauses : 0 ≤ h0_draft_clauses.toInt ∧ h0_draft_clauses.toInt ≤ 12) (hS : ∀ (a : Int32) (h0_length : Int32) (h0_tokenCount : Int32) (h0_now : Int32) (h0_parts : Int32) (h0_asOrders : Int32) (h0_faultPlace : Int32) (f_h0_tokens : Nat → Int32) (h0_draft_clauses : Int32) (h0_draft_length : Int32) (f_h0_draft_code : Nat → Int32), (0 ≤ a.toInt ∧ a.toInt ≤ 8) → (0 ≤ h0_length.toInt ∧ h0_length.toInt ≤ 400) → (0 ≤ h0_tokenCount.toInt ∧ h0_tokenCount.toInt ≤ 401) → (0 ≤ h0_asOrders.toInt ∧ h0_asOrders.toInt ≤ 1) → (0 ≤ h0_draft_clauses.toInt ∧ h0_draft_clauses.toInt ≤ 12) → (0 ≤ h0_draft_length.toInt ∧ h0_draft_length.toInt ≤ 400) → (CD f_h0_draft_code) → (lv ≤ a.toInt) → ∀ {Q : Int32 → (Int32 × Int32 × Int32 × (Nat → Int32)) → Prop}, (∀ (r : Int32) (u_0 : Int32) (u_1 : Int32) (u_2 : Int32) (u_3 : Nat → Int32), (0 ≤ u_2.toInt ∧ u_2.toInt ≤ 400) ∧ (CD u_3) → Q r (u_0, u_1, u_2, u_3)) → wS a h0_length h0_tokenCount h0_now h0_parts h0_asOrders h0_faultPlace f_h0_tokens h0_draft_clauses h0_draft_length f_h0_draft_code Q) (e_0 : lv ≤ a.toInt) {Q : Int32 → (Int32 × Int32 × Int32 × (Nat → Int32)) → Prop} (hq : ∀ (r : Int32) (u_0 : Int32) (u_1 : Int32) (u_2 : Int32) (u_3 : Nat → Int32), (0 ≤ u_2.toInt ∧ u_2.toInt ≤ 400) ∧ (CD u_3) → Q r (u_0, u_1, u_2, u_3)) (Qb : Int32 → Int32 → Int32 → Int32 → Int32 → (Nat → Int32) → Prop) (KX : ∀ (x_17_0 : Int32) (x_17_1 : Int32) (x_17_2 : Int32) (x_17_3 : Int32) (x_17_4 : Int32) (x_17_5 : Nat → Int32), (0 ≤ x_17_0.toInt ∧ x_17_0.toInt ≤ 400) ∧ ((-1) ≤ x_17_1.toInt ∧ x_17_1.toInt ≤ 6) ∧ (0 ≤ x_17_4.toInt ∧ x_17_4.toInt ≤ 400) ∧ (CD x_17_5) → Qb x_17_0 x_17_1 x_17_2 x_17_3 x_17_4 x_17_5) : ∀ (n : Nat) (x_17_0 : Int32) (x_17_1 : Int32) (x_17_2 : Int32) (x_17_3 : Int32) (x_17_4 : Int32) (x_17_5 : Nat → Int32), (0 ≤ x_17_0.toInt ∧ x_17_0.toInt ≤ 400) ∧ ((-1) ≤ x_17_1.toInt ∧ x_17_1.toInt ≤ 6) ∧ (0 ≤ x_17_4.toInt ∧ x_17_4.toInt ≤ 400) ∧ (CD x_17_5) → 401 - x_17_0.toInt < (n : Int) → wl_X5_readSum_17 a h0_length h0_tokenCount h0_asOrders h0_faultPlace f_h0_tokens h0_draft_clauses wS Q Qb n x_17_0 x_17_1 x_17_2 x_17_3 x_17_4 x_17_5 := by
  intro n
  induction n with
  | zero =>
    intro x_17_0 x_17_1 x_17_2 x_17_3 x_17_4 x_17_5 hI hm
    exfalso; have hm : 401 - x_17_0.toInt < 0 := hm; omega
  | succ n ih =>
    intro x_17_0 x_17_1 x_17_2 x_17_3 x_17_4 x_17_5 hI hm
    have hm : 401 - x_17_0.toInt < (n : Int) + 1 := by simpa using hm
    have h_x_17_0 := hI.1
    have h_x_17_1 := hI.2.1
    have h_x_17_4 := hI.2.2.1
    have h_x_17_5 := hI.2.2.2
    unfold wl_X5_readSum_17
    by_cases c4 : 400 ≤ x_17_0
    · refine br1 c4 ?_
      have d5 := le_z (a := 400) (b := x_17_0) (x := 400) (y := (Int32.toInt x_17_0)) rfl rfl c4
      exact KX _ _ _ _ _ _ ⟨(by first | with_reducible assumption | exact ⟨by omega, by omega⟩), (by first | with_reducible assumption | exact ⟨by omega, by omega⟩), (by first | with_reducible assumption | exact ⟨by omega, by omega⟩), h_x_17_5⟩
    · refine br0 c4 ?_
      have d6 := nle_z (a := 400) (b := x_17_0) (x := 400) (y := (Int32.toInt x_17_0)) rfl rfl c4
      refine hS a h0_length h0_tokenCount x_17_2 x_17_3 h0_asOrders h0_faultPlace (f_h0_tokens) h0_draft_clauses x_17_4 (x_17_5) (by first | with_reducible assumption | exact ⟨by omega, by omega⟩) (by first | with_reducible assumption | exact ⟨by omega, by omega⟩) (by first | with_reducible assumption | exact ⟨by omega, by omega⟩) (by first | with_reducible assumption | exact ⟨by omega, by omega⟩) (by first | with_reducible assumption | exact ⟨by omega, by omega⟩) (by first | with_reducible assumption | exact ⟨by omega, by omega⟩) h_x_17_5 (by omega) (fun r7 u8_0 u8_1 u8_2 u8_3 H9 => ?_)
      have j10 := H9.1
      have j11 := H9.2
      refine un4_i ?_
      by_cases c12 : r7 = 0
      · refine br1 c12 ?_
        have d13 := eq_z (a := r7) (b := 0) (x := (Int32.toInt r7)) (y := 0) rfl rfl c12
        exact hq _ _ _ _ _ ⟨(by first | with_reducible assumption | exact ⟨by omega, by omega⟩), j11⟩
      · refine br0 c12 ?_
        have d14 := ne_z (a := r7) (b := 0) (x := (Int32.toInt r7)) (y := 0) rfl rfl c12
        refine s_X5_write x_17_1 0 u8_2 (u8_3) (by first | with_reducible assumption | exact ⟨by omega, by omega⟩) (by decide) (by first | with_reducible assumption | exact ⟨by omega, by omega⟩) j11 (fun r15 u16_0 u16_1 H17 => ?_)
        have j18 := H17.1
        have j19 := H17.2
        refine un2_i ?_
        by_cases c20 : r15 = 0
        · refine br1 c20 ?_
          have d21 := eq_z (a := r15) (b := 0) (x := (Int32.toInt r15)) (y := 0) rfl rfl c20
          exact hq _ _ _ _ _ ⟨(by first | with_reducible assumption | exact ⟨by omega, by omega⟩), j19⟩
        · refine br0 c20 ?_
          have d22 := ne_z (a := r15) (b := 0) (x := (Int32.toInt r15)) (y := 0) rfl rfl c20
          refine s_X5_tokenNow h0_tokenCount u8_0 (f_h0_tokens) (by first | with_reducible assumption | exact ⟨by omega, by omega⟩) (fun r23 H24 => ?_)
          refine s_X5_timingOf r23  (fun r25 H26 => ?_)
          have j27 := H26
          by_cases c28 : r25 = (-1)
          · refine br1 c28 ?_
            have d29 := eq_z (a := r25) (b := (-1)) (x := (Int32.toInt r25)) (y := (-1)) rfl (by decide) c28
            exact KX _ _ _ _ _ _ ⟨(by first | with_reducible assumption | exact ⟨by omega, by omega⟩), (by first | with_reducible assumption | exact ⟨by omega, by omega⟩), (by first | with_reducible assumption | exact ⟨by omega, by omega⟩), j19⟩
          · refine br0 c28 ?_
            have d30 := ne_z (a := r25) (b := (-1)) (x := (Int32.toInt r25)) (y := (-1)) rfl (by decide) c28
            have t31 : (Int32.toInt (x_17_0 + 1)) = (Int32.toInt x_17_0) + 1 := add_z rfl rfl (by omega) (by omega)
            exact ih _ _ _ _ _ _ ⟨(by first | with_reducible assumption | exact ⟨by omega, by omega⟩), (by first | with_reducible assumption | exact ⟨by omega, by omega⟩), (by first | with_reducible assumption | exact ⟨by omega, by omega⟩), j19⟩ (by omega)
set_option maxRecDepth 100000 in
theorem sl_X5_readSum_4 (a : Int32) (h0_length : Int32) (h0_tokenCount : Int32) (h0_asOrders : Int32) (h0_faultPlace : Int32) (f_h0_tokens : Nat → Int32) (h0_draft_clauses : Int32) (wS : Int32 → Int32 → Int32 → Int32 → Int32 → Int32 → Int32 → (Nat → Int32) → Int32 → Int32 → (Nat → Int32) → (Int32 → (Int32 × Int32 × Int32 × (Nat → Int32)) → Prop) → Prop) (lv : Int) (h_a : 0 ≤ a.toInt ∧ a.toInt ≤ 8) (h_h0_length : 0 ≤ h0_length.toInt ∧ h0_length.toInt ≤ 400) (h_h0_tokenCount : 0 ≤ h0_tokenCount.toInt ∧ h0_tokenCount.toInt ≤ 401) (h_h0_asOrders : 0 ≤ h0_asOrders.toInt ∧ h0_asOrders.toInt ≤ 1) (h_h0_draft_clauses : 0 ≤ h0_draft_clauses.toInt ∧ h0_draft_clauses.toInt ≤ 12) (hS : ∀ (a : Int32) (h0_length : Int32) (h0_tokenCount : Int32) (h0_now : Int32) (h0_parts : Int32) (h0_asOrders : Int32) (h0_faultPlace : Int32) (f_h0_tokens : Nat → Int32) (h0_draft_clauses : Int32) (h0_draft_length : Int32) (f_h0_draft_code : Nat → Int32), (0 ≤ a.toInt ∧ a.toInt ≤ 8) → (0 ≤ h0_length.toInt ∧ h0_length.toInt ≤ 400) → (0 ≤ h0_tokenCount.toInt ∧ h0_tokenCount.toInt ≤ 401) → (0 ≤ h0_asOrders.toInt ∧ h0_asOrders.toInt ≤ 1) → (0 ≤ h0_draft_clauses.toInt ∧ h0_draft_clauses.toInt ≤ 12) → (0 ≤ h0_draft_length.toInt ∧ h0_draft_length.toInt ≤ 400) → (CD f_h0_draft_code) → (lv ≤ a.toInt) → ∀ {Q : Int32 → (Int32 × Int32 × Int32 × (Nat → Int32)) → Prop}, (∀ (r : Int32) (u_0 : Int32) (u_1 : Int32) (u_2 : Int32) (u_3 : Nat → Int32), (0 ≤ u_2.toInt ∧ u_2.toInt ≤ 400) ∧ (CD u_3) → Q r (u_0, u_1, u_2, u_3)) → wS a h0_length h0_tokenCount h0_now h0_parts h0_asOrders h0_faultPlace f_h0_tokens h0_draft_clauses h0_draft_length f_h0_draft_code Q) (e_0 : lv ≤ a.toInt) {Q : Int32 → (Int32 × Int32 × Int32 × (Nat → Int32)) → Prop} (hq : ∀ (r : Int32) (u_0 : Int32) (u_1 : Int32) (u_2 : Int32) (u_3 : Nat → Int32), (0 ≤ u_2.toInt ∧ u_2.toInt ≤ 400) ∧ (CD u_3) → Q r (u_0, u_1, u_2, u_3)) (Qb : Int32 → Int32 → Int32 → Int32 → Int32 → (Nat → Int32) → Prop) (KX : ∀ (x_4_0 : Int32) (x_4_1 : Int32) (x_4_2 : Int32) (x_4_3 : Int32) (x_4_4 : Int32) (x_4_5 : Nat → Int32), (400 ≤ x_4_0.toInt ∧ x_4_0.toInt ≤ 400) ∧ ((-1) ≤ x_4_1.toInt ∧ x_4_1.toInt ≤ 3) ∧ (0 ≤ x_4_4.toInt ∧ x_4_4.toInt ≤ 400) ∧ (CD x_4_5) → Qb x_4_0 x_4_1 x_4_2 x_4_3 x_4_4 x_4_5) : ∀ (n : Nat) (x_4_0 : Int32) (x_4_1 : Int32) (x_4_2 : Int32) (x_4_3 : Int32) (x_4_4 : Int32) (x_4_5 : Nat → Int32), (0 ≤ x_4_0.toInt ∧ x_4_0.toInt ≤ 400) ∧ ((-1) ≤ x_4_1.toInt ∧ x_4_1.toInt ≤ 3) ∧ (0 ≤ x_4_4.toInt ∧ x_4_4.toInt ≤ 400) ∧ (CD x_4_5) → 401 - x_4_0.toInt < (n : Int) → wl_X5_readSum_4 a h0_length h0_tokenCount h0_asOrders h0_faultPlace f_h0_tokens h0_draft_clauses wS Q Qb n x_4_0 x_4_1 x_4_2 x_4_3 x_4_4 x_4_5 := by
  intro n
  induction n with
  | zero =>
    intro x_4_0 x_4_1 x_4_2 x_4_3 x_4_4 x_4_5 hI hm
    exfalso; have hm : 401 - x_4_0.toInt < 0 := hm; omega
  | succ n ih =>
    intro x_4_0 x_4_1 x_4_2 x_4_3 x_4_4 x_4_5 hI hm
    have hm : 401 - x_4_0.toInt < (n : Int) + 1 := by simpa using hm
    have h_x_4_0 := hI.1
    have h_x_4_1 := hI.2.1
    have h_x_4_4 := hI.2.2.1
    have h_x_4_5 := hI.2.2.2
    unfold wl_X5_readSum_4
    by_cases c1 : 400 ≤ x_4_0
    · refine br1 c1 ?_
      have d2 := le_z (a := 400) (b := x_4_0) (x := 400) (y := (Int32.toInt x_4_0)) rfl rfl c1
      exact KX _ _ _ _ _ _ ⟨(by first | with_reducible assumption | exact ⟨by omega, by omega⟩), (by first | with_reducible assumption | exact ⟨by omega, by omega⟩), (by first | with_reducible assumption | exact ⟨by omega, by omega⟩), h_x_4_5⟩
    · refine br0 c1 ?_
      have d3 := nle_z (a := 400) (b := x_4_0) (x := 400) (y := (Int32.toInt x_4_0)) rfl rfl c1
      have k6 : Int32.toInt 0 = 0 := rfl
      have k7 : Int32.toInt (-1) = (-1) := (by decide)
      refine sl_X5_readSum_17 a h0_length h0_tokenCount h0_asOrders h0_faultPlace (f_h0_tokens) h0_draft_clauses wS lv (by first | with_reducible assumption | exact ⟨by omega, by omega⟩) (by first | with_reducible assumption | exact ⟨by omega, by omega⟩) (by first | with_reducible assumption | exact ⟨by omega, by omega⟩) (by first | with_reducible assumption | exact ⟨by omega, by omega⟩) (by first | with_reducible assumption | exact ⟨by omega, by omega⟩) hS e_0 hq _ (fun x4_0 x4_1 x4_2 x4_3 x4_4 x4_5 X5 => ?_) 1000000000000 0 (-1) x_4_2 x_4_3 x_4_4 (x_4_5) ⟨(by decide), (by decide), (by first | with_reducible assumption | exact ⟨by omega, by omega⟩), h_x_4_5⟩ (by omega)
      have j8 := X5.1
      have j9 := X5.2.1
      have j10 := X5.2.2.1
      have j11 := X5.2.2.2
      refine s_X5_write x_4_1 0 x4_4 (x4_5) (by first | with_reducible assumption | exact ⟨by omega, by omega⟩) (by decide) (by first | with_reducible assumption | exact ⟨by omega, by omega⟩) j11 (fun r12 u13_0 u13_1 H14 => ?_)
      have j15 := H14.1
      have j16 := H14.2
      refine un2_i ?_
      by_cases c17 : r12 = 0
      · refine br1 c17 ?_
        have d18 := eq_z (a := r12) (b := 0) (x := (Int32.toInt r12)) (y := 0) rfl rfl c17
        exact hq _ _ _ _ _ ⟨(by first | with_reducible assumption | exact ⟨by omega, by omega⟩), j16⟩
      · refine br0 c17 ?_
        have d19 := ne_z (a := r12) (b := 0) (x := (Int32.toInt r12)) (y := 0) rfl rfl c17
        refine s_X5_tokenNow h0_tokenCount x4_2 (f_h0_tokens) (by first | with_reducible assumption | exact ⟨by omega, by omega⟩) (fun r20 H21 => ?_)
        refine s_X5_addingOf r20  (fun r22 H23 => ?_)
        have j24 := H23
        by_cases c25 : r22 = (-1)
        · refine br1 c25 ?_
          have d26 := eq_z (a := r22) (b := (-1)) (x := (Int32.toInt r22)) (y := (-1)) rfl (by decide) c25
          exact hq _ _ _ _ _ ⟨(by first | with_reducible assumption | exact ⟨by omega, by omega⟩), j16⟩
        · refine br0 c25 ?_
          have d27 := ne_z (a := r22) (b := (-1)) (x := (Int32.toInt r22)) (y := (-1)) rfl (by decide) c25
          have t28 : (Int32.toInt (x_4_0 + 1)) = (Int32.toInt x_4_0) + 1 := add_z rfl rfl (by omega) (by omega)
          exact ih _ _ _ _ _ _ ⟨(by first | with_reducible assumption | exact ⟨by omega, by omega⟩), (by first | with_reducible assumption | exact ⟨by omega, by omega⟩), (by first | with_reducible assumption | exact ⟨by omega, by omega⟩), j16⟩ (by omega)
set_option maxRecDepth 100000 in
theorem s_X5_readSum (wS : Int32 → Int32 → Int32 → Int32 → Int32 → Int32 → Int32 → (Nat → Int32) → Int32 → Int32 → (Nat → Int32) → (Int32 → (Int32 × Int32 × Int32 × (Nat → Int32)) → Prop) → Prop) (a : Int32) (h0_length : Int32) (h0_tokenCount : Int32) (h0_now : Int32) (h0_parts : Int32) (h0_asOrders : Int32) (h0_faultPlace : Int32) (f_h0_tokens : Nat → Int32) (h0_draft_clauses : Int32) (h0_draft_length : Int32) (f_h0_draft_code : Nat → Int32) (lv : Int) (hS : ∀ (a : Int32) (h0_length : Int32) (h0_tokenCount : Int32) (h0_now : Int32) (h0_parts : Int32) (h0_asOrders : Int32) (h0_faultPlace : Int32) (f_h0_tokens : Nat → Int32) (h0_draft_clauses : Int32) (h0_draft_length : Int32) (f_h0_draft_code : Nat → Int32), (0 ≤ a.toInt ∧ a.toInt ≤ 8) → (0 ≤ h0_length.toInt ∧ h0_length.toInt ≤ 400) → (0 ≤ h0_tokenCount.toInt ∧ h0_tokenCount.toInt ≤ 401) → (0 ≤ h0_asOrders.toInt ∧ h0_asOrders.toInt ≤ 1) → (0 ≤ h0_draft_clauses.toInt ∧ h0_draft_clauses.toInt ≤ 12) → (0 ≤ h0_draft_length.toInt ∧ h0_draft_length.toInt ≤ 400) → (CD f_h0_draft_code) → (lv ≤ a.toInt) → ∀ {Q : Int32 → (Int32 × Int32 × Int32 × (Nat → Int32)) → Prop}, (∀ (r : Int32) (u_0 : Int32) (u_1 : Int32) (u_2 : Int32) (u_3 : Nat → Int32), (0 ≤ u_2.toInt ∧ u_2.toInt ≤ 400) ∧ (CD u_3) → Q r (u_0, u_1, u_2, u_3)) → wS a h0_length h0_tokenCount h0_now h0_parts h0_asOrders h0_faultPlace f_h0_tokens h0_draft_clauses h0_draft_length f_h0_draft_code Q) (h_a : 0 ≤ a.toInt ∧ a.toInt ≤ 8) (h_h0_length : 0 ≤ h0_length.toInt ∧ h0_length.toInt ≤ 400) (h_h0_tokenCount : 0 ≤ h0_tokenCount.toInt ∧ h0_tokenCount.toInt ≤ 401) (h_h0_asOrders : 0 ≤ h0_asOrders.toInt ∧ h0_asOrders.toInt ≤ 1) (h_h0_draft_clauses : 0 ≤ h0_draft_clauses.toInt ∧ h0_draft_clauses.toInt ≤ 12) (h_h0_draft_length : 0 ≤ h0_draft_length.toInt ∧ h0_draft_length.toInt ≤ 400) (h_f_h0_draft_code : CD f_h0_draft_code) (e_0 : lv ≤ a.toInt) {Q : Int32 → (Int32 × Int32 × Int32 × (Nat → Int32)) → Prop} (hq : ∀ (r : Int32) (u_0 : Int32) (u_1 : Int32) (u_2 : Int32) (u_3 : Nat → Int32), (0 ≤ u_2.toInt ∧ u_2.toInt ≤ 400) ∧ (CD u_3) → Q r (u_0, u_1, u_2, u_3)) : wp_X5_readSum wS a h0_length h0_tokenCount h0_now h0_parts h0_asOrders h0_faultPlace f_h0_tokens h0_draft_clauses h0_draft_length f_h0_draft_code Q := by
  unfold wp_X5_readSum
  have k3 : Int32.toInt 0 = 0 := rfl
  have k4 : Int32.toInt (-1) = (-1) := (by decide)
  refine sl_X5_readSum_4 a h0_length h0_tokenCount h0_asOrders h0_faultPlace (f_h0_tokens) h0_draft_clauses wS lv (by first | with_reducible assumption | exact ⟨by omega, by omega⟩) (by first | with_reducible assumption | exact ⟨by omega, by omega⟩) (by first | with_reducible assumption | exact ⟨by omega, by omega⟩) (by first | with_reducible assumption | exact ⟨by omega, by omega⟩) (by first | with_reducible assumption | exact ⟨by omega, by omega⟩) hS e_0 hq _ (fun x1_0 x1_1 x1_2 x1_3 x1_4 x1_5 X2 => ?_) 1000000000000 0 (-1) h0_now h0_parts h0_draft_length (f_h0_draft_code) ⟨(by decide), (by decide), (by first | with_reducible assumption | exact ⟨by omega, by omega⟩), h_f_h0_draft_code⟩ (by omega)
  have j5 := X2.1
  have j6 := X2.2.1
  have j7 := X2.2.2.1
  have j8 := X2.2.2.2
  exact hq _ _ _ _ _ ⟨(by first | with_reducible assumption | exact ⟨by omega, by omega⟩), j8⟩


theorem q_sum : ∀ (n : Nat) (a : Int32) (h0_length : Int32) (h0_tokenCount : Int32) (h0_now : Int32) (h0_parts : Int32) (h0_asOrders : Int32) (h0_faultPlace : Int32) (f_h0_tokens : Nat → Int32) (h0_draft_clauses : Int32) (h0_draft_length : Int32) (f_h0_draft_code : Nat → Int32), (0 ≤ a.toInt ∧ a.toInt ≤ 8) → (0 ≤ h0_length.toInt ∧ h0_length.toInt ≤ 400) → (0 ≤ h0_tokenCount.toInt ∧ h0_tokenCount.toInt ≤ 401) → (0 ≤ h0_asOrders.toInt ∧ h0_asOrders.toInt ≤ 1) → (0 ≤ h0_draft_clauses.toInt ∧ h0_draft_clauses.toInt ≤ 12) → (0 ≤ h0_draft_length.toInt ∧ h0_draft_length.toInt ≤ 400) → (CD f_h0_draft_code) → (9 - (n : Int) ≤ a.toInt) → ∀ {Q : Int32 → (Int32 × Int32 × Int32 × (Nat → Int32)) → Prop}, (∀ (r : Int32) (u_0 : Int32) (u_1 : Int32) (u_2 : Int32) (u_3 : Nat → Int32), (0 ≤ u_2.toInt ∧ u_2.toInt ≤ 400) ∧ (CD u_3) → Q r (u_0, u_1, u_2, u_3)) → wq_sum n a h0_length h0_tokenCount h0_now h0_parts h0_asOrders h0_faultPlace f_h0_tokens h0_draft_clauses h0_draft_length f_h0_draft_code Q := by
  intro n
  induction n with
  | zero =>
    intro a h0_length h0_tokenCount h0_now h0_parts h0_asOrders h0_faultPlace f_h0_tokens h0_draft_clauses h0_draft_length f_h0_draft_code h_a h_h0_length h_h0_tokenCount h_h0_asOrders h_h0_draft_clauses h_h0_draft_length h_f_h0_draft_code e Q hq
    exfalso; have e : 9 - 0 ≤ a.toInt := e; omega
  | succ n ih =>
    intro a h0_length h0_tokenCount h0_now h0_parts h0_asOrders h0_faultPlace f_h0_tokens h0_draft_clauses h0_draft_length f_h0_draft_code h_a h_h0_length h_h0_tokenCount h_h0_asOrders h_h0_draft_clauses h_h0_draft_length h_f_h0_draft_code e Q hq
    have e : 9 - ((n : Int) + 1) ≤ a.toInt := by simpa using e
    show wp_X5_readSum (wp_X5_readPart (wq_sum n)) a h0_length h0_tokenCount h0_now h0_parts h0_asOrders h0_faultPlace f_h0_tokens h0_draft_clauses h0_draft_length f_h0_draft_code Q
    refine s_X5_readSum (wp_X5_readPart (wq_sum n)) a h0_length h0_tokenCount h0_now h0_parts h0_asOrders h0_faultPlace f_h0_tokens h0_draft_clauses h0_draft_length f_h0_draft_code (8 - (n : Int)) (fun a h0_length h0_tokenCount h0_now h0_parts h0_asOrders h0_faultPlace f_h0_tokens h0_draft_clauses h0_draft_length f_h0_draft_code h_a h_h0_length h_h0_tokenCount h_h0_asOrders h_h0_draft_clauses h_h0_draft_length h_f_h0_draft_code e2 Q2 hq2 => ?_) h_a h_h0_length h_h0_tokenCount h_h0_asOrders h_h0_draft_clauses h_h0_draft_length h_f_h0_draft_code (by omega) hq
    exact s_X5_readPart (wq_sum n) a h0_length h0_tokenCount h0_now h0_parts h0_asOrders h0_faultPlace f_h0_tokens h0_draft_clauses h0_draft_length f_h0_draft_code (8 - (n : Int)) (fun a h0_length h0_tokenCount h0_now h0_parts h0_asOrders h0_faultPlace f_h0_tokens h0_draft_clauses h0_draft_length f_h0_draft_code h_a h_h0_length h_h0_tokenCount h_h0_asOrders h_h0_draft_clauses h_h0_draft_length h_f_h0_draft_code e3 Q3 hq3 => ih a h0_length h0_tokenCount h0_now h0_parts h0_asOrders h0_faultPlace f_h0_tokens h0_draft_clauses h0_draft_length f_h0_draft_code h_a h_h0_length h_h0_tokenCount h_h0_asOrders h_h0_draft_clauses h_h0_draft_length h_f_h0_draft_code (by omega) hq3) h_a h_h0_length h_h0_tokenCount h_h0_asOrders h_h0_draft_clauses h_h0_draft_length h_f_h0_draft_code e2 hq2
theorem s_X5_readSum_top (a : Int32) (h0_length : Int32) (h0_tokenCount : Int32) (h0_now : Int32) (h0_parts : Int32) (h0_asOrders : Int32) (h0_faultPlace : Int32) (f_h0_tokens : Nat → Int32) (h0_draft_clauses : Int32) (h0_draft_length : Int32) (f_h0_draft_code : Nat → Int32) (h_a : 0 ≤ a.toInt ∧ a.toInt ≤ 8) (h_h0_length : 0 ≤ h0_length.toInt ∧ h0_length.toInt ≤ 400) (h_h0_tokenCount : 0 ≤ h0_tokenCount.toInt ∧ h0_tokenCount.toInt ≤ 401) (h_h0_asOrders : 0 ≤ h0_asOrders.toInt ∧ h0_asOrders.toInt ≤ 1) (h_h0_draft_clauses : 0 ≤ h0_draft_clauses.toInt ∧ h0_draft_clauses.toInt ≤ 12) (h_h0_draft_length : 0 ≤ h0_draft_length.toInt ∧ h0_draft_length.toInt ≤ 400) (h_f_h0_draft_code : CD f_h0_draft_code) {Q : Int32 → (Int32 × Int32 × Int32 × (Nat → Int32)) → Prop} (hq : ∀ (r : Int32) (u_0 : Int32) (u_1 : Int32) (u_2 : Int32) (u_3 : Nat → Int32), (0 ≤ u_2.toInt ∧ u_2.toInt ≤ 400) ∧ (CD u_3) → Q r (u_0, u_1, u_2, u_3)) : (wq_sum 9) a h0_length h0_tokenCount h0_now h0_parts h0_asOrders h0_faultPlace f_h0_tokens h0_draft_clauses h0_draft_length f_h0_draft_code Q := q_sum 9 a h0_length h0_tokenCount h0_now h0_parts h0_asOrders h0_faultPlace f_h0_tokens h0_draft_clauses h0_draft_length f_h0_draft_code h_a h_h0_length h_h0_tokenCount h_h0_asOrders h_h0_draft_clauses h_h0_draft_length h_f_h0_draft_code (by omega) hq

set_option maxRecDepth 100000 in
theorem sl_X5_readPlain_4 (h0_tokenCount : Int32) (f_h0_tokens : Nat → Int32) (h_h0_tokenCount : 0 ≤ h0_tokenCount.toInt ∧ h0_tokenCount.toInt ≤ 401) (Qb : Int32 → Int32 → Int32 → Prop) (KX : ∀ (x_4_0 : Int32) (x_4_1 : Int32) (x_4_2 : Int32), (0 ≤ x_4_0.toInt ∧ x_4_0.toInt ≤ 400) ∧ (0 ≤ x_4_1.toInt ∧ x_4_1.toInt ≤ 1) → Qb x_4_0 x_4_1 x_4_2) : ∀ (n : Nat) (x_4_0 : Int32) (x_4_1 : Int32) (x_4_2 : Int32), (0 ≤ x_4_0.toInt ∧ x_4_0.toInt ≤ 400) ∧ (0 ≤ x_4_1.toInt ∧ x_4_1.toInt ≤ 1) → 401 - x_4_0.toInt < (n : Int) → wl_X5_readPlain_4 h0_tokenCount f_h0_tokens Qb n x_4_0 x_4_1 x_4_2 := by
  intro n
  induction n with
  | zero =>
    intro x_4_0 x_4_1 x_4_2 hI hm
    exfalso; have hm : 401 - x_4_0.toInt < 0 := hm; omega
  | succ n ih =>
    intro x_4_0 x_4_1 x_4_2 hI hm
    have hm : 401 - x_4_0.toInt < (n : Int) + 1 := by simpa using hm
    have h_x_4_0 := hI.1
    have h_x_4_1 := hI.2
    unfold wl_X5_readPlain_4
    by_cases c1 : 400 ≤ x_4_0
    · refine br1 c1 ?_
      have d2 := le_z (a := 400) (b := x_4_0) (x := 400) (y := (Int32.toInt x_4_0)) rfl rfl c1
      exact KX _ _ _ ⟨(by first | with_reducible assumption | exact ⟨by omega, by omega⟩), (by first | with_reducible assumption | exact ⟨by omega, by omega⟩)⟩
    · refine br0 c1 ?_
      have d3 := nle_z (a := 400) (b := x_4_0) (x := 400) (y := (Int32.toInt x_4_0)) rfl rfl c1
      refine s_X5_take 8 h0_tokenCount x_4_2 (f_h0_tokens) (by first | with_reducible assumption | exact ⟨by omega, by omega⟩) (fun r4 u5 H6 => ?_)
      by_cases c7 : r4 = 0
      · refine br1 c7 ?_
        have d8 := eq_z (a := r4) (b := 0) (x := (Int32.toInt r4)) (y := 0) rfl rfl c7
        exact KX _ _ _ ⟨(by first | with_reducible assumption | exact ⟨by omega, by omega⟩), (by first | with_reducible assumption | exact ⟨by omega, by omega⟩)⟩
      · refine br0 c7 ?_
        have d9 := ne_z (a := r4) (b := 0) (x := (Int32.toInt r4)) (y := 0) rfl rfl c7
        by_cases c10 : x_4_1 = 0
        · refine br1 c10 ?_
          have d11 := eq_z (a := x_4_1) (b := 0) (x := (Int32.toInt x_4_1)) (y := 0) rfl rfl c10
          have t12 : (Int32.toInt (x_4_0 + 1)) = (Int32.toInt x_4_0) + 1 := add_z rfl rfl (by omega) (by omega)
          exact ih _ _ _ ⟨(by first | with_reducible assumption | exact ⟨by omega, by omega⟩), (by decide)⟩ (by omega)
        · refine br0 c10 ?_
          have d13 := ne_z (a := x_4_1) (b := 0) (x := (Int32.toInt x_4_1)) (y := 0) rfl rfl c10
          have t14 : (Int32.toInt (x_4_0 + 1)) = (Int32.toInt x_4_0) + 1 := add_z rfl rfl (by omega) (by omega)
          exact ih _ _ _ ⟨(by first | with_reducible assumption | exact ⟨by omega, by omega⟩), (by decide)⟩ (by omega)
set_option maxRecDepth 100000 in
theorem s_X5_readPlain (wS : Int32 → Int32 → Int32 → Int32 → Int32 → Int32 → Int32 → (Nat → Int32) → Int32 → Int32 → (Nat → Int32) → (Int32 → (Int32 × Int32 × Int32 × (Nat → Int32)) → Prop) → Prop) (a : Int32) (h0_length : Int32) (h0_tokenCount : Int32) (h0_now : Int32) (h0_parts : Int32) (h0_asOrders : Int32) (h0_faultPlace : Int32) (f_h0_tokens : Nat → Int32) (h0_draft_clauses : Int32) (h0_draft_length : Int32) (f_h0_draft_code : Nat → Int32) (lv : Int) (hS : ∀ (a : Int32) (h0_length : Int32) (h0_tokenCount : Int32) (h0_now : Int32) (h0_parts : Int32) (h0_asOrders : Int32) (h0_faultPlace : Int32) (f_h0_tokens : Nat → Int32) (h0_draft_clauses : Int32) (h0_draft_length : Int32) (f_h0_draft_code : Nat → Int32), (0 ≤ a.toInt ∧ a.toInt ≤ 8) → (0 ≤ h0_length.toInt ∧ h0_length.toInt ≤ 400) → (0 ≤ h0_tokenCount.toInt ∧ h0_tokenCount.toInt ≤ 401) → (0 ≤ h0_asOrders.toInt ∧ h0_asOrders.toInt ≤ 1) → (0 ≤ h0_draft_clauses.toInt ∧ h0_draft_clauses.toInt ≤ 12) → (0 ≤ h0_draft_length.toInt ∧ h0_draft_length.toInt ≤ 400) → (CD f_h0_draft_code) → (lv + 1 ≤ a.toInt) → ∀ {Q : Int32 → (Int32 × Int32 × Int32 × (Nat → Int32)) → Prop}, (∀ (r : Int32) (u_0 : Int32) (u_1 : Int32) (u_2 : Int32) (u_3 : Nat → Int32), (0 ≤ u_2.toInt ∧ u_2.toInt ≤ 400) ∧ (CD u_3) → Q r (u_0, u_1, u_2, u_3)) → wS a h0_length h0_tokenCount h0_now h0_parts h0_asOrders h0_faultPlace f_h0_tokens h0_draft_clauses h0_draft_length f_h0_draft_code Q) (h_a : 0 ≤ a.toInt ∧ a.toInt ≤ 8) (h_h0_length : 0 ≤ h0_length.toInt ∧ h0_length.toInt ≤ 400) (h_h0_tokenCount : 0 ≤ h0_tokenCount.toInt ∧ h0_tokenCount.toInt ≤ 401) (h_h0_asOrders : 0 ≤ h0_asOrders.toInt ∧ h0_asOrders.toInt ≤ 1) (h_h0_draft_clauses : 0 ≤ h0_draft_clauses.toInt ∧ h0_draft_clauses.toInt ≤ 12) (h_h0_draft_length : 0 ≤ h0_draft_length.toInt ∧ h0_draft_length.toInt ≤ 400) (h_f_h0_draft_code : CD f_h0_draft_code) (e_0 : lv ≤ a.toInt) {Q : Int32 → (Int32 × Int32 × Int32 × (Nat → Int32)) → Prop} (hq : ∀ (r : Int32) (u_0 : Int32) (u_1 : Int32) (u_2 : Int32) (u_3 : Nat → Int32), (0 ≤ u_2.toInt ∧ u_2.toInt ≤ 400) ∧ (CD u_3) → Q r (u_0, u_1, u_2, u_3)) : wp_X5_readPlain wS a h0_length h0_tokenCount h0_now h0_parts h0_asOrders h0_faultPlace f_h0_tokens h0_draft_clauses h0_draft_length f_h0_draft_code Q := by
  unfold wp_X5_readPlain
  have k3 : Int32.toInt 0 = 0 := rfl
  refine sl_X5_readPlain_4 h0_tokenCount (f_h0_tokens) (by first | with_reducible assumption | exact ⟨by omega, by omega⟩) _ (fun x1_0 x1_1 x1_2 X2 => ?_) 1000000000000 0 0 h0_now ⟨(by decide), (by decide)⟩ (by omega)
  have j4 := X2.1
  have j5 := X2.2
  refine s_X5_tokenNow h0_tokenCount x1_2 (f_h0_tokens) (by first | with_reducible assumption | exact ⟨by omega, by omega⟩) (fun r6 H7 => ?_)
  refine jn_s ?_
  by_cases c8 : r6 = 140
  · refine br1 c8 ?_
    have d9 := eq_z (a := r6) (b := 140) (x := (Int32.toInt r6)) (y := 140) rfl rfl c8
    refine s_X5_open a x1_2  (fun r10 u11 H12 => ?_)
    have j13 := H12
    by_cases c14 : r10 = 0
    · refine br1 c14 ?_
      have d15 := eq_z (a := r10) (b := 0) (x := (Int32.toInt r10)) (y := 0) rfl rfl c14
      exact hq _ _ _ _ _ ⟨(by first | with_reducible assumption | exact ⟨by omega, by omega⟩), h_f_h0_draft_code⟩
    · refine br0 c14 ?_
      have d16 := ne_z (a := r10) (b := 0) (x := (Int32.toInt r10)) (y := 0) rfl rfl c14
      have t17 : (Int32.toInt (a + 1)) = (Int32.toInt a) + 1 := add_z rfl rfl (by omega) (by omega)
      refine hS (a + 1) h0_length h0_tokenCount u11 h0_parts h0_asOrders h0_faultPlace (f_h0_tokens) h0_draft_clauses h0_draft_length (f_h0_draft_code) (by first | with_reducible assumption | exact ⟨by omega, by omega⟩) (by first | with_reducible assumption | exact ⟨by omega, by omega⟩) (by first | with_reducible assumption | exact ⟨by omega, by omega⟩) (by first | with_reducible assumption | exact ⟨by omega, by omega⟩) (by first | with_reducible assumption | exact ⟨by omega, by omega⟩) (by first | with_reducible assumption | exact ⟨by omega, by omega⟩) h_f_h0_draft_code (by omega) (fun r18 u19_0 u19_1 u19_2 u19_3 H20 => ?_)
      have j21 := H20.1
      have j22 := H20.2
      refine un4_i ?_
      by_cases c23 : r18 = 0
      · refine br1 c23 ?_
        have d24 := eq_z (a := r18) (b := 0) (x := (Int32.toInt r18)) (y := 0) rfl rfl c23
        exact hq _ _ _ _ _ ⟨(by first | with_reducible assumption | exact ⟨by omega, by omega⟩), j22⟩
      · refine br0 c23 ?_
        have d25 := ne_z (a := r18) (b := 0) (x := (Int32.toInt r18)) (y := 0) rfl rfl c23
        refine s_X5_take 141 h0_tokenCount u19_0 (f_h0_tokens) (by first | with_reducible assumption | exact ⟨by omega, by omega⟩) (fun r26 u27 H28 => ?_)
        by_cases c29 : r26 = 0
        · refine br1 c29 ?_
          have d30 := eq_z (a := r26) (b := 0) (x := (Int32.toInt r26)) (y := 0) rfl rfl c29
          exact hq _ _ _ _ _ ⟨(by first | with_reducible assumption | exact ⟨by omega, by omega⟩), j22⟩
        · refine br0 c29 ?_
          have d31 := ne_z (a := r26) (b := 0) (x := (Int32.toInt r26)) (y := 0) rfl rfl c29
          refine un4_i ?_
          by_cases c32 : x1_1 = 0
          · refine br1 c32 ?_
            have d33 := eq_z (a := x1_1) (b := 0) (x := (Int32.toInt x1_1)) (y := 0) rfl rfl c32
            exact hq _ _ _ _ _ ⟨(by first | with_reducible assumption | exact ⟨by omega, by omega⟩), j22⟩
          · refine br0 c32 ?_
            have d34 := ne_z (a := x1_1) (b := 0) (x := (Int32.toInt x1_1)) (y := 0) rfl rfl c32
            refine s_X5_write 10 0 u19_2 (u19_3) (by decide) (by decide) (by first | with_reducible assumption | exact ⟨by omega, by omega⟩) j22 (fun r35 u36_0 u36_1 H37 => ?_)
            have j38 := H37.1
            have j39 := H37.2
            refine un2_i ?_
            by_cases c40 : r35 = 0
            · refine br1 c40 ?_
              have d41 := eq_z (a := r35) (b := 0) (x := (Int32.toInt r35)) (y := 0) rfl rfl c40
              exact hq _ _ _ _ _ ⟨(by first | with_reducible assumption | exact ⟨by omega, by omega⟩), j39⟩
            · refine br0 c40 ?_
              have d42 := ne_z (a := r35) (b := 0) (x := (Int32.toInt r35)) (y := 0) rfl rfl c40
              exact hq _ _ _ _ _ ⟨(by first | with_reducible assumption | exact ⟨by omega, by omega⟩), j39⟩
  · refine br0 c8 ?_
    have d43 := ne_z (a := r6) (b := 140) (x := (Int32.toInt r6)) (y := 140) rfl rfl c8
    refine s_X5_readSum_top a h0_length h0_tokenCount x1_2 h0_parts h0_asOrders h0_faultPlace (f_h0_tokens) h0_draft_clauses h0_draft_length (f_h0_draft_code) (by first | with_reducible assumption | exact ⟨by omega, by omega⟩) (by first | with_reducible assumption | exact ⟨by omega, by omega⟩) (by first | with_reducible assumption | exact ⟨by omega, by omega⟩) (by first | with_reducible assumption | exact ⟨by omega, by omega⟩) (by first | with_reducible assumption | exact ⟨by omega, by omega⟩) (by first | with_reducible assumption | exact ⟨by omega, by omega⟩) h_f_h0_draft_code (fun r44 u45_0 u45_1 u45_2 u45_3 H46 => ?_)
    have j47 := H46.1
    have j48 := H46.2
    refine un4_i ?_
    by_cases c49 : r44 = 0
    · refine br1 c49 ?_
      have d50 := eq_z (a := r44) (b := 0) (x := (Int32.toInt r44)) (y := 0) rfl rfl c49
      exact hq _ _ _ _ _ ⟨(by first | with_reducible assumption | exact ⟨by omega, by omega⟩), j48⟩
    · refine br0 c49 ?_
      have d51 := ne_z (a := r44) (b := 0) (x := (Int32.toInt r44)) (y := 0) rfl rfl c49
      refine s_X5_tokenNow h0_tokenCount u45_0 (f_h0_tokens) (by first | with_reducible assumption | exact ⟨by omega, by omega⟩) (fun r52 H53 => ?_)
      refine s_X5_comparisonOf r52  (fun r54 H55 => ?_)
      have j56 := H55
      by_cases c57 : r54 = (-1)
      · refine br1 c57 ?_
        have d58 := eq_z (a := r54) (b := (-1)) (x := (Int32.toInt r54)) (y := (-1)) rfl (by decide) c57
        exact hq _ _ _ _ _ ⟨(by first | with_reducible assumption | exact ⟨by omega, by omega⟩), j48⟩
      · refine br0 c57 ?_
        have d59 := ne_z (a := r54) (b := (-1)) (x := (Int32.toInt r54)) (y := (-1)) rfl (by decide) c57
        refine s_X5_readSum_top a h0_length h0_tokenCount (u45_0 + 1) u45_1 h0_asOrders h0_faultPlace (f_h0_tokens) h0_draft_clauses u45_2 (u45_3) (by first | with_reducible assumption | exact ⟨by omega, by omega⟩) (by first | with_reducible assumption | exact ⟨by omega, by omega⟩) (by first | with_reducible assumption | exact ⟨by omega, by omega⟩) (by first | with_reducible assumption | exact ⟨by omega, by omega⟩) (by first | with_reducible assumption | exact ⟨by omega, by omega⟩) (by first | with_reducible assumption | exact ⟨by omega, by omega⟩) j48 (fun r60 u61_0 u61_1 u61_2 u61_3 H62 => ?_)
        have j63 := H62.1
        have j64 := H62.2
        refine un4_i ?_
        by_cases c65 : r60 = 0
        · refine br1 c65 ?_
          have d66 := eq_z (a := r60) (b := 0) (x := (Int32.toInt r60)) (y := 0) rfl rfl c65
          exact hq _ _ _ _ _ ⟨(by first | with_reducible assumption | exact ⟨by omega, by omega⟩), j64⟩
        · refine br0 c65 ?_
          have d67 := ne_z (a := r60) (b := 0) (x := (Int32.toInt r60)) (y := 0) rfl rfl c65
          refine s_X5_write r54 0 u61_2 (u61_3) (by first | with_reducible assumption | exact ⟨by omega, by omega⟩) (by decide) (by first | with_reducible assumption | exact ⟨by omega, by omega⟩) j64 (fun r68 u69_0 u69_1 H70 => ?_)
          have j71 := H70.1
          have j72 := H70.2
          refine un2_i ?_
          by_cases c73 : r68 = 0
          · refine br1 c73 ?_
            have d74 := eq_z (a := r68) (b := 0) (x := (Int32.toInt r68)) (y := 0) rfl rfl c73
            exact hq _ _ _ _ _ ⟨(by first | with_reducible assumption | exact ⟨by omega, by omega⟩), j72⟩
          · refine br0 c73 ?_
            have d75 := ne_z (a := r68) (b := 0) (x := (Int32.toInt r68)) (y := 0) rfl rfl c73
            refine un4_i ?_
            by_cases c76 : x1_1 = 0
            · refine br1 c76 ?_
              have d77 := eq_z (a := x1_1) (b := 0) (x := (Int32.toInt x1_1)) (y := 0) rfl rfl c76
              exact hq _ _ _ _ _ ⟨(by first | with_reducible assumption | exact ⟨by omega, by omega⟩), j72⟩
            · refine br0 c76 ?_
              have d78 := ne_z (a := x1_1) (b := 0) (x := (Int32.toInt x1_1)) (y := 0) rfl rfl c76
              refine s_X5_write 10 0 u69_0 (u69_1) (by decide) (by decide) (by first | with_reducible assumption | exact ⟨by omega, by omega⟩) j72 (fun r79 u80_0 u80_1 H81 => ?_)
              have j82 := H81.1
              have j83 := H81.2
              refine un2_i ?_
              by_cases c84 : r79 = 0
              · refine br1 c84 ?_
                have d85 := eq_z (a := r79) (b := 0) (x := (Int32.toInt r79)) (y := 0) rfl rfl c84
                exact hq _ _ _ _ _ ⟨(by first | with_reducible assumption | exact ⟨by omega, by omega⟩), j83⟩
              · refine br0 c84 ?_
                have d86 := ne_z (a := r79) (b := 0) (x := (Int32.toInt r79)) (y := 0) rfl rfl c84
                exact hq _ _ _ _ _ ⟨(by first | with_reducible assumption | exact ⟨by omega, by omega⟩), j83⟩


set_option maxRecDepth 100000 in
theorem sl_X5_readTest_17 (a : Int32) (h0_length : Int32) (h0_tokenCount : Int32) (h0_asOrders : Int32) (h0_faultPlace : Int32) (f_h0_tokens : Nat → Int32) (h0_draft_clauses : Int32) (wS : Int32 → Int32 → Int32 → Int32 → Int32 → Int32 → Int32 → (Nat → Int32) → Int32 → Int32 → (Nat → Int32) → (Int32 → (Int32 × Int32 × Int32 × (Nat → Int32)) → Prop) → Prop) (lv : Int) (h_a : 0 ≤ a.toInt ∧ a.toInt ≤ 8) (h_h0_length : 0 ≤ h0_length.toInt ∧ h0_length.toInt ≤ 400) (h_h0_tokenCount : 0 ≤ h0_tokenCount.toInt ∧ h0_tokenCount.toInt ≤ 401) (h_h0_asOrders : 0 ≤ h0_asOrders.toInt ∧ h0_asOrders.toInt ≤ 1) (h_h0_draft_clauses : 0 ≤ h0_draft_clauses.toInt ∧ h0_draft_clauses.toInt ≤ 12) (hS : ∀ (a : Int32) (h0_length : Int32) (h0_tokenCount : Int32) (h0_now : Int32) (h0_parts : Int32) (h0_asOrders : Int32) (h0_faultPlace : Int32) (f_h0_tokens : Nat → Int32) (h0_draft_clauses : Int32) (h0_draft_length : Int32) (f_h0_draft_code : Nat → Int32), (0 ≤ a.toInt ∧ a.toInt ≤ 8) → (0 ≤ h0_length.toInt ∧ h0_length.toInt ≤ 400) → (0 ≤ h0_tokenCount.toInt ∧ h0_tokenCount.toInt ≤ 401) → (0 ≤ h0_asOrders.toInt ∧ h0_asOrders.toInt ≤ 1) → (0 ≤ h0_draft_clauses.toInt ∧ h0_draft_clauses.toInt ≤ 12) → (0 ≤ h0_draft_length.toInt ∧ h0_draft_length.toInt ≤ 400) → (CD f_h0_draft_code) → (lv ≤ a.toInt) → ∀ {Q : Int32 → (Int32 × Int32 × Int32 × (Nat → Int32)) → Prop}, (∀ (r : Int32) (u_0 : Int32) (u_1 : Int32) (u_2 : Int32) (u_3 : Nat → Int32), (0 ≤ u_2.toInt ∧ u_2.toInt ≤ 400) ∧ (CD u_3) → Q r (u_0, u_1, u_2, u_3)) → wS a h0_length h0_tokenCount h0_now h0_parts h0_asOrders h0_faultPlace f_h0_tokens h0_draft_clauses h0_draft_length f_h0_draft_code Q) (e_0 : lv ≤ a.toInt) {Q : Int32 → (Int32 × Int32 × Int32 × (Nat → Int32)) → Prop} (hq : ∀ (r : Int32) (u_0 : Int32) (u_1 : Int32) (u_2 : Int32) (u_3 : Nat → Int32), (0 ≤ u_2.toInt ∧ u_2.toInt ≤ 400) ∧ (CD u_3) → Q r (u_0, u_1, u_2, u_3)) (Qb : Int32 → Int32 → Int32 → Int32 → Int32 → (Nat → Int32) → Prop) (KX : ∀ (x_17_0 : Int32) (x_17_1 : Int32) (x_17_2 : Int32) (x_17_3 : Int32) (x_17_4 : Int32) (x_17_5 : Nat → Int32), (0 ≤ x_17_0.toInt ∧ x_17_0.toInt ≤ 400) ∧ ((-1) ≤ x_17_1.toInt ∧ x_17_1.toInt ≤ 400) ∧ (0 ≤ x_17_4.toInt ∧ x_17_4.toInt ≤ 400) ∧ (CD x_17_5) → Qb x_17_0 x_17_1 x_17_2 x_17_3 x_17_4 x_17_5) : ∀ (n : Nat) (x_17_0 : Int32) (x_17_1 : Int32) (x_17_2 : Int32) (x_17_3 : Int32) (x_17_4 : Int32) (x_17_5 : Nat → Int32), (0 ≤ x_17_0.toInt ∧ x_17_0.toInt ≤ 400) ∧ ((-1) ≤ x_17_1.toInt ∧ x_17_1.toInt ≤ 400) ∧ (0 ≤ x_17_4.toInt ∧ x_17_4.toInt ≤ 400) ∧ (CD x_17_5) → 401 - x_17_0.toInt < (n : Int) → wl_X5_readTest_17 a h0_length h0_tokenCount h0_asOrders h0_faultPlace f_h0_tokens h0_draft_clauses wS Q Qb n x_17_0 x_17_1 x_17_2 x_17_3 x_17_4 x_17_5 := by
  intro n
  induction n with
  | zero =>
    intro x_17_0 x_17_1 x_17_2 x_17_3 x_17_4 x_17_5 hI hm
    exfalso; have hm : 401 - x_17_0.toInt < 0 := hm; omega
  | succ n ih =>
    intro x_17_0 x_17_1 x_17_2 x_17_3 x_17_4 x_17_5 hI hm
    have hm : 401 - x_17_0.toInt < (n : Int) + 1 := by simpa using hm
    have h_x_17_0 := hI.1
    have h_x_17_1 := hI.2.1
    have h_x_17_4 := hI.2.2.1
    have h_x_17_5 := hI.2.2.2
    unfold wl_X5_readTest_17
    by_cases c4 : 400 ≤ x_17_0
    · refine br1 c4 ?_
      have d5 := le_z (a := 400) (b := x_17_0) (x := 400) (y := (Int32.toInt x_17_0)) rfl rfl c4
      exact KX _ _ _ _ _ _ ⟨(by first | with_reducible assumption | exact ⟨by omega, by omega⟩), (by first | with_reducible assumption | exact ⟨by omega, by omega⟩), (by first | with_reducible assumption | exact ⟨by omega, by omega⟩), h_x_17_5⟩
    · refine br0 c4 ?_
      have d6 := nle_z (a := 400) (b := x_17_0) (x := 400) (y := (Int32.toInt x_17_0)) rfl rfl c4
      refine hS a h0_length h0_tokenCount x_17_2 x_17_3 h0_asOrders h0_faultPlace (f_h0_tokens) h0_draft_clauses x_17_4 (x_17_5) (by first | with_reducible assumption | exact ⟨by omega, by omega⟩) (by first | with_reducible assumption | exact ⟨by omega, by omega⟩) (by first | with_reducible assumption | exact ⟨by omega, by omega⟩) (by first | with_reducible assumption | exact ⟨by omega, by omega⟩) (by first | with_reducible assumption | exact ⟨by omega, by omega⟩) (by first | with_reducible assumption | exact ⟨by omega, by omega⟩) h_x_17_5 (by omega) (fun r7 u8_0 u8_1 u8_2 u8_3 H9 => ?_)
      have j10 := H9.1
      have j11 := H9.2
      refine un4_i ?_
      by_cases c12 : r7 = 0
      · refine br1 c12 ?_
        have d13 := eq_z (a := r7) (b := 0) (x := (Int32.toInt r7)) (y := 0) rfl rfl c12
        exact hq _ _ _ _ _ ⟨(by first | with_reducible assumption | exact ⟨by omega, by omega⟩), j11⟩
      · refine br0 c12 ?_
        have d14 := ne_z (a := r7) (b := 0) (x := (Int32.toInt r7)) (y := 0) rfl rfl c12
        refine s_X5_aimHere x_17_1 u8_2 (u8_3) (by first | with_reducible assumption | exact ⟨by omega, by omega⟩) j11 (fun u15 H16 => ?_)
        have j17 := H16
        refine s_X5_take 7 h0_tokenCount u8_0 (f_h0_tokens) (by first | with_reducible assumption | exact ⟨by omega, by omega⟩) (fun r18 u19 H20 => ?_)
        by_cases c21 : r18 = 0
        · refine br1 c21 ?_
          have d22 := eq_z (a := r18) (b := 0) (x := (Int32.toInt r18)) (y := 0) rfl rfl c21
          exact KX _ _ _ _ _ _ ⟨(by first | with_reducible assumption | exact ⟨by omega, by omega⟩), (by first | with_reducible assumption | exact ⟨by omega, by omega⟩), (by first | with_reducible assumption | exact ⟨by omega, by omega⟩), j17⟩
        · refine br0 c21 ?_
          have d23 := ne_z (a := r18) (b := 0) (x := (Int32.toInt r18)) (y := 0) rfl rfl c21
          refine s_X5_write 11 0 u8_2 (u15) (by decide) (by decide) (by first | with_reducible assumption | exact ⟨by omega, by omega⟩) j17 (fun r24 u25_0 u25_1 H26 => ?_)
          have j27 := H26.1
          have j28 := H26.2
          refine un2_i ?_
          by_cases c29 : r24 = 0
          · refine br1 c29 ?_
            have d30 := eq_z (a := r24) (b := 0) (x := (Int32.toInt r24)) (y := 0) rfl rfl c29
            exact hq _ _ _ _ _ ⟨(by first | with_reducible assumption | exact ⟨by omega, by omega⟩), j28⟩
          · refine br0 c29 ?_
            have d31 := ne_z (a := r24) (b := 0) (x := (Int32.toInt r24)) (y := 0) rfl rfl c29
            have t32 : (Int32.toInt (x_17_0 + 1)) = (Int32.toInt x_17_0) + 1 := add_z rfl rfl (by omega) (by omega)
            exact ih _ _ _ _ _ _ ⟨(by first | with_reducible assumption | exact ⟨by omega, by omega⟩), (by first | with_reducible assumption | exact ⟨by omega, by omega⟩), (by first | with_reducible assumption | exact ⟨by omega, by omega⟩), j28⟩ (by omega)
set_option maxRecDepth 100000 in
theorem sl_X5_readTest_4 (a : Int32) (h0_length : Int32) (h0_tokenCount : Int32) (h0_asOrders : Int32) (h0_faultPlace : Int32) (f_h0_tokens : Nat → Int32) (h0_draft_clauses : Int32) (wS : Int32 → Int32 → Int32 → Int32 → Int32 → Int32 → Int32 → (Nat → Int32) → Int32 → Int32 → (Nat → Int32) → (Int32 → (Int32 × Int32 × Int32 × (Nat → Int32)) → Prop) → Prop) (lv : Int) (h_a : 0 ≤ a.toInt ∧ a.toInt ≤ 8) (h_h0_length : 0 ≤ h0_length.toInt ∧ h0_length.toInt ≤ 400) (h_h0_tokenCount : 0 ≤ h0_tokenCount.toInt ∧ h0_tokenCount.toInt ≤ 401) (h_h0_asOrders : 0 ≤ h0_asOrders.toInt ∧ h0_asOrders.toInt ≤ 1) (h_h0_draft_clauses : 0 ≤ h0_draft_clauses.toInt ∧ h0_draft_clauses.toInt ≤ 12) (hS : ∀ (a : Int32) (h0_length : Int32) (h0_tokenCount : Int32) (h0_now : Int32) (h0_parts : Int32) (h0_asOrders : Int32) (h0_faultPlace : Int32) (f_h0_tokens : Nat → Int32) (h0_draft_clauses : Int32) (h0_draft_length : Int32) (f_h0_draft_code : Nat → Int32), (0 ≤ a.toInt ∧ a.toInt ≤ 8) → (0 ≤ h0_length.toInt ∧ h0_length.toInt ≤ 400) → (0 ≤ h0_tokenCount.toInt ∧ h0_tokenCount.toInt ≤ 401) → (0 ≤ h0_asOrders.toInt ∧ h0_asOrders.toInt ≤ 1) → (0 ≤ h0_draft_clauses.toInt ∧ h0_draft_clauses.toInt ≤ 12) → (0 ≤ h0_draft_length.toInt ∧ h0_draft_length.toInt ≤ 400) → (CD f_h0_draft_code) → (lv ≤ a.toInt) → ∀ {Q : Int32 → (Int32 × Int32 × Int32 × (Nat → Int32)) → Prop}, (∀ (r : Int32) (u_0 : Int32) (u_1 : Int32) (u_2 : Int32) (u_3 : Nat → Int32), (0 ≤ u_2.toInt ∧ u_2.toInt ≤ 400) ∧ (CD u_3) → Q r (u_0, u_1, u_2, u_3)) → wS a h0_length h0_tokenCount h0_now h0_parts h0_asOrders h0_faultPlace f_h0_tokens h0_draft_clauses h0_draft_length f_h0_draft_code Q) (e_0 : lv ≤ a.toInt) {Q : Int32 → (Int32 × Int32 × Int32 × (Nat → Int32)) → Prop} (hq : ∀ (r : Int32) (u_0 : Int32) (u_1 : Int32) (u_2 : Int32) (u_3 : Nat → Int32), (0 ≤ u_2.toInt ∧ u_2.toInt ≤ 400) ∧ (CD u_3) → Q r (u_0, u_1, u_2, u_3)) (Qb : Int32 → Int32 → Int32 → Int32 → Int32 → (Nat → Int32) → Prop) (KX : ∀ (x_4_0 : Int32) (x_4_1 : Int32) (x_4_2 : Int32) (x_4_3 : Int32) (x_4_4 : Int32) (x_4_5 : Nat → Int32), (400 ≤ x_4_0.toInt ∧ x_4_0.toInt ≤ 400) ∧ ((-1) ≤ x_4_1.toInt ∧ x_4_1.toInt ≤ 400) ∧ (0 ≤ x_4_4.toInt ∧ x_4_4.toInt ≤ 400) ∧ (CD x_4_5) → Qb x_4_0 x_4_1 x_4_2 x_4_3 x_4_4 x_4_5) : ∀ (n : Nat) (x_4_0 : Int32) (x_4_1 : Int32) (x_4_2 : Int32) (x_4_3 : Int32) (x_4_4 : Int32) (x_4_5 : Nat → Int32), (0 ≤ x_4_0.toInt ∧ x_4_0.toInt ≤ 400) ∧ ((-1) ≤ x_4_1.toInt ∧ x_4_1.toInt ≤ 400) ∧ (0 ≤ x_4_4.toInt ∧ x_4_4.toInt ≤ 400) ∧ (CD x_4_5) → 401 - x_4_0.toInt < (n : Int) → wl_X5_readTest_4 a h0_length h0_tokenCount h0_asOrders h0_faultPlace f_h0_tokens h0_draft_clauses wS Q Qb n x_4_0 x_4_1 x_4_2 x_4_3 x_4_4 x_4_5 := by
  intro n
  induction n with
  | zero =>
    intro x_4_0 x_4_1 x_4_2 x_4_3 x_4_4 x_4_5 hI hm
    exfalso; have hm : 401 - x_4_0.toInt < 0 := hm; omega
  | succ n ih =>
    intro x_4_0 x_4_1 x_4_2 x_4_3 x_4_4 x_4_5 hI hm
    have hm : 401 - x_4_0.toInt < (n : Int) + 1 := by simpa using hm
    have h_x_4_0 := hI.1
    have h_x_4_1 := hI.2.1
    have h_x_4_4 := hI.2.2.1
    have h_x_4_5 := hI.2.2.2
    unfold wl_X5_readTest_4
    by_cases c1 : 400 ≤ x_4_0
    · refine br1 c1 ?_
      have d2 := le_z (a := 400) (b := x_4_0) (x := 400) (y := (Int32.toInt x_4_0)) rfl rfl c1
      exact KX _ _ _ _ _ _ ⟨(by first | with_reducible assumption | exact ⟨by omega, by omega⟩), (by first | with_reducible assumption | exact ⟨by omega, by omega⟩), (by first | with_reducible assumption | exact ⟨by omega, by omega⟩), h_x_4_5⟩
    · refine br0 c1 ?_
      have d3 := nle_z (a := 400) (b := x_4_0) (x := 400) (y := (Int32.toInt x_4_0)) rfl rfl c1
      have k6 : Int32.toInt 0 = 0 := rfl
      have k7 : Int32.toInt (-1) = (-1) := (by decide)
      refine sl_X5_readTest_17 a h0_length h0_tokenCount h0_asOrders h0_faultPlace (f_h0_tokens) h0_draft_clauses wS lv (by first | with_reducible assumption | exact ⟨by omega, by omega⟩) (by first | with_reducible assumption | exact ⟨by omega, by omega⟩) (by first | with_reducible assumption | exact ⟨by omega, by omega⟩) (by first | with_reducible assumption | exact ⟨by omega, by omega⟩) (by first | with_reducible assumption | exact ⟨by omega, by omega⟩) hS e_0 hq _ (fun x4_0 x4_1 x4_2 x4_3 x4_4 x4_5 X5 => ?_) 1000000000000 0 (-1) x_4_2 x_4_3 x_4_4 (x_4_5) ⟨(by decide), (by decide), (by first | with_reducible assumption | exact ⟨by omega, by omega⟩), h_x_4_5⟩ (by omega)
      have j8 := X5.1
      have j9 := X5.2.1
      have j10 := X5.2.2.1
      have j11 := X5.2.2.2
      refine s_X5_aimHere x_4_1 x4_4 (x4_5) (by first | with_reducible assumption | exact ⟨by omega, by omega⟩) j11 (fun u12 H13 => ?_)
      have j14 := H13
      refine s_X5_take 6 h0_tokenCount x4_2 (f_h0_tokens) (by first | with_reducible assumption | exact ⟨by omega, by omega⟩) (fun r15 u16 H17 => ?_)
      by_cases c18 : r15 = 0
      · refine br1 c18 ?_
        have d19 := eq_z (a := r15) (b := 0) (x := (Int32.toInt r15)) (y := 0) rfl rfl c18
        exact hq _ _ _ _ _ ⟨(by first | with_reducible assumption | exact ⟨by omega, by omega⟩), j14⟩
      · refine br0 c18 ?_
        have d20 := ne_z (a := r15) (b := 0) (x := (Int32.toInt r15)) (y := 0) rfl rfl c18
        refine s_X5_write 12 0 x4_4 (u12) (by decide) (by decide) (by first | with_reducible assumption | exact ⟨by omega, by omega⟩) j14 (fun r21 u22_0 u22_1 H23 => ?_)
        have j24 := H23.1
        have j25 := H23.2
        refine un2_i ?_
        by_cases c26 : r21 = 0
        · refine br1 c26 ?_
          have d27 := eq_z (a := r21) (b := 0) (x := (Int32.toInt r21)) (y := 0) rfl rfl c26
          exact hq _ _ _ _ _ ⟨(by first | with_reducible assumption | exact ⟨by omega, by omega⟩), j25⟩
        · refine br0 c26 ?_
          have d28 := ne_z (a := r21) (b := 0) (x := (Int32.toInt r21)) (y := 0) rfl rfl c26
          have t29 : (Int32.toInt (x_4_0 + 1)) = (Int32.toInt x_4_0) + 1 := add_z rfl rfl (by omega) (by omega)
          exact ih _ _ _ _ _ _ ⟨(by first | with_reducible assumption | exact ⟨by omega, by omega⟩), (by first | with_reducible assumption | exact ⟨by omega, by omega⟩), (by first | with_reducible assumption | exact ⟨by omega, by omega⟩), j25⟩ (by omega)
set_option maxRecDepth 100000 in
theorem s_X5_readTest (wS : Int32 → Int32 → Int32 → Int32 → Int32 → Int32 → Int32 → (Nat → Int32) → Int32 → Int32 → (Nat → Int32) → (Int32 → (Int32 × Int32 × Int32 × (Nat → Int32)) → Prop) → Prop) (a : Int32) (h0_length : Int32) (h0_tokenCount : Int32) (h0_now : Int32) (h0_parts : Int32) (h0_asOrders : Int32) (h0_faultPlace : Int32) (f_h0_tokens : Nat → Int32) (h0_draft_clauses : Int32) (h0_draft_length : Int32) (f_h0_draft_code : Nat → Int32) (lv : Int) (hS : ∀ (a : Int32) (h0_length : Int32) (h0_tokenCount : Int32) (h0_now : Int32) (h0_parts : Int32) (h0_asOrders : Int32) (h0_faultPlace : Int32) (f_h0_tokens : Nat → Int32) (h0_draft_clauses : Int32) (h0_draft_length : Int32) (f_h0_draft_code : Nat → Int32), (0 ≤ a.toInt ∧ a.toInt ≤ 8) → (0 ≤ h0_length.toInt ∧ h0_length.toInt ≤ 400) → (0 ≤ h0_tokenCount.toInt ∧ h0_tokenCount.toInt ≤ 401) → (0 ≤ h0_asOrders.toInt ∧ h0_asOrders.toInt ≤ 1) → (0 ≤ h0_draft_clauses.toInt ∧ h0_draft_clauses.toInt ≤ 12) → (0 ≤ h0_draft_length.toInt ∧ h0_draft_length.toInt ≤ 400) → (CD f_h0_draft_code) → (lv ≤ a.toInt) → ∀ {Q : Int32 → (Int32 × Int32 × Int32 × (Nat → Int32)) → Prop}, (∀ (r : Int32) (u_0 : Int32) (u_1 : Int32) (u_2 : Int32) (u_3 : Nat → Int32), (0 ≤ u_2.toInt ∧ u_2.toInt ≤ 400) ∧ (CD u_3) → Q r (u_0, u_1, u_2, u_3)) → wS a h0_length h0_tokenCount h0_now h0_parts h0_asOrders h0_faultPlace f_h0_tokens h0_draft_clauses h0_draft_length f_h0_draft_code Q) (h_a : 0 ≤ a.toInt ∧ a.toInt ≤ 8) (h_h0_length : 0 ≤ h0_length.toInt ∧ h0_length.toInt ≤ 400) (h_h0_tokenCount : 0 ≤ h0_tokenCount.toInt ∧ h0_tokenCount.toInt ≤ 401) (h_h0_asOrders : 0 ≤ h0_asOrders.toInt ∧ h0_asOrders.toInt ≤ 1) (h_h0_draft_clauses : 0 ≤ h0_draft_clauses.toInt ∧ h0_draft_clauses.toInt ≤ 12) (h_h0_draft_length : 0 ≤ h0_draft_length.toInt ∧ h0_draft_length.toInt ≤ 400) (h_f_h0_draft_code : CD f_h0_draft_code) (e_0 : lv ≤ a.toInt) {Q : Int32 → (Int32 × Int32 × Int32 × (Nat → Int32)) → Prop} (hq : ∀ (r : Int32) (u_0 : Int32) (u_1 : Int32) (u_2 : Int32) (u_3 : Nat → Int32), (0 ≤ u_2.toInt ∧ u_2.toInt ≤ 400) ∧ (CD u_3) → Q r (u_0, u_1, u_2, u_3)) : wp_X5_readTest wS a h0_length h0_tokenCount h0_now h0_parts h0_asOrders h0_faultPlace f_h0_tokens h0_draft_clauses h0_draft_length f_h0_draft_code Q := by
  unfold wp_X5_readTest
  have k3 : Int32.toInt 0 = 0 := rfl
  have k4 : Int32.toInt (-1) = (-1) := (by decide)
  refine sl_X5_readTest_4 a h0_length h0_tokenCount h0_asOrders h0_faultPlace (f_h0_tokens) h0_draft_clauses wS lv (by first | with_reducible assumption | exact ⟨by omega, by omega⟩) (by first | with_reducible assumption | exact ⟨by omega, by omega⟩) (by first | with_reducible assumption | exact ⟨by omega, by omega⟩) (by first | with_reducible assumption | exact ⟨by omega, by omega⟩) (by first | with_reducible assumption | exact ⟨by omega, by omega⟩) hS e_0 hq _ (fun x1_0 x1_1 x1_2 x1_3 x1_4 x1_5 X2 => ?_) 1000000000000 0 (-1) h0_now h0_parts h0_draft_length (f_h0_draft_code) ⟨(by decide), (by decide), (by first | with_reducible assumption | exact ⟨by omega, by omega⟩), h_f_h0_draft_code⟩ (by omega)
  have j5 := X2.1
  have j6 := X2.2.1
  have j7 := X2.2.2.1
  have j8 := X2.2.2.2
  exact hq _ _ _ _ _ ⟨(by first | with_reducible assumption | exact ⟨by omega, by omega⟩), j8⟩


theorem q_test : ∀ (n : Nat) (a : Int32) (h0_length : Int32) (h0_tokenCount : Int32) (h0_now : Int32) (h0_parts : Int32) (h0_asOrders : Int32) (h0_faultPlace : Int32) (f_h0_tokens : Nat → Int32) (h0_draft_clauses : Int32) (h0_draft_length : Int32) (f_h0_draft_code : Nat → Int32), (0 ≤ a.toInt ∧ a.toInt ≤ 8) → (0 ≤ h0_length.toInt ∧ h0_length.toInt ≤ 400) → (0 ≤ h0_tokenCount.toInt ∧ h0_tokenCount.toInt ≤ 401) → (0 ≤ h0_asOrders.toInt ∧ h0_asOrders.toInt ≤ 1) → (0 ≤ h0_draft_clauses.toInt ∧ h0_draft_clauses.toInt ≤ 12) → (0 ≤ h0_draft_length.toInt ∧ h0_draft_length.toInt ≤ 400) → (CD f_h0_draft_code) → (9 - (n : Int) ≤ a.toInt) → ∀ {Q : Int32 → (Int32 × Int32 × Int32 × (Nat → Int32)) → Prop}, (∀ (r : Int32) (u_0 : Int32) (u_1 : Int32) (u_2 : Int32) (u_3 : Nat → Int32), (0 ≤ u_2.toInt ∧ u_2.toInt ≤ 400) ∧ (CD u_3) → Q r (u_0, u_1, u_2, u_3)) → wq_test n a h0_length h0_tokenCount h0_now h0_parts h0_asOrders h0_faultPlace f_h0_tokens h0_draft_clauses h0_draft_length f_h0_draft_code Q := by
  intro n
  induction n with
  | zero =>
    intro a h0_length h0_tokenCount h0_now h0_parts h0_asOrders h0_faultPlace f_h0_tokens h0_draft_clauses h0_draft_length f_h0_draft_code h_a h_h0_length h_h0_tokenCount h_h0_asOrders h_h0_draft_clauses h_h0_draft_length h_f_h0_draft_code e Q hq
    exfalso; have e : 9 - 0 ≤ a.toInt := e; omega
  | succ n ih =>
    intro a h0_length h0_tokenCount h0_now h0_parts h0_asOrders h0_faultPlace f_h0_tokens h0_draft_clauses h0_draft_length f_h0_draft_code h_a h_h0_length h_h0_tokenCount h_h0_asOrders h_h0_draft_clauses h_h0_draft_length h_f_h0_draft_code e Q hq
    have e : 9 - ((n : Int) + 1) ≤ a.toInt := by simpa using e
    show wp_X5_readTest (wp_X5_readPlain (wq_test n)) a h0_length h0_tokenCount h0_now h0_parts h0_asOrders h0_faultPlace f_h0_tokens h0_draft_clauses h0_draft_length f_h0_draft_code Q
    refine s_X5_readTest (wp_X5_readPlain (wq_test n)) a h0_length h0_tokenCount h0_now h0_parts h0_asOrders h0_faultPlace f_h0_tokens h0_draft_clauses h0_draft_length f_h0_draft_code (8 - (n : Int)) (fun a h0_length h0_tokenCount h0_now h0_parts h0_asOrders h0_faultPlace f_h0_tokens h0_draft_clauses h0_draft_length f_h0_draft_code h_a h_h0_length h_h0_tokenCount h_h0_asOrders h_h0_draft_clauses h_h0_draft_length h_f_h0_draft_code e2 Q2 hq2 => ?_) h_a h_h0_length h_h0_tokenCount h_h0_asOrders h_h0_draft_clauses h_h0_draft_length h_f_h0_draft_code (by omega) hq
    exact s_X5_readPlain (wq_test n) a h0_length h0_tokenCount h0_now h0_parts h0_asOrders h0_faultPlace f_h0_tokens h0_draft_clauses h0_draft_length f_h0_draft_code (8 - (n : Int)) (fun a h0_length h0_tokenCount h0_now h0_parts h0_asOrders h0_faultPlace f_h0_tokens h0_draft_clauses h0_draft_length f_h0_draft_code h_a h_h0_length h_h0_tokenCount h_h0_asOrders h_h0_draft_clauses h_h0_draft_length h_f_h0_draft_code e3 Q3 hq3 => ih a h0_length h0_tokenCount h0_now h0_parts h0_asOrders h0_faultPlace f_h0_tokens h0_draft_clauses h0_draft_length f_h0_draft_code h_a h_h0_length h_h0_tokenCount h_h0_asOrders h_h0_draft_clauses h_h0_draft_length h_f_h0_draft_code (by omega) hq3) h_a h_h0_length h_h0_tokenCount h_h0_asOrders h_h0_draft_clauses h_h0_draft_length h_f_h0_draft_code e2 hq2
theorem s_X5_readTest_top (a : Int32) (h0_length : Int32) (h0_tokenCount : Int32) (h0_now : Int32) (h0_parts : Int32) (h0_asOrders : Int32) (h0_faultPlace : Int32) (f_h0_tokens : Nat → Int32) (h0_draft_clauses : Int32) (h0_draft_length : Int32) (f_h0_draft_code : Nat → Int32) (h_a : 0 ≤ a.toInt ∧ a.toInt ≤ 8) (h_h0_length : 0 ≤ h0_length.toInt ∧ h0_length.toInt ≤ 400) (h_h0_tokenCount : 0 ≤ h0_tokenCount.toInt ∧ h0_tokenCount.toInt ≤ 401) (h_h0_asOrders : 0 ≤ h0_asOrders.toInt ∧ h0_asOrders.toInt ≤ 1) (h_h0_draft_clauses : 0 ≤ h0_draft_clauses.toInt ∧ h0_draft_clauses.toInt ≤ 12) (h_h0_draft_length : 0 ≤ h0_draft_length.toInt ∧ h0_draft_length.toInt ≤ 400) (h_f_h0_draft_code : CD f_h0_draft_code) {Q : Int32 → (Int32 × Int32 × Int32 × (Nat → Int32)) → Prop} (hq : ∀ (r : Int32) (u_0 : Int32) (u_1 : Int32) (u_2 : Int32) (u_3 : Nat → Int32), (0 ≤ u_2.toInt ∧ u_2.toInt ≤ 400) ∧ (CD u_3) → Q r (u_0, u_1, u_2, u_3)) : (wq_test 9) a h0_length h0_tokenCount h0_now h0_parts h0_asOrders h0_faultPlace f_h0_tokens h0_draft_clauses h0_draft_length f_h0_draft_code Q := q_test 9 a h0_length h0_tokenCount h0_now h0_parts h0_asOrders h0_faultPlace f_h0_tokens h0_draft_clauses h0_draft_length f_h0_draft_code h_a h_h0_length h_h0_tokenCount h_h0_asOrders h_h0_draft_clauses h_h0_draft_length h_f_h0_draft_code (by omega) hq

set_option maxRecDepth 100000 in
theorem s_X5_readSumOf (a : Int32) (h0_length : Int32) (h0_tokenCount : Int32) (h0_now : Int32) (h0_parts : Int32) (h0_asOrders : Int32) (h0_faultPlace : Int32) (h0_draft_clauses : Int32) (h0_draft_length : Int32) (f_h0_draft_heads : Nat → Int32) (f_h0_tokens : Nat → Int32) (f_h0_draft_code : Nat → Int32) (h_a : 0 ≤ a.toInt ∧ a.toInt ≤ 3) (h_h0_length : 0 ≤ h0_length.toInt ∧ h0_length.toInt ≤ 400) (h_h0_tokenCount : 0 ≤ h0_tokenCount.toInt ∧ h0_tokenCount.toInt ≤ 401) (h_h0_asOrders : 0 ≤ h0_asOrders.toInt ∧ h0_asOrders.toInt ≤ 1) (h_h0_draft_clauses : 0 ≤ h0_draft_clauses.toInt ∧ h0_draft_clauses.toInt ≤ 12) (h_h0_draft_length : 0 ≤ h0_draft_length.toInt ∧ h0_draft_length.toInt ≤ 400) (h_f_h0_draft_heads : HD f_h0_draft_heads) (h_f_h0_draft_code : CD f_h0_draft_code) {Q : Int32 → (Int32 × Int32 × Int32 × (Nat → Int32) × (Nat → Int32)) → Prop} (hq : ∀ (r : Int32) (u_0 : Int32) (u_1 : Int32) (u_2 : Int32) (u_3 : Nat → Int32) (u_4 : Nat → Int32), (0 ≤ u_2.toInt ∧ u_2.toInt ≤ 400) ∧ (HD u_3) ∧ (CD u_4) → Q r (u_0, u_1, u_2, u_3, u_4)) : wp_X5_readSumOf a h0_length h0_tokenCount h0_now h0_parts h0_asOrders h0_faultPlace h0_draft_clauses h0_draft_length f_h0_draft_heads f_h0_tokens f_h0_draft_code Q := by
  unfold wp_X5_readSumOf
  refine s_X5_setHead a h0_draft_length h0_draft_clauses (f_h0_draft_heads) (by first | with_reducible assumption | exact ⟨by omega, by omega⟩) (by first | with_reducible assumption | exact ⟨by omega, by omega⟩) h_f_h0_draft_heads (by omega) (fun u1 H2 => ?_)
  have j3 := H2
  refine s_X5_readSum_top 0 h0_length h0_tokenCount h0_now h0_parts h0_asOrders h0_faultPlace (f_h0_tokens) h0_draft_clauses h0_draft_length (f_h0_draft_code) (by decide) (by first | with_reducible assumption | exact ⟨by omega, by omega⟩) (by first | with_reducible assumption | exact ⟨by omega, by omega⟩) (by first | with_reducible assumption | exact ⟨by omega, by omega⟩) (by first | with_reducible assumption | exact ⟨by omega, by omega⟩) (by first | with_reducible assumption | exact ⟨by omega, by omega⟩) h_f_h0_draft_code (fun r4 u5_0 u5_1 u5_2 u5_3 H6 => ?_)
  have j7 := H6.1
  have j8 := H6.2
  refine un4_i ?_
  by_cases c9 : r4 = 0
  · refine br1 c9 ?_
    have d10 := eq_z (a := r4) (b := 0) (x := (Int32.toInt r4)) (y := 0) rfl rfl c9
    exact hq _ _ _ _ _ _ ⟨(by first | with_reducible assumption | exact ⟨by omega, by omega⟩), j3, j8⟩
  · refine br0 c9 ?_
    have d11 := ne_z (a := r4) (b := 0) (x := (Int32.toInt r4)) (y := 0) rfl rfl c9
    refine s_X5_write 0 0 u5_2 (u5_3) (by decide) (by decide) (by first | with_reducible assumption | exact ⟨by omega, by omega⟩) j8 (fun r12 u13_0 u13_1 H14 => ?_)
    have j15 := H14.1
    have j16 := H14.2
    refine un2_i ?_
    by_cases c17 : r12 = 0
    · refine br1 c17 ?_
      have d18 := eq_z (a := r12) (b := 0) (x := (Int32.toInt r12)) (y := 0) rfl rfl c17
      exact hq _ _ _ _ _ _ ⟨(by first | with_reducible assumption | exact ⟨by omega, by omega⟩), j3, j16⟩
    · refine br0 c17 ?_
      have d19 := ne_z (a := r12) (b := 0) (x := (Int32.toInt r12)) (y := 0) rfl rfl c17
      exact hq _ _ _ _ _ _ ⟨(by first | with_reducible assumption | exact ⟨by omega, by omega⟩), j3, j16⟩


set_option maxRecDepth 100000 in
theorem s_X5_readIf (h0_length : Int32) (h0_tokenCount : Int32) (h0_now : Int32) (h0_parts : Int32) (h0_asOrders : Int32) (h0_faultPlace : Int32) (f_h0_tokens : Nat → Int32) (h0_draft_clauses : Int32) (h0_draft_length : Int32) (f_h0_draft_heads : Nat → Int32) (f_h0_draft_code : Nat → Int32) (h_h0_length : 0 ≤ h0_length.toInt ∧ h0_length.toInt ≤ 400) (h_h0_tokenCount : 0 ≤ h0_tokenCount.toInt ∧ h0_tokenCount.toInt ≤ 401) (h_h0_asOrders : 0 ≤ h0_asOrders.toInt ∧ h0_asOrders.toInt ≤ 1) (h_h0_draft_clauses : 0 ≤ h0_draft_clauses.toInt ∧ h0_draft_clauses.toInt ≤ 12) (h_h0_draft_length : 0 ≤ h0_draft_length.toInt ∧ h0_draft_length.toInt ≤ 400) (h_f_h0_draft_heads : HD f_h0_draft_heads) (h_f_h0_draft_code : CD f_h0_draft_code) {Q : Int32 → (Int32 × Int32 × Int32 × (Nat → Int32) × (Nat → Int32)) → Prop} (hq : ∀ (r : Int32) (u_0 : Int32) (u_1 : Int32) (u_2 : Int32) (u_3 : Nat → Int32) (u_4 : Nat → Int32), (0 ≤ u_2.toInt ∧ u_2.toInt ≤ 400) ∧ (HD u_3) ∧ (CD u_4) → Q r (u_0, u_1, u_2, u_3, u_4)) : wp_X5_readIf h0_length h0_tokenCount h0_now h0_parts h0_asOrders h0_faultPlace f_h0_tokens h0_draft_clauses h0_draft_length f_h0_draft_heads f_h0_draft_code Q := by
  unfold wp_X5_readIf
  refine s_X5_take 5 h0_tokenCount h0_now (f_h0_tokens) (by first | with_reducible assumption | exact ⟨by omega, by omega⟩) (fun r1 u2 H3 => ?_)
  by_cases c4 : r1 = 0
  · refine br1 c4 ?_
    have d5 := eq_z (a := r1) (b := 0) (x := (Int32.toInt r1)) (y := 0) rfl rfl c4
    exact hq _ _ _ _ _ _ ⟨(by first | with_reducible assumption | exact ⟨by omega, by omega⟩), h_f_h0_draft_heads, h_f_h0_draft_code⟩
  · refine br0 c4 ?_
    have d6 := ne_z (a := r1) (b := 0) (x := (Int32.toInt r1)) (y := 0) rfl rfl c4
    have k7 : Int32.toInt 3 = 3 := rfl
    refine s_X5_setHead 3 h0_draft_length h0_draft_clauses (f_h0_draft_heads) (by decide) (by first | with_reducible assumption | exact ⟨by omega, by omega⟩) h_f_h0_draft_heads (by omega) (fun u8 H9 => ?_)
    have j10 := H9
    refine s_X5_readTest_top 0 h0_length h0_tokenCount u2 h0_parts h0_asOrders h0_faultPlace (f_h0_tokens) h0_draft_clauses h0_draft_length (f_h0_draft_code) (by decide) (by first | with_reducible assumption | exact ⟨by omega, by omega⟩) (by first | with_reducible assumption | exact ⟨by omega, by omega⟩) (by first | with_reducible assumption | exact ⟨by omega, by omega⟩) (by first | with_reducible assumption | exact ⟨by omega, by omega⟩) (by first | with_reducible assumption | exact ⟨by omega, by omega⟩) h_f_h0_draft_code (fun r11 u12_0 u12_1 u12_2 u12_3 H13 => ?_)
    have j14 := H13.1
    have j15 := H13.2
    refine un4_i ?_
    by_cases c16 : r11 = 0
    · refine br1 c16 ?_
      have d17 := eq_z (a := r11) (b := 0) (x := (Int32.toInt r11)) (y := 0) rfl rfl c16
      exact hq _ _ _ _ _ _ ⟨(by first | with_reducible assumption | exact ⟨by omega, by omega⟩), j10, j15⟩
    · refine br0 c16 ?_
      have d18 := ne_z (a := r11) (b := 0) (x := (Int32.toInt r11)) (y := 0) rfl rfl c16
      refine s_X5_write 0 0 u12_2 (u12_3) (by decide) (by decide) (by first | with_reducible assumption | exact ⟨by omega, by omega⟩) j15 (fun r19 u20_0 u20_1 H21 => ?_)
      have j22 := H21.1
      have j23 := H21.2
      refine un2_i ?_
      by_cases c24 : r19 = 0
      · refine br1 c24 ?_
        have d25 := eq_z (a := r19) (b := 0) (x := (Int32.toInt r19)) (y := 0) rfl rfl c24
        exact hq _ _ _ _ _ _ ⟨(by first | with_reducible assumption | exact ⟨by omega, by omega⟩), j10, j23⟩
      · refine br0 c24 ?_
        have d26 := ne_z (a := r19) (b := 0) (x := (Int32.toInt r19)) (y := 0) rfl rfl c24
        exact hq _ _ _ _ _ _ ⟨(by first | with_reducible assumption | exact ⟨by omega, by omega⟩), j10, j23⟩


set_option maxRecDepth 100000 in
theorem s_X5_readRule (h0_length : Int32) (h0_tokenCount : Int32) (h0_now : Int32) (h0_parts : Int32) (h0_asOrders : Int32) (h0_faultPlace : Int32) (f_h0_tokens : Nat → Int32) (h0_draft_clauses : Int32) (h0_draft_length : Int32) (f_h0_draft_heads : Nat → Int32) (f_h0_draft_code : Nat → Int32) (h_h0_length : 0 ≤ h0_length.toInt ∧ h0_length.toInt ≤ 400) (h_h0_tokenCount : 0 ≤ h0_tokenCount.toInt ∧ h0_tokenCount.toInt ≤ 401) (h_h0_asOrders : 0 ≤ h0_asOrders.toInt ∧ h0_asOrders.toInt ≤ 1) (h_h0_draft_clauses : 0 ≤ h0_draft_clauses.toInt ∧ h0_draft_clauses.toInt ≤ 12) (h_h0_draft_length : 0 ≤ h0_draft_length.toInt ∧ h0_draft_length.toInt ≤ 400) (h_f_h0_draft_heads : HD f_h0_draft_heads) (h_f_h0_draft_code : CD f_h0_draft_code) {Q : Int32 → (Int32 × Int32 × Int32 × (Nat → Int32) × (Nat → Int32)) → Prop} (hq : ∀ (r : Int32) (u_0 : Int32) (u_1 : Int32) (u_2 : Int32) (u_3 : Nat → Int32) (u_4 : Nat → Int32), (0 ≤ u_2.toInt ∧ u_2.toInt ≤ 400) ∧ (HD u_3) ∧ (CD u_4) → Q r (u_0, u_1, u_2, u_3, u_4)) : wp_X5_readRule h0_length h0_tokenCount h0_now h0_parts h0_asOrders h0_faultPlace f_h0_tokens h0_draft_clauses h0_draft_length f_h0_draft_heads f_h0_draft_code Q := by
  unfold wp_X5_readRule
  refine s_X5_tokenNow h0_tokenCount h0_now (f_h0_tokens) (by first | with_reducible assumption | exact ⟨by omega, by omega⟩) (fun r1 H2 => ?_)
  by_cases c3 : r1 < 0
  · refine br1 c3 ?_
    have d4 := lt_z (a := r1) (b := 0) (x := (Int32.toInt r1)) (y := 0) rfl rfl c3
    exact hq _ _ _ _ _ _ ⟨(by first | with_reducible assumption | exact ⟨by omega, by omega⟩), h_f_h0_draft_heads, h_f_h0_draft_code⟩
  · refine br0 c3 ?_
    have d5 := nlt_z (a := r1) (b := 0) (x := (Int32.toInt r1)) (y := 0) rfl rfl c3
    by_cases c6 : r1 ≤ 4
    · refine br1 c6 ?_
      have d7 := le_z (a := r1) (b := 4) (x := (Int32.toInt r1)) (y := 4) rfl rfl c6
      have k8 : Int32.toInt 0 = 0 := rfl
      refine s_X5_setHead 0 r1 h0_draft_clauses (f_h0_draft_heads) (by decide) (by first | with_reducible assumption | exact ⟨by omega, by omega⟩) h_f_h0_draft_heads (by omega) (fun u9 H10 => ?_)
      have j11 := H10
      by_cases c12 : r1 = 4
      · refine br1 c12 ?_
        have d13 := eq_z (a := r1) (b := 4) (x := (Int32.toInt r1)) (y := 4) rfl rfl c12
        exact hq _ _ _ _ _ _ ⟨(by first | with_reducible assumption | exact ⟨by omega, by omega⟩), j11, h_f_h0_draft_code⟩
      · refine br0 c12 ?_
        have d14 := ne_z (a := r1) (b := 4) (x := (Int32.toInt r1)) (y := 4) rfl rfl c12
        refine s_X5_readSumOf 1 h0_length h0_tokenCount (h0_now + 1) h0_parts h0_asOrders h0_faultPlace h0_draft_clauses h0_draft_length (u9) (f_h0_tokens) (f_h0_draft_code) (by decide) (by first | with_reducible assumption | exact ⟨by omega, by omega⟩) (by first | with_reducible assumption | exact ⟨by omega, by omega⟩) (by first | with_reducible assumption | exact ⟨by omega, by omega⟩) (by first | with_reducible assumption | exact ⟨by omega, by omega⟩) (by first | with_reducible assumption | exact ⟨by omega, by omega⟩) j11 h_f_h0_draft_code (fun r15 u16_0 u16_1 u16_2 u16_3 u16_4 H17 => ?_)
        have j18 := H17.1
        have j19 := H17.2.1
        have j20 := H17.2.2
        refine un5_i ?_
        by_cases c21 : r15 = 0
        · refine br1 c21 ?_
          have d22 := eq_z (a := r15) (b := 0) (x := (Int32.toInt r15)) (y := 0) rfl rfl c21
          exact hq _ _ _ _ _ _ ⟨(by first | with_reducible assumption | exact ⟨by omega, by omega⟩), j19, j20⟩
        · refine br0 c21 ?_
          have d23 := ne_z (a := r15) (b := 0) (x := (Int32.toInt r15)) (y := 0) rfl rfl c21
          exact hq _ _ _ _ _ _ ⟨(by first | with_reducible assumption | exact ⟨by omega, by omega⟩), j19, j20⟩
    · refine br0 c6 ?_
      have d24 := nle_z (a := r1) (b := 4) (x := (Int32.toInt r1)) (y := 4) rfl rfl c6
      exact hq _ _ _ _ _ _ ⟨(by first | with_reducible assumption | exact ⟨by omega, by omega⟩), h_f_h0_draft_heads, h_f_h0_draft_code⟩


set_option maxRecDepth 100000 in
theorem s_X5_readOrder (h0_length : Int32) (h0_tokenCount : Int32) (h0_now : Int32) (h0_parts : Int32) (h0_asOrders : Int32) (h0_faultPlace : Int32) (f_h0_tokens : Nat → Int32) (h0_draft_clauses : Int32) (h0_draft_length : Int32) (f_h0_draft_heads : Nat → Int32) (f_h0_draft_code : Nat → Int32) (h_h0_length : 0 ≤ h0_length.toInt ∧ h0_length.toInt ≤ 400) (h_h0_tokenCount : 0 ≤ h0_tokenCount.toInt ∧ h0_tokenCount.toInt ≤ 401) (h_h0_asOrders : 0 ≤ h0_asOrders.toInt ∧ h0_asOrders.toInt ≤ 1) (h_h0_draft_clauses : 0 ≤ h0_draft_clauses.toInt ∧ h0_draft_clauses.toInt ≤ 12) (h_h0_draft_length : 0 ≤ h0_draft_length.toInt ∧ h0_draft_length.toInt ≤ 400) (h_f_h0_draft_heads : HD f_h0_draft_heads) (h_f_h0_draft_code : CD f_h0_draft_code) {Q : Int32 → (Int32 × Int32 × Int32 × (Nat → Int32) × (Nat → Int32)) → Prop} (hq : ∀ (r : Int32) (u_0 : Int32) (u_1 : Int32) (u_2 : Int32) (u_3 : Nat → Int32) (u_4 : Nat → Int32), (0 ≤ u_2.toInt ∧ u_2.toInt ≤ 400) ∧ (HD u_3) ∧ (CD u_4) → Q r (u_0, u_1, u_2, u_3, u_4)) : wp_X5_readOrder h0_length h0_tokenCount h0_now h0_parts h0_asOrders h0_faultPlace f_h0_tokens h0_draft_clauses h0_draft_length f_h0_draft_heads f_h0_draft_code Q := by
  unfold wp_X5_readOrder
  refine s_X5_tokenNow h0_tokenCount h0_now (f_h0_tokens) (by first | with_reducible assumption | exact ⟨by omega, by omega⟩) (fun r1 H2 => ?_)
  refine jn_s ?_
  by_cases c3 : r1 = 18
  · refine br1 c3 ?_
    have d4 := eq_z (a := r1) (b := 18) (x := (Int32.toInt r1)) (y := 18) rfl rfl c3
    have k5 : Int32.toInt 0 = 0 := rfl
    refine s_X5_setHead 0 r1 h0_draft_clauses (f_h0_draft_heads) (by decide) (by first | with_reducible assumption | exact ⟨by omega, by omega⟩) h_f_h0_draft_heads (by omega) (fun u6 H7 => ?_)
    have j8 := H7
    refine s_X5_readSumOf 1 h0_length h0_tokenCount (h0_now + 1) h0_parts h0_asOrders h0_faultPlace h0_draft_clauses h0_draft_length (u6) (f_h0_tokens) (f_h0_draft_code) (by decide) (by first | with_reducible assumption | exact ⟨by omega, by omega⟩) (by first | with_reducible assumption | exact ⟨by omega, by omega⟩) (by first | with_reducible assumption | exact ⟨by omega, by omega⟩) (by first | with_reducible assumption | exact ⟨by omega, by omega⟩) (by first | with_reducible assumption | exact ⟨by omega, by omega⟩) j8 h_f_h0_draft_code (fun r9 u10_0 u10_1 u10_2 u10_3 u10_4 H11 => ?_)
    have j12 := H11.1
    have j13 := H11.2.1
    have j14 := H11.2.2
    refine un5_i ?_
    by_cases c15 : r9 = 0
    · refine br1 c15 ?_
      have d16 := eq_z (a := r9) (b := 0) (x := (Int32.toInt r9)) (y := 0) rfl rfl c15
      exact hq _ _ _ _ _ _ ⟨(by first | with_reducible assumption | exact ⟨by omega, by omega⟩), j13, j14⟩
    · refine br0 c15 ?_
      have d17 := ne_z (a := r9) (b := 0) (x := (Int32.toInt r9)) (y := 0) rfl rfl c15
      refine jn_s ?_
      refine br1 (z_eq (x := (Int32.toInt r1)) (y := 18) rfl rfl (by omega)) ?_
      refine s_X5_take 19 h0_tokenCount u10_0 (f_h0_tokens) (by first | with_reducible assumption | exact ⟨by omega, by omega⟩) (fun r18 u19 H20 => ?_)
      by_cases c21 : r18 = 0
      · refine br1 c21 ?_
        have d22 := eq_z (a := r18) (b := 0) (x := (Int32.toInt r18)) (y := 0) rfl rfl c21
        exact hq _ _ _ _ _ _ ⟨(by first | with_reducible assumption | exact ⟨by omega, by omega⟩), j13, j14⟩
      · refine br0 c21 ?_
        have d23 := ne_z (a := r18) (b := 0) (x := (Int32.toInt r18)) (y := 0) rfl rfl c21
        refine s_X5_readSumOf 2 h0_length h0_tokenCount u19 u10_1 h0_asOrders h0_faultPlace h0_draft_clauses u10_2 (u10_3) (f_h0_tokens) (u10_4) (by decide) (by first | with_reducible assumption | exact ⟨by omega, by omega⟩) (by first | with_reducible assumption | exact ⟨by omega, by omega⟩) (by first | with_reducible assumption | exact ⟨by omega, by omega⟩) (by first | with_reducible assumption | exact ⟨by omega, by omega⟩) (by first | with_reducible assumption | exact ⟨by omega, by omega⟩) j13 j14 (fun r24 u25_0 u25_1 u25_2 u25_3 u25_4 H26 => ?_)
        have j27 := H26.1
        have j28 := H26.2.1
        have j29 := H26.2.2
        refine un5_i ?_
        by_cases c30 : r24 = 0
        · refine br1 c30 ?_
          have d31 := eq_z (a := r24) (b := 0) (x := (Int32.toInt r24)) (y := 0) rfl rfl c30
          exact hq _ _ _ _ _ _ ⟨(by first | with_reducible assumption | exact ⟨by omega, by omega⟩), j28, j29⟩
        · refine br0 c30 ?_
          have d32 := ne_z (a := r24) (b := 0) (x := (Int32.toInt r24)) (y := 0) rfl rfl c30
          refine un5_i ?_
          refine jn_s ?_
          refine br0 (z_ne (x := (Int32.toInt r1)) (y := 22) rfl rfl (by omega)) ?_
          refine un5_i ?_
          refine s_X5_take 24 h0_tokenCount u25_0 (f_h0_tokens) (by first | with_reducible assumption | exact ⟨by omega, by omega⟩) (fun r33 u34 H35 => ?_)
          by_cases c36 : r33 = 0
          · refine br1 c36 ?_
            have d37 := eq_z (a := r33) (b := 0) (x := (Int32.toInt r33)) (y := 0) rfl rfl c36
            exact hq _ _ _ _ _ _ ⟨(by first | with_reducible assumption | exact ⟨by omega, by omega⟩), j28, j29⟩
          · refine br0 c36 ?_
            have d38 := ne_z (a := r33) (b := 0) (x := (Int32.toInt r33)) (y := 0) rfl rfl c36
            refine s_X5_readTimes h0_tokenCount u34 (f_h0_tokens) h0_draft_clauses (u25_3) (by first | with_reducible assumption | exact ⟨by omega, by omega⟩) (by first | with_reducible assumption | exact ⟨by omega, by omega⟩) j28 (fun r39 u40_0 u40_1 H41 => ?_)
            have j42 := H41
            refine un2_i ?_
            by_cases c43 : r39 = 0
            · refine br1 c43 ?_
              have d44 := eq_z (a := r39) (b := 0) (x := (Int32.toInt r39)) (y := 0) rfl rfl c43
              exact hq _ _ _ _ _ _ ⟨(by first | with_reducible assumption | exact ⟨by omega, by omega⟩), j42, j29⟩
            · refine br0 c43 ?_
              have d45 := ne_z (a := r39) (b := 0) (x := (Int32.toInt r39)) (y := 0) rfl rfl c43
              exact hq _ _ _ _ _ _ ⟨(by first | with_reducible assumption | exact ⟨by omega, by omega⟩), j42, j29⟩
  · refine br0 c3 ?_
    have d46 := ne_z (a := r1) (b := 18) (x := (Int32.toInt r1)) (y := 18) rfl rfl c3
    by_cases c47 : r1 = 20
    · refine br1 c47 ?_
      have d48 := eq_z (a := r1) (b := 20) (x := (Int32.toInt r1)) (y := 20) rfl rfl c47
      have k49 : Int32.toInt 0 = 0 := rfl
      refine s_X5_setHead 0 r1 h0_draft_clauses (f_h0_draft_heads) (by decide) (by first | with_reducible assumption | exact ⟨by omega, by omega⟩) h_f_h0_draft_heads (by omega) (fun u50 H51 => ?_)
      have j52 := H51
      refine s_X5_readSumOf 1 h0_length h0_tokenCount (h0_now + 1) h0_parts h0_asOrders h0_faultPlace h0_draft_clauses h0_draft_length (u50) (f_h0_tokens) (f_h0_draft_code) (by decide) (by first | with_reducible assumption | exact ⟨by omega, by omega⟩) (by first | with_reducible assumption | exact ⟨by omega, by omega⟩) (by first | with_reducible assumption | exact ⟨by omega, by omega⟩) (by first | with_reducible assumption | exact ⟨by omega, by omega⟩) (by first | with_reducible assumption | exact ⟨by omega, by omega⟩) j52 h_f_h0_draft_code (fun r53 u54_0 u54_1 u54_2 u54_3 u54_4 H55 => ?_)
      have j56 := H55.1
      have j57 := H55.2.1
      have j58 := H55.2.2
      refine un5_i ?_
      by_cases c59 : r53 = 0
      · refine br1 c59 ?_
        have d60 := eq_z (a := r53) (b := 0) (x := (Int32.toInt r53)) (y := 0) rfl rfl c59
        exact hq _ _ _ _ _ _ ⟨(by first | with_reducible assumption | exact ⟨by omega, by omega⟩), j57, j58⟩
      · refine br0 c59 ?_
        have d61 := ne_z (a := r53) (b := 0) (x := (Int32.toInt r53)) (y := 0) rfl rfl c59
        refine jn_s ?_
        refine br0 (z_ne (x := (Int32.toInt r1)) (y := 18) rfl rfl (by omega)) ?_
        refine un5_i ?_
        refine jn_s ?_
        refine br0 (z_ne (x := (Int32.toInt r1)) (y := 22) rfl rfl (by omega)) ?_
        refine un5_i ?_
        refine s_X5_take 24 h0_tokenCount u54_0 (f_h0_tokens) (by first | with_reducible assumption | exact ⟨by omega, by omega⟩) (fun r62 u63 H64 => ?_)
        by_cases c65 : r62 = 0
        · refine br1 c65 ?_
          have d66 := eq_z (a := r62) (b := 0) (x := (Int32.toInt r62)) (y := 0) rfl rfl c65
          exact hq _ _ _ _ _ _ ⟨(by first | with_reducible assumption | exact ⟨by omega, by omega⟩), j57, j58⟩
        · refine br0 c65 ?_
          have d67 := ne_z (a := r62) (b := 0) (x := (Int32.toInt r62)) (y := 0) rfl rfl c65
          refine s_X5_readTimes h0_tokenCount u63 (f_h0_tokens) h0_draft_clauses (u54_3) (by first | with_reducible assumption | exact ⟨by omega, by omega⟩) (by first | with_reducible assumption | exact ⟨by omega, by omega⟩) j57 (fun r68 u69_0 u69_1 H70 => ?_)
          have j71 := H70
          refine un2_i ?_
          by_cases c72 : r68 = 0
          · refine br1 c72 ?_
            have d73 := eq_z (a := r68) (b := 0) (x := (Int32.toInt r68)) (y := 0) rfl rfl c72
            exact hq _ _ _ _ _ _ ⟨(by first | with_reducible assumption | exact ⟨by omega, by omega⟩), j71, j58⟩
          · refine br0 c72 ?_
            have d74 := ne_z (a := r68) (b := 0) (x := (Int32.toInt r68)) (y := 0) rfl rfl c72
            exact hq _ _ _ _ _ _ ⟨(by first | with_reducible assumption | exact ⟨by omega, by omega⟩), j71, j58⟩
    · refine br0 c47 ?_
      have d75 := ne_z (a := r1) (b := 20) (x := (Int32.toInt r1)) (y := 20) rfl rfl c47
      by_cases c76 : r1 = 21
      · refine br1 c76 ?_
        have d77 := eq_z (a := r1) (b := 21) (x := (Int32.toInt r1)) (y := 21) rfl rfl c76
        have k78 : Int32.toInt 0 = 0 := rfl
        refine s_X5_setHead 0 r1 h0_draft_clauses (f_h0_draft_heads) (by decide) (by first | with_reducible assumption | exact ⟨by omega, by omega⟩) h_f_h0_draft_heads (by omega) (fun u79 H80 => ?_)
        have j81 := H80
        refine s_X5_readSumOf 1 h0_length h0_tokenCount (h0_now + 1) h0_parts h0_asOrders h0_faultPlace h0_draft_clauses h0_draft_length (u79) (f_h0_tokens) (f_h0_draft_code) (by decide) (by first | with_reducible assumption | exact ⟨by omega, by omega⟩) (by first | with_reducible assumption | exact ⟨by omega, by omega⟩) (by first | with_reducible assumption | exact ⟨by omega, by omega⟩) (by first | with_reducible assumption | exact ⟨by omega, by omega⟩) (by first | with_reducible assumption | exact ⟨by omega, by omega⟩) j81 h_f_h0_draft_code (fun r82 u83_0 u83_1 u83_2 u83_3 u83_4 H84 => ?_)
        have j85 := H84.1
        have j86 := H84.2.1
        have j87 := H84.2.2
        refine un5_i ?_
        by_cases c88 : r82 = 0
        · refine br1 c88 ?_
          have d89 := eq_z (a := r82) (b := 0) (x := (Int32.toInt r82)) (y := 0) rfl rfl c88
          exact hq _ _ _ _ _ _ ⟨(by first | with_reducible assumption | exact ⟨by omega, by omega⟩), j86, j87⟩
        · refine br0 c88 ?_
          have d90 := ne_z (a := r82) (b := 0) (x := (Int32.toInt r82)) (y := 0) rfl rfl c88
          refine jn_s ?_
          refine br0 (z_ne (x := (Int32.toInt r1)) (y := 18) rfl rfl (by omega)) ?_
          refine un5_i ?_
          refine jn_s ?_
          refine br0 (z_ne (x := (Int32.toInt r1)) (y := 22) rfl rfl (by omega)) ?_
          refine un5_i ?_
          refine s_X5_take 24 h0_tokenCount u83_0 (f_h0_tokens) (by first | with_reducible assumption | exact ⟨by omega, by omega⟩) (fun r91 u92 H93 => ?_)
          by_cases c94 : r91 = 0
          · refine br1 c94 ?_
            have d95 := eq_z (a := r91) (b := 0) (x := (Int32.toInt r91)) (y := 0) rfl rfl c94
            exact hq _ _ _ _ _ _ ⟨(by first | with_reducible assumption | exact ⟨by omega, by omega⟩), j86, j87⟩
          · refine br0 c94 ?_
            have d96 := ne_z (a := r91) (b := 0) (x := (Int32.toInt r91)) (y := 0) rfl rfl c94
            refine s_X5_readTimes h0_tokenCount u92 (f_h0_tokens) h0_draft_clauses (u83_3) (by first | with_reducible assumption | exact ⟨by omega, by omega⟩) (by first | with_reducible assumption | exact ⟨by omega, by omega⟩) j86 (fun r97 u98_0 u98_1 H99 => ?_)
            have j100 := H99
            refine un2_i ?_
            by_cases c101 : r97 = 0
            · refine br1 c101 ?_
              have d102 := eq_z (a := r97) (b := 0) (x := (Int32.toInt r97)) (y := 0) rfl rfl c101
              exact hq _ _ _ _ _ _ ⟨(by first | with_reducible assumption | exact ⟨by omega, by omega⟩), j100, j87⟩
            · refine br0 c101 ?_
              have d103 := ne_z (a := r97) (b := 0) (x := (Int32.toInt r97)) (y := 0) rfl rfl c101
              exact hq _ _ _ _ _ _ ⟨(by first | with_reducible assumption | exact ⟨by omega, by omega⟩), j100, j87⟩
      · refine br0 c76 ?_
        have d104 := ne_z (a := r1) (b := 21) (x := (Int32.toInt r1)) (y := 21) rfl rfl c76
        by_cases c105 : r1 = 22
        · refine br1 c105 ?_
          have d106 := eq_z (a := r1) (b := 22) (x := (Int32.toInt r1)) (y := 22) rfl rfl c105
          have k107 : Int32.toInt 0 = 0 := rfl
          refine s_X5_setHead 0 r1 h0_draft_clauses (f_h0_draft_heads) (by decide) (by first | with_reducible assumption | exact ⟨by omega, by omega⟩) h_f_h0_draft_heads (by omega) (fun u108 H109 => ?_)
          have j110 := H109
          refine s_X5_readSumOf 1 h0_length h0_tokenCount (h0_now + 1) h0_parts h0_asOrders h0_faultPlace h0_draft_clauses h0_draft_length (u108) (f_h0_tokens) (f_h0_draft_code) (by decide) (by first | with_reducible assumption | exact ⟨by omega, by omega⟩) (by first | with_reducible assumption | exact ⟨by omega, by omega⟩) (by first | with_reducible assumption | exact ⟨by omega, by omega⟩) (by first | with_reducible assumption | exact ⟨by omega, by omega⟩) (by first | with_reducible assumption | exact ⟨by omega, by omega⟩) j110 h_f_h0_draft_code (fun r111 u112_0 u112_1 u112_2 u112_3 u112_4 H113 => ?_)
          have j114 := H113.1
          have j115 := H113.2.1
          have j116 := H113.2.2
          refine un5_i ?_
          by_cases c117 : r111 = 0
          · refine br1 c117 ?_
            have d118 := eq_z (a := r111) (b := 0) (x := (Int32.toInt r111)) (y := 0) rfl rfl c117
            exact hq _ _ _ _ _ _ ⟨(by first | with_reducible assumption | exact ⟨by omega, by omega⟩), j115, j116⟩
          · refine br0 c117 ?_
            have d119 := ne_z (a := r111) (b := 0) (x := (Int32.toInt r111)) (y := 0) rfl rfl c117
            refine jn_s ?_
            refine br0 (z_ne (x := (Int32.toInt r1)) (y := 18) rfl rfl (by omega)) ?_
            refine un5_i ?_
            refine jn_s ?_
            refine br1 (z_eq (x := (Int32.toInt r1)) (y := 22) rfl rfl (by omega)) ?_
            refine s_X5_take 23 h0_tokenCount u112_0 (f_h0_tokens) (by first | with_reducible assumption | exact ⟨by omega, by omega⟩) (fun r120 u121 H122 => ?_)
            by_cases c123 : r120 = 0
            · refine br1 c123 ?_
              have d124 := eq_z (a := r120) (b := 0) (x := (Int32.toInt r120)) (y := 0) rfl rfl c123
              exact hq _ _ _ _ _ _ ⟨(by first | with_reducible assumption | exact ⟨by omega, by omega⟩), j115, j116⟩
            · refine br0 c123 ?_
              have d125 := ne_z (a := r120) (b := 0) (x := (Int32.toInt r120)) (y := 0) rfl rfl c123
              refine s_X5_readSumOf 2 h0_length h0_tokenCount u121 u112_1 h0_asOrders h0_faultPlace h0_draft_clauses u112_2 (u112_3) (f_h0_tokens) (u112_4) (by decide) (by first | with_reducible assumption | exact ⟨by omega, by omega⟩) (by first | with_reducible assumption | exact ⟨by omega, by omega⟩) (by first | with_reducible assumption | exact ⟨by omega, by omega⟩) (by first | with_reducible assumption | exact ⟨by omega, by omega⟩) (by first | with_reducible assumption | exact ⟨by omega, by omega⟩) j115 j116 (fun r126 u127_0 u127_1 u127_2 u127_3 u127_4 H128 => ?_)
              have j129 := H128.1
              have j130 := H128.2.1
              have j131 := H128.2.2
              refine un5_i ?_
              by_cases c132 : r126 = 0
              · refine br1 c132 ?_
                have d133 := eq_z (a := r126) (b := 0) (x := (Int32.toInt r126)) (y := 0) rfl rfl c132
                exact hq _ _ _ _ _ _ ⟨(by first | with_reducible assumption | exact ⟨by omega, by omega⟩), j130, j131⟩
              · refine br0 c132 ?_
                have d134 := ne_z (a := r126) (b := 0) (x := (Int32.toInt r126)) (y := 0) rfl rfl c132
                refine un5_i ?_
                refine s_X5_take 24 h0_tokenCount u127_0 (f_h0_tokens) (by first | with_reducible assumption | exact ⟨by omega, by omega⟩) (fun r135 u136 H137 => ?_)
                by_cases c138 : r135 = 0
                · refine br1 c138 ?_
                  have d139 := eq_z (a := r135) (b := 0) (x := (Int32.toInt r135)) (y := 0) rfl rfl c138
                  exact hq _ _ _ _ _ _ ⟨(by first | with_reducible assumption | exact ⟨by omega, by omega⟩), j130, j131⟩
                · refine br0 c138 ?_
                  have d140 := ne_z (a := r135) (b := 0) (x := (Int32.toInt r135)) (y := 0) rfl rfl c138
                  refine s_X5_readTimes h0_tokenCount u136 (f_h0_tokens) h0_draft_clauses (u127_3) (by first | with_reducible assumption | exact ⟨by omega, by omega⟩) (by first | with_reducible assumption | exact ⟨by omega, by omega⟩) j130 (fun r141 u142_0 u142_1 H143 => ?_)
                  have j144 := H143
                  refine un2_i ?_
                  by_cases c145 : r141 = 0
                  · refine br1 c145 ?_
                    have d146 := eq_z (a := r141) (b := 0) (x := (Int32.toInt r141)) (y := 0) rfl rfl c145
                    exact hq _ _ _ _ _ _ ⟨(by first | with_reducible assumption | exact ⟨by omega, by omega⟩), j144, j131⟩
                  · refine br0 c145 ?_
                    have d147 := ne_z (a := r141) (b := 0) (x := (Int32.toInt r141)) (y := 0) rfl rfl c145
                    exact hq _ _ _ _ _ _ ⟨(by first | with_reducible assumption | exact ⟨by omega, by omega⟩), j144, j131⟩
        · refine br0 c105 ?_
          have d148 := ne_z (a := r1) (b := 22) (x := (Int32.toInt r1)) (y := 22) rfl rfl c105
          exact hq _ _ _ _ _ _ ⟨(by first | with_reducible assumption | exact ⟨by omega, by omega⟩), h_f_h0_draft_heads, h_f_h0_draft_code⟩
end
section
/-! the laws₉ row is copied -/
theorem vu_s {α : Type} {f : Nat → α} {k : Nat} {v : α} : va_up f k v k = v := if_pos rfl
theorem vu_n {α : Type} {f : Nat → α} {k j : Nat} {v : α} (h : ¬ j = k) : va_up f k v j = f j := if_neg h
theorem sl_laws {fp : Nat → Option Nat} {TT : Nat → Prop} (hT : ∀ k, k < 6 → ∀ v, fp k = some v → TT v) {Qb : Int32 → (Nat → Option Nat) → Prop} (KX : ∀ (x : Int32) (f : Nat → Option Nat), (∀ k, k < 6 → f k = fp k) → Qb x f) : ∀ (n i : Nat) (x : Int32) (f : Nat → Option Nat), x.toInt = (i : Int) → i ≤ 6 → 6 - i < n → (∀ k, k < i → f k = fp k) → wl_X10_copyFrom_53 fp TT Qb n x f := by
  intro n
  induction n with
  | zero => intro i x f _ _ h; omega
  | succ n ih =>
    intro i x f hx hi hm hf
    unfold wl_X10_copyFrom_53
    by_cases c : 6 ≤ x
    · have c₉ := le_z (a := 6) (b := x) (x := 6) rfl hx c
      exact br1 c (KX _ _ (fun k hk => hf k (by omega)))
    · have c₉ := nle_z (a := 6) (b := x) (x := 6) rfl hx c
      have hv : vp_in x 6 := vpi hx (by omega) (by omega)
      refine br0 c ⟨hv, hv, ?_⟩
      rw [tnN hx]
      refine ⟨hT i (by omega), ?_⟩
      refine ih (i + 1) _ _ (add1 hx (by omega)) (by omega) (by omega) (fun j hj => ?_)
      by_cases q : j = i
      · rw [q, vu_s]
      · rw [vu_n q]; exact hf j (by omega)
theorem o_X0_reckoned (h0_value : Int32) (Q : Int32 → Prop) (h : (Q h0_value)) : wp_X0_reckoned h0_value Q := h

theorem o_X0_turnToOrders (b : Int32) (d : Int32) (Q : (Int32 × Int32) → Prop) (h : (Q (b, d))) : wp_X0_turnToOrders b d Q := h
end
section
def XT (G : va_G) (TT : Nat → Prop) (xe : XE) (A : Nat → Prop) (U : State) : Prop :=
  (∀ v, TT v → ¬ A v ∧ ∃ vs : List Value, va_P G vwCl [(v, Sum.inr (8, vs))] U.heap) ∧ vk_S 1 lenZ bytZ xe.1 xe.2.1 A U U.heap ∧ vk_R RX5 122 txZ (xe.1 0) U ∧ va_Z "java/lang/String" "COMPACT_STRINGS" "Z" (Value.int 1) A U U.heap ∧ va_Z "jdk/internal/util/Preconditions" "SIOOBE_FORMATTER" "Ljava/util/function/BiFunction;" xe.2.2 A U U.heap
end
section
/-! lists of cells: membership, order, a rest that a call never sees -/
theorem P_iff {D : va_G} {cl : List vw_C} {ws : va_W} {H : Heap} : va_P D cl ws H ↔ ∀ q ∈ ws, va_at D cl q H := by
  constructor
  · intro h q hq
    obtain ⟨k, hk⟩ := List.mem_iff_getElem?.mp hq
    exact h k q hk
  · intro h k q hk
    exact h q (List.mem_of_getElem? hk)
theorem D_iff {A : Nat → Prop} {ws : va_W} : va_D A ws ↔ ws.Pairwise (fun p q => p.1 ≠ q.1) ∧ ∀ q ∈ ws, A q.1 := by
  constructor
  · rintro ⟨h1, h2⟩
    refine ⟨?_, fun q hq => ?_⟩
    · rw [List.pairwise_iff_getElem]
      intro i j hi hj hij e
      exact absurd (h1 i j _ _ (List.getElem?_eq_getElem hi) (List.getElem?_eq_getElem hj) e) (by omega)
    · obtain ⟨k, hk⟩ := List.mem_iff_getElem?.mp hq
      exact h2 k q hk
  · rintro ⟨h1, h2⟩
    refine ⟨fun i j p q hi hj e => ?_, fun k q hk => h2 q (List.mem_of_getElem? hk)⟩
    rw [List.pairwise_iff_getElem] at h1
    obtain ⟨hi₉, ei⟩ := List.getElem?_eq_some_iff.mp hi
    obtain ⟨hj₉, ej⟩ := List.getElem?_eq_some_iff.mp hj
    rcases Nat.lt_trichotomy i j with h | h | h
    · exact absurd (by rw [ei, ej]; exact e) (h1 i j hi₉ hj₉ h)
    · exact h
    · exact absurd (by rw [ei, ej]; exact e.symm) (h1 j i hj₉ hi₉ h)
theorem P_perm {D : va_G} {cl : List vw_C} {ws ws₉ : va_W} {H : Heap} (hp : ws.Perm ws₉) (h : va_P D cl ws H) : va_P D cl ws₉ H := P_iff.mpr (fun q hq => P_iff.mp h q (hp.mem_iff.mpr hq))
theorem D_perm {A : Nat → Prop} {ws ws₉ : va_W} (hp : ws.Perm ws₉) (h : va_D A ws) : va_D A ws₉ := by
  obtain ⟨h1, h2⟩ := D_iff.mp h
  exact D_iff.mpr ⟨(hp.pairwise_iff (fun {a b} (hab : a.1 ≠ b.1) => fun e => hab e.symm)).mp h1, fun q hq => h2 q (hp.mem_iff.mpr hq)⟩
theorem P_left {D : va_G} {cl : List vw_C} {X R : va_W} {H : Heap} (h : va_P D cl (X ++ R) H) : va_P D cl X H := P_iff.mpr (fun q hq => P_iff.mp h q (List.mem_append_left _ hq))
theorem D_left {A : Nat → Prop} {X R : va_W} (h : va_D A (X ++ R)) : va_D A X := by
  obtain ⟨h1, h2⟩ := D_iff.mp h
  exact D_iff.mpr ⟨(List.pairwise_append.mp h1).1, fun q hq => h2 q (List.mem_append_left _ hq)⟩
theorem in_of {X w : va_W} {is : List Nat} (hs : is.map (fun i => X[i]?) = w.map some) {q : Nat × va_E} (hq : q ∈ w) : q ∈ X := by
  have h1 : some q ∈ w.map some := List.mem_map.mpr ⟨q, hq, rfl⟩
  rw [← hs] at h1
  obtain ⟨i, -, hi⟩ := List.mem_map.mp h1
  exact List.mem_of_getElem? hi
/-- the front is laid anew -/
theorem P_pick {D : va_G} {cl : List vw_C} {X X₉ R : va_W} {H : Heap} (h : va_P D cl (X ++ R) H) {is : List Nat} (hs : is.map (fun i => X[i]?) = X₉.map some) : va_P D cl (X₉ ++ R) H := by
  refine P_iff.mpr (fun q hq => ?_)
  rcases List.mem_append.mp hq with h1 | h1
  · exact P_iff.mp h q (List.mem_append_left _ (in_of hs h1))
  · exact P_iff.mp h q (List.mem_append_right _ h1)
theorem D_pick {A : Nat → Prop} {X X₉ R : va_W} (h : va_D A (X ++ R)) {is : List Nat} (hn : va_nd is = true) (hs : is.map (fun i => X[i]?) = X₉.map some) : va_D A (X₉ ++ R) := by
  obtain ⟨h1, h2⟩ := D_iff.mp h
  obtain ⟨a1, a2, a3⟩ := List.pairwise_append.mp h1
  have h3 := D_iff.mp ((D_left h).sub is hn hs)
  refine D_iff.mpr ⟨List.pairwise_append.mpr ⟨h3.1, a2, fun a ha b hb => a3 a (in_of hs ha) b hb⟩, fun q hq => ?_⟩
  rcases List.mem_append.mp hq with h4 | h4
  · exact h3.2 q h4
  · exact h2 q (List.mem_append_right _ h4)
/-- the rest₉s cells are none of the callee₉s -/
theorem R_apart {A0 : Nat → Prop} {D : va_G} {cl : List vw_C} {X wc R : va_W} {H : Heap} (hP : va_P D cl (X ++ R) H) (hD : va_D A0 (X ++ R)) {isC : List Nat} (hC : isC.map (fun i => X[i]?) = wc.map some) {q : Nat × va_E} (hq : q ∈ R) : ¬ va_A wc H.size q.1 := by
  rintro (⟨k, e, hk⟩ | h)
  · exact (List.pairwise_append.mp (D_iff.mp hD).1).2.2 _ (in_of hC (List.mem_of_getElem? hk)) _ hq rfl
  · have := (P_iff.mp hP q (List.mem_append_right _ hq)).lt
    omega
theorem joinL {A0 : Nat → Prop} {D : va_G} {cl : List vw_C} {X wc wr w1 R : va_W} {H H1 : Heap} (hP : va_P D cl (X ++ R) H) (hD : va_D A0 (X ++ R)) (isC isR : List Nat) (hC : isC.map (fun i => X[i]?) = wc.map some) (hR : isR.map (fun i => X[i]?) = wr.map some) (hn : va_nd isR = true) (hdis : ∀ i ∈ isR, i ∉ isC)
    (hk : ∀ q : Nat, q < H.size → ¬ va_A wc H.size q → H1[q]? = H[q]?) (hF : ∀ q, va_A wc H.size q → A0 q) (hP1 : va_P D cl w1 H1) (hD1 : va_D (va_A wc H.size) w1) : va_P D cl ((wr ++ w1) ++ R) H1 ∧ va_D A0 ((wr ++ w1) ++ R) := by
  obtain ⟨P2, D2⟩ := va_join (P_left hP) (D_left hD) isC isR hC hR hn hdis hk hF hP1 hD1
  obtain ⟨h1, h2⟩ := D_iff.mp hD
  obtain ⟨a1, a2, a3⟩ := List.pairwise_append.mp h1
  refine ⟨P_iff.mpr (fun q hq => ?_), D_iff.mpr ⟨List.pairwise_append.mpr ⟨(D_iff.mp D2).1, a2, fun a ha b hb => ?_⟩, fun q hq => ?_⟩⟩
  · rcases List.mem_append.mp hq with h3 | h3
    · exact P_iff.mp P2 q h3
    · have h4 := P_iff.mp hP q (List.mem_append_right _ h3)
      exact h4.kept (hk q.1 h4.lt (R_apart hP hD hC h3))
  · rcases List.mem_append.mp ha with h3 | h3
    · exact a3 a (in_of hR h3) b hb
    · intro e
      exact R_apart hP hD hC hb (e ▸ (D_iff.mp hD1).2 a h3)
  · rcases List.mem_append.mp hq with h3 | h3
    · exact (D_iff.mp D2).2 q h3
    · exact h2 q (List.mem_append_right _ h3)
section MKL
variable {p : Program} {l : Launch} {e : Env} {R0 : Room} {s : State} {m : MethodId} {args : Array Value} {below : List Frame} {meth : Method} {c : Code} {H H0 : Heap} {locs : List Loc} {cells slots : Nat} {Q : State → Prop}
variable {mc ms : Nat} {rest st0 : List Value} {pc : Nat} {ls : Array Slot}
variable {G : va_G} {cs : Nat → ClassId} {X wc wr R : va_W} {A0 : Nat → Prop} {Sg : Type} {w1 : Sg → va_W} {a : Array Value}
theorem miL {post : Int32 → Sg → Prop} (hr : va_Run p l e R0 s m args below meth c H locs cells slots mc ms (F0 m pc ls st0) rest (va_Qi post (fun u t => Aft G cs (va_A wc H.size) (w1 u) t) (va_A wc H.size) a) (va_A wc H.size)) (hP : va_P G vwCl (X ++ R) H) (hD : va_D A0 (X ++ R)) (hS : va_S A0 H0 H locs) (hA : ∀ q, H0.size ≤ q → A0 q) (isC isR : List Nat) (hC : isC.map (fun i => X[i]?) = wc.map some) (hR : isR.map (fun i => X[i]?) = wr.map some) (hn : va_nd isR = true) (hdis : ∀ i ∈ isR, i ∉ isC)
    (kk : ∀ (r : Int32) (u : Sg) (H1 : Heap) (locs1 : List Loc), post r u → va_P G vwCl ((wr ++ w1 u) ++ R) H1 → va_D A0 ((wr ++ w1 u) ++ R) → va_S A0 H0 H1 locs1 → W p l e R0 s m args below meth c H1 locs1 (cells + mc) (slots + ms) Q (F0 m (pc + 3) ls (Value.int r :: rest))) : W p l e R0 s m args below meth c H locs cells slots Q (F0 m pc ls st0) := by
  have hF := va_free (wc := wc) (D_left hD) hS hA isC hC
  refine va_calli hr hS (fun q _ h => hF q h) hF (fun r u t H1 locs1 ht hvm hw hB hz hk hS1 => ?_)
  obtain ⟨hP1, -, hD1⟩ := hB
  rw [ht] at hP1
  obtain ⟨hP2, hD2⟩ := joinL hP hD isC isR hC hR hn hdis hk hF hP1 hD1
  exact kk r u H1 locs1 hw hP2 hD2 hS1
theorem mlL {post : Int64 → Sg → Prop} (hr : va_Run p l e R0 s m args below meth c H locs cells slots mc ms (F0 m pc ls st0) rest (va_Ql post (fun u t => Aft G cs (va_A wc H.size) (w1 u) t) (va_A wc H.size) a) (va_A wc H.size)) (hP : va_P G vwCl (X ++ R) H) (hD : va_D A0 (X ++ R)) (hS : va_S A0 H0 H locs) (hA : ∀ q, H0.size ≤ q → A0 q) (isC isR : List Nat) (hC : isC.map (fun i => X[i]?) = wc.map some) (hR : isR.map (fun i => X[i]?) = wr.map some) (hn : va_nd isR = true) (hdis : ∀ i ∈ isR, i ∉ isC)
    (kk : ∀ (r : Int64) (u : Sg) (H1 : Heap) (locs1 : List Loc), post r u → va_P G vwCl ((wr ++ w1 u) ++ R) H1 → va_D A0 ((wr ++ w1 u) ++ R) → va_S A0 H0 H1 locs1 → W p l e R0 s m args below meth c H1 locs1 (cells + mc) (slots + ms) Q (F0 m (pc + 3) ls (Value.long r :: rest))) : W p l e R0 s m args below meth c H locs cells slots Q (F0 m pc ls st0) := by
  have hF := va_free (wc := wc) (D_left hD) hS hA isC hC
  refine va_calll hr hS (fun q _ h => hF q h) hF (fun r u t H1 locs1 ht hvm hw hB hz hk hS1 => ?_)
  obtain ⟨hP1, -, hD1⟩ := hB
  rw [ht] at hP1
  obtain ⟨hP2, hD2⟩ := joinL hP hD isC isR hC hR hn hdis hk hF hP1 hD1
  exact kk r u H1 locs1 hw hP2 hD2 hS1
end MKL
/-! the Texts that stand: a pool -/
abbrev TX : Type := Nat × Nat × Nat × Int32 × Int32 × Nat × (Nat → Int32) × Nat × (Nat → Int32)
def txc (cs : Nat → ClassId) (x : TX) : va_W := [(x.1, Sum.inr (8, [Value.ref x.2.1, Value.ref x.2.2.1, Value.int x.2.2.2.1, Value.int x.2.2.2.2.1])), (x.2.1, Sum.inl (cs 0, x.2.2.2.2.2.1, Sum.inl x.2.2.2.2.2.2.1)), (x.2.2.1, Sum.inl (cs 0, x.2.2.2.2.2.2.2.1, Sum.inl x.2.2.2.2.2.2.2.2))]
def pool (cs : Nat → ClassId) : List TX → va_W
  | [] => []
  | x :: l => txc cs x ++ pool cs l
/-- what is known of a Text: its room, its code -/
def okT (x : TX) : Prop := (0 ≤ x.2.2.2.1.toInt ∧ x.2.2.2.1.toInt ≤ 12) ∧ (0 ≤ x.2.2.2.2.1.toInt ∧ x.2.2.2.2.1.toInt ≤ 400) ∧ x.2.2.2.2.1.toInt ≤ (x.2.2.2.2.2.2.2.1 : Int) ∧ x.2.2.2.2.2.1 < 100000 ∧ CD x.2.2.2.2.2.2.2.2
theorem pool_app (cs : Nat → ClassId) (a b : List TX) : pool cs (a ++ b) = pool cs a ++ pool cs b := by
  induction a with
  | nil => rfl
  | cons x a ih => show txc cs x ++ pool cs (a ++ b) = (txc cs x ++ pool cs a) ++ pool cs b; rw [ih, List.append_assoc]
/-- a Text is taken out of the pool -/
theorem pool_out (cs : Nat → ClassId) (X : va_W) (R : va_W) (a : List TX) (x : TX) (b : List TX) : ((X ++ pool cs (a ++ x :: b)) ++ R).Perm ((X ++ txc cs x) ++ (pool cs (a ++ b) ++ R)) := by
  rw [pool_app, pool_app]
  show ((X ++ (pool cs a ++ (txc cs x ++ pool cs b))) ++ R).Perm _
  simp only [List.append_assoc]
  refine List.Perm.append_left X ?_
  rw [← List.append_assoc (pool cs a), ← List.append_assoc (txc cs x) (pool cs a)]
  exact List.Perm.append_right _ List.perm_append_comm
theorem pool_mem {cs : Nat → ClassId} {x : TX} {l : List TX} (h : x ∈ l) : (x.1, (Sum.inr (8, [Value.ref x.2.1, Value.ref x.2.2.1, Value.int x.2.2.2.1, Value.int x.2.2.2.2.1]) : va_E)) ∈ pool cs l := by
  induction l with
  | nil => cases h
  | cons y l ih =>
    show _ ∈ txc cs y ++ pool cs l
    rcases List.mem_cons.mp h with rfl | h
    · exact List.mem_append_left _ List.mem_cons_self
    · exact List.mem_append_right _ (ih h)
/-- what stands outside of the callee₉s cells: the Texts of a pool that the callee does not get, the word list -/
def XZ (xe : XE) (A : Nat → Prop) (U : State) : Prop := vk_S 1 lenZ bytZ xe.1 xe.2.1 A U U.heap ∧ vk_R RX5 122 txZ (xe.1 0) U ∧ va_Z "java/lang/String" "COMPACT_STRINGS" "Z" (Value.int 1) A U U.heap ∧ va_Z "jdk/internal/util/Preconditions" "SIOOBE_FORMATTER" "Ljava/util/function/BiFunction;" xe.2.2 A U U.heap
theorem XZ.XT {G : va_G} {cs : Nat → ClassId} {xe : XE} {A B : Nat → Prop} {s U : State} {H : Heap} {locs : List Loc} (h : XZ xe A s) (hU : U.heap = H) (hW : s.WarmedH U.vm) (hS : va_S A s.heap H locs) (hB : ∀ q, B q → A q) {TT : Nat → Prop} (hT : ∀ v, TT v → ¬ B v ∧ ∃ vs : List Value, va_at G vwCl (v, Sum.inr (8, vs)) H) : XT G TT xe B U := by
  obtain ⟨h2, h3, h4, h5⟩ := h
  refine ⟨fun v hv => ?_, ?_, vk_R.warm hW h3, ?_, ?_⟩
  · obtain ⟨n1, vs, p1⟩ := hT v hv
    refine ⟨n1, vs, P_iff.mpr (fun q hq => ?_)⟩
    obtain rfl := List.mem_singleton.mp hq
    rw [hU]; exact p1
  · rw [hU]; exact ((h2.kept hS.2.1).moved hW.alike).narrow hB
  · rw [hU]; exact ((h4.kept hS.2.1).moved hW.alike).narrow hB
  · rw [hU]; exact ((h5.kept hS.2.1).moved hW.alike).narrow hB
/-- the pool₉s Texts are outside -/
theorem T_out {G : va_G} {cs : Nat → ClassId} {A0 : Nat → Prop} {X wc R : va_W} {txs : List TX} {H : Heap} (hP : va_P G vwCl (X ++ (pool cs txs ++ R)) H) (hD : va_D A0 (X ++ (pool cs txs ++ R))) {isC : List Nat} (hC : isC.map (fun i => X[i]?) = wc.map some) : ∀ v, (∃ x ∈ txs, x.1 = v) → ¬ va_A wc H.size v ∧ ∃ vs : List Value, va_at G vwCl (v, Sum.inr (8, vs)) H := by
  rintro v ⟨x, hx, rfl⟩
  have h1 := List.mem_append_left R (pool_mem (cs := cs) hx)
  exact ⟨R_apart hP hD hC h1, _, P_iff.mp hP _ (List.mem_append_right _ h1)⟩
end
section
/-! exact answers: the tape₉s length, what is kept -/
def fdR (x : Int32) : Int32 := if x.toInt + 20 ≤ 400 then x + 20 else -1
def fdL (x : Int32) : Int32 := if x.toInt + 20 ≤ 400 then x + 20 else x
def enR (n x : Int32) : Int32 := if 0 ≤ n.toInt ∧ n.toInt ≤ x.toInt then n else -1
def enL (n x : Int32) : Int32 := if 0 ≤ n.toInt ∧ n.toInt ≤ x.toInt then n else x
def kpI (a : Int32) (f : Nat → Int32) : Nat → Int32 := if 0 ≤ a.toInt ∧ a.toInt ≤ 1 then upd f a.toNatClampNeg 1 else f
def bkR (a : Int32) (f : Nat → Int32) : Int32 := if 0 ≤ a.toInt ∧ a.toInt ≤ 1 then (if f a.toNatClampNeg = 0 then -2 else 0) else -1
theorem fd_p {x r u : Int32} (h : x.toInt + 20 ≤ 400) (h0 : 0 ≤ x.toInt) (hu : u.toInt = x.toInt + 20) (hr : r.toInt = u.toInt) : r = fdR x ∧ u = fdL x := by
  have e : (x + 20).toInt = x.toInt + 20 := add_z (a := x) (b := 20) rfl rfl (by omega) (by omega)
  unfold fdR fdL
  rw [if_pos h, if_pos h]
  exact ⟨Int32.toInt_inj.mp (by omega), Int32.toInt_inj.mp (by omega)⟩
theorem fd_n {x : Int32} (h : ¬ x.toInt + 20 ≤ 400) : (-1 : Int32) = fdR x ∧ x = fdL x := by
  unfold fdR fdL
  rw [if_neg h, if_neg h]
  exact ⟨rfl, rfl⟩
theorem en_p {n x : Int32} (h0 : 0 ≤ n.toInt) (h1 : n.toInt ≤ x.toInt) : n = enR n x ∧ n = enL n x := by
  unfold enR enL
  rw [if_pos ⟨h0, h1⟩, if_pos ⟨h0, h1⟩]
  exact ⟨rfl, rfl⟩
theorem en_n {n x : Int32} (h : n.toInt < 0 ∨ x.toInt < n.toInt) : (-1 : Int32) = enR n x ∧ x = enL n x := by
  unfold enR enL
  rw [if_neg (by omega), if_neg (by omega)]
  exact ⟨rfl, rfl⟩
theorem kp_p {a : Int32} {f : Nat → Int32} (h0 : 0 ≤ a.toInt) (h1 : a.toInt ≤ 1) : upd f a.toNatClampNeg 1 = kpI a f := by unfold kpI; rw [if_pos ⟨h0, h1⟩]
theorem kp_n {a : Int32} {f : Nat → Int32} (h : a.toInt < 0 ∨ 2 ≤ a.toInt) : f = kpI a f := by unfold kpI; rw [if_neg (by omega)]
theorem bk_n {a : Int32} {f : Nat → Int32} (h : a.toInt < 0 ∨ 2 ≤ a.toInt) : (-1 : Int32) = bkR a f := by unfold bkR; rw [if_neg (by omega)]
theorem bk_0 {a : Int32} {f : Nat → Int32} (h0 : 0 ≤ a.toInt) (h1 : a.toInt ≤ 1) (hk : f a.toNatClampNeg = 0) : (-2 : Int32) = bkR a f := by unfold bkR; rw [if_pos ⟨h0, h1⟩, if_pos hk]
theorem bk_1 {a : Int32} {f : Nat → Int32} (h0 : 0 ≤ a.toInt) (h1 : a.toInt ≤ 1) (hk : ¬ f a.toNatClampNeg = 0) : (0 : Int32) = bkR a f := by unfold bkR; rw [if_pos ⟨h0, h1⟩, if_neg hk]
set_option maxRecDepth 100000 in
theorem s_X11_endx (a : Int32) (h0_reader_length : Int32) (h_h0_reader_length : 0 ≤ h0_reader_length.toInt ∧ h0_reader_length.toInt ≤ 400) {Q : Int32 → Int32 → Prop} (hq : ∀ (r : Int32) (u : Int32), (0 ≤ u.toInt ∧ u.toInt ≤ 400) ∧ (r = enR a h0_reader_length ∧ u = enL a h0_reader_length) → Q r u) : wp_X11_end a h0_reader_length Q := by
  unfold wp_X11_end
  by_cases c1 : a < 0
  · refine br1 c1 ?_
    have d2 := lt_z (a := a) (b := 0) (x := (Int32.toInt a)) (y := 0) rfl rfl c1
    have k3 : Int32.toInt (-1) = (-1) := (by decide)
    exact hq _ _ ⟨(by first | with_reducible assumption | exact ⟨by omega, by omega⟩), (by first | exact en_p (by omega) (by omega) | exact en_n (by omega))⟩
  · refine br0 c1 ?_
    have d4 := nlt_z (a := a) (b := 0) (x := (Int32.toInt a)) (y := 0) rfl rfl c1
    by_cases c5 : a ≤ h0_reader_length
    · refine br1 c5 ?_
      have d6 := le_z (a := a) (b := h0_reader_length) (x := (Int32.toInt a)) (y := (Int32.toInt h0_reader_length)) rfl rfl c5
      exact hq _ _ ⟨(by first | with_reducible assumption | exact ⟨by omega, by omega⟩), (by first | exact en_p (by omega) (by omega) | exact en_n (by omega))⟩
    · refine br0 c5 ?_
      have d7 := nle_z (a := a) (b := h0_reader_length) (x := (Int32.toInt a)) (y := (Int32.toInt h0_reader_length)) rfl rfl c5
      have k8 : Int32.toInt (-1) = (-1) := (by decide)
      exact hq _ _ ⟨(by first | with_reducible assumption | exact ⟨by omega, by omega⟩), (by first | exact en_p (by omega) (by omega) | exact en_n (by omega))⟩


set_option maxRecDepth 100000 in
theorem sl_X5_read_42x (a : Int32) (h0_length : Int32) (h0_faultPlace : Int32) (u_1_0 : Int32) (u_1_1 : Nat → Int32) (h_a : 0 ≤ a.toInt ∧ a.toInt ≤ 1) (h_h0_length : 0 ≤ h0_length.toInt ∧ h0_length.toInt ≤ 400) (h_u_1_0 : 0 ≤ u_1_0.toInt ∧ u_1_0.toInt ≤ 401) (Qb : Int32 → Int32 → Int32 → Int32 → Int32 → (Nat → Int32) → (Nat → Int32) → Int32 → Int32 → Prop) (KX : ∀ (x_42_0 : Int32) (x_42_1 : Int32) (x_42_2 : Int32) (x_42_3 : Int32) (x_42_4 : Int32) (x_42_5 : Nat → Int32) (x_42_6 : Nat → Int32) (x_42_7 : Int32) (x_42_8 : Int32), (0 ≤ x_42_0.toInt ∧ x_42_0.toInt ≤ 12) ∧ (0 ≤ x_42_1.toInt ∧ x_42_1.toInt ≤ 1) ∧ (0 ≤ x_42_2.toInt ∧ x_42_2.toInt ≤ 1) ∧ (0 ≤ x_42_3.toInt ∧ x_42_3.toInt ≤ 12) ∧ (0 ≤ x_42_4.toInt ∧ x_42_4.toInt ≤ 400) ∧ (HD x_42_5) ∧ (CD x_42_6) ∧ (x_42_3.toInt ≤ x_42_0.toInt) → Qb x_42_0 x_42_1 x_42_2 x_42_3 x_42_4 x_42_5 x_42_6 x_42_7 x_42_8) : ∀ (n : Nat) (x_42_0 : Int32) (x_42_1 : Int32) (x_42_2 : Int32) (x_42_3 : Int32) (x_42_4 : Int32) (x_42_5 : Nat → Int32) (x_42_6 : Nat → Int32) (x_42_7 : Int32) (x_42_8 : Int32), (0 ≤ x_42_0.toInt ∧ x_42_0.toInt ≤ 12) ∧ (0 ≤ x_42_1.toInt ∧ x_42_1.toInt ≤ 1) ∧ (0 ≤ x_42_2.toInt ∧ x_42_2.toInt ≤ 1) ∧ (0 ≤ x_42_3.toInt ∧ x_42_3.toInt ≤ 12) ∧ (0 ≤ x_42_4.toInt ∧ x_42_4.toInt ≤ 400) ∧ (HD x_42_5) ∧ (CD x_42_6) ∧ (x_42_3.toInt ≤ x_42_0.toInt) → 13 - x_42_0.toInt < (n : Int) → wl_X5_read_42 a h0_length h0_faultPlace u_1_0 u_1_1 Qb n x_42_0 x_42_1 x_42_2 x_42_3 x_42_4 x_42_5 x_42_6 x_42_7 x_42_8 := by
  intro n
  induction n with
  | zero =>
    intro x_42_0 x_42_1 x_42_2 x_42_3 x_42_4 x_42_5 x_42_6 x_42_7 x_42_8 hI hm
    exfalso; have hm : 13 - x_42_0.toInt < 0 := hm; omega
  | succ n ih =>
    intro x_42_0 x_42_1 x_42_2 x_42_3 x_42_4 x_42_5 x_42_6 x_42_7 x_42_8 hI hm
    have hm : 13 - x_42_0.toInt < (n : Int) + 1 := by simpa using hm
    have h_x_42_0 := hI.1
    have h_x_42_1 := hI.2.1
    have h_x_42_2 := hI.2.2.1
    have h_x_42_3 := hI.2.2.2.1
    have h_x_42_4 := hI.2.2.2.2.1
    have h_x_42_5 := hI.2.2.2.2.2.1
    have h_x_42_6 := hI.2.2.2.2.2.2.1
    have h_rel0 := hI.2.2.2.2.2.2.2
    unfold wl_X5_read_42
    by_cases c4 : 12 ≤ x_42_0
    · refine br1 c4 ?_
      have d5 := le_z (a := 12) (b := x_42_0) (x := 12) (y := (Int32.toInt x_42_0)) rfl rfl c4
      exact KX _ _ _ _ _ _ _ _ _ ⟨(by first | with_reducible assumption | exact ⟨by omega, by omega⟩), (by first | with_reducible assumption | exact ⟨by omega, by omega⟩), (by first | with_reducible assumption | exact ⟨by omega, by omega⟩), (by first | with_reducible assumption | exact ⟨by omega, by omega⟩), (by first | with_reducible assumption | exact ⟨by omega, by omega⟩), h_x_42_5, h_x_42_6, (by omega)⟩
    · refine br0 c4 ?_
      have d6 := nle_z (a := 12) (b := x_42_0) (x := 12) (y := (Int32.toInt x_42_0)) rfl rfl c4
      by_cases c7 : x_42_2 = 0
      · refine br1 c7 ?_
        have d8 := eq_z (a := x_42_2) (b := 0) (x := (Int32.toInt x_42_2)) (y := 0) rfl rfl c7
        exact KX _ _ _ _ _ _ _ _ _ ⟨(by first | with_reducible assumption | exact ⟨by omega, by omega⟩), (by first | with_reducible assumption | exact ⟨by omega, by omega⟩), (by first | with_reducible assumption | exact ⟨by omega, by omega⟩), (by first | with_reducible assumption | exact ⟨by omega, by omega⟩), (by first | with_reducible assumption | exact ⟨by omega, by omega⟩), h_x_42_5, h_x_42_6, (by omega)⟩
      · refine br0 c7 ?_
        have d9 := ne_z (a := x_42_2) (b := 0) (x := (Int32.toInt x_42_2)) (y := 0) rfl rfl c7
        by_cases c10 : x_42_1 = 0
        · refine br1 c10 ?_
          have d11 := eq_z (a := x_42_1) (b := 0) (x := (Int32.toInt x_42_1)) (y := 0) rfl rfl c10
          refine s_X5_beginHead x_42_3 (x_42_5) (by first | with_reducible assumption | exact ⟨by omega, by omega⟩) h_x_42_5 (fun u12 H13 => ?_)
          have j14 := H13
          refine jn6_i (fun (y15_0 : Int32) (y15_1 : Nat → Int32) (y15_2 : Int32) (y15_3 : Int32) (y15_4 : Int32) (y15_5 : Nat → Int32) => (0 ≤ y15_0.toInt ∧ y15_0.toInt ≤ 1) ∧ (CD y15_1) ∧ (0 ≤ y15_4.toInt ∧ y15_4.toInt ≤ 400) ∧ (HD y15_5)) (fun y15_0 y15_1 y15_2 y15_3 y15_4 y15_5 J16 => ?_) (fun _ HJ16 => ?_)
          · have j17 := J16.1
            have j18 := J16.2.1
            have j19 := J16.2.2.1
            have j20 := J16.2.2.2
            by_cases c21 : y15_0 = 0
            · refine br1 c21 ?_
              have d22 := eq_z (a := y15_0) (b := 0) (x := (Int32.toInt y15_0)) (y := 0) rfl rfl c21
              have t23 : (Int32.toInt (x_42_0 + 1)) = (Int32.toInt x_42_0) + 1 := add_z rfl rfl (by omega) (by omega)
              exact ih _ _ _ _ _ _ _ _ _ ⟨(by first | with_reducible assumption | exact ⟨by omega, by omega⟩), (by first | with_reducible assumption | exact ⟨by omega, by omega⟩), (by first | with_reducible assumption | exact ⟨by omega, by omega⟩), (by first | with_reducible assumption | exact ⟨by omega, by omega⟩), (by first | with_reducible assumption | exact ⟨by omega, by omega⟩), j20, j18, (by omega)⟩ (by omega)
            · refine br0 c21 ?_
              have d24 := ne_z (a := y15_0) (b := 0) (x := (Int32.toInt y15_0)) (y := 0) rfl rfl c21
              refine s_X5_tokenNow u_1_0 y15_2 (u_1_1) (by first | with_reducible assumption | exact ⟨by omega, by omega⟩) (fun r25 H26 => ?_)
              refine jn_s ?_
              by_cases c27 : r25 = 31
              · refine br1 c27 ?_
                have d28 := eq_z (a := r25) (b := 31) (x := (Int32.toInt r25)) (y := 31) rfl rfl c27
                refine br0 (by decide) ?_
                have t29 : (Int32.toInt (x_42_0 + 1)) = (Int32.toInt x_42_0) + 1 := add_z rfl rfl (by omega) (by omega)
                have k30 : Int32.toInt 1 = 1 := rfl
                have t31 : (Int32.toInt (x_42_3 + 1)) = (Int32.toInt x_42_3) + 1 := add_z rfl rfl (by omega) (by omega)
                exact ih _ _ _ _ _ _ _ _ _ ⟨(by first | with_reducible assumption | exact ⟨by omega, by omega⟩), (by decide), (by decide), (by first | with_reducible assumption | exact ⟨by omega, by omega⟩), (by first | with_reducible assumption | exact ⟨by omega, by omega⟩), j20, j18, (by omega)⟩ (by omega)
              · refine br0 c27 ?_
                have d32 := ne_z (a := r25) (b := 31) (x := (Int32.toInt r25)) (y := 31) rfl rfl c27
                refine br1 (by decide) ?_
                refine s_X5_take 159 u_1_0 y15_2 (u_1_1) (by first | with_reducible assumption | exact ⟨by omega, by omega⟩) (fun r33 u34 H35 => ?_)
                by_cases c36 : r33 = 0
                · refine br1 c36 ?_
                  have d37 := eq_z (a := r33) (b := 0) (x := (Int32.toInt r33)) (y := 0) rfl rfl c36
                  have t38 : (Int32.toInt (x_42_0 + 1)) = (Int32.toInt x_42_0) + 1 := add_z rfl rfl (by omega) (by omega)
                  have k39 : Int32.toInt 0 = 0 := rfl
                  have t40 : (Int32.toInt (x_42_3 + 1)) = (Int32.toInt x_42_3) + 1 := add_z rfl rfl (by omega) (by omega)
                  exact ih _ _ _ _ _ _ _ _ _ ⟨(by first | with_reducible assumption | exact ⟨by omega, by omega⟩), (by decide), (by decide), (by first | with_reducible assumption | exact ⟨by omega, by omega⟩), (by first | with_reducible assumption | exact ⟨by omega, by omega⟩), j20, j18, (by omega)⟩ (by omega)
                · refine br0 c36 ?_
                  have d41 := ne_z (a := r33) (b := 0) (x := (Int32.toInt r33)) (y := 0) rfl rfl c36
                  have t42 : (Int32.toInt (x_42_0 + 1)) = (Int32.toInt x_42_0) + 1 := add_z rfl rfl (by omega) (by omega)
                  have k43 : Int32.toInt 0 = 0 := rfl
                  have k44 : Int32.toInt 1 = 1 := rfl
                  have t45 : (Int32.toInt (x_42_3 + 1)) = (Int32.toInt x_42_3) + 1 := add_z rfl rfl (by omega) (by omega)
                  exact ih _ _ _ _ _ _ _ _ _ ⟨(by first | with_reducible assumption | exact ⟨by omega, by omega⟩), (by decide), (by decide), (by first | with_reducible assumption | exact ⟨by omega, by omega⟩), (by first | with_reducible assumption | exact ⟨by omega, by omega⟩), j20, j18, (by omega)⟩ (by omega)
          · skip
            by_cases c46 : a = 0
            · refine br1 c46 ?_
              have d47 := eq_z (a := a) (b := 0) (x := (Int32.toInt a)) (y := 0) rfl rfl c46
              refine s_X5_readRule h0_length u_1_0 x_42_7 x_42_8 a h0_faultPlace (u_1_1) x_42_3 x_42_4 (u12) (x_42_6) (by first | with_reducible assumption | exact ⟨by omega, by omega⟩) (by first | with_reducible assumption | exact ⟨by omega, by omega⟩) (by first | with_reducible assumption | exact ⟨by omega, by omega⟩) (by first | with_reducible assumption | exact ⟨by omega, by omega⟩) (by first | with_reducible assumption | exact ⟨by omega, by omega⟩) j14 h_x_42_6 (fun r48 u49_0 u49_1 u49_2 u49_3 u49_4 H50 => ?_)
              have j51 := H50.1
              have j52 := H50.2.1
              have j53 := H50.2.2
              refine un5_i ?_
              by_cases c54 : r48 = 0
              · refine br1 c54 ?_
                have d55 := eq_z (a := r48) (b := 0) (x := (Int32.toInt r48)) (y := 0) rfl rfl c54
                exact HJ16 _ _ _ _ _ _ ⟨(by decide), j53, (by first | with_reducible assumption | exact ⟨by omega, by omega⟩), j52⟩
              · refine br0 c54 ?_
                have d56 := ne_z (a := r48) (b := 0) (x := (Int32.toInt r48)) (y := 0) rfl rfl c54
                refine s_X5_readIf h0_length u_1_0 u49_0 u49_1 a h0_faultPlace (u_1_1) x_42_3 u49_2 (u49_3) (u49_4) (by first | with_reducible assumption | exact ⟨by omega, by omega⟩) (by first | with_reducible assumption | exact ⟨by omega, by omega⟩) (by first | with_reducible assumption | exact ⟨by omega, by omega⟩) (by first | with_reducible assumption | exact ⟨by omega, by omega⟩) (by first | with_reducible assumption | exact ⟨by omega, by omega⟩) j52 j53 (fun r57 u58_0 u58_1 u58_2 u58_3 u58_4 H59 => ?_)
                have j60 := H59.1
                have j61 := H59.2.1
                have j62 := H59.2.2
                refine un5_i ?_
                by_cases c63 : r57 = 0
                · refine br1 c63 ?_
                  have d64 := eq_z (a := r57) (b := 0) (x := (Int32.toInt r57)) (y := 0) rfl rfl c63
                  exact HJ16 _ _ _ _ _ _ ⟨(by decide), j62, (by first | with_reducible assumption | exact ⟨by omega, by omega⟩), j61⟩
                · refine br0 c63 ?_
                  have d65 := ne_z (a := r57) (b := 0) (x := (Int32.toInt r57)) (y := 0) rfl rfl c63
                  exact HJ16 _ _ _ _ _ _ ⟨(by decide), j62, (by first | with_reducible assumption | exact ⟨by omega, by omega⟩), j61⟩
            · refine br0 c46 ?_
              have d66 := ne_z (a := a) (b := 0) (x := (Int32.toInt a)) (y := 0) rfl rfl c46
              refine s_X5_readOrder h0_length u_1_0 x_42_7 x_42_8 a h0_faultPlace (u_1_1) x_42_3 x_42_4 (u12) (x_42_6) (by first | with_reducible assumption | exact ⟨by omega, by omega⟩) (by first | with_reducible assumption | exact ⟨by omega, by omega⟩) (by first | with_reducible assumption | exact ⟨by omega, by omega⟩) (by first | with_reducible assumption | exact ⟨by omega, by omega⟩) (by first | with_reducible assumption | exact ⟨by omega, by omega⟩) j14 h_x_42_6 (fun r67 u68_0 u68_1 u68_2 u68_3 u68_4 H69 => ?_)
              have j70 := H69.1
              have j71 := H69.2.1
              have j72 := H69.2.2
              refine un5_i ?_
              by_cases c73 : r67 = 0
              · refine br1 c73 ?_
                have d74 := eq_z (a := r67) (b := 0) (x := (Int32.toInt r67)) (y := 0) rfl rfl c73
                exact HJ16 _ _ _ _ _ _ ⟨(by decide), j72, (by first | with_reducible assumption | exact ⟨by omega, by omega⟩), j71⟩
              · refine br0 c73 ?_
                have d75 := ne_z (a := r67) (b := 0) (x := (Int32.toInt r67)) (y := 0) rfl rfl c73
                refine s_X5_readIf h0_length u_1_0 u68_0 u68_1 a h0_faultPlace (u_1_1) x_42_3 u68_2 (u68_3) (u68_4) (by first | with_reducible assumption | exact ⟨by omega, by omega⟩) (by first | with_reducible assumption | exact ⟨by omega, by omega⟩) (by first | with_reducible assumption | exact ⟨by omega, by omega⟩) (by first | with_reducible assumption | exact ⟨by omega, by omega⟩) (by first | with_reducible assumption | exact ⟨by omega, by omega⟩) j71 j72 (fun r76 u77_0 u77_1 u77_2 u77_3 u77_4 H78 => ?_)
                have j79 := H78.1
                have j80 := H78.2.1
                have j81 := H78.2.2
                refine un5_i ?_
                by_cases c82 : r76 = 0
                · refine br1 c82 ?_
                  have d83 := eq_z (a := r76) (b := 0) (x := (Int32.toInt r76)) (y := 0) rfl rfl c82
                  exact HJ16 _ _ _ _ _ _ ⟨(by decide), j81, (by first | with_reducible assumption | exact ⟨by omega, by omega⟩), j80⟩
                · refine br0 c82 ?_
                  have d84 := ne_z (a := r76) (b := 0) (x := (Int32.toInt r76)) (y := 0) rfl rfl c82
                  exact HJ16 _ _ _ _ _ _ ⟨(by decide), j81, (by first | with_reducible assumption | exact ⟨by omega, by omega⟩), j80⟩
        · refine br0 c10 ?_
          have d85 := ne_z (a := x_42_1) (b := 0) (x := (Int32.toInt x_42_1)) (y := 0) rfl rfl c10
          exact KX _ _ _ _ _ _ _ _ _ ⟨(by first | with_reducible assumption | exact ⟨by omega, by omega⟩), (by first | with_reducible assumption | exact ⟨by omega, by omega⟩), (by first | with_reducible assumption | exact ⟨by omega, by omega⟩), (by first | with_reducible assumption | exact ⟨by omega, by omega⟩), (by first | with_reducible assumption | exact ⟨by omega, by omega⟩), h_x_42_5, h_x_42_6, (by omega)⟩
set_option maxRecDepth 100000 in
theorem s_X5_readx (a : Int32) (h0_length : Int32) (h0_faultPlace : Int32) (f_h0_bytes : Nat → Int32) (f_h0_tokens : Nat → Int32) (f_h0_places : Nat → Int32) (f_h0_draft_heads : Nat → Int32) (f_h0_draft_code : Nat → Int32) (xe : XE) (h_a : 0 ≤ a.toInt ∧ a.toInt ≤ 1) (h_h0_length : 0 ≤ h0_length.toInt ∧ h0_length.toInt ≤ 400) (h_f_h0_bytes : BY f_h0_bytes) (h_f_h0_draft_heads : HD f_h0_draft_heads) (h_f_h0_draft_code : CD f_h0_draft_code) (e_0 : isRf xe.2.2) {Q : Int32 → (Int32 × Int32 × Int32 × Int32 × Int32 × Int32 × (Nat → Int32) × (Nat → Int32) × Int32 × Int32 × (Nat → Int32) × (Nat → Int32)) → Prop} (hq : ∀ (r : Int32) (u_0 : Int32) (u_1 : Int32) (u_2 : Int32) (u_3 : Int32) (u_4 : Int32) (u_5 : Int32) (u_6 : Nat → Int32) (u_7 : Nat → Int32) (u_8 : Int32) (u_9 : Int32) (u_10 : Nat → Int32) (u_11 : Nat → Int32), (0 ≤ r.toInt ∧ r.toInt ≤ 1) ∧ (0 ≤ u_0.toInt ∧ u_0.toInt ≤ 400) ∧ (0 ≤ u_1.toInt ∧ u_1.toInt ≤ 401) ∧ (0 ≤ u_4.toInt ∧ u_4.toInt ≤ 1) ∧ (0 ≤ u_8.toInt ∧ u_8.toInt ≤ 12) ∧ (0 ≤ u_9.toInt ∧ u_9.toInt ≤ 400) ∧ (HD u_10) ∧ (CD u_11) ∧ (u_0.toInt = 0) → Q r (u_0, u_1, u_2, u_3, u_4, u_5, u_6, u_7, u_8, u_9, u_10, u_11)) : wp_X5_read a h0_length h0_faultPlace f_h0_bytes f_h0_tokens f_h0_places f_h0_draft_heads f_h0_draft_code xe Q := by
  unfold wp_X5_read
  refine s_X5_splitIntoTokens h0_length (f_h0_bytes) (f_h0_tokens) (f_h0_places) xe (by first | with_reducible assumption | exact ⟨by omega, by omega⟩) h_f_h0_bytes e_0 (fun u1_0 u1_1 u1_2 H2 => ?_)
  have j3 := H2
  refine un3_i ?_
  refine ⟨z01 (x := (Int32.toInt a)) rfl (by omega) (by omega), ?_⟩
  have k6 : Int32.toInt 0 = 0 := rfl
  have k7 : Int32.toInt 1 = 1 := rfl
  refine sl_X5_read_42x a h0_length h0_faultPlace u1_0 (u1_1) (by first | with_reducible assumption | exact ⟨by omega, by omega⟩) (by first | with_reducible assumption | exact ⟨by omega, by omega⟩) (by first | with_reducible assumption | exact ⟨by omega, by omega⟩) _ (fun x4_0 x4_1 x4_2 x4_3 x4_4 x4_5 x4_6 x4_7 x4_8 X5 => ?_) 1000000000000 0 0 1 0 0 (f_h0_draft_heads) (f_h0_draft_code) 0 0 ⟨(by decide), (by decide), (by decide), (by decide), (by decide), h_f_h0_draft_heads, h_f_h0_draft_code, (by omega)⟩ (by omega)
  have j8 := X5.1
  have j9 := X5.2.1
  have j10 := X5.2.2.1
  have j11 := X5.2.2.2.1
  have j12 := X5.2.2.2.2.1
  have j13 := X5.2.2.2.2.2.1
  have j14 := X5.2.2.2.2.2.2.1
  have j15 := X5.2.2.2.2.2.2.2
  by_cases c16 : x4_1 = 0
  · refine br1 c16 ?_
    have d17 := eq_z (a := x4_1) (b := 0) (x := (Int32.toInt x4_1)) (y := 0) rfl rfl c16
    refine s_X5_placeNow h0_length u1_0 x4_7 (u1_2) (by first | with_reducible assumption | exact ⟨by omega, by omega⟩) (by first | with_reducible assumption | exact ⟨by omega, by omega⟩) (fun r18 H19 => ?_)
    refine ⟨z01 (x := (Int32.toInt x4_1)) rfl (by omega) (by omega), ?_⟩
    exact hq _ _ _ _ _ _ _ _ _ _ _ _ _ ⟨(by first | with_reducible assumption | exact ⟨by omega, by omega⟩), (by decide), (by first | with_reducible assumption | exact ⟨by omega, by omega⟩), (by first | with_reducible assumption | exact ⟨by omega, by omega⟩), (by first | with_reducible assumption | exact ⟨by omega, by omega⟩), (by first | with_reducible assumption | exact ⟨by omega, by omega⟩), j13, j14, (by omega)⟩
  · refine br0 c16 ?_
    have d20 := ne_z (a := x4_1) (b := 0) (x := (Int32.toInt x4_1)) (y := 0) rfl rfl c16
    refine ⟨z01 (x := (Int32.toInt x4_1)) rfl (by omega) (by omega), ?_⟩
    have k21 : Int32.toInt (-1) = (-1) := (by decide)
    exact hq _ _ _ _ _ _ _ _ _ _ _ _ _ ⟨(by first | with_reducible assumption | exact ⟨by omega, by omega⟩), (by decide), (by first | with_reducible assumption | exact ⟨by omega, by omega⟩), (by first | with_reducible assumption | exact ⟨by omega, by omega⟩), (by first | with_reducible assumption | exact ⟨by omega, by omega⟩), (by first | with_reducible assumption | exact ⟨by omega, by omega⟩), j13, j14, (by omega)⟩


/-! the reference₉s image and back, told exactly (group A; stands behind LEANX of pc6.py). NOT YET COMPILED -/
/-- both sides keep the same images -/
def KK (f g : Nat → Int32) : Prop := ∀ k : Nat, k < 2 → (f k = 0 ↔ g k = 0)
theorem KK.im {f g : Nat → Int32} (h : KK f g) (a : Int32) : KK (kpI a f) (kpI a g) := by
  unfold kpI
  by_cases c : 0 ≤ a.toInt ∧ a.toInt ≤ 1
  · rw [if_pos c, if_pos c]
    intro k hk
    by_cases e : k = a.toNatClampNeg
    · rw [e, pk_us, pk_us]
    · rw [pk_un e, pk_un e]; exact h k hk
  · rw [if_neg c, if_neg c]; exact h
end
section
set_option maxRecDepth 100000 in
theorem s_X12_endx (a : Int32) (h0_taped : Int32) (h_h0_taped : 0 ≤ h0_taped.toInt ∧ h0_taped.toInt ≤ 400) {Q : Int32 → (Int32 × Int32) → Prop} (hq : ∀ (r : Int32) (u_0 : Int32) (u_1 : Int32), (0 ≤ u_1.toInt ∧ u_1.toInt ≤ 400) ∧ (r = enR a h0_taped ∧ u_1 = enL a h0_taped) → Q r (u_0, u_1)) : wp_X12_end a h0_taped Q := by
  unfold wp_X12_end
  by_cases c1 : a < 0
  · refine br1 c1 ?_
    have d2 := lt_z (x := (Int32.toInt a)) (y := 0) rfl rfl c1
    have k3 : Int32.toInt (-1) = (-1) := (by decide)
    have k4 : Int32.toInt 0 = 0 := rfl
    exact hq _ _ _ ⟨(by first | with_reducible assumption | exact ⟨by omega, by omega⟩), (by first | exact en_p (by omega) (by omega) | exact en_n (by omega))⟩
  · refine br0 c1 ?_
    have d5 := nlt_z (x := (Int32.toInt a)) (y := 0) rfl rfl c1
    by_cases c6 : a ≤ h0_taped
    · refine br1 c6 ?_
      have d7 := le_z (x := (Int32.toInt a)) (y := (Int32.toInt h0_taped)) rfl rfl c6
      have k8 : Int32.toInt 0 = 0 := rfl
      exact hq _ _ _ ⟨(by first | with_reducible assumption | exact ⟨by omega, by omega⟩), (by first | exact en_p (by omega) (by omega) | exact en_n (by omega))⟩
    · refine br0 c6 ?_
      have d9 := nle_z (x := (Int32.toInt a)) (y := (Int32.toInt h0_taped)) rfl rfl c6
      have k10 : Int32.toInt (-1) = (-1) := (by decide)
      have k11 : Int32.toInt 0 = 0 := rfl
      exact hq _ _ _ ⟨(by first | with_reducible assumption | exact ⟨by omega, by omega⟩), (by first | exact en_p (by omega) (by omega) | exact en_n (by omega))⟩
end
section
/-- a row of laws: Texts that stand; one for each law; the law in force is one of them, or none -/
def LWI (txs : List TX) (f : Nat → Option Nat) (lc fo : Int32) : Prop := (∀ k, k < 6 → ∀ v, f k = some v → ∃ x ∈ txs, x.1 = v) ∧ (∀ k : Nat, (k : Int) < lc.toInt → ∃ v, f k = some v) ∧ fo.toInt < lc.toInt ∧ lc.toInt ≤ 6 ∧ -1 ≤ fo.toInt
theorem LWI.cp {txs : List TX} {f g : Nat → Option Nat} {lc fo lc₉ fo₉ : Int32} (h : LWI txs f lc fo) (hg : ∀ k, k < 6 → g k = f k) (e1 : lc₉ = lc) (e2 : fo₉ = fo) : LWI txs g lc₉ fo₉ := by
  subst e1; subst e2
  obtain ⟨h1, h2, h3, h4, h5⟩ := h
  exact ⟨fun k hk v hv => h1 k hk v ((hg k hk).symm.trans hv), fun k hk => by rw [hg k (by omega)]; exact h2 k hk, h3, h4, h5⟩
theorem LWI.fo {txs : List TX} {f : Nat → Option Nat} {lc fo fo₉ : Int32} (h : LWI txs f lc fo) (h2 : fo₉.toInt < lc.toInt) (h3 : -1 ≤ fo₉.toInt) : LWI txs f lc fo₉ := ⟨h.1, h.2.1, h2, h.2.2.2.1, h3⟩
theorem LWI.of {txs : List TX} {f : Nat → Option Nat} {lc fo : Int32} (h : LWI txs f lc fo) {k : Int32} (h0 : 0 ≤ k.toInt) (h1 : k.toInt < lc.toInt) : ∃ (a b : List TX) (x : TX), txs = a ++ x :: b ∧ f (Int32.toNatClampNeg k) = some x.1 := by
  have e := tnz (i := k) (x := k.toInt) rfl h0
  have h6 := h.2.2.2.1
  obtain ⟨v, hv⟩ := h.2.1 (Int32.toNatClampNeg k) (by omega)
  obtain ⟨x, hx, hxv⟩ := h.1 _ (by omega) v hv
  obtain ⟨a, b, e2⟩ := List.append_of_mem hx
  exact ⟨a, b, x, e2, by rw [hv, hxv]⟩
theorem LWI.cs {txs : List TX} {f : Nat → Option Nat} {lc fo : Int32} (h : LWI txs f lc fo) : fo.toInt = -1 ∨ (0 ≤ fo.toInt ∧ fo.toInt ≤ 5 ∧ ∃ (a b : List TX) (x : TX), txs = a ++ x :: b ∧ f (Int32.toNatClampNeg fo) = some x.1) := by
  obtain ⟨h1, h2, h3, h4, h5⟩ := id h
  by_cases c : fo.toInt = -1
  · exact Or.inl c
  · exact Or.inr ⟨by omega, by omega, h.of (by omega) h3⟩
theorem LWI.oth {a b : List TX} {x : TX} {f : Nat → Option Nat} {lc fo : Int32} (h : LWI (a ++ x :: b) f lc fo) : ∀ k, k < 6 → ∀ v, f k = some v → (∃ y ∈ a ++ b, y.1 = v) ∨ v = x.1 := by
  intro k hk v hv
  obtain ⟨y, hy, e⟩ := h.1 k hk v hv
  rcases List.mem_append.mp hy with h1 | h1
  · exact Or.inl ⟨y, List.mem_append_left _ h1, e⟩
  · rcases List.mem_cons.mp h1 with rfl | h1
    · exact Or.inr e.symm
    · exact Or.inl ⟨y, List.mem_append_right _ h1, e⟩
theorem LWI.more {txs : List TX} {x : TX} {f : Nat → Option Nat} {lc fo : Int32} (h : LWI txs f lc fo) : LWI (x :: txs) f lc fo := ⟨fun k hk v hv => by
  obtain ⟨y, hy, e⟩ := h.1 k hk v hv
  exact ⟨y, List.mem_cons_of_mem _ hy, e⟩, h.2⟩
end
section
/-! law() of the class -/
theorem s_setF {a : Int32} {rfs : Nat → Int32} (h : -7 < a.toInt) {Q : Int32 → (Int32 × (Nat → Int32)) → Prop} (hq : ∀ (st : Int32) (rfs₉ : Nat → Int32), Q a (st, rfs₉)) : wp_X11_settle a rfs Q := by
  unfold wp_X11_settle
  refine jn_s ?_
  by_cases c : 0 ≤ a
  · refine br1 c ?_
    exact br1 c (hq _ _)
  · refine br0 c ?_
    refine br0 c ?_
    have c1 := nle_z (a := 0) (b := a) (x := 0) (y := a.toInt) rfl rfl c
    have e1 : (-a).toInt = - a.toInt := neg_z rfl (by omega) (by omega)
    refine br0 (z_nle (a := 7) (b := -a) (x := 7) (y := (-a).toInt) rfl rfl (by omega)) ?_
    have hv : vp_in (-a) 7 := vpi (i := -a) (x := (-a).toInt) rfl (by omega) (by omega)
    exact ⟨hv, hv, hq _ _⟩
theorem mx0 {u : Int32} (h : 0 ≤ u.toInt) : ∃ z : Int32, (if 0 < u then u else 0) = z ∧ z.toInt = u.toInt := by
  by_cases c : 0 < u
  · exact ⟨u, if_pos c, rfl⟩
  · have c1 := nlt_z (a := 0) (b := u) (x := 0) (y := u.toInt) rfl rfl c
    exact ⟨0, if_neg c, by have : Int32.toInt 0 = 0 := rfl; omega⟩
theorem ofN {n : Nat} (h : n < 100000) : (Int32.ofNat n).toNatClampNeg = n := by
  have e := tnz (i := Int32.ofNat n) (x := (n : Int)) (of_z h) (by omega)
  omega
theorem CD.z {f : Nat → Int32} (h : CD f) (n : Nat) : CD (va_cpy f (fun _ => 0) 0 0 n) := by
  intro j
  by_cases c : j < n
  · rw [sb_cpy0 c]; exact h j
  · have e : va_cpy f (fun _ => 0) 0 0 n j = 0 := by unfold va_cpy; exact if_neg (by omega)
    rw [e]
    intro q hq _ _
    simp only [CDT, List.mem_cons, List.not_mem_nil, or_false] at hq
    subst hq
    decide
theorem LWI.push {txs : List TX} {x : TX} {f : Nat → Option Nat} {lc fo : Int32} (h : LWI txs f lc fo) (h0 : 0 ≤ lc.toInt) (h6 : lc.toInt < 6) : LWI (x :: txs) (va_up f lc.toNatClampNeg (some x.1)) (lc + 1) fo := by
  have e : (lc + 1).toInt = lc.toInt + 1 := add_z (a := lc) (b := 1) rfl rfl (by omega) (by omega)
  have n := tnz (i := lc) (x := lc.toInt) rfl h0
  obtain ⟨g1, g2, g3, g4, g5⟩ := h
  refine ⟨fun k hk v hv => ?_, fun k hk => ?_, by omega, by omega, g5⟩
  · by_cases c : k = lc.toNatClampNeg
    · rw [c, vu_s] at hv
      exact ⟨x, List.mem_cons_self, Option.some.inj hv⟩
    · rw [vu_n c] at hv
      obtain ⟨y, hy, ey⟩ := g1 k hk v hv
      exact ⟨y, List.mem_cons_of_mem _ hy, ey⟩
  · by_cases c : k = lc.toNatClampNeg
    · exact ⟨x.1, by rw [c, vu_s]⟩
    · rw [vu_n c]
      exact g2 k (by omega)
theorem asc4 (a b c d : va_W) : (a ++ (b ++ c)) ++ d = (a ++ b) ++ (c ++ d) := by simp only [List.append_assoc]
end
section
set_option maxHeartbeats 4000000 in
set_option maxRecDepth 100000 in
theorem s_X11_lawX {cs : Nat → ClassId} {lc len tc now parts ao fp : Int32} {bts tk pl : Nat → Int32} {dc dl : Int32} {dh dcd : Nat → Int32} {laws : Nat → Option Nat} {rfs : Nat → Int32} {xe : XE} (h1 : 0 ≤ lc.toInt ∧ lc.toInt ≤ 6) (h2 : 0 ≤ len.toInt ∧ len.toInt ≤ 400) (h3 : BY bts) (h4 : 0 ≤ tc.toInt ∧ tc.toInt ≤ 401) (h5 : 0 ≤ ao.toInt ∧ ao.toInt ≤ 1) (h6 : 0 ≤ dc.toInt ∧ dc.toInt ≤ 12) (h7 : 0 ≤ dl.toInt ∧ dl.toInt ≤ 400) (h8 : HD dh) (h9 : CD dcd) (hx : isRf xe.2.2) {Q : Int32 → (Int32 × Int32 × Int32 × Int32 × Int32 × Int32 × Int32 × Int32 × (Nat → Int32) × (Nat → Int32) × Int32 × Int32 × (Nat → Int32) × (Nat → Int32) × (Nat → Option Nat) × (Nat → Int32) × va_W) → Prop}
    (hq : ∀ (r st lc₉ len₉ tc₉ now₉ parts₉ ao₉ fp₉ : Int32) (tk₉ pl₉ : Nat → Int32) (dc₉ dl₉ : Int32) (dh₉ dcd₉ : Nat → Int32) (laws₉ : Nat → Option Nat) (rfs₉ : Nat → Int32) (nw : va_W), len₉ = 0 ∧ (0 ≤ tc₉.toInt ∧ tc₉.toInt ≤ 401) ∧ (0 ≤ ao₉.toInt ∧ ao₉.toInt ≤ 1) ∧ (0 ≤ dc₉.toInt ∧ dc₉.toInt ≤ 12) ∧ (0 ≤ dl₉.toInt ∧ dl₉.toInt ≤ 400) ∧ HD dh₉ ∧ CD dcd₉ ∧ ((nw = [] ∧ lc₉ = lc ∧ laws₉ = laws) ∨ ∃ x : TX, okT x ∧ nw = txc cs x ∧ lc.toInt < 6 ∧ lc₉ = lc + 1 ∧ laws₉ = va_up laws lc.toNatClampNeg (some x.1)) → Q r (st, lc₉, len₉, tc₉, now₉, parts₉, ao₉, fp₉, tk₉, pl₉, dc₉, dl₉, dh₉, dcd₉, laws₉, rfs₉, nw)) : wp_X11_law cs lc len tc now parts ao fp bts tk pl dc dl dh dcd laws rfs xe Q := by
  unfold wp_X11_law
  by_cases c : lc < 6
  · refine br1 c ?_
    have c1 := lt_z (a := lc) (b := 6) (x := lc.toInt) (y := 6) rfl rfl c
    refine s_X5_readx 0 len fp bts tk pl dh dcd xe (by decide) h2 h3 h8 h9 hx (fun r u0 u1 u2 u3 u4 u5 u6 u7 u8 u9 u10 u11 H => ?_)
    obtain ⟨k0, k1, k2, k3, k4, k5, k6, k7, k8⟩ := H
    have l0 : u0 = 0 := z_eq (a := u0) (b := 0) (x := u0.toInt) (y := 0) rfl rfl k8
    refine un12_i ?_
    by_cases c2 : r = 0
    · refine br1 c2 ?_
      refine s_setF (by decide) (fun st rf => ?_)
      refine un2_i ?_
      exact hq _ _ _ _ _ _ _ _ _ _ _ _ _ _ _ _ _ _ ⟨l0, k2, k3, k4, k5, k6, k7, Or.inl ⟨rfl, rfl, rfl⟩⟩
    · refine br0 c2 ?_
      unfold wp_X8_trimmed wp_X8_init
      intro q1
      obtain ⟨mc, hmc, emc⟩ := mx0 k4.1
      obtain ⟨ml, hml, eml⟩ := mx0 k5.1
      rw [hmc, hml]
      have e5 : (5 * mc).toInt = 5 * u8.toInt := mul_z (a := 5) (b := mc) rfl emc (by omega) (by omega)
      have n5 := tnz (i := 5 * mc) e5 (by omega)
      have nl := tnz (i := ml) eml (by omega)
      have p5 : ¬ 5 * mc < 0 := z_nlt (a := 5 * mc) (b := 0) (y := 0) e5 rfl (by omega)
      have pl₉ : ¬ ml < 0 := z_nlt (a := ml) (b := 0) (y := 0) eml rfl (by omega)
      refine ⟨⟨p5, by omega⟩, fun q2 => ⟨⟨pl₉, by omega⟩, fun q3 => ?_⟩⟩
      refine un2_i ?_
      generalize (5 * mc).toNatClampNeg = N5 at n5 ⊢
      generalize ml.toNatClampNeg = NL at nl ⊢
      have o5 := ofN (n := N5) (by omega)
      have ol := ofN (n := NL) (by omega)
      have s5 : ¬ Int32.ofNat N5 < 0 := z_nlt (a := Int32.ofNat N5) (b := 0) (y := 0) (of_z (by omega)) rfl (by omega)
      have sl : ¬ Int32.ofNat NL < 0 := z_nlt (a := Int32.ofNat NL) (b := 0) (y := 0) (of_z (by omega)) rfl (by omega)
      refine ⟨s5, by omega, by omega, sl, by omega, by omega, ?_⟩
      refine un3_i ?_
      refine ⟨vpi (i := lc) (x := lc.toInt) rfl h1.1 (by omega), ?_⟩
      have a1 : (lc + 1).toInt = lc.toInt + 1 := add_z (a := lc) (b := 1) rfl rfl (by omega) (by omega)
      have a2 : (lc + 1 - 1).toInt = lc.toInt + 1 - 1 := sub_z (a := lc + 1) (b := 1) a1 rfl (by omega) (by omega)
      refine s_setF (by omega) (fun st rf => ?_)
      refine un2_i ?_
      exact hq _ _ _ _ _ _ _ _ _ _ _ _ _ _ _ _ _ _ ⟨l0, k2, k3, k4, k5, k6, k7, Or.inr ⟨(q1, q2, q3, u8, u9, N5, va_cpy u10 (fun _ => 0) 0 0 (Int32.ofNat N5).toNatClampNeg, NL, va_cpy u11 (fun _ => 0) 0 0 (Int32.ofNat NL).toNatClampNeg), ⟨k4, k5, by show u9.toInt ≤ (NL : Int); omega, by show N5 < 100000; omega, k7.z _⟩, rfl, c1, rfl, rfl⟩⟩
  · refine br0 c ?_
    refine s_setF (by decide) (fun st rf => ?_)
    refine un2_i ?_
    exact hq _ _ _ _ _ _ _ _ _ _ _ _ _ _ _ _ _ _ ⟨rfl, h4, h5, h6, h7, h8, h9, Or.inl ⟨rfl, rfl, rfl⟩⟩
end
section
/-- what a SUM, a TEST is worth: by what its words stand for; none: it is BROKEN -/
abbrev Sem : Type := (Nat → Nat → Int64) → Option Int64
/-- so it is, or where it can₉t go on; the next token; how many PARTS; what it is worth -/
abbrev PRs : Type := Bool × Nat × Nat × Sem
def noS : Sem := fun _ => none
def rd_no (i l : Nat) : PRs := (false, i, l, noS)
def rd_lit (v : Int64) : Sem := fun _ => some v
def rd_wrd (op ar : Nat) : Sem := fun e => some (e op ar)
def rd_chk (v : Int64) : Option Int64 := if v.toInt < -1000000000 ∨ 1000000000 < v.toInt then none else some v
def rd_ar (op : Nat) (a b : Int64) : Option Int64 :=
  if op = 20 then rd_chk (a + b) else if op = 21 then rd_chk (a - b) else if op = 22 then rd_chk (a * b)
  else if op = 23 then (if b = 0 then none else rd_chk (a / b)) else if op = 24 then (if b = 0 then none else rd_chk (a - a / b * b))
  else if op = 25 then (if a.toInt < b.toInt then some 1 else some 0) else if op = 26 then (if b.toInt < a.toInt then some 1 else some 0)
  else (if a = b then some 1 else some 0)
def rd_bin (op : Nat) (s t : Sem) : Sem := fun e => (s e).bind (fun a => (t e).bind (fun b => rd_ar op a b))
def rd_not (s : Sem) : Sem := fun e => (s e).map (fun a => 1 - a)
/-- "and" (29), "or" (30) -/
def rd_lg (op : Nat) (s t : Sem) : Sem := fun e => (s e).bind (fun a => if a = (if op = 29 then 0 else 1) then some a else t e)
theorem rd_not2 (s : Sem) : rd_not (rd_not s) = s := by
  funext e
  unfold rd_not
  cases h : s e with
  | none => simp only [Option.map_none]
  | some a =>
    simp only [Option.map_some]
    congr 1
    have : (1 : Int64) - (1 - a) = a := by
      rw [Int64.sub_eq_add_neg, Int64.sub_eq_add_neg, Int64.neg_add, Int64.sub_eq_add_neg, Int64.neg_neg, ← Int64.add_assoc, Int64.add_right_neg, Int64.zero_add]
    exact this
/-- which word of the language (as the reference counts them; 0: none), and how many may stand behind it -/
def rd_op (ord : Bool) (t : Int) : Nat :=
  if ord then (if t = 16 then 1 else if t = 25 then 2 else if t = 26 then 3 else if t = 27 then 4 else if t = 28 then 5 else if t = 10 then 6 else 0)
  else (if 9 ≤ t ∧ t ≤ 17 then (t - 8).toNat else 0)
def rd_ch (ord : Bool) (t : Int) : Int := if ord then (if t = 10 then 5 else if t = 27 ∨ t = 28 then 6 else 0) else 0
def rd_tm (t : Int) : Nat := if t = 142 then 22 else if t = 147 then 23 else if t = 137 then 24 else 0
def rd_ad (t : Int) : Nat := if t = 143 then 20 else if t = 145 then 21 else 0
def rd_cp (t : Int) : Nat := if t = 160 then 25 else if t = 162 then 26 else if t = 161 then 27 else 0
/-- a PART -/
def rd_part (T : Nat → Int) (ord : Bool) (sub : Option (Nat → Nat → PRs)) (i l : Nat) : PRs :=
  if T i = 191 then
    match sub with
    | none => rd_no i l
    | some f => if (f (i + 1) l).1 = true then (if T (f (i + 1) l).2.1 = 193 then (true, (f (i + 1) l).2.1 + 1, (f (i + 1) l).2.2.1, (f (i + 1) l).2.2.2) else rd_no (f (i + 1) l).2.1 (f (i + 1) l).2.2.1) else f (i + 1) l
  else if 50 ≤ l then rd_no i l
  else if 1000 ≤ T i ∧ T i ≤ 2000 then (true, i + 1, l + 1, rd_lit (Int64.ofInt (T i - 1000)))
  else if rd_op ord (T i) = 0 then rd_no i l
  else if rd_ch ord (T i) = 0 then (true, i + 1, l + 1, rd_wrd (rd_op ord (T i)) 0)
  else if 0 ≤ T (i + 1) - 1000 ∧ T (i + 1) - 1000 < rd_ch ord (T i) then (true, i + 2, l + 1, rd_wrd (rd_op ord (T i)) (T (i + 1) - 1000).toNat)
  else rd_no (i + 1) (l + 1)
/-- PARTS with signs between them: what came ahead goes along as c -/
def rd_lp (part : Nat → Nat → PRs) (sg : Nat → Nat) (j2 : Nat → Sem → Sem → Sem) : Nat → (Sem → Sem) → Nat → Nat → PRs
  | 0, _, i, l => rd_no i l
  | n + 1, c, i, l =>
    if (part i l).1 = true then
      (if sg (part i l).2.1 = 0 then (true, (part i l).2.1, (part i l).2.2.1, c (part i l).2.2.2)
       else rd_lp part sg j2 n (j2 (sg (part i l).2.1) (c (part i l).2.2.2)) ((part i l).2.1 + 1) (part i l).2.2.1)
    else part i l
def rd_sum (T : Nat → Int) (part : Nat → Nat → PRs) : Nat → Nat → PRs :=
  rd_lp (rd_lp part (fun j => rd_tm (T j)) rd_bin 400 id) (fun j => rd_ad (T j)) rd_bin 400 id
def rd_nots (T : Nat → Int) : Nat → Nat → Nat
  | 0, i => i
  | n + 1, i => if T i = 8 then rd_nots T n (i + 1) else i
def rd_par (k : Nat) (s : Sem) : Sem := if k % 2 = 1 then rd_not s else s
/-- a PLAIN without its "not"s -/
def rd_plain0 (T : Nat → Int) (sum : Nat → Nat → PRs) (sub : Option (Nat → Nat → PRs)) (i l : Nat) : PRs :=
  if T i = 140 then
    match sub with
    | none => rd_no i l
    | some f => if (f (i + 1) l).1 = true then (if T (f (i + 1) l).2.1 = 141 then (true, (f (i + 1) l).2.1 + 1, (f (i + 1) l).2.2.1, (f (i + 1) l).2.2.2) else rd_no (f (i + 1) l).2.1 (f (i + 1) l).2.2.1) else f (i + 1) l
  else if (sum i l).1 = true then
    (if rd_cp (T (sum i l).2.1) = 0 then rd_no (sum i l).2.1 (sum i l).2.2.1
     else if (sum ((sum i l).2.1 + 1) (sum i l).2.2.1).1 = true then
       (true, (sum ((sum i l).2.1 + 1) (sum i l).2.2.1).2.1, (sum ((sum i l).2.1 + 1) (sum i l).2.2.1).2.2.1, rd_bin (rd_cp (T (sum i l).2.1)) (sum i l).2.2.2 (sum ((sum i l).2.1 + 1) (sum i l).2.2.1).2.2.2)
     else sum ((sum i l).2.1 + 1) (sum i l).2.2.1)
  else sum i l
def rd_plain (T : Nat → Int) (sum : Nat → Nat → PRs) (sub : Option (Nat → Nat → PRs)) (i l : Nat) : PRs :=
  (fun r : PRs => (r.1, r.2.1, r.2.2.1, rd_par (rd_nots T 400 i - i) r.2.2.2)) (rd_plain0 T sum sub (rd_nots T 400 i) l)
def rd_test (T : Nat → Int) (plain : Nat → Nat → PRs) : Nat → Nat → PRs :=
  rd_lp (rd_lp plain (fun j => if T j = 7 then 29 else 0) rd_lg 400 id) (fun j => if T j = 6 then 30 else 0) rd_lg 400 id
/-- with so many brackets still to come -/
def rd_sumL (T : Nat → Int) (ord : Bool) : Nat → Nat → Nat → PRs
  | 0 => rd_sum T (rd_part T ord none)
  | d + 1 => rd_sum T (rd_part T ord (some (rd_sumL T ord d)))
def rd_testL (T : Nat → Int) (ord : Bool) : Nat → Nat → Nat → PRs
  | 0 => rd_test T (rd_plain T (rd_sumL T ord 0) none)
  | d + 1 => rd_test T (rd_plain T (rd_sumL T ord (d + 1)) (some (rd_testL T ord d)))
/-- a CLAUSE that was read: what it begins with, its SUMS, how many TIMES, its TEST -/
abbrev Cls : Type := Nat × Option Sem × Option Sem × Nat × Option Sem
abbrev PRc : Type := Bool × Nat × Nat × Cls
def rd_noc (i l : Nat) : PRc := (false, i, l, (0, none, none, 0, none))
def rd_if (T : Nat → Int) (ord : Bool) (h : Nat) (s t : Option Sem) (m : Nat) (i l : Nat) : PRc :=
  if T i = 5 then
    (if (rd_testL T ord 8 (i + 1) l).1 = true then (true, (rd_testL T ord 8 (i + 1) l).2.1, (rd_testL T ord 8 (i + 1) l).2.2.1, (h, s, t, m, some (rd_testL T ord 8 (i + 1) l).2.2.2))
     else rd_noc (rd_testL T ord 8 (i + 1) l).2.1 (rd_testL T ord 8 (i + 1) l).2.2.1)
  else (true, i, l, (h, s, t, m, none))
def rd_rule (T : Nat → Int) (i l : Nat) : PRc :=
  if 0 ≤ T i ∧ T i ≤ 4 then
    (if T i = 4 then rd_if T false 4 none none 1 (i + 1) l
     else if (rd_sumL T false 8 (i + 1) l).1 = true then
       rd_if T false (T i).toNat (some (rd_sumL T false 8 (i + 1) l).2.2.2) none 1 (rd_sumL T false 8 (i + 1) l).2.1 (rd_sumL T false 8 (i + 1) l).2.2.1
     else rd_noc (rd_sumL T false 8 (i + 1) l).2.1 (rd_sumL T false 8 (i + 1) l).2.2.1)
  else rd_noc i l
def rd_tms (T : Nat → Int) (h : Nat) (s t : Option Sem) (i l : Nat) : PRc :=
  if T i = 24 then
    (if 1 ≤ T (i + 1) - 1000 ∧ T (i + 1) - 1000 ≤ 20 then rd_if T true h s t (T (i + 1) - 1000).toNat (i + 2) l else rd_noc (i + 1) l)
  else rd_if T true h s t 1 i l
def rd_act (t : Int) : Nat := if t = 18 then 1 else if t = 20 then 2 else if t = 21 then 3 else if t = 22 then 4 else 0
def rd_order (T : Nat → Int) (i l : Nat) : PRc :=
  if rd_act (T i) = 0 then rd_noc i l
  else if (rd_sumL T true 8 (i + 1) l).1 = true then
    (if rd_act (T i) = 1 ∨ rd_act (T i) = 4 then
      (if T (rd_sumL T true 8 (i + 1) l).2.1 = (if rd_act (T i) = 1 then 19 else 23) then
        (if (rd_sumL T true 8 ((rd_sumL T true 8 (i + 1) l).2.1 + 1) (rd_sumL T true 8 (i + 1) l).2.2.1).1 = true then
          rd_tms T (rd_act (T i) - 1) (some (rd_sumL T true 8 (i + 1) l).2.2.2) (some (rd_sumL T true 8 ((rd_sumL T true 8 (i + 1) l).2.1 + 1) (rd_sumL T true 8 (i + 1) l).2.2.1).2.2.2)
            (rd_sumL T true 8 ((rd_sumL T true 8 (i + 1) l).2.1 + 1) (rd_sumL T true 8 (i + 1) l).2.2.1).2.1 (rd_sumL T true 8 ((rd_sumL T true 8 (i + 1) l).2.1 + 1) (rd_sumL T true 8 (i + 1) l).2.2.1).2.2.1
         else rd_noc (rd_sumL T true 8 ((rd_sumL T true 8 (i + 1) l).2.1 + 1) (rd_sumL T true 8 (i + 1) l).2.2.1).2.1 (rd_sumL T true 8 ((rd_sumL T true 8 (i + 1) l).2.1 + 1) (rd_sumL T true 8 (i + 1) l).2.2.1).2.2.1)
       else rd_noc (rd_sumL T true 8 (i + 1) l).2.1 (rd_sumL T true 8 (i + 1) l).2.2.1)
     else rd_tms T (rd_act (T i) - 1) (some (rd_sumL T true 8 (i + 1) l).2.2.2) none (rd_sumL T true 8 (i + 1) l).2.1 (rd_sumL T true 8 (i + 1) l).2.2.1)
  else rd_noc (rd_sumL T true 8 (i + 1) l).2.1 (rd_sumL T true 8 (i + 1) l).2.2.1
/-- CLAUSES, so many at most -/
def rd_txt (T : Nat → Int) (cl : Nat → Nat → PRc) : Nat → Nat → Nat → List Cls → Bool × Nat × List Cls
  | 0, i, _, a => (false, i, a)
  | n + 1, i, l, a =>
    if (cl i l).1 = true then
      (if T (cl i l).2.1 = 31 then (true, (cl i l).2.1, a ++ [(cl i l).2.2.2])
       else if T (cl i l).2.1 = 159 then rd_txt T cl n ((cl i l).2.1 + 1) (cl i l).2.2.1 (a ++ [(cl i l).2.2.2])
       else (false, (cl i l).2.1, a ++ [(cl i l).2.2.2]))
    else (false, (cl i l).2.1, a)
def rd_law (T : Nat → Int) : Bool × Nat × List Cls := rd_txt T (rd_rule T) 12 0 0 []
def rd_ord (T : Nat → Int) : Bool × Nat × List Cls := rd_txt T (rd_order T) 12 0 0 []
end
section
/-! tokens: what both readers see of the TAPE -/
/-- blanks from p to q, and no more -/
def SkT (tp : Nat → Int32) (n p q : Nat) : Prop := p ≤ q ∧ q ≤ n ∧ (∀ r, p ≤ r → r < q → tp r = 32) ∧ (q < n → ¬ tp q = 32)
/-- bytes lo .. hi from p to q, and no more -/
def EnT (tp : Nat → Int32) (n : Nat) (lo hi : Int) (p q : Nat) : Prop := p ≤ q ∧ q ≤ n ∧ (∀ r, p ≤ r → r < q → lo ≤ (tp r).toInt ∧ (tp r).toInt ≤ hi) ∧ (q < n → ¬ (lo ≤ (tp q).toInt ∧ (tp q).toInt ≤ hi))
theorem SkT.uq {tp : Nat → Int32} {n p q q₉ : Nat} (h : SkT tp n p q) (h₉ : SkT tp n p q₉) : q = q₉ := by
  obtain ⟨a1, a2, a3, a4⟩ := h
  obtain ⟨b1, b2, b3, b4⟩ := h₉
  rcases Nat.lt_trichotomy q q₉ with c | c | c
  · exact absurd (b3 q a1 c) (a4 (by omega))
  · exact c
  · exact absurd (a3 q₉ b1 c) (b4 (by omega))
theorem EnT.uq {tp : Nat → Int32} {n p q q₉ : Nat} {lo hi : Int} (h : EnT tp n lo hi p q) (h₉ : EnT tp n lo hi p q₉) : q = q₉ := by
  obtain ⟨a1, a2, a3, a4⟩ := h
  obtain ⟨b1, b2, b3, b4⟩ := h₉
  rcases Nat.lt_trichotomy q q₉ with c | c | c
  · exact absurd (b3 q a1 c) (a4 (by omega))
  · exact c
  · exact absurd (a3 q₉ b1 c) (b4 (by omega))
theorem SkT.ex (tp : Nat → Int32) (n : Nat) : ∀ (f p : Nat), p ≤ n → n - p ≤ f → ∃ q, SkT tp n p q := by
  intro f
  induction f with
  | zero => intro p h1 h2; exact ⟨p, Nat.le_refl _, h1, fun r a b => by omega, fun q => by omega⟩
  | succ f ih =>
    intro p h1 h2
    by_cases c : p < n ∧ tp p = 32
    · obtain ⟨q, a1, a2, a3, a4⟩ := ih (p + 1) (by omega) (by omega)
      refine ⟨q, by omega, a2, fun r b1 b2 => ?_, a4⟩
      by_cases e : r = p
      · rw [e]; exact c.2
      · exact a3 r (by omega) b2
    · exact ⟨p, Nat.le_refl _, h1, fun r a b => by omega, fun q r => c ⟨q, r⟩⟩
theorem EnT.ex (tp : Nat → Int32) (n : Nat) (lo hi : Int) : ∀ (f p : Nat), p ≤ n → n - p ≤ f → ∃ q, EnT tp n lo hi p q := by
  intro f
  induction f with
  | zero => intro p h1 h2; exact ⟨p, Nat.le_refl _, h1, fun r a b => by omega, fun q => by omega⟩
  | succ f ih =>
    intro p h1 h2
    by_cases c : p < n ∧ (lo ≤ (tp p).toInt ∧ (tp p).toInt ≤ hi)
    · obtain ⟨q, a1, a2, a3, a4⟩ := ih (p + 1) (by omega) (by omega)
      refine ⟨q, by omega, a2, fun r b1 b2 => ?_, a4⟩
      by_cases e : r = p
      · rw [e]; exact c.2
      · exact a3 r (by omega) b2
    · exact ⟨p, Nat.le_refl _, h1, fun r a b => by omega, fun q r => c ⟨q, r⟩⟩
/-- a row of letters as a number -/
def lx_enc (f : Nat → Int) : Nat → Int
  | 0 => 0
  | m + 1 => 32 * lx_enc f m + (f m - 96)
theorem lx_enc0 {f : Nat → Int} : ∀ m, (∀ i, i < m → 97 ≤ f i ∧ f i ≤ 122) → 0 ≤ lx_enc f m ∧ (0 < m → 1 ≤ lx_enc f m) := by
  intro m
  induction m with
  | zero => intro _; exact ⟨Int.le_refl _, fun q => absurd q (Nat.lt_irrefl 0)⟩
  | succ m ih =>
    intro h
    have h1 := ih (fun i hi => h i (by omega))
    have h2 := h m (by omega)
    have e : lx_enc f (m + 1) = 32 * lx_enc f m + (f m - 96) := rfl
    rw [e]
    exact ⟨by omega, fun _ => by omega⟩
theorem lx_inj {f g : Nat → Int} : ∀ m k, (∀ i, i < m → 97 ≤ f i ∧ f i ≤ 122) → (∀ i, i < k → 97 ≤ g i ∧ g i ≤ 122) → lx_enc f m = lx_enc g k → m = k ∧ ∀ i, i < m → f i = g i := by
  intro m
  induction m with
  | zero =>
    intro k h1 h2 e
    have e : (0 : Int) = lx_enc g k := e
    have := (lx_enc0 k h2).2
    by_cases c : k = 0
    · exact ⟨c.symm, fun i hi => absurd hi (Nat.not_lt_zero i)⟩
    · have := this (by omega); omega
  | succ m ih =>
    intro k h1 h2 e
    cases k with
    | zero =>
      have e : lx_enc f (m + 1) = 0 := e
      have := (lx_enc0 (m + 1) h1).2 (by omega); omega
    | succ k =>
      have e : 32 * lx_enc f m + (f m - 96) = 32 * lx_enc g k + (g k - 96) := e
      have a := h1 m (by omega)
      have b := h2 k (by omega)
      have e1 : lx_enc f m = lx_enc g k := by omega
      have e2 : f m = g k := by omega
      obtain ⟨r1, r2⟩ := ih k (fun i hi => h1 i (by omega)) (fun i hi => h2 i (by omega)) e1
      refine ⟨by omega, fun i hi => ?_⟩
      by_cases c : i = m
      · rw [c, e2, r1]
      · exact r2 i (by omega)
theorem lx_ext {f g : Nat → Int} : ∀ m, (∀ i, i < m → f i = g i) → lx_enc f m = lx_enc g m := by
  intro m
  induction m with
  | zero => intro _; rfl
  | succ m ih =>
    intro h
    show 32 * lx_enc f m + (f m - 96) = 32 * lx_enc g m + (g m - 96)
    rw [ih (fun i hi => h i (by omega)), h m (by omega)]
theorem lx_encb {f : Nat → Int} : ∀ m, m ≤ 10 → (∀ i, i < m → 97 ≤ f i ∧ f i ≤ 122) → lx_enc f m < 32 ^ m := by
  intro m
  induction m with
  | zero => intro _ _; show (0 : Int) < 32 ^ 0; decide
  | succ m ih =>
    intro hm h
    have h1 := ih (by omega) (fun i hi => h i (by omega))
    have h2 := h m (by omega)
    show 32 * lx_enc f m + (f m - 96) < 32 ^ (m + 1)
    have : (32 : Int) ^ (m + 1) = 32 * 32 ^ m := by rw [Int.pow_succ, Int.mul_comm]
    rw [this]; omega
/-- the word k stands there -/
def lx_is (tp : Nat → Int32) (s m k : Nat) : Prop := m < 8 ∧ (∀ i, i < m → zby (8 * k + i) = tp (s + i)) ∧ zby (8 * k + m) = 32
/-- which word a row of letters is: its number, 30 without -/
def lx_wd (tp : Nat → Int32) (s m : Nat) (t : Int) : Prop := (∃ k : Nat, k < 29 ∧ t = (k : Int) ∧ lx_is tp s m k ∧ ∀ j, j < k → ¬ lx_is tp s m j) ∨ (t = 30 ∧ ∀ k, k < 29 → ¬ lx_is tp s m k)
def lx_wcs : List Int := [624435, 13094067, 140531, 7657651, 538561715, 294, 498, 1476, 14836, 103820, 116807086, 4375176, 370116, 263748, 24170674, 20186324, 4153, 441828, 4391, 89, 263852, 284264, 12581, 302, 21279923, 146885, 404362868, 52, 2855638675]
/-- a word as the reference holds it -/
def lx_wc (k : Nat) : Int := lx_wcs.getD k 0
/-- a row of digits -/
def lx_nm (tp : Nat → Int32) (s : Nat) : Nat → Int
  | 0 => 0
  | m + 1 => if 10 * lx_nm tp s m + (tp (s + m)).toInt - 48 < 1001 then 10 * lx_nm tp s m + (tp (s + m)).toInt - 48 else 1001
/-- a token that stands from s to e -/
def TokT (tp : Nat → Int32) (n s e : Nat) (t : Int) : Prop :=
  (s = n ∧ e = n ∧ t = 31) ∨ (s < n ∧ (97 ≤ (tp s).toInt ∧ (tp s).toInt ≤ 122) ∧ EnT tp n 97 122 s e ∧ lx_wd tp s (e - s) t)
  ∨ (s < n ∧ (48 ≤ (tp s).toInt ∧ (tp s).toInt ≤ 57) ∧ EnT tp n 48 57 s e ∧ t = 1000 + lx_nm tp s (e - s))
  ∨ (s < n ∧ ¬ (97 ≤ (tp s).toInt ∧ (tp s).toInt ≤ 122) ∧ ¬ (48 ≤ (tp s).toInt ∧ (tp s).toInt ≤ 57) ∧ ¬ tp s = 32 ∧ (0 ≤ (tp s).toInt ∧ (tp s).toInt ≤ 255) ∧ e = s + 1 ∧ t = 100 + (tp s).toInt)
/-- all tokens of the TAPE -/
def Lex (tp : Nat → Int32) (n : Nat) (st en : Nat → Nat) (T : Nat → Int) : Prop := SkT tp n 0 (st 0) ∧ ∀ k, TokT tp n (st k) (en k) (T k) ∧ SkT tp n (en k) (st (k + 1))
theorem lx_wdex (tp : Nat → Int32) (s m : Nat) : ∃ t, lx_wd tp s m t := by
  have key : ∀ f : Nat, (∃ k, k < f ∧ lx_is tp s m k ∧ ∀ j, j < k → ¬ lx_is tp s m j) ∨ ∀ k, k < f → ¬ lx_is tp s m k := by
    intro f
    induction f with
    | zero => exact Or.inr (fun k hk => absurd hk (Nat.not_lt_zero k))
    | succ f ih =>
      rcases ih with ⟨k, h1, h2, h3⟩ | h
      · exact Or.inl ⟨k, by omega, h2, h3⟩
      · by_cases c : lx_is tp s m f
        · exact Or.inl ⟨f, by omega, c, h⟩
        · refine Or.inr (fun k hk => ?_)
          by_cases e : k = f
          · rw [e]; exact c
          · exact h k (by omega)
  rcases key 29 with ⟨k, h1, h2, h3⟩ | h
  · exact ⟨(k : Int), Or.inl ⟨k, h1, rfl, h2, h3⟩⟩
  · exact ⟨30, Or.inr ⟨rfl, h⟩⟩
theorem TokT.ex (tp : Nat → Int32) (n s : Nat) (hB : ∀ r, r < n → 0 ≤ (tp r).toInt ∧ (tp r).toInt ≤ 255) (h : s ≤ n) (hb : s < n → ¬ tp s = 32) : ∃ e t, TokT tp n s e t ∧ e ≤ n := by
  by_cases c : s < n
  · by_cases d : 97 ≤ (tp s).toInt ∧ (tp s).toInt ≤ 122
    · obtain ⟨e, he⟩ := EnT.ex tp n 97 122 n s h (by omega)
      obtain ⟨t, ht⟩ := lx_wdex tp s (e - s)
      exact ⟨e, t, Or.inr (Or.inl ⟨c, d, he, ht⟩), he.2.1⟩
    · by_cases d2 : 48 ≤ (tp s).toInt ∧ (tp s).toInt ≤ 57
      · obtain ⟨e, he⟩ := EnT.ex tp n 48 57 n s h (by omega)
        exact ⟨e, _, Or.inr (Or.inr (Or.inl ⟨c, d2, he, rfl⟩)), he.2.1⟩
      · exact ⟨s + 1, _, Or.inr (Or.inr (Or.inr ⟨c, d, d2, hb c, hB s c, rfl, rfl⟩)), by omega⟩
  · exact ⟨n, 31, Or.inl ⟨by omega, rfl, rfl⟩, Nat.le_refl _⟩
theorem Lex.ex (tp : Nat → Int32) (n : Nat) (hB : ∀ r, r < n → 0 ≤ (tp r).toInt ∧ (tp r).toInt ≤ 255) : ∃ st en T, Lex tp n st en T := by
  obtain ⟨s0, h0⟩ := SkT.ex tp n n 0 (Nat.zero_le _) (by omega)
  have step : ∀ s : { s : Nat // s ≤ n ∧ (s < n → ¬ tp s = 32) }, ∃ x : Nat × Int × { s : Nat // s ≤ n ∧ (s < n → ¬ tp s = 32) }, TokT tp n s.1 x.1 x.2.1 ∧ SkT tp n x.1 x.2.2.1 := by
    intro s
    obtain ⟨e, t, h1, h2⟩ := TokT.ex tp n s.1 hB s.2.1 s.2.2
    obtain ⟨q, hq⟩ := SkT.ex tp n n e h2 (by omega)
    exact ⟨(e, t, ⟨q, hq.2.1, hq.2.2.2⟩), h1, hq⟩
  refine ⟨fun k => (Nat.rec (motive := fun _ => { s : Nat // s ≤ n ∧ (s < n → ¬ tp s = 32) }) ⟨s0, h0.2.1, h0.2.2.2⟩ (fun _ s => (Classical.choose (step s)).2.2) k).1, fun k => (Classical.choose (step (Nat.rec (motive := fun _ => { s : Nat // s ≤ n ∧ (s < n → ¬ tp s = 32) }) ⟨s0, h0.2.1, h0.2.2.2⟩ (fun _ s => (Classical.choose (step s)).2.2) k))).1, fun k => (Classical.choose (step (Nat.rec (motive := fun _ => { s : Nat // s ≤ n ∧ (s < n → ¬ tp s = 32) }) ⟨s0, h0.2.1, h0.2.2.2⟩ (fun _ s => (Classical.choose (step s)).2.2) k))).2.1, h0, fun k => ?_⟩
  exact Classical.choose_spec (step (Nat.rec (motive := fun _ => { s : Nat // s ≤ n ∧ (s < n → ¬ tp s = 32) }) ⟨s0, h0.2.1, h0.2.2.2⟩ (fun _ s => (Classical.choose (step s)).2.2) k))
theorem lx_nmb {tp : Nat → Int32} {s : Nat} : ∀ m, (∀ i, i < m → 48 ≤ (tp (s + i)).toInt ∧ (tp (s + i)).toInt ≤ 57) → 0 ≤ lx_nm tp s m ∧ lx_nm tp s m ≤ 1001 := by
  intro m
  induction m with
  | zero => intro _; exact ⟨Int.le_refl _, by show (0 : Int) ≤ 1001; decide⟩
  | succ m ih =>
    intro h
    have h1 := ih (fun i hi => h i (by omega))
    have h2 := h m (by omega)
    have e : lx_nm tp s (m + 1) = if 10 * lx_nm tp s m + (tp (s + m)).toInt - 48 < 1001 then 10 * lx_nm tp s m + (tp (s + m)).toInt - 48 else 1001 := rfl
    rw [e]
    by_cases c : 10 * lx_nm tp s m + (tp (s + m)).toInt - 48 < 1001
    · rw [if_pos c]; omega
    · rw [if_neg c]; omega
theorem lx_wdb {tp : Nat → Int32} {s m : Nat} {t : Int} (h : lx_wd tp s m t) : 0 ≤ t ∧ t ≤ 30 ∧ t ≠ 29 := by
  rcases h with ⟨k, h1, h2, _, _⟩ | ⟨h, _⟩
  · omega
  · omega
/-- how far tokens go -/
theorem TokT.le {tp : Nat → Int32} {n s e : Nat} {t : Int} (h : TokT tp n s e t) : s ≤ e ∧ e ≤ n ∧ (¬ t = 31 → s < e) ∧ (t = 31 → s = n) := by
  rcases h with ⟨a, b, c⟩ | ⟨a, b, c, d⟩ | ⟨a, b, c, d⟩ | ⟨a, b, c, d, g, e1, f⟩
  · exact ⟨by omega, by omega, fun q => absurd c q, fun _ => a⟩
  · obtain ⟨c1, c2, c3, c4⟩ := c
    have : s < e := by
      rcases Nat.lt_or_ge s e with q | q
      · exact q
      · have : e = s := by omega
        rw [this] at c4
        exact absurd b (c4 a)
    have := lx_wdb d
    exact ⟨c1, c2, fun _ => by omega, fun q => by omega⟩
  · obtain ⟨c1, c2, c3, c4⟩ := c
    have h1 : s < e := by
      rcases Nat.lt_or_ge s e with q | q
      · exact q
      · have : e = s := by omega
        rw [this] at c4
        exact absurd b (c4 a)
    have := (lx_nmb (tp := tp) (s := s) (e - s) (fun i hi => c3 (s + i) (by omega) (by omega))).1
    exact ⟨c1, c2, fun _ => h1, fun q => by omega⟩
  · exact ⟨by omega, by omega, fun _ => by omega, fun q => by omega⟩
end
section
/-! the reference₉s tokens -/
/-- a token as the reference holds it -/
def MT (t : Int) (sort : Int32) (worth : Int64) : Prop :=
  (t = 31 ∧ sort = 0) ∨ (sort = 1 ∧ ((∃ k : Nat, k < 29 ∧ t = (k : Int) ∧ worth.toInt = lx_wc k) ∨ (t = 30 ∧ ∀ k, k < 29 → ¬ worth.toInt = lx_wc k)))
  ∨ (sort = 2 ∧ 1000 ≤ t ∧ t ≤ 2001 ∧ (t ≤ 2000 → worth.toInt = t - 1000) ∧ (t = 2001 → 1001 ≤ worth.toInt))
  ∨ (sort = 3 ∧ 100 ≤ t ∧ t ≤ 355 ∧ worth.toInt = t - 100)
set_option maxRecDepth 100000 in
theorem lx_dec : ∀ k, k < 29 → ∀ m, m < 8 → (∀ i, i < m → 97 ≤ (zby (8 * k + i)).toInt ∧ (zby (8 * k + i)).toInt ≤ 122) → zby (8 * k + m) = 32 → lx_enc (fun i => (zby (8 * k + i)).toInt) m = lx_wc k := by decide +kernel
set_option maxRecDepth 100000 in
theorem lx_len : ∀ k, k < 29 → ∃ m, m < 8 ∧ (∀ i, i < m → 97 ≤ (zby (8 * k + i)).toInt ∧ (zby (8 * k + i)).toInt ≤ 122) ∧ zby (8 * k + m) = 32 := by decide +kernel
set_option maxRecDepth 100000 in
theorem lx_wcI : ∀ j, j < 29 → ∀ k, k < 29 → lx_wc j = lx_wc k → j = k := by decide +kernel
theorem lx_mt {tp : Nat → Int32} {n s e : Nat} {t : Int} (hE : EnT tp n 97 122 s e) (hw : lx_wd tp s (e - s) t) {worth : Int64} (h1 : e - s ≤ 10 → worth.toInt = lx_enc (fun i => (tp (s + i)).toInt) (e - s)) (h2 : 10 < e - s → worth.toInt = -1) : MT t 1 worth := by
  have hl : ∀ i, i < e - s → 97 ≤ (tp (s + i)).toInt ∧ (tp (s + i)).toInt ≤ 122 := fun i hi => hE.2.2.1 (s + i) (by omega) (by omega)
  rcases hw with ⟨k, k1, k2, ⟨m8, hb, he⟩, _⟩ | ⟨k1, k2⟩
  · refine Or.inr (Or.inl ⟨rfl, Or.inl ⟨k, k1, k2, ?_⟩⟩)
    rw [h1 (by omega), ← lx_dec k k1 (e - s) m8 (fun i hi => by rw [hb i hi]; exact hl i hi) he]
    exact lx_ext _ (fun i hi => by rw [hb i hi])
  · refine Or.inr (Or.inl ⟨rfl, Or.inr ⟨k1, fun k hk q => ?_⟩⟩)
    obtain ⟨m, m8, ml, me⟩ := lx_len k hk
    have e1 := lx_dec k hk m m8 ml me
    rw [← e1] at q
    by_cases c : e - s ≤ 10
    · rw [h1 c] at q
      obtain ⟨r1, r2⟩ := lx_inj (e - s) m hl ml q
      refine k2 k hk ⟨by omega, fun i hi => ?_, by rw [r1]; exact me⟩
      exact (Int32.toInt_inj.mp (r2 i hi)).symm
    · rw [h2 (by omega)] at q
      have := (lx_enc0 m ml).1
      omega
theorem x_nt8 {taped : Int32} {tape : Nat → Int32} {n : Nat} (hn : taped.toInt = (n : Int)) (h4 : n ≤ 400) {p : Nat} {Qb : Int32 → Prop} (K : ∀ (x : Int32) (q : Nat), x.toInt = (q : Int) → SkT tape n p q → Qb x) : ∀ (m q : Nat) (x : Int32), x.toInt = (q : Int) → p ≤ q → q ≤ n → (∀ r, p ≤ r → r < q → tape r = 32) → n - q < m → wl_X12_nextToken_8 taped tape Qb m x := by
  intro m
  induction m with
  | zero => intro q x h1 h2 h3 h5 h6; exact absurd h6 (Nat.not_lt_zero _)
  | succ m ih =>
    intro q x h1 h2 h3 h5 h6
    unfold wl_X12_nextToken_8
    by_cases d : taped ≤ x
    · refine br1 d (K x q h1 ⟨h2, h3, h5, fun r => ?_⟩)
      have := le_z hn h1 d
      omega
    · refine br0 d ?_
      have d₉ := nle_z hn h1 d
      refine ⟨vpi h1 (by omega) (by omega), ?_⟩
      rw [tnN h1]
      by_cases e : tape q = 32
      · refine br1 e ?_
        have e1 := add1 h1 (by omega)
        refine ih (q + 1) (x + 1) e1 (by omega) (by omega) (fun r r1 r2 => ?_) (by omega)
        by_cases c : r = q
        · rw [c]; exact e
        · exact h5 r r1 (by omega)
      · exact br0 e (K x q h1 ⟨h2, h3, h5, fun _ => e⟩)
/-- a word, so far -/
def wOK (tape : Nat → Int32) (s j : Nat) (w : Int64) : Prop := (j ≤ 10 → w.toInt = lx_enc (fun i => (tape (s + i)).toInt) j) ∧ (10 < j → w.toInt = -1)
theorem wOK.next {tape : Nat → Int32} {s j : Nat} {w : Int64} (h : wOK tape s j w) (hl : ∀ i, i < j → 97 ≤ (tape (s + i)).toInt ∧ (tape (s + i)).toInt ≤ 122) (h2 : 97 ≤ (tape (s + j)).toInt ∧ (tape (s + j)).toInt ≤ 122) : (¬ 10 ≤ j → wOK tape s (j + 1) (w * 32 + (tape (s + j)).toInt64 - 96)) ∧ (10 ≤ j → wOK tape s (j + 1) (-1)) := by
  refine ⟨fun c => ⟨fun _ => ?_, fun q => by omega⟩, fun c => ⟨fun q => by omega, fun _ => rfl⟩⟩
  have e := h.1 (by omega)
  have b := lx_enc0 j hl
  have b2 := lx_encb j (by omega) hl
  have b3 : (32 : Int) ^ j ≤ 32 ^ 9 := by
    have hj : j = 0 ∨ j = 1 ∨ j = 2 ∨ j = 3 ∨ j = 4 ∨ j = 5 ∨ j = 6 ∨ j = 7 ∨ j = 8 ∨ j = 9 := by omega
    rcases hj with q | q | q | q | q | q | q | q | q | q <;> rw [q] <;> decide
  have b4 : (32 : Int) ^ 9 = 35184372088832 := by decide
  have e1 : (w * 32).toInt = lx_enc (fun i => (tape (s + i)).toInt) j * 32 := lmul_z e rfl (by omega) (by omega)
  have e2 := ladd_z e1 (i2l_z (a := tape (s + j)) rfl) (by omega) (by omega)
  have e3 := lsub_z (b := 96) (y := 96) e2 rfl (by omega) (by omega)
  rw [e3]
  show _ = 32 * lx_enc (fun i => (tape (s + i)).toInt) j + ((tape (s + j)).toInt - 96)
  omega
theorem x_nt149 {taped x8 : Int32} {tape : Nat → Int32} {n s : Nat} (hn : taped.toInt = (n : Int)) (h4 : n ≤ 400) (hs : x8.toInt = (s : Int)) {Qb : Int32 → Int64 → Prop} (K : ∀ (x : Int32) (w : Int64) (e : Nat), x.toInt = (e : Int) → EnT tape n 97 122 s e → wOK tape s (e - s) w → Qb x w) : ∀ (m j : Nat) (x : Int32) (w : Int64), x.toInt = ((s + j : Nat) : Int) → s + j ≤ n → (∀ i, i < j → 97 ≤ (tape (s + i)).toInt ∧ (tape (s + i)).toInt ≤ 122) → wOK tape s j w → n - (s + j) < m → wl_X12_nextToken_149 taped tape x8 1 Qb m x w := by
  intro m
  induction m with
  | zero => intro j x w h1 h2 h3 h5 h6; exact absurd h6 (Nat.not_lt_zero _)
  | succ m ih =>
    intro j x w h1 h2 h3 h5 h6
    unfold wl_X12_nextToken_149
    have hE : ∀ r, s ≤ r → r < s + j → 97 ≤ (tape r).toInt ∧ (tape r).toInt ≤ 122 := fun r r1 r2 => by
      have := h3 (r - s) (by omega)
      rw [Nat.add_sub_cancel' r1] at this
      exact this
    refine br1 rfl ?_
    by_cases d : taped ≤ x
    · have := le_z hn h1 d
      refine br1 d (K x w (s + j) h1 ⟨by omega, h2, hE, fun r => by omega⟩ ?_)
      rw [Nat.add_sub_cancel_left]; exact h5
    · refine br0 d ?_
      have d₉ := nle_z hn h1 d
      refine ⟨vpi h1 (by omega) (by omega), ?_⟩
      rw [tnN h1]
      refine e_isSmall (fun s1 s2 => ?_) (fun s0 => ?_)
      · refine br0 (by decide) ?_
        have e1 := add1 h1 (by omega)
        have hx := h5.next h3 ⟨s1, s2⟩
        have h3₉ : ∀ i, i < j + 1 → 97 ≤ (tape (s + i)).toInt ∧ (tape (s + i)).toInt ≤ 122 := fun i hi => by
          by_cases c : i = j
          · rw [c]; exact ⟨s1, s2⟩
          · exact h3 i (by omega)
        have ez : (x - x8).toInt = (j : Int) := by
          have := sub_z h1 hs (by omega) (by omega)
          rw [this]; omega
        by_cases z : 10 ≤ x - x8
        · have z₉ := le_z (x := 10) rfl ez z
          exact br1 z (ih (j + 1) (x + 1) _ e1 (by omega) h3₉ (hx.2 (by omega)) (by omega))
        · have z₉ := nle_z (x := 10) rfl ez z
          exact br0 z ⟨vpi h1 (by omega) (by omega), ih (j + 1) (x + 1) _ e1 (by omega) h3₉ (hx.1 (by omega)) (by omega)⟩
      · refine br1 rfl (K x w (s + j) h1 ⟨by omega, h2, hE, fun _ => s0⟩ ?_)
        rw [Nat.add_sub_cancel_left]; exact h5
theorem x_nt149n {taped x8 y : Int32} {tape : Nat → Int32} {Qb : Int32 → Int64 → Prop} (hy : ¬ y = 1) (m : Nat) {x : Int32} {w : Int64} (h : Qb x w) : wl_X12_nextToken_149 taped tape x8 y Qb (m + 1) x w := by
  unfold wl_X12_nextToken_149
  exact br0 hy h
theorem x_nt149an {taped x8 y : Int32} {tape : Nat → Int32} {Qb : Int32 → Int64 → Prop} (hy : ¬ y = 1) (m : Nat) {x : Int32} {w : Int64} (h : Qb x w) : wl_X12_nextToken_149a taped tape x8 y Qb (m + 1) x w := by
  unfold wl_X12_nextToken_149a
  exact br0 hy h
theorem x_nt243n {taped y : Int32} {tape : Nat → Int32} {Qb : Int32 → Int64 → Prop} (hy : ¬ y = 2) (m : Nat) {x : Int32} {w : Int64} (h : Qb x w) : wl_X12_nextToken_243 taped tape y Qb (m + 1) x w := by
  unfold wl_X12_nextToken_243
  exact br0 hy h
theorem x_nt243an {taped y : Int32} {tape : Nat → Int32} {Qb : Int32 → Int64 → Prop} (hy : ¬ y = 2) (m : Nat) {x : Int32} {w : Int64} (h : Qb x w) : wl_X12_nextToken_243a taped tape y Qb (m + 1) x w := by
  unfold wl_X12_nextToken_243a
  exact br0 hy h
/-- a number, so far -/
def nOK (tape : Nat → Int32) (s j : Nat) (w : Int64) : Prop := 0 ≤ w.toInt ∧ w.toInt ≤ 10000009 ∧ (lx_nm tape s j ≤ 1000 → w.toInt = lx_nm tape s j) ∧ (lx_nm tape s j = 1001 → 1001 ≤ w.toInt)
theorem nOK.next {tape : Nat → Int32} {s j : Nat} {w : Int64} (h : nOK tape s j w) (hl : ∀ i, i < j → 48 ≤ (tape (s + i)).toInt ∧ (tape (s + i)).toInt ≤ 57) (h2 : 48 ≤ (tape (s + j)).toInt ∧ (tape (s + j)).toInt ≤ 57) : (w.toInt ≤ 1000000 → nOK tape s (j + 1) (w * 10 + (tape (s + j)).toInt64 - 48)) ∧ (¬ w.toInt ≤ 1000000 → nOK tape s (j + 1) w) := by
  obtain ⟨a1, a2, a3, a4⟩ := h
  have b := lx_nmb j hl
  have e : lx_nm tape s (j + 1) = if 10 * lx_nm tape s j + (tape (s + j)).toInt - 48 < 1001 then 10 * lx_nm tape s j + (tape (s + j)).toInt - 48 else 1001 := rfl
  unfold nOK
  rw [e]
  refine ⟨fun c => ?_, fun c => ?_⟩
  · have e1 : (w * 10).toInt = w.toInt * 10 := lmul_z rfl rfl (by omega) (by omega)
    have e2 := ladd_z e1 (i2l_z (a := tape (s + j)) rfl) (by omega) (by omega)
    have e3 := lsub_z (b := 48) (y := 48) e2 rfl (by omega) (by omega)
    rw [e3]
    by_cases g : 10 * lx_nm tape s j + (tape (s + j)).toInt - 48 < 1001
    · rw [if_pos g]; exact ⟨by omega, by omega, fun q => by have := a3 (by omega); omega, fun q => by omega⟩
    · rw [if_neg g]
      refine ⟨by omega, by omega, fun q => by omega, fun q => ?_⟩
      by_cases g2 : lx_nm tape s j ≤ 1000
      · have := a3 g2; omega
      · have := a4 (by omega); omega
  · by_cases g : 10 * lx_nm tape s j + (tape (s + j)).toInt - 48 < 1001
    · have := a3 (by omega); omega
    · rw [if_neg g]; exact ⟨a1, a2, fun q => by omega, fun q => by omega⟩
theorem x_nt243 {taped : Int32} {tape : Nat → Int32} {n s : Nat} (hn : taped.toInt = (n : Int)) (h4 : n ≤ 400) {Qb : Int32 → Int64 → Prop} (K : ∀ (x : Int32) (w : Int64) (e : Nat), x.toInt = (e : Int) → EnT tape n 48 57 s e → nOK tape s (e - s) w → Qb x w) : ∀ (m j : Nat) (x : Int32) (w : Int64), x.toInt = ((s + j : Nat) : Int) → s + j ≤ n → (∀ i, i < j → 48 ≤ (tape (s + i)).toInt ∧ (tape (s + i)).toInt ≤ 57) → nOK tape s j w → n - (s + j) < m → wl_X12_nextToken_243 taped tape 2 Qb m x w := by
  intro m
  induction m with
  | zero => intro j x w h1 h2 h3 h5 h6; exact absurd h6 (Nat.not_lt_zero _)
  | succ m ih =>
    intro j x w h1 h2 h3 h5 h6
    unfold wl_X12_nextToken_243
    have hE : ∀ r, s ≤ r → r < s + j → 48 ≤ (tape r).toInt ∧ (tape r).toInt ≤ 57 := fun r r1 r2 => by
      have := h3 (r - s) (by omega)
      rw [Nat.add_sub_cancel' r1] at this
      exact this
    refine br1 rfl ?_
    by_cases d : taped ≤ x
    · have := le_z hn h1 d
      refine br1 d (K x w (s + j) h1 ⟨by omega, h2, hE, fun r => by omega⟩ ?_)
      rw [Nat.add_sub_cancel_left]; exact h5
    · refine br0 d ?_
      have d₉ := nle_z hn h1 d
      refine ⟨vpi h1 (by omega) (by omega), ?_⟩
      rw [tnN h1]
      refine e_isDigit (fun s1 s2 => ?_) (fun s0 => ?_)
      · refine br0 (by decide) ?_
        have e1 := add1 h1 (by omega)
        have hx := h5.next h3 ⟨s1, s2⟩
        have h3₉ : ∀ i, i < j + 1 → 48 ≤ (tape (s + i)).toInt ∧ (tape (s + i)).toInt ≤ 57 := fun i hi => by
          by_cases c : i = j
          · rw [c]; exact ⟨s1, s2⟩
          · exact h3 i (by omega)
        by_cases z : lg_cmp w 1000000 ≤ 0
        · have z₉ := c_le (y := 1000000) rfl rfl z
          exact br1 z ⟨vpi h1 (by omega) (by omega), ih (j + 1) (x + 1) _ e1 (by omega) h3₉ (hx.1 z₉) (by omega)⟩
        · have z₉ := c_nle (y := 1000000) rfl rfl z
          exact br0 z (ih (j + 1) (x + 1) _ e1 (by omega) h3₉ (hx.2 (by omega)) (by omega))
      · refine br1 rfl (K x w (s + j) h1 ⟨by omega, h2, hE, fun _ => s0⟩ ?_)
        rw [Nat.add_sub_cancel_left]; exact h5
/-- the next token: it begins where blanks end -/
theorem x_nextToken {taped to : Int32} {tape : Nat → Int32} {n p : Nat} (hn : taped.toInt = (n : Int)) (h4 : n ≤ 400) (hp : to.toInt = (p : Int)) (hpn : p ≤ n) {s e : Nat} {t : Int} (hS : SkT tape n p s) (hT : TokT tape n s e t) {Q : (Int32 × Int32 × Int32 × Int64) → Prop} (hq : ∀ (fr to₉ sort : Int32) (worth : Int64), fr.toInt = (s : Int) → to₉.toInt = (e : Int) → MT t sort worth → Q (fr, to₉, sort, worth)) : wp_X12_nextToken taped to tape Q := by
  unfold wp_X12_nextToken
  refine x_nt8 hn h4 (p := p) (fun x q hx hq₉ => ?_) _ p to hp (Nat.le_refl _) hpn (fun r r1 r2 => by omega) (by omega)
  have := hq₉.uq hS
  subst this
  refine jn1_i (fun y : Int32 => (y = 0 ∧ q = n) ∨ (y = 1 ∧ q < n ∧ 97 ≤ (tape q).toInt ∧ (tape q).toInt ≤ 122) ∨ (y = 2 ∧ q < n ∧ 48 ≤ (tape q).toInt ∧ (tape q).toInt ≤ 57) ∨ (y = 3 ∧ q < n ∧ ¬ (97 ≤ (tape q).toInt ∧ (tape q).toInt ≤ 122) ∧ ¬ (48 ≤ (tape q).toInt ∧ (tape q).toInt ≤ 57))) (fun y hy => ?_) (fun z hz => ?_)
  · rcases hy with ⟨rfl, h⟩ | ⟨rfl, h, g⟩ | ⟨rfl, h, g⟩ | ⟨rfl, h, g, g₉⟩
    · refine br0 (by decide) (x_nt149n (by decide) _ (x_nt243n (by decide) _ ?_))
      rcases hT with ⟨a, b, c⟩ | ⟨a, _⟩ | ⟨a, _⟩ | ⟨a, _⟩
      · exact hq _ _ _ _ hx (by rw [hx, a, b]) (Or.inl ⟨c, rfl⟩)
      · omega
      · omega
      · omega
    · refine br0 (by decide) (x_nt149 hn h4 hx (fun x1 w1 e1 k1 k2 k3 => ?_) _ 0 x 0 hx (by omega) (fun i hi => absurd hi (Nat.not_lt_zero _)) ⟨fun _ => rfl, fun r => by omega⟩ (by omega))
      refine x_nt243n (by decide) _ ?_
      rcases hT with ⟨a, b, c⟩ | ⟨a, b, c, d⟩ | ⟨a, b, _⟩ | ⟨a, b, _⟩
      · omega
      · have := k2.uq c
        subst this
        exact hq _ _ _ _ hx k1 (lx_mt c d k3.1 k3.2)
      · omega
      · exact absurd g b
    · refine br0 (by decide) (x_nt149n (by decide) _ ?_)
      refine x_nt243 hn h4 (fun x1 w1 e1 k1 k2 k3 => ?_) _ 0 x 0 hx (by omega) (fun i hi => absurd hi (Nat.not_lt_zero _)) ⟨by decide, by decide, fun _ => rfl, fun r => absurd r (by show ¬ (0 : Int) = 1001; decide)⟩ (by omega)
      rcases hT with ⟨a, b, c⟩ | ⟨a, b, _⟩ | ⟨a, b, c, d⟩ | ⟨a, b, b2, _⟩
      · omega
      · omega
      · have := k2.uq c
        subst this
        have nb := lx_nmb (tp := tape) (s := q) (e1 - q) (fun i hi => c.2.2.1 (q + i) (by omega) (by omega))
        obtain ⟨m1, m2, m3, m4⟩ := k3
        refine hq _ _ _ _ hx k1 (Or.inr (Or.inr (Or.inl ⟨rfl, by omega, by omega, fun r => ?_, fun r => m4 (by omega)⟩)))
        have := m3 (by omega)
        omega
      · exact absurd g b2
    · refine br1 rfl ⟨vpi hx (by omega) (by omega), ?_⟩
      rw [tnN hx]
      have e1 := add1 hx (by omega)
      refine x_nt149an (by decide) _ (x_nt243an (by decide) _ ?_)
      rcases hT with ⟨a, b, c⟩ | ⟨a, b, _⟩ | ⟨a, b, _⟩ | ⟨a, b, b2, b3, b4, b5, b6⟩
      · omega
      · exact absurd b g
      · exact absurd b g₉
      · refine hq _ _ _ _ hx (by rw [e1, b5]) (Or.inr (Or.inr (Or.inr ⟨rfl, by omega, by omega, ?_⟩)))
        have := i2l_z (a := tape q) rfl
        omega
  · by_cases c : x = taped
    · refine br1 c (hz _ (Or.inl ⟨rfl, ?_⟩))
      rw [c, hn] at hx; omega
    · refine br0 c ?_
      have c₉ := ne_z hx hn c
      have h3 := hS.2.1
      rw [tnN hx]
      refine ⟨vpi hx (by omega) (by omega), e_isSmall (fun s1 s2 => ?_) (fun s0 => ?_)⟩
      · exact br0 (by decide) (hz _ (Or.inr (Or.inl ⟨rfl, by omega, s1, s2⟩)))
      · refine br1 rfl ⟨vpi hx (by omega) (by omega), e_isDigit (fun s1 s2 => ?_) (fun s0₉ => ?_)⟩
        · exact br0 (by decide) (hz _ (Or.inr (Or.inr (Or.inl ⟨rfl, by omega, s1, s2⟩))))
        · exact br1 rfl (hz _ (Or.inr (Or.inr (Or.inr ⟨rfl, by omega, s0, s0₉⟩))))
end
section
/-! code that both sides make of a SUM, a TEST: what it does -/
abbrev Cod : Type := Nat → Nat × Nat
/-- one step of the code: where it goes on, and the pile then; none: BROKEN -/
def stC (C : Cod) (v : Nat → Nat → Int64) (k : Nat) (st : List Int64) : Option (Nat × List Int64) :=
  if (C k).1 < 20 then some (k + 1, (if (C k).1 = 0 then Int64.ofNat (C k).2 else v (C k).1 (C k).2) :: st)
  else if (C k).1 < 28 then (match st with | b :: a :: r => (rd_ar (C k).1 a b).map (fun x => (k + 1, x :: r)) | _ => none)
  else if (C k).1 = 28 then (match st with | a :: r => some (k + 1, (1 - a) :: r) | _ => none)
  else (match st with | a :: r => if a = (if (C k).1 = 29 then 0 else 1) then some ((C k).2, a :: r) else some (k + 1, r) | _ => none)
/-- so many steps lead from q to e, with no more than B on the pile -/
def RunTo (C : Cod) (v : Nat → Nat → Int64) (B : Nat) : Nat → Nat → List Int64 → Nat → List Int64 → Prop
  | 0, q, st, e, st₉ => q = e ∧ st = st₉
  | m + 1, q, st, e, st₉ => q < e ∧ ∃ k1 st1, stC C v q st = some (k1, st1) ∧ q < k1 ∧ st1.length ≤ B ∧ RunTo C v B m k1 st1 e st₉
/-- so many steps lead from q to one ahead of e that is BROKEN -/
def Brk (C : Cod) (v : Nat → Nat → Int64) (B : Nat) : Nat → Nat → List Int64 → Nat → Prop
  | 0, q, st, e => q < e ∧ stC C v q st = none ∧ 20 ≤ (C q).1 ∧ (C q).1 < 28 ∧ 2 ≤ st.length
  | m + 1, q, st, e => q < e ∧ ∃ k1 st1, stC C v q st = some (k1, st1) ∧ q < k1 ∧ st1.length ≤ B ∧ Brk C v B m k1 st1 e
/-- the code from q to e, with so many leaves, tells s -/
def seg (C : Cod) (q e k : Nat) (s : Sem) : Prop := q < e ∧ 1 ≤ k ∧ ∀ (v : Nat → Nat → Int64) (st : List Int64) (B : Nat), st.length + k ≤ B → (∀ x, s v = some x → ∃ m, RunTo C v B m q st e (x :: st)) ∧ (s v = none → ∃ m, Brk C v B m q st e)
theorem RunTo.app {C : Cod} {v : Nat → Nat → Int64} {B : Nat} : ∀ (m : Nat) {m2 q e e2 : Nat} {st st1 st2 : List Int64}, RunTo C v B m q st e st1 → e ≤ e2 → RunTo C v B m2 e st1 e2 st2 → RunTo C v B (m + m2) q st e2 st2 := by
  intro m
  induction m with
  | zero =>
    intro m2 q e e2 st st1 st2 h he h2
    obtain ⟨rfl, rfl⟩ := h
    rw [Nat.zero_add]; exact h2
  | succ m ih =>
    intro m2 q e e2 st st1 st2 h he h2
    obtain ⟨h1, k1, s1, h3, h4, h5, h6⟩ := h
    rw [Nat.succ_add]
    exact ⟨by omega, k1, s1, h3, h4, h5, ih h6 he h2⟩
theorem RunTo.brk {C : Cod} {v : Nat → Nat → Int64} {B : Nat} : ∀ (m : Nat) {m2 q e e2 : Nat} {st st1 : List Int64}, RunTo C v B m q st e st1 → e ≤ e2 → Brk C v B m2 e st1 e2 → Brk C v B (m + m2) q st e2 := by
  intro m
  induction m with
  | zero =>
    intro m2 q e e2 st st1 h he h2
    obtain ⟨rfl, rfl⟩ := h
    rw [Nat.zero_add]; exact h2
  | succ m ih =>
    intro m2 q e e2 st st1 h he h2
    obtain ⟨h1, k1, s1, h3, h4, h5, h6⟩ := h
    rw [Nat.succ_add]
    exact ⟨by omega, k1, s1, h3, h4, h5, ih h6 he h2⟩
theorem Brk.far {C : Cod} {v : Nat → Nat → Int64} {B : Nat} : ∀ (m : Nat) {q e e2 : Nat} {st : List Int64}, Brk C v B m q st e → e ≤ e2 → Brk C v B m q st e2 := by
  intro m
  induction m with
  | zero => intro q e e2 st h he; exact ⟨by have := h.1; omega, h.2⟩
  | succ m ih =>
    intro q e e2 st h he
    obtain ⟨h1, k1, s1, h3, h4, h5, h6⟩ := h
    exact ⟨by omega, k1, s1, h3, h4, h5, ih h6 he⟩
theorem stC.ext {C D : Cod} {v : Nat → Nat → Int64} {k : Nat} {st : List Int64} (h : D k = C k) : stC D v k st = stC C v k st := by
  unfold stC
  rw [h]
theorem RunTo.ext {C D : Cod} {v : Nat → Nat → Int64} {B : Nat} {e : Nat} {st₉ : List Int64} : ∀ (m : Nat) {q : Nat} {st : List Int64}, (∀ k, q ≤ k → k < e → D k = C k) → RunTo C v B m q st e st₉ → RunTo D v B m q st e st₉ := by
  intro m
  induction m with
  | zero => intro q st h r; exact r
  | succ m ih =>
    intro q st h r
    obtain ⟨h1, k1, s1, h3, h4, h5, h6⟩ := r
    exact ⟨h1, k1, s1, by rw [stC.ext (h q (Nat.le_refl _) h1)]; exact h3, h4, h5, ih (fun k a b => h k (by omega) b) h6⟩
theorem Brk.ext {C D : Cod} {v : Nat → Nat → Int64} {B : Nat} {e : Nat} : ∀ (m : Nat) {q : Nat} {st : List Int64}, (∀ k, q ≤ k → k < e → D k = C k) → Brk C v B m q st e → Brk D v B m q st e := by
  intro m
  induction m with
  | zero =>
    intro q st h r
    obtain ⟨h1, h2, h3⟩ := r
    have e1 := h q (Nat.le_refl _) h1
    exact ⟨h1, by rw [stC.ext e1]; exact h2, by rw [e1]; exact h3⟩
  | succ m ih =>
    intro q st h r
    obtain ⟨h1, k1, s1, h3, h4, h5, h6⟩ := r
    exact ⟨h1, k1, s1, by rw [stC.ext (h q (Nat.le_refl _) h1)]; exact h3, h4, h5, ih (fun k a b => h k (by omega) b) h6⟩
theorem seg.ext {C D : Cod} {q e k : Nat} {s : Sem} (h : seg C q e k s) (hd : ∀ i, q ≤ i → i < e → D i = C i) : seg D q e k s := by
  refine ⟨h.1, h.2.1, fun v st B hB => ⟨fun x hx => ?_, fun hx => ?_⟩⟩
  · obtain ⟨m, hm⟩ := (h.2.2 v st B hB).1 x hx
    exact ⟨m, hm.ext m hd⟩
  · obtain ⟨m, hm⟩ := (h.2.2 v st B hB).2 hx
    exact ⟨m, hm.ext m hd⟩
theorem seg.num {C : Cod} {q a : Nat} (h : C q = (0, a)) : seg C q (q + 1) 1 (rd_lit (Int64.ofNat a)) := by
  refine ⟨by omega, Nat.le_refl _, fun v st B hB => ⟨fun x hx => ⟨1, by omega, q + 1, Int64.ofNat a :: st, ?_, by omega, by simpa using hB, rfl, ?_⟩, fun hx => ?_⟩⟩
  · unfold stC; rw [h]; rfl
  · have hx : some (Int64.ofNat a) = some x := hx
    rw [Option.some.inj hx]
  · exact absurd hx (by show ¬ (some (Int64.ofNat a) = none); exact fun q => by cases q)
theorem seg.wrd {C : Cod} {q o a : Nat} (h : C q = (o, a)) (h0 : ¬ o = 0) (h1 : o < 20) : seg C q (q + 1) 1 (rd_wrd o a) := by
  refine ⟨by omega, Nat.le_refl _, fun v st B hB => ⟨fun x hx => ⟨1, by omega, q + 1, v o a :: st, ?_, by omega, by simpa using hB, rfl, ?_⟩, fun hx => ?_⟩⟩
  · unfold stC; rw [h]
    show (if o < 20 then _ else _) = _
    rw [if_pos h1]
    show some (q + 1, (if o = 0 then _ else v o a) :: st) = _
    rw [if_neg h0]
  · have hx : some (v o a) = some x := hx
    rw [Option.some.inj hx]
  · exact absurd hx (by show ¬ (some (v o a) = none); exact fun q => by cases q)
theorem stC.bin {C : Cod} {v : Nat → Nat → Int64} {k o z : Nat} (h : C k = (o, z)) (h0 : 20 ≤ o) (h1 : o < 28) (a b : Int64) (r : List Int64) : stC C v k (b :: a :: r) = (rd_ar o a b).map (fun x => (k + 1, x :: r)) := by
  unfold stC; rw [h]
  show (if o < 20 then _ else if o < 28 then _ else _) = _
  rw [if_neg (by omega), if_pos h1]
theorem stC.nt {C : Cod} {v : Nat → Nat → Int64} {k z : Nat} (h : C k = (28, z)) (a : Int64) (r : List Int64) : stC C v k (a :: r) = some (k + 1, (1 - a) :: r) := by
  unfold stC; rw [h]; rfl
theorem stC.lg {C : Cod} {v : Nat → Nat → Int64} {k o z : Nat} (h : C k = (o, z)) (h0 : o = 29 ∨ o = 30) (a : Int64) (r : List Int64) : stC C v k (a :: r) = if a = (if o = 29 then 0 else 1) then some (z, a :: r) else some (k + 1, r) := by
  unfold stC; rw [h]
  show (if o < 20 then _ else if o < 28 then _ else if o = 28 then _ else _) = _
  rw [if_neg (by omega), if_neg (by omega), if_neg (by omega)]
theorem seg.bin {C : Cod} {q e e2 k k2 o z : Nat} {s t : Sem} (hs : seg C q e k s) (ht : seg C e e2 k2 t) (h : C e2 = (o, z)) (h0 : 20 ≤ o) (h1 : o < 28) : seg C q (e2 + 1) (k + k2) (rd_bin o s t) := by
  obtain ⟨g1, g3, hs⟩ := hs
  obtain ⟨g2, g4, ht⟩ := ht
  refine ⟨by omega, by omega, fun v st B hB => ?_⟩
  have A := hs v st B (by omega)
  cases cs : s v with
  | none =>
    have e0 : rd_bin o s t v = none := by unfold rd_bin; rw [cs]; rfl
    rw [e0]
    refine ⟨fun x hx => (by cases hx), fun _ => ?_⟩
    obtain ⟨m, hm⟩ := A.2 cs
    exact ⟨m, hm.far m (by omega)⟩
  | some a =>
    obtain ⟨m, hm⟩ := A.1 a cs
    have A2 := ht v (a :: st) B (by simp only [List.length_cons]; omega)
    cases ct : t v with
    | none =>
      have e0 : rd_bin o s t v = none := by unfold rd_bin; rw [cs]; show (t v).bind _ = none; rw [ct]; rfl
      rw [e0]
      refine ⟨fun x hx => (by cases hx), fun _ => ?_⟩
      obtain ⟨m2, hm2⟩ := A2.2 ct
      exact ⟨m + m2, hm.brk m (by omega) (hm2.far m2 (by omega))⟩
    | some b =>
      obtain ⟨m2, hm2⟩ := A2.1 b ct
      have e0 : rd_bin o s t v = rd_ar o a b := by unfold rd_bin; rw [cs]; show (t v).bind _ = _; rw [ct]; rfl
      rw [e0]
      refine ⟨fun x hx => ?_, fun hx => ?_⟩
      · refine ⟨m + (m2 + 1), hm.app m (by omega) (hm2.app m2 (by omega) ⟨by omega, e2 + 1, x :: st, ?_, by omega, ?_, rfl, rfl⟩)⟩
        · rw [stC.bin h h0 h1, hx]; rfl
        · simp only [List.length_cons]; omega
      · refine ⟨m + (m2 + 0), hm.brk m (by omega) (hm2.brk m2 (by omega) ⟨by omega, ?_, by rw [h]; exact h0, by rw [h]; exact h1, ?_⟩)⟩
        · rw [stC.bin h h0 h1, hx]; rfl
        · simp only [List.length_cons]; omega
theorem seg.nt {C : Cod} {q e k z : Nat} {s : Sem} (hs : seg C q e k s) (h : C e = (28, z)) : seg C q (e + 1) k (rd_not s) := by
  obtain ⟨g1, g3, hs⟩ := hs
  refine ⟨by omega, g3, fun v st B hB => ?_⟩
  have A := hs v st B hB
  cases cs : s v with
  | none =>
    have e0 : rd_not s v = none := by unfold rd_not; rw [cs]; rfl
    rw [e0]
    refine ⟨fun x hx => (by cases hx), fun _ => ?_⟩
    obtain ⟨m, hm⟩ := A.2 cs
    exact ⟨m, hm.far m (by omega)⟩
  | some a =>
    obtain ⟨m, hm⟩ := A.1 a cs
    have e0 : rd_not s v = some (1 - a) := by unfold rd_not; rw [cs]; rfl
    rw [e0]
    refine ⟨fun x hx => ?_, fun hx => by cases hx⟩
    have hx := Option.some.inj hx
    refine ⟨m + 1, hm.app m (by omega) ⟨by omega, e + 1, x :: st, ?_, by omega, ?_, rfl, rfl⟩⟩
    · rw [stC.nt h, hx]
    · simp only [List.length_cons]; omega
theorem seg.lg {C : Cod} {q e e2 k k2 o : Nat} {s t : Sem} (hs : seg C q e k s) (h : C e = (o, e2)) (h0 : o = 29 ∨ o = 30) (ht : seg C (e + 1) e2 k2 t) : seg C q e2 (k + k2) (rd_lg o s t) := by
  obtain ⟨g1, g3, hs⟩ := hs
  obtain ⟨g2, g4, ht⟩ := ht
  refine ⟨by omega, by omega, fun v st B hB => ?_⟩
  have A := hs v st B (by omega)
  cases cs : s v with
  | none =>
    have e0 : rd_lg o s t v = none := by unfold rd_lg; rw [cs]; rfl
    rw [e0]
    refine ⟨fun x hx => (by cases hx), fun _ => ?_⟩
    obtain ⟨m, hm⟩ := A.2 cs
    exact ⟨m, hm.far m (by omega)⟩
  | some a =>
    obtain ⟨m, hm⟩ := A.1 a cs
    have A2 := ht v st B (by omega)
    have e0 : rd_lg o s t v = if a = (if o = 29 then 0 else 1) then some a else t v := by unfold rd_lg; rw [cs]; rfl
    rw [e0]
    by_cases c : a = (if o = 29 then 0 else 1)
    · rw [if_pos c]
      refine ⟨fun x hx => ?_, fun hx => by cases hx⟩
      have hx := Option.some.inj hx
      subst hx
      refine ⟨m + 1, hm.app m (by omega) ⟨by omega, e2, a :: st, ?_, by omega, ?_, rfl, rfl⟩⟩
      · rw [stC.lg h h0, if_pos c]
      · simp only [List.length_cons]; omega
    · rw [if_neg c]
      have s1 : stC C v e (a :: st) = some (e + 1, st) := by rw [stC.lg h h0, if_neg c]
      refine ⟨fun x hx => ?_, fun hx => ?_⟩
      · obtain ⟨m2, hm2⟩ := A2.1 x hx
        exact ⟨m + (m2 + 1), hm.app m (by omega) ⟨by omega, e + 1, st, s1, by omega, by omega, hm2⟩⟩
      · obtain ⟨m2, hm2⟩ := A2.2 hx
        exact ⟨m + (m2 + 1), hm.brk m (by omega) ⟨by omega, e + 1, st, s1, by omega, by omega, hm2⟩⟩
end
section
/-! the reference₉s reader of SUMS and TESTS: what its pile and its code stand for -/
theorem mt_word {t : Int} {sort : Int32} {worth : Int64} (h : MT t sort worth) {w : Int64} {k : Nat} (hk : k < 29) (hw : w.toInt = lx_wc k) {Q : Int32 → Prop} (h1 : t = (k : Int) → Q 1) (h0 : ¬ t = (k : Int) → Q 0) : wp_X12_isWord w sort worth Q := by
  unfold wp_X12_isWord
  by_cases c : sort = 1
  · refine br1 c ?_
    subst c
    by_cases d : lg_cmp worth w = 0
    · have d₉ := cmp_eq.mp d
      rw [hw] at d₉
      refine br1 d (h1 ?_)
      rcases h with ⟨_, b⟩ | ⟨_, ⟨j, j1, j2, j3⟩ | ⟨_, j2⟩⟩ | ⟨b, _⟩ | ⟨b, _⟩
      · exact absurd b (by decide)
      · have := lx_wcI j j1 k hk (by rw [← j3, d₉])
        rw [j2, this]
      · exact absurd d₉ (j2 k hk)
      · exact absurd b (by decide)
      · exact absurd b (by decide)
    · refine br0 d (h0 (fun e => ?_))
      rcases h with ⟨_, b⟩ | ⟨_, ⟨j, j1, j2, j3⟩ | ⟨j1, _⟩⟩ | ⟨b, _⟩ | ⟨b, _⟩
      · exact absurd b (by decide)
      · have : j = k := by omega
        rw [this] at j3
        exact d (cmp_eq.mpr (by rw [j3, hw]))
      · omega
      · exact absurd b (by decide)
      · exact absurd b (by decide)
  · refine br0 c (h0 (fun e => ?_))
    rcases h with ⟨a, _⟩ | ⟨a, _⟩ | ⟨_, a, _⟩ | ⟨_, a, _⟩
    · omega
    · exact c a
    · omega
    · omega
theorem mt_sign {t : Int} {sort : Int32} {worth : Int64} (h : MT t sort worth) {a : Int32} {z : Int} (ha : a.toInt = z) (hz0 : 0 ≤ z) (hz1 : z ≤ 255) {Q : Int32 → Prop} (h1 : t = 100 + z → Q 1) (h0 : ¬ t = 100 + z → Q 0) : wp_X12_isSign a sort worth Q := by
  unfold wp_X12_isSign
  by_cases c : sort = 3
  · refine br1 c ?_
    subst c
    by_cases d : lg_cmp worth a.toInt64 = 0
    · have d₉ := c_eq rfl (i2l_z ha) d
      refine br1 d (h1 ?_)
      rcases h with ⟨_, b⟩ | ⟨b, _⟩ | ⟨b, _⟩ | ⟨_, b1, b2, b3⟩
      · exact absurd b (by decide)
      · exact absurd b (by decide)
      · exact absurd b (by decide)
      · omega
    · have d₉ := c_ne rfl (i2l_z ha) d
      refine br0 d (h0 (fun e => ?_))
      rcases h with ⟨_, b⟩ | ⟨b, _⟩ | ⟨b, _⟩ | ⟨_, b1, b2, b3⟩
      · exact absurd b (by decide)
      · exact absurd b (by decide)
      · exact absurd b (by decide)
      · omega
  · refine br0 c (h0 (fun e => ?_))
    rcases h with ⟨a, _⟩ | ⟨_, ⟨j, j1, j2, _⟩ | ⟨j1, _⟩⟩ | ⟨_, a, _⟩ | ⟨a, _⟩
    · omega
    · omega
    · omega
    · omega
    · exact c a
theorem Lex.le {tp : Nat → Int32} {n : Nat} {st en : Nat → Nat} {T : Nat → Int} (h : Lex tp n st en T) (i : Nat) : st i ≤ en i ∧ en i ≤ n ∧ en i ≤ st (i + 1) ∧ st (i + 1) ≤ n ∧ (¬ T i = 31 → st i < en i) ∧ (T i = 31 → st i = n) := by
  have a := (h.2 i).1.le
  have b := (h.2 i).2
  exact ⟨a.1, a.2.1, b.1, b.2.1, a.2.2.1, a.2.2.2⟩
theorem Lex.st {tp : Nat → Int32} {n : Nat} {st en : Nat → Nat} {T : Nat → Int} (h : Lex tp n st en T) (i : Nat) : st i ≤ n := by
  have := h.le i; omega
/-- nextToken at the i-th -/
theorem x_next {taped to : Int32} {tp : Nat → Int32} {n : Nat} {st en : Nat → Nat} {T : Nat → Int} (hL : Lex tp n st en T) (hn : taped.toInt = (n : Int)) (h4 : n ≤ 400) {i : Nat} (ht : to.toInt = (en i : Int)) {Q : (Int32 × Int32 × Int32 × Int64) → Prop} (hq : ∀ (fr to₉ sort : Int32) (worth : Int64), fr.toInt = (st (i + 1) : Int) → to₉.toInt = (en (i + 1) : Int) → MT (T (i + 1)) sort worth → Q (fr, to₉, sort, worth)) : wp_X12_nextToken taped to tp Q :=
  x_nextToken hn h4 ht (hL.le i).2.1 (hL.2 i).2 (hL.2 (i + 1)).1 hq
/-- must() at the i-th: it goes on, or is bad there -/
theorem x_must {taped fr to sort fault : Int32} {worth : Int64} {tp : Nat → Int32} {n : Nat} {st en : Nat → Nat} {T : Nat → Int} (hL : Lex tp n st en T) (hn : taped.toInt = (n : Int)) (h4 : n ≤ 400) {i : Nat} (ht : to.toInt = (en i : Int)) {a : Int32} {Q : (Int32 × Int32 × Int32 × Int64 × Int32 × Int32) → Prop} (h1 : ¬ a = 0 → ∀ (fr₉ to₉ sort₉ : Int32) (worth₉ : Int64), fr₉.toInt = (st (i + 1) : Int) → to₉.toInt = (en (i + 1) : Int) → MT (T (i + 1)) sort₉ worth₉ → Q (fr₉, to₉, sort₉, worth₉, fault, 0)) (h0 : a = 0 → Q (fr, to, sort, worth, fr, 1)) : wp_X12_must a taped fr to sort worth fault 0 tp Q := by
  unfold wp_X12_must
  refine br1 rfl ?_
  by_cases d : a = 0
  · exact br1 d (h0 d)
  · refine br0 d (x_next hL hn h4 ht (fun fr₉ to₉ sort₉ w k1 k2 k3 => un4_i (h1 d _ _ _ _ k1 k2 k3)))
/-- the reference₉s code, as numbers -/
def cM (op ar : Nat → Int32) : Cod := fun i => ((op i).toNatClampNeg, (ar i).toNatClampNeg)
/-- what stands open: a told value, or what an "and", "or" (at j) waits for; where its code begins, its leaves -/
abbrev Itm : Type := Option (Nat × Nat) × Nat × Nat × Sem
def Lay (C : Cod) (s0 : Nat) : List Itm → Nat → Prop
  | [], c => c = s0
  | (none, q, k, s) :: r, c => seg C q c k s ∧ Lay C s0 r q
  | (some (o, j), q, k, s) :: r, c => j + 1 = c ∧ (C j).1 = o ∧ seg C q j k s ∧ Lay C s0 r q
def RepP (pile pat : Nat → Int32) : List (Nat × Nat) → Prop
  | [] => True
  | (o, a) :: r => (pile r.length).toInt = (o : Int) ∧ (pat r.length).toInt = (a : Int) ∧ RepP pile pat r
def GP (P : List (Nat × Nat)) (c : Nat) : Prop := ∀ x ∈ P, 20 ≤ x.1 ∧ x.1 ≤ 32 ∧ ((x.1 = 29 ∨ x.1 = 30) → x.2 < c)
def CB (op ar : Nat → Int32) (c : Nat) : Prop := ∀ k, k < c → 0 ≤ (op k).toInt ∧ ((op k).toInt ≤ 30 ∧ ((op k).toInt ≤ 9 ∨ 20 ≤ (op k).toInt)) ∧ 0 ≤ (ar k).toInt ∧ (ar k).toInt ≤ 1000
theorem Lay.ext {C D : Cod} {s0 : Nat} : ∀ {K : List Itm} {c : Nat}, Lay C s0 K c → (∀ i, s0 ≤ i → i < c → D i = C i) → Lay D s0 K c ∧ s0 ≤ c := by
  intro K
  induction K with
  | nil => intro c h _; exact ⟨h, by rw [h]; exact Nat.le_refl _⟩
  | cons x r ih =>
    intro c h hd
    obtain ⟨o, q, k, s⟩ := x
    cases o with
    | none =>
      obtain ⟨h1, h2⟩ := h
      have g := h1.1
      obtain ⟨a, b⟩ := ih h2 (fun i i1 i2 => hd i i1 (by omega))
      exact ⟨⟨h1.ext (fun i i1 i2 => hd i (by omega) i2), a⟩, by omega⟩
    | some y =>
      obtain ⟨o, j⟩ := y
      obtain ⟨h1, h2, h3, h4⟩ := h
      have g := h3.1
      obtain ⟨a, b⟩ := ih h4 (fun i i1 i2 => hd i i1 (by omega))
      refine ⟨⟨h1, ?_, h3.ext (fun i i1 i2 => hd i (by omega) (by omega)), a⟩, by omega⟩
      rw [hd j (by omega) (by omega)]; exact h2
theorem Lay.lo {C : Cod} {s0 : Nat} {K : List Itm} {c : Nat} (h : Lay C s0 K c) : s0 ≤ c := (h.ext (D := C) (fun _ _ _ => rfl)).2
theorem RepP.up {pile pat : Nat → Int32} {v w : Int32} {m : Nat} : ∀ {P : List (Nat × Nat)}, RepP pile pat P → P.length ≤ m → RepP (upd pile m v) (upd pat m w) P := by
  intro P
  induction P with
  | nil => intro _ _; exact True.intro
  | cons x r ih =>
    intro h hm
    obtain ⟨o, a⟩ := x
    obtain ⟨h1, h2, h3⟩ := h
    have hm : r.length + 1 ≤ m := hm
    refine ⟨?_, ?_, ih h3 (by omega)⟩
    · unfold upd; rw [if_neg (by omega)]; exact h1
    · unfold upd; rw [if_neg (by omega)]; exact h2
theorem cM_up {op ar : Nat → Int32} {c : Nat} {v w : Int32} {i : Nat} (h : i < c) : cM (upd op c v) (upd ar c w) i = cM op ar i := by
  unfold cM upd
  rw [if_neg (by omega), if_neg (by omega)]
theorem cM_at {op ar : Nat → Int32} {c : Nat} {v w : Int32} {x y : Nat} (hv : v.toInt = (x : Int)) (hw : w.toInt = (y : Int)) : cM (upd op c v) (upd ar c w) c = (x, y) := by
  unfold cM upd
  rw [if_pos rfl, if_pos rfl, tnN hv, tnN hw]
theorem CB.up {op ar : Nat → Int32} {c : Nat} (h : CB op ar c) {v w : Int32} (h1 : 0 ≤ v.toInt) (h2 : v.toInt ≤ 30 ∧ (v.toInt ≤ 9 ∨ 20 ≤ v.toInt)) (h3 : 0 ≤ w.toInt) (h4 : w.toInt ≤ 1000) : CB (upd op c v) (upd ar c w) (c + 1) := by
  intro k hk
  unfold upd
  by_cases e : k = c
  · rw [if_pos e, if_pos e]; exact ⟨h1, h2, h3, h4⟩
  · rw [if_neg e, if_neg e]; exact h k (by omega)
theorem CB.ar {op ar : Nat → Int32} {c j : Nat} (h : CB op ar c) {w : Int32} (h3 : 0 ≤ w.toInt) (h4 : w.toInt ≤ 1000) : CB op (upd ar j w) c := by
  intro k hk
  obtain ⟨a, b, d, e⟩ := h k hk
  refine ⟨a, b, ?_⟩
  unfold upd
  by_cases e₉ : k = j
  · rw [if_pos e₉]; exact ⟨h3, h4⟩
  · rw [if_neg e₉]; exact ⟨d, e⟩
/-- how strongly a sign binds -/
def bdN (o : Nat) : Nat := if 31 ≤ o then 0 else if o = 30 then 1 else if o = 29 then 2 else if o = 28 then 3 else if 25 ≤ o then 4 else if 22 ≤ o then 6 else 5
theorem bnd_N {a : Int32} {o : Nat} (h : a.toInt = (o : Int)) : (bnd a).toInt = (bdN o : Int) := by
  unfold bnd bdN
  by_cases c1 : a < 31
  · have c1₉ := lt_z (y := 31) h rfl c1
    rw [if_pos c1, if_neg (show ¬ 31 ≤ o by omega)]
    by_cases c2 : a = 30
    · have c2₉ := eq_z (y := 30) h rfl c2
      rw [if_pos c2, if_pos (show o = 30 by omega)]; rfl
    · have c2₉ := ne_z (y := 30) h rfl c2
      rw [if_neg c2, if_neg (show ¬ o = 30 by omega)]
      by_cases c3 : a = 29
      · have c3₉ := eq_z (y := 29) h rfl c3
        rw [if_pos c3, if_pos (show o = 29 by omega)]; rfl
      · have c3₉ := ne_z (y := 29) h rfl c3
        rw [if_neg c3, if_neg (show ¬ o = 29 by omega)]
        by_cases c4 : a = 28
        · have c4₉ := eq_z (y := 28) h rfl c4
          rw [if_pos c4, if_pos (show o = 28 by omega)]; rfl
        · have c4₉ := ne_z (y := 28) h rfl c4
          rw [if_neg c4, if_neg (show ¬ o = 28 by omega)]
          by_cases c5 : a < 25
          · have c5₉ := lt_z (y := 25) h rfl c5
            rw [if_pos c5, if_neg (show ¬ 25 ≤ o by omega)]
            by_cases c6 : a < 22
            · have c6₉ := lt_z (y := 22) h rfl c6
              rw [if_pos c6, if_neg (show ¬ 22 ≤ o by omega)]; rfl
            · have c6₉ := nlt_z (y := 22) h rfl c6
              rw [if_neg c6, if_pos (show 22 ≤ o by omega)]; rfl
          · have c5₉ := nlt_z (y := 25) h rfl c5
            rw [if_neg c5, if_pos (show 25 ≤ o by omega)]; rfl
  · have c1₉ := nlt_z (y := 31) h rfl c1
    rw [if_neg c1, if_pos (show 31 ≤ o by omega)]; rfl
/-- a sign of the pile is told: what becomes of what stands open -/
def cmb (o a : Nat) (K : List Itm) : Option (List Itm) :=
  if o < 28 then (match K with | (none, q2, k2, t) :: (none, q1, k1, s) :: r => some ((none, q1, k1 + k2, rd_bin o s t) :: r) | _ => none)
  else if o = 28 then (match K with | (none, q1, k1, s) :: r => some ((none, q1, k1, rd_not s) :: r) | _ => none)
  else (match K with | (none, q2, k2, t) :: (some (o₉, j), q1, k1, s) :: r => if o₉ = o ∧ j = a then some ((none, q1, k1 + k2, rd_lg o s t) :: r) else none | _ => none)
/-- signs of the pile that bind at least so strongly are told -/
def stl (b : Nat) : List (Nat × Nat) → List Itm → List (Nat × Nat) × Option (List Itm)
  | [], K => ([], some K)
  | (o, a) :: r, K => if bdN o < b then ((o, a) :: r, some K) else (match cmb o a K with | some K₉ => stl b r K₉ | none => ([], none))
theorem cM_ar {op ar : Nat → Int32} {j : Nat} {w : Int32} {i : Nat} (h : ¬ i = j) : cM op (upd ar j w) i = cM op ar i := by
  unfold cM upd
  rw [if_neg h]
theorem stl_c {b o a : Nat} {r P₉ : List (Nat × Nat)} {K K₉ : List Itm} (h : stl b ((o, a) :: r) K = (P₉, some K₉)) : (bdN o < b ∧ P₉ = (o, a) :: r ∧ K₉ = K) ∨ (¬ bdN o < b ∧ ∃ K1, cmb o a K = some K1 ∧ stl b r K1 = (P₉, some K₉)) := by
  have e : stl b ((o, a) :: r) K = if bdN o < b then ((o, a) :: r, some K) else (match cmb o a K with | some K₉ => stl b r K₉ | none => ([], none)) := rfl
  rw [e] at h
  by_cases c : bdN o < b
  · rw [if_pos c] at h
    injection h with h1 h2
    injection h2 with h2
    exact Or.inl ⟨c, h1.symm, h2.symm⟩
  · rw [if_neg c] at h
    refine Or.inr ⟨c, ?_⟩
    cases d : cmb o a K with
    | none => rw [d] at h; injection h with h1 h2; cases h2
    | some K1 => rw [d] at h; exact ⟨K1, rfl, h⟩
theorem cmb_b {o a : Nat} {K K1 : List Itm} (h : cmb o a K = some K1) (ho : o < 28) : ∃ q2 k2 t q1 k1 s r, K = (none, q2, k2, t) :: (none, q1, k1, s) :: r ∧ K1 = (none, q1, k1 + k2, rd_bin o s t) :: r := by
  unfold cmb at h
  rw [if_pos ho] at h
  split at h
  · injection h with h; exact ⟨_, _, _, _, _, _, _, rfl, h.symm⟩
  · cases h
theorem cmb_n {o a : Nat} {K K1 : List Itm} (h : cmb o a K = some K1) (ho : o = 28) : ∃ q1 k1 s r, K = (none, q1, k1, s) :: r ∧ K1 = (none, q1, k1, rd_not s) :: r := by
  unfold cmb at h
  rw [if_neg (by omega), if_pos ho] at h
  split at h
  · injection h with h; exact ⟨_, _, _, _, rfl, h.symm⟩
  · cases h
theorem cmb_j {o a : Nat} {K K1 : List Itm} (h : cmb o a K = some K1) (ho : 28 < o) : ∃ q2 k2 t q1 k1 s r, K = (none, q2, k2, t) :: (some (o, a), q1, k1, s) :: r ∧ K1 = (none, q1, k1 + k2, rd_lg o s t) :: r := by
  unfold cmb at h
  rw [if_neg (by omega), if_neg (by omega)] at h
  split at h
  · split at h
    · rename_i hh
      injection h with h
      rw [hh.1, hh.2]
      exact ⟨_, _, _, _, _, _, _, rfl, h.symm⟩
    · cases h
  · cases h
set_option maxHeartbeats 1000000 in
theorem x_settle0 {b : Int32} {B s0 : Nat} (hb : b.toInt = (B : Int)) (hB : 1 ≤ B) {pile pat : Nat → Int32} {Qb : Int32 → Int32 → (Nat → Int32) → (Nat → Int32) → Prop} : ∀ (P : List (Nat × Nat)) (m c : Nat) (K : List Itm) (nC pd : Int32) (op ar : Nat → Int32), nC.toInt = (c : Int) → pd.toInt = (P.length : Int) → RepP pile pat P → Lay (cM op ar) s0 K c → GP P c → CB op ar c → c + P.length ≤ 400 → ∀ (P₉ : List (Nat × Nat)) (K₉ : List Itm), stl B P K = (P₉, some K₉) → P.length < m → (∀ (nC₉ pd₉ : Int32) (op₉ ar₉ : Nat → Int32) (c₉ : Nat), nC₉.toInt = (c₉ : Int) → pd₉.toInt = (P₉.length : Int) → RepP pile pat P₉ → Lay (cM op₉ ar₉) s0 K₉ c₉ → GP P₉ c₉ → CB op₉ ar₉ c₉ → c₉ + P₉.length ≤ c + P.length → (∀ k, k < s0 → op₉ k = op k ∧ ar₉ k = ar k) → Qb nC₉ pd₉ op₉ ar₉) → wl_X12_settle_0 b pile pat Qb m nC pd op ar := by
  intro P
  induction P with
  | nil =>
    intro m c K nC pd op ar h1 h2 h3 h4 h5 h6 h7 P₉ K₉ h8 h9 hq
    cases m with
    | zero => exact absurd h9 (Nat.not_lt_zero _)
    | succ m =>
      unfold wl_X12_settle_0
      have e : stl B [] K = ([], some K) := rfl
      rw [e] at h8
      injection h8 with e1 e2
      injection e2 with e2
      subst e1; subst e2
      refine br1 (z_le (y := 0) h2 rfl (Int.le_refl _)) (hq _ _ _ _ c h1 h2 h3 h4 h5 h6 (Nat.le_refl _) (fun k _ => ⟨rfl, rfl⟩))
  | cons x r ih =>
    obtain ⟨o, a⟩ := x
    intro m c K nC pd op ar h1 h2 h3 h4 h5 h6 h7 P₉ K₉ h8 h9 hq
    cases m with
    | zero => exact absurd h9 (Nat.not_lt_zero _)
    | succ m =>
      unfold wl_X12_settle_0
      have h2 : pd.toInt = ((r.length + 1 : Nat) : Int) := h2
      have h7 : c + (r.length + 1) ≤ 400 := h7
      have h9 : r.length + 1 < m + 1 := h9
      obtain ⟨g1, g2, g3⟩ := h3
      obtain ⟨o1, o2, o3⟩ := h5 (o, a) List.mem_cons_self
      have hr : GP r c := fun y hy => h5 y (List.mem_cons_of_mem _ hy)
      have p1 := sub1 h2
      refine br0 (z_nle (y := 0) h2 rfl (by omega)) ⟨vpi p1 (by omega) (by omega), ?_⟩
      rw [tnN p1]
      refine e_binds ?_
      have eb := bnd_N g1
      have hl := h4.lo
      rcases stl_c h8 with ⟨c1, e1, e2⟩ | ⟨c1, K1, e1, e2⟩
      · subst e1; subst e2
        refine br1 (z_lt eb hb (by omega)) (hq _ _ _ _ c h1 h2 ⟨g1, g2, g3⟩ h4 h5 h6 (Nat.le_refl _) (fun k _ => ⟨rfl, rfl⟩))
      · refine br0 (z_nlt eb hb (by omega)) ⟨vpi p1 (by omega) (by omega), jn_s ?_⟩
        have o31 : o < 31 := by
          rcases Nat.lt_or_ge o 31 with q | q
          · exact q
          · exfalso; apply c1; unfold bdN; rw [if_pos q]; omega
        by_cases cj : 28 < o
        · obtain ⟨q2, k2, t, q1, k1, s, r₉, eK, eK1⟩ := cmb_j e1 cj
          subst eK; subst eK1
          obtain ⟨l1, l2, l3, l4, l5⟩ := h4
          have ha := o3 (by omega)
          have A : vp_in (pd - 1) 400 ∧ (vp_in (pat r.length) 400 ∧ wl_X12_settle_0 b pile pat Qb m nC (pd - 1) op (upd ar (pat r.length).toNatClampNeg nC)) := by
            refine ⟨vpi p1 (by omega) (by omega), vpi g2 (by omega) (by omega), ?_⟩
            rw [tnN g2]
            have gs := l4.1
            have lo5 := l5.lo
            have cA : cM op (upd ar a nC) a = (o, c) := by
              have z : (op a).toNatClampNeg = o := l3
              unfold cM upd
              rw [if_pos rfl, tnN h1, z]
            refine ih m c ((none, q1, k1 + k2, rd_lg o s t) :: r₉) nC (pd - 1) op (upd ar a nC) h1 p1 g3 ⟨seg.lg (l4.ext (fun i i1 i2 => cM_ar (by omega))) cA (by omega) ?_, ?_⟩ hr (h6.ar (by omega) (by omega)) (by omega) P₉ K₉ e2 (by omega) (fun nC₉ pd₉ op₉ ar₉ c₉ d1 d2 d3 d4 d5 d6 d7 d8 => ?_)
            · rw [l2]; exact l1.ext (fun i i1 i2 => cM_ar (by omega))
            · exact (l5.ext (fun i i1 i2 => cM_ar (by omega))).1
            · refine hq _ _ _ _ c₉ d1 d2 d3 d4 d5 d6 (by show _ ≤ c + (r.length + 1); omega) (fun k hk => ?_)
              obtain ⟨w1, w2⟩ := d8 k hk
              refine ⟨w1, ?_⟩
              rw [w2]; unfold upd; rw [if_neg (by omega)]
          by_cases c29 : pile r.length = 29
          · exact br1 c29 A
          · have c29₉ := ne_z (y := 29) g1 rfl c29
            refine br0 c29 ⟨vpi p1 (by omega) (by omega), ?_⟩
            have c30 : pile r.length = 30 := z_eq (y := 30) g1 rfl (by omega)
            exact br1 c30 A
        · have n29 : ¬ pile r.length = 29 := z_ne (y := 29) g1 rfl (by omega)
          have n30 : ¬ pile r.length = 30 := z_ne (y := 30) g1 rfl (by omega)
          refine br0 n29 ⟨vpi p1 (by omega) (by omega), br0 n30 ⟨vpi p1 (by omega) (by omega), ?_⟩⟩
          unfold wp_X12_emit
          refine ⟨vpi h1 (by omega) (by omega), vpi h1 (by omega) (by omega), un3_i ?_⟩
          rw [tnN h1]
          have n1 := add1 h1 (by omega)
          have cA : cM (upd op c (pile r.length)) (upd ar c 0) c = (o, 0) := cM_at g1 rfl
          have hr1 : GP r (c + 1) := fun y hy => ⟨(hr y hy).1, (hr y hy).2.1, fun q => by have := (hr y hy).2.2 q; omega⟩
          have hcb : CB (upd op c (pile r.length)) (upd ar c 0) (c + 1) := h6.up (by omega) (by omega) (by decide) (by decide)
          have fin : ∀ K1, Lay (cM (upd op c (pile r.length)) (upd ar c 0)) s0 K1 (c + 1) → stl B r K1 = (P₉, some K₉) → wl_X12_settle_0 b pile pat Qb m (nC + 1) (pd - 1) (upd op c (pile r.length)) (upd ar c 0) := fun K1 hK1 e2 => by
            refine ih m (c + 1) K1 (nC + 1) (pd - 1) _ _ n1 p1 g3 hK1 hr1 hcb (by omega) P₉ K₉ e2 (by omega) (fun nC₉ pd₉ op₉ ar₉ c₉ d1 d2 d3 d4 d5 d6 d7 d8 => ?_)
            refine hq _ _ _ _ c₉ d1 d2 d3 d4 d5 d6 (by show _ ≤ c + (r.length + 1); omega) (fun k hk => ?_)
            obtain ⟨w1, w2⟩ := d8 k hk
            refine ⟨?_, ?_⟩
            · rw [w1]; unfold upd; rw [if_neg (by omega)]
            · rw [w2]; unfold upd; rw [if_neg (by omega)]
          by_cases c28 : o = 28
          · obtain ⟨q1, k1, s, r₉, eK, eK1⟩ := cmb_n e1 c28
            subst eK; subst eK1
            obtain ⟨l1, l5⟩ := h4
            have gs := l1.1
            have lo5 := l5.lo
            refine fin ((none, q1, k1, rd_not s) :: r₉) ⟨seg.nt (l1.ext (fun i i1 i2 => cM_up i2)) (by rw [cA, c28]), (l5.ext (fun i i1 i2 => cM_up (by omega))).1⟩ e2
          · obtain ⟨q2, k2, t, q1, k1, s, r₉, eK, eK1⟩ := cmb_b e1 (by omega)
            subst eK; subst eK1
            obtain ⟨l1, l2, l5⟩ := h4
            have gs := l1.1
            have gs2 := l2.1
            have lo5 := l5.lo
            refine fin ((none, q1, k1 + k2, rd_bin o s t) :: r₉) ⟨seg.bin (l2.ext (fun i i1 i2 => cM_up (by omega))) (l1.ext (fun i i1 i2 => cM_up i2)) cA o1 (by omega), (l5.ext (fun i i1 i2 => cM_up (by omega))).1⟩ e2
theorem x_settle {b : Int32} {B s0 : Nat} (hb : b.toInt = (B : Int)) (hB : 1 ≤ B) {pile pat op ar : Nat → Int32} {P : List (Nat × Nat)} {K : List Itm} {c : Nat} {nC pd : Int32} (h1 : nC.toInt = (c : Int)) (h2 : pd.toInt = (P.length : Int)) (h3 : RepP pile pat P) (h4 : Lay (cM op ar) s0 K c) (h5 : GP P c) (h6 : CB op ar c) (h7 : c + P.length ≤ 400) {P₉ : List (Nat × Nat)} {K₉ : List Itm} (h8 : stl B P K = (P₉, some K₉)) {Q : (Int32 × Int32 × (Nat → Int32) × (Nat → Int32)) → Prop} (hq : ∀ (nC₉ pd₉ : Int32) (op₉ ar₉ : Nat → Int32) (c₉ : Nat), nC₉.toInt = (c₉ : Int) → pd₉.toInt = (P₉.length : Int) → RepP pile pat P₉ → Lay (cM op₉ ar₉) s0 K₉ c₉ → GP P₉ c₉ → CB op₉ ar₉ c₉ → c₉ + P₉.length ≤ c + P.length → (∀ k, k < s0 → op₉ k = op k ∧ ar₉ k = ar k) → Q (nC₉, pd₉, op₉, ar₉)) : wp_X12_settle b nC pd pile op ar pat Q := by
  unfold wp_X12_settle
  exact x_settle0 hb hB P _ c K nC pd op ar h1 h2 h3 h4 h5 h6 h7 P₉ K₉ h8 (by omega) (fun nC₉ pd₉ op₉ ar₉ c₉ a1 a2 a3 a4 a5 a6 a7 a8 => hq nC₉ pd₉ op₉ ar₉ c₉ a1 a2 a3 a4 a5 a6 a7 a8)
theorem upd_upd {f : Nat → Int32} {j : Nat} {v w : Int32} : upd (upd f j v) j w = upd f j w := by
  funext i
  unfold upd
  by_cases e : i = j
  · rw [if_pos e, if_pos e]
  · rw [if_neg e, if_neg e, if_neg e]
end
section
/-! the reference₉s reader of SUMS and TESTS: its steps -/
abbrev Kt : Type := Int32 → Int32 → Int32 → Int32 → Int64 → Int32 → Int32 → Int32 → Int32 → Int32 → Int32 → (Nat → Int32) → (Nat → Int32) → (Nat → Int32) → (Nat → Int32) → Prop
/-- at the i-th token, with l leaves, d brackets, c of code, P on the pile, K open -/
def RA (st en : Nat → Nat) (T : Nat → Int) (s0 : Nat) (o0 a0 : Nat → Int32) (i l d c : Nat) (P : List (Nat × Nat)) (K : List Itm) (fr to sort : Int32) (worth : Int64) (nC nL pd od : Int32) (pile op ar pat : Nat → Int32) : Prop :=
  (fr.toInt = (st i : Int) ∧ to.toInt = (en i : Int) ∧ MT (T i) sort worth) ∧ nL.toInt = (l : Int) ∧ od.toInt = (d : Int) ∧ pd.toInt = (P.length : Int) ∧ RepP pile pat P ∧ nC.toInt = (c : Int) ∧ c + P.length ≤ st i ∧ Lay (cM op ar) s0 K c ∧ GP P c ∧ CB op ar c ∧ ∀ k, k < s0 → op k = o0 k ∧ ar k = a0 k
def OkK (st en : Nat → Nat) (T : Nat → Int) (s0 : Nat) (o0 a0 : Nat → Int32) (fl : Int32) (turn : Int32) (i l d c : Nat) (P : List (Nat × Nat)) (K : List Itm) (F : Kt) : Prop :=
  ∀ (fr to sort : Int32) (worth : Int64) (nC nL pd od : Int32) (pile op ar pat : Nat → Int32), RA st en T s0 o0 a0 i l d c P K fr to sort worth nC nL pd od pile op ar pat → F turn fr to sort worth fl 0 nC nL pd od pile op ar pat
def WBd (nC pd : Int32) (pile pat : Nat → Int32) : Prop := ∃ c p : Nat, nC.toInt = (c : Int) ∧ pd.toInt = (p : Int) ∧ c + p ≤ 400 ∧ ∀ k, k < p → 20 ≤ (pile k).toInt ∧ (pile k).toInt ≤ 32 ∧ ((pile k).toInt = 29 ∨ (pile k).toInt = 30 → 0 ≤ (pat k).toInt ∧ (pat k).toInt < 400)
def BdK (st : Nat → Nat) (j : Nat) (F : Kt) : Prop :=
  ∀ (turn fr to sort : Int32) (worth : Int64) (fault nC nL pd od : Int32) (pile op ar pat : Nat → Int32), fault.toInt = (st j : Int) → WBd nC pd pile pat → F turn fr to sort worth fault 1 nC nL pd od pile op ar pat
theorem RepP.get {pile pat : Nat → Int32} : ∀ {P : List (Nat × Nat)}, RepP pile pat P → ∀ k, k < P.length → ∃ x ∈ P, (pile k).toInt = (x.1 : Int) ∧ (pat k).toInt = (x.2 : Int) := by
  intro P
  induction P with
  | nil => intro _ k hk; exact absurd hk (Nat.not_lt_zero _)
  | cons y r ih =>
    obtain ⟨o, a⟩ := y
    intro h k hk
    obtain ⟨h1, h2, h3⟩ := h
    have hk : k < r.length + 1 := hk
    by_cases e : k = r.length
    · exact ⟨(o, a), List.mem_cons_self, by rw [e]; exact h1, by rw [e]; exact h2⟩
    · obtain ⟨x, hx, g⟩ := ih h3 k (by omega)
      exact ⟨x, List.mem_cons_of_mem _ hx, g⟩
theorem WBd.of {pile pat : Nat → Int32} {P : List (Nat × Nat)} {c : Nat} {nC pd : Int32} (h1 : nC.toInt = (c : Int)) (h2 : pd.toInt = (P.length : Int)) (h3 : RepP pile pat P) (h4 : GP P c) (h5 : c + P.length ≤ 400) : WBd nC pd pile pat := by
  refine ⟨c, P.length, h1, h2, h5, fun k hk => ?_⟩
  obtain ⟨x, hx, e1, e2⟩ := h3.get k hk
  obtain ⟨g1, g2, g3⟩ := h4 x hx
  refine ⟨by omega, by omega, fun q => ?_⟩
  have := g3 (by omega)
  omega
theorem RA.bd {st en : Nat → Nat} {T : Nat → Int} {s0 : Nat} {o0 a0 : Nat → Int32} {i l d c : Nat} {P : List (Nat × Nat)} {K : List Itm} {fr to sort : Int32} {worth : Int64} {nC nL pd od : Int32} {pile op ar pat : Nat → Int32} (h : RA st en T s0 o0 a0 i l d c P K fr to sort worth nC nL pd od pile op ar pat) (hi : st i ≤ 400) : WBd nC pd pile pat := by
  obtain ⟨_, _, _, a1, a2, a3, a4, _, a5, _, _⟩ := h
  exact WBd.of a3 a1 a2 a5 (by omega)
theorem x_settleB0 {b : Int32} {pile pat : Nat → Int32} (hb : 1 ≤ b.toInt) {Qb : Int32 → Int32 → (Nat → Int32) → (Nat → Int32) → Prop} (hq : ∀ (nC pd : Int32) (op ar : Nat → Int32) (c : Nat), nC.toInt = (c : Int) → c ≤ 400 → Qb nC pd op ar) : ∀ (m p c : Nat) (nC pd : Int32) (op ar : Nat → Int32), nC.toInt = (c : Int) → pd.toInt = (p : Int) → c + p ≤ 400 → (∀ k, k < p → 20 ≤ (pile k).toInt ∧ (pile k).toInt ≤ 32 ∧ ((pile k).toInt = 29 ∨ (pile k).toInt = 30 → 0 ≤ (pat k).toInt ∧ (pat k).toInt < 400)) → p < m → wl_X12_settle_0 b pile pat Qb m nC pd op ar := by
  intro m
  induction m with
  | zero => intro p c nC pd op ar h1 h2 h3 h4 h5; exact absurd h5 (Nat.not_lt_zero _)
  | succ m ih =>
    intro p c nC pd op ar h1 h2 h3 h4 h5
    unfold wl_X12_settle_0
    cases p with
    | zero => exact br1 (z_le (y := 0) h2 rfl (Int.le_refl _)) (hq _ _ _ _ c h1 (by omega))
    | succ p =>
      have p1 := sub1 h2
      obtain ⟨g1, g2, g3⟩ := h4 p (by omega)
      refine br0 (z_nle (y := 0) h2 rfl (by omega)) ⟨vpi p1 (by omega) (by omega), ?_⟩
      rw [tnN p1]
      refine e_binds ?_
      by_cases c1 : bnd (pile p) < b
      · exact br1 c1 (hq _ _ _ _ c h1 (by omega))
      · refine br0 c1 ⟨vpi p1 (by omega) (by omega), jn_s ?_⟩
        by_cases c29 : pile p = 29
        · have c29₉ := eq_z (y := 29) rfl rfl c29
          have g4 := g3 (Or.inl c29₉)
          exact br1 c29 ⟨vpi p1 (by omega) (by omega), vpi rfl g4.1 (by omega), ih p c nC (pd - 1) op _ h1 p1 (by omega) (fun k hk => h4 k (by omega)) (by omega)⟩
        · refine br0 c29 ⟨vpi p1 (by omega) (by omega), ?_⟩
          by_cases c30 : pile p = 30
          · have c30₉ := eq_z (y := 30) rfl rfl c30
            have g4 := g3 (Or.inr c30₉)
            exact br1 c30 ⟨vpi p1 (by omega) (by omega), vpi rfl g4.1 (by omega), ih p c nC (pd - 1) op _ h1 p1 (by omega) (fun k hk => h4 k (by omega)) (by omega)⟩
          · refine br0 c30 ⟨vpi p1 (by omega) (by omega), ?_⟩
            unfold wp_X12_emit
            exact ⟨vpi h1 (by omega) (by omega), vpi h1 (by omega) (by omega), un3_i (ih p (c + 1) (nC + 1) (pd - 1) _ _ (add1 h1 (by omega)) p1 (by omega) (fun k hk => h4 k (by omega)) (by omega))⟩
theorem x_settleB {b nC pd : Int32} {pile pat op ar : Nat → Int32} (hb : 1 ≤ b.toInt) (h : WBd nC pd pile pat) {Q : (Int32 × Int32 × (Nat → Int32) × (Nat → Int32)) → Prop} (hq : ∀ (nC pd : Int32) (op ar : Nat → Int32) (c : Nat), nC.toInt = (c : Int) → c ≤ 400 → Q (nC, pd, op, ar)) : wp_X12_settle b nC pd pile op ar pat Q := by
  obtain ⟨c, p, h1, h2, h3, h4⟩ := h
  unfold wp_X12_settle
  exact x_settleB0 hb (fun nC pd op ar c a b => hq nC pd op ar c a b) _ p c nC pd op ar h1 h2 h3 h4 (by omega)
/-- the innermost bracket: 0 without -/
def inn : List (Nat × Nat) → Nat
  | [] => 0
  | (o, _) :: r => if 31 ≤ o then o else inn r
theorem inn_s {pile pat : Nat → Int32} : ∀ {P : List (Nat × Nat)}, RepP pile pat P → ((∀ k, k < P.length → (pile k).toInt ≤ 30) → inn P = 0) ∧ (∀ k, k < P.length → 31 ≤ (pile k).toInt → (∀ j, k < j → j < P.length → (pile j).toInt ≤ 30) → (pile k).toInt = (inn P : Int)) := by
  intro P
  induction P with
  | nil => intro _; exact ⟨fun _ => rfl, fun k hk => absurd hk (Nat.not_lt_zero _)⟩
  | cons y r ih =>
    obtain ⟨o, a⟩ := y
    intro h
    obtain ⟨h1, h2, h3⟩ := h
    obtain ⟨i1, i2⟩ := ih h3
    have e : inn ((o, a) :: r) = if 31 ≤ o then o else inn r := rfl
    have el : ((o, a) :: r).length = r.length + 1 := rfl
    rw [e, el]
    refine ⟨fun q => ?_, fun k hk k1 k2 => ?_⟩
    · have := q r.length (by omega)
      rw [if_neg (by omega)]
      exact i1 (fun k hk => q k (by omega))
    · by_cases ck : k = r.length
      · rw [ck] at k1 ⊢
        rw [if_pos (by omega)]; exact h1
      · have := k2 r.length (by omega) (by omega)
        rw [if_neg (by omega)]
        exact i2 k (by omega) k1 (fun j j1 j2 => k2 j j1 (by omega))
theorem x_inner {pd : Int32} {pile pat : Nat → Int32} {P : List (Nat × Nat)} (h : RepP pile pat P) (hp : pd.toInt = (P.length : Int)) (h4 : P.length ≤ 400) {Q : Int32 → Prop} (h0 : inn P = 0 → Q (-1)) (h1 : ∀ r : Int32, r.toInt = (inn P : Int) → 31 ≤ inn P → Q r) : wp_X12_inner pd pile Q := by
  refine s_inner hp h4 (fun v hv => ?_)
  obtain ⟨i1, i2⟩ := inn_s h
  rcases hv with ⟨e, g⟩ | ⟨k, k1, k2, k3, k4⟩
  · rw [e]; exact h0 (i1 g)
  · have := i2 k k1 k3 k4
    refine h1 v (by rw [k2]; exact this) (by omega)
/-- a sign of comparison stands right ahead -/
def cmpd : List (Nat × Nat) → Bool
  | [] => false
  | (o, _) :: r => if o ≤ 24 then cmpd r else decide (25 ≤ o ∧ o ≤ 27)
theorem x_isCompared0 {pile pat : Nat → Int32} {Qb : Int32 → Prop} : ∀ (P : List (Nat × Nat)) (m : Nat) (x : Int32), RepP pile pat P → (∀ y ∈ P, 20 ≤ y.1 ∧ y.1 ≤ 32) → P.length ≤ 400 → x.toInt = (P.length : Int) - 1 → P.length < m → (∀ z : Int32, (z.toInt = -1 ∧ cmpd P = false) ∨ (∃ k o : Nat, z.toInt = (k : Int) ∧ k < 400 ∧ (pile k).toInt = (o : Int) ∧ 25 ≤ o ∧ cmpd P = decide (25 ≤ o ∧ o ≤ 27)) → Qb z) → wl_X12_isCompared_7 pile Qb m x := by
  intro P
  induction P with
  | nil =>
    intro m x h hg h4 hx hm K
    cases m with
    | zero => exact absurd hm (Nat.not_lt_zero _)
    | succ m =>
      unfold wl_X12_isCompared_7
      have hx : x.toInt = -1 := hx
      exact br1 (z_lt (y := 0) hx rfl (by omega)) (K x (Or.inl ⟨hx, rfl⟩))
  | cons y r ih =>
    obtain ⟨o, a⟩ := y
    intro m x h hg h4 hx hm K
    obtain ⟨h1, h2, h3⟩ := h
    have el : ((o, a) :: r).length = r.length + 1 := rfl
    rw [el] at hx h4 hm
    have hx : x.toInt = (r.length : Int) := by omega
    obtain ⟨g1, g2⟩ := hg (o, a) List.mem_cons_self
    have e : cmpd ((o, a) :: r) = if o ≤ 24 then cmpd r else decide (25 ≤ o ∧ o ≤ 27) := rfl
    cases m with
    | zero => exact absurd hm (Nat.not_lt_zero _)
    | succ m =>
      unfold wl_X12_isCompared_7
      refine br0 (z_nlt (y := 0) hx rfl (by omega)) ⟨vpi hx (by omega) (by omega), ?_⟩
      rw [tnN hx]
      refine e_in (fun k1 k2 => ?_) (fun k0 => ?_)
      · have k2 : (pile r.length).toInt64.toInt ≤ 24 := k2
        rw [i2l_z h1] at k2
        refine br0 (by decide) ?_
        obtain ⟨x2, ex2, xm⟩ : ∃ x2 : Int32, x + (-1) = x2 ∧ x2.toInt = (r.length : Int) - 1 := ⟨_, rfl, (add_z (a := x) (b := -1) (y := -1) hx rfl (by omega) (by omega)).trans (by omega)⟩
        rw [ex2]
        clear ex2
        refine ih m x2 h3 (fun y hy => hg y (List.mem_cons_of_mem _ hy)) (by omega) xm (by omega) (fun z hz => K z ?_)
        rw [e, if_pos (by omega)]
        exact hz
      · have k0 : ¬ ((20 : Int) ≤ (pile r.length).toInt64.toInt ∧ (pile r.length).toInt64.toInt ≤ 24) := k0
        rw [i2l_z h1] at k0
        refine br1 rfl (K x (Or.inr ⟨r.length, o, hx, by omega, h1, by omega, ?_⟩))
        rw [e, if_neg (by omega)]
theorem x_isCompared {pd : Int32} {pile pat : Nat → Int32} {P : List (Nat × Nat)} (h : RepP pile pat P) (hg : ∀ y ∈ P, 20 ≤ y.1 ∧ y.1 ≤ 32) (hp : pd.toInt = (P.length : Int)) (h4 : P.length ≤ 400) {Q : Int32 → Prop} (h0 : cmpd P = false → Q 0) (h1 : cmpd P = true → Q 1) : wp_X12_isCompared pd pile Q := by
  unfold wp_X12_isCompared
  have e1 : (pd - 1).toInt = (P.length : Int) - 1 := by
    have := sub_z (a := pd) (b := 1) (y := 1) hp rfl (by omega) (by omega)
    rw [this]
  refine x_isCompared0 P _ _ h hg h4 e1 (by omega) (fun z hz => ?_)
  rcases hz with ⟨z1, z2⟩ | ⟨k, o, z1, z4, z2, z5, z3⟩
  · exact br1 (z_lt (y := 0) z1 rfl (by omega)) (h0 z2)
  · refine br0 (z_nlt (y := 0) z1 rfl (by omega)) ⟨vpi z1 (by omega) (by omega), ?_⟩
    rw [tnN z1]
    refine e_in (fun k1 k2 => ?_) (fun k0 => ?_)
    · have k2 : (pile k).toInt64.toInt ≤ 27 := k2
      rw [i2l_z z2] at k2
      refine br0 (by decide) (h1 ?_)
      rw [z3]; exact decide_eq_true ⟨z5, by omega⟩
    · have k0 : ¬ ((25 : Int) ≤ (pile k).toInt64.toInt ∧ (pile k).toInt64.toInt ≤ 27) := k0
      rw [i2l_z z2] at k0
      refine br1 rfl (h0 ?_)
      rw [z3]; exact decide_eq_false (by omega)
/-- a word out of a row of words -/
def VOK (t : Int) (tb : Nat → Nat) (dl : Int) (j : Nat) (v : Int32) : Prop := (v = -1 ∧ ∀ k, k < j → ¬ t = (tb k : Int)) ∨ ∃ k, k < j ∧ t = (tb k : Int) ∧ v.toInt = (k : Int) + dl
theorem VOK.next {t : Int} {tb : Nat → Nat} {dl : Int} {j : Nat} {v : Int32} (h : VOK t tb dl j v) (hn : ¬ t = (tb j : Int)) : VOK t tb dl (j + 1) v := by
  rcases h with ⟨h1, h2⟩ | ⟨k, k1, k2⟩
  · refine Or.inl ⟨h1, fun k hk => ?_⟩
    by_cases e : k = j
    · rw [e]; exact hn
    · exact h2 k (by omega)
  · exact Or.inr ⟨k, by omega, k2⟩
theorem x_partAt0 {t : Int} {sort : Int32} {worth : Int64} (hM : MT t sort worth) {ws : Nat → Int64} {tb : Nat → Nat} (hW : ∀ k, k < 9 → (ws k).toInt = lx_wc (tb k) ∧ tb k < 29) {Qb : Int32 → Int32 → Prop} (K : ∀ x v : Int32, VOK t tb 1 9 v → Qb x v) : ∀ (m j : Nat) (x v : Int32), x.toInt = (j : Int) → j ≤ 9 → VOK t tb 1 j v → 9 - j < m → wl_X12_partAt_4 sort worth ws Qb m x v := by
  intro m
  induction m with
  | zero => intro j x v h1 h2 h3 h4; exact absurd h4 (Nat.not_lt_zero _)
  | succ m ih =>
    intro j x v h1 h2 h3 h4
    unfold wl_X12_partAt_4
    by_cases c : 9 ≤ x
    · have c₉ := le_z (x := 9) rfl h1 c
      have e : j = 9 := by omega
      rw [e] at h3
      exact br1 c (K x v h3)
    · have c₉ := nle_z (x := 9) rfl h1 c
      refine br0 c ⟨vpi h1 (by omega) (by omega), ?_⟩
      rw [tnN h1]
      have e1 := add1 h1 (by omega)
      refine mt_word hM (hW j (by omega)).2 (hW j (by omega)).1 (fun e => ?_) (fun e => ?_)
      · refine br0 (by decide) (ih (j + 1) (x + 1) _ e1 (by omega) (Or.inr ⟨j, by omega, e, ?_⟩) (by omega))
        rw [e1]; omega
      · exact br1 rfl (ih (j + 1) (x + 1) _ e1 (by omega) (h3.next e) (by omega))
theorem x_orderPartAt0 {t : Int} {sort : Int32} {worth : Int64} (hM : MT t sort worth) {ws : Nat → Int64} {tb : Nat → Nat} (hW : ∀ k, k < 6 → (ws k).toInt = lx_wc (tb k) ∧ tb k < 29) {Qb : Int32 → Int32 → Prop} (K : ∀ x v : Int32, VOK t tb 1 6 v → Qb x v) : ∀ (m j : Nat) (x v : Int32), x.toInt = (j : Int) → j ≤ 6 → VOK t tb 1 j v → 6 - j < m → wl_X12_orderPartAt_4 sort worth ws Qb m x v := by
  intro m
  induction m with
  | zero => intro j x v h1 h2 h3 h4; exact absurd h4 (Nat.not_lt_zero _)
  | succ m ih =>
    intro j x v h1 h2 h3 h4
    unfold wl_X12_orderPartAt_4
    by_cases c : 6 ≤ x
    · have c₉ := le_z (x := 6) rfl h1 c
      have e : j = 6 := by omega
      rw [e] at h3
      exact br1 c (K x v h3)
    · have c₉ := nle_z (x := 6) rfl h1 c
      refine br0 c ⟨vpi h1 (by omega) (by omega), ?_⟩
      rw [tnN h1]
      have e1 := add1 h1 (by omega)
      refine mt_word hM (hW j (by omega)).2 (hW j (by omega)).1 (fun e => ?_) (fun e => ?_)
      · refine br0 (by decide) (ih (j + 1) (x + 1) _ e1 (by omega) (Or.inr ⟨j, by omega, e, ?_⟩) (by omega))
        rw [e1]; omega
      · exact br1 rfl (ih (j + 1) (x + 1) _ e1 (by omega) (h3.next e) (by omega))
theorem x_rl40 {t : Int} {sort : Int32} {worth : Int64} (hM : MT t sort worth) {ws : Nat → Int64} {tb : Nat → Nat} (hW : ∀ k, k < 5 → (ws k).toInt = lx_wc (tb k) ∧ tb k < 29) {Qb : Int32 → Int32 → Prop} (K : ∀ x v : Int32, VOK t tb 0 5 v → Qb x v) : ∀ (m j : Nat) (x v : Int32), x.toInt = (j : Int) → j ≤ 5 → VOK t tb 0 j v → 5 - j < m → wl_X12_readLaw_4 sort worth ws Qb m x v := by
  intro m
  induction m with
  | zero => intro j x v h1 h2 h3 h4; exact absurd h4 (Nat.not_lt_zero _)
  | succ m ih =>
    intro j x v h1 h2 h3 h4
    unfold wl_X12_readLaw_4
    by_cases c : 5 ≤ x
    · have c₉ := le_z (x := 5) rfl h1 c
      have e : j = 5 := by omega
      rw [e] at h3
      exact br1 c (K x v h3)
    · have c₉ := nle_z (x := 5) rfl h1 c
      refine br0 c ⟨vpi h1 (by omega) (by omega), ?_⟩
      rw [tnN h1]
      have e1 := add1 h1 (by omega)
      refine mt_word hM (hW j (by omega)).2 (hW j (by omega)).1 (fun e => ?_) (fun e => ?_)
      · refine br0 (by decide) (ih (j + 1) (x + 1) _ e1 (by omega) (Or.inr ⟨j, by omega, e, ?_⟩) (by omega))
        omega
      · exact br1 rfl (ih (j + 1) (x + 1) _ e1 (by omega) (h3.next e) (by omega))
theorem x_ro40 {t : Int} {sort : Int32} {worth : Int64} (hM : MT t sort worth) {ws : Nat → Int64} {tb : Nat → Nat} (hW : ∀ k, k < 4 → (ws k).toInt = lx_wc (tb k) ∧ tb k < 29) {Qb : Int32 → Int32 → Prop} (K : ∀ x v : Int32, VOK t tb 0 4 v → Qb x v) : ∀ (m j : Nat) (x v : Int32), x.toInt = (j : Int) → j ≤ 4 → VOK t tb 0 j v → 4 - j < m → wl_X12_readOrder_4 sort worth ws Qb m x v := by
  intro m
  induction m with
  | zero => intro j x v h1 h2 h3 h4; exact absurd h4 (Nat.not_lt_zero _)
  | succ m ih =>
    intro j x v h1 h2 h3 h4
    unfold wl_X12_readOrder_4
    by_cases c : 4 ≤ x
    · have c₉ := le_z (x := 4) rfl h1 c
      have e : j = 4 := by omega
      rw [e] at h3
      exact br1 c (K x v h3)
    · have c₉ := nle_z (x := 4) rfl h1 c
      refine br0 c ⟨vpi h1 (by omega) (by omega), ?_⟩
      rw [tnN h1]
      have e1 := add1 h1 (by omega)
      refine mt_word hM (hW j (by omega)).2 (hW j (by omega)).1 (fun e => ?_) (fun e => ?_)
      · refine br0 (by decide) (ih (j + 1) (x + 1) _ e1 (by omega) (Or.inr ⟨j, by omega, e, ?_⟩) (by omega))
        omega
      · exact br1 rfl (ih (j + 1) (x + 1) _ e1 (by omega) (h3.next e) (by omega))
end
