/-! the reference's reader: its pile and its code -/
theorem tnN {x : Int32} {n : Nat} (h : x.toInt = (n : Int)) : x.toNatClampNeg = n := by
  have e : x.toNatClampNeg = x.toInt.toNat := rfl
  omega
/-- how many wait on the pile that take two, that write a code -/
def nbn (f : Nat → Int32) : Nat → Nat
  | 0 => 0
  | k + 1 => nbn f k + (if 20 ≤ (f k).toInt ∧ (f k).toInt ≤ 27 then 1 else 0)
def npd (f : Nat → Int32) : Nat → Nat
  | 0 => 0
  | k + 1 => npd f k + (if 20 ≤ (f k).toInt ∧ (f k).toInt ≤ 28 then 1 else 0)
theorem nbn_u {f : Nat → Int32} {n : Nat} {v : Int32} : ∀ k, k ≤ n → nbn (upd f n v) k = nbn f k := by
  intro k
  induction k with
  | zero => intro _; rfl
  | succ k ih =>
    intro h
    show nbn (upd f n v) k + _ = nbn f k + _
    rw [ih (by omega), pk_un (by omega)]
theorem npd_u {f : Nat → Int32} {n : Nat} {v : Int32} : ∀ k, k ≤ n → npd (upd f n v) k = npd f k := by
  intro k
  induction k with
  | zero => intro _; rfl
  | succ k ih =>
    intro h
    show npd (upd f n v) k + _ = npd f k + _
    rw [ih (by omega), pk_un (by omega)]
theorem nbn1 {f : Nat → Int32} {k : Nat} (h : 20 ≤ (f k).toInt ∧ (f k).toInt ≤ 27) : nbn f (k + 1) = nbn f k + 1 := by
  show nbn f k + _ = _
  rw [if_pos h]
theorem nbn0 {f : Nat → Int32} {k : Nat} (h : ¬ (20 ≤ (f k).toInt ∧ (f k).toInt ≤ 27)) : nbn f (k + 1) = nbn f k := by
  show nbn f k + _ = _
  rw [if_neg h]; rfl
theorem npd1 {f : Nat → Int32} {k : Nat} (h : 20 ≤ (f k).toInt ∧ (f k).toInt ≤ 28) : npd f (k + 1) = npd f k + 1 := by
  show npd f k + _ = _
  rw [if_pos h]
theorem npd0 {f : Nat → Int32} {k : Nat} (h : ¬ (20 ≤ (f k).toInt ∧ (f k).toInt ≤ 28)) : npd f (k + 1) = npd f k := by
  show npd f k + _ = _
  rw [if_neg h]; rfl
def dlt (o : Int32) : Int := if o.toInt < 20 then 1 else if o.toInt = 28 then 0 else -1
/-- how high the numbers stand ahead of a code -/
def hg (op : Nat → Int32) (s : Nat) : Nat → Int
  | 0 => 0
  | k + 1 => if k < s then 0 else hg op s k + dlt (op k)
theorem hg_u {f : Nat → Int32} {s n : Nat} {v : Int32} : ∀ k, k ≤ n → hg (upd f n v) s k = hg f s k := by
  intro k
  induction k with
  | zero => intro _; rfl
  | succ k ih =>
    intro h
    show (if k < s then 0 else hg (upd f n v) s k + dlt (upd f n v k)) = (if k < s then 0 else hg f s k + dlt (f k))
    rw [ih (by omega), pk_un (by omega)]
theorem hg_0 {f : Nat → Int32} {s : Nat} : ∀ k, k ≤ s → hg f s k = 0 := by
  intro k
  cases k with
  | zero => intro _; rfl
  | succ k =>
    intro h
    show (if k < s then 0 else hg f s k + dlt (f k)) = 0
    rw [if_pos (by omega)]
theorem hg_1 {f : Nat → Int32} {s k : Nat} (h : s ≤ k) : hg f s (k + 1) = hg f s k + dlt (f k) := by
  show (if k < s then 0 else hg f s k + dlt (f k)) = _
  rw [if_neg (by omega)]
def isJ (o : Int32) : Prop := 29 ≤ o.toInt ∧ o.toInt ≤ 30
/-- a code that is written: it can be reckoned, or waits on the pile for its aim -/
def CDo (op ar : Nat → Int32) (s n p : Nat) (pile pat : Nat → Int32) (i : Nat) : Prop :=
  (0 ≤ (op i).toInt ∧ (op i).toInt ≤ 9 ∧ 0 ≤ hg op s i) ∨ (20 ≤ (op i).toInt ∧ (op i).toInt ≤ 27 ∧ 2 ≤ hg op s i) ∨ ((op i).toInt = 28 ∧ 1 ≤ hg op s i) ∨
  (isJ (op i) ∧ 1 ≤ hg op s i ∧ ((∃ j : Nat, (ar i).toInt = (j : Int) ∧ i < j ∧ j ≤ n ∧ hg op s j = hg op s i) ∨ ∃ k, k < p ∧ isJ (pile k) ∧ (pat k).toInt = (i : Int)))
/-- the ranges alone -/
def PR (s n p fr : Nat) (pile pat : Nat → Int32) : Prop :=
  s ≤ n ∧ n + npd pile p ≤ fr ∧ p ≤ fr ∧ (∀ k, k < p → 20 ≤ (pile k).toInt ∧ (pile k).toInt ≤ 32) ∧ (∀ k, k < p → isJ (pile k) → ∃ i : Nat, (pat k).toInt = (i : Int) ∧ s ≤ i ∧ i < n)
/-- above a square bracket: sums alone -/
def PW (p : Nat) (pile : Nat → Int32) : Prop := ∀ j k, j < k → k < p → (pile j).toInt = 32 → (pile k).toInt ≤ 24 ∨ (pile k).toInt = 32
def PH (t s n p : Nat) (o0 a0 pile pat op ar : Nat → Int32) : Prop :=
  hg op s n = (nbn pile p : Int) + t ∧ (∀ i, s ≤ i → i < n → CDo op ar s n p pile pat i) ∧ (∀ k, k < p → isJ (pile k) → ∀ i : Nat, (pat k).toInt = (i : Int) → (isJ (op i) ∧ hg op s i = (nbn pile k : Int) + 1)) ∧ ∀ i, i < s → op i = o0 i ∧ ar i = a0 i
def PI (g : Prop) (t s n p fr : Nat) (o0 a0 pile pat op ar : Nat → Int32) : Prop := PR s n p fr pile pat ∧ PW p pile ∧ (g → PH t s n p o0 a0 pile pat op ar)
theorem PI.weak {g : Prop} {t s n p fr : Nat} {o0 a0 pile pat op ar : Nat → Int32} (h : PI g t s n p fr o0 a0 pile pat op ar) {g' : Prop} (hg : ¬ g') (t' : Nat) : PI g' t' s n p fr o0 a0 pile pat op ar := ⟨h.1, h.2.1, fun q => (hg q).elim⟩
theorem PI.more {g : Prop} {t s n p fr : Nat} {o0 a0 pile pat op ar : Nat → Int32} (h : PI g t s n p fr o0 a0 pile pat op ar) {fr' : Nat} (hf : fr ≤ fr') : PI g t s n p fr' o0 a0 pile pat op ar :=
  ⟨⟨h.1.1, by have := h.1.2.1; omega, by have := h.1.2.2.1; omega, h.1.2.2.2⟩, h.2⟩
theorem PI.start (g : Prop) {n fr : Nat} (h : n ≤ fr) (pile pat op ar : Nat → Int32) : PI g 0 n n 0 fr op ar pile pat op ar := by
  refine ⟨⟨Nat.le_refl n, by show n + 0 ≤ fr; omega, by omega, fun k h => by omega, fun k h => by omega⟩, fun j k _ h => by omega, fun _ => ⟨?_, fun i h1 h2 => by omega, fun k h => by omega, fun _ _ => ⟨rfl, rfl⟩⟩⟩
  rw [hg_0 n (Nat.le_refl n)]; rfl
/-- a code is written that no pile knows -/
theorem CDo.emit {op ar : Nat → Int32} {s n p : Nat} {pile pat : Nat → Int32} {i : Nat} (h : CDo op ar s n p pile pat i) (hi : i < n) {v w : Int32} : CDo (upd op n v) (upd ar n w) s (n + 1) p pile pat i := by
  unfold CDo at h ⊢
  rw [pk_un (by omega), pk_un (by omega), hg_u i (by omega)]
  rcases h with h | h | h | ⟨h1, h2, h3⟩
  · exact Or.inl h
  · exact Or.inr (Or.inl h)
  · exact Or.inr (Or.inr (Or.inl h))
  · refine Or.inr (Or.inr (Or.inr ⟨h1, h2, ?_⟩))
    rcases h3 with ⟨j, q1, q2, q3, q4⟩ | h3
    · refine Or.inl ⟨j, q1, q2, by omega, ?_⟩
      rw [hg_u j q3]; exact q4
    · exact Or.inr h3
theorem CDo.pile {op ar : Nat → Int32} {s n p p' : Nat} {pile pat pile' pat' : Nat → Int32} {i : Nat} (h : CDo op ar s n p pile pat i) (hp : ∀ k, k < p → isJ (pile k) → k < p' ∧ pile' k = pile k ∧ pat' k = pat k) : CDo op ar s n p' pile' pat' i := by
  rcases h with h | h | h | ⟨h1, h2, h3⟩
  · exact Or.inl h
  · exact Or.inr (Or.inl h)
  · exact Or.inr (Or.inr (Or.inl h))
  · refine Or.inr (Or.inr (Or.inr ⟨h1, h2, ?_⟩))
    rcases h3 with h3 | ⟨k, k1, k2, k3⟩
    · exact Or.inl h3
    · obtain ⟨e1, e2, e3⟩ := hp k k1 k2
      exact Or.inr ⟨k, e1, by rw [e2]; exact k2, by rw [e3]; exact k3⟩
/-- a number, a word -/
theorem PI.leaf {g : Prop} {s n p fr : Nat} {o0 a0 pile pat op ar : Nat → Int32} (h : PI g 0 s n p fr o0 a0 pile pat op ar) {v : Int32} (w : Int32) (h0 : 0 ≤ v.toInt) (h1 : v.toInt ≤ 9) {fr' : Nat} (hf : fr < fr') : PI g 1 s (n + 1) p fr' o0 a0 pile pat (upd op n v) (upd ar n w) := by
  obtain ⟨⟨a1, a2, a3, a4, a5⟩, b, c⟩ := h
  refine ⟨⟨by omega, by omega, by omega, a4, fun k hk hj => ?_⟩, b, fun q => ?_⟩
  · obtain ⟨i, e1, e2, e3⟩ := a5 k hk hj
    exact ⟨i, e1, e2, by omega⟩
  · obtain ⟨c1, c2, c3, c4⟩ := c q
    refine ⟨?_, fun i i1 i2 => ?_, fun k hk hj i hi => ?_, fun i hi => by rw [pk_un (by omega), pk_un (by omega)]; exact c4 i hi⟩
    · rw [hg_1 a1, hg_u n (Nat.le_refl n), pk_us, c1]
      unfold dlt
      rw [if_pos (by omega)]
      omega
    · by_cases e : i = n
      · subst e
        left
        rw [pk_us, hg_u i (Nat.le_refl i), c1]
        omega
      · exact (c2 i i1 (by omega)).emit (by omega)
    · obtain ⟨i', e1, e2, e3⟩ := a5 k hk hj
      obtain rfl : i = i' := by omega
      rw [pk_un (by omega), hg_u i (by omega)]
      exact c3 k hk hj i hi
/-- what a leaf has beside it is put in later -/
theorem PI.arg {g : Prop} {t s n p fr : Nat} {o0 a0 pile pat op ar : Nat → Int32} (h : PI g t s (n + 1) p fr o0 a0 pile pat op ar) (hs : s ≤ n) (h1 : (op n).toInt ≤ 9) (w : Int32) : PI g t s (n + 1) p fr o0 a0 pile pat op (upd ar n w) := by
  obtain ⟨a, b, c⟩ := h
  refine ⟨a, b, fun q => ?_⟩
  obtain ⟨c1, c2, c3, c4⟩ := c q
  refine ⟨c1, fun i i1 i2 => ?_, c3, fun i hi => by rw [pk_un (by omega)]; exact c4 i hi⟩
  have h2 := c2 i i1 i2
  rcases h2 with h | h | h | ⟨h1', h2, h3⟩
  · exact Or.inl h
  · exact Or.inr (Or.inl h)
  · exact Or.inr (Or.inr (Or.inl h))
  · have e : i ≠ n := fun e => by subst e; unfold isJ at h1'; omega
    refine Or.inr (Or.inr (Or.inr ⟨h1', h2, ?_⟩))
    rw [pk_un e]; exact h3
/-- one that writes a code goes off the pile -/
theorem PI.popc {g : Prop} {s n p fr : Nat} {o0 a0 pile pat op ar : Nat → Int32} (h : PI g 1 s n (p + 1) fr o0 a0 pile pat op ar) (h0 : 20 ≤ (pile p).toInt) (h1 : (pile p).toInt ≤ 28) : PI g 1 s (n + 1) p fr o0 a0 pile pat (upd op n (pile p)) (upd ar n 0) := by
  obtain ⟨⟨a1, a2, a3, a4, a5⟩, b, c⟩ := h
  rw [npd1 ⟨h0, h1⟩] at a2
  refine ⟨⟨by omega, by omega, by omega, fun k hk => a4 k (by omega), fun k hk hj => ?_⟩, fun j k hj hk => b j k hj (by omega), fun q => ?_⟩
  · obtain ⟨i, e1, e2, e3⟩ := a5 k (by omega) hj
    exact ⟨i, e1, e2, by omega⟩
  · obtain ⟨c1, c2, c3, c4⟩ := c q
    refine ⟨?_, fun i i1 i2 => ?_, fun k hk hj i hi => ?_, fun i hi => by rw [pk_un (by omega), pk_un (by omega)]; exact c4 i hi⟩
    · rw [hg_1 a1, hg_u n (Nat.le_refl n), pk_us, c1]
      unfold dlt
      rw [if_neg (by omega)]
      by_cases e : (pile p).toInt = 28
      · rw [if_pos e, nbn0 (by omega)]; omega
      · rw [if_neg e, nbn1 (by omega)]; omega
    · by_cases e : i = n
      · subst e
        right
        rw [pk_us, hg_u i (Nat.le_refl i), c1]
        by_cases e : (pile p).toInt = 28
        · right; left; exact ⟨e, by omega⟩
        · left; rw [nbn1 (by omega)]; omega
      · refine ((c2 i i1 (by omega)).emit (by omega)).pile (fun k k1 k2 => ⟨?_, rfl, rfl⟩)
        have e2 : k ≠ p := fun e => by subst e; unfold isJ at k2; omega
        omega
    · obtain ⟨i', e1, e2, e3⟩ := a5 k (by omega) hj
      obtain rfl : i = i' := by omega
      rw [pk_un (by omega), hg_u i (by omega)]
      exact c3 k (by omega) hj i hi
/-- an and, an or goes off the pile: its code gets its aim -/
theorem PI.popj {g : Prop} {s n p fr : Nat} {o0 a0 pile pat op ar : Nat → Int32} (h : PI g 1 s n (p + 1) fr o0 a0 pile pat op ar) (hj : isJ (pile p)) {i : Nat} (hi : (pat p).toInt = (i : Int)) {w : Int32} (hw : w.toInt = (n : Int)) : PI g 1 s n p fr o0 a0 pile pat op (upd ar i w) := by
  obtain ⟨⟨a1, a2, a3, a4, a5⟩, b, c⟩ := h
  have hz : ¬ (20 ≤ (pile p).toInt ∧ (pile p).toInt ≤ 27) := by unfold isJ at hj; omega
  rw [npd0 (by unfold isJ at hj; omega)] at a2
  refine ⟨⟨a1, by omega, by omega, fun k hk => a4 k (by omega), fun k hk hj => a5 k (by omega) hj⟩, fun j k hj hk => b j k hj (by omega), fun q => ?_⟩
  obtain ⟨c1, c2, c3, c4⟩ := c q
  rw [nbn0 hz] at c1
  obtain ⟨i', e1, e2, e3⟩ := a5 p (by omega) hj
  obtain rfl : i = i' := by omega
  obtain ⟨d1, d2⟩ := c3 p (by omega) hj i hi
  refine ⟨c1, fun x x1 x2 => ?_, fun k hk hj => c3 k (by omega) hj, fun x hx => by rw [pk_un (by omega)]; exact c4 x hx⟩
  by_cases e : x = i
  · subst e
    refine Or.inr (Or.inr (Or.inr ⟨d1, by omega, Or.inl ⟨n, ?_, by omega, Nat.le_refl n, by omega⟩⟩))
    rw [pk_us]; exact hw
  · rcases c2 x x1 x2 with h | h | h | ⟨h1, h2, h3⟩
    · exact Or.inl h
    · exact Or.inr (Or.inl h)
    · exact Or.inr (Or.inr (Or.inl h))
    · refine Or.inr (Or.inr (Or.inr ⟨h1, h2, ?_⟩))
      rw [pk_un e]
      rcases h3 with h3 | ⟨k, k1, k2, k3⟩
      · exact Or.inl h3
      · have : k ≠ p := fun e => by subst e; omega
        exact Or.inr ⟨k, by omega, k2, k3⟩
/-- one more on the pile that is no and, no or -/
theorem PI.push {g : Prop} {t t' s n p fr : Nat} {o0 a0 pile pat op ar : Nat → Int32} (h : PI g t s n p fr o0 a0 pile pat op ar) {v : Int32} (w : Int32) (h0 : 20 ≤ v.toInt) (h1 : v.toInt ≤ 32) (hj : ¬ isJ v) (ht : t' + (if v.toInt ≤ 27 then 1 else 0) = t) (hw : v.toInt ≤ 24 ∨ v.toInt = 32 ∨ ∀ k, k < p → (pile k).toInt ≠ 32) {fr' : Nat} (hf : fr < fr') : PI g t' s n (p + 1) fr' o0 a0 (upd pile p v) (upd pat p w) op ar := by
  obtain ⟨⟨a1, a2, a3, a4, a5⟩, b, c⟩ := h
  have hn : npd (upd pile p v) (p + 1) ≤ npd pile p + 1 := by
    show npd (upd pile p v) p + _ ≤ _
    rw [npd_u p (Nat.le_refl p)]
    split <;> omega
  refine ⟨⟨a1, by omega, by omega, fun k hk => ?_, fun k hk hk2 => ?_⟩, fun j k hjk hk hj2 => ?_, fun q => ?_⟩
  · by_cases e : k = p
    · subst e; rw [pk_us]; exact ⟨h0, h1⟩
    · rw [pk_un e]; exact a4 k (by omega)
  · by_cases e : k = p
    · subst e; rw [pk_us] at hk2; exact (hj hk2).elim
    · rw [pk_un e] at hk2 ⊢; exact a5 k (by omega) hk2
  · rw [pk_un (by omega)] at hj2
    by_cases e : k = p
    · subst e; rw [pk_us]
      rcases hw with hw | hw | hw
      · exact Or.inl hw
      · exact Or.inr hw
      · exact (hw j hjk hj2).elim
    · rw [pk_un e]; exact b j k hjk (by omega) hj2
  · obtain ⟨c1, c2, c3, c4⟩ := c q
    refine ⟨?_, fun i i1 i2 => (c2 i i1 i2).pile (fun k k1 k2 => ⟨by omega, pk_un (by omega), pk_un (by omega)⟩), fun k hk hk2 i hi => ?_, c4⟩
    · rw [c1]
      by_cases e : v.toInt ≤ 27
      · rw [nbn1 (by rw [pk_us]; omega), nbn_u p (Nat.le_refl p)]
        rw [if_pos e] at ht; omega
      · rw [nbn0 (by rw [pk_us]; omega), nbn_u p (Nat.le_refl p)]
        rw [if_neg e] at ht; omega
    · have e : k ≠ p := fun e => by subst e; rw [pk_us] at hk2; exact hj hk2
      rw [pk_un e] at hk2 hi
      rw [nbn_u k (by omega)]
      exact c3 k (by omega) hk2 i hi
/-- a bracket goes off -/
theorem PI.close {g : Prop} {s n p fr : Nat} {o0 a0 pile pat op ar : Nat → Int32} (h : PI g 1 s n (p + 1) fr o0 a0 pile pat op ar) (hb : 31 ≤ (pile p).toInt) : PI g 1 s n p fr o0 a0 pile pat op ar := by
  obtain ⟨⟨a1, a2, a3, a4, a5⟩, b, c⟩ := h
  rw [npd0 (by omega)] at a2
  refine ⟨⟨a1, by omega, by omega, fun k hk => a4 k (by omega), fun k hk hj => a5 k (by omega) hj⟩, fun j k hj hk => b j k hj (by omega), fun q => ?_⟩
  obtain ⟨c1, c2, c3, c4⟩ := c q
  rw [nbn0 (by omega)] at c1
  refine ⟨c1, fun i i1 i2 => (c2 i i1 i2).pile (fun k k1 k2 => ⟨?_, rfl, rfl⟩), fun k hk hj => c3 k (by omega) hj, c4⟩
  have : k ≠ p := fun e => by subst e; unfold isJ at k2; omega
  omega
/-- an and, an or -/
theorem PI.join {g : Prop} {s n p fr : Nat} {o0 a0 pile pat op ar : Nat → Int32} (h : PI g 1 s n p fr o0 a0 pile pat op ar) {v w : Int32} (hj : isJ v) (hw : w.toInt = (n : Int)) (hs : ∀ k, k < p → (pile k).toInt ≠ 32) {fr' : Nat} (hf : fr < fr') : PI g 0 s (n + 1) (p + 1) fr' o0 a0 (upd pile p v) (upd pat p w) (upd op n v) (upd ar n 0) := by
  obtain ⟨⟨a1, a2, a3, a4, a5⟩, b, c⟩ := h
  have hv : 29 ≤ v.toInt ∧ v.toInt ≤ 30 := hj
  have hn : npd (upd pile p v) (p + 1) = npd pile p := by
    rw [npd0 (by rw [pk_us]; omega), npd_u p (Nat.le_refl p)]
  refine ⟨⟨by omega, by omega, by omega, fun k hk => ?_, fun k hk hk2 => ?_⟩, fun j k hjk hk hj2 => ?_, fun q => ?_⟩
  · by_cases e : k = p
    · subst e; rw [pk_us]; omega
    · rw [pk_un e]; exact a4 k (by omega)
  · by_cases e : k = p
    · subst e; rw [pk_us]; exact ⟨n, hw, a1, by omega⟩
    · rw [pk_un e] at hk2 ⊢
      obtain ⟨i, e1, e2, e3⟩ := a5 k (by omega) hk2
      exact ⟨i, e1, e2, by omega⟩
  · rw [pk_un (by omega)] at hj2
    exact (hs j (by omega) hj2).elim
  · obtain ⟨c1, c2, c3, c4⟩ := c q
    refine ⟨?_, fun i i1 i2 => ?_, fun k hk hk2 i hi => ?_, fun i hi => by rw [pk_un (by omega), pk_un (by omega)]; exact c4 i hi⟩
    · rw [hg_1 a1, hg_u n (Nat.le_refl n), pk_us, c1, nbn0 (by rw [pk_us]; omega), nbn_u p (Nat.le_refl p)]
      unfold dlt
      rw [if_neg (by omega), if_neg (by omega)]
      omega
    · by_cases e : i = n
      · subst e
        refine Or.inr (Or.inr (Or.inr ⟨by rw [pk_us]; exact hj, by rw [hg_u i (Nat.le_refl i), c1]; omega, Or.inr ⟨p, by omega, by rw [pk_us]; exact hj, by rw [pk_us]; exact hw⟩⟩))
      · exact ((c2 i i1 (by omega)).emit (by omega)).pile (fun k k1 k2 => ⟨by omega, pk_un (by omega), pk_un (by omega)⟩)
    · by_cases e : k = p
      · subst e
        rw [pk_us] at hi
        obtain rfl : i = n := by omega
        rw [pk_us, hg_u i (Nat.le_refl i), c1, nbn_u k (Nat.le_refl k)]
        exact ⟨hj, by omega⟩
      · rw [pk_un e] at hk2 hi
        obtain ⟨i', e1, e2, e3⟩ := a5 k (by omega) hk2
        obtain rfl : i = i' := by omega
        rw [pk_un (by omega), hg_u i (by omega), nbn_u k (by omega)]
        exact c3 k (by omega) hk2 i hi
/-- nothing waits: the code can be reckoned -/
theorem PI.done {g : Prop} {t s n fr : Nat} {o0 a0 pile pat op ar : Nat → Int32} (h : PI g t s n 0 fr o0 a0 pile pat op ar) (hg' : g) : SG op ar s n := by
  obtain ⟨-, -, c⟩ := h
  obtain ⟨c1, c2, c3, -⟩ := c hg'
  refine ⟨fun i => (hg op s i).toNat, ?_, fun i i1 i2 => ?_⟩
  · show (hg op s s).toNat = 0
    rw [hg_0 s (Nat.le_refl s)]; rfl
  · have e := hg_1 (f := op) (s := s) i1
    unfold ST
    simp only
    rw [e]
    unfold dlt
    rcases c2 i i1 i2 with h | h | h | ⟨h1, h2, h3⟩
    · left; rw [if_pos (by omega)]; omega
    · right; left; rw [if_neg (by omega), if_neg (by omega)]; omega
    · right; right; left; rw [if_neg (by omega), if_pos h.1]; omega
    · right; right; right
      have hj : 29 ≤ (op i).toInt ∧ (op i).toInt ≤ 30 := h1
      rw [if_neg (by omega), if_neg (by omega)]
      rcases h3 with ⟨j, q1, q2, q3, q4⟩ | ⟨k, k1, _⟩
      · exact ⟨hj.1, hj.2, by omega, by omega, j, q1, q2, q3, by rw [q4]⟩
      · omega
theorem PI.low {g : Prop} {t s n p fr : Nat} {o0 a0 pile pat op ar : Nat → Int32} (h : PI g t s n p fr o0 a0 pile pat op ar) (hg' : g) : ∀ i, i < s → op i = o0 i ∧ ar i = a0 i := (h.2.2 hg').2.2.2
