/-! what SUMS and TESTS can be worth -/
def tsE (v : Nat → Nat → Int64) : Prop := ∀ o a, -1000000000 ≤ (v o a).toInt ∧ (v o a).toInt ≤ 1000000000
def tsS (s : Sem) : Prop := ∀ v, tsE v → ∀ x, s v = some x → -1000000000 ≤ x.toInt ∧ x.toInt ≤ 1000000000
def tsT (s : Sem) : Prop := ∀ v x, s v = some x → x = 0 ∨ x = 1
theorem rd_chk_b {v x : Int64} (h : rd_chk v = some x) : -1000000000 ≤ x.toInt ∧ x.toInt ≤ 1000000000 := by
  unfold rd_chk at h
  by_cases c : v.toInt < -1000000000 ∨ 1000000000 < v.toInt
  · rw [if_pos c] at h; cases h
  · rw [if_neg c] at h
    injection h with h
    rw [← h]; omega
theorem rd_ar_b {o : Nat} {a b x : Int64} (h : rd_ar o a b = some x) : (-1000000000 ≤ x.toInt ∧ x.toInt ≤ 1000000000) ∧ (25 ≤ o → x = 0 ∨ x = 1) := by
  have t01 : ∀ {c : Prop} {d : Decidable c}, (@ite _ c d (some (1 : Int64)) (some 0)) = some x → (-1000000000 ≤ x.toInt ∧ x.toInt ≤ 1000000000) ∧ (25 ≤ o → x = 0 ∨ x = 1) := by
    intro c d h
    by_cases q : c
    · rw [if_pos q] at h; injection h with h; rw [← h]; exact ⟨by decide, fun _ => Or.inr rfl⟩
    · rw [if_neg q] at h; injection h with h; rw [← h]; exact ⟨by decide, fun _ => Or.inl rfl⟩
  unfold rd_ar at h
  by_cases c1 : o = 20
  · rw [if_pos c1] at h; exact ⟨rd_chk_b h, fun q => by omega⟩
  · rw [if_neg c1] at h
    by_cases c2 : o = 21
    · rw [if_pos c2] at h; exact ⟨rd_chk_b h, fun q => by omega⟩
    · rw [if_neg c2] at h
      by_cases c3 : o = 22
      · rw [if_pos c3] at h; exact ⟨rd_chk_b h, fun q => by omega⟩
      · rw [if_neg c3] at h
        by_cases c4 : o = 23
        · rw [if_pos c4] at h
          by_cases q : b = 0
          · rw [if_pos q] at h; cases h
          · rw [if_neg q] at h; exact ⟨rd_chk_b h, fun q => by omega⟩
        · rw [if_neg c4] at h
          by_cases c5 : o = 24
          · rw [if_pos c5] at h
            by_cases q : b = 0
            · rw [if_pos q] at h; cases h
            · rw [if_neg q] at h; exact ⟨rd_chk_b h, fun q => by omega⟩
          · rw [if_neg c5] at h
            by_cases c6 : o = 25
            · rw [if_pos c6] at h; exact t01 h
            · rw [if_neg c6] at h
              by_cases c7 : o = 26
              · rw [if_pos c7] at h; exact t01 h
              · rw [if_neg c7] at h; exact t01 h
theorem rd_bin_b {o : Nat} {s t : Sem} {v : Nat → Nat → Int64} {x : Int64} (h : rd_bin o s t v = some x) : ∃ a b, rd_ar o a b = some x := by
  unfold rd_bin at h
  cases cs : s v with
  | none => rw [cs] at h; cases h
  | some a =>
    rw [cs] at h
    have h : (t v).bind (fun b => rd_ar o a b) = some x := h
    cases ct : t v with
    | none => rw [ct] at h; cases h
    | some b => rw [ct] at h; exact ⟨a, b, h⟩
theorem tsS.bin {o : Nat} {s t : Sem} : tsS (rd_bin o s t) := fun v _ x h => by
  obtain ⟨a, b, e⟩ := rd_bin_b h
  exact (rd_ar_b e).1
theorem tsT.bin {o : Nat} (ho : 25 ≤ o) {s t : Sem} : tsT (rd_bin o s t) := fun v x h => by
  obtain ⟨a, b, e⟩ := rd_bin_b h
  exact (rd_ar_b e).2 ho
theorem tsT.nt {s : Sem} (h : tsT s) : tsT (rd_not s) := fun v x e => by
  unfold rd_not at e
  cases cs : s v with
  | none => rw [cs] at e; cases e
  | some a =>
    rw [cs] at e
    have e : some (1 - a) = some x := e
    injection e with e
    rcases h v a cs with q | q
    · rw [← e, q]; exact Or.inr rfl
    · rw [← e, q]; exact Or.inl rfl
theorem tsT.lg {o : Nat} {s t : Sem} (hs : tsT s) (ht : tsT t) : tsT (rd_lg o s t) := fun v x e => by
  unfold rd_lg at e
  cases cs : s v with
  | none => rw [cs] at e; cases e
  | some a =>
    rw [cs] at e
    have e : (if a = (if o = 29 then 0 else 1) then some a else t v) = some x := e
    by_cases q : a = (if o = 29 then 0 else 1)
    · rw [if_pos q] at e; injection e with e; rw [← e]; exact hs v a cs
    · rw [if_neg q] at e; exact ht v x e
def OKf (P : Sem → Prop) (f : Nat → Nat → PRs) : Prop := ∀ i l, (f i l).1 = true → P (f i l).2.2.2
theorem OKf.lp {P : Sem → Prop} {part : Nat → Nat → PRs} (h : OKf P part) {sg : Nat → Nat} {j2 : Nat → Sem → Sem → Sem} (hj : ∀ o s t, P s → P t → P (j2 o s t)) : ∀ (m : Nat) (cc : Sem → Sem), (∀ s, P s → P (cc s)) → OKf P (rd_lp part sg j2 m cc) := by
  intro m
  induction m with
  | zero => intro cc _ i l q; exact absurd q (by show ¬ false = true; decide)
  | succ m ih =>
    intro cc hc i l q
    rw [lp_s] at q ⊢
    by_cases c : (part i l).1 = true
    · rw [if_pos c] at q ⊢
      by_cases c2 : sg (part i l).2.1 = 0
      · rw [if_pos c2]; exact hc _ (h i l c)
      · rw [if_neg c2] at q ⊢
        exact ih _ (fun s hs => hj _ _ _ (hc _ (h i l c)) hs) _ _ q
    · rw [if_neg c] at q; exact absurd q c
theorem OKf.part {T : Nat → Int} {ord : Bool} {sub : Option (Nat → Nat → PRs)} (h : ∀ f, sub = some f → OKf tsS f) : OKf tsS (rd_part T ord sub) := by
  intro i l q
  unfold rd_part at q ⊢
  by_cases e : T i = 191
  · rw [if_pos e] at q ⊢
    cases sub with
    | none => exact absurd q (by show ¬ false = true; decide)
    | some f =>
      have q : (if (f (i + 1) l).1 = true then (if T (f (i + 1) l).2.1 = 193 then (true, (f (i + 1) l).2.1 + 1, (f (i + 1) l).2.2.1, (f (i + 1) l).2.2.2) else rd_no (f (i + 1) l).2.1 (f (i + 1) l).2.2.1) else f (i + 1) l).1 = true := q
      show tsS (if (f (i + 1) l).1 = true then (if T (f (i + 1) l).2.1 = 193 then (true, (f (i + 1) l).2.1 + 1, (f (i + 1) l).2.2.1, (f (i + 1) l).2.2.2) else rd_no (f (i + 1) l).2.1 (f (i + 1) l).2.2.1) else f (i + 1) l).2.2.2
      by_cases c1 : (f (i + 1) l).1 = true
      · rw [if_pos c1] at q ⊢
        by_cases c2 : T (f (i + 1) l).2.1 = 193
        · rw [if_pos c2]; exact h f rfl _ _ c1
        · rw [if_neg c2] at q; exact absurd q (by show ¬ false = true; decide)
      · rw [if_neg c1] at q; exact absurd q c1
  · rw [if_neg e] at q ⊢
    by_cases c1 : 50 ≤ l
    · rw [if_pos c1] at q; exact absurd q (by show ¬ false = true; decide)
    · rw [if_neg c1] at q ⊢
      by_cases c2 : 1000 ≤ T i ∧ T i ≤ 2000
      · rw [if_pos c2]
        intro v _ x hx
        have hx : some (Int64.ofInt (T i - 1000)) = some x := hx
        injection hx with hx
        rw [← hx, Int64.toInt_ofInt_of_le (by omega) (by omega)]
        omega
      · rw [if_neg c2] at q ⊢
        have wr : ∀ o a, tsS (rd_wrd o a) := fun o a v hv x hx => by
          have hx : some (v o a) = some x := hx
          injection hx with hx
          rw [← hx]; exact hv o a
        by_cases c3 : rd_op ord (T i) = 0
        · rw [if_pos c3] at q; exact absurd q (by show ¬ false = true; decide)
        · rw [if_neg c3] at q ⊢
          by_cases c4 : rd_ch ord (T i) = 0
          · rw [if_pos c4]; exact wr _ _
          · rw [if_neg c4] at q ⊢
            by_cases c5 : 0 ≤ T (i + 1) - 1000 ∧ T (i + 1) - 1000 < rd_ch ord (T i)
            · rw [if_pos c5]; exact wr _ _
            · rw [if_neg c5] at q; exact absurd q (by show ¬ false = true; decide)
theorem OKf.sum {T : Nat → Int} {part : Nat → Nat → PRs} (h : OKf tsS part) : OKf tsS (rd_sum T part) := by
  unfold rd_sum
  exact OKf.lp (OKf.lp h (fun o s t _ _ => tsS.bin) 400 id (fun s hs => hs)) (fun o s t _ _ => tsS.bin) 400 id (fun s hs => hs)
theorem OKf.sumL {T : Nat → Int} {ord : Bool} : ∀ d, OKf tsS (rd_sumL T ord d) := by
  intro d
  induction d with
  | zero => exact OKf.sum (OKf.part (fun f e => by cases e))
  | succ d ih => exact OKf.sum (OKf.part (fun f e => by injection e with e; rw [← e]; exact ih))
theorem OKf.plain {T : Nat → Int} {sum : Nat → Nat → PRs} {sub : Option (Nat → Nat → PRs)} (h : ∀ f, sub = some f → OKf tsT f) : OKf tsT (rd_plain T sum sub) := by
  intro i l q
  have q : (rd_plain0 T sum sub (rd_nots T 400 i) l).1 = true := q
  show tsT (rd_par (rd_nots T 400 i - i) (rd_plain0 T sum sub (rd_nots T 400 i) l).2.2.2)
  have key : tsT (rd_plain0 T sum sub (rd_nots T 400 i) l).2.2.2 := by
    generalize rd_nots T 400 i = j at q ⊢
    unfold rd_plain0 at q ⊢
    by_cases e : T j = 140
    · rw [if_pos e] at q ⊢
      cases sub with
      | none => exact absurd q (by show ¬ false = true; decide)
      | some f =>
        have q : (if (f (j + 1) l).1 = true then (if T (f (j + 1) l).2.1 = 141 then (true, (f (j + 1) l).2.1 + 1, (f (j + 1) l).2.2.1, (f (j + 1) l).2.2.2) else rd_no (f (j + 1) l).2.1 (f (j + 1) l).2.2.1) else f (j + 1) l).1 = true := q
        show tsT (if (f (j + 1) l).1 = true then (if T (f (j + 1) l).2.1 = 141 then (true, (f (j + 1) l).2.1 + 1, (f (j + 1) l).2.2.1, (f (j + 1) l).2.2.2) else rd_no (f (j + 1) l).2.1 (f (j + 1) l).2.2.1) else f (j + 1) l).2.2.2
        by_cases c1 : (f (j + 1) l).1 = true
        · rw [if_pos c1] at q ⊢
          by_cases c2 : T (f (j + 1) l).2.1 = 141
          · rw [if_pos c2]; exact h f rfl _ _ c1
          · rw [if_neg c2] at q; exact absurd q (by show ¬ false = true; decide)
        · rw [if_neg c1] at q; exact absurd q c1
    · rw [if_neg e] at q ⊢
      by_cases c1 : (sum j l).1 = true
      · rw [if_pos c1] at q ⊢
        by_cases c2 : rd_cp (T (sum j l).2.1) = 0
        · rw [if_pos c2] at q; exact absurd q (by show ¬ false = true; decide)
        · rw [if_neg c2] at q ⊢
          by_cases c3 : (sum ((sum j l).2.1 + 1) (sum j l).2.2.1).1 = true
          · rw [if_pos c3]; exact tsT.bin (cp_b c2).1
          · rw [if_neg c3] at q; exact absurd q c3
      · rw [if_neg c1] at q; exact absurd q c1
  unfold rd_par
  by_cases c : (rd_nots T 400 i - i) % 2 = 1
  · rw [if_pos c]; exact key.nt
  · rw [if_neg c]; exact key
theorem OKf.test {T : Nat → Int} {plain : Nat → Nat → PRs} (h : OKf tsT plain) : OKf tsT (rd_test T plain) := by
  unfold rd_test
  exact OKf.lp (OKf.lp h (fun o s t a b => tsT.lg a b) 400 id (fun s hs => hs)) (fun o s t a b => tsT.lg a b) 400 id (fun s hs => hs)
theorem OKf.testL {T : Nat → Int} {ord : Bool} : ∀ d, OKf tsT (rd_testL T ord d) := by
  intro d
  induction d with
  | zero => exact OKf.test (OKf.plain (fun f e => by cases e))
  | succ d ih => exact OKf.test (OKf.plain (fun f e => by injection e with e; rw [← e]; exact ih))
