/-! no more than 50 PARTS -/
def OLf (f : Nat → Nat → PRs) : Prop := ∀ i l, (f i l).1 = true → l ≤ 50 → (f i l).2.2.1 ≤ 50
theorem OLf.lp {part : Nat → Nat → PRs} (h : OLf part) {sg : Nat → Nat} {j2 : Nat → Sem → Sem → Sem} : ∀ (m : Nat) (cc : Sem → Sem), OLf (rd_lp part sg j2 m cc) := by
  intro m
  induction m with
  | zero => intro cc i l q; exact absurd q (by show ¬ false = true; decide)
  | succ m ih =>
    intro cc i l q hl
    rw [lp_s] at q ⊢
    by_cases c : (part i l).1 = true
    · rw [if_pos c] at q ⊢
      have := h i l c hl
      by_cases c2 : sg (part i l).2.1 = 0
      · rw [if_pos c2]; exact this
      · rw [if_neg c2] at q ⊢
        exact ih _ _ _ q this
    · rw [if_neg c] at q; exact absurd q c
theorem OLf.part {T : Nat → Int} {ord : Bool} {sub : Option (Nat → Nat → PRs)} (h : ∀ f, sub = some f → OLf f) : OLf (rd_part T ord sub) := by
  intro i l q hl
  by_cases e : T i = 191
  · unfold rd_part at q ⊢
    rw [if_pos e] at q ⊢
    cases sub with
    | none => exact absurd q (by show ¬ false = true; decide)
    | some f =>
      have q : (if (f (i + 1) l).1 = true then (if T (f (i + 1) l).2.1 = 193 then (true, (f (i + 1) l).2.1 + 1, (f (i + 1) l).2.2.1, (f (i + 1) l).2.2.2) else rd_no (f (i + 1) l).2.1 (f (i + 1) l).2.2.1) else f (i + 1) l).1 = true := q
      show (if (f (i + 1) l).1 = true then (if T (f (i + 1) l).2.1 = 193 then (true, (f (i + 1) l).2.1 + 1, (f (i + 1) l).2.2.1, (f (i + 1) l).2.2.2) else rd_no (f (i + 1) l).2.1 (f (i + 1) l).2.2.1) else f (i + 1) l).2.2.1 ≤ 50
      by_cases c1 : (f (i + 1) l).1 = true
      · rw [if_pos c1] at q ⊢
        by_cases c2 : T (f (i + 1) l).2.1 = 193
        · rw [if_pos c2]; exact h f rfl _ _ c1 hl
        · rw [if_neg c2] at q; exact absurd q (by show ¬ false = true; decide)
      · rw [if_neg c1] at q; exact absurd q c1
  · rw [rd_part_n e] at q ⊢
    obtain ⟨_, q2, _⟩ := rd_part_ok e q
    rw [q2]
    unfold rd_part at q
    rw [if_neg e] at q
    by_cases c1 : 50 ≤ l
    · rw [if_pos c1] at q; exact absurd q (by show ¬ false = true; decide)
    · omega
theorem OLf.sum {T : Nat → Int} {part : Nat → Nat → PRs} (h : OLf part) : OLf (rd_sum T part) := by
  unfold rd_sum
  exact OLf.lp (OLf.lp h 400 id) 400 id
theorem OLf.sumL {T : Nat → Int} {ord : Bool} : ∀ d, OLf (rd_sumL T ord d) := by
  intro d
  induction d with
  | zero => exact OLf.sum (OLf.part (fun f e => by cases e))
  | succ d ih => exact OLf.sum (OLf.part (fun f e => by injection e with e; rw [← e]; exact ih))
theorem OLf.plain {T : Nat → Int} {sum : Nat → Nat → PRs} {sub : Option (Nat → Nat → PRs)} (hs : OLf sum) (h : ∀ f, sub = some f → OLf f) : OLf (rd_plain T sum sub) := by
  intro i l q hl
  have q : (rd_plain0 T sum sub (rd_nots T 400 i) l).1 = true := q
  show (rd_plain0 T sum sub (rd_nots T 400 i) l).2.2.1 ≤ 50
  generalize rd_nots T 400 i = j at q ⊢
  unfold rd_plain0 at q ⊢
  by_cases e : T j = 140
  · rw [if_pos e] at q ⊢
    cases sub with
    | none => exact absurd q (by show ¬ false = true; decide)
    | some f =>
      have q : (if (f (j + 1) l).1 = true then (if T (f (j + 1) l).2.1 = 141 then (true, (f (j + 1) l).2.1 + 1, (f (j + 1) l).2.2.1, (f (j + 1) l).2.2.2) else rd_no (f (j + 1) l).2.1 (f (j + 1) l).2.2.1) else f (j + 1) l).1 = true := q
      show (if (f (j + 1) l).1 = true then (if T (f (j + 1) l).2.1 = 141 then (true, (f (j + 1) l).2.1 + 1, (f (j + 1) l).2.2.1, (f (j + 1) l).2.2.2) else rd_no (f (j + 1) l).2.1 (f (j + 1) l).2.2.1) else f (j + 1) l).2.2.1 ≤ 50
      by_cases c1 : (f (j + 1) l).1 = true
      · rw [if_pos c1] at q ⊢
        by_cases c2 : T (f (j + 1) l).2.1 = 141
        · rw [if_pos c2]; exact h f rfl _ _ c1 hl
        · rw [if_neg c2] at q; exact absurd q (by show ¬ false = true; decide)
      · rw [if_neg c1] at q; exact absurd q c1
  · rw [if_neg e] at q ⊢
    by_cases c1 : (sum j l).1 = true
    · rw [if_pos c1] at q ⊢
      have s1 := hs j l c1 hl
      by_cases c2 : rd_cp (T (sum j l).2.1) = 0
      · rw [if_pos c2] at q; exact absurd q (by show ¬ false = true; decide)
      · rw [if_neg c2] at q ⊢
        by_cases c3 : (sum ((sum j l).2.1 + 1) (sum j l).2.2.1).1 = true
        · rw [if_pos c3]; exact hs _ _ c3 s1
        · rw [if_neg c3] at q; exact absurd q c3
    · rw [if_neg c1] at q; exact absurd q c1
theorem OLf.test {T : Nat → Int} {plain : Nat → Nat → PRs} (h : OLf plain) : OLf (rd_test T plain) := by
  unfold rd_test
  exact OLf.lp (OLf.lp h 400 id) 400 id
theorem OLf.testL {T : Nat → Int} {ord : Bool} : ∀ d, OLf (rd_testL T ord d) := by
  intro d
  induction d with
  | zero => exact OLf.test (OLf.plain (OLf.sumL 0) (fun f e => by cases e))
  | succ d ih => exact OLf.test (OLf.plain (OLf.sumL (d + 1)) (fun f e => by injection e with e; rw [← e]; exact ih))
def OLc (f : Nat → Nat → PRc) : Prop := ∀ i l, (f i l).1 = true → l ≤ 50 → (f i l).2.2.1 ≤ 50
theorem OLc.if {T : Nat → Int} {ord : Bool} {h m : Nat} {s t : Option Sem} : OLc (rd_if T ord h s t m) := by
  intro i l z hl
  unfold rd_if at z ⊢
  by_cases q5 : T i = 5
  · rw [if_pos q5] at z ⊢
    by_cases q6 : (rd_testL T ord 8 (i + 1) l).1 = true
    · rw [if_pos q6]; exact OLf.testL 8 (i + 1) l q6 hl
    · rw [if_neg q6] at z; exact absurd z (by show ¬ false = true; decide)
  · rw [if_neg q5]; exact hl
theorem OLc.rule {T : Nat → Int} : OLc (rd_rule T) := by
  intro i l z hl
  unfold rd_rule at z ⊢
  by_cases q : 0 ≤ T i ∧ T i ≤ 4
  · rw [if_pos q] at z ⊢
    by_cases q4 : T i = 4
    · rw [if_pos q4] at z ⊢; exact OLc.if _ _ z hl
    · rw [if_neg q4] at z ⊢
      by_cases q6 : (rd_sumL T false 8 (i + 1) l).1 = true
      · rw [if_pos q6] at z ⊢; exact OLc.if _ _ z (OLf.sumL 8 (i + 1) l q6 hl)
      · rw [if_neg q6] at z; exact absurd z (by show ¬ false = true; decide)
  · rw [if_neg q] at z; exact absurd z (by show ¬ false = true; decide)
theorem OLc.tms {T : Nat → Int} {h : Nat} {s t : Option Sem} : OLc (rd_tms T h s t) := by
  intro i l z hl
  unfold rd_tms at z ⊢
  by_cases q : T i = 24
  · rw [if_pos q] at z ⊢
    by_cases q2 : 1 ≤ T (i + 1) - 1000 ∧ T (i + 1) - 1000 ≤ 20
    · rw [if_pos q2] at z ⊢; exact OLc.if _ _ z hl
    · rw [if_neg q2] at z; exact absurd z (by show ¬ false = true; decide)
  · rw [if_neg q] at z ⊢; exact OLc.if _ _ z hl
theorem OLc.order {T : Nat → Int} : OLc (rd_order T) := by
  intro i l z hl
  obtain ⟨S1, eS1⟩ : ∃ S1, rd_sumL T true 8 (i + 1) l = S1 := ⟨_, rfl⟩
  have b1 : S1.1 = true → S1.2.2.1 ≤ 50 := fun q => by rw [← eS1] at q ⊢; exact OLf.sumL 8 (i + 1) l q hl
  unfold rd_order at z ⊢
  rw [eS1] at z ⊢
  by_cases q0 : rd_act (T i) = 0
  · rw [if_pos q0] at z; exact absurd z (by show ¬ false = true; decide)
  · rw [if_neg q0] at z ⊢
    by_cases q1 : S1.1 = true
    · rw [if_pos q1] at z ⊢
      by_cases q2 : rd_act (T i) = 1 ∨ rd_act (T i) = 4
      · rw [if_pos q2] at z ⊢
        by_cases q3 : T S1.2.1 = (if rd_act (T i) = 1 then 19 else 23)
        · rw [if_pos q3] at z ⊢
          by_cases q4 : (rd_sumL T true 8 (S1.2.1 + 1) S1.2.2.1).1 = true
          · rw [if_pos q4] at z ⊢; exact OLc.tms _ _ z (OLf.sumL 8 (S1.2.1 + 1) S1.2.2.1 q4 (b1 q1))
          · rw [if_neg q4] at z; exact absurd z (by show ¬ false = true; decide)
        · rw [if_neg q3] at z; exact absurd z (by show ¬ false = true; decide)
      · rw [if_neg q2] at z ⊢; exact OLc.tms _ _ z (b1 q1)
    · rw [if_neg q1] at z; exact absurd z (by show ¬ false = true; decide)
