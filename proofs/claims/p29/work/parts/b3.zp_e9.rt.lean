/-! the reference's reader: SUMS, TESTS -/
variable {tp : Nat → Int32} {n : Nat} {st en : Nat → Nat} {T : Nat → Int} {s0 : Nat} {o0 a0 : Nat → Int32} {taped a ordered fl : Int32} {words oW : Nat → Int64} {ord : Bool} {Qb : Kt} {L : Nat → Kt}
theorem bd32 : bdN 32 = 0 := by decide
theorem HF.part (hL : Lex tp n st en T) {sub : Option (Nat → Nat → PRs)} (h : ∀ f, sub = some f → HF st T f) : HF st T (rd_part T ord sub) := by
  intro i l
  refine ⟨fun q => rd_part_31 q, fun q => ?_⟩
  by_cases e : T i = 191
  · unfold rd_part at q ⊢
    rw [if_pos e] at q ⊢
    cases sub with
    | none => exact absurd q (by show ¬ false = true; decide)
    | some f =>
      have hX := hL.nx (i := i) (by omega)
      obtain ⟨_, g⟩ := h f rfl (i + 1) l
      show l + 1 ≤ (if (f (i + 1) l).1 = true then (if T (f (i + 1) l).2.1 = 193 then (true, (f (i + 1) l).2.1 + 1, (f (i + 1) l).2.2.1, (f (i + 1) l).2.2.2) else rd_no (f (i + 1) l).2.1 (f (i + 1) l).2.2.1) else f (i + 1) l).2.2.1 ∧ st i + 1 ≤ st (if (f (i + 1) l).1 = true then (if T (f (i + 1) l).2.1 = 193 then (true, (f (i + 1) l).2.1 + 1, (f (i + 1) l).2.2.1, (f (i + 1) l).2.2.2) else rd_no (f (i + 1) l).2.1 (f (i + 1) l).2.2.1) else f (i + 1) l).2.1
      have q : (if (f (i + 1) l).1 = true then (if T (f (i + 1) l).2.1 = 193 then (true, (f (i + 1) l).2.1 + 1, (f (i + 1) l).2.2.1, (f (i + 1) l).2.2.2) else rd_no (f (i + 1) l).2.1 (f (i + 1) l).2.2.1) else f (i + 1) l).1 = true := q
      by_cases c1 : (f (i + 1) l).1 = true
      · rw [if_pos c1] at q ⊢
        obtain ⟨g1, g2⟩ := g c1
        by_cases c2 : T (f (i + 1) l).2.1 = 193
        · rw [if_pos c2]
          have hX2 := hL.nx (i := (f (i + 1) l).2.1) (by omega)
          exact ⟨g1, by show st i + 1 ≤ st ((f (i + 1) l).2.1 + 1); omega⟩
        · rw [if_neg c2] at q; exact absurd q (by show ¬ false = true; decide)
      · rw [if_neg c1] at q; exact absurd q c1
  · rw [rd_part_n e] at q ⊢
    obtain ⟨q1, q2, q3⟩ := rd_part_ok e q
    have x1 := hL.nx q1
    refine ⟨by omega, ?_⟩
    rcases q3 with q3 | ⟨q3, q4⟩
    · rw [q3]; exact x1
    · have x2 : st (i + 1) + 1 ≤ st (i + 2) := hL.nx q4
      rw [q3]; omega
/-- no sign between PARTS goes on -/
def Esg (T : Nat → Int) (j : Nat) : Prop := (True ∧ rd_tm (T j) = 0) ∧ rd_ad (T j) = 0
theorem Esg.z {j : Nat} (h : Esg T j) : sgN (T j) = 0 := by
  unfold sgN; rw [if_pos h.1.2]; exact h.2
theorem HP.part (hLP : LPs a taped ordered tp words oW Qb L) (hL : Lex tp n st en T) (hn : taped.toInt = (n : Int)) (h4 : n ≤ 400) (hW : hasW words oW) (ho : (ordered = 0 ∧ ord = false) ∨ (ordered = 1 ∧ ord = true)) {d : Nat} {sub : Option (Nat → Nat → PRs)} (hd : (sub = none ∧ d = 8) ∨ ∃ f, sub = some f ∧ d < 8 ∧ HP st en T s0 o0 a0 fl L 5 (d + 1) (Esg T) f) : HP st en T s0 o0 a0 fl L 7 d (fun _ => True) (rd_part T ord sub) := by
  intro tu i l c P K ht hl hok hbd
  refine A_part hLP hL hn h4 hW ho ht (by rcases hd with ⟨_, e⟩ | ⟨_, _, e, _⟩ <;> omega) (fun e d8 => ?_) (fun e d8 => ?_) (fun e k => ?_) (fun e k => ?_)
  · rcases hd with ⟨_, e8⟩ | ⟨f, ef, _, hf⟩
    · omega
    · subst ef
      have eP : rd_part T ord (some f) i l = if (f (i + 1) l).1 = true then (if T (f (i + 1) l).2.1 = 193 then (true, (f (i + 1) l).2.1 + 1, (f (i + 1) l).2.2.1, (f (i + 1) l).2.2.2) else rd_no (f (i + 1) l).2.1 (f (i + 1) l).2.2.1) else f (i + 1) l := by
        unfold rd_part; rw [if_pos e]
      rw [eP] at hok hbd
      refine hf 1 (i + 1) l c ((32, 0) :: P) K (Or.inl rfl) (by show bdN 32 < 5; decide) (fun z c' P' K' e1 e2 e3 => ?_) (fun z => ?_)
      · rw [if_pos z] at hok hbd
        have i32 : inn P' = 32 := e2.1
        have s0z := Esg.z e3
        refine A_sum hLP hL hn h4 (fun w => absurd s0z w) (fun _ _ t93 => ⟨by omega, 0, P, _, e1, fun c2 => ?_⟩) (fun _ _ t93 => ?_) (fun _ w => by omega) (fun _ w => absurd i32 w) (fun _ w => absurd i32 w) (fun _ w => absurd i32 w)
        · rw [if_pos t93] at hok
          exact hok rfl c2 P _ (hl.sl _) ⟨rfl, rfl⟩ True.intro
        · rw [if_neg t93] at hbd
          exact hbd (by show ¬ false = true; decide)
      · rw [if_neg z] at hbd
        exact hbd z
  · rcases hd with ⟨en, e8⟩ | ⟨f, ef, e8, hf⟩
    · subst en
      have eP : rd_part T ord none i l = rd_no i l := by
        unfold rd_part; rw [if_pos e]
      rw [eP] at hbd
      exact hbd (by show ¬ false = true; decide)
    · omega
  · rw [rd_part_n e] at hok
    obtain ⟨_, q2, _⟩ := rd_part_ok e k
    have g := hok k
    rw [q2, Nat.add_sub_cancel_left] at g
    exact g (c + 1) P _ (hl.sl _) ⟨rfl, rfl⟩ True.intro
  · rw [rd_part_n e] at hbd
    exact hbd k
theorem tm_sg {j : Nat} (h : ¬ rd_tm (T j) = 0) : sgN (T j) = rd_tm (T j) ∧ bdN (rd_tm (T j)) = 6 ∧ rd_tm (T j) ≤ 24 := by
  refine ⟨by unfold sgN; rw [if_neg h], ?_⟩
  unfold rd_tm at h ⊢
  by_cases c1 : T j = 142
  · rw [if_pos c1]; decide
  · rw [if_neg c1] at h ⊢
    by_cases c2 : T j = 147
    · rw [if_pos c2]; decide
    · rw [if_neg c2] at h ⊢
      by_cases c3 : T j = 137
      · rw [if_pos c3]; decide
      · rw [if_neg c3] at h; exact absurd rfl h
theorem ad_sg {j : Nat} (h0 : rd_tm (T j) = 0) (h : ¬ rd_ad (T j) = 0) : sgN (T j) = rd_ad (T j) ∧ bdN (rd_ad (T j)) = 5 ∧ rd_ad (T j) ≤ 24 := by
  refine ⟨by unfold sgN; rw [if_pos h0], ?_⟩
  unfold rd_ad at h ⊢
  by_cases c1 : T j = 143
  · rw [if_pos c1]; decide
  · rw [if_neg c1] at h ⊢
    by_cases c2 : T j = 145
    · rw [if_pos c2]; decide
    · rw [if_neg c2] at h; exact absurd rfl h
theorem HF.sum (hL : Lex tp n st en T) {part : Nat → Nat → PRs} (h : HF st T part) : HF st T (rd_sum T part) := by
  intro i l
  unfold rd_sum
  exact HF.lp hL (fun i l => HF.lp hL h (fun j z => by show rd_tm (T j) = 0; rw [z]; decide) 400 id i l) (fun j z => by show rd_ad (T j) = 0; rw [z]; decide) 400 id i l
theorem HF.sumL (hL : Lex tp n st en T) : ∀ d, HF st T (rd_sumL T ord d) := by
  intro d
  induction d with
  | zero => exact HF.sum hL (HF.part hL (fun f e => by cases e))
  | succ d ih => exact HF.sum hL (HF.part hL (fun f e => by injection e with e; rw [← e]; exact ih))
theorem HP.sum (hLP : LPs a taped ordered tp words oW Qb L) (hL : Lex tp n st en T) (hn : taped.toInt = (n : Int)) (h4 : n ≤ 400) {d : Nat} {part : Nat → Nat → PRs} (hF : HF st T part) (hP : HP st en T s0 o0 a0 fl L 7 d (fun _ => True) part) : HP st en T s0 o0 a0 fl L 5 d (Esg T) (rd_sum T part) :=
  HP.lp hLP hL hn h4 (b := 5) (by omega) (E := fun j => True ∧ rd_tm (T j) = 0) (sg := fun j => rd_ad (T j)) (fun j z => by show rd_ad (T j) = 0; rw [z]; decide) (fun j e k => ad_sg e.2 k) (fun i l => HF.lp hL hF (fun j z => by show rd_tm (T j) = 0; rw [z]; decide) 400 id i l)
    (HP.lp hLP hL hn h4 (b := 6) (by omega) (E := fun _ => True) (sg := fun j => rd_tm (T j)) (fun j z => by show rd_tm (T j) = 0; rw [z]; decide) (fun j _ k => tm_sg k) hF hP)
theorem HP.sumL (hLP : LPs a taped ordered tp words oW Qb L) (hL : Lex tp n st en T) (hn : taped.toInt = (n : Int)) (h4 : n ≤ 400) (hW : hasW words oW) (ho : (ordered = 0 ∧ ord = false) ∨ (ordered = 1 ∧ ord = true)) : ∀ e d, e + d = 8 → HP st en T s0 o0 a0 fl L 5 d (Esg T) (rd_sumL T ord e) := by
  intro e
  induction e with
  | zero =>
    intro d hd
    exact HP.sum hLP hL hn h4 (HF.part hL (fun f e => by cases e)) (HP.part hLP hL hn h4 hW ho (Or.inl ⟨rfl, by omega⟩))
  | succ e ih =>
    intro d hd
    exact HP.sum hLP hL hn h4 (HF.part hL (fun f q => by injection q with q; rw [← q]; exact HF.sumL hL e)) (HP.part hLP hL hn h4 hW ho (Or.inr ⟨_, rfl, by omega, ih (d + 1) (by omega)⟩))
/-- one that reads a piece of a TEST -/
def HT (st en : Nat → Nat) (T : Nat → Int) (s0 : Nat) (o0 a0 : Nat → Int32) (fl : Int32) (L : Nat → Kt) (b d : Nat) (E : Nat → Prop) (f : Nat → Nat → PRs) : Prop :=
  ∀ (i l c : Nat) (P : List (Nat × Nat)) (K : List Itm), Low b P → ¬ inn P = 32 → cmpd P = false →
    ((f i l).1 = true → ∀ (c' : Nat) (P' : List (Nat × Nat)) (K' : List Itm), stl b P' K' = (P, some ((none, c, (f i l).2.2.1 - l, (f i l).2.2.2) :: K)) → inn P' = inn P → E (f i l).2.1 → OkA st en T s0 o0 a0 fl L 2 (f i l).2.1 (f i l).2.2.1 d c' P' K') →
    (¬ (f i l).1 = true → BdA st L (f i l).2.1) → OkA st en T s0 o0 a0 fl L 0 i l d c P K
/-- PLAINS with "and", with "or" between them -/
theorem HT.lp (hLP : LPs a taped ordered tp words oW Qb L) (hL : Lex tp n st en T) (hn : taped.toInt = (n : Int)) (h4 : n ≤ 400) {b d o : Nat} {w : Int} (hbo : (b = 2 ∧ o = 29 ∧ w = 7) ∨ (b = 1 ∧ o = 30 ∧ w = 6)) {E : Nat → Prop} {part : Nat → Nat → PRs} (hF : HF st T part) (hP : HT st en T s0 o0 a0 fl L (b + 1) d E part) : HT st en T s0 o0 a0 fl L b d (fun j => E j ∧ ¬ T j = w) (rd_lp part (fun j => if T j = w then o else 0) rd_lg 400 id) := by
  have hs : ∀ j, T j = 31 → (if T j = w then o else 0) = 0 := fun j z => by rw [if_neg (by omega)]
  have bo : bdN o = b := by
    rcases hbo with ⟨rfl, rfl, _⟩ | ⟨rfl, rfl, _⟩
    · decide
    · decide
  have main : ∀ (m i l c q k0 : Nat) (P0 P1 : List (Nat × Nat)) (K0 K1 : List Itm) (cc : Sem → Sem), n ≤ st i + m → Low b P0 → Low (b + 1) P1 → ¬ inn P0 = 32 → inn P1 = inn P0 → cmpd P1 = false → (∀ kv v, stl b P1 ((none, c, kv, v) :: K1) = (P0, some ((none, q, k0 + kv, cc v) :: K0))) →
      ((rd_lp part (fun j => if T j = w then o else 0) rd_lg m cc i l).1 = true → ∀ (c' : Nat) (P' : List (Nat × Nat)) (K' : List Itm), stl b P' K' = (P0, some ((none, q, k0 + ((rd_lp part (fun j => if T j = w then o else 0) rd_lg m cc i l).2.2.1 - l), (rd_lp part (fun j => if T j = w then o else 0) rd_lg m cc i l).2.2.2) :: K0)) → inn P' = inn P0 → (E (rd_lp part (fun j => if T j = w then o else 0) rd_lg m cc i l).2.1 ∧ ¬ T (rd_lp part (fun j => if T j = w then o else 0) rd_lg m cc i l).2.1 = w) → OkA st en T s0 o0 a0 fl L 2 (rd_lp part (fun j => if T j = w then o else 0) rd_lg m cc i l).2.1 (rd_lp part (fun j => if T j = w then o else 0) rd_lg m cc i l).2.2.1 d c' P' K') →
      (¬ (rd_lp part (fun j => if T j = w then o else 0) rd_lg m cc i l).1 = true → BdA st L (rd_lp part (fun j => if T j = w then o else 0) rd_lg m cc i l).2.1) → OkA st en T s0 o0 a0 fl L 0 i l d c P1 K1 := by
    intro m
    induction m with
    | zero =>
      intro i l c q k0 P0 P1 K0 K1 cc hm hl0 hl1 hi0 hi1 hc1 hst hok hbd
      have e31 := t31 hL (i := i) (by omega)
      obtain ⟨k1, k2⟩ := (hF i l).1 e31
      refine hP i l c P1 K1 hl1 (by omega) hc1 (fun z => absurd z (by rw [k1]; decide)) (fun _ => ?_)
      rw [k2]
      exact hbd (by show ¬ false = true; decide)
    | succ m ih =>
      intro i l c q k0 P0 P1 K0 K1 cc hm hl0 hl1 hi0 hi1 hc1 hst hok hbd
      rw [lp_s] at hok hbd
      obtain ⟨g1, g2⟩ := hF i l
      refine hP i l c P1 K1 hl1 (by omega) hc1 (fun z c' P' K' e1 e2 e3 => ?_) (fun z => ?_)
      · rw [if_pos z] at hok hbd
        obtain ⟨k1, k2⟩ := g2 z
        have e4 : stl b P' K' = (P0, some ((none, q, k0 + ((part i l).2.2.1 - l), cc (part i l).2.2.2) :: K0)) := by
          rw [stl_stl (Nat.le_succ b) e1]; exact hst _ _
        by_cases cw : T (part i l).2.1 = w
        · have cs : ¬ (if T (part i l).2.1 = w then o else 0) = 0 := by rw [if_pos cw]; omega
          have eo : (if T (part i l).2.1 = w then o else 0) = o := if_pos cw
          rw [if_neg cs, eo] at hok hbd
          have hX := hL.nx (i := (part i l).2.1) (by omega)
          have go : ∀ c2, OkA st en T s0 o0 a0 fl L 0 ((part i l).2.1 + 1) (part i l).2.2.1 d (c2 + 1) ((o, c2) :: P0) ((some (o, c2), q, k0 + ((part i l).2.2.1 - l), cc (part i l).2.2.2) :: K0) := fun c2 => by
            refine ih ((part i l).2.1 + 1) (part i l).2.2.1 (c2 + 1) q (k0 + ((part i l).2.2.1 - l)) P0 _ K0 _ _ (by omega) hl0 (by show bdN o < b + 1; omega) hi0 ?_ ?_ (fun kv v => ?_) (fun z2 c3 P3 K3 f1 f2 f3 => ?_) hbd
            · show (if 31 ≤ o then o else inn P0) = inn P0
              rw [if_neg (by omega)]
            · show (if o ≤ 24 then cmpd P0 else decide (25 ≤ o ∧ o ≤ 27)) = false
              rw [if_neg (by omega)]
              exact decide_eq_false (by omega)
            · rw [stl_cb (by omega) (K1 := (none, q, k0 + ((part i l).2.2.1 - l) + kv, rd_lg o (cc (part i l).2.2.2) v) :: K0) ?_]
              · exact hl0.sl _
              · unfold cmb; rw [if_neg (by omega), if_neg (by omega)]
                show (if o = o ∧ c2 = c2 then _ else none) = _
                rw [if_pos ⟨rfl, rfl⟩]
            · obtain ⟨_, k3⟩ := HF.lp hL hF hs (j2 := rd_lg) m (rd_lg o (cc (part i l).2.2.2)) ((part i l).2.1 + 1) (part i l).2.2.1
              obtain ⟨k4, k5⟩ := k3 z2
              refine hok z2 c3 P3 K3 ?_ f2 f3
              rw [f1]
              have ek : k0 + ((part i l).2.2.1 - l) + ((rd_lp part (fun j => if T j = w then o else 0) rd_lg m (rd_lg o (cc (part i l).2.2.2)) ((part i l).2.1 + 1) (part i l).2.2.1).2.2.1 - (part i l).2.2.1) = k0 + ((rd_lp part (fun j => if T j = w then o else 0) rd_lg m (rd_lg o (cc (part i l).2.2.2)) ((part i l).2.1 + 1) (part i l).2.2.1).2.2.1 - l) := by omega
              rw [ek]
          rcases hbo with ⟨rfl, rfl, rfl⟩ | ⟨rfl, rfl, rfl⟩
          · exact A_test hLP hL hn h4 (fun _ => ⟨P0, q, _, _, K0, e4, go⟩) (fun w => by omega) (fun w => by omega) (fun _ w => by omega) (fun w => by omega)
          · exact A_test hLP hL hn h4 (fun w => by omega) (fun _ => ⟨P0, q, _, _, K0, e4, go⟩) (fun _ w => by omega) (fun _ w => by omega) (fun _ w => by omega)
        · rw [if_pos (by rw [if_neg cw])] at hok
          exact hok rfl c' P' K' e4 (e2.trans hi1) ⟨e3, cw⟩
      · rw [if_neg z] at hbd
        exact hbd z
  intro i l c P K hl hi hc hok hbd
  refine main 400 i l c c 0 P P K K id (by omega) hl (hl.mo (Nat.le_succ b)) hi rfl hc (fun kv v => ?_) (fun z c' P' K' f1 f2 f3 => hok z c' P' K' ?_ f2 f3) hbd
  · rw [Nat.zero_add]; exact hl.sl _
  · rw [Nat.zero_add] at f1; exact f1
/-- so many "not"s on the pile -/
def ntP (k : Nat) (P : List (Nat × Nat)) : List (Nat × Nat) := List.replicate k (28, 0) ++ P
def ntS : Nat → Sem → Sem
  | 0, s => s
  | k + 1, s => ntS k (rd_not s)
theorem ntS_par : ∀ k s, ntS k s = rd_par k s := by
  intro k
  induction k with
  | zero => intro s; unfold rd_par; rw [if_neg (by decide)]; rfl
  | succ k ih =>
    intro s
    show ntS k (rd_not s) = _
    rw [ih]
    unfold rd_par
    by_cases c : k % 2 = 1
    · rw [if_pos c, if_neg (by omega), rd_not2]
    · rw [if_neg c, if_pos (by omega)]
theorem stl_nt {b : Nat} (hb : b ≤ 3) {P : List (Nat × Nat)} {K : List Itm} {q kv : Nat} : ∀ (k : Nat) (s : Sem), Low b P → stl b (ntP k P) ((none, q, kv, s) :: K) = (P, some ((none, q, kv, ntS k s) :: K)) := by
  intro k
  induction k with
  | zero => intro s hl; exact hl.sl _
  | succ k ih =>
    intro s hl
    have e : ntP (k + 1) P = (28, 0) :: ntP k P := rfl
    rw [e, stl_cb (by have : bdN 28 = 3 := by decide
                      omega) (K1 := (none, q, kv, rd_not s) :: K) rfl]
    exact ih (rd_not s) hl
theorem ntP_inn {P : List (Nat × Nat)} : ∀ k, inn (ntP k P) = inn P := by
  intro k
  induction k with
  | zero => rfl
  | succ k ih => exact ih
theorem ntP_cmp {P : List (Nat × Nat)} (h : cmpd P = false) : ∀ k, cmpd (ntP k P) = false := by
  intro k
  cases k with
  | zero => exact h
  | succ k => rfl
theorem ntP_low {P : List (Nat × Nat)} {b : Nat} (h : Low b P) (hb : 4 ≤ b) : ∀ k, Low b (ntP k P) := by
  intro k
  cases k with
  | zero => exact h
  | succ k =>
    show bdN 28 < b
    have : bdN 28 = 3 := by decide
    omega
theorem rd_nots_le : ∀ m i, i ≤ rd_nots T m i := by
  intro m
  induction m with
  | zero => intro i; exact Nat.le_refl _
  | succ m ih =>
    intro i
    show i ≤ if T i = 8 then rd_nots T m (i + 1) else i
    by_cases c : T i = 8
    · rw [if_pos c]; have := ih (i + 1); omega
    · rw [if_neg c]; exact Nat.le_refl _
theorem rd_nots_st (hL : Lex tp n st en T) : ∀ m i, st i ≤ st (rd_nots T m i) ∧ (n ≤ st i + m → ¬ T (rd_nots T m i) = 8) := by
  intro m
  induction m with
  | zero =>
    intro i
    refine ⟨Nat.le_refl _, fun q => ?_⟩
    have := t31 hL (i := i) (by omega)
    show ¬ T i = 8
    omega
  | succ m ih =>
    intro i
    have e : rd_nots T (m + 1) i = if T i = 8 then rd_nots T m (i + 1) else i := rfl
    rw [e]
    by_cases c : T i = 8
    · rw [if_pos c]
      have hX := hL.nx (i := i) (by omega)
      obtain ⟨g1, g2⟩ := ih (i + 1)
      exact ⟨by omega, fun q => g2 (by omega)⟩
    · rw [if_neg c]; exact ⟨Nat.le_refl _, fun _ => c⟩
theorem HF.plain0 (hL : Lex tp n st en T) {sum : Nat → Nat → PRs} {sub : Option (Nat → Nat → PRs)} (hs : HF st T sum) (h : ∀ f, sub = some f → HF st T f) : HF st T (rd_plain0 T sum sub) := by
  intro i l
  by_cases e : T i = 140
  · refine ⟨fun q => by omega, fun q => ?_⟩
    unfold rd_plain0 at q ⊢
    rw [if_pos e] at q ⊢
    cases sub with
    | none => exact absurd q (by show ¬ false = true; decide)
    | some f =>
      have hX := hL.nx (i := i) (by omega)
      obtain ⟨_, g⟩ := h f rfl (i + 1) l
      show l + 1 ≤ (if (f (i + 1) l).1 = true then (if T (f (i + 1) l).2.1 = 141 then (true, (f (i + 1) l).2.1 + 1, (f (i + 1) l).2.2.1, (f (i + 1) l).2.2.2) else rd_no (f (i + 1) l).2.1 (f (i + 1) l).2.2.1) else f (i + 1) l).2.2.1 ∧ st i + 1 ≤ st (if (f (i + 1) l).1 = true then (if T (f (i + 1) l).2.1 = 141 then (true, (f (i + 1) l).2.1 + 1, (f (i + 1) l).2.2.1, (f (i + 1) l).2.2.2) else rd_no (f (i + 1) l).2.1 (f (i + 1) l).2.2.1) else f (i + 1) l).2.1
      have q : (if (f (i + 1) l).1 = true then (if T (f (i + 1) l).2.1 = 141 then (true, (f (i + 1) l).2.1 + 1, (f (i + 1) l).2.2.1, (f (i + 1) l).2.2.2) else rd_no (f (i + 1) l).2.1 (f (i + 1) l).2.2.1) else f (i + 1) l).1 = true := q
      by_cases c1 : (f (i + 1) l).1 = true
      · rw [if_pos c1] at q ⊢
        obtain ⟨g1, g2⟩ := g c1
        by_cases c2 : T (f (i + 1) l).2.1 = 141
        · rw [if_pos c2]
          have hX2 := hL.nx (i := (f (i + 1) l).2.1) (by omega)
          exact ⟨g1, by show st i + 1 ≤ st ((f (i + 1) l).2.1 + 1); omega⟩
        · rw [if_neg c2] at q; exact absurd q (by show ¬ false = true; decide)
      · rw [if_neg c1] at q; exact absurd q c1
  · obtain ⟨g1, g2⟩ := hs i l
    unfold rd_plain0
    rw [if_neg e]
    refine ⟨fun q => ?_, fun q => ?_⟩
    · obtain ⟨k1, k2⟩ := g1 q
      rw [if_neg (by rw [k1]; decide)]
      exact ⟨k1, k2⟩
    · by_cases c1 : (sum i l).1 = true
      · rw [if_pos c1] at q ⊢
        obtain ⟨k1, k2⟩ := g2 c1
        by_cases c2 : rd_cp (T (sum i l).2.1) = 0
        · rw [if_pos c2] at q; exact absurd q (by show ¬ false = true; decide)
        · rw [if_neg c2] at q ⊢
          have hX := hL.nx (i := (sum i l).2.1) (fun z => c2 (by rw [z]; decide))
          obtain ⟨_, g4⟩ := hs ((sum i l).2.1 + 1) (sum i l).2.2.1
          by_cases c3 : (sum ((sum i l).2.1 + 1) (sum i l).2.2.1).1 = true
          · rw [if_pos c3]
            obtain ⟨k3, k4⟩ := g4 c3
            exact ⟨by show l + 1 ≤ (sum ((sum i l).2.1 + 1) (sum i l).2.2.1).2.2.1; omega, by show st i + 1 ≤ st (sum ((sum i l).2.1 + 1) (sum i l).2.2.1).2.1; omega⟩
          · rw [if_neg c3] at q; exact absurd q c3
      · rw [if_neg c1] at q; exact absurd q c1
theorem HF.plain (hL : Lex tp n st en T) {sum : Nat → Nat → PRs} {sub : Option (Nat → Nat → PRs)} (hs : HF st T sum) (h : ∀ f, sub = some f → HF st T f) : HF st T (rd_plain T sum sub) := by
  intro i l
  obtain ⟨g1, g2⟩ := HF.plain0 hL hs h (rd_nots T 400 i) l
  have g3 := (rd_nots_st hL 400 i).1
  refine ⟨fun q => ?_, fun q => ?_⟩
  · have e : rd_nots T 400 i = i := by
      show (if T i = 8 then rd_nots T 399 (i + 1) else i) = i
      rw [if_neg (by omega)]
    rw [e] at g1
    obtain ⟨k1, k2⟩ := g1 q
    refine ⟨?_, ?_⟩
    · show (rd_plain0 T sum sub (rd_nots T 400 i) l).1 = false; rw [e]; exact k1
    · show (rd_plain0 T sum sub (rd_nots T 400 i) l).2.1 = i; rw [e]; exact k2
  · obtain ⟨k1, k2⟩ := g2 q
    exact ⟨k1, by show st i + 1 ≤ st (rd_plain0 T sum sub (rd_nots T 400 i) l).2.1; omega⟩
theorem HF.test (hL : Lex tp n st en T) {plain : Nat → Nat → PRs} (h : HF st T plain) : HF st T (rd_test T plain) := by
  intro i l
  unfold rd_test
  exact HF.lp hL (fun i l => HF.lp hL h (fun j z => by show (if T j = 7 then 29 else 0) = 0; rw [if_neg (by omega)]) 400 id i l) (fun j z => by show (if T j = 6 then 30 else 0) = 0; rw [if_neg (by omega)]) 400 id i l
theorem HF.testL (hL : Lex tp n st en T) : ∀ d, HF st T (rd_testL T ord d) := by
  intro d
  induction d with
  | zero => exact HF.test hL (HF.plain hL (HF.sumL hL 0) (fun f e => by cases e))
  | succ d ih => exact HF.test hL (HF.plain hL (HF.sumL hL (d + 1)) (fun f e => by injection e with e; rw [← e]; exact ih))
/-- neither "and" nor "or" goes on -/
def Ets (T : Nat → Int) (j : Nat) : Prop := (True ∧ ¬ T j = 7) ∧ ¬ T j = 6
theorem cp_b {t : Int} (h : ¬ rd_cp t = 0) : 25 ≤ rd_cp t ∧ rd_cp t ≤ 27 := by
  unfold rd_cp at h ⊢
  by_cases c1 : t = 160
  · rw [if_pos c1]; decide
  · rw [if_neg c1] at h ⊢
    by_cases c2 : t = 162
    · rw [if_pos c2]; decide
    · rw [if_neg c2] at h ⊢
      by_cases c3 : t = 161
      · rw [if_pos c3]; decide
      · rw [if_neg c3] at h; exact absurd rfl h
theorem bd_cp {o : Nat} (h : 25 ≤ o ∧ o ≤ 27) : bdN o = 4 := by
  have : o = 25 ∨ o = 26 ∨ o = 27 := by omega
  rcases this with rfl | rfl | rfl <;> decide
set_option maxHeartbeats 1000000 in
theorem HT.plain (hLP : LPs a taped ordered tp words oW Qb L) (hL : Lex tp n st en T) (hn : taped.toInt = (n : Int)) (h4 : n ≤ 400) (hW : hasW words oW) (ho : (ordered = 0 ∧ ord = false) ∨ (ordered = 1 ∧ ord = true)) (ha : ¬ a = 0) {d : Nat} {sum : Nat → Nat → PRs} {sub : Option (Nat → Nat → PRs)} (hFs : HF st T sum) (hsum : HP st en T s0 o0 a0 fl L 5 d (Esg T) sum) (hd : (sub = none ∧ d = 8) ∨ ∃ f, sub = some f ∧ d < 8 ∧ HT st en T s0 o0 a0 fl L 1 (d + 1) (Ets T) f) : HT st en T s0 o0 a0 fl L 3 d (fun _ => True) (rd_plain T sum sub) := by
  intro i l c P K hl hi hc hok hbd
  have d8 : d ≤ 8 := by rcases hd with ⟨_, e⟩ | ⟨_, _, e, _⟩ <;> omega
  obtain ⟨j0, ej0⟩ : ∃ j0, rd_nots T 400 i = j0 := ⟨_, rfl⟩
  have n8 : ¬ T j0 = 8 := by rw [← ej0]; exact (rd_nots_st hL 400 i).2 (by omega)
  have le0 : i ≤ j0 := by rw [← ej0]; exact rd_nots_le 400 i
  have hok : (rd_plain0 T sum sub j0 l).1 = true → ∀ (c' : Nat) (P' : List (Nat × Nat)) (K' : List Itm), stl 3 P' K' = (P, some ((none, c, (rd_plain0 T sum sub j0 l).2.2.1 - l, rd_par (j0 - i) (rd_plain0 T sum sub j0 l).2.2.2) :: K)) → inn P' = inn P → OkA st en T s0 o0 a0 fl L 2 (rd_plain0 T sum sub j0 l).2.1 (rd_plain0 T sum sub j0 l).2.2.1 d c' P' K' := by
    intro z c' P' K' e1 e2
    have := hok (by show (rd_plain0 T sum sub (rd_nots T 400 i) l).1 = true; rw [ej0]; exact z) c' P' K' (by
      show stl 3 P' K' = (P, some ((none, c, (rd_plain0 T sum sub (rd_nots T 400 i) l).2.2.1 - l, rd_par (rd_nots T 400 i - i) (rd_plain0 T sum sub (rd_nots T 400 i) l).2.2.2) :: K))
      rw [ej0]; exact e1) e2 True.intro
    have this : OkA st en T s0 o0 a0 fl L 2 (rd_plain0 T sum sub (rd_nots T 400 i) l).2.1 (rd_plain0 T sum sub (rd_nots T 400 i) l).2.2.1 d c' P' K' := this
    rw [ej0] at this
    exact this
  have hbd : ¬ (rd_plain0 T sum sub j0 l).1 = true → BdA st L (rd_plain0 T sum sub j0 l).2.1 := by
    intro z
    have := hbd (by show ¬ (rd_plain0 T sum sub (rd_nots T 400 i) l).1 = true; rw [ej0]; exact z)
    have this : BdA st L (rd_plain0 T sum sub (rd_nots T 400 i) l).2.1 := this
    rw [ej0] at this
    exact this
  have core : OkA st en T s0 o0 a0 fl L 0 j0 l d c (ntP (j0 - i) P) K := by
    by_cases t140 : T j0 = 140
    · refine A_plain hLP hL hn h4 hW ho (Or.inr t140) d8 (fun q => absurd q n8) (fun _ dd => ?_) (fun _ dd => ?_)
      · rcases hd with ⟨_, e8⟩ | ⟨f, ef, _, hf⟩
        · omega
        · subst ef
          have eP : rd_plain0 T sum (some f) j0 l = if (f (j0 + 1) l).1 = true then (if T (f (j0 + 1) l).2.1 = 141 then (true, (f (j0 + 1) l).2.1 + 1, (f (j0 + 1) l).2.2.1, (f (j0 + 1) l).2.2.2) else rd_no (f (j0 + 1) l).2.1 (f (j0 + 1) l).2.2.1) else f (j0 + 1) l := by
            unfold rd_plain0; rw [if_pos t140]
          rw [eP] at hok hbd
          refine hf (j0 + 1) l c ((31, 0) :: ntP (j0 - i) P) K (by show bdN 31 < 1; decide) (by show ¬ (31 : Nat) = 32; decide) rfl (fun z c' P' K' e1 e2 e3 => ?_) (fun z => ?_)
          · rw [if_pos z] at hok hbd
            have i31 : inn P' = 31 := e2
            refine A_test hLP hL hn h4 (fun q => absurd q e3.1.2) (fun q => absurd q e3.2) (fun _ _ q => by omega) (fun _ t41 => ⟨by omega, 31, 0, _, _, e1, fun c2 => ?_⟩) (fun _ _ _ t41 => ?_)
            · rw [if_pos t41] at hok
              refine hok rfl c2 _ _ ?_ (ntP_inn _)
              rw [stl_nt (by omega) _ _ hl, ntS_par]
            · rw [if_neg t41] at hbd
              exact hbd (by show ¬ false = true; decide)
          · rw [if_neg z] at hbd
            exact hbd z
      · rcases hd with ⟨en, e8⟩ | ⟨f, ef, e8, hf⟩
        · subst en
          have eP : rd_plain0 T sum none j0 l = rd_no j0 l := by
            unfold rd_plain0; rw [if_pos t140]
          rw [eP] at hbd
          exact hbd (by show ¬ false = true; decide)
        · omega
    · have eP : rd_plain0 T sum sub j0 l = if (sum j0 l).1 = true then (if rd_cp (T (sum j0 l).2.1) = 0 then rd_no (sum j0 l).2.1 (sum j0 l).2.2.1 else if (sum ((sum j0 l).2.1 + 1) (sum j0 l).2.2.1).1 = true then (true, (sum ((sum j0 l).2.1 + 1) (sum j0 l).2.2.1).2.1, (sum ((sum j0 l).2.1 + 1) (sum j0 l).2.2.1).2.2.1, rd_bin (rd_cp (T (sum j0 l).2.1)) (sum j0 l).2.2.2 (sum ((sum j0 l).2.1 + 1) (sum j0 l).2.2.1).2.2.2) else sum ((sum j0 l).2.1 + 1) (sum j0 l).2.2.1) else sum j0 l := by
        unfold rd_plain0; rw [if_neg t140]
      rw [eP] at hok hbd
      have hl5 : Low 5 (ntP (j0 - i) P) := ntP_low (hl.mo (by omega)) (by omega) _
      refine hsum 0 j0 l c (ntP (j0 - i) P) K (Or.inr ⟨rfl, n8, t140⟩) hl5 (fun z c' P' K' e1 e2 e3 => ?_) (fun z => ?_)
      · rw [if_pos z] at hok hbd
        have s0z := Esg.z e3
        have iP : inn P' = inn P := e2.1.trans (ntP_inn _)
        have cP : cmpd P' = false := e2.2.trans (ntP_cmp hc _)
        obtain ⟨_, F1⟩ := hFs j0 l
        obtain ⟨F2, F3⟩ := F1 z
        refine A_sum hLP hL hn h4 (fun w => absurd s0z w) (fun _ q => by omega) (fun _ q => by omega) (fun _ _ q => absurd q ha) (fun _ _ _ q => by rw [cP] at q; cases q) (fun _ _ _ _ cp => ⟨_, _, e1, fun c2 => ?_⟩) (fun _ _ _ _ cp => ?_)
        · rw [if_neg cp] at hok hbd
          have cb := cp_b cp
          have b4 := bd_cp cb
          refine hsum 1 ((sum j0 l).2.1 + 1) (sum j0 l).2.2.1 c2 _ _ (Or.inl rfl) (by show bdN (rd_cp (T (sum j0 l).2.1)) < 5; omega) (fun z2 c3 P3 K3 f1 f2 f3 => ?_) (fun z2 => ?_)
          · rw [if_pos z2] at hok
            have s0z2 := Esg.z f3
            have iP3 : inn P3 = inn P := by
              rw [f2.1]
              show (if 31 ≤ rd_cp (T (sum j0 l).2.1) then rd_cp (T (sum j0 l).2.1) else inn (ntP (j0 - i) P)) = inn P
              rw [if_neg (by omega)]; exact ntP_inn _
            have cP3 : cmpd P3 = true := by
              rw [f2.2]
              show (if rd_cp (T (sum j0 l).2.1) ≤ 24 then cmpd (ntP (j0 - i) P) else decide (25 ≤ rd_cp (T (sum j0 l).2.1) ∧ rd_cp (T (sum j0 l).2.1) ≤ 27)) = true
              rw [if_neg (by omega)]; exact decide_eq_true cb
            obtain ⟨_, F4⟩ := hFs ((sum j0 l).2.1 + 1) (sum j0 l).2.2.1
            obtain ⟨F5, F6⟩ := F4 z2
            refine A_sum hLP hL hn h4 (fun w => absurd s0z2 w) (fun _ q => by omega) (fun _ q => by omega) (fun _ _ q => absurd q ha) (fun _ _ _ _ => ?_) (fun _ _ _ q => by rw [cP3] at q; cases q) (fun _ _ _ q => by rw [cP3] at q; cases q)
            refine hok rfl c3 P3 K3 ?_ iP3
            rw [stl_stl (b' := 3) (by omega) f1, stl_cb (by omega) (K1 := (none, c, (sum j0 l).2.2.1 - l + ((sum ((sum j0 l).2.1 + 1) (sum j0 l).2.2.1).2.2.1 - (sum j0 l).2.2.1), rd_bin (rd_cp (T (sum j0 l).2.1)) (sum j0 l).2.2.2 (sum ((sum j0 l).2.1 + 1) (sum j0 l).2.2.1).2.2.2) :: K) (by unfold cmb; rw [if_pos (by omega)]), stl_nt (by omega) _ _ hl, ntS_par]
            have ek : (sum j0 l).2.2.1 - l + ((sum ((sum j0 l).2.1 + 1) (sum j0 l).2.2.1).2.2.1 - (sum j0 l).2.2.1) = (sum ((sum j0 l).2.1 + 1) (sum j0 l).2.2.1).2.2.1 - l := by omega
            rw [ek]
          · rw [if_neg z2] at hbd
            exact hbd z2
        · rw [if_pos cp] at hbd
          exact hbd (by show ¬ false = true; decide)
      · rw [if_neg z] at hbd
        exact hbd z
  have nots : ∀ (m k i' : Nat), rd_nots T m i' = j0 → i' = i + k → OkA st en T s0 o0 a0 fl L 0 i' l d c (ntP k P) K := by
    intro m
    induction m with
    | zero =>
      intro k i' e1 e2
      have e1 : i' = j0 := e1
      have : k = j0 - i := by omega
      rw [this, e1]; exact core
    | succ m ih =>
      intro k i' e1 e2
      have e1 : (if T i' = 8 then rd_nots T m (i' + 1) else i') = j0 := e1
      by_cases c8 : T i' = 8
      · rw [if_pos c8] at e1
        refine A_plain hLP hL hn h4 hW ho (Or.inl c8) d8 (fun _ => ?_) (fun q => by omega) (fun q => by omega)
        exact ih (k + 1) (i' + 1) e1 (by omega)
      · rw [if_neg c8] at e1
        have : k = j0 - i := by omega
        rw [this, e1]; exact core
  exact nots 400 0 i ej0 rfl
theorem HT.test (hLP : LPs a taped ordered tp words oW Qb L) (hL : Lex tp n st en T) (hn : taped.toInt = (n : Int)) (h4 : n ≤ 400) {d : Nat} {plain : Nat → Nat → PRs} (hF : HF st T plain) (hP : HT st en T s0 o0 a0 fl L 3 d (fun _ => True) plain) : HT st en T s0 o0 a0 fl L 1 d (Ets T) (rd_test T plain) :=
  HT.lp hLP hL hn h4 (b := 1) (o := 30) (w := 6) (Or.inr ⟨rfl, rfl, rfl⟩) (E := fun j => True ∧ ¬ T j = 7) (fun i l => HF.lp hL hF (fun j z => by show (if T j = 7 then 29 else 0) = 0; rw [if_neg (by omega)]) 400 id i l)
    (HT.lp hLP hL hn h4 (b := 2) (o := 29) (w := 7) (Or.inl ⟨rfl, rfl, rfl⟩) (E := fun _ => True) hF hP)
theorem HT.testL (hLP : LPs a taped ordered tp words oW Qb L) (hL : Lex tp n st en T) (hn : taped.toInt = (n : Int)) (h4 : n ≤ 400) (hW : hasW words oW) (ho : (ordered = 0 ∧ ord = false) ∨ (ordered = 1 ∧ ord = true)) (ha : ¬ a = 0) : ∀ e d, e + d = 8 → HT st en T s0 o0 a0 fl L 1 d (Ets T) (rd_testL T ord e) := by
  intro e
  induction e with
  | zero =>
    intro d hd
    exact HT.test hLP hL hn h4 (HF.plain hL (HF.sumL hL 0) (fun f e => by cases e)) (HT.plain hLP hL hn h4 hW ho ha (HF.sumL hL 0) (HP.sumL hLP hL hn h4 hW ho 0 d hd) (Or.inl ⟨rfl, by omega⟩))
  | succ e ih =>
    intro d hd
    exact HT.test hLP hL hn h4 (HF.plain hL (HF.sumL hL (e + 1)) (fun f q => by injection q with q; rw [← q]; exact HF.testL hL e)) (HT.plain hLP hL hn h4 hW ho ha (HF.sumL hL (e + 1)) (HP.sumL hLP hL hn h4 hW ho (e + 1) d hd) (Or.inr ⟨_, rfl, by omega, ih (d + 1) (by omega)⟩))
/-- readExpression -/
theorem lps0 {taped ordered : Int32} {tp : Nat → Int32} {words oW : Nat → Int64} {Qb : Kt} {a : Int32} : LPs a taped ordered tp words oW Qb (wl_X12_readExpression_20 a taped ordered tp words oW Qb) := by
  intro m turn fr to sort worth fault bad nC nL pd od pile op ar pat h
  unfold wl_X12_readExpression_20
  exact h
theorem lps1 {taped ordered : Int32} {tp : Nat → Int32} {words oW : Nat → Int64} {Qb : Kt} {a : Int32} : LPs a taped ordered tp words oW Qb (wl_X12_readExpression_20a a taped ordered tp words oW Qb) := by
  intro m turn fr to sort worth fault bad nC nL pd od pile op ar pat h
  unfold wl_X12_readExpression_20a
  exact h
set_option maxHeartbeats 1000000 in
theorem x_expr (hL : Lex tp n st en T) (hn : taped.toInt = (n : Int)) (h4 : n ≤ 400) (hW : hasW words oW) (ho : (ordered = 0 ∧ ord = false) ∨ (ordered = 1 ∧ ord = true)) {i l c : Nat} {fr to sort fault : Int32} {worth : Int64} {nC nL : Int32} {pile op ar pat : Nat → Int32} (k1 : fr.toInt = (st i : Int)) (k2 : to.toInt = (en i : Int)) (k3 : MT (T i) sort worth) (hl : nL.toInt = (l : Int)) (hc : nC.toInt = (c : Int)) (hci : c ≤ st i) (hCB : CB op ar c) (rd : Nat → Nat → PRs) (hrd : (a = 0 ∧ rd = rd_sumL T ord 8) ∨ (a = 1 ∧ rd = rd_testL T ord 8)) {Q : (Int32 × Int32 × Int32 × Int64 × Int32 × Int32 × Int32 × Int32 × Int32 × Int32 × (Nat → Int32) × (Nat → Int32) × (Nat → Int32) × (Nat → Int32)) → Prop}
    (h1 : (rd i l).1 = true → ∀ (fr' to' sort' : Int32) (w' : Int64) (nC' nL' pd' od' : Int32) (pile' op' ar' pat' : Nat → Int32) (c' : Nat), fr'.toInt = (st (rd i l).2.1 : Int) → to'.toInt = (en (rd i l).2.1 : Int) → MT (T (rd i l).2.1) sort' w' → nL'.toInt = ((rd i l).2.2.1 : Int) → nC'.toInt = (c' : Int) → c' ≤ st (rd i l).2.1 → CB op' ar' c' → seg (cM op' ar') c c' ((rd i l).2.2.1 - l) (rd i l).2.2.2 → (∀ k, k < c → op' k = op k ∧ ar' k = ar k) → Q (fr', to', sort', w', fault, 0, nC', nL', pd', od', pile', op', ar', pat'))
    (h0 : ¬ (rd i l).1 = true → ∀ (fr' to' sort' : Int32) (w' : Int64) (fault' nC' nL' pd' od' : Int32) (pile' op' ar' pat' : Nat → Int32) (c' : Nat), fault'.toInt = (st (rd i l).2.1 : Int) → nC'.toInt = (c' : Int) → c' ≤ 400 → Q (fr', to', sort', w', fault', 1, nC', nL', pd', od', pile', op', ar', pat')) :
    wp_X12_readExpression a taped fr to sort worth fault 0 ordered nC nL pile tp op ar pat words oW Q := by
  unfold wp_X12_readExpression
  have hS := hL.st i
  have R0 : RA st en T c op ar i l 0 c [] [] fr to sort worth nC nL 0 0 pile op ar pat := ⟨⟨k1, k2, k3⟩, hl, rfl, rfl, True.intro, hc, by show c + 0 ≤ st i; omega, rfl, fun x hx => (by cases hx), hCB, fun k _ => ⟨rfl, rfl⟩⟩
  -- behind the loop
  have fin : ∀ (j l' c' : Nat) (s : Sem) (P' : List (Nat × Nat)) (K' : List Itm) (k : Nat), stl 1 P' K' = ([], some [(none, c, k, s)]) → ∀ (fr' to' sort' : Int32) (w' : Int64) (nC' nL' pd' od' : Int32) (pile' op' ar' pat' : Nat → Int32), RA st en T c op ar j l' 0 c' P' K' fr' to' sort' w' nC' nL' pd' od' pile' op' ar' pat' → (∀ (nC2 pd2 : Int32) (op2 ar2 : Nat → Int32) (c2 : Nat), nL'.toInt = (l' : Int) → nC2.toInt = (c2 : Int) → c2 ≤ st j → CB op2 ar2 c2 → seg (cM op2 ar2) c c2 k s → (∀ k, k < c → op2 k = op k ∧ ar2 k = ar k) → Q (fr', to', sort', w', fault, 0, nC2, nL', pd2, od', pile', op2, ar2, pat')) → wp_X12_settle 1 nC' pd' pile' op' ar' pat' (un4 (fun u0 u1 u2 u3 => Q (fr', to', sort', w', fault, 0, u0, nL', u1, od', pile', u2, u3, pat'))) := by
    intro j l' c' s P' K' k e fr' to' sort' w' nC' nL' pd' od' pile' op' ar' pat' hR hq
    have hSj := hL.st j
    obtain ⟨_, r4, r5, r6, r7, r8, r9, r10, r11, r12, r13⟩ := hR
    refine x_settle (B := 1) rfl (by decide) r8 r6 r7 r10 r11 r12 (by omega) e (fun nC2 pd2 op2 ar2 c2 m1 m2 m3 m4 m5 m6 m7 m8 => un4_i ?_)
    have m7 : c2 + 0 ≤ c' + P'.length := m7
    refine hq nC2 pd2 op2 ar2 c2 r4 m1 (by omega) m6 m4.1 (fun k hk => ?_)
    obtain ⟨w1, w2⟩ := m8 k hk
    obtain ⟨v1, v2⟩ := r13 k hk
    exact ⟨w1.trans v1, w2.trans v2⟩
  rcases hrd with ⟨rfl, rfl⟩ | ⟨rfl, rfl⟩
  · refine br1 rfl ?_
    have A : ∀ L : Nat → Kt, LPs 0 taped ordered tp words oW (fun x0 x1 x2 x3 x4 x5 x6 x7 x8 x9 x10 x11 x12 x13 x14 => wp_X12_settle 1 x7 x9 x11 x12 x13 x14 (un4 (fun u0 u1 u2 u3 => Q (x1, x2, x3, x4, x5, x6, u0, x8, u1, x10, x11, u2, u3, x14)))) L → OkA st en T c op ar fault L 1 i l 0 c [] [] := by
      intro L hLP
      refine HP.sumL hLP hL hn h4 hW ho 8 0 rfl 1 i l c [] [] (Or.inl rfl) True.intro (fun z c' P' K' e1 e2 e3 => ?_) (fun z => ?_)
      · have i0 : inn P' = 0 := e2.1
        have s0z := Esg.z e3
        refine A_sum hLP hL hn h4 (fun w => absurd s0z w) (fun _ q => by omega) (fun _ q => by omega) (fun _ _ _ => ?_) (fun _ _ q => absurd ⟨i0, rfl⟩ q) (fun _ _ q => absurd ⟨i0, rfl⟩ q) (fun _ _ q => absurd ⟨i0, rfl⟩ q)
        intro m hm
        have hSj := hL.st (rd_sumL T ord 8 i l).2.1
        have w4 : wtT 4 = 2 := by decide
        cases m with
        | zero => omega
        | succ m =>
          intro fr' to' sort' w' nC' nL' pd' od' pile' op' ar' pat' hR
          refine hLP m 4 _ _ _ _ _ 0 _ _ _ _ _ _ _ _ (br1 rfl (br1 rfl ?_))
          refine fin _ _ c' _ P' K' _ ((stl_stl (b' := 1) (by omega) e1).trans rfl) _ _ _ _ _ _ _ _ _ _ _ _ hR (fun nC2 pd2 op2 ar2 c2 m0 m1 m2 m3 m4 m5 => ?_)
          exact h1 z _ _ _ _ _ _ _ _ _ _ _ _ c2 hR.1.1 hR.1.2.1 hR.1.2.2 m0 m1 m2 m3 m4 m5
      · intro m hm
        cases m with
        | zero => omega
        | succ m =>
          intro turn fr' to' sort' w' fault' nC' nL' pd' od' pile' op' ar' pat' hf hw
          refine hLP m turn _ _ _ _ _ 1 _ _ _ _ _ _ _ _ (br0 (by decide) ?_)
          exact x_settleB (by decide) hw (fun nC2 pd2 op2 ar2 c2 m1 m2 => un4_i (h0 z _ _ _ _ _ _ _ _ _ _ _ _ _ c2 hf m1 m2))
    exact A _ lps0 1000000000000 (by omega) _ _ _ _ _ _ _ _ _ _ _ _ R0
  · refine br0 (by decide) ?_
    have A : ∀ L : Nat → Kt, LPs 1 taped ordered tp words oW (fun x0 x1 x2 x3 x4 x5 x6 x7 x8 x9 x10 x11 x12 x13 x14 => wp_X12_settle 1 x7 x9 x11 x12 x13 x14 (un4 (fun u0 u1 u2 u3 => Q (x1, x2, x3, x4, x5, x6, u0, x8, u1, x10, x11, u2, u3, x14)))) L → OkA st en T c op ar fault L 0 i l 0 c [] [] := by
      intro L hLP
      refine HT.testL hLP hL hn h4 hW ho (by decide) 8 0 rfl i l c [] [] True.intro (by decide) rfl (fun z c' P' K' e1 e2 e3 => ?_) (fun z => ?_)
      · have i0 : inn P' = 0 := e2
        refine A_test hLP hL hn h4 (fun q => absurd q e3.1.2) (fun q => absurd q e3.2) (fun _ _ _ => ?_) (fun q => absurd i0 q) (fun _ _ q => absurd i0 q)
        intro m hm
        have hSj := hL.st (rd_testL T ord 8 i l).2.1
        have w4 : wtT 4 = 2 := by decide
        cases m with
        | zero => omega
        | succ m =>
          intro fr' to' sort' w' nC' nL' pd' od' pile' op' ar' pat' hR
          refine hLP m 4 _ _ _ _ _ 0 _ _ _ _ _ _ _ _ (br1 rfl (br1 rfl ?_))
          refine fin _ _ c' _ P' K' _ e1 _ _ _ _ _ _ _ _ _ _ _ _ hR (fun nC2 pd2 op2 ar2 c2 m0 m1 m2 m3 m4 m5 => ?_)
          exact h1 z _ _ _ _ _ _ _ _ _ _ _ _ c2 hR.1.1 hR.1.2.1 hR.1.2.2 m0 m1 m2 m3 m4 m5
      · intro m hm
        cases m with
        | zero => omega
        | succ m =>
          intro turn fr' to' sort' w' fault' nC' nL' pd' od' pile' op' ar' pat' hf hw
          refine hLP m turn _ _ _ _ _ 1 _ _ _ _ _ _ _ _ (br0 (by decide) ?_)
          exact x_settleB (by decide) hw (fun nC2 pd2 op2 ar2 c2 m1 m2 => un4_i (h0 z _ _ _ _ _ _ _ _ _ _ _ _ _ c2 hf m1 m2))
    exact A _ lps1 1000000000000 (by omega) _ _ _ _ _ _ _ _ _ _ _ _ R0
