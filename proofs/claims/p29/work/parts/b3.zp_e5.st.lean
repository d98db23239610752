/-! the reference's reader of SUMS and TESTS: its steps -/
abbrev Kt : Type := Int32 → Int32 → Int32 → Int32 → Int64 → Int32 → Int32 → Int32 → Int32 → Int32 → Int32 → (Nat → Int32) → (Nat → Int32) → (Nat → Int32) → (Nat → Int32) → Prop
/-- at the i-th token, with l leaves, d brackets, c of code, P on the pile, K open -/
def RA (st en : Nat → Nat) (T : Nat → Int) (s0 : Nat) (o0 a0 : Nat → Int32) (i l d c : Nat) (P : List (Nat × Nat)) (K : List Itm) (fr to sort : Int32) (worth : Int64) (nC nL pd od : Int32) (pile op ar pat : Nat → Int32) : Prop :=
  (fr.toInt = (st i : Int) ∧ to.toInt = (en i : Int) ∧ MT (T i) sort worth) ∧ nL.toInt = (l : Int) ∧ od.toInt = (d : Int) ∧ pd.toInt = (P.length : Int) ∧ RepP pile pat P ∧ nC.toInt = (c : Int) ∧ c + P.length ≤ st i ∧ Lay (cM op ar) s0 K c ∧ GP P c ∧ CB op ar c ∧ ∀ k, k < s0 → op k = o0 k ∧ ar k = a0 k
def OkK (st en : Nat → Nat) (T : Nat → Int) (s0 : Nat) (o0 a0 : Nat → Int32) (fl : Int32) (turn : Int32) (i l d c : Nat) (P : List (Nat × Nat)) (K : List Itm) (F : Kt) : Prop :=
  ∀ (fr to sort : Int32) (worth : Int64) (nC nL pd od : Int32) (pile op ar pat : Nat → Int32), RA st en T s0 o0 a0 i l d c P K fr to sort worth nC nL pd od pile op ar pat → F turn fr to sort worth fl 0 nC nL pd od pile op ar pat
def WBd (nC pd : Int32) (pile pat : Nat → Int32) : Prop := ∃ c p : Nat, nC.toInt = (c : Int) ∧ pd.toInt = (p : Int) ∧ c + p ≤ 400 ∧ ∀ k, k < p → 20 ≤ (pile k).toInt ∧ (pile k).toInt ≤ 32 ∧ ((pile k).toInt = 29 ∨ (pile k).toInt = 30 → 0 ≤ (pat k).toInt ∧ (pat k).toInt < 400)
def BdK (st : Nat → Nat) (j : Nat) (F : Kt) : Prop :=
  ∀ (turn fr to sort : Int32) (worth : Int64) (fault nC nL pd od : Int32) (pile op ar pat : Nat → Int32), fault.toInt = (st j : Int) → WBd nC pd pile pat → F turn fr to sort worth fault 1 nC nL pd od pile op ar pat
theorem RepP.get {pile pat : Nat → Int32} : ∀ {P : List (Nat × Nat)}, RepP pile pat P → ∀ k, k < P.length → ∃ x ∈ P, (pile k).toInt = (x.1 : Int) ∧ (pat k).toInt = (x.2 : Int) := by
  intro P
  induction P with
  | nil => intro _ k hk; exact absurd hk (Nat.not_lt_zero _)
  | cons y r ih =>
    obtain ⟨o, a⟩ := y
    intro h k hk
    obtain ⟨h1, h2, h3⟩ := h
    have hk : k < r.length + 1 := hk
    by_cases e : k = r.length
    · exact ⟨(o, a), List.mem_cons_self, by rw [e]; exact h1, by rw [e]; exact h2⟩
    · obtain ⟨x, hx, g⟩ := ih h3 k (by omega)
      exact ⟨x, List.mem_cons_of_mem _ hx, g⟩
theorem WBd.of {pile pat : Nat → Int32} {P : List (Nat × Nat)} {c : Nat} {nC pd : Int32} (h1 : nC.toInt = (c : Int)) (h2 : pd.toInt = (P.length : Int)) (h3 : RepP pile pat P) (h4 : GP P c) (h5 : c + P.length ≤ 400) : WBd nC pd pile pat := by
  refine ⟨c, P.length, h1, h2, h5, fun k hk => ?_⟩
  obtain ⟨x, hx, e1, e2⟩ := h3.get k hk
  obtain ⟨g1, g2, g3⟩ := h4 x hx
  refine ⟨by omega, by omega, fun q => ?_⟩
  have := g3 (by omega)
  omega
theorem RA.bd {st en : Nat → Nat} {T : Nat → Int} {s0 : Nat} {o0 a0 : Nat → Int32} {i l d c : Nat} {P : List (Nat × Nat)} {K : List Itm} {fr to sort : Int32} {worth : Int64} {nC nL pd od : Int32} {pile op ar pat : Nat → Int32} (h : RA st en T s0 o0 a0 i l d c P K fr to sort worth nC nL pd od pile op ar pat) (hi : st i ≤ 400) : WBd nC pd pile pat := by
  obtain ⟨_, _, _, a1, a2, a3, a4, _, a5, _, _⟩ := h
  exact WBd.of a3 a1 a2 a5 (by omega)
theorem x_settleB0 {b : Int32} {pile pat : Nat → Int32} (hb : 1 ≤ b.toInt) {Qb : Int32 → Int32 → (Nat → Int32) → (Nat → Int32) → Prop} (hq : ∀ (nC pd : Int32) (op ar : Nat → Int32) (c : Nat), nC.toInt = (c : Int) → c ≤ 400 → Qb nC pd op ar) : ∀ (m p c : Nat) (nC pd : Int32) (op ar : Nat → Int32), nC.toInt = (c : Int) → pd.toInt = (p : Int) → c + p ≤ 400 → (∀ k, k < p → 20 ≤ (pile k).toInt ∧ (pile k).toInt ≤ 32 ∧ ((pile k).toInt = 29 ∨ (pile k).toInt = 30 → 0 ≤ (pat k).toInt ∧ (pat k).toInt < 400)) → p < m → wl_X12_settle_0 b pile pat Qb m nC pd op ar := by
  intro m
  induction m with
  | zero => intro p c nC pd op ar h1 h2 h3 h4 h5; exact absurd h5 (Nat.not_lt_zero _)
  | succ m ih =>
    intro p c nC pd op ar h1 h2 h3 h4 h5
    unfold wl_X12_settle_0
    cases p with
    | zero => exact br1 (z_le (y := 0) h2 rfl (Int.le_refl _)) (hq _ _ _ _ c h1 (by omega))
    | succ p =>
      have p1 := sub1 h2
      obtain ⟨g1, g2, g3⟩ := h4 p (by omega)
      refine br0 (z_nle (y := 0) h2 rfl (by omega)) ⟨vpi p1 (by omega) (by omega), ?_⟩
      rw [tnN p1]
      refine e_binds ?_
      by_cases c1 : bnd (pile p) < b
      · exact br1 c1 (hq _ _ _ _ c h1 (by omega))
      · refine br0 c1 ⟨vpi p1 (by omega) (by omega), jn_s ?_⟩
        by_cases c29 : pile p = 29
        · have c29' := eq_z (y := 29) rfl rfl c29
          have g4 := g3 (Or.inl c29')
          exact br1 c29 ⟨vpi p1 (by omega) (by omega), vpi rfl g4.1 (by omega), ih p c nC (pd - 1) op _ h1 p1 (by omega) (fun k hk => h4 k (by omega)) (by omega)⟩
        · refine br0 c29 ⟨vpi p1 (by omega) (by omega), ?_⟩
          by_cases c30 : pile p = 30
          · have c30' := eq_z (y := 30) rfl rfl c30
            have g4 := g3 (Or.inr c30')
            exact br1 c30 ⟨vpi p1 (by omega) (by omega), vpi rfl g4.1 (by omega), ih p c nC (pd - 1) op _ h1 p1 (by omega) (fun k hk => h4 k (by omega)) (by omega)⟩
          · refine br0 c30 ⟨vpi p1 (by omega) (by omega), ?_⟩
            unfold wp_X12_emit
            exact ⟨vpi h1 (by omega) (by omega), vpi h1 (by omega) (by omega), un3_i (ih p (c + 1) (nC + 1) (pd - 1) _ _ (add1 h1 (by omega)) p1 (by omega) (fun k hk => h4 k (by omega)) (by omega))⟩
theorem x_settleB {b nC pd : Int32} {pile pat op ar : Nat → Int32} (hb : 1 ≤ b.toInt) (h : WBd nC pd pile pat) {Q : (Int32 × Int32 × (Nat → Int32) × (Nat → Int32)) → Prop} (hq : ∀ (nC pd : Int32) (op ar : Nat → Int32) (c : Nat), nC.toInt = (c : Int) → c ≤ 400 → Q (nC, pd, op, ar)) : wp_X12_settle b nC pd pile op ar pat Q := by
  obtain ⟨c, p, h1, h2, h3, h4⟩ := h
  unfold wp_X12_settle
  exact x_settleB0 hb (fun nC pd op ar c a b => hq nC pd op ar c a b) _ p c nC pd op ar h1 h2 h3 h4 (by omega)
/-- the innermost bracket: 0 without -/
def inn : List (Nat × Nat) → Nat
  | [] => 0
  | (o, _) :: r => if 31 ≤ o then o else inn r
theorem inn_s {pile pat : Nat → Int32} : ∀ {P : List (Nat × Nat)}, RepP pile pat P → ((∀ k, k < P.length → (pile k).toInt ≤ 30) → inn P = 0) ∧ (∀ k, k < P.length → 31 ≤ (pile k).toInt → (∀ j, k < j → j < P.length → (pile j).toInt ≤ 30) → (pile k).toInt = (inn P : Int)) := by
  intro P
  induction P with
  | nil => intro _; exact ⟨fun _ => rfl, fun k hk => absurd hk (Nat.not_lt_zero _)⟩
  | cons y r ih =>
    obtain ⟨o, a⟩ := y
    intro h
    obtain ⟨h1, h2, h3⟩ := h
    obtain ⟨i1, i2⟩ := ih h3
    have e : inn ((o, a) :: r) = if 31 ≤ o then o else inn r := rfl
    have el : ((o, a) :: r).length = r.length + 1 := rfl
    rw [e, el]
    refine ⟨fun q => ?_, fun k hk k1 k2 => ?_⟩
    · have := q r.length (by omega)
      rw [if_neg (by omega)]
      exact i1 (fun k hk => q k (by omega))
    · by_cases ck : k = r.length
      · rw [ck] at k1 ⊢
        rw [if_pos (by omega)]; exact h1
      · have := k2 r.length (by omega) (by omega)
        rw [if_neg (by omega)]
        exact i2 k (by omega) k1 (fun j j1 j2 => k2 j j1 (by omega))
theorem x_inner {pd : Int32} {pile pat : Nat → Int32} {P : List (Nat × Nat)} (h : RepP pile pat P) (hp : pd.toInt = (P.length : Int)) (h4 : P.length ≤ 400) {Q : Int32 → Prop} (h0 : inn P = 0 → Q (-1)) (h1 : ∀ r : Int32, r.toInt = (inn P : Int) → 31 ≤ inn P → Q r) : wp_X12_inner pd pile Q := by
  refine s_inner hp h4 (fun v hv => ?_)
  obtain ⟨i1, i2⟩ := inn_s h
  rcases hv with ⟨e, g⟩ | ⟨k, k1, k2, k3, k4⟩
  · rw [e]; exact h0 (i1 g)
  · have := i2 k k1 k3 k4
    refine h1 v (by rw [k2]; exact this) (by omega)
/-- a sign of comparison stands right ahead -/
def cmpd : List (Nat × Nat) → Bool
  | [] => false
  | (o, _) :: r => if o ≤ 24 then cmpd r else decide (25 ≤ o ∧ o ≤ 27)
theorem x_isCompared0 {pile pat : Nat → Int32} {Qb : Int32 → Prop} : ∀ (P : List (Nat × Nat)) (m : Nat) (x : Int32), RepP pile pat P → (∀ y ∈ P, 20 ≤ y.1 ∧ y.1 ≤ 32) → P.length ≤ 400 → x.toInt = (P.length : Int) - 1 → P.length < m → (∀ z : Int32, (z.toInt = -1 ∧ cmpd P = false) ∨ (∃ k o : Nat, z.toInt = (k : Int) ∧ k < 400 ∧ (pile k).toInt = (o : Int) ∧ 25 ≤ o ∧ cmpd P = decide (25 ≤ o ∧ o ≤ 27)) → Qb z) → wl_X12_isCompared_7 pile Qb m x := by
  intro P
  induction P with
  | nil =>
    intro m x h hg h4 hx hm K
    cases m with
    | zero => exact absurd hm (Nat.not_lt_zero _)
    | succ m =>
      unfold wl_X12_isCompared_7
      have hx : x.toInt = -1 := hx
      exact br1 (z_lt (y := 0) hx rfl (by omega)) (K x (Or.inl ⟨hx, rfl⟩))
  | cons y r ih =>
    obtain ⟨o, a⟩ := y
    intro m x h hg h4 hx hm K
    obtain ⟨h1, h2, h3⟩ := h
    have el : ((o, a) :: r).length = r.length + 1 := rfl
    rw [el] at hx h4 hm
    have hx : x.toInt = (r.length : Int) := by omega
    obtain ⟨g1, g2⟩ := hg (o, a) List.mem_cons_self
    have e : cmpd ((o, a) :: r) = if o ≤ 24 then cmpd r else decide (25 ≤ o ∧ o ≤ 27) := rfl
    cases m with
    | zero => exact absurd hm (Nat.not_lt_zero _)
    | succ m =>
      unfold wl_X12_isCompared_7
      refine br0 (z_nlt (y := 0) hx rfl (by omega)) ⟨vpi hx (by omega) (by omega), ?_⟩
      rw [tnN hx]
      refine e_in (fun k1 k2 => ?_) (fun k0 => ?_)
      · have k2 : (pile r.length).toInt64.toInt ≤ 24 := k2
        rw [i2l_z h1] at k2
        refine br0 (by decide) ?_
        obtain ⟨x2, ex2, xm⟩ : ∃ x2 : Int32, x + (-1) = x2 ∧ x2.toInt = (r.length : Int) - 1 := ⟨_, rfl, (add_z (a := x) (b := -1) (y := -1) hx rfl (by omega) (by omega)).trans (by omega)⟩
        rw [ex2]
        clear ex2
        refine ih m x2 h3 (fun y hy => hg y (List.mem_cons_of_mem _ hy)) (by omega) xm (by omega) (fun z hz => K z ?_)
        rw [e, if_pos (by omega)]
        exact hz
      · have k0 : ¬ ((20 : Int) ≤ (pile r.length).toInt64.toInt ∧ (pile r.length).toInt64.toInt ≤ 24) := k0
        rw [i2l_z h1] at k0
        refine br1 rfl (K x (Or.inr ⟨r.length, o, hx, by omega, h1, by omega, ?_⟩))
        rw [e, if_neg (by omega)]
theorem x_isCompared {pd : Int32} {pile pat : Nat → Int32} {P : List (Nat × Nat)} (h : RepP pile pat P) (hg : ∀ y ∈ P, 20 ≤ y.1 ∧ y.1 ≤ 32) (hp : pd.toInt = (P.length : Int)) (h4 : P.length ≤ 400) {Q : Int32 → Prop} (h0 : cmpd P = false → Q 0) (h1 : cmpd P = true → Q 1) : wp_X12_isCompared pd pile Q := by
  unfold wp_X12_isCompared
  have e1 : (pd - 1).toInt = (P.length : Int) - 1 := by
    have := sub_z (a := pd) (b := 1) (y := 1) hp rfl (by omega) (by omega)
    rw [this]
  refine x_isCompared0 P _ _ h hg h4 e1 (by omega) (fun z hz => ?_)
  rcases hz with ⟨z1, z2⟩ | ⟨k, o, z1, z4, z2, z5, z3⟩
  · exact br1 (z_lt (y := 0) z1 rfl (by omega)) (h0 z2)
  · refine br0 (z_nlt (y := 0) z1 rfl (by omega)) ⟨vpi z1 (by omega) (by omega), ?_⟩
    rw [tnN z1]
    refine e_in (fun k1 k2 => ?_) (fun k0 => ?_)
    · have k2 : (pile k).toInt64.toInt ≤ 27 := k2
      rw [i2l_z z2] at k2
      refine br0 (by decide) (h1 ?_)
      rw [z3]; exact decide_eq_true ⟨z5, by omega⟩
    · have k0 : ¬ ((25 : Int) ≤ (pile k).toInt64.toInt ∧ (pile k).toInt64.toInt ≤ 27) := k0
      rw [i2l_z z2] at k0
      refine br1 rfl (h0 ?_)
      rw [z3]; exact decide_eq_false (by omega)
/-- a word out of a row of words -/
def VOK (t : Int) (tb : Nat → Nat) (dl : Int) (j : Nat) (v : Int32) : Prop := (v = -1 ∧ ∀ k, k < j → ¬ t = (tb k : Int)) ∨ ∃ k, k < j ∧ t = (tb k : Int) ∧ v.toInt = (k : Int) + dl
theorem VOK.next {t : Int} {tb : Nat → Nat} {dl : Int} {j : Nat} {v : Int32} (h : VOK t tb dl j v) (hn : ¬ t = (tb j : Int)) : VOK t tb dl (j + 1) v := by
  rcases h with ⟨h1, h2⟩ | ⟨k, k1, k2⟩
  · refine Or.inl ⟨h1, fun k hk => ?_⟩
    by_cases e : k = j
    · rw [e]; exact hn
    · exact h2 k (by omega)
  · exact Or.inr ⟨k, by omega, k2⟩
theorem x_partAt0 {t : Int} {sort : Int32} {worth : Int64} (hM : MT t sort worth) {ws : Nat → Int64} {tb : Nat → Nat} (hW : ∀ k, k < 9 → (ws k).toInt = lx_wc (tb k) ∧ tb k < 29) {Qb : Int32 → Int32 → Prop} (K : ∀ x v : Int32, VOK t tb 1 9 v → Qb x v) : ∀ (m j : Nat) (x v : Int32), x.toInt = (j : Int) → j ≤ 9 → VOK t tb 1 j v → 9 - j < m → wl_X12_partAt_4 sort worth ws Qb m x v := by
  intro m
  induction m with
  | zero => intro j x v h1 h2 h3 h4; exact absurd h4 (Nat.not_lt_zero _)
  | succ m ih =>
    intro j x v h1 h2 h3 h4
    unfold wl_X12_partAt_4
    by_cases c : 9 ≤ x
    · have c' := le_z (x := 9) rfl h1 c
      have e : j = 9 := by omega
      rw [e] at h3
      exact br1 c (K x v h3)
    · have c' := nle_z (x := 9) rfl h1 c
      refine br0 c ⟨vpi h1 (by omega) (by omega), ?_⟩
      rw [tnN h1]
      have e1 := add1 h1 (by omega)
      refine mt_word hM (hW j (by omega)).2 (hW j (by omega)).1 (fun e => ?_) (fun e => ?_)
      · refine br0 (by decide) (ih (j + 1) (x + 1) _ e1 (by omega) (Or.inr ⟨j, by omega, e, ?_⟩) (by omega))
        rw [e1]; omega
      · exact br1 rfl (ih (j + 1) (x + 1) _ e1 (by omega) (h3.next e) (by omega))
theorem x_orderPartAt0 {t : Int} {sort : Int32} {worth : Int64} (hM : MT t sort worth) {ws : Nat → Int64} {tb : Nat → Nat} (hW : ∀ k, k < 6 → (ws k).toInt = lx_wc (tb k) ∧ tb k < 29) {Qb : Int32 → Int32 → Prop} (K : ∀ x v : Int32, VOK t tb 1 6 v → Qb x v) : ∀ (m j : Nat) (x v : Int32), x.toInt = (j : Int) → j ≤ 6 → VOK t tb 1 j v → 6 - j < m → wl_X12_orderPartAt_4 sort worth ws Qb m x v := by
  intro m
  induction m with
  | zero => intro j x v h1 h2 h3 h4; exact absurd h4 (Nat.not_lt_zero _)
  | succ m ih =>
    intro j x v h1 h2 h3 h4
    unfold wl_X12_orderPartAt_4
    by_cases c : 6 ≤ x
    · have c' := le_z (x := 6) rfl h1 c
      have e : j = 6 := by omega
      rw [e] at h3
      exact br1 c (K x v h3)
    · have c' := nle_z (x := 6) rfl h1 c
      refine br0 c ⟨vpi h1 (by omega) (by omega), ?_⟩
      rw [tnN h1]
      have e1 := add1 h1 (by omega)
      refine mt_word hM (hW j (by omega)).2 (hW j (by omega)).1 (fun e => ?_) (fun e => ?_)
      · refine br0 (by decide) (ih (j + 1) (x + 1) _ e1 (by omega) (Or.inr ⟨j, by omega, e, ?_⟩) (by omega))
        rw [e1]; omega
      · exact br1 rfl (ih (j + 1) (x + 1) _ e1 (by omega) (h3.next e) (by omega))
theorem x_rl40 {t : Int} {sort : Int32} {worth : Int64} (hM : MT t sort worth) {ws : Nat → Int64} {tb : Nat → Nat} (hW : ∀ k, k < 5 → (ws k).toInt = lx_wc (tb k) ∧ tb k < 29) {Qb : Int32 → Int32 → Prop} (K : ∀ x v : Int32, VOK t tb 0 5 v → Qb x v) : ∀ (m j : Nat) (x v : Int32), x.toInt = (j : Int) → j ≤ 5 → VOK t tb 0 j v → 5 - j < m → wl_X12_readLaw_4 sort worth ws Qb m x v := by
  intro m
  induction m with
  | zero => intro j x v h1 h2 h3 h4; exact absurd h4 (Nat.not_lt_zero _)
  | succ m ih =>
    intro j x v h1 h2 h3 h4
    unfold wl_X12_readLaw_4
    by_cases c : 5 ≤ x
    · have c' := le_z (x := 5) rfl h1 c
      have e : j = 5 := by omega
      rw [e] at h3
      exact br1 c (K x v h3)
    · have c' := nle_z (x := 5) rfl h1 c
      refine br0 c ⟨vpi h1 (by omega) (by omega), ?_⟩
      rw [tnN h1]
      have e1 := add1 h1 (by omega)
      refine mt_word hM (hW j (by omega)).2 (hW j (by omega)).1 (fun e => ?_) (fun e => ?_)
      · refine br0 (by decide) (ih (j + 1) (x + 1) _ e1 (by omega) (Or.inr ⟨j, by omega, e, ?_⟩) (by omega))
        omega
      · exact br1 rfl (ih (j + 1) (x + 1) _ e1 (by omega) (h3.next e) (by omega))
theorem x_ro40 {t : Int} {sort : Int32} {worth : Int64} (hM : MT t sort worth) {ws : Nat → Int64} {tb : Nat → Nat} (hW : ∀ k, k < 4 → (ws k).toInt = lx_wc (tb k) ∧ tb k < 29) {Qb : Int32 → Int32 → Prop} (K : ∀ x v : Int32, VOK t tb 0 4 v → Qb x v) : ∀ (m j : Nat) (x v : Int32), x.toInt = (j : Int) → j ≤ 4 → VOK t tb 0 j v → 4 - j < m → wl_X12_readOrder_4 sort worth ws Qb m x v := by
  intro m
  induction m with
  | zero => intro j x v h1 h2 h3 h4; exact absurd h4 (Nat.not_lt_zero _)
  | succ m ih =>
    intro j x v h1 h2 h3 h4
    unfold wl_X12_readOrder_4
    by_cases c : 4 ≤ x
    · have c' := le_z (x := 4) rfl h1 c
      have e : j = 4 := by omega
      rw [e] at h3
      exact br1 c (K x v h3)
    · have c' := nle_z (x := 4) rfl h1 c
      refine br0 c ⟨vpi h1 (by omega) (by omega), ?_⟩
      rw [tnN h1]
      have e1 := add1 h1 (by omega)
      refine mt_word hM (hW j (by omega)).2 (hW j (by omega)).1 (fun e => ?_) (fun e => ?_)
      · refine br0 (by decide) (ih (j + 1) (x + 1) _ e1 (by omega) (Or.inr ⟨j, by omega, e, ?_⟩) (by omega))
        omega
      · exact br1 rfl (ih (j + 1) (x + 1) _ e1 (by omega) (h3.next e) (by omega))
