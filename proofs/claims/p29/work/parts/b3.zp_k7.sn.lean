/-! SEASONS: what was drawn, how many BUCKETS there are together -/
def seaB (w : Nat → Int) (a b : Int) : Int := if (a < 0 ∨ 1000000 < a) ∨ (b < 1 ∨ 60 < b) then -1 else if w 0 = 0 then -3 else 0
def seaD (D : Option (Nat → Int)) (ls : Nat → List Cls) (w : Nat → Int) (a b : Int) : Option (Nat → Int) := if seaB w a b < 0 then D else some (seF ls b.toNat a w)
def RXn (dd cc : Int32) (ce bu : Nat → Int32) (D : Option (Nat → Int)) : Prop := match D with
  | none => dd.toInt = -1
  | some w => dd.toInt = w 7 ∧ 0 ≤ w 7 ∧ (cc.toInt = w 0 ∧ 0 ≤ w 0 ∧ w 0 ≤ 6) ∧ RkW ce 10 6 w ∧ RkW bu 16 6 w
theorem RXn.of {kd hd wt : Nat → Int32} {dg : Int64} {ce bu : Nat → Int32} {cc : Int32} {co ea : Nat → Int32} {ls : Int32} {nc nl : Nat → Int32} {ns hu : Int32} {hc hl : Nat → Int32} {hs : Int32} {so we : Nat → Int32} {wl : Int32} {te : Nat → Int32} {lc fo : Int32} {w : Nat → Int} (h : RXw kd hd wt dg ce bu cc co ea ls nc nl ns hu hc hl hs so we wl te lc fo w) {ce' bu' : Nat → Int32} (h7 : 0 ≤ (te (0 : Int32).toNatClampNeg).toInt) (h6 : 0 ≤ cc.toInt ∧ cc.toInt ≤ 6) : RXn (te (0 : Int32).toNatClampNeg) cc (va_cpy ce ce' 0 0 6) (va_cpy bu bu' 0 0 6) (some w) := by
  have e7 : (te (0 : Int32).toNatClampNeg).toInt = w 7 := h.te 0 (by decide)
  have e0 : cc.toInt = w 0 := h.cc
  exact ⟨e7, by omega, ⟨e0, by omega, by omega⟩, h.ce.cp, h.bu.cp⟩
theorem tlS_p {r : Int} (h : 0 ≤ r) : tlS r = 0 := if_neg (by omega)
theorem tlR_p {rf : Nat → Int32} {r : Int} (h : 0 ≤ r) : tlR rf r = rf := if_neg (by omega)
def sumB (f : Nat → Int) : Nat → Int
  | 0 => 0
  | n + 1 => sumB f n + f n
theorem sumB_mo {f g : Nat → Int} {n m : Nat} (hn : n = m) (h : ∀ i, i < n → f i ≤ g i) : sumB f n ≤ sumB g m := by
  subst hn
  induction n with
  | zero => exact Int.le_refl _
  | succ n ih =>
    have a := ih (fun i hi => h i (by omega))
    have b := h n (by omega)
    show sumB f n + f n ≤ sumB g n + g n
    omega
theorem sumB_b {f : Nat → Int} {n : Nat} (h : ∀ i, i < n → 0 ≤ f i ∧ f i ≤ 9999) : 0 ≤ sumB f n ∧ sumB f n ≤ 9999 * n := by
  induction n with
  | zero => exact ⟨Int.le_refl _, (show (0 : Int) ≤ 9999 * ((0 : Nat) : Int) by decide)⟩
  | succ n ih =>
    have a := ih (fun i hi => h i (by omega))
    have b := h n (by omega)
    show 0 ≤ sumB f n + f n ∧ sumB f n + f n ≤ _
    omega
theorem x_abl {ct : Int32} {bu : Nat → Int32} (hb : BU bu) (hc : 0 ≤ ct.toInt ∧ ct.toInt ≤ 6) {Qb : Int32 → Int32 → Prop} (K : ∀ x s : Int32, s.toInt = sumB (fun i => (bu i).toInt) ct.toInt.toNat → Qb x s) : ∀ (m i : Nat) (x s : Int32), x.toInt = (i : Int) → (i : Int) ≤ ct.toInt → ct.toInt.toNat - i < m → s.toInt = sumB (fun i => (bu i).toInt) i → wl_X1_allBuckets_4 ct bu Qb m x s := by
  intro m
  induction m with
  | zero => intro i x s _ _ h; omega
  | succ m ih =>
    intro i x s hx hi hm hs
    unfold wl_X1_allBuckets_4
    by_cases c : ct ≤ x
    · have c' := le_z rfl hx c
      exact br1 c (K _ _ (by rw [hs, show ct.toInt.toNat = i by omega]))
    · have c' := nle_z rfl hx c
      have b := sumB_b (f := fun i => (bu i).toInt) (n := i) (fun j hj => BU.at_0 hb (n := j) rfl (by omega) (by omega))
      have b2 := BU.at_0 hb (n := i) rfl (by omega) (by omega)
      refine br0 c ⟨vpi hx (by omega) (by omega), ?_⟩
      rw [tnN hx]
      exact ih (i + 1) _ _ (add1 hx (by omega)) (by omega) (by omega) (by rw [add_z hs rfl (by omega) (by omega)]; rfl)
theorem x_allB {ct : Int32} {bu : Nat → Int32} (hb : BU bu) (hc : 0 ≤ ct.toInt ∧ ct.toInt ≤ 6) {Q : Int32 → Prop} (hq : ∀ r : Int32, (0 ≤ r.toInt ∧ r.toInt ≤ 59994) ∧ r.toInt = sumB (fun i => (bu i).toInt) (ct.toInt).toNat → Q r) : wp_X1_allBuckets ct bu Q := by
  unfold wp_X1_allBuckets
  refine x_abl hb hc (fun x s hs => hq s ⟨?_, hs⟩) _ 0 0 0 rfl (by omega) (by omega) rfl
  have b := sumB_b (f := fun i => (bu i).toInt) (n := ct.toInt.toNat) (fun j hj => BU.at_0 hb (n := j) rfl (by omega) (by omega))
  omega
