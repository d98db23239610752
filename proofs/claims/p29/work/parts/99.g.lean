/-! gangs of the reference -/
def gw : Nat → Int
  | 0 => 1000000
  | 1 => 100000
  | 2 => 10000
  | 3 => 1000
  | 4 => 100
  | 5 => 10
  | _ => 1
theorem gw_10 {k : Nat} (h : k < 6) : gw k = 10 * gw (k + 1) := by
  have : k = 0 ∨ k = 1 ∨ k = 2 ∨ k = 3 ∨ k = 4 ∨ k = 5 := by omega
  rcases this with rfl | rfl | rfl | rfl | rfl | rfl <;> rfl
theorem gw_p (k : Nat) : 1 ≤ gw k ∧ gw k ≤ 1000000 := by
  unfold gw
  split <;> decide
/-- what is still to be gone through -/
def MS (f : Nat → Int32) (a : Int) : Nat → Int
  | 0 => 0
  | i + 1 => MS f a i + (a + 1 - (f i).toInt) * gw i
theorem MS_u {f : Nat → Int32} {a : Int} {n : Nat} {v : Int32} : ∀ k, k ≤ n → MS (upd f n v) a k = MS f a k := by
  intro k
  induction k with
  | zero => intro _; rfl
  | succ k ih =>
    intro h
    show MS (upd f n v) a k + (a + 1 - (upd f n v k).toInt) * gw k = MS f a k + (a + 1 - (f k).toInt) * gw k
    rw [ih (by omega), pk_un (by omega)]
theorem MS_0 {f : Nat → Int32} {a : Int} : ∀ k, (∀ i, i < k → (f i).toInt ≤ a) → 0 ≤ MS f a k := by
  intro k
  induction k with
  | zero => intro _; exact Int.le_refl 0
  | succ k ih =>
    intro h
    have h1 := ih (fun i hi => h i (by omega))
    have h2 := h k (by omega)
    have h3 : 0 ≤ (a + 1 - (f k).toInt) * gw k := Int.mul_nonneg (by omega) (by have := gw_p k; omega)
    show 0 ≤ MS f a k + (a + 1 - (f k).toInt) * gw k
    omega
theorem MS_s {f : Nat → Int32} {a : Int} {k : Nat} {v : Int32} (hv : v.toInt = (f k).toInt + 1) : MS (upd f k v) a (k + 1) = MS f a (k + 1) - gw k := by
  show MS (upd f k v) a k + (a + 1 - (upd f k v k).toInt) * gw k = MS f a k + (a + 1 - (f k).toInt) * gw k - gw k
  rw [MS_u k (Nat.le_refl k), pk_us, hv]
  have e : a + 1 - ((f k).toInt + 1) = (a + 1 - (f k).toInt) - 1 := by omega
  rw [e, Int.sub_mul, Int.one_mul]
  omega
theorem MS_d {f : Nat → Int32} {a : Int} {k : Nat} (h : (f k).toInt ≤ a) : MS f a k + gw k ≤ MS f a (k + 1) := by
  show MS f a k + gw k ≤ MS f a k + (a + 1 - (f k).toInt) * gw k
  have h3 : 1 * gw k ≤ (a + 1 - (f k).toInt) * gw k := Int.mul_le_mul_of_nonneg_right (by omega) (by have := gw_p k; omega)
  rw [Int.one_mul] at h3
  omega
theorem MS_p {f : Nat → Int32} {a : Int} {k : Nat} (h0 : 0 ≤ a) (h6 : a ≤ 6) : MS (upd f k (-1)) a (k + 1) ≤ MS f a k + 8 * gw k := by
  show MS (upd f k (-1)) a k + (a + 1 - (upd f k (-1) k).toInt) * gw k ≤ _
  rw [MS_u k (Nat.le_refl k), pk_us]
  have e : (-1 : Int32).toInt = -1 := by decide
  rw [e]
  have h3 : (a + 1 - (-1)) * gw k ≤ 8 * gw k := Int.mul_le_mul_of_nonneg_right (by omega) (by have := gw_p k; omega)
  omega
/-- the first k shafts have their goals -/
def GD (f : Nat → Int32) (a : Int) (k : Nat) : Prop := ∀ i, i < k → 0 ≤ (f i).toInt ∧ (f i).toInt ≤ a
theorem sl_wg8 {a b : Int32} {g dd : Nat → Int32} {n : Nat} (ha : a.toInt = (n : Int)) (n6 : n ≤ 6) (b0 : 0 ≤ b.toInt) (b6 : b.toInt ≤ 6) (hG : GD g b.toInt n) {Qb : Int32 → Int32 → Int32 → Prop} (K : ∀ x y z : Int32, Qb x y z) : ∀ (m i : Nat) (x y z : Int32), x.toInt = (i : Int) → i ≤ n → n - i < m → wl_X12_weighGangs_8 a b g dd Qb m x y z := by
  intro m
  induction m with
  | zero => intro i x y z _ _ h; omega
  | succ m ih =>
    intro i x y z hx hi hm
    unfold wl_X12_weighGangs_8
    by_cases d : a ≤ x
    · exact br1 d (K _ _ _)
    · have d' := nle_z rfl rfl d
      have x1 := add1 hx (by omega)
      have gi := hG i (by omega)
      refine br0 d ⟨vpi hx (by omega) (by omega), ?_⟩
      rw [tnN hx]
      refine jn1_i (fun _ => True) (fun w _ => ?_) (fun w hw => ?_)
      · refine ⟨vpi hx (by omega) (by omega), ?_⟩
        by_cases e : g i = b
        · exact br1 e (ih (i + 1) _ _ _ x1 (by omega) (by omega))
        · exact br0 e (ih (i + 1) _ _ _ x1 (by omega) (by omega))
      · by_cases e : g i = b
        · exact br1 e (hw _ trivial)
        · have e' := ne_z rfl rfl e
          have m6 : (6 * x).toInt = 6 * x.toInt := mul_z rfl rfl (by omega) (by omega)
          have m7 : (6 * x + g i).toInt = (6 * x).toInt + (g i).toInt := add_z rfl rfl (by omega) (by omega)
          exact br0 e ⟨vpi hx (by omega) (by omega), vpi m7 (by omega) (by omega), hw _ trivial⟩
theorem sl_wg99 {a b : Int32} {g gl : Nat → Int32} {n : Nat} (ha : a.toInt = (n : Int)) (n6 : n ≤ 6) (b0 : 0 ≤ b.toInt) (b6 : b.toInt ≤ 6) (hG : GD g b.toInt n) {Qb : Int32 → (Nat → Int32) → Prop} (K : ∀ (x : Int32) (f : Nat → Int32), Qb x f) : ∀ (m i : Nat) (x : Int32) (f : Nat → Int32), x.toInt = (i : Int) → i ≤ n → n - i < m → wl_X12_weighGangs_99 a b g gl Qb m x f := by
  intro m
  induction m with
  | zero => intro i x f _ _ h; omega
  | succ m ih =>
    intro i x f hx hi hm
    unfold wl_X12_weighGangs_99
    by_cases d : a ≤ x
    · exact br1 d (K _ _)
    · have d' := nle_z rfl rfl d
      have x1 := add1 hx (by omega)
      have gi := hG i (by omega)
      refine br0 d ⟨vpi hx (by omega) (by omega), ?_⟩
      rw [tnN hx]
      by_cases e : g i = b
      · exact br1 e ⟨vpi hx (by omega) (by omega), ih (i + 1) _ _ x1 (by omega) (by omega)⟩
      · have e' := ne_z rfl rfl e
        exact br0 e ⟨vpi hx (by omega) (by omega), vpi rfl (by omega) (by omega), vpi hx (by omega) (by omega), ih (i + 1) _ _ x1 (by omega) (by omega)⟩
theorem s_weighF {a b fd : Int32} {g dd gl bg : Nat → Int32} {n : Nat} (ha : a.toInt = (n : Int)) (n6 : n ≤ 6) (b0 : 0 ≤ b.toInt) (b6 : b.toInt ≤ 6) (hG : GD g b.toInt n) {Q : (Int32 × (Nat → Int32)) → Prop} (hq : ∀ (fd' : Int32) (bg' : Nat → Int32), Q (fd', bg')) : wp_X12_weighGangs a b fd g dd gl bg Q := by
  unfold wp_X12_weighGangs
  refine sl_wg8 ha n6 b0 b6 hG (fun x y z => ?_) _ 0 0 0 0 rfl (by omega) (by omega)
  by_cases c : y = b
  · refine br1 c ?_
    by_cases d : fd ≤ z
    · exact br1 d (hq _ _)
    · exact br0 d (sl_wg99 ha n6 b0 b6 hG (fun x f => hq _ _) _ 0 0 bg rfl (by omega) (by omega))
  · exact br0 c (hq _ _)
theorem sl_if4 {a : Int32} {g : Nat → Int32} (a0 : 0 ≤ a.toInt) (a6 : a.toInt ≤ 6) {Qb : Int32 → Int32 → Prop} (K : ∀ x y : Int32, B01 y → Qb x y) : ∀ (m : Nat) (x y : Int32), 0 ≤ x.toInt → x.toInt ≤ 6 → 6 - x.toInt < m → B01 y → wl_X12_isFree_4 a g Qb m x y := by
  intro m
  induction m with
  | zero => intro x y x0 x6 xm; exfalso; have xm : 6 - x.toInt < 0 := xm; omega
  | succ m ih =>
    intro x y x0 x6 xm hy
    unfold wl_X12_isFree_4
    by_cases d : a ≤ x
    · exact br1 d (K _ _ hy)
    · have d' := nle_z rfl rfl d
      have x1 := li_1 (x := x) (hi := 6) (by omega) (by omega)
      refine br0 d ?_
      by_cases e : y = 0
      · exact br1 e (ih _ _ (by omega) (by omega) (by omega) (Or.inl rfl))
      · refine br0 e ⟨vpi rfl (by omega) (by omega), vpi rfl (by omega) (by omega), ?_⟩
        by_cases f : g x.toNatClampNeg = g a.toNatClampNeg
        · exact br1 f (ih _ _ (by omega) (by omega) (by omega) (Or.inl rfl))
        · exact br0 f (ih _ _ (by omega) (by omega) (by omega) (Or.inr rfl))
theorem s_freeF {a : Int32} {g : Nat → Int32} (a0 : 0 ≤ a.toInt) (a6 : a.toInt ≤ 6) {Q : Int32 → Prop} (hq : ∀ r : Int32, Q r) : wp_X12_isFree a g Q := by
  unfold wp_X12_isFree
  exact sl_if4 a0 a6 (fun x y h => ⟨h, hq _⟩) _ 0 1 (by decide) (by decide) (by decide) (Or.inr rfl)
theorem xm1 {x : Int32} (h : -100 ≤ x.toInt) : (x + (-1)).toInt = x.toInt - 1 := by
  have := add_z (a := x) (b := -1) (y := -1) rfl (by decide) (by omega) (by have := i32_hi x; omega)
  rw [this]; rfl
/-- where the search stands -/
def FG (f : Nat → Int32) (a : Int) (n m : Nat) (x : Int32) : Prop :=
  (x.toInt = -1 ∧ 0 < m) ∨ (∃ k : Nat, x.toInt = (k : Int) ∧ k < n ∧ GD f a k ∧ -1 ≤ (f k).toInt ∧ (f k).toInt ≤ a ∧ MS f a (k + 1) + 1 < m) ∨ (x.toInt = (n : Int) ∧ GD f a n ∧ MS f a n + 2 < m)
theorem FG.back {f : Nat → Int32} {a : Int} {n m k : Nat} {x : Int32} (hx : x.toInt = (k : Int) - 1) (hk : k ≤ n) (hG : GD f a k) (hm : MS f a k + 1 < m) (h1 : 0 < m) : FG f a n m x := by
  cases k with
  | zero => exact Or.inl ⟨by omega, h1⟩
  | succ k =>
    have g := hG k (by omega)
    exact Or.inr (Or.inl ⟨k, by omega, by omega, fun i hi => hG i (by omega), by omega, g.2, hm⟩)
theorem sl_fg23 {a : Int32} {row dd gl : Nat → Int32} {n : Nat} (hn : (row 0).toInt = (n : Int)) (n6 : n ≤ 6) (a0 : 0 ≤ a.toInt) (a6 : a.toInt ≤ 6) {Qb : Int32 → Int32 → (Nat → Int32) → (Nat → Int32) → Prop} (K : ∀ (x fd : Int32) (f bg : Nat → Int32), Qb x fd f bg) : ∀ (m : Nat) (x fd : Int32) (f bg : Nat → Int32), FG f a.toInt n m x → wl_X12_findGangs_23 a row dd gl Qb m x fd f bg := by
  intro m
  induction m with
  | zero =>
    intro x fd f bg h
    exfalso
    rcases h with ⟨_, h⟩ | ⟨k, _, _, hG, _, h2, h⟩ | ⟨_, hG, h⟩
    · omega
    · have := MS_0 (f := f) (a := a.toInt) (k + 1) (fun i hi => by
        by_cases e : i = k
        · rw [e]; exact h2
        · exact (hG i (by omega)).2)
      have h : MS f a.toInt (k + 1) + 1 < 0 := h
      omega
    · have := MS_0 (f := f) (a := a.toInt) n (fun i hi => (hG i hi).2)
      have h : MS f a.toInt n + 2 < 0 := h
      omega
  | succ m ih =>
    intro x fd f bg h
    unfold wl_X12_findGangs_23
    have mm : (((m + 1 : Nat)) : Int) = (m : Int) + 1 := by omega
    by_cases c : x < 0
    · exact br1 c (K _ _ _ _)
    · have c' := nlt_z (y := 0) rfl rfl c
      refine br0 c ?_
      have xm := xm1 (x := x) (by omega)
      generalize x + (-1) = xb at xm ⊢
      by_cases c2 : x = row (0 : Int32).toNatClampNeg
      · have c2' : x.toInt = (n : Int) := by rw [c2]; exact hn
        refine br1 c2 ?_
        obtain ⟨hG, hM⟩ : GD f a.toInt n ∧ MS f a.toInt n + 2 < (m : Int) + 1 := by
          rcases h with ⟨h1, _⟩ | ⟨k, h1, h2, _⟩ | ⟨_, h2, h3⟩
          · omega
          · omega
          · exact ⟨h2, by omega⟩
        have M0 := MS_0 (f := f) (a := a.toInt) n (fun i hi => (hG i hi).2)
        exact s_weighF (n := n) hn n6 a0 a6 hG (fun fd' bg' => un2_i (ih _ _ _ _ (FG.back (k := n) (by omega) (Nat.le_refl n) hG (by omega) (by omega))))
      · have c2' : ¬ x.toInt = (n : Int) := fun q => c2 (Int32.toInt_inj.mp (by rw [q]; exact hn.symm))
        obtain ⟨k, hx, hk, hG, g0, g1, hM⟩ : ∃ k : Nat, x.toInt = (k : Int) ∧ k < n ∧ GD f a.toInt k ∧ -1 ≤ (f k).toInt ∧ (f k).toInt ≤ a.toInt ∧ MS f a.toInt (k + 1) + 1 < (m : Int) + 1 := by
          rcases h with ⟨h1, _⟩ | ⟨k, h1, h2, h3, h4, h5, h6⟩ | ⟨h1, _⟩
          · omega
          · exact ⟨k, h1, h2, h3, h4, h5, by omega⟩
          · omega
        have v7 : vp_in x 7 := vpi hx (by omega) (by omega)
        have x1 := add1 hx (by omega)
        have v8 : vp_in (x + 1) 7 := vpi x1 (by omega) (by omega)
        refine br0 c2 ⟨v7, v7, v7, ?_⟩
        rw [tnN hx, tnN x1]
        have e1 : (f k + 1).toInt = (f k).toInt + 1 := add_z rfl rfl (by omega) (by omega)
        generalize f k + 1 = v at e1 ⊢
        have MA := MS_s (f := f) (a := a.toInt) (k := k) (v := v) e1
        have gp := gw_p k
        have G2 : GD (upd f k v) a.toInt k := fun i hi => by rw [pk_un (by omega)]; exact hG i hi
        have fk : upd f k v k = v := pk_us
        by_cases c3 : v ≤ a
        · have c3' := le_z rfl rfl c3
          have G3 : GD (upd f k v) a.toInt (k + 1) := fun i hi => by
            by_cases e : i = k
            · rw [e, fk]; exact ⟨by omega, c3'⟩
            · exact G2 i (by omega)
          have M1 := MS_0 (f := upd f k v) (a := a.toInt) (k + 1) (fun i hi => (G3 i hi).2)
          have DEEP : wl_X12_findGangs_23 a row dd gl Qb m (x + 1) fd (upd (upd f k v) (k + 1) (-1)) bg := by
            have GX : GD (upd (upd f k v) (k + 1) (-1)) a.toInt (k + 1) := fun i hi => by rw [pk_un (by omega)]; exact G3 i hi
            have MX := MS_u (f := upd f k v) (a := a.toInt) (n := k + 1) (v := -1) (k + 1) (Nat.le_refl _)
            have MP := MS_p (f := upd f k v) (a := a.toInt) (k := k + 1) a0 a6
            have g10 := gw_10 (k := k) (by omega)
            have gp1 := gw_p (k + 1)
            refine ih _ _ _ _ ?_
            by_cases e : k + 1 = n
            · refine Or.inr (Or.inr ⟨by omega, ?_, ?_⟩)
              · rw [← e]; exact GX
              · rw [← e]; omega
            · refine Or.inr (Or.inl ⟨k + 1, x1, by omega, GX, ?_, ?_, by omega⟩)
              · rw [pk_us]; decide
              · rw [pk_us]; have : (-1 : Int32).toInt = -1 := by decide
                omega
          have STAY : wl_X12_findGangs_23 a row dd gl Qb m x fd (upd f k v) bg := ih _ _ _ _ (Or.inr (Or.inl ⟨k, hx, hk, G2, by rw [fk]; omega, by rw [fk]; exact c3', by omega⟩))
          refine br1 c3 ⟨v7, ?_⟩
          by_cases c4 : v = a
          · exact br1 c4 ⟨v8, DEEP⟩
          · have c4' := ne_z rfl rfl c4
            have m6 : (6 * x).toInt = 6 * x.toInt := mul_z rfl rfl (by omega) (by omega)
            have m7 : (6 * x + v).toInt = (6 * x).toInt + v.toInt := add_z rfl rfl (by omega) (by omega)
            refine br0 c4 ⟨v7, vpi m7 (by omega) (by omega), ?_⟩
            by_cases c5 : 100000000 ≤ dd (6 * x + v).toNatClampNeg
            · exact br1 c5 STAY
            · refine br0 c5 (s_freeF (by omega) (by omega) (fun r => ?_))
              by_cases c6 : r = 0
              · exact br1 c6 STAY
              · exact br0 c6 ⟨v8, DEEP⟩
        · refine br0 c3 (ih _ _ _ _ (FG.back (k := k) (by omega) (by omega) G2 ?_ ?_))
          · have := MS_d (f := f) (a := a.toInt) (k := k) g1
            rw [MS_u k (Nat.le_refl k)]
            omega
          · have := MS_0 (f := f) (a := a.toInt) k (fun i hi => (hG i hi).2)
            have := MS_d (f := f) (a := a.toInt) (k := k) g1
            omega
theorem s_findGangsF {a : Int32} {row g dd gl bg : Nat → Int32} (hR : RLW row) (a0 : 0 ≤ a.toInt) (a6 : a.toInt ≤ 6) {Q : (Int32 × (Nat → Int32) × (Nat → Int32)) → Prop} (hq : ∀ (fd : Int32) (g' bg' : Nat → Int32), Q (fd, g', bg')) : wp_X12_findGangs a row g dd gl bg Q := by
  unfold wp_X12_findGangs
  have r0 := RLW.at_0 hR (n := 0) (z := 0) rfl (by omega) (by omega)
  obtain ⟨n, hn⟩ : ∃ n : Nat, (row 0).toInt = (n : Int) := ⟨(row 0).toInt.toNat, by omega⟩
  refine sl_fg23 hn (by omega) a0 a6 (fun x fd f b => hq _ _ _) _ 0 _ _ _ ?_
  by_cases e : n = 0
  · subst e
    exact Or.inr (Or.inr ⟨rfl, fun i hi => by omega, by show (0 : Int) + 2 < _; omega⟩)
  · have MP := MS_p (f := g) (a := a.toInt) (k := 0) a0 a6
    have z : MS g a.toInt 0 = 0 := rfl
    have g0 : gw 0 = 1000000 := rfl
    have m1 : (-1 : Int32).toInt = -1 := by decide
    refine Or.inr (Or.inl ⟨0, rfl, by omega, fun i hi => by omega, ?_, ?_, by omega⟩)
    · rw [pk_us]; omega
    · rw [pk_us]; omega
