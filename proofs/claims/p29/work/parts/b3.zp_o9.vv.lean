/-! what lies in a vein -/
def swF (w : Nat → Int) (p : Nat → Bool) : Nat → Int
  | 0 => 0
  | k + 1 => swF w p k + (if p k = true then w (73 + k) else 0)
def csF (w : Nat → Int) (p : Nat → Bool) : Nat → Int
  | 0 => 0
  | k + 1 => csF w p k + (if p (w (10 + k)).toNat = true then 1 else 0)
theorem swF_b {w : Nat → Int} {p : Nat → Bool} (h : ∀ k, k < 40 → 0 ≤ w (73 + k) ∧ w (73 + k) ≤ 99) : ∀ k, k ≤ 40 → 0 ≤ swF w p k ∧ swF w p k ≤ 99 * (k : Int) := by
  intro k
  induction k with
  | zero => intro _; exact ⟨Int.le_refl _, Int.le_refl _⟩
  | succ k ih =>
    intro hk
    have q := ih (by omega)
    have e := h k (by omega)
    show 0 ≤ swF w p k + (if p k = true then w (73 + k) else 0) ∧ swF w p k + (if p k = true then w (73 + k) else 0) ≤ 99 * ((k + 1 : Nat) : Int)
    split <;> omega
theorem csF_b {w : Nat → Int} {p : Nat → Bool} : ∀ k, 0 ≤ csF w p k ∧ csF w p k ≤ k := by
  intro k
  induction k with
  | zero => exact ⟨Int.le_refl _, Int.le_refl _⟩
  | succ k ih =>
    show 0 ≤ csF w p k + (if p (w (10 + k)).toNat = true then 1 else 0) ∧ csF w p k + (if p (w (10 + k)).toNat = true then 1 else 0) ≤ ((k + 1 : Nat) : Int)
    split <;> omega
theorem x_wil {w : Nat → Int} {a : Int64} {wt : Nat → Int32} (hw : RkW wt 73 40 w) (hb : ∀ k, k < 40 → 0 ≤ w (73 + k) ∧ w (73 + k) ≤ 99) {Qb : Int32 → Int32 → Prop} (K : ∀ x s : Int32, s.toInt = swF w (bt a) 40 → Qb x s) : ∀ (m i : Nat) (x s : Int32), x.toInt = (i : Int) → i ≤ 40 → 40 - i < m → s.toInt = swF w (bt a) i → wl_X6_waterIn_5 a wt Qb m x s := by
  intro m
  induction m with
  | zero => intro i x s _ _ h; omega
  | succ m ih =>
    intro i x s hx hi hm hs
    unfold wl_X6_waterIn_5
    by_cases q : 40 ≤ x
    · have q' := le_z (x := 40) rfl hx q
      refine br1 q (K _ _ ?_)
      rw [show (40 : Nat) = i by omega]
      exact hs
    · have q' := nle_z (x := 40) rfl hx q
      have B := swF_b (p := bt a) hb i (by omega)
      have e := hb i (by omega)
      have ew : (wt i).toInt = w (73 + i) := hw i (by omega)
      refine br0 q ?_
      by_cases t : lg_cmp ((a >>> (x.toInt64 &&& 63)) &&& 1) 0 = 0
      · have t' := (cmp_bt hx (by omega)).mp t
        refine br1 t (ih (i + 1) _ _ (add1 hx (by omega)) (by omega) (by omega) ?_)
        show _ = swF w (bt a) i + (if bt a i = true then w (73 + i) else 0)
        rw [if_neg (by rw [t']; decide), hs]
        omega
      · have t' : bt a i = true := by
          cases g : bt a i with
          | true => rfl
          | false => exact absurd ((cmp_bt hx (by omega)).mpr g) t
        refine br0 t ⟨vpi hx (by omega) (by omega), ih (i + 1) _ _ (add1 hx (by omega)) (by omega) (by omega) ?_⟩
        rw [tnN hx, add_z hs ew (by omega) (by omega)]
        show _ = swF w (bt a) i + (if bt a i = true then w (73 + i) else 0)
        rw [if_pos t']
theorem x_cil {w : Nat → Int} {a : Int64} {cc : Int32} {ce : Nat → Int32} (hc : RkW ce 10 6 w) (hcc : cc.toInt = w 0) (h6 : 0 ≤ w 0 ∧ w 0 ≤ 6) (hb : ∀ k, k < 6 → 0 ≤ w (10 + k) ∧ w (10 + k) ≤ 39) {Qb : Int32 → Int32 → Prop} (K : ∀ x s : Int32, s.toInt = csF w (bt a) (w 0).toNat → Qb x s) : ∀ (m i : Nat) (x s : Int32), x.toInt = (i : Int) → (i : Int) ≤ w 0 → (w 0).toNat - i < m → s.toInt = csF w (bt a) i → wl_X1_countIn_5 a cc ce Qb m x s := by
  intro m
  induction m with
  | zero => intro i x s _ _ h; omega
  | succ m ih =>
    intro i x s hx hi hm hs
    unfold wl_X1_countIn_5
    by_cases q : cc ≤ x
    · have q' := le_z hcc hx q
      refine br1 q (K _ _ ?_)
      rw [show (w 0).toNat = i by omega]
      exact hs
    · have q' := nle_z hcc hx q
      have B := csF_b (w := w) (p := bt a) i
      have e := hb i (by omega)
      have ec : (ce i).toInt = (((w (10 + i)).toNat : Nat) : Int) := by rw [hc i (by omega)]; omega
      refine br0 q ⟨vpi hx (by omega) (by omega), ?_⟩
      rw [tnN hx]
      by_cases t : lg_cmp ((a >>> ((ce i).toInt64 &&& 63)) &&& 1) 0 = 0
      · have t' := (cmp_bt ec (by omega)).mp t
        refine br1 t (ih (i + 1) _ _ (add1 hx (by omega)) (by omega) (by omega) ?_)
        show _ = csF w (bt a) i + (if bt a (w (10 + i)).toNat = true then 1 else 0)
        rw [if_neg (by rw [t']; decide), hs]
        omega
      · have t' : bt a (w (10 + i)).toNat = true := by
          cases g : bt a (w (10 + i)).toNat with
          | true => rfl
          | false => exact absurd ((cmp_bt ec (by omega)).mpr g) t
        refine br0 t (ih (i + 1) _ _ (add1 hx (by omega)) (by omega) (by omega) ?_)
        rw [add_z (b := 1) (y := 1) hs rfl (by omega) (by omega)]
        show _ = csF w (bt a) i + (if bt a (w (10 + i)).toNat = true then 1 else 0)
        rw [if_pos t']
theorem x_wi {w : Nat → Int} {a : Int64} {wt : Nat → Int32} (hw : RkW wt 73 40 w) (hb : ∀ k, k < 40 → 0 ≤ w (73 + k) ∧ w (73 + k) ≤ 99) {Q : Int32 → Prop} (hq : ∀ r : Int32, r.toInt = swF w (bt a) 40 → Q r) : wp_X6_waterIn a wt Q := by
  unfold wp_X6_waterIn
  exact x_wil hw hb (fun x s hs => hq s hs) _ 0 _ _ rfl (by omega) (by omega) rfl
theorem x_ci {w : Nat → Int} {a : Int64} {cc : Int32} {ce : Nat → Int32} (hc : RkW ce 10 6 w) (hcc : cc.toInt = w 0) (h6 : 0 ≤ w 0 ∧ w 0 ≤ 6) (hb : ∀ k, k < 6 → 0 ≤ w (10 + k) ∧ w (10 + k) ≤ 39) {Q : Int32 → Prop} (hq : ∀ r : Int32, r.toInt = csF w (bt a) (w 0).toNat → Q r) : wp_X1_countIn a cc ce Q := by
  unfold wp_X1_countIn
  exact x_cil hc hcc h6 hb (fun x s hs => hq s hs) _ 0 _ _ rfl (by omega) (by omega) rfl
theorem x_mwol {row : Nat → Int32} {w : Nat → Int} (hR : RMw row w) {a : Int64} (hb : ∀ k, k < 40 → 0 ≤ w (73 + k) ∧ w (73 + k) ≤ 99) {Qb : Int32 → Int32 → Prop} (K : ∀ x s : Int32, s.toInt = swF w (bt a) 40 → Qb x s) : ∀ (m i : Nat) (x s : Int32), x.toInt = (i : Int) → i ≤ 40 → 40 - i < m → s.toInt = swF w (bt a) i → wl_X12_waterOf_5 a row Qb m x s := by
  intro m
  induction m with
  | zero => intro i x s _ _ h; omega
  | succ m ih =>
    intro i x s hx hi hm hs
    unfold wl_X12_waterOf_5
    by_cases q : 40 ≤ x
    · have q' := le_z (x := 40) rfl hx q
      refine br1 q (K _ _ ?_)
      rw [show (40 : Nat) = i by omega]
      exact hs
    · have q' := nle_z (x := 40) rfl hx q
      have B := swF_b (p := bt a) hb i (by omega)
      have e := hb i (by omega)
      have x1 : (73 + x).toInt = ((73 + i : Nat) : Int) := by rw [add_z (a := 73) (x := 73) rfl hx (by omega) (by omega)]; omega
      have ew : (row (73 + i)).toInt = w (73 + i) := hR _ (by omega)
      refine br0 q (e_is hx (by omega) (fun h => ?_) (fun h => ?_))
      · refine br0 (by decide) ⟨vpi x1 (by omega) (by omega), ?_⟩
        rw [tnN x1]
        refine ih (i + 1) _ _ (add1 hx (by omega)) (by omega) (by omega) ?_
        rw [add_z hs ew (by omega) (by omega)]
        show _ = swF w (bt a) i + (if bt a i = true then w (73 + i) else 0)
        rw [if_pos h]
      · refine br1 rfl (ih (i + 1) _ _ (add1 hx (by omega)) (by omega) (by omega) ?_)
        rw [add_z (b := 0) (y := 0) hs rfl (by omega) (by omega)]
        show _ = swF w (bt a) i + (if bt a i = true then w (73 + i) else 0)
        rw [if_neg h]
theorem x_msil {row : Nat → Int32} {w : Nat → Int} (hR : RMw row w) {a : Int64} (h6 : 0 ≤ w 0 ∧ w 0 ≤ 6) (hb : ∀ k, k < 6 → 0 ≤ w (10 + k) ∧ w (10 + k) ≤ 39) {Qb : Int32 → Int32 → Prop} (K : ∀ x s : Int32, s.toInt = csF w (bt a) (w 0).toNat → Qb x s) : ∀ (m i : Nat) (x s : Int32), x.toInt = (i : Int) → (i : Int) ≤ w 0 → (w 0).toNat - i < m → s.toInt = csF w (bt a) i → wl_X12_shaftsIn_5 a row Qb m x s := by
  intro m
  induction m with
  | zero => intro i x s _ _ h; omega
  | succ m ih =>
    intro i x s hx hi hm hs
    unfold wl_X12_shaftsIn_5
    have z0 : (row (0 : Int32).toNatClampNeg).toInt = w 0 := hR 0 (by decide)
    by_cases q : row (0 : Int32).toNatClampNeg ≤ x
    · have q' := le_z z0 hx q
      refine br1 q (K _ _ ?_)
      rw [show (w 0).toNat = i by omega]
      exact hs
    · have q' := nle_z z0 hx q
      have B := csF_b (w := w) (p := bt a) i
      have e := hb i (by omega)
      have x1 : (10 + x).toInt = ((10 + i : Nat) : Int) := by rw [add_z (a := 10) (x := 10) rfl hx (by omega) (by omega)]; omega
      have ec : (row (10 + i)).toInt = (((w (10 + i)).toNat : Nat) : Int) := by rw [hR _ (by omega)]; omega
      refine br0 q ⟨vpi x1 (by omega) (by omega), ?_⟩
      rw [tnN x1]
      refine e_is ec (by omega) (fun h => ?_) (fun h => ?_)
      · refine br0 (by decide) (ih (i + 1) _ _ (add1 hx (by omega)) (by omega) (by omega) ?_)
        rw [add_z (b := 1) (y := 1) hs rfl (by omega) (by omega)]
        show _ = csF w (bt a) i + (if bt a (w (10 + i)).toNat = true then 1 else 0)
        rw [if_pos h]
      · refine br1 rfl (ih (i + 1) _ _ (add1 hx (by omega)) (by omega) (by omega) ?_)
        rw [add_z (b := 0) (y := 0) hs rfl (by omega) (by omega)]
        show _ = csF w (bt a) i + (if bt a (w (10 + i)).toNat = true then 1 else 0)
        rw [if_neg h]
theorem x_mwo {row : Nat → Int32} {w : Nat → Int} (hR : RMw row w) {a : Int64} (hb : ∀ k, k < 40 → 0 ≤ w (73 + k) ∧ w (73 + k) ≤ 99) {Q : Int32 → Prop} (hq : ∀ r : Int32, r.toInt = swF w (bt a) 40 → Q r) : wp_X12_waterOf a row Q := by
  unfold wp_X12_waterOf
  exact x_mwol hR hb (fun x s hs => hq s hs) _ 0 _ _ rfl (by omega) (by omega) rfl
theorem x_msi {row : Nat → Int32} {w : Nat → Int} (hR : RMw row w) {a : Int64} (h6 : 0 ≤ w 0 ∧ w 0 ≤ 6) (hb : ∀ k, k < 6 → 0 ≤ w (10 + k) ∧ w (10 + k) ≤ 39) {Q : Int32 → Prop} (hq : ∀ r : Int32, r.toInt = csF w (bt a) (w 0).toNat → Q r) : wp_X12_shaftsIn a row Q := by
  unfold wp_X12_shaftsIn
  exact x_msil hR h6 hb (fun x s hs => hq s hs) _ 0 _ _ rfl (by omega) (by omega) rfl
