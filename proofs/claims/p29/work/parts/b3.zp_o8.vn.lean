/-! veins: what both sides come to -/
def besB (c d : Nat) : Prop := (c % 8 = d % 8 ∧ (c / 8 + 1 = d / 8 ∨ d / 8 + 1 = c / 8)) ∨ (c / 8 = d / 8 ∧ (c % 8 + 1 = d % 8 ∨ d % 8 + 1 = c % 8))
/-- the CELLS that are come to from a over CELLS of wt -/
def rcV (wt : Nat → Prop) (a c : Nat) : Prop := ∀ P : Nat → Prop, P a → (∀ c d, c < 40 → d < 40 → P c → besB c d → wt d → P d) → P c
def VSz (wt : Nat → Prop) (a : Nat) (r : Int64) : Prop := (∀ c, bt r c = true → c < 40 ∧ rcV wt a c) ∧ bt r a = true ∧ ∀ c d, c < 40 → d < 40 → bt r c = true → besB c d → wt d → bt r d = true
theorem bt_eq {x y : Int64} (h : ∀ j, j < 64 → bt x j = bt y j) : x = y := by
  apply wb_inj
  apply BitVec.eq_of_getLsbD_eq
  intro j hj
  exact h j hj
theorem VSz.u {wt : Nat → Prop} {a : Nat} {r r' : Int64} (h : VSz wt a r) (h' : VSz wt a r') : r = r' := by
  have one : ∀ {x y : Int64}, VSz wt a x → VSz wt a y → ∀ c, bt x c = true → bt y c = true := fun hx hy c hc => (hx.1 c hc).2 (fun c => bt _ c = true) hy.2.1 hy.2.2
  apply bt_eq
  intro j _
  cases e : bt r j with
  | true => exact (one h h' j e).symm
  | false =>
    cases e2 : bt r' j with
    | false => rfl
    | true => rw [one h' h j e2] at e; cases e
noncomputable def vnF (wt : Nat → Prop) (a : Nat) : Int64 := @dite Int64 (∃ r, VSz wt a r) (Classical.propDecidable _) (fun h => Classical.choose h) (fun _ => 0)
theorem VSz.eq {wt : Nat → Prop} {a : Nat} {r : Int64} (h : VSz wt a r) : r = vnF wt a := by
  have e : ∃ r, VSz wt a r := ⟨r, h⟩
  have q : vnF wt a = Classical.choose e := dif_pos e
  rw [q]
  exact h.u (Classical.choose_spec e)
/-! sets grow -/
theorem cbB_le {p q : Nat → Bool} (h : ∀ j, p j = true → q j = true) : ∀ k, cbB p k ≤ cbB q k := by
  intro k
  induction k with
  | zero => exact Nat.le_refl _
  | succ k ih =>
    show cbB p k + (if p k = true then 1 else 0) ≤ cbB q k + (if q k = true then 1 else 0)
    by_cases c : p k = true
    · rw [if_pos c, if_pos (h k c)]; omega
    · rw [if_neg c]; omega
theorem cbB_lt {p q : Nat → Bool} (h : ∀ j, p j = true → q j = true) {i : Nat} (h1 : ¬ p i = true) (h2 : q i = true) : ∀ k, i < k → cbB p k < cbB q k := by
  intro k
  induction k with
  | zero => intro z; omega
  | succ k ih =>
    intro z
    have L := cbB_le h k
    show cbB p k + (if p k = true then 1 else 0) < cbB q k + (if q k = true then 1 else 0)
    by_cases e : i = k
    · subst e; rw [if_neg h1, if_pos h2]; omega
    · have L2 := ih (by omega)
      by_cases c : p k = true
      · rw [if_pos c, if_pos (h k c)]; omega
      · rw [if_neg c]; omega
/-- a larger set that is another one holds more -/
theorem bt_more {x y : Int64} (h : ∀ j, bt x j = true → bt y j = true) (hy : ∀ j, 40 ≤ j → bt y j = false) (hne : ¬ x = y) : cbB (bt x) 40 < cbB (bt y) 40 := by
  have e : ∃ i, i < 40 ∧ ¬ bt x i = true ∧ bt y i = true := by
    apply Classical.byContradiction
    intro q
    apply hne
    apply bt_eq
    intro j _
    cases ex : bt x j with
    | true => exact (h j ex).symm
    | false =>
      cases ey : bt y j with
      | false => rfl
      | true =>
        exfalso
        by_cases g : j < 40
        · exact q ⟨j, g, by rw [ex]; decide, ey⟩
        · rw [hy j (by omega)] at ey; cases ey
  obtain ⟨i, i1, i2, i3⟩ := e
  exact cbB_lt h i2 i3 40 i1
/-! the class -/
def wtP (w : Nat → Int) (c : Nat) : Prop := w (113 + c) = 3
def vnx (x k : Int64) : Int64 := ((((x ||| ((x &&& (-4311810306)) >>> ((1 : Int32).toInt64 &&& 63))) ||| ((x &&& (-551911719041)) <<< ((1 : Int32).toInt64 &&& 63))) ||| (x <<< ((8 : Int32).toInt64 &&& 63))) ||| (x >>> ((8 : Int32).toInt64 &&& 63))) &&& k
theorem bt_or (x y : Int64) (j : Nat) : bt (x ||| y) j = (bt x j || bt y j) := by
  unfold bt; rw [Int64.toBitVec_or, BitVec.getLsbD_or]
theorem bt_and (x y : Int64) (j : Nat) : bt (x &&& y) j = (bt x j && bt y j) := by
  unfold bt; rw [Int64.toBitVec_and, BitVec.getLsbD_and]
theorem bt_shr {x : Int64} {k j : Nat} (hk : k < 64) (hj : k + j < 64) : bt (x >>> lN k) j = bt x (k + j) := by
  show (x >>> lN k).toBitVec.getLsbD j = _
  rw [sr_bv hk, BitVec.getLsbD_sshiftRight]
  have q : ¬ 64 ≤ j := by omega
  simp [q, hj]
  rfl
theorem bt_shl {x : Int64} {k j : Nat} (hk : k < 64) (hj : j < 64) : bt (x <<< lN k) j = (decide (k ≤ j) && bt x (j - k)) := by
  show (x <<< lN k).toBitVec.getLsbD j = _
  have e : (x <<< lN k).toBitVec = x.toBitVec <<< k := by
    rw [Int64.toBitVec_shiftLeft, wb_tb, wb_sm k hk, BitVec.shiftLeft_eq', BitVec.toNat_ofNat, Nat.mod_eq_of_lt (by omega)]
  rw [e, BitVec.getLsbD_shiftLeft]
  by_cases g : k ≤ j
  · have g2 : ¬ j < k := by omega
    simp [g, g2, hj]
    rfl
  · have g2 : j < k := by omega
    simp [g, g2]
theorem bt_m1 : ∀ j, j < 64 → bt (-4311810306) j = !(decide (j % 8 = 0) && decide (j < 40)) := by decide +kernel
theorem bt_m2 : ∀ j, j < 64 → bt (-551911719041) j = !(decide (j % 8 = 7) && decide (j < 40)) := by decide +kernel
theorem s1_l : ((1 : Int32).toInt64 &&& 63) = lN 1 := by decide
theorem s8_l : ((8 : Int32).toInt64 &&& 63) = lN 8 := by decide
/-- one round: a CELL of it or beside it, that is of k -/
theorem bt_vnx {x k : Int64} (hx : ∀ j, 40 ≤ j → bt x j = false) {j : Nat} (hj : j < 40) : bt (vnx x k) j = true ↔ (bt x j = true ∨ ∃ c, c < 40 ∧ bt x c = true ∧ besB c j) ∧ bt k j = true := by
  unfold vnx
  rw [s1_l, s8_l, bt_and, bt_or, bt_or, bt_or, bt_or, bt_shr (by decide) (by omega), bt_shl (by decide) (by omega), bt_shl (by decide) (by omega), bt_shr (by decide) (by omega), bt_and, bt_and, bt_m1 (1 + j) (by omega), bt_m2 (j - 1) (by omega), Bool.and_eq_true]
  constructor
  · intro h
    refine ⟨?_, h.2⟩
    have h1 := h.1
    rw [Bool.or_eq_true, Bool.or_eq_true, Bool.or_eq_true, Bool.or_eq_true] at h1
    rcases h1 with (((h1 | h1) | h1) | h1) | h1
    · exact Or.inl h1
    · rw [Bool.and_eq_true] at h1
      have z : 1 + j < 40 := by
        apply Classical.byContradiction
        intro q
        rw [hx (1 + j) (by omega)] at h1
        cases h1.1
      have z2 : ¬ (1 + j) % 8 = 0 := fun q => by
        have t := h1.2
        rw [decide_eq_true q, decide_eq_true z] at t
        cases t
      exact Or.inr ⟨1 + j, z, h1.1, Or.inr ⟨by omega, by omega⟩⟩
    · rw [Bool.and_eq_true, Bool.and_eq_true] at h1
      have g := of_decide_eq_true h1.1
      have z2 : ¬ (j - 1) % 8 = 7 := fun q => by
        have t := h1.2.2
        rw [decide_eq_true q, decide_eq_true (show j - 1 < 40 by omega)] at t
        cases t
      exact Or.inr ⟨j - 1, by omega, h1.2.1, Or.inr ⟨by omega, by omega⟩⟩
    · rw [Bool.and_eq_true] at h1
      have g := of_decide_eq_true h1.1
      exact Or.inr ⟨j - 8, by omega, h1.2, Or.inl ⟨by omega, by omega⟩⟩
    · have z : 8 + j < 40 := by
        apply Classical.byContradiction
        intro q
        rw [hx (8 + j) (by omega)] at h1
        cases h1
      exact Or.inr ⟨8 + j, z, h1, Or.inl ⟨by omega, by omega⟩⟩
  · intro h
    refine ⟨?_, h.2⟩
    rw [Bool.or_eq_true, Bool.or_eq_true, Bool.or_eq_true, Bool.or_eq_true]
    rcases h.1 with h1 | ⟨c, c1, c2, c3⟩
    · exact Or.inl (Or.inl (Or.inl (Or.inl h1)))
    · rcases c3 with ⟨d1, d2⟩ | ⟨d1, d2⟩
      · by_cases g : c = 8 + j
        · subst g; exact Or.inr c2
        · have g2 : c = j - 8 ∧ 8 ≤ j := by omega
          refine Or.inl (Or.inr ?_)
          rw [Bool.and_eq_true]
          exact ⟨decide_eq_true g2.2, by rw [← g2.1]; exact c2⟩
      · by_cases g : c = 1 + j
        · subst g
          refine Or.inl (Or.inl (Or.inl (Or.inr ?_)))
          rw [Bool.and_eq_true]
          refine ⟨c2, ?_⟩
          rw [decide_eq_false (show ¬ (1 + j) % 8 = 0 by omega)]; rfl
        · have g2 : c = j - 1 ∧ 1 ≤ j := by omega
          refine Or.inl (Or.inl (Or.inr ?_))
          rw [Bool.and_eq_true, Bool.and_eq_true]
          refine ⟨decide_eq_true g2.2, by rw [← g2.1]; exact c2, ?_⟩
          rw [decide_eq_false (show ¬ (j - 1) % 8 = 7 by omega)]; rfl
theorem besB_s {c d : Nat} (h : besB c d) : besB d c := by
  rcases h with ⟨h1, h2⟩ | ⟨h1, h2⟩
  · exact Or.inl ⟨h1.symm, h2.symm⟩
  · exact Or.inr ⟨h1.symm, h2.symm⟩
theorem rcV_a {wt : Nat → Prop} {a : Nat} : rcV wt a a := fun _ h _ => h
theorem rcV_s {wt : Nat → Prop} {a c d : Nat} (h : rcV wt a c) (hc : c < 40) (hd : d < 40) (hb : besB c d) (hw : wt d) : rcV wt a d := fun P p1 p2 => p2 c d hc hd (h P p1 p2) hb hw
theorem x_vnl {w : Nat → Int} {k : Int64} {a : Nat} (hk : ∀ j, j < 40 → (bt k j = true ↔ wtP w j)) (hk2 : ∀ j, 40 ≤ j → bt k j = false) {Qb : Int32 → Int64 → Prop} (K : ∀ (x : Int32) (r : Int64), VSz (wtP w) a r → Qb x r) : ∀ (m n : Nat) (x : Int32) (v : Int64), x.toInt = (n : Int) → n ≤ 40 → 40 - n < m → (∀ j, 40 ≤ j → bt v j = false) → (∀ c, bt v c = true → rcV (wtP w) a c ∧ wtP w c) → bt v a = true → n + 1 ≤ cbB (bt v) 40 → wl_X6_veinOf_46 k Qb m x v := by
  intro m
  induction m with
  | zero => intro n x v _ _ h; omega
  | succ m ih =>
    intro n x v hx hn hm hv hr ha hc
    have b := cbB_b (p := bt v) 40
    show (if 40 ≤ x then Qb x v else if lg_cmp (vnx v k) v = 0 then Qb x v else wl_X6_veinOf_46 k Qb m (x + 1) (vnx v k))
    by_cases q : 40 ≤ x
    · have q' := le_z (x := 40) rfl hx q
      omega
    · have q' := nle_z (x := 40) rfl hx q
      have lo : ∀ c, bt v c = true → c < 40 := fun c hc2 => by
        apply Classical.byContradiction
        intro z
        rw [hv c (by omega)] at hc2
        cases hc2
      refine br0 q ?_
      by_cases e : lg_cmp (vnx v k) v = 0
      · have e2 : vnx v k = v := Int64.toInt_inj.mp (cmp_eq.mp e)
        refine br1 e (K _ _ ⟨fun c hc2 => ⟨lo c hc2, (hr c hc2).1⟩, ha, fun c d h1 h2 h3 h4 h5 => ?_⟩)
        have t := (bt_vnx (k := k) hv h2).mpr ⟨Or.inr ⟨c, h1, h3, h4⟩, (hk d h2).mpr h5⟩
        rw [e2] at t
        exact t
      · have ne : ¬ v = vnx v k := fun z => e (by rw [← z]; exact cmp_eq.mpr rfl)
        have hi : ∀ j, 40 ≤ j → bt (vnx v k) j = false := fun j hj => by
          unfold vnx
          rw [bt_and, hk2 j hj, Bool.and_false]
        have lo2 : ∀ c, bt (vnx v k) c = true → c < 40 := fun c hc2 => by
          apply Classical.byContradiction
          intro z
          rw [hi c (by omega)] at hc2
          cases hc2
        have sub : ∀ j, bt v j = true → bt (vnx v k) j = true := fun j hj => (bt_vnx hv (lo j hj)).mpr ⟨Or.inl hj, (hk j (lo j hj)).mpr (hr j hj).2⟩
        have g := bt_more sub hi ne
        refine br0 e (ih (n + 1) _ _ (add1 hx (by omega)) (by omega) (by omega) hi (fun c hc2 => ?_) (sub a ha) (by omega))
        have c40 := lo2 c hc2
        have t := (bt_vnx hv c40).mp hc2
        have wc := (hk c c40).mp t.2
        rcases t.1 with t1 | ⟨d, d1, d2, d3⟩
        · exact hr c t1
        · exact ⟨rcV_s (hr d d2).1 d1 c40 d3 wc, wc⟩
theorem x_vn5 {kd : Nat → Int32} {w : Nat → Int} (hK : RkW kd 113 40 w) {Qb : Int32 → Int64 → Prop} (K : ∀ x, Qb x (bitsF (fun c => decide (w (113 + c) = 3)) 40)) : ∀ (m i : Nat) (x : Int32), x.toInt = (i : Int) → i ≤ 40 → 40 - i < m → wl_X6_veinOf_5 kd Qb m x (bitsF (fun c => decide (w (113 + c) = 3)) i) := by
  intro m
  induction m with
  | zero => intro i x _ _ h; omega
  | succ m ih =>
    intro i x hx hi hm
    unfold wl_X6_veinOf_5
    by_cases q : 40 ≤ x
    · have q' := le_z (x := 40) rfl hx q
      refine br1 q ?_
      rw [show i = 40 by omega]
      exact K x
    · have q' := nle_z (x := 40) rfl hx q
      have ek : (kd i).toInt = w (113 + i) := hK i (by omega)
      refine br0 q ⟨vpi hx (by omega) (by omega), ?_⟩
      rw [tnN hx]
      by_cases t : kd i = 3
      · have t' := eq_z (y := 3) ek rfl t
        refine br1 t ?_
        rw [bitsF_1 (p := fun c => decide (w (113 + c) = 3)) (decide_eq_true t') hx (by omega)]
        exact ih (i + 1) _ (add1 hx (by omega)) (by omega) (by omega)
      · have t' := ne_z (y := 3) ek rfl t
        refine br0 t ?_
        rw [bitsF_0 (p := fun c => decide (w (113 + c) = 3)) (fun g => t' (of_decide_eq_true g))]
        exact ih (i + 1) _ (add1 hx (by omega)) (by omega) (by omega)
theorem x_vn {kd : Nat → Int32} {w : Nat → Int} (hK : RkW kd 113 40 w) {c : Int32} {a : Nat} (hc : c.toInt = (a : Int)) (ha : a < 40) (hw : w (113 + a) = 3) {Q : Int64 → Prop} (hq : ∀ r : Int64, VSz (wtP w) a r → Q r) : wp_X6_veinOf c kd Q := by
  unfold wp_X6_veinOf
  refine x_vn5 hK (fun _ => ?_) _ 0 _ rfl (by omega) (by omega)
  have hk : ∀ j, j < 40 → (bt (bitsF (fun c => decide (w (113 + c) = 3)) 40) j = true ↔ wtP w j) := fun j hj => by
    rw [bt_bitsF 40 (by decide) j, decide_eq_true hj, Bool.true_and]
    exact decide_eq_true_iff
  have hk2 : ∀ j, 40 ≤ j → bt (bitsF (fun c => decide (w (113 + c) = 3)) 40) j = false := fun j hj => by
    rw [bt_bitsF 40 (by decide) j, decide_eq_false (by omega), Bool.false_and]
  have s1 : ∀ j, bt (((1 : Int64) <<< (c.toInt64 &&& 63))) j = decide (a = j) := fun j => by
    have t := bt_or1 (x := 0) hc (show a < 64 by omega) j
    rw [show (0 : Int64) ||| ((1 : Int64) <<< (c.toInt64 &&& 63)) = ((1 : Int64) <<< (c.toInt64 &&& 63)) from by
      apply wb_inj
      rw [Int64.toBitVec_or]
      show 0#64 ||| _ = _
      exact BitVec.zero_or] at t
    rw [t]
    have z : bt 0 j = false := by unfold bt; exact BitVec.getLsbD_zero
    rw [z, Bool.false_or]
  have sa : ∀ j, bt ((((1 : Int64) <<< (c.toInt64 &&& 63))) &&& bitsF (fun c => decide (w (113 + c) = 3)) 40) j = true ↔ j = a := fun j => by
    rw [bt_and, s1, Bool.and_eq_true]
    constructor
    · intro h; exact (of_decide_eq_true h.1).symm
    · intro h; subst h; exact ⟨decide_eq_true rfl, (hk j ha).mpr hw⟩
  refine x_vnl hk hk2 (fun x r h => hq r h) _ 0 _ _ rfl (by omega) (by omega) (fun j hj => ?_) (fun j hj => ?_) ((sa a).mpr rfl) ?_
  · cases e : bt ((((1 : Int64) <<< (c.toInt64 &&& 63))) &&& bitsF (fun c => decide (w (113 + c) = 3)) 40) j with
    | false => rfl
    | true => have := (sa j).mp e; omega
  · have e := (sa j).mp hj
    subst e
    exact ⟨rcV_a, hw⟩
  · have t := cbB_lt (p := fun _ => false) (q := bt ((((1 : Int64) <<< (c.toInt64 &&& 63))) &&& bitsF (fun c => decide (w (113 + c) = 3)) 40)) (fun j h => by cases h) (i := a) (by decide) ((sa a).mpr rfl) 40 ha
    omega
/-! the reference -/
theorem z_bes {a b : Int32} {c d : Nat} (ha : a.toInt = (c : Int)) (hb : b.toInt = (d : Int)) (hc : c < 40) (hd : d < 40) {Q : Int32 → Prop} (h1 : besB c d → Q 1) (h0 : ¬ besB c d → Q 0) : wp_X12_areBeside a b Q := by
  have e1 : (a - a / 8 * 8).toInt = (c : Int) % 8 := rem_z (b := 8) ha rfl (by omega) (by decide)
  have e2 : (b - b / 8 * 8).toInt = (d : Int) % 8 := rem_z (b := 8) hb rfl (by omega) (by decide)
  have e3 : (a / 8).toInt = (c : Int) / 8 := div_z (b := 8) ha rfl (by omega) (by decide)
  have e4 : (b / 8).toInt = (d : Int) / 8 := div_z (b := 8) hb rfl (by omega) (by decide)
  have ap : ∀ (x y : Int32) (p q : Int), x.toInt = p → y.toInt = q → 0 ≤ p → p ≤ 7 → 0 ≤ q → q ≤ 7 → ∀ R : Int32 → Prop, (∀ r : Int32, r.toInt = (if p ≤ q then q - p else p - q) → R r) → wp_X12_apart x y R := fun x y p q hx hy p0 p7 q0 q7 R k => by
    unfold wp_X12_apart
    by_cases g : x ≤ y
    · have g' := le_z hx hy g
      exact br1 g (k _ (by rw [if_pos g', sub_z hy hx (by omega) (by omega)]))
    · have g' := nle_z hx hy g
      exact br0 g (k _ (by rw [if_neg (by omega), sub_z hx hy (by omega) (by omega)]))
  unfold wp_X12_areBeside
  refine ap _ _ _ _ e1 e2 (by omega) (by omega) (by omega) (by omega) _ (fun r1 h1' => ap _ _ _ _ e3 e4 (by omega) (by omega) (by omega) (by omega) _ (fun r2 h2' => ?_))
  have s : (r1 + r2).toInt = r1.toInt + r2.toInt := by
    refine add_z rfl rfl ?_ ?_
    · rw [h1', h2']; (repeat' split) <;> omega
    · rw [h1', h2']; (repeat' split) <;> omega
  by_cases g : r1 + r2 = 1
  · have g' := eq_z s (y := 1) rfl g
    refine br1 g (h1 ?_)
    rw [h1', h2'] at g'
    unfold besB
    revert g'
    (repeat' split) <;> (intro g'; omega)
  · have g' := ne_z s (y := 1) rfl g
    refine br0 g (h0 (fun z => g' ?_))
    rw [h1', h2']
    unfold besB at z
    (repeat' split) <;> omega
theorem x_vm28 {row : Nat → Int32} {w : Nat → Int} (hR : RMw row w) {o s0 : Int64} {c : Nat} {x18 : Int32} (h18 : x18.toInt = (c : Int)) (hc : c < 40) {Qb : Int32 → Int64 → Prop} (K : ∀ (x : Int32) (s : Int64), (∀ j, j < 64 → (bt s j = true ↔ bt s0 j = true ∨ (j = c ∧ wtP w c ∧ ∃ d, d < 40 ∧ bt o d = true ∧ besB d c))) → Qb x s) : ∀ (m n : Nat) (x : Int32) (s : Int64), x.toInt = (n : Int) → n ≤ 40 → 40 - n < m → (∀ j, j < 64 → (bt s j = true ↔ bt s0 j = true ∨ (j = c ∧ wtP w c ∧ ∃ d, d < n ∧ bt o d = true ∧ besB d c))) → wl_X12_veinOf_28 row o x18 Qb m x s := by
  intro m
  induction m with
  | zero => intro n x s _ _ h; omega
  | succ m ih =>
    intro n x s hx hn hm hs
    unfold wl_X12_veinOf_28
    by_cases q : 40 ≤ x
    · have q' := le_z (x := 40) rfl hx q
      refine br1 q (K _ _ ?_)
      rw [show (40 : Nat) = n by omega]
      exact hs
    · have q' := nle_z (x := 40) rfl hx q
      have n40 : n < 40 := by omega
      have x1 : (113 + x18).toInt = ((113 + c : Nat) : Int) := by rw [add_z (a := 113) (x := 113) rfl h18 (by omega) (by omega)]; omega
      have e1 : (row (113 + c)).toInt = w (113 + c) := hR _ (by omega)
      refine br0 q ⟨vpi x1 (by omega) (by omega), ?_⟩
      rw [tnN x1]
      by_cases t : row (113 + c) = 3
      · have t' : wtP w c := eq_z (y := 3) e1 rfl t
        have no : ¬ (bt o n = true ∧ besB n c) → wl_X12_veinOf_28 row o x18 Qb m (x + 1) (s ||| 0) := fun g => by
          rw [lor_0]
          refine ih (n + 1) _ _ (add1 hx (by omega)) (by omega) (by omega) (fun j hj => ?_)
          rw [hs j hj]
          constructor
          · intro h
            rcases h with h | ⟨h1, h2, d, d1, d2⟩
            · exact Or.inl h
            · exact Or.inr ⟨h1, h2, d, by omega, d2⟩
          · intro h
            rcases h with h | ⟨h1, h2, d, d1, d2⟩
            · exact Or.inl h
            · by_cases e : d = n
              · subst e; exact absurd d2 g
              · exact Or.inr ⟨h1, h2, d, by omega, d2⟩
        refine br1 t (e_is hx (by omega) (fun hb => br0 (by decide) ?_) (fun hb => br1 rfl (no (fun z => hb z.1))))
        refine z_bes h18 hx hc n40 (fun hbs => br0 (by decide) ?_) (fun hbs => br1 rfl (no (fun z => hbs (besB_s z.2))))
        refine ih (n + 1) _ _ (add1 hx (by omega)) (by omega) (by omega) (fun j hj => ?_)
        rw [bt_or1 h18 (by omega) j, Bool.or_eq_true, hs j hj]
        constructor
        · intro h
          rcases h with (h | ⟨h1, h2, d, d1, d2⟩) | h
          · exact Or.inl h
          · exact Or.inr ⟨h1, h2, d, by omega, d2⟩
          · exact Or.inr ⟨(of_decide_eq_true h).symm, t', n, by omega, hb, besB_s hbs⟩
        · intro h
          rcases h with h | ⟨h1, h2⟩
          · exact Or.inl (Or.inl h)
          · exact Or.inr (decide_eq_true h1.symm)
      · have t' : ¬ wtP w c := ne_z (y := 3) e1 rfl t
        refine br0 t (K _ _ (fun j hj => ?_))
        rw [hs j hj]
        constructor
        · intro h
          rcases h with h | ⟨_, h2, _⟩
          · exact Or.inl h
          · exact absurd h2 t'
        · intro h
          rcases h with h | ⟨_, h2, _⟩
          · exact Or.inl h
          · exact absurd h2 t'
theorem x_vm18 {row : Nat → Int32} {w : Nat → Int} (hR : RMw row w) {o : Int64} {Qb : Int32 → Int64 → Prop} (K : ∀ (x : Int32) (s : Int64), (∀ j, j < 64 → (bt s j = true ↔ bt o j = true ∨ (j < 40 ∧ wtP w j ∧ ∃ d, d < 40 ∧ bt o d = true ∧ besB d j))) → Qb x s) : ∀ (m n : Nat) (x : Int32) (s : Int64), x.toInt = (n : Int) → n ≤ 40 → 40 - n < m → (∀ j, j < 64 → (bt s j = true ↔ bt o j = true ∨ (j < n ∧ wtP w j ∧ ∃ d, d < 40 ∧ bt o d = true ∧ besB d j))) → wl_X12_veinOf_18 row o Qb m x s := by
  intro m
  induction m with
  | zero => intro n x s _ _ h; omega
  | succ m ih =>
    intro n x s hx hn hm hs
    unfold wl_X12_veinOf_18
    by_cases q : 40 ≤ x
    · have q' := le_z (x := 40) rfl hx q
      have e : n = 40 := by omega
      subst e
      exact br1 q (K _ _ hs)
    · have q' := nle_z (x := 40) rfl hx q
      refine br0 q (x_vm28 hR (s0 := s) hx (by omega) (fun _ s2 h2 => ?_) _ 0 _ _ rfl (by omega) (by omega) (fun j hj => ⟨fun h => Or.inl h, fun h => h.elim (fun z => z) (fun z => by obtain ⟨_, _, d, d1, _⟩ := z; omega)⟩))
      refine ih (n + 1) _ _ (add1 hx (by omega)) (by omega) (by omega) (fun j hj => ?_)
      rw [h2 j hj, hs j hj]
      constructor
      · intro h
        rcases h with (h | ⟨h1, h3⟩) | ⟨h1, h3⟩
        · exact Or.inl h
        · exact Or.inr ⟨by omega, h3⟩
        · subst h1; exact Or.inr ⟨by omega, h3⟩
      · intro h
        rcases h with h | ⟨h1, h3⟩
        · exact Or.inl (Or.inl h)
        · by_cases e : j = n
          · subst e; exact Or.inr ⟨rfl, h3⟩
          · exact Or.inl (Or.inr ⟨by omega, h3⟩)
theorem x_vm7 {row : Nat → Int32} {w : Nat → Int} (hR : RMw row w) {a : Nat} {Qb : Int32 → Int64 → Prop} (K : ∀ (x : Int32) (r : Int64), VSz (wtP w) a r → Qb x r) : ∀ (m : Nat) (f : Int32) (o : Int64), ((f = 1 ∧ 42 ≤ cbB (bt o) 40 + m) ∨ (f = 0 ∧ VSz (wtP w) a o ∧ 0 < m)) → (∀ c, bt o c = true → c < 40 ∧ rcV (wtP w) a c) → bt o a = true → wl_X12_veinOf_7 row Qb m f o := by
  intro m
  induction m with
  | zero =>
    intro f o h _ _
    have b := cbB_b (p := bt o) 40
    rcases h with ⟨_, h⟩ | ⟨_, _, h⟩ <;> omega
  | succ m ih =>
    intro f o hf hr ha
    unfold wl_X12_veinOf_7
    rcases hf with ⟨f1, hm⟩ | ⟨f0, hV, _⟩
    · subst f1
      have b := cbB_b (p := bt o) 40
      refine br0 (by decide) (x_vm18 hR (fun _ s hs => ?_) _ 0 _ _ rfl (by omega) (by omega) (fun j hj => ⟨fun h => Or.inl h, fun h => h.elim (fun z => z) (fun z => by omega)⟩))
      have sub : ∀ j, bt o j = true → bt s j = true := fun j hj => (hs j (by have := (hr j hj).1; omega)).mpr (Or.inl hj)
      have hi : ∀ j, 40 ≤ j → bt s j = false := fun j hj => by
        cases e : bt s j with
        | false => rfl
        | true =>
          exfalso
          by_cases g : j < 64
          · rcases (hs j g).mp e with z | z
            · have := (hr j z).1; omega
            · omega
          · rw [bt_64 (by omega)] at e; cases e
      have hr2 : ∀ c, bt s c = true → c < 40 ∧ rcV (wtP w) a c := fun c hc => by
        have c40 : c < 40 := by
          apply Classical.byContradiction
          intro z
          rw [hi c (by omega)] at hc
          cases hc
        rcases (hs c (by omega)).mp hc with z | ⟨_, z2, d, d1, d2, d3⟩
        · exact hr c z
        · exact ⟨c40, rcV_s (hr d d2).2 d1 c40 d3 z2⟩
      by_cases e : lg_cmp s o = 0
      · have e2 : s = o := Int64.toInt_inj.mp (cmp_eq.mp e)
        have cl : ∀ c d, c < 40 → d < 40 → bt s c = true → besB c d → wtP w d → bt s d = true := fun c d h1 h2 h3 h4 h5 => (hs d (by omega)).mpr (Or.inr ⟨h2, h5, c, h1, by rw [← e2]; exact h3, h4⟩)
        exact br1 e (ih 0 s (Or.inr ⟨rfl, ⟨hr2, sub a ha, cl⟩, by omega⟩) hr2 (sub a ha))
      · have ne : ¬ o = s := fun z => e (by rw [z]; exact cmp_eq.mpr rfl)
        have g := bt_more sub hi ne
        exact br0 e (ih 1 s (Or.inl ⟨rfl, by omega⟩) hr2 (sub a ha))
    · subst f0
      exact br1 rfl (K _ _ hV)
theorem x_mvn {row : Nat → Int32} {w : Nat → Int} (hR : RMw row w) {c : Int32} {a : Nat} (hc : c.toInt = (a : Int)) (ha : a < 40) {Q : Int64 → Prop} (hq : ∀ r : Int64, VSz (wtP w) a r → Q r) : wp_X12_veinOf c row Q := by
  unfold wp_X12_veinOf
  have s1 : ∀ j, bt (((1 : Int64) <<< (c.toInt64 &&& 63))) j = decide (a = j) := fun j => by
    have t := bt_or1 (x := 0) hc (show a < 64 by omega) j
    rw [show (0 : Int64) ||| ((1 : Int64) <<< (c.toInt64 &&& 63)) = ((1 : Int64) <<< (c.toInt64 &&& 63)) from by
      apply wb_inj
      rw [Int64.toBitVec_or]
      show 0#64 ||| _ = _
      exact BitVec.zero_or] at t
    rw [t]
    have z : bt 0 j = false := by unfold bt; exact BitVec.getLsbD_zero
    rw [z, Bool.false_or]
  refine x_vm7 hR (fun x r h => hq r h) _ 1 _ (Or.inl ⟨rfl, by omega⟩) (fun j hj => ?_) ?_
  · rw [s1] at hj
    have e := of_decide_eq_true hj
    subst e
    exact ⟨ha, rcV_a⟩
  · rw [s1]; exact decide_eq_true rfl
