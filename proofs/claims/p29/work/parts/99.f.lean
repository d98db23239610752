/-! bits of longs; veins of the reference -/
theorem wb_tb (n : Nat) : (lN n).toBitVec = BitVec.ofNat 64 n := rfl
theorem wb_inj {a b : Int64} (h : a.toBitVec = b.toBitVec) : a = b := Int64.toBitVec_inj.mp h
theorem wb_c : ∀ k, k < 64 → ((nI k).toInt64 &&& 63) = lN k := by decide +kernel
theorem wb_sm : ∀ k, k < 64 → (BitVec.ofNat 64 k).smod 64 = BitVec.ofNat 64 k := by decide +kernel
def bt (x : Int64) (k : Nat) : Bool := x.toBitVec.getLsbD k
theorem sh_amt {b : Int32} {k : Nat} (hb : b.toInt = (k : Int)) (hk : k < 64) : b.toInt64 &&& 63 = lN k := by
  have e : b = nI k := Int32.toInt_inj.mp (by rw [nI_toInt (by omega)]; exact hb)
  rw [e]; exact wb_c k hk
theorem sr_bv {x : Int64} {k : Nat} (hk : k < 64) : (x >>> lN k).toBitVec = x.toBitVec.sshiftRight k := by
  show x.toBitVec.sshiftRight ((lN k).toBitVec.smod 64).toNat = _
  rw [wb_tb k, wb_sm k hk, BitVec.toNat_ofNat, Nat.mod_eq_of_lt (by omega)]
theorem and1_bv (y : BitVec 64) : (y &&& 1#64 = 1#64) ↔ y.getLsbD 0 = true := by
  rw [BitVec.and_one_eq_setWidth_ofBool_getLsbD]
  cases y.getLsbD 0 with
  | true => exact ⟨fun _ => rfl, fun _ => by decide⟩
  | false => exact ⟨fun h => absurd h (by decide), fun h => by cases h⟩
theorem bt_is {x : Int64} {b : Int32} {k : Nat} (hb : b.toInt = (k : Int)) (hk : k < 64) : ((x >>> (b.toInt64 &&& 63)) &&& 1 = 1) ↔ bt x k = true := by
  rw [sh_amt hb hk]
  have e : ((x >>> lN k) &&& 1 = 1) ↔ ((x >>> lN k).toBitVec &&& 1#64 = 1#64) := by
    constructor
    · intro h
      have := congrArg Int64.toBitVec h
      rw [Int64.toBitVec_and] at this
      exact this
    · intro h
      apply wb_inj
      rw [Int64.toBitVec_and]
      exact h
  rw [e, and1_bv, sr_bv hk, BitVec.getLsbD_sshiftRight]
  unfold bt
  simp [hk]
theorem e_is {x : Int64} {b : Int32} {k : Nat} (hb : b.toInt = (k : Int)) (hk : k < 64) {Q : Int32 → Prop} (h1 : bt x k = true → Q 1) (h0 : ¬ bt x k = true → Q 0) : wp_X12_is x b Q := by
  unfold wp_X12_is
  by_cases c : lg_cmp ((x >>> (b.toInt64 &&& 63)) &&& 1) 1 = 0
  · exact br1 c (h1 ((bt_is hb hk).mp (Int64.toInt_inj.mp (cmp_eq.mp c))))
  · exact br0 c (h0 (fun q => c (cmp_eq.mpr (by rw [(bt_is hb hk).mpr q]))))
theorem sl_bv {k : Nat} (hk : k < 64) : ((1 : Int64) <<< lN k).toBitVec = BitVec.twoPow 64 k := by
  rw [Int64.toBitVec_shiftLeft, wb_tb, wb_sm k hk, BitVec.twoPow_eq, BitVec.shiftLeft_eq', BitVec.toNat_ofNat, Nat.mod_eq_of_lt (by omega)]
  rfl
theorem bt_or1 {x : Int64} {c : Int32} {k : Nat} (hc : c.toInt = (k : Int)) (hk : k < 64) (j : Nat) : bt (x ||| ((1 : Int64) <<< (c.toInt64 &&& 63))) j = (bt x j || decide (k = j)) := by
  rw [sh_amt hc hk]
  unfold bt
  rw [Int64.toBitVec_or, BitVec.getLsbD_or, sl_bv hk, BitVec.getLsbD_twoPow]
  simp [hk]
theorem bt_1 {c : Int32} {k : Nat} (hc : c.toInt = (k : Int)) (hk : k < 64) : bt ((1 : Int64) <<< (c.toInt64 &&& 63)) k = true := by
  rw [sh_amt hc hk]
  unfold bt
  rw [sl_bv hk, BitVec.getLsbD_twoPow]
  simp [hk]
theorem or_0 (x : Int64) : x ||| 0 = x := by
  apply wb_inj
  rw [Int64.toBitVec_or]
  show x.toBitVec ||| 0#64 = _
  simp
/-- how many of the first k cells are in it -/
def cnt (x : Int64) : Nat → Nat
  | 0 => 0
  | k + 1 => cnt x k + (if bt x k = true then 1 else 0)
theorem cnt_le (x : Int64) : ∀ k, cnt x k ≤ k := by
  intro k
  induction k with
  | zero => exact Nat.le_refl 0
  | succ k ih =>
    show cnt x k + _ ≤ k + 1
    split <;> omega
theorem cnt_or {x y : Int64} {k : Nat} (h : ∀ j, bt y j = (bt x j || decide (k = j))) (hx : ¬ bt x k = true) : ∀ n, cnt y n = cnt x n + (if k < n then 1 else 0) := by
  intro n
  induction n with
  | zero => rfl
  | succ n ih =>
    show cnt y n + (if bt y n = true then 1 else 0) = cnt x n + (if bt x n = true then 1 else 0) + _
    rw [ih, h n]
    by_cases e : k = n
    · subst e
      have : bt x k = false := by cases g : bt x k with
        | true => exact (hx g).elim
        | false => rfl
      rw [this]
      simp
    · by_cases g : k < n
      · rw [if_pos g, if_pos (show k < n + 1 by omega)]
        simp [e]
        omega
      · rw [if_neg g, if_neg (show ¬ k < n + 1 by omega)]
        simp [e]
theorem or_same {x : Int64} {c : Int32} {k : Nat} (hc : c.toInt = (k : Int)) (hk : k < 64) (hx : bt x k = true) : x ||| ((1 : Int64) <<< (c.toInt64 &&& 63)) = x := by
  apply wb_inj
  apply BitVec.eq_of_getLsbD_eq
  intro j hj
  have := bt_or1 (x := x) hc hk j
  unfold bt at this
  rw [this]
  by_cases e : k = j
  · subst e
    have hx' : x.toBitVec.getLsbD k = true := hx
    rw [hx']; rfl
  · simp [e]
def VI (k0 : Nat) (its th : Int64) : Prop := (bt its k0 = true → bt th k0 = true) ∧ cnt its 40 ≤ cnt th 40 ∧ (cnt th 40 = cnt its 40 → th = its)
theorem VI.or {k0 : Nat} {its th : Int64} (h : VI k0 its th) {c : Int32} (hc : InC c) : VI k0 its (th ||| ((1 : Int64) <<< (c.toInt64 &&& 63))) := by
  obtain ⟨k, hk⟩ : ∃ k : Nat, c.toInt = (k : Int) := ⟨c.toInt.toNat, by have := hc.1; omega⟩
  have k4 : k < 40 := by have := hc.2; omega
  by_cases e : bt th k = true
  · rw [or_same hk (by omega) e]; exact h
  · have B := bt_or1 (x := th) hk (by omega)
    have C := cnt_or B e 40
    rw [if_pos k4] at C
    refine ⟨fun q => ?_, by have := h.2.1; omega, fun q => ?_⟩
    · rw [B k0, h.1 q]; rfl
    · have := h.2.1; omega
theorem sl_ve28 {row : Nat → Int32} {its : Int64} {c : Int32} {k0 : Nat} (hc : InC c) {Qb : Int32 → Int64 → Prop} (K : ∀ (x : Int32) (th : Int64), VI k0 its th → Qb x th) : ∀ (m : Nat) (x : Int32) (th : Int64), 0 ≤ x.toInt → x.toInt ≤ 40 → 40 - x.toInt < m → VI k0 its th → wl_X12_veinOf_28 row its c Qb m x th := by
  intro m
  obtain ⟨c0, c4⟩ := id hc
  have e1 : (113 + c).toInt = 113 + c.toInt := add_z rfl rfl (by omega) (by omega)
  induction m with
  | zero => intro x th x0 x4 xm; exfalso; have xm : 40 - x.toInt < 0 := xm; omega
  | succ m ih =>
    intro x th x0 x4 xm hV
    unfold wl_X12_veinOf_28
    by_cases d : 40 ≤ x
    · exact br1 d (K _ _ hV)
    · have d' := nle_z (x := 40) rfl rfl d
      have x1 := li_1 (x := x) (hi := 40) (by omega) (by omega)
      refine br0 d ⟨vpi e1 (by omega) (by omega), ?_⟩
      have N := ih (x + 1) th (by omega) (by omega) (by omega) hV
      by_cases g : row (113 + c).toNatClampNeg = 3
      · refine br1 g (e_is (k := x.toInt.toNat) (by omega) (by omega) (fun _ => br0 (by decide) ?_) (fun _ => br1 rfl (by rw [or_0]; exact N)))
        refine s_X12_areBeside _ _ ⟨c0, by omega⟩ ⟨x0, by omega⟩ (fun r hr => ?_)
        by_cases q : r = 0
        · exact br1 q (by rw [or_0]; exact N)
        · exact br0 q (ih (x + 1) _ (by omega) (by omega) (by omega) (hV.or hc))
      · exact br0 g (K _ _ hV)
theorem sl_ve18 {row : Nat → Int32} {its : Int64} {k0 : Nat} {Qb : Int32 → Int64 → Prop} (K : ∀ (x : Int32) (th : Int64), VI k0 its th → Qb x th) : ∀ (m : Nat) (x : Int32) (th : Int64), 0 ≤ x.toInt → x.toInt ≤ 40 → 40 - x.toInt < m → VI k0 its th → wl_X12_veinOf_18 row its Qb m x th := by
  intro m
  induction m with
  | zero => intro x th x0 x4 xm; exfalso; have xm : 40 - x.toInt < 0 := xm; omega
  | succ m ih =>
    intro x th x0 x4 xm hV
    unfold wl_X12_veinOf_18
    by_cases d : 40 ≤ x
    · exact br1 d (K _ _ hV)
    · have d' := nle_z (x := 40) rfl rfl d
      have x1 := li_1 (x := x) (hi := 40) (by omega) (by omega)
      exact br0 d (sl_ve28 (k0 := k0) ⟨x0, d'⟩ (fun y th' hV' => ih (x + 1) th' (by omega) (by omega) (by omega) hV') _ 0 th (by decide) (by decide) (by decide) hV)
theorem sl_ve7 {row : Nat → Int32} {k0 : Nat} {Qb : Int32 → Int64 → Prop} (K : ∀ (x : Int32) (th : Int64), bt th k0 = true → Qb x th) : ∀ (m : Nat) (x : Int32) (its : Int64), B01 x → bt its k0 = true → 0 < m → (x = 1 → 41 - cnt its 40 < m) → wl_X12_veinOf_7 row Qb m x its := by
  intro m
  induction m with
  | zero => intro x its _ _ h; omega
  | succ m ih =>
    intro x its hx hb hm hM
    unfold wl_X12_veinOf_7
    by_cases c : x = 0
    · exact br1 c (K _ _ hb)
    · have c1 : x = 1 := by
        rcases hx with e | e
        · exact (c e).elim
        · exact e
      have hM := hM c1
      have cl := cnt_le its 40
      refine br0 c (sl_ve18 (k0 := k0) (fun y th hV => ?_) _ 0 its (by decide) (by decide) (by decide) ⟨fun q => q, Nat.le_refl _, fun _ => rfl⟩)
      by_cases d : lg_cmp th its = 0
      · exact br1 d (ih 0 th (Or.inl rfl) (hV.1 hb) (by omega) (fun q => absurd q (by decide)))
      · refine br0 d (ih 1 th (Or.inr rfl) (hV.1 hb) (by omega) (fun _ => ?_))
        have n1 : ¬ cnt th 40 = cnt its 40 := fun q => d (by rw [hV.2.2 q]; exact cmp_eq.mpr rfl)
        have n2 := hV.2.1
        omega
theorem s_veinF {a : Int32} {row : Nat → Int32} {k : Nat} (ha : a.toInt = (k : Int)) (hk : k < 40) {Q : Int64 → Prop} (hq : ∀ v : Int64, bt v k = true → Q v) : wp_X12_veinOf a row Q := by
  unfold wp_X12_veinOf
  exact sl_ve7 (k0 := k) (fun x th h => hq th h) _ 1 _ (Or.inr rfl) (bt_1 ha (by omega)) (by omega) (fun _ => by omega)
theorem sl_sh5 {a : Int64} {row : Nat → Int32} {sh : Int} {k : Nat} (hR : RLW row) (h0 : 0 ≤ sh) (h1 : sh < (row 0).toInt) (hk : (row (10 + sh).toNat).toInt = (k : Int)) (hb : bt a k = true) {Qb : Int32 → Int32 → Prop} (K : ∀ (x v : Int32), 1 ≤ v.toInt → v.toInt ≤ 6 → Qb x v) : ∀ (m : Nat) (x v : Int32), 0 ≤ x.toInt → x.toInt ≤ (row 0).toInt → 6 - x.toInt < m → 0 ≤ v.toInt → v.toInt ≤ x.toInt → (sh < x.toInt → 1 ≤ v.toInt) → wl_X12_shaftsIn_5 a row Qb m x v := by
  intro m
  have r0 := RLW.at_0 hR (n := 0) (z := 0) rfl (by omega) (by omega)
  induction m with
  | zero => intro x v x0 x4 xm; exfalso; have xm : 6 - x.toInt < 0 := xm; omega
  | succ m ih =>
    intro x v x0 x4 xm v0 v1 hv
    unfold wl_X12_shaftsIn_5
    by_cases d : row (0 : Int32).toNatClampNeg ≤ x
    · have d' : (row 0).toInt ≤ x.toInt := le_z rfl rfl d
      exact br1 d (K _ _ (hv (by omega)) (by omega))
    · have d' : x.toInt < (row 0).toInt := nle_z rfl rfl d
      have x1 := li_1 (x := x) (hi := 6) (by omega) (by omega)
      have v1' := li_1 (x := v) (hi := 7) (by omega) (by omega)
      have vz : (v + 0).toInt = v.toInt := by have := add_z (a := v) (b := 0) (y := 0) rfl rfl (by omega) (by omega); omega
      have e1 : (10 + x).toInt = 10 + x.toInt := add_z rfl rfl (by omega) (by omega)
      have t1 := tnz (x := (10 + x).toInt) rfl (by omega)
      have r1 := RLW.at_10 hR t1 (by omega) (by omega)
      refine br0 d ⟨vpi e1 (by omega) (by omega), e_is (k := (row (10 + x).toNatClampNeg).toInt.toNat) (by omega) (by omega) (fun _ => br0 (by decide) ?_) (fun hn => br1 rfl ?_)⟩
      · exact ih _ _ (by omega) (by omega) (by omega) (by omega) (by omega) (fun _ => by omega)
      · refine ih _ _ (by omega) (by omega) (by omega) (by omega) (by omega) (fun q => ?_)
        by_cases e : sh = x.toInt
        · exfalso
          have ee : (10 + sh).toNat = (10 + x).toNatClampNeg := by omega
          rw [ee] at hk
          apply hn
          rw [hk]
          exact hb
        · have := hv (by omega); omega
theorem s_hasF {a : Int32} {row : Nat → Int32} (a0 : 0 ≤ a.toInt) (a1 : a.toInt < (row 0).toInt) (hR : RLW row) {Q : Int32 → Prop} (hq : ∀ r : Int32, Q r) : wp_X12_hasOf a row Q := by
  unfold wp_X12_hasOf wp_X12_hasFound
  have r0 := RLW.at_0 hR (n := 0) (z := 0) rfl (by omega) (by omega)
  have e1 : (10 + a).toInt = 10 + a.toInt := add_z rfl rfl (by omega) (by omega)
  have t1 := tnz (x := (10 + a).toInt) rfl (by omega)
  have r1 := RLW.at_10 hR t1 (by omega) (by omega)
  have e2 : (113 + row (10 + a).toNatClampNeg).toInt = 113 + (row (10 + a).toNatClampNeg).toInt := add_z rfl rfl (by omega) (by omega)
  refine ⟨vpi e1 (by omega) (by omega), vpi e2 (by omega) (by omega), ?_⟩
  have F : ∀ r : Int32, (if r = 0 then Q 0 else (vp_in (10 + a) 5650 ∧ wp_X12_veinOf (row (10 + a).toNatClampNeg) row (fun r_20 => wp_X12_waterOf r_20 row (fun r_26 => wp_X12_shaftsIn r_20 row (fun r_31 => (¬ r_31 = 0 ∧ Q (r_26 / r_31))))))) := fun r => by
    by_cases c : r = 0
    · exact br1 c (hq _)
    · refine br0 c ⟨vpi e1 (by omega) (by omega), s_veinF (k := (row (10 + a).toNatClampNeg).toInt.toNat) (by omega) (by omega) (fun v hv => ?_)⟩
      refine s_X12_waterOf _ _ hR (fun w _ => ?_)
      unfold wp_X12_shaftsIn
      have ee : (10 + a.toInt).toNat = (10 + a).toNatClampNeg := by omega
      refine sl_sh5 (sh := a.toInt) (k := (row (10 + a).toNatClampNeg).toInt.toNat) hR a0 a1 (by rw [ee]; omega) hv (fun x v h1 h2 => ⟨?_, hq _⟩) _ 0 0 (by decide) (by show (0 : Int) ≤ _; omega) (by decide) (by decide) (by decide) (fun q => by have z : (0 : Int32).toInt = 0 := rfl; omega)
      exact z_ne (y := 0) rfl rfl (by omega)
  by_cases c : row (113 + row (10 + a).toNatClampNeg).toNatClampNeg = 3
  · exact br1 c (F 1)
  · exact br0 c (F 0)
