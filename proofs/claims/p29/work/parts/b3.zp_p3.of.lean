/-! of: what both sides answer -/
theorem csF_1 {w : Nat → Int} {p : Nat → Bool} {i : Nat} (h : p (w (10 + i)).toNat = true) : ∀ k, i < k → 1 ≤ csF w p k := by
  intro k
  induction k with
  | zero => intro z; omega
  | succ k ih =>
    intro z
    have b := csF_b (w := w) (p := p) k
    show 1 ≤ csF w p k + (if p (w (10 + k)).toNat = true then 1 else 0)
    by_cases e : i = k
    · subst e; rw [if_pos h]; omega
    · have q := ih (by omega)
      split <;> omega
theorem csF_z {w : Nat → Int} {p : Nat → Bool} (h : ∀ j, p j = false) : ∀ k, csF w p k = 0 := by
  intro k
  induction k with
  | zero => rfl
  | succ k ih =>
    show csF w p k + (if p (w (10 + k)).toNat = true then 1 else 0) = 0
    rw [ih, h, if_neg (by decide)]
    rfl
theorem bt_z (j : Nat) : bt 0 j = false := by unfold bt; exact BitVec.getLsbD_zero
theorem x_vn_no {kd : Nat → Int32} {w : Nat → Int} (hK : RkW kd 113 40 w) {c : Int32} {a : Nat} (hc : c.toInt = (a : Int)) (ha : a < 40) (hw : ¬ w (113 + a) = 3) {Q : Int64 → Prop} (hq : Q 0) : wp_X6_veinOf c kd Q := by
  unfold wp_X6_veinOf
  refine x_vn5 hK (fun _ => ?_) _ 0 _ rfl (by omega) (by omega)
  have hk2 : ∀ j, 40 ≤ j → bt (bitsF (fun c => decide (w (113 + c) = 3)) 40) j = false := fun j hj => by
    rw [bt_bitsF 40 (by decide) j, decide_eq_false (by omega), Bool.false_and]
  have s1 : ∀ j, bt (((1 : Int64) <<< (c.toInt64 &&& 63))) j = decide (a = j) := fun j => by
    have t := bt_or1 (x := 0) hc (show a < 64 by omega) j
    rw [show (0 : Int64) ||| ((1 : Int64) <<< (c.toInt64 &&& 63)) = ((1 : Int64) <<< (c.toInt64 &&& 63)) from by
      apply wb_inj
      rw [Int64.toBitVec_or]
      show 0#64 ||| _ = _
      exact BitVec.zero_or] at t
    rw [t, bt_z, Bool.false_or]
  have z : ((((1 : Int64) <<< (c.toInt64 &&& 63))) &&& bitsF (fun c => decide (w (113 + c) = 3)) 40) = 0 := by
    apply bt_eq
    intro j _
    rw [bt_and, s1, bt_z]
    by_cases e : a = j
    · subst e
      rw [bt_bitsF 40 (by decide) a, decide_eq_false hw, Bool.and_false, Bool.and_false]
    · rw [decide_eq_false e, Bool.false_and]
  rw [z]
  have v : vnx 0 (bitsF (fun c => decide (w (113 + c) = 3)) 40) = 0 := by
    apply bt_eq
    intro j _
    rw [bt_z]
    by_cases g : j < 40
    · cases e : bt (vnx 0 (bitsF (fun c => decide (w (113 + c) = 3)) 40)) j with
      | false => rfl
      | true =>
        exfalso
        rcases ((bt_vnx (fun j _ => bt_z j) g).mp e).1 with t | ⟨d, _, t, _⟩
        · rw [bt_z] at t; cases t
        · rw [bt_z] at t; cases t
    · unfold vnx
      rw [bt_and, hk2 j (by omega), Bool.and_false]
  have K : ∀ m : Nat, 0 < m → ∀ k : Int64, vnx 0 k = 0 → wl_X6_veinOf_46 k (fun _ x_46_1 => Q x_46_1) m 0 0 := fun m hm k hv => by
    cases m with
    | zero => omega
    | succ m =>
      show (if (40 : Int32) ≤ 0 then Q 0 else if lg_cmp (vnx 0 k) 0 = 0 then Q 0 else wl_X6_veinOf_46 k (fun _ x_46_1 => Q x_46_1) m (0 + 1) (vnx 0 k))
      rw [hv]
      exact br0 (by decide) (br1 rfl hq)
  exact K _ (by decide) _ v
noncomputable def shrF (w : Nat → Int) (c : Nat) : Int := if w (113 + c) = 3 then (if csF w (bt (vnF (wtP w) c)) (w 0).toNat = 0 then 0 else swF w (bt (vnF (wtP w) c)) 40 / csF w (bt (vnF (wtP w) c)) (w 0).toNat) else 0
noncomputable def ofR (w : Nat → Int) (a b : Int) : Int := if a < 0 ∨ w 0 ≤ a then -1 else if b = 0 then w (10 + a.toNat) else if b = 1 then w (16 + a.toNat) else if b = 2 then (if w (113 + (w (10 + a.toNat)).toNat) = 2 then 1 else 0) else if b = 3 then (if w (113 + (w (10 + a.toNat)).toNat) = 3 then 1 else 0) else if b = 4 then shrF w (w (10 + a.toNat)).toNat else -1
theorem x_shc {kd wt ce : Nat → Int32} {c cc : Int32} {a : Nat} {w : Nat → Int} (hK : RkW kd 113 40 w) (hw : RkW wt 73 40 w) (hce : RkW ce 10 6 w) (hcc : cc.toInt = w 0) (h6 : 0 ≤ w 0 ∧ w 0 ≤ 6) (b73 : ∀ k, k < 40 → 0 ≤ w (73 + k) ∧ w (73 + k) ≤ 99) (b10 : ∀ k, k < 6 → 0 ≤ w (10 + k) ∧ w (10 + k) ≤ 39) (hc : c.toInt = (a : Int)) (ha : a < 40) {Q : Int32 → Prop} (hq : ∀ r : Int32, r.toInt = shrF w a → Q r) : wp_X10_shareOf c kd cc ce wt Q := by
  unfold wp_X10_shareOf
  by_cases t : w (113 + a) = 3
  · refine x_vn hK hc ha t (fun r hr => x_ci hce hcc h6 b10 (fun s hs => ?_))
    have er := hr.eq
    have S : shrF w a = if csF w (bt (vnF (wtP w) a)) (w 0).toNat = 0 then 0 else swF w (bt (vnF (wtP w) a)) 40 / csF w (bt (vnF (wtP w) a)) (w 0).toNat := if_pos t
    rw [er] at hs
    have B := csF_b (w := w) (p := bt (vnF (wtP w) a)) (w 0).toNat
    by_cases z : s = 0
    · have z' := eq_z hs (y := 0) rfl z
      exact br1 z (hq _ (by rw [S, if_pos z']; rfl))
    · have z' := ne_z hs (y := 0) rfl z
      refine br0 z (x_wi hw b73 (fun v hv => ⟨z, hq _ ?_⟩))
      rw [er] at hv
      have W := swF_b (p := bt (vnF (wtP w) a)) b73 40 (Nat.le_refl _)
      rw [S, if_neg z', div_z hv hs W.1 (by omega)]
  · refine x_vn_no hK hc ha t (x_ci hce hcc h6 b10 (fun s hs => ?_))
    rw [csF_z bt_z] at hs
    exact br1 (z_eq hs (y := 0) rfl rfl) (hq _ (by rw [show shrF w a = 0 from if_neg t]; rfl))
theorem x_ofc {a b cc : Int32} {kd wt ce bu : Nat → Int32} {w : Nat → Int} (hK : RkW kd 113 40 w) (hw : RkW wt 73 40 w) (hce : RkW ce 10 6 w) (hbu : RkW bu 16 6 w) (hcc : cc.toInt = w 0) (h6 : 0 ≤ w 0 ∧ w 0 ≤ 6) (b73 : ∀ k, k < 40 → 0 ≤ w (73 + k) ∧ w (73 + k) ≤ 99) (b10 : ∀ k, k < 6 → 0 ≤ w (10 + k) ∧ w (10 + k) ≤ 39) {Q : Int32 → Prop} (hq : ∀ r : Int32, r.toInt = ofR w a.toInt b.toInt → Q r) : wp_X11_of a b cc ce bu kd wt Q := by
  have m1 : (-1 : Int32).toInt = -1 := by decide
  unfold wp_X11_of
  refine x_within2 hcc (fun h => br1 rfl (hq _ (m1.trans (show ofR w a.toInt b.toInt = -1 from if_pos h).symm))) (fun h0 h1 => br0 (by decide) ⟨vpi rfl h0 (by omega), ?_⟩)
  obtain ⟨k, hk⟩ : ∃ k : Nat, a.toInt = (k : Int) := ⟨a.toInt.toNat, by omega⟩
  have ek : a.toInt.toNat = k := by rw [hk, Int.toNat_natCast]
  have V : ofR w a.toInt b.toInt = (if b.toInt = 0 then w (10 + k) else if b.toInt = 1 then w (16 + k) else if b.toInt = 2 then (if w (113 + (w (10 + k)).toNat) = 2 then 1 else 0) else if b.toInt = 3 then (if w (113 + (w (10 + k)).toNat) = 3 then 1 else 0) else if b.toInt = 4 then shrF w (w (10 + k)).toNat else -1) := by
    unfold ofR
    rw [if_neg (show ¬ (a.toInt < 0 ∨ w 0 ≤ a.toInt) by omega), ek]
  have va : vp_in a 6 := vpi hk (by omega) (by omega)
  have bc := b10 k (by omega)
  have e1 : (ce k).toInt = (((w (10 + k)).toNat : Nat) : Int) := by rw [hce k (by omega)]; omega
  have c40 : (w (10 + k)).toNat < 40 := by omega
  have vc : vp_in (ce k) 40 := vpi e1 (by omega) (by omega)
  have ed : (kd (w (10 + k)).toNat).toInt = w (113 + (w (10 + k)).toNat) := hK _ c40
  rw [tnN hk]
  rw [V] at hq
  by_cases c0 : b = 0
  · have c0' := eq_z (x := b.toInt) (y := 0) rfl rfl c0
    exact br1 c0 (hq _ (by rw [if_pos c0']; exact hce k (by omega)))
  · have c0' := ne_z (x := b.toInt) (y := 0) rfl rfl c0
    refine br0 c0 ?_
    by_cases c1 : b = 1
    · have c1' := eq_z (x := b.toInt) (y := 1) rfl rfl c1
      exact br1 c1 ⟨va, hq _ (by rw [if_neg c0', if_pos c1']; exact hbu k (by omega))⟩
    · have c1' := ne_z (x := b.toInt) (y := 1) rfl rfl c1
      refine br0 c1 ?_
      by_cases c2 : b = 2
      · have c2' := eq_z (x := b.toInt) (y := 2) rfl rfl c2
        refine br1 c2 ⟨vc, ?_⟩
        rw [tnN e1]
        by_cases t : kd (w (10 + k)).toNat = 2
        · have t' := eq_z ed (y := 2) rfl t
          exact br1 t (hq _ (by rw [if_neg c0', if_neg c1', if_pos c2', if_pos t']; rfl))
        · have t' := ne_z ed (y := 2) rfl t
          exact br0 t (hq _ (by rw [if_neg c0', if_neg c1', if_pos c2', if_neg t']; rfl))
      · have c2' := ne_z (x := b.toInt) (y := 2) rfl rfl c2
        refine br0 c2 ?_
        by_cases c3 : b = 3
        · have c3' := eq_z (x := b.toInt) (y := 3) rfl rfl c3
          refine br1 c3 ⟨vc, ?_⟩
          rw [tnN e1]
          by_cases t : kd (w (10 + k)).toNat = 3
          · have t' := eq_z ed (y := 3) rfl t
            exact br1 t (hq _ (by rw [if_neg c0', if_neg c1', if_neg c2', if_pos c3', if_pos t']; rfl))
          · have t' := ne_z ed (y := 3) rfl t
            exact br0 t (hq _ (by rw [if_neg c0', if_neg c1', if_neg c2', if_pos c3', if_neg t']; rfl))
        · have c3' := ne_z (x := b.toInt) (y := 3) rfl rfl c3
          refine br0 c3 ?_
          by_cases c4 : b = 4
          · have c4' := eq_z (x := b.toInt) (y := 4) rfl rfl c4
            exact br1 c4 (x_shc hK hw hce hcc h6 b73 b10 e1 c40 (fun r hr => hq _ (by rw [if_neg c0', if_neg c1', if_neg c2', if_neg c3', if_pos c4']; exact hr)))
          · have c4' := ne_z (x := b.toInt) (y := 4) rfl rfl c4
            exact br0 c4 (hq _ (by rw [if_neg c0', if_neg c1', if_neg c2', if_neg c3', if_neg c4']; exact m1))
theorem x_ofm {a b : Int32} {row : Nat → Int32} {w : Nat → Int} (hR : RMw row w) (hr : RLW row) {Q : Int32 → Int32 → Prop} (hq : ∀ r : Int32, r.toInt = ofR w a.toInt b.toInt → Q r 0) : wp_X12_of a b row Q := by
  have m1 : (-1 : Int32).toInt = -1 := by decide
  have a1 : a.toInt64.toInt = a.toInt := Int32.toInt_toInt64 a
  have z0 : (0 : Int64).toInt = 0 := rfl
  have h6 : 0 ≤ w 0 ∧ w 0 ≤ 6 := by rw [← hR 0 (by decide)]; exact RLW.at_0 hr (n := 0) (z := 0) rfl (by decide) (by decide)
  have b73 : ∀ k, k < 40 → 0 ≤ w (73 + k) ∧ w (73 + k) ≤ 99 := fun k hk => by rw [← hR (73 + k) (by omega)]; exact RLW.at_73 hr (n := 73 + k) (z := ((73 + k : Nat) : Int)) rfl (by omega) (by omega)
  have b10 : ∀ k, k < 6 → 0 ≤ w (10 + k) ∧ w (10 + k) ≤ 39 := fun k hk => by rw [← hR (10 + k) (by omega)]; exact RLW.at_10 hr (n := 10 + k) (z := ((10 + k : Nat) : Int)) rfl (by omega) (by omega)
  have r0 : (row (0 : Int32).toNatClampNeg).toInt = w 0 := hR 0 (by decide)
  have rs : ((row (0 : Int32).toNatClampNeg).toInt64 - 1).toInt = w 0 - 1 := lsub_z (b := 1) (y := 1) (i2l_z r0) rfl (by omega) (by omega)
  unfold wp_X12_of wp_X12_isShaft
  refine e_in (fun g0 g1 => br0 (by decide) ?_) (fun g => br1 rfl (hq _ (m1.trans (show ofR w a.toInt b.toInt = -1 from if_pos (by rw [a1, z0, rs] at g; omega)).symm)))
  rw [a1, z0] at g0
  rw [a1, rs] at g1
  obtain ⟨k, hk⟩ : ∃ k : Nat, a.toInt = (k : Int) := ⟨a.toInt.toNat, by omega⟩
  have ek : a.toInt.toNat = k := by rw [hk, Int.toNat_natCast]
  have V : ofR w a.toInt b.toInt = (if b.toInt = 0 then w (10 + k) else if b.toInt = 1 then w (16 + k) else if b.toInt = 2 then (if w (113 + (w (10 + k)).toNat) = 2 then 1 else 0) else if b.toInt = 3 then (if w (113 + (w (10 + k)).toNat) = 3 then 1 else 0) else if b.toInt = 4 then shrF w (w (10 + k)).toNat else -1) := by
    unfold ofR
    rw [if_neg (show ¬ (a.toInt < 0 ∨ w 0 ≤ a.toInt) by omega), ek]
  have bc := b10 k (by omega)
  have x1 : (10 + a).toInt = ((10 + k : Nat) : Int) := by rw [add_z (a := 10) (x := 10) rfl hk (by omega) (by omega)]; omega
  have x2 : (16 + a).toInt = ((16 + k : Nat) : Int) := by rw [add_z (a := 16) (x := 16) rfl hk (by omega) (by omega)]; omega
  have e1 : (row (10 + k)).toInt = w (10 + k) := hR _ (by omega)
  have e2 : (row (16 + k)).toInt = w (16 + k) := hR _ (by omega)
  have x3 : (113 + row (10 + k)).toInt = ((113 + (w (10 + k)).toNat : Nat) : Int) := by rw [add_z (a := 113) (x := 113) rfl e1 (by omega) (by omega)]; omega
  have ed : (row (113 + (w (10 + k)).toNat)).toInt = w (113 + (w (10 + k)).toNat) := hR _ (by omega)
  have ec : (row (10 + k)).toInt = (((w (10 + k)).toNat : Nat) : Int) := by rw [e1]; omega
  have v1 : vp_in (10 + a) 5650 := vpi x1 (by omega) (by omega)
  have v3 : vp_in (113 + row (10 + k)) 5650 := vpi x3 (by omega) (by omega)
  rw [V] at hq
  by_cases c0 : b = 0
  · have c0' := eq_z (x := b.toInt) (y := 0) rfl rfl c0
    refine br1 c0 ⟨v1, hq _ ?_⟩
    rw [tnN x1, if_pos c0']; exact e1
  · have c0' := ne_z (x := b.toInt) (y := 0) rfl rfl c0
    refine br0 c0 ?_
    by_cases c1 : b = 1
    · have c1' := eq_z (x := b.toInt) (y := 1) rfl rfl c1
      refine br1 c1 ⟨vpi x2 (by omega) (by omega), hq _ ?_⟩
      rw [tnN x2, if_neg c0', if_pos c1']; exact e2
    · have c1' := ne_z (x := b.toInt) (y := 1) rfl rfl c1
      refine br0 c1 ?_
      by_cases c2 : b = 2
      · have c2' := eq_z (x := b.toInt) (y := 2) rfl rfl c2
        refine br1 c2 ?_
        unfold wp_X12_isSpoilt
        refine ⟨v1, ?_⟩
        rw [tnN x1]
        refine ⟨v3, ?_⟩
        rw [tnN x3]
        by_cases t : row (113 + (w (10 + k)).toNat) = 2
        · have t' := eq_z ed (y := 2) rfl t
          exact br1 t (br0 (by decide) (hq _ (by rw [if_neg c0', if_neg c1', if_pos c2', if_pos t']; rfl)))
        · have t' := ne_z ed (y := 2) rfl t
          exact br0 t (br1 rfl (hq _ (by rw [if_neg c0', if_neg c1', if_pos c2', if_neg t']; rfl)))
      · have c2' := ne_z (x := b.toInt) (y := 2) rfl rfl c2
        refine br0 c2 ?_
        by_cases c3 : b = 3
        · have c3' := eq_z (x := b.toInt) (y := 3) rfl rfl c3
          refine br1 c3 ?_
          unfold wp_X12_hasFound
          refine ⟨v1, ?_⟩
          rw [tnN x1]
          refine ⟨v3, ?_⟩
          rw [tnN x3]
          by_cases t : row (113 + (w (10 + k)).toNat) = 3
          · have t' := eq_z ed (y := 3) rfl t
            exact br1 t (br0 (by decide) (hq _ (by rw [if_neg c0', if_neg c1', if_neg c2', if_pos c3', if_pos t']; rfl)))
          · have t' := ne_z ed (y := 3) rfl t
            exact br0 t (br1 rfl (hq _ (by rw [if_neg c0', if_neg c1', if_neg c2', if_pos c3', if_neg t']; rfl)))
        · have c3' := ne_z (x := b.toInt) (y := 3) rfl rfl c3
          refine br0 c3 ?_
          by_cases c4 : b = 4
          · have c4' := eq_z (x := b.toInt) (y := 4) rfl rfl c4
            refine br1 c4 ?_
            have A : ∀ r : Int32, r.toInt = shrF w (w (10 + k)).toNat → Q r 0 := fun r hr2 => hq _ (by rw [if_neg c0', if_neg c1', if_neg c2', if_neg c3', if_pos c4']; exact hr2)
            unfold wp_X12_hasOf wp_X12_hasFound
            refine ⟨v1, ?_⟩
            rw [tnN x1]
            refine ⟨v3, ?_⟩
            rw [tnN x3]
            by_cases t : row (113 + (w (10 + k)).toNat) = 3
            · have t' := eq_z ed (y := 3) rfl t
              refine br1 t (br0 (by decide) ⟨v1, x_mvn hR ec (by omega) (fun r hv => x_mwo hR b73 (fun s hs => x_msi hR h6 b10 (fun n hn => ?_)))⟩)
              have own : bt r (w (10 + k)).toNat = true := hv.2.1
              have P := csF_1 (w := w) (p := bt r) own (w 0).toNat (by omega)
              have nz0 : ¬ n = 0 := z_ne hn (y := 0) rfl (by omega)
              refine ⟨nz0, A _ ?_⟩
              have W := swF_b (p := bt r) b73 40 (Nat.le_refl _)
              rw [div_z hs hn W.1 (by omega)]
              unfold shrF
              rw [if_pos t', ← hv.eq, if_neg (show ¬ csF w (bt r) (w 0).toNat = 0 by omega)]
            · have t' := ne_z ed (y := 3) rfl t
              exact br0 t (br1 rfl (A _ (by rw [show shrF w (w (10 + k)).toNat = 0 from if_neg t']; rfl)))
          · have c4' := ne_z (x := b.toInt) (y := 4) rfl rfl c4
            exact br0 c4 (hq _ (by rw [if_neg c0', if_neg c1', if_neg c2', if_neg c3', if_neg c4']; exact m1))
