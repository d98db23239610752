/-! orders, laws of the reference: whole -/
theorem sl_or150 {nUndo : Int32} {rfs : Nat → Int32} {nC nD nL pd opd : Int32} {f pile nOp nArg pat : Nat → Int32} {fr to so : Int32} {wo : Int64} {fa ba : Int32} {ub sb : Nat → Int32} {cl : Int32} {c n : Nat} (hc : cl.toInt = (c : Int)) (c12 : c < 12) (hO : OC1 f nOp nArg (8 * c) n) (n4 : n ≤ 400) (hB : UB ub) (hS : SO sb) (hU0 : 0 ≤ nUndo.toInt ∧ nUndo.toInt ≤ 16) {Q : Int32 → (Int32 × Int32 × Int32 × Int32 × Int32 × Int32 × Int32 × Int64 × Int32 × Int32 × Int32 × Int32 × Int32 × Int32 × Int32 × Int32 × Int32 × Int32 × Int64 × Int64 × Int32 × Int32 × Int32 × Int32 × (Nat → Int32) × (Nat → Int32) × (Nat → Int32) × (Nat → Int32) × (Nat → Int32) × (Nat → Int32) × (Nat → Int32) × (Nat → Int32) × (Nat → Int32) × (Nat → Int32) × (Nat → Int64) × (Nat → Int64) × (Nat → Int64) × (Nat → Int32)) → Prop} (hQ : ∀ (r st nU tp fr to so : Int32) (wo : Int64) (fa ba od nC nD nL pd opd law br : Int32) (v s : Int64) (dn lt sp of : Int32) (f1 f2 f3 f4 f5 row un ub sr sb : Nat → Int32) (nw rs se : Nat → Int64) (rf : Nat → Int32), tp = 0 → od = 0 → (0 ≤ nU.toInt ∧ nU.toInt ≤ 16) → B01 br → RLW row → UN un → UB ub → SO sr → SO sb → Q r (0, st, nU, tp, fr, to, so, wo, fa, ba, od, nC, nD, nL, pd, opd, law, br, v, s, dn, lt, sp, of, f1, f2, f3, f4, f5, row, un, ub, sr, sb, nw, rs, se, rf)) {D : Int} (hD : D + 20 ≤ 1000) {Qb : Int32 → (Nat → Int32) → (Nat → Int64) → (Nat → Int64) → (Nat → Int64) → Int32 → Int32 → Int32 → Int32 → Int64 → Int64 → Int32 → Int32 → Int32 → (Nat → Int32) → (Nat → Int32) → Prop} (K : ∀ (x : Int32) (sorts : Nat → Int32) (now rest set : Nat → Int64) (nU od law br : Int32) (v s : Int64) (done latest off : Int32) (row undos : Nat → Int32), od = 0 → (0 ≤ nU.toInt ∧ nU.toInt ≤ 16) → B01 br → RLW row → UN undos → SO sorts → 0 ≤ done.toInt → done.toInt ≤ D + 20 → Qb x sorts now rest set nU od law br v s done latest off row undos) : ∀ (m : Nat) (x : Int32) (sorts : Nat → Int32) (now rest set : Nat → Int64) (nU od law br : Int32) (v s : Int64) (done latest off : Int32) (row undos : Nat → Int32), 0 ≤ x.toInt → x.toInt ≤ 20 → 20 - x.toInt < m → od = 0 → (0 ≤ nU.toInt ∧ nU.toInt ≤ 16) → B01 br → RLW row → UN undos → SO sorts → 0 ≤ done.toInt → done.toInt ≤ D + x.toInt → wl_X12_orders_150 nUndo rfs nC nD nL pd opd f pile nOp nArg pat 0 fr to so wo fa ba ub sb cl Q Qb m x sorts now rest set nU od law br v s done latest off row undos := by
  intro m
  have i7 := ix8 hc c12 (j := 7) (J := 7) rfl (by omega)
  have i0 := ix80 hc c12
  have t20 : (f (8 * c + 7)).toInt ≤ 20 := by
    obtain ⟨p1, p2, p3, p4, p5, p6, t, y1, y2, y3, y4, y5, y6, y7, z1, z2, z3, z4, z5, z6, z7, _⟩ := hO
    omega
  induction m with
  | zero => intro x sorts now rest set nU od law br v s done latest off row undos x0 x2 xm; exfalso; have xm : 20 - x.toInt < 0 := xm; omega
  | succ m ih =>
    intro x sorts now rest set nU od law br v s done latest off row undos x0 x2 xm ho hU hb hR hUn hSo d0 d1
    subst ho
    unfold wl_X12_orders_150
    refine ⟨vpi i7 (by omega) (by omega), ?_⟩
    rw [tnN i7]
    by_cases e : f (8 * c + 7) ≤ x
    · exact br1 e (K _ _ _ _ _ _ _ _ _ _ _ _ _ _ _ _ rfl hU hb hR hUn hSo d0 (by omega))
    · have e' := nle_z rfl rfl e
      have x1 := li_1 (x := x) (hi := 20) (by omega) (by omega)
      refine br0 e (s_runF i0 (by omega) hO n4 hU hR hb hUn hSo d0 (by omega) (fun r nU' law' br' v' s' done' latest' off' row' now' rest' set' undos' sorts' k1 k2 k3 k4 k5 k6 => un15_i ?_))
      by_cases g : 0 ≤ r
      · exact br1 g (ih _ _ _ _ _ _ _ _ _ _ _ _ _ _ _ _ (by omega) (by omega) (by omega) rfl k1 k2 k4 k5 k6 k3.1 (by omega))
      · refine br0 g (s_giveBackF k5 k4 hB hS k6 (fun u rr ss h1 h2 h3 => un4_i ?_))
        exact e_tell (by decide) (fun st ff => un2_i (hQ _ _ _ _ _ _ _ _ _ _ _ _ _ _ _ _ _ _ _ _ _ _ _ _ _ _ _ _ _ _ _ _ _ _ _ _ _ _ rfl rfl hU0 k2 h2 h1 hB h3 hS))
theorem sl_or140 {nUndo : Int32} {rfs : Nat → Int32} {nC nD nL pd opd : Int32} {f pile nOp nArg pat : Nat → Int32} {fr to so : Int32} {wo : Int64} {fa ba : Int32} {ub sb : Nat → Int32} {c0 n : Nat} (hc : nC.toInt = (c0 : Int)) (c12 : c0 ≤ 12) (hO : OCs f nOp nArg c0 n) (n4 : n ≤ 400) (hB : UB ub) (hS : SO sb) (hU0 : 0 ≤ nUndo.toInt ∧ nUndo.toInt ≤ 16) {Q : Int32 → (Int32 × Int32 × Int32 × Int32 × Int32 × Int32 × Int32 × Int64 × Int32 × Int32 × Int32 × Int32 × Int32 × Int32 × Int32 × Int32 × Int32 × Int32 × Int64 × Int64 × Int32 × Int32 × Int32 × Int32 × (Nat → Int32) × (Nat → Int32) × (Nat → Int32) × (Nat → Int32) × (Nat → Int32) × (Nat → Int32) × (Nat → Int32) × (Nat → Int32) × (Nat → Int32) × (Nat → Int32) × (Nat → Int64) × (Nat → Int64) × (Nat → Int64) × (Nat → Int32)) → Prop} (hQ : ∀ (r st nU tp fr to so : Int32) (wo : Int64) (fa ba od nC nD nL pd opd law br : Int32) (v s : Int64) (dn lt sp of : Int32) (f1 f2 f3 f4 f5 row un ub sr sb : Nat → Int32) (nw rs se : Nat → Int64) (rf : Nat → Int32), tp = 0 → od = 0 → (0 ≤ nU.toInt ∧ nU.toInt ≤ 16) → B01 br → RLW row → UN un → UB ub → SO sr → SO sb → Q r (0, st, nU, tp, fr, to, so, wo, fa, ba, od, nC, nD, nL, pd, opd, law, br, v, s, dn, lt, sp, of, f1, f2, f3, f4, f5, row, un, ub, sr, sb, nw, rs, se, rf)) {Qb : Int32 → (Nat → Int32) → (Nat → Int64) → (Nat → Int64) → (Nat → Int64) → Int32 → Int32 → Int32 → Int32 → Int64 → Int64 → Int32 → Int32 → Int32 → (Nat → Int32) → (Nat → Int32) → Prop} (K : ∀ (x : Int32) (sorts : Nat → Int32) (now rest set : Nat → Int64) (nU od law br : Int32) (v s : Int64) (done latest off : Int32) (row undos : Nat → Int32), od = 0 → (0 ≤ nU.toInt ∧ nU.toInt ≤ 16) → B01 br → RLW row → UN undos → SO sorts → 0 ≤ done.toInt → Qb x sorts now rest set nU od law br v s done latest off row undos) : ∀ (m c : Nat) (x : Int32) (sorts : Nat → Int32) (now rest set : Nat → Int64) (nU od law br : Int32) (v s : Int64) (done latest off : Int32) (row undos : Nat → Int32), x.toInt = (c : Int) → c ≤ c0 → c0 - c < m → od = 0 → (0 ≤ nU.toInt ∧ nU.toInt ≤ 16) → B01 br → RLW row → UN undos → SO sorts → 0 ≤ done.toInt → done.toInt ≤ 20 * c → wl_X12_orders_140 nUndo rfs nC nD nL pd opd f pile nOp nArg pat 0 fr to so wo fa ba ub sb Q Qb m x sorts now rest set nU od law br v s done latest off row undos := by
  intro m
  induction m with
  | zero => intro c x sorts now rest set nU od law br v s done latest off row undos _ _ h; omega
  | succ m ih =>
    intro c x sorts now rest set nU od law br v s done latest off row undos hx hcc hm ho hU hb hR hUn hSo d0 d1
    unfold wl_X12_orders_140
    by_cases e : nC ≤ x
    · exact br1 e (K _ _ _ _ _ _ _ _ _ _ _ _ _ _ _ _ ho hU hb hR hUn hSo d0)
    · have e' := nle_z rfl rfl e
      refine br0 e (sl_or150 hx (by omega) (hO c (by omega)) n4 hB hS hU0 hQ (D := 20 * (c : Int)) (by omega) (fun x' sorts' now' rest' set' nU' od' law' br' v' s' done' latest' off' row' undos' k1 k2 k3 k4 k5 k6 k7 k8 => ih (c + 1) _ _ _ _ _ _ _ _ _ _ _ _ _ _ _ _ (add1 hx (by omega)) (by omega) (by omega) k1 k2 k3 k4 k5 k6 k7 (by omega)) _ 0 sorts now rest set nU od law br v s done latest off row undos (by decide) (by decide) (by decide) ho hU hb hR hUn hSo d0 ?_)
      have z : (0 : Int32).toInt = 0 := rfl
      omega
theorem s_beginText {a taped : Int32} {tape : Nat → Int32} (ha : B01 a) (h0 : 0 ≤ taped.toInt) (h4 : taped.toInt ≤ 400) {Q : (Int32 × Int32 × Int32 × Int64 × Int32 × Int32 × Int32 × Int32 × Int32 × Int32) → Prop} (hq : ∀ (fr to sort : Int32) (worth : Int64), Tk taped fr to sort → Q (fr, to, sort, worth, -1, 0, a, 0, 0, 0)) : wp_X12_beginText a taped tape Q := by
  unfold wp_X12_beginText
  exact ⟨ha, s_begin h0 h4 (fun fr to sort w h => un6_i (hq _ _ _ _ h))⟩
theorem s_ordersF {nUndo taped pd opd law bq0 : Int32} {v0 s0 : Int64} {dn lt off : Int32} {tape : Nat → Int32} {acts : Nat → Int64} {f pile nOp nArg pat : Nat → Int32} {words oWords : Nat → Int64} {row undos ub sorts sb : Nat → Int32} {now rest set : Nat → Int64} {rfs : Nat → Int32} (hT : 0 ≤ taped.toInt ∧ taped.toInt ≤ 400) (hU : 0 ≤ nUndo.toInt ∧ nUndo.toInt ≤ 16) (hb0 : B01 bq0) (hR : RLW row) (hUn : UN undos) (hUb : UB ub) (hSo : SO sorts) (hSb : SO sb) {Q : Int32 → (Int32 × Int32 × Int32 × Int32 × Int32 × Int32 × Int32 × Int64 × Int32 × Int32 × Int32 × Int32 × Int32 × Int32 × Int32 × Int32 × Int32 × Int32 × Int64 × Int64 × Int32 × Int32 × Int32 × Int32 × (Nat → Int32) × (Nat → Int32) × (Nat → Int32) × (Nat → Int32) × (Nat → Int32) × (Nat → Int32) × (Nat → Int32) × (Nat → Int32) × (Nat → Int32) × (Nat → Int32) × (Nat → Int64) × (Nat → Int64) × (Nat → Int64) × (Nat → Int32)) → Prop} (hQ : ∀ (r st nU tp fr to so : Int32) (wo : Int64) (fa ba od nC nD nL pd opd law br : Int32) (v s : Int64) (dn lt sp of : Int32) (f1 f2 f3 f4 f5 row un ub sr sb : Nat → Int32) (nw rs se : Nat → Int64) (rf : Nat → Int32), tp = 0 → od = 0 → (0 ≤ nU.toInt ∧ nU.toInt ≤ 16) → B01 br → RLW row → UN un → UB ub → SO sr → SO sb → Q r (0, st, nU, tp, fr, to, so, wo, fa, ba, od, nC, nD, nL, pd, opd, law, br, v, s, dn, lt, sp, of, f1, f2, f3, f4, f5, row, un, ub, sr, sb, nw, rs, se, rf)) : wp_X12_orders nUndo taped pd opd law bq0 v0 s0 dn lt off tape acts f pile nOp nArg pat words oWords row undos ub sorts sb now rest set rfs Q := by
  unfold wp_X12_orders
  refine s_beginText (Or.inr rfl) hT.1 hT.2 (fun fr to sort w hk => un10_i ?_)
  refine s_readOrder ⟨hk, Or.inl rfl, 0, rfl, by omega, fun _ => ⟨0, rfl, by omega, hk.1, fun k h => by omega⟩⟩ rfl (fun fr3 to3 sort3 w3 fault3 bad3 nC3 nD3 nL3 pd3 od3 f3 pile3 op3 ar3 pat3 g1 g2 => un16_i ?_)
  refine sl_or19 (fun fr4 to4 sort4 w4 fault4 bad4 nC4 nD4 nL4 pd4 od4 f4 pile4 op4 ar4 pat4 hO => ?_) _ _ _ _ _ _ _ _ _ _ _ _ _ _ _ _ _ g1 (by omega) (fun q => by have := g2 q; have := hk.1; omega)
  obtain ⟨kT, kb, n, kn, n4, kC⟩ := hO
  refine s_endText kT kb (fun fr5 to5 sort5 w5 fault5 bad5 h1 h2 => un8_i ?_)
  by_cases c : bad5 = 0
  · refine br1 c (s_X12_keepAll _ _ _ (by decide) hR hUn (fun u hu => ?_))
    obtain ⟨c0, kc, c12, _, kO⟩ := kC (h2 c)
    refine sl_or77 hu (fun x u2 hu2 => ?_) _ 0 ub (by decide) (by decide) (by decide) hUb
    refine sl_or104 hSo (fun x s2 hs2 => ?_) _ 0 sb (by decide) (by decide) (by decide) hSb
    refine sl_or140 kc c12 kO n4 hu2 hs2 hU hQ (fun x sorts' now' rest' set' nU' od' law' br' v' s' done' latest' off' row' undos' k1 k2 k3 k4 k5 k6 k7 => ?_) _ 0 0 sorts now rest set nUndo 0 law bq0 v0 s0 0 (-1) off row u rfl (by omega) (by omega) rfl hU hb0 hR hu hSo (by decide) (by decide)
    exact e_tell (by omega) (fun st ff => un2_i (hQ _ _ _ _ _ _ _ _ _ _ _ _ _ _ _ _ _ _ _ _ _ _ _ _ _ _ _ _ _ _ _ _ _ _ _ _ _ _ rfl k1 k2 k3 k4 k5 hu2 k6 hs2))
  · exact br0 c (e_tell (by decide) (fun st ff => un2_i (hQ _ _ _ _ _ _ _ _ _ _ _ _ _ _ _ _ _ _ _ _ _ _ _ _ _ _ _ _ _ _ _ _ _ _ _ _ _ _ rfl rfl hU hb0 hR hUn hUb hSo hSb)))
theorem RW.mono {f g : Nat → Int32} (h : RW f) (e : ∀ j, j < 250 → g j = f j) : RW g := by
  intro j q hq k1 k2
  have hj : j < 246 := by
    simp only [RWT, List.mem_cons, List.not_mem_nil, or_false] at hq
    rcases hq with rfl | rfl | rfl | rfl | rfl | rfl | rfl | rfl | rfl | rfl | rfl | rfl | rfl | rfl | rfl | rfl | rfl | rfl | rfl | rfl | rfl | rfl | rfl <;> simp only at k2 <;> omega
  rw [e j (by omega)]
  exact h j q hq k1 k2
theorem s_lawF {taped fr to so : Int32} {wo : Int64} {fa ba od nC nD nL pd opd : Int32} {row tape : Nat → Int32} {heads : Nat → Int64} {f pile nOp nArg pat : Nat → Int32} {words oWords : Nat → Int64} {rfs : Nat → Int32} (hT : 0 ≤ taped.toInt ∧ taped.toInt ≤ 400) (hR : RLW row) (hod : od = 0) {Q : Int32 → (Int32 × Int32 × Int32 × Int32 × Int32 × Int32 × Int64 × Int32 × Int32 × Int32 × Int32 × Int32 × Int32 × Int32 × Int32 × (Nat → Int32) × (Nat → Int32) × (Nat → Int32) × (Nat → Int32) × (Nat → Int32) × (Nat → Int32) × (Nat → Int32)) → Prop} (hq : ∀ (r st tp fr to so : Int32) (wo : Int64) (fa ba od nC nD nL pd opd : Int32) (row f1 f2 f3 f4 f5 rf : Nat → Int32), tp = 0 → od = 0 → RLW row → Q r (0, st, tp, fr, to, so, wo, fa, ba, od, nC, nD, nL, pd, opd, row, f1, f2, f3, f4, f5, rf)) : wp_X12_law taped fr to so wo fa ba od nC nD nL pd opd row tape heads f pile nOp nArg pat words oWords rfs Q := by
  unfold wp_X12_law
  have r5 := RLW.at_5 hR (n := 5) (z := 5) rfl (by omega) (by omega)
  by_cases c : row (5 : Int32).toNatClampNeg = 6
  · exact br1 c (e_tell (by decide) (fun st ff => un2_i (hq _ _ _ _ _ _ _ _ _ _ _ _ _ _ _ _ _ _ _ _ _ _ rfl hod hR)))
  · have c' : ¬ (row 5).toInt = 6 := ne_z (y := 6) rfl rfl c
    obtain ⟨M, hM⟩ : ∃ M : Nat, (row 5).toInt = (M : Int) := ⟨(row 5).toInt.toNat, by omega⟩
    have M6 : M < 6 := by omega
    refine br0 c (s_beginText (Or.inl rfl) hT.1 hT.2 (fun fr to sort w hk => un10_i ?_))
    refine s_readLaw ⟨hk, Or.inl rfl, fun _ => ⟨0, 0, rfl, rfl, by omega, hk.1, fun k h => by omega⟩⟩ rfl (fun fr3 to3 sort3 w3 fault3 bad3 nC3 nD3 nL3 pd3 od3 f3 pile3 op3 ar3 pat3 g1 g2 => un16_i ?_)
    refine sl_law37 (fun fr4 to4 sort4 w4 fault4 bad4 nC4 nD4 nL4 pd4 od4 f4 pile4 op4 ar4 pat4 hL => ?_) _ _ _ _ _ _ _ _ _ _ _ _ _ _ _ _ _ g1 (by omega) (fun q => by have := g2 q; have := hk.1; omega)
    obtain ⟨kT, kb, kC⟩ := hL
    refine s_endText kT kb (fun fr5 to5 sort5 w5 fault5 bad5 h1 h2 => un8_i ?_)
    by_cases d : bad5 = 0
    · obtain ⟨c0, n, kc, kn, c12, knf, kO⟩ := kC (h2 d)
      have n4 : n ≤ 400 := by have := kT.2.1; have := kT.2.2.1; have := kT.2.2.2.1; omega
      have hA := atL (row := row) hM M6
      have i1 := addN hA (b := 1) (y := 1) rfl (by omega)
      refine br1 d ⟨vpi i1 (by omega) (by omega), ?_⟩
      rw [tnN i1]
      refine sl_law111 (row := row) hM M6 kc c12 (r0 := upd row (250 + 900 * M + 1) nC4) (fun x r1 h11 => ?_) _ 0 0 _ rfl (by omega) (by omega) ⟨fun j _ => rfl, fun j _ => rfl, fun k h => by omega⟩
      refine sl_law146 (row := row) hM M6 kn n4 (r0 := r1) (fun x r2 h22 => ?_) _ 0 0 _ rfl (by omega) (by omega) ⟨fun j _ => rfl, fun j _ => rfl, fun k h => by omega⟩
      have LW2 := LW.law hR.2 kc c12 n4 M6 kO h11 h22
      have lo : ∀ j, j < 250 → r2 j = row j := fun j hj => by rw [h22.1 j (by omega), h11.1 j (by omega), pk_un (by omega)]
      have R2 : RLW r2 := ⟨RW.mono hR.1 lo, LW2⟩
      have e5 : r2 (5 : Int32).toNatClampNeg = row 5 := lo 5 (by omega)
      have e6 : (r2 (5 : Int32).toNatClampNeg + 1).toInt = (row 5).toInt + 1 := by rw [e5]; exact add_z rfl rfl (by omega) (by omega)
      have e7 : (r2 (5 : Int32).toNatClampNeg + 1 - 1).toInt = (row 5).toInt := by
        have := sub_z e6 (b := 1) (y := 1) rfl (by omega) (by omega)
        omega
      exact e_tell (by omega) (fun st ff => un2_i (hq _ _ _ _ _ _ _ _ _ _ _ _ _ _ _ _ _ _ _ _ _ _ rfl rfl (RLW.up_5 R2 (n := 5) (z := 5) rfl (by omega) (by omega) e6 (by omega) (by omega))))
    · exact br0 d (e_tell (by decide) (fun st ff => un2_i (hq _ _ _ _ _ _ _ _ _ _ _ _ _ _ _ _ _ _ _ _ _ _ rfl rfl hR)))
