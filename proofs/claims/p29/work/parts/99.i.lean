/-! orders, laws of the reference -/
theorem s_sumF {A p q : Nat} {a law bq0 off0 : Int32} {v0 : Int64} {f row nOp nArg : Nat → Int32} {rest now set : Nat → Int64} (ha : a.toInt = (A : Int)) (hA : A + 1 < 96) (hp : (f A).toInt = (p : Int)) (hq' : (f (A + 1)).toInt = (q : Int)) (hpq : p ≤ q) (h4 : q ≤ 400) (hg : SG nOp nArg p q) (hR : RLW row) (hb0 : B01 bq0) (ho : B01 off0) {Q : Int32 → (Int32 × Int32 × Int64 × Int32 × (Nat → Int64)) → Prop} (hq : ∀ (r br : Int32) (v : Int64) (off : Int32) (rest' : Nat → Int64), B01 br → B01 off → Q r (0, br, v, off, rest')) : wp_X12_sumOf a 0 law bq0 v0 off0 f row nOp nArg rest now set Q := by
  unfold wp_X12_sumOf
  have a1 := add1 ha (by omega)
  have r0 := RLW.at_0 hR (n := 0) (z := 0) rfl (by omega) (by omega)
  have r1 := RLW.at_1 hR (n := 1) (z := 1) rfl (by omega) (by omega)
  by_cases c : off0 = 0
  · refine br1 c ⟨vpi ha (by omega) (by omega), vpi a1 (by omega) (by omega), ?_⟩
    rw [tnN ha, tnN a1]
    by_cases d : f A = f (A + 1)
    · exact br1 d (hq _ _ _ _ _ hb0 ho)
    · refine br0 d ⟨vpi ha (by omega) (by omega), vpi a1 (by omega) (by omega), s_rkO r0 r1 hp hq' hpq h4 hg (fun st rest' _ => un3_i ⟨Or.inl rfl, hq _ _ _ _ _ (Or.inl rfl) (Or.inl rfl)⟩) (fun v rest' _ => un3_i ⟨Or.inr rfl, hq _ _ _ _ _ (Or.inr rfl) (Or.inr rfl)⟩)⟩
  · exact br0 c (hq _ _ _ _ _ hb0 ho)
theorem s_actF {a b d nUndo law bq0 : Int32} {v0 s0 : Int64} {row nOp nArg undos sorts : Nat → Int32} {set rest now : Nat → Int64} (hU : 0 ≤ nUndo.toInt ∧ nUndo.toInt ≤ 16) (hR : RLW row) (hb0 : B01 bq0) (hUn : UN undos) (hSo : SO sorts) {Q : Int32 → (Int32 × Int32 × Int32 × Int64 × Int64 × (Nat → Int32) × (Nat → Int64) × (Nat → Int64) × (Nat → Int32) × (Nat → Int32)) → Prop} (hq : ∀ (r nU law' br : Int32) (v s : Int64) (row' : Nat → Int32) (set' rest' : Nat → Int64) (undos' sorts' : Nat → Int32), (0 ≤ nU.toInt ∧ nU.toInt ≤ 16) → B01 br → RLW row' → UN undos' → SO sorts' → Q r (nU, law', br, v, s, row', set', rest', undos', sorts')) : wp_X12_act a b d nUndo 0 law bq0 v0 s0 row set nOp nArg rest now undos sorts Q := by
  unfold wp_X12_act
  by_cases c0 : a = 0
  · exact br1 c0 (s_digNowF hU hR hb0 hUn hSo (fun r nU law' br v s row' set' rest' undos' sorts' _ k1 k2 k3 k4 k5 => un10_i (hq _ _ _ _ _ _ _ _ _ _ _ k1 k2 k3 k4 k5)))
  · refine br0 c0 ?_
    by_cases c1 : a = 1
    · exact br1 c1 (s_haulNowF hU hR hb0 hUn hSo (fun r nU law' br v s row' undos' sorts' set' rest' _ k1 k2 k3 k4 k5 => un10_i (hq _ _ _ _ _ _ _ _ _ _ _ k1 k2 k3 k4 k5)))
    · refine br0 c1 ?_
      by_cases c2 : a = 2
      · exact br1 c2 (s_X12_hushNow _ _ _ _ _ hU hR hUn hSo (fun r u0 u1 u2 u3 h => un4_i (hq _ _ _ _ _ _ _ _ _ _ _ h.2.1 hb0 h.2.2.1 h.2.2.2.1 h.2.2.2.2)))
      · exact br0 c2 (s_X12_lieNow _ _ _ _ _ _ hU hR hUn hSo (fun r u0 u1 u2 u3 h => un4_i (hq _ _ _ _ _ _ _ _ _ _ _ h.2.1 hb0 h.2.2.1 h.2.2.2.1 h.2.2.2.2)))
theorem s_runF {A n : Nat} {a nUndo law bq0 : Int32} {v0 s0 : Int64} {done latest : Int32} {row f nOp nArg undos sorts : Nat → Int32} {now rest set : Nat → Int64} (ha : a.toInt = (A : Int)) (hA : A + 7 < 96) (hO : OC1 f nOp nArg A n) (n4 : n ≤ 400) (hU : 0 ≤ nUndo.toInt ∧ nUndo.toInt ≤ 16) (hR : RLW row) (hb0 : B01 bq0) (hUn : UN undos) (hSo : SO sorts) (d0 : 0 ≤ done.toInt) (d1 : done.toInt ≤ 1000) {Q : Int32 → (Int32 × Int32 × Int32 × Int32 × Int64 × Int64 × Int32 × Int32 × Int32 × (Nat → Int32) × (Nat → Int64) × (Nat → Int64) × (Nat → Int64) × (Nat → Int32) × (Nat → Int32)) → Prop} (hq : ∀ (r nU law' br : Int32) (v s : Int64) (done' latest' off : Int32) (row' : Nat → Int32) (now' rest' set' : Nat → Int64) (undos' sorts' : Nat → Int32), (0 ≤ nU.toInt ∧ nU.toInt ≤ 16) → B01 br → (0 ≤ done'.toInt ∧ done'.toInt ≤ done.toInt + 1) → RLW row' → UN undos' → SO sorts' → Q r (nU, 0, law', br, v, s, done', latest', off, row', now', rest', set', undos', sorts')) : wp_X12_run a nUndo 0 law bq0 v0 s0 done latest row now f nOp nArg rest set undos sorts Q := by
  unfold wp_X12_run
  obtain ⟨p1, p2, p3, p4, p5, p6, t, y1, y2, y3, y4, y5, y6, y7, z1, z2, z3, z4, z5, z6, z7, g1, g2, g3⟩ := hO
  have a1 := addN ha (b := 1) (y := 1) rfl (by omega)
  have a3 := addN ha (b := 3) (y := 3) rfl (by omega)
  have a5 := addN ha (b := 5) (y := 5) rfl (by omega)
  have a6 := addN ha (b := 6) (y := 6) rfl (by omega)
  have e1 : (done + 1).toInt = done.toInt + 1 := add_z rfl rfl (by omega) (by omega)
  refine ⟨vpi a5 (by omega) (by omega), vpi a6 (by omega) (by omega), ?_⟩
  rw [tnN a5, tnN a6, tnN ha]
  refine jn1_i (un5 (fun (y0 y1 : Int32) (y2 : Int64) (y3 : Int32) (y4 : Nat → Int64) => y0 = 0 ∧ B01 y1 ∧ B01 y3)) (fun y hy => ?_) (fun z hz => ?_)
  · obtain ⟨w0, w1, w2, w3, w4⟩ := y
    obtain ⟨rfl, hw1, hw3⟩ : w0 = 0 ∧ B01 w1 ∧ B01 w3 := hy
    refine un5_i (s_sumF a1 (by omega) y1 y2 z1 (by omega) g1 hR hw1 hw3 (fun r br v off rest' k1 k2 => un5_i ?_))
    refine s_sumF a3 (by omega) y3 y4 z3 (by omega) g2 hR k1 k2 (fun r2 br2 v2 off2 rest2 l1 l2 => un5_i ?_)
    by_cases c : off2 = 0
    · refine br1 c ⟨vpi ha (by omega) (by omega), s_actF hU hR l1 hUn hSo (fun r3 nU law' br3 v3 s3 row' set' rest' undos' sorts' m1 m2 m3 m4 m5 => un10_i ?_)⟩
      by_cases e : 0 ≤ r3
      · refine br1 e ⟨vpi ha (by omega) (by omega), ?_⟩
        by_cases g : 2 ≤ f A
        · exact br1 g (hq _ _ _ _ _ _ _ _ _ _ _ _ _ _ _ m1 m2 ⟨by omega, by omega⟩ m3 m4 m5)
        · exact br0 g (hq _ _ _ _ _ _ _ _ _ _ _ _ _ _ _ m1 m2 ⟨by omega, by omega⟩ m3 m4 m5)
      · exact br0 e (hq _ _ _ _ _ _ _ _ _ _ _ _ _ _ _ m1 m2 ⟨by omega, by omega⟩ m3 m4 m5)
    · exact br0 c (hq _ _ _ _ _ _ _ _ _ _ _ _ _ _ _ hU l1 ⟨by omega, by omega⟩ hR hUn hSo)
  · by_cases c : f (A + 6) ≤ f (A + 5)
    · exact br1 c (hz _ ⟨rfl, hb0, Or.inl rfl⟩)
    · refine br0 c (s_sumF a5 (by omega) y5 y6 z5 (by omega) g3 hR hb0 (Or.inl rfl) (fun r br v off rest' k1 k2 => un5_i ?_))
      by_cases d : off = 0
      · refine br1 d ?_
        by_cases e : r = 0
        · exact br1 e (hq _ _ _ _ _ _ _ _ _ _ _ _ _ _ _ hU k1 ⟨by omega, by omega⟩ hR hUn hSo)
        · exact br0 e (hz _ ⟨rfl, k1, k2⟩)
      · exact br0 d (hq _ _ _ _ _ _ _ _ _ _ _ _ _ _ _ hU k1 ⟨by omega, by omega⟩ hR hUn hSo)
theorem sl_gb8 {ub : Nat → Int32} (hB : UB ub) {Qb : Int32 → (Nat → Int32) → Prop} (K : ∀ (x : Int32) (u : Nat → Int32), UN u → Qb x u) : ∀ (m : Nat) (x : Int32) (u : Nat → Int32), 0 ≤ x.toInt → x.toInt ≤ 1696 → 1696 - x.toInt < m → UN u → wl_X12_giveBack_8 ub Qb m x u := by
  intro m
  induction m with
  | zero => intro x u x0 x6 xm; exfalso; have xm : 1696 - x.toInt < 0 := xm; omega
  | succ m ih =>
    intro x u x0 x6 xm hu
    unfold wl_X12_giveBack_8
    by_cases d : 1696 ≤ x
    · exact br1 d (K _ _ hu)
    · have d' := nle_z (x := 1696) rfl rfl d
      have x1 := li_1 (x := x) (hi := 1696) (by omega) (by omega)
      have t := tnz (x := x.toInt) rfl x0
      exact br0 d ⟨vpi rfl (by omega) (by omega), vpi rfl (by omega) (by omega), ih _ _ (by omega) (by omega) (by omega) (UN.cpB hu hB t t x0 x0 (by omega))⟩
theorem sl_gb35 {sb : Nat → Int32} (hB : SO sb) {Qb : Int32 → (Nat → Int32) → Prop} (K : ∀ (x : Int32) (u : Nat → Int32), SO u → Qb x u) : ∀ (m : Nat) (x : Int32) (u : Nat → Int32), 0 ≤ x.toInt → x.toInt ≤ 16 → 16 - x.toInt < m → SO u → wl_X12_giveBack_35 sb Qb m x u := by
  intro m
  induction m with
  | zero => intro x u x0 x6 xm; exfalso; have xm : 16 - x.toInt < 0 := xm; omega
  | succ m ih =>
    intro x u x0 x6 xm hu
    unfold wl_X12_giveBack_35
    by_cases d : 16 ≤ x
    · exact br1 d (K _ _ hu)
    · have d' := nle_z (x := 16) rfl rfl d
      have x1 := li_1 (x := x) (hi := 16) (by omega) (by omega)
      have t := tnz (x := x.toInt) rfl x0
      have b := SO.at_0 hB t x0 (by omega)
      exact br0 d ⟨vpi rfl (by omega) (by omega), vpi rfl (by omega) (by omega), ih _ _ (by omega) (by omega) (by omega) (SO.up_0 hu t x0 (by omega) (w := (sb x.toNatClampNeg).toInt) rfl b.1 b.2)⟩
theorem sl_or77 {un : Nat → Int32} (hB : UN un) {Qb : Int32 → (Nat → Int32) → Prop} (K : ∀ (x : Int32) (u : Nat → Int32), UB u → Qb x u) : ∀ (m : Nat) (x : Int32) (u : Nat → Int32), 0 ≤ x.toInt → x.toInt ≤ 1696 → 1696 - x.toInt < m → UB u → wl_X12_orders_77 un Qb m x u := by
  intro m
  induction m with
  | zero => intro x u x0 x6 xm; exfalso; have xm : 1696 - x.toInt < 0 := xm; omega
  | succ m ih =>
    intro x u x0 x6 xm hu
    unfold wl_X12_orders_77
    by_cases d : 1696 ≤ x
    · exact br1 d (K _ _ hu)
    · have d' := nle_z (x := 1696) rfl rfl d
      have x1 := li_1 (x := x) (hi := 1696) (by omega) (by omega)
      have t := tnz (x := x.toInt) rfl x0
      exact br0 d ⟨vpi rfl (by omega) (by omega), vpi rfl (by omega) (by omega), ih _ _ (by omega) (by omega) (by omega) (UB.cpU hu hB t t x0 x0 (by omega))⟩
theorem sl_or104 {so : Nat → Int32} (hB : SO so) {Qb : Int32 → (Nat → Int32) → Prop} (K : ∀ (x : Int32) (u : Nat → Int32), SO u → Qb x u) : ∀ (m : Nat) (x : Int32) (u : Nat → Int32), 0 ≤ x.toInt → x.toInt ≤ 16 → 16 - x.toInt < m → SO u → wl_X12_orders_104 so Qb m x u := by
  intro m
  induction m with
  | zero => intro x u x0 x6 xm; exfalso; have xm : 16 - x.toInt < 0 := xm; omega
  | succ m ih =>
    intro x u x0 x6 xm hu
    unfold wl_X12_orders_104
    by_cases d : 16 ≤ x
    · exact br1 d (K _ _ hu)
    · have d' := nle_z (x := 16) rfl rfl d
      have x1 := li_1 (x := x) (hi := 16) (by omega) (by omega)
      have t := tnz (x := x.toInt) rfl x0
      have b := SO.at_0 hB t x0 (by omega)
      exact br0 d ⟨vpi rfl (by omega) (by omega), vpi rfl (by omega) (by omega), ih _ _ (by omega) (by omega) (by omega) (SO.up_0 hu t x0 (by omega) (w := (so x.toNatClampNeg).toInt) rfl b.1 b.2)⟩
theorem s_giveBackF {a : Int32} {undos row ub sb sorts : Nat → Int32} (hUn : UN undos) (hR : RLW row) (hB : UB ub) (hS : SO sb) (hSo : SO sorts) {Q : (Int32 × (Nat → Int32) × (Nat → Int32) × (Nat → Int32)) → Prop} (hq : ∀ (u r s : Nat → Int32), UN u → RLW r → SO s → Q (a, u, r, s)) : wp_X12_giveBack a undos row ub sb sorts Q := by
  unfold wp_X12_giveBack
  refine s_X12_putBack _ _ _ (by decide) hUn hR (fun r hr => ?_)
  refine sl_gb8 hB (fun x u hu => ?_) _ 0 undos (by decide) (by decide) (by decide) hUn
  exact sl_gb35 hS (fun x s hs => hq _ _ _ hu hr hs) _ 0 sorts (by decide) (by decide) (by decide) hSo
theorem sl_or19 {taped ordered : Int32} {tape : Nat → Int32} {acts words oWords : Nat → Int64} {Qb : Int32 → Int32 → Int32 → Int64 → Int32 → Int32 → Int32 → Int32 → Int32 → Int32 → Int32 → (Nat → Int32) → (Nat → Int32) → (Nat → Int32) → (Nat → Int32) → (Nat → Int32) → Prop} (K : ∀ (fr to sort : Int32) (worth : Int64) (fault bad nClauses nCode nLeaves piled opened : Int32) (f pile op ar pat : Nat → Int32), OS taped fr to sort bad nClauses nCode f op ar → Qb fr to sort worth fault bad nClauses nCode nLeaves piled opened f pile op ar pat) : ∀ (m : Nat) (fr to sort : Int32) (worth : Int64) (fault bad nClauses nCode nLeaves piled opened : Int32) (f pile op ar pat : Nat → Int32), OS taped fr to sort bad nClauses nCode f op ar → 0 < m → (bad = 0 → 401 - fr.toInt < m) → wl_X12_orders_19 taped tape acts words oWords ordered Qb m fr to sort worth fault bad nClauses nCode nLeaves piled opened f pile op ar pat := by
  intro m
  induction m with
  | zero => intro fr to sort worth fault bad nClauses nCode nLeaves piled opened f pile op ar pat _ h; omega
  | succ m ih =>
    intro fr to sort worth fault bad nClauses nCode nLeaves piled opened f pile op ar pat hL hm hM
    unfold wl_X12_orders_19
    by_cases b : bad = 0
    · have hM := hM b
      obtain ⟨hT, hb, n, hn, n4, hC⟩ := id hL
      have u2 := hT.2.1
      have u3 := hT.2.2.1
      have u4 := hT.2.2.2.1
      refine br1 b (e_isSign (fun s1 _ => ?_) (br1 rfl (K _ _ _ _ _ _ _ _ _ _ _ _ _ _ _ _ hL)))
      refine br0 (by decide) (hT.next (nz_of s1 (by decide)) (fun fr2 to2 sort2 w2 k1 k2 => un4_i ?_))
      refine s_readOrder ⟨k2, hb, n, hn, n4, fun q => ?_⟩ b (fun fr3 to3 sort3 w3 fault3 bad3 nC3 nD3 nL3 pd3 od3 f3 pile3 op3 ar3 pat3 g1 g2 => un16_i (ih _ _ _ _ _ _ _ _ _ _ _ _ _ _ _ _ g1 (by omega) (fun q => by have := g2 q; omega)))
      obtain ⟨c, x1, x2, x3, x4⟩ := hC q
      exact ⟨c, x1, x2, by omega, x4⟩
    · exact br0 b (K _ _ _ _ _ _ _ _ _ _ _ _ _ _ _ _ hL)
