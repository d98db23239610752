/-! compare: the calls -/
theorem lawA_n {ls : Nat → List Cls} {a : Int} (h : a < 0) : lawA ls a = none := if_pos h
theorem lawA_s {ls : Nat → List Cls} {a : Int} (h : 0 ≤ a) : lawA ls a = some (ls a.toNat) := if_neg (by omega)
theorem cmpR_y {ls : Nat → List Cls} {w : Nat → Int} {a : Int} (h : ¬ (a < -1 ∨ w 5 ≤ a)) : cmpR ls w a = ((cmS (lawA ls a) w (w 1).toNat : Nat) : Int) := if_neg h
theorem cmpR_n {ls : Nat → List Cls} {w : Nat → Int} {a : Int} (h : a < -1 ∨ w 5 ≤ a) : cmpR ls w a = -1 := if_pos h
theorem x_cmpN {a lc ls ns hu c s k : Int32} {site : Nat} {laws : Nat → Option Nat} {W0 L0 : Value} {kd hard water term said lost col nc nl ear : Nat → Int32} {w : Nat → Int} {lz : Nat → List Cls} (hW : WK kd hard water term w) (hcol : RkW col 28 5 w) (hear : RkW ear 193 5 w) (c7 : ∀ l, l < 5 → 0 ≤ w (28 + l) ∧ w (28 + l) ≤ 7) (e20 : ∀ l, l < 5 → 0 ≤ w (193 + l) ∧ w (193 + l) ≤ 20) (h6 : 0 ≤ ns.toInt ∧ ns.toInt ≤ 6) (hc : NC nc) (hnl : NL nl) (hz : NZ ns hu nc nl w) (hls : ls.toInt = w 1) (h5 : 0 ≤ w 1 ∧ w 1 ≤ 5) (hlc : lc.toInt = w 5) (hl0 : 0 ≤ lc.toInt) (ha : a.toInt = -1) (hS : SA said) (hL : LO lost) (hcc : 0 ≤ c.toInt ∧ c.toInt ≤ 39) {Q : Int32 → (Value × Value × Int32 × Int32 × Int32 × (Nat → Int32) × (Nat → Int32)) → Prop} (hq : ∀ (r : Int32) (v1 v2 : Value) (c' s' k' : Int32) (said' lost' : Nat → Int32), r.toInt = cmpR lz w a.toInt ∧ SA said' ∧ LO lost' ∧ (0 ≤ c'.toInt ∧ c'.toInt ≤ 39) → Q r (v1, v2, c', s', k', said', lost')) : wp_X11_compare_N a site lc laws W0 L0 c s k kd said lost ls ns hu col nc nl ear Q := by
  have m1 : (-1 : Int32).toInt = -1 := by decide
  unfold wp_X11_compare_N wp_X10_hasLaw
  refine br0 (z_nlt (y := -1) rfl m1 (by omega)) (br0 (z_nle (x := lc.toInt) (y := a.toInt) rfl rfl (by omega)) (br0 (by decide) (o_X10_lawOf_N _ _ _ _ (br1 (z_lt (x := a.toInt) (y := 0) rfl rfl (by omega)) ?_))))
  refine z_msN hW hS hL hcc (fun c' s' k' sa lo H => un5_i ?_)
  refine x_cmN hW.1 hcol hear c7 e20 H.1 h6 hc hnl hz hls h5 (fun x r hr => hq _ _ _ _ _ _ _ _ ⟨?_, H.1.1, H.1.2.1, H.2⟩) _ 0 _ _ rfl (by omega) (by omega) rfl
  rw [hr, cmpR_y (by omega), lawA_n (by omega)]
theorem x_cmpT {dn lt tlc tll cc : Int32} {nh nk : Nat} {fh code cel buk : Nat → Int32} {stk : Nat → Int64} {t : Nat} {v : Int32} {a lc ls ns hu c s k : Int32} {site : Nat} {laws : Nat → Option Nat} {W0 L0 : Value} {kd hard water term said lost col nc nl ear : Nat → Int32} {w : Nat → Int} {lz : Nat → List Cls} (hT : XTx tlc tll nh fh nk code (lz a.toInt.toNat)) (hok : ∀ q ∈ lz a.toInt.toNat, okC q) (hB : LwB kd hard water (term 0) (term 2)) (hW : WK kd hard water term w) (hcol : RkW col 28 5 w) (hear : RkW ear 193 5 w) (c7 : ∀ l, l < 5 → 0 ≤ w (28 + l) ∧ w (28 + l) ≤ 7) (e20 : ∀ l, l < 5 → 0 ≤ w (193 + l) ∧ w (193 + l) ≤ 20) (h6 : 0 ≤ ns.toInt ∧ ns.toInt ≤ 6) (hc : NC nc) (hnl : NL nl) (hz : NZ ns hu nc nl w) (hls : ls.toInt = w 1) (h5 : 0 ≤ w 1 ∧ w 1 ≤ 5) (hlc : lc.toInt = w 5) (hl0 : 0 ≤ lc.toInt) (ha0 : 0 ≤ a.toInt) (ha5 : a.toInt ≤ 5) (hal : a.toInt < lc.toInt) (hlw : laws a.toNatClampNeg = some t) (hS : SA said) (hL : LO lost) (hcc : 0 ≤ c.toInt ∧ c.toInt ≤ 39) {Q : Int32 → (Value × Value × Int32 × Int32 × Int32 × Int32 × (Nat → Int64) × (Nat → Int32) × (Nat → Int32)) → Prop} (hq : ∀ (r : Int32) (v1 v2 : Value) (c' s' k' v' : Int32) (stk' : Nat → Int64) (said' lost' : Nat → Int32), r.toInt = cmpR lz w a.toInt ∧ SA said' ∧ LO lost' ∧ (0 ≤ c'.toInt ∧ c'.toInt ≤ 39) → Q r (v1, v2, c', s', k', v', stk', said', lost')) : wp_X11_compare_T a site lc laws W0 L0 c s k dn lt v kd t tlc tll nh fh nk code stk ls ns hu col hard water term cc cel buk said lost nc nl ear Q := by
  have m1 : (-1 : Int32).toInt = -1 := by decide
  unfold wp_X11_compare_T wp_X10_hasLaw
  refine br0 (z_nlt (y := -1) rfl m1 (by omega)) (br0 (z_nle (x := lc.toInt) (y := a.toInt) rfl rfl hal) (br0 (by decide) (o_X10_lawOf_T _ _ _ _ _ (br0 (z_nlt (x := a.toInt) (y := 0) rfl rfl ha0) (br0 (z_nle (x := lc.toInt) (y := a.toInt) rfl rfl hal) (br0 (z_nle (x := 6) (y := a.toInt) rfl rfl (by omega)) ⟨vpi rfl ha0 (by omega), hlw, ?_⟩))))))
  refine z_msT hT hok hW hB hS hL hcc (fun c' s' k' v' stk' sa lo H => un7_i ?_)
  refine x_cmT hW.1 hcol hear c7 e20 H.1 h6 hc hnl hz hls h5 (fun x r hr => hq _ _ _ _ _ _ _ _ _ _ ⟨?_, H.1.1, H.1.2.1, H.2⟩) _ 0 _ _ rfl (by omega) (by omega) rfl
  rw [hr, cmpR_y (by omega), lawA_s ha0]
theorem row_b6 {f : Nat → Int32} {a : Int32} : upd (upd f 6 a) 6 (f (6 : Int32).toNatClampNeg) = f := by
  funext j
  by_cases e : j = 6
  · rw [e, pk_us]; rfl
  · rw [pk_un e, pk_un e]
set_option maxRecDepth 100000 in
theorem x_mcompare {a law broken : Int32} {value sum : Int64} {row nOp nArg : Nat → Int32} {rest now set : Nat → Int64} {ls : Nat → List Cls} {w : Nat → Int} (hl : RML row ls) (hR : RMw row w) (hr : RLW row) (hB : 0 ≤ broken.toInt ∧ broken.toInt ≤ 1) {Q : Int32 → (Int32 × Int32 × Int32 × Int64 × Int64 × (Nat → Int32) × (Nat → Int64) × (Nat → Int64)) → Prop} (hq : ∀ (r law' br' : Int32) (value' sum' : Int64) (set' rest' : Nat → Int64), r.toInt = cmpR ls w a.toInt → (0 ≤ br'.toInt ∧ br'.toInt ≤ 1) → Q r (0, law', br', value', sum', row, set', rest')) : wp_X12_compare a 0 law broken value sum row set nOp nArg rest now Q := by
  have m1 : (-1 : Int32).toInt = -1 := by decide
  have a1 : a.toInt64.toInt = a.toInt := Int32.toInt_toInt64 a
  have z0 : (0 : Int64).toInt = 0 := rfl
  have e5 : (row 5).toInt = w 5 := hR 5 (by decide)
  have r5 : (row (5 : Int32).toNatClampNeg).toInt = w 5 := hR 5 (by decide)
  have b5 : 0 ≤ w 5 ∧ w 5 ≤ 6 := by rw [← e5]; exact RLW.at_5 hr (n := 5) (z := 5) rfl (by decide) (by decide)
  have b1 : 0 ≤ w 1 ∧ w 1 ≤ 5 := by rw [← hR 1 (by decide)]; exact RLW.at_1 hr (n := 1) (z := 1) rfl (by decide) (by decide)
  have rs : ((row (5 : Int32).toNatClampNeg).toInt64 - 1).toInt = w 5 - 1 := lsub_z (b := 1) (y := 1) (i2l_z r5) rfl (by omega) (by omega)
  unfold wp_X12_compare wp_X12_isLaw
  have go : ¬ (a.toInt < -1 ∨ w 5 ≤ a.toInt) → (if (1 : Int32) = 0 then Q (-1) (0, law, broken, value, sum, row, set, rest) else wl_X12_compare_36 a 0 row nOp nArg now (fun (x_36_0 : Int32) (x_36_1 : Int32) (x_36_2 : Int32) (x_36_3 : Int32) (x_36_4 : Int64) (x_36_5 : Int64) (x_36_6 : Nat → Int64) (x_36_7 : Nat → Int64) => (Q x_36_1 (0, x_36_2, x_36_3, x_36_4, x_36_5, (upd (upd row 6 a) 6 (row (6 : Int32).toNatClampNeg)), x_36_6, x_36_7))) 1000000000000 0 0 law broken value sum set rest) := fun g => by
    refine br0 (by decide) (x_mcm (hl.u6 (by omega)) hR (RMw.up hR (k := 6) (i := 6) rfl rfl) (RLW.up_6 hr (n := 6) (z := 6) rfl (by decide) (by decide) (w := a.toInt) rfl (by omega) (by omega)) b1 (fun x s l2 b2 v2 s2 t2 p2 hs hb => ?_) _ 0 _ _ _ _ _ _ _ _ rfl (by omega) (by omega) rfl hB)
    rw [row_b6]
    exact hq _ _ _ _ _ _ _ (hs.trans (cmpR_y g).symm) hb
  by_cases c : a = -1
  · have c' := eq_z (x := a.toInt) rfl m1 c
    exact br1 c (go (by omega))
  · have c' := ne_z (x := a.toInt) rfl m1 c
    refine br0 c (e_in (fun g0 g1 => br0 (by decide) ?_) (fun g => br1 rfl (br1 rfl (hq _ _ _ _ _ _ _ (m1.trans (cmpR_n ?_).symm) hB))))
    · rw [a1, z0] at g0
      rw [a1, rs] at g1
      exact go (by omega)
    · rw [a1, z0, rs] at g
      omega
