/-! compare of the class without a Text -/
theorem x_cmpM {a lc ls ns hu c_ s k : Int32} {site : Nat} {laws : Nat → Option Nat} {W0 L0 : Value} {kd hard water term said lost col nc nl ear : Nat → Int32} {w : Nat → Int} {lz : Nat → List Cls} (hW : WK kd hard water term w) (hcol : RkW col 28 5 w) (hear : RkW ear 193 5 w) (c7 : ∀ l, l < 5 → 0 ≤ w (28 + l) ∧ w (28 + l) ≤ 7) (e20 : ∀ l, l < 5 → 0 ≤ w (193 + l) ∧ w (193 + l) ≤ 20) (h6 : 0 ≤ ns.toInt ∧ ns.toInt ≤ 6) (hc : NC nc) (hnl : NL nl) (hz : NZ ns hu nc nl w) (hls : ls.toInt = w 1) (h5 : 0 ≤ w 1 ∧ w 1 ≤ 5) (hlc : lc.toInt = w 5) (hl0 : 0 ≤ lc.toInt) (ha : a.toInt < 0 ∨ lc.toInt ≤ a.toInt) (hS : SA said) (hL : LO lost) (hcc : 0 ≤ c_.toInt ∧ c_.toInt ≤ 39) {Q : Int32 → (Value × Value × Int32 × Int32 × Int32 × (Nat → Int32) × (Nat → Int32)) → Prop} (hq : ∀ (r : Int32) (v1 v2 : Value) (c' s' k' : Int32) (said' lost' : Nat → Int32), r.toInt = cmpR lz w a.toInt ∧ SA said' ∧ LO lost' ∧ (0 ≤ c'.toInt ∧ c'.toInt ≤ 39) → Q r (v1, v2, c', s', k', said', lost')) : wp_X11_compare_N a site lc laws W0 L0 c_ s k kd said lost ls ns hu col nc nl ear Q := by
  have m1 : (-1 : Int32).toInt = -1 := by decide
  by_cases c : a.toInt = -1
  · exact x_cmpN hW hcol hear c7 e20 h6 hc hnl hz hls h5 hlc hl0 c hS hL hcc hq
  · have V : cmpR lz w a.toInt = -1 := cmpR_n (by omega)
    unfold wp_X11_compare_N wp_X10_hasLaw
    have go : Q (-1) (W0, L0, c_, s, k, said, lost) := hq _ _ _ _ _ _ _ _ ⟨m1.trans V.symm, hS, hL, hcc⟩
    by_cases g : a < -1
    · exact br1 g (br1 rfl go)
    · have g' := nlt_z (x := a.toInt) rfl m1 g
      exact br0 g (br1 (z_le (x := lc.toInt) (y := a.toInt) rfl rfl (by omega)) (br1 rfl go))
