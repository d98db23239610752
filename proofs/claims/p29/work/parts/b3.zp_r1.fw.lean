/-! the class: is there a way; down, in time -/
theorem z_walk {F : Option (List Cls)} {w : Nat → Int} {s : Int} {g c0 : Nat} {cost ends left path : Nat → Int32} (hG : WGr F w s cost ends 40) (hLD : LD (DWP F w s g) (DWC F w s) g 1000000 (dwD F w s g)) (hL : ∀ c, c < 40 → (left c).toInt = dwD F w s g c) {a b : Int32} (ha : a.toInt = (c0 : Int)) (hb : b.toInt = (g : Int)) (h0 : c0 < 40) (hf : dwD F w s g c0 < 1000000) {Q : (Int32 × (Nat → Int32)) → Prop} (hq : ∀ (st : Int32) (path : Nat → Int32), st.toInt = ((stN (dwN F w s g) g 41 c0 : Nat) : Int) → (∀ j, j < stN (dwN F w s g) g 41 c0 → (path j).toInt = ((itF (dwN F w s g) c0 (j + 1) : Nat) : Int)) → Q (st, path)) : wp_X9_walk a b cost left ends path Q := by
  unfold wp_X9_walk
  have mb := stN_le (nx := dwN F w s g) (g := g) 41 c0
  exact x_walk hG hLD hL hb h0 hf (fun x c st path h1 h2 => hq _ _ h1 h2) _ 0 _ _ _ _ rfl ha rfl (Nat.zero_le _) (by omega) (fun j h => absurd h (Nat.not_lt_zero _))
theorem z_findWayN {a b lc fo cc days c s k : Int32} {site : Nat} {laws : Nat → Option Nat} {aW aL : Value} {ce kd hard water term cost ends left : Nat → Int32} {dg : Int64} {w : Nat → Int} (hW : WK kd hard water term w) (hD : RD dg w) (hce : RkW ce 10 6 w) (hcc : cc.toInt = w 0) (h6 : 0 ≤ w 0 ∧ w 0 ≤ 6) (c40 : ∀ k, k < 6 → 0 ≤ w (10 + k) ∧ w (10 + k) ≤ 39) (k3 : ∀ c, c < 40 → 0 ≤ w (113 + c) ∧ w (113 + c) ≤ 3) (hfo : fo.toInt < 0) (hc : 0 ≤ c.toInt ∧ c.toInt ≤ 39) (hd : 0 ≤ days.toInt ∧ days.toInt ≤ 2000000) (hCS : CS cost) (hLE : LE left) {Q : Int32 → (Value × Value × Int32 × Int32 × Int32 × Int32 × (Nat → Int32) × (Nat → Int32) × (Nat → Int32)) → Prop} (h0 : 1000000 ≤ dwB none w a.toInt b.toInt → ∀ (v1 v2 : Value) (c' s' k' d' : Int32) (cost' ends' left' : Nat → Int32), (0 ≤ c'.toInt ∧ c'.toInt ≤ 39) → (0 ≤ d'.toInt ∧ d'.toInt ≤ 2000000) → CS cost' → LE left' → Q 0 (v1, v2, c', s', k', d', cost', ends', left')) (h1 : (0 ≤ a.toInt ∧ a.toInt < w 0 ∧ 0 ≤ b.toInt ∧ b.toInt ≤ 39) → dwB none w a.toInt b.toInt < 1000000 → (ce a.toNatClampNeg).toInt = ((cl0 w a.toInt : Nat) : Int) → cl0 w a.toInt < 40 → dwD none w a.toInt b.toInt.toNat (cl0 w a.toInt) = dwB none w a.toInt b.toInt → ∀ (v1 v2 : Value) (c' s' k' d' : Int32) (cost' ends' left' : Nat → Int32), (0 ≤ c'.toInt ∧ c'.toInt ≤ 39) → d'.toInt = dwB none w a.toInt b.toInt → WGr none w a.toInt cost' ends' 40 → (∀ c, c < 40 → (left' c).toInt = dwD none w a.toInt b.toInt.toNat c) → LD (DWP none w a.toInt b.toInt.toNat) (DWC none w a.toInt) b.toInt.toNat 1000000 (dwD none w a.toInt b.toInt.toNat) → Q 1 (v1, v2, c', s', k', d', cost', ends', left')) : wp_X11_findWay_N a b site lc fo cc ce dg kd laws aW aL c s k days hard cost ends left Q := by
  unfold wp_X11_findWay_N
  refine x_within2 hcc (fun g => br1 rfl (h0 (dwB_n (Or.inl (by omega))) _ _ _ _ _ _ _ _ _ hc hd hCS hLE)) (fun a0 a1 => br0 (by decide) ?_)
  refine x_within2 (z := 40) rfl (fun g => br1 rfl (h0 (dwB_n (Or.inl (by omega))) _ _ _ _ _ _ _ _ _ hc hd hCS hLE)) (fun b0 b1 => br0 (by decide) ?_)
  have n6 : a.toInt.toNat < 6 := by omega
  have cb := c40 _ n6
  have ece : (ce a.toNatClampNeg).toInt = ((cl0 w a.toInt : Nat) : Int) := by
    have q : (ce a.toNatClampNeg).toInt = w (10 + a.toInt.toNat) := hce _ n6
    rw [q]
    show _ = (((w (10 + a.toInt.toNat)).toNat : Nat) : Int)
    omega
  have cl40 : cl0 w a.toInt < 40 := by
    show (w (10 + a.toInt.toNat)).toNat < 40
    omega
  have ek : (kd (cl0 w a.toInt)).toInt = w (113 + cl0 w a.toInt) := hW.1 _ cl40
  refine o_X10_mayBeDugOn _ _ _ _ ⟨vpi rfl a0 (by omega), x_endsA ece ek cl40 (k3 _ cl40) (fun r hr => ?_)⟩
  by_cases e : r = 0
  · have e' := eq_z (y := 0) hr rfl e
    have k1 : w (113 + cl0 w a.toInt) ≤ 1 := by
      by_cases t : w (113 + cl0 w a.toInt) ≤ 1
      · exact t
      · rw [if_neg t] at e'; omega
    have eB := dwB_y (F := none) (w := w) (s := a.toInt) (g := b.toInt) (by omega) (by omega)
    refine br1 e (br0 (by decide) (o_X10_lawInForce_N _ _ _ _ (o_X10_lawOf_N _ _ _ _ (br1 (z_lt (x := fo.toInt) (y := 0) rfl rfl hfo) (o_X0_turnTo_N _ ?_)))))
    refine z_wgN hW hD k3 hc (fun c2 s2 k2 cost2 ends2 hG hc2 => un5_i ⟨vpi rfl a0 (by omega), ?_⟩)
    refine x_daysTo hG ece cl40 (g := b.toInt.toNat) (by omega) (by omega) (fun r2 left2 hr2 hl2 hld => ?_)
    have rb := hld.2.1 _ cl40
    by_cases f : 1000000 ≤ r2
    · have f' := le_z (x := 1000000) (by decide) hr2 f
      exact br1 f (h0 (by omega) _ _ _ _ _ _ _ _ _ hc2 ⟨by omega, by omega⟩ hG.cs (LEd hl2 hld))
    · have f' := nle_z (x := 1000000) (by decide) hr2 f
      exact br0 f (h1 ⟨a0, a1, b0, by omega⟩ (by omega) ece cl40 eB.symm _ _ _ _ _ _ _ _ _ hc2 (by omega) hG hl2 hld)
  · have e' := ne_z (y := 0) hr rfl e
    have k2 : 2 ≤ w (113 + cl0 w a.toInt) := by
      by_cases t : w (113 + cl0 w a.toInt) ≤ 1
      · exact absurd (if_pos t) e'
      · omega
    exact br0 e (br1 rfl (h0 (dwB_n (Or.inr k2)) _ _ _ _ _ _ _ _ _ hc hd hCS hLE))
theorem x_dnN {a b y st lc fo cc days c s k : Int32} {site : Nat} {laws : Nat → Option Nat} {aW aL : Value} {ce kd hard water term cost ends left path : Nat → Int32} {dg : Int64} {w : Nat → Int} (hW : WK kd hard water term w) (hD : RD dg w) (hce : RkW ce 10 6 w) (hcc : cc.toInt = w 0) (h6 : 0 ≤ w 0 ∧ w 0 ≤ 6) (c40 : ∀ k, k < 6 → 0 ≤ w (10 + k) ∧ w (10 + k) ≤ 39) (k3 : ∀ c, c < 40 → 0 ≤ w (113 + c) ∧ w (113 + c) ≤ 3) (hfo : fo.toInt < 0) (hc : 0 ≤ c.toInt ∧ c.toInt ≤ 39) (hd : 0 ≤ days.toInt ∧ days.toInt ≤ 2000000) (hCS : CS cost) (hLE : LE left) (hst : 0 ≤ st.toInt ∧ st.toInt ≤ 40) {Q : Int32 → (Value × Value × Int32 × Int32 × Int32 × Int32 × Int32 × (Nat → Int32) × (Nat → Int32) × (Nat → Int32) × (Nat → Int32)) → Prop} (hq : ∀ (r : Int32) (v1 v2 : Value) (c' s' k' st' d' : Int32) (cost' ends' left' path' : Nat → Int32), r.toInt = downR none w a.toInt b.toInt y.toInt → (0 ≤ c'.toInt ∧ c'.toInt ≤ 39) → (0 ≤ st'.toInt ∧ st'.toInt ≤ 40) → (0 ≤ d'.toInt ∧ d'.toInt ≤ 2000000) → CS cost' → LE left' → Q r (v1, v2, c', s', k', st', d', cost', ends', left', path')) : wp_X11_down_N a b y site lc fo cc ce dg kd laws aW aL c s k st days hard cost ends left path Q := by
  have m1 : (-1 : Int32).toInt = -1 := by decide
  unfold wp_X11_down_N
  by_cases c1 : y < 0
  · have c1' := lt_z (y := 0) rfl rfl c1
    exact br1 c1 (hq _ _ _ _ _ _ _ _ _ _ _ _ (m1.trans (downR_n (Or.inl c1')).symm) hc hst hd hCS hLE)
  · have c1' := nlt_z (y := 0) rfl rfl c1
    refine br0 c1 (z_findWayN hW hD hce hcc h6 c40 k3 hfo hc hd hCS hLE (fun h v1 v2 c1 s1 k1 d1 cost1 ends1 left1 hc1 hd1 hCS1 hLE1 => un9_i (br1 rfl (hq _ _ _ _ _ _ _ _ _ _ _ _ (m1.trans (downR_n (Or.inr h)).symm) hc1 hst hd1 hCS1 hLE1))) (fun hab hB1 ece cl40 eD v1 v2 c1 s1 k1 d1 cost1 ends1 left1 hc1 hd1 hG hL1 hLD => un9_i (br0 (by decide) ?_)))
    obtain ⟨a0, a1, b0, b1⟩ := hab
    have hN : ¬ 1000000 ≤ dwB none w a.toInt b.toInt := by omega
    have dr := hLD.2.1 _ cl40
    have d2 : 0 ≤ d1.toInt ∧ d1.toInt ≤ 2000000 := ⟨by omega, by omega⟩
    have hE := LEd hL1 hLD
    by_cases y0 : y = 0
    · have y0' := eq_z (y := 0) rfl rfl y0
      refine br1 y0 (hq _ _ _ _ _ _ _ _ _ _ _ _ ?_ hc1 hst d2 hG.cs hE)
      rw [y0', downR_0 hN]
      exact hd1
    · have y0' := ne_z (y := 0) rfl rfl y0
      have kb := stN_le (nx := dwN none w a.toInt b.toInt.toNat) (g := b.toInt.toNat) 41 (cl0 w a.toInt)
      have mb := muD_b (D := dwD none w a.toInt b.toInt.toNat) (c := cl0 w a.toInt)
      have wo := (way_ok hLD DWC1 41 (cl0 w a.toInt) (by omega) cl40 (by omega)).1
      have kb2 : stN (dwN none w a.toInt b.toInt.toNat) b.toInt.toNat 41 (cl0 w a.toInt) ≤ 40 := Nat.le_trans wo mb
      refine br0 y0 ⟨vpi rfl a0 (by omega), z_walk hG hLD hL1 ece (by omega) cl40 (by omega) (fun st1 path1 hs1 hp1 => un2_i ?_)⟩
      have s2 : 0 ≤ st1.toInt ∧ st1.toInt ≤ 40 := ⟨by omega, by omega⟩
      by_cases y1 : y = 1
      · have y1' := eq_z (y := 1) rfl rfl y1
        refine br1 y1 (hq _ _ _ _ _ _ _ _ _ _ _ _ ?_ hc1 s2 d2 hG.cs hE)
        rw [y1', downR_1 hN]
        exact hs1
      · have y1' := ne_z (y := 1) rfl rfl y1
        have e2 : (y - 2).toInt = y.toInt - 2 := sub_z rfl rfl (by omega) (by have := i32_hi y; omega)
        refine br0 y1 ?_
        by_cases t : st1 ≤ y - 2
        · have t' := le_z hs1 e2 t
          exact br1 t (hq _ _ _ _ _ _ _ _ _ _ _ _ (m1.trans (downR_z hN (by omega) t').symm) hc1 s2 d2 hG.cs hE)
        · have t' := nle_z hs1 e2 t
          have ey : (y - 2).toInt = (((y.toInt - 2).toNat : Nat) : Int) := by omega
          refine br0 t ⟨vpi ey (by omega) (by omega), ?_⟩
          rw [tnN ey]
          refine hq _ _ _ _ _ _ _ _ _ _ _ _ ?_ hc1 s2 d2 hG.cs hE
          have hlt : (y.toInt - 2).toNat < stN (dwN none w a.toInt b.toInt.toNat) b.toInt.toNat 41 (cl0 w a.toInt) := by omega
          exact (hp1 _ hlt).trans (downR_i hN (by omega) (by omega) hlt).symm
theorem x_tiN {a b y lc fo cc days c s k : Int32} {site : Nat} {laws : Nat → Option Nat} {aW aL : Value} {ce kd hard water term cost ends left : Nat → Int32} {dg : Int64} {chance : Nat → Int64} {w : Nat → Int} (hW : WK kd hard water term w) (hD : RD dg w) (hce : RkW ce 10 6 w) (hcc : cc.toInt = w 0) (h6 : 0 ≤ w 0 ∧ w 0 ≤ 6) (c40 : ∀ k, k < 6 → 0 ≤ w (10 + k) ∧ w (10 + k) ≤ 39) (k3 : ∀ c, c < 40 → 0 ≤ w (113 + c) ∧ w (113 + c) ≤ 3) (hfo : fo.toInt < 0) (hc : 0 ≤ c.toInt ∧ c.toInt ≤ 39) (hd : 0 ≤ days.toInt ∧ days.toInt ≤ 2000000) (hCS : CS cost) (hLE : LE left) {Q : Int64 → (Value × Value × Int32 × Int32 × Int32 × Int32 × (Nat → Int32) × (Nat → Int32) × (Nat → Int32) × (Nat → Int64)) → Prop} (hq : ∀ (r : Int64) (v1 v2 : Value) (c' s' k' d' : Int32) (cost' ends' left' : Nat → Int32) (ch' : Nat → Int64), r = timR none w a.toInt b.toInt y.toInt → (0 ≤ c'.toInt ∧ c'.toInt ≤ 39) → (0 ≤ d'.toInt ∧ d'.toInt ≤ 2000000) → CS cost' → LE left' → Q r (v1, v2, c', s', k', d', cost', ends', left', ch')) : wp_X11_time_N a b y site lc fo cc ce dg kd laws aW aL c s k days hard cost ends left term chance Q := by
  unfold wp_X11_time_N
  refine x_within2 (z := 201) rfl (fun g => br1 rfl (hq _ _ _ _ _ _ _ _ _ _ _ (timR_n (Or.inl (by omega))).symm hc hd hCS hLE)) (fun y0 y1 => br0 (by decide) ?_)
  refine z_findWayN hW hD hce hcc h6 c40 k3 hfo hc hd hCS hLE (fun h v1 v2 c1 s1 k1 d1 cost1 ends1 left1 hc1 hd1 hCS1 hLE1 => un9_i (br1 rfl (hq _ _ _ _ _ _ _ _ _ _ _ (timR_n (Or.inr h)).symm hc1 hd1 hCS1 hLE1))) (fun hab hB1 ece cl40 eD v1 v2 c1 s1 k1 d1 cost1 ends1 left1 hc1 hd1 hG hL1 hLD => un9_i (br0 (by decide) ?_))
  have dr := hLD.2.1 _ cl40
  have d2 : 0 ≤ d1.toInt ∧ d1.toInt ≤ 2000000 := ⟨by omega, by omega⟩
  have hN : y.toInt = ((y.toInt.toNat : Nat) : Int) := by omega
  have e8 : (term 1).toInt = w 8 := hW.2.2.2 1 (by decide)
  refine x_chance hN (by omega) d2.1 (fun r f hr => hq _ _ _ _ _ _ _ _ _ _ _ ?_ hc1 d2 hG.cs (LEd hL1 hLD))
  rw [timR_y (by omega) (by omega) hd1.symm e8 hN]
  exact hr
theorem z_findWayT {a b lc fo cc days c s k dn lt v tlc tll ls : Int32} {site : Nat} {laws : Nat → Option Nat} {aW aL : Value} {ce kd hard water term cost ends left fh code col buk : Nat → Int32} {dg : Int64} {t nh nk : Nat} {stk : Nat → Int64} {L : List Cls} {w : Nat → Int} (hT : XTx tlc tll nh fh nk code L) (hok : ∀ q ∈ L, okC q) (hB : LwB kd hard water (term 0) (term 2)) (hW : WK kd hard water term w) (hD : RD dg w) (hce : RkW ce 10 6 w) (hcc : cc.toInt = w 0) (h6 : 0 ≤ w 0 ∧ w 0 ≤ 6) (c40 : ∀ k, k < 6 → 0 ≤ w (10 + k) ∧ w (10 + k) ≤ 39) (k3 : ∀ c, c < 40 → 0 ≤ w (113 + c) ∧ w (113 + c) ≤ 3) (hf0 : 0 ≤ fo.toInt) (hf5 : fo.toInt ≤ 5) (hfl : fo.toInt < lc.toInt) (hlw : laws fo.toNatClampNeg = some t) (hc : 0 ≤ c.toInt ∧ c.toInt ≤ 39) (hd : 0 ≤ days.toInt ∧ days.toInt ≤ 2000000) (hCS : CS cost) (hLE : LE left) {Q : Int32 → (Value × Value × Int32 × Int32 × Int32 × Int32 × Int32 × (Nat → Int64) × (Nat → Int32) × (Nat → Int32) × (Nat → Int32)) → Prop} (h0 : 1000000 ≤ dwB (some L) w a.toInt b.toInt → ∀ (v1 v2 : Value) (c' s' k' v' d' : Int32) (stk' : Nat → Int64) (cost' ends' left' : Nat → Int32), (0 ≤ c'.toInt ∧ c'.toInt ≤ 39) → (0 ≤ d'.toInt ∧ d'.toInt ≤ 2000000) → CS cost' → LE left' → Q 0 (v1, v2, c', s', k', v', d', stk', cost', ends', left')) (h1 : (0 ≤ a.toInt ∧ a.toInt < w 0 ∧ 0 ≤ b.toInt ∧ b.toInt ≤ 39) → dwB (some L) w a.toInt b.toInt < 1000000 → (ce a.toNatClampNeg).toInt = ((cl0 w a.toInt : Nat) : Int) → cl0 w a.toInt < 40 → dwD (some L) w a.toInt b.toInt.toNat (cl0 w a.toInt) = dwB (some L) w a.toInt b.toInt → ∀ (v1 v2 : Value) (c' s' k' v' d' : Int32) (stk' : Nat → Int64) (cost' ends' left' : Nat → Int32), (0 ≤ c'.toInt ∧ c'.toInt ≤ 39) → d'.toInt = dwB (some L) w a.toInt b.toInt → WGr (some L) w a.toInt cost' ends' 40 → (∀ c, c < 40 → (left' c).toInt = dwD (some L) w a.toInt b.toInt.toNat c) → LD (DWP (some L) w a.toInt b.toInt.toNat) (DWC (some L) w a.toInt) b.toInt.toNat 1000000 (dwD (some L) w a.toInt b.toInt.toNat) → Q 1 (v1, v2, c', s', k', v', d', stk', cost', ends', left')) : wp_X11_findWay_T a b site lc fo cc ce dg kd laws aW aL c s k dn lt v days t tlc tll nh fh nk code stk ls col hard water term buk cost ends left Q := by
  unfold wp_X11_findWay_T
  refine x_within2 hcc (fun g => br1 rfl (h0 (dwB_n (Or.inl (by omega))) _ _ _ _ _ _ _ _ _ _ _ hc hd hCS hLE)) (fun a0 a1 => br0 (by decide) ?_)
  refine x_within2 (z := 40) rfl (fun g => br1 rfl (h0 (dwB_n (Or.inl (by omega))) _ _ _ _ _ _ _ _ _ _ _ hc hd hCS hLE)) (fun b0 b1 => br0 (by decide) ?_)
  have n6 : a.toInt.toNat < 6 := by omega
  have cb := c40 _ n6
  have ece : (ce a.toNatClampNeg).toInt = ((cl0 w a.toInt : Nat) : Int) := by
    have q : (ce a.toNatClampNeg).toInt = w (10 + a.toInt.toNat) := hce _ n6
    rw [q]
    show _ = (((w (10 + a.toInt.toNat)).toNat : Nat) : Int)
    omega
  have cl40 : cl0 w a.toInt < 40 := by
    show (w (10 + a.toInt.toNat)).toNat < 40
    omega
  have ek : (kd (cl0 w a.toInt)).toInt = w (113 + cl0 w a.toInt) := hW.1 _ cl40
  refine o_X10_mayBeDugOn _ _ _ _ ⟨vpi rfl a0 (by omega), x_endsA ece ek cl40 (k3 _ cl40) (fun r hr => ?_)⟩
  by_cases e : r = 0
  · have e' := eq_z (y := 0) hr rfl e
    have k1 : w (113 + cl0 w a.toInt) ≤ 1 := by
      by_cases t : w (113 + cl0 w a.toInt) ≤ 1
      · exact t
      · rw [if_neg t] at e'; omega
    have eB := dwB_y (F := (some L)) (w := w) (s := a.toInt) (g := b.toInt) (by omega) (by omega)
    refine br1 e (br0 (by decide) (o_X10_lawInForce_T _ _ _ _ _ (o_X10_lawOf_T _ _ _ _ _ (br0 (z_nlt (x := fo.toInt) (y := 0) rfl rfl hf0) (br0 (z_nle (x := lc.toInt) (y := fo.toInt) rfl rfl hfl) (br0 (z_nle (x := 6) (y := fo.toInt) rfl rfl (by omega)) ⟨vpi rfl hf0 (by omega), hlw, o_X0_turnTo_T _ ?_⟩))))))
    refine z_wgT hT hok hW hB hD ⟨by omega, by omega⟩ k3 hc (fun c2 s2 k2 v2 stk2 cost2 ends2 hG hc2 => un7_i ⟨vpi rfl a0 (by omega), ?_⟩)
    refine x_daysTo hG ece cl40 (g := b.toInt.toNat) (by omega) (by omega) (fun r2 left2 hr2 hl2 hld => ?_)
    have rb := hld.2.1 _ cl40
    by_cases f : 1000000 ≤ r2
    · have f' := le_z (x := 1000000) (by decide) hr2 f
      exact br1 f (h0 (by omega) _ _ _ _ _ _ _ _ _ _ _ hc2 ⟨by omega, by omega⟩ hG.cs (LEd hl2 hld))
    · have f' := nle_z (x := 1000000) (by decide) hr2 f
      exact br0 f (h1 ⟨a0, a1, b0, by omega⟩ (by omega) ece cl40 eB.symm _ _ _ _ _ _ _ _ _ _ _ hc2 (by omega) hG hl2 hld)
  · have e' := ne_z (y := 0) hr rfl e
    have k2 : 2 ≤ w (113 + cl0 w a.toInt) := by
      by_cases t : w (113 + cl0 w a.toInt) ≤ 1
      · exact absurd (if_pos t) e'
      · omega
    exact br0 e (br1 rfl (h0 (dwB_n (Or.inr k2)) _ _ _ _ _ _ _ _ _ _ _ hc hd hCS hLE))
theorem x_dnT {a b y st lc fo cc days c s k dn lt v tlc tll ls : Int32} {site : Nat} {laws : Nat → Option Nat} {aW aL : Value} {ce kd hard water term cost ends left path fh code col buk : Nat → Int32} {dg : Int64} {t nh nk : Nat} {stk : Nat → Int64} {L : List Cls} {w : Nat → Int} (hT : XTx tlc tll nh fh nk code L) (hok : ∀ q ∈ L, okC q) (hB : LwB kd hard water (term 0) (term 2)) (hW : WK kd hard water term w) (hD : RD dg w) (hce : RkW ce 10 6 w) (hcc : cc.toInt = w 0) (h6 : 0 ≤ w 0 ∧ w 0 ≤ 6) (c40 : ∀ k, k < 6 → 0 ≤ w (10 + k) ∧ w (10 + k) ≤ 39) (k3 : ∀ c, c < 40 → 0 ≤ w (113 + c) ∧ w (113 + c) ≤ 3) (hf0 : 0 ≤ fo.toInt) (hf5 : fo.toInt ≤ 5) (hfl : fo.toInt < lc.toInt) (hlw : laws fo.toNatClampNeg = some t) (hc : 0 ≤ c.toInt ∧ c.toInt ≤ 39) (hd : 0 ≤ days.toInt ∧ days.toInt ≤ 2000000) (hCS : CS cost) (hLE : LE left) (hst : 0 ≤ st.toInt ∧ st.toInt ≤ 40) {Q : Int32 → (Value × Value × Int32 × Int32 × Int32 × Int32 × Int32 × Int32 × (Nat → Int64) × (Nat → Int32) × (Nat → Int32) × (Nat → Int32) × (Nat → Int32)) → Prop} (hq : ∀ (r : Int32) (v1 v2 : Value) (c' s' k' v' st' d' : Int32) (stk' : Nat → Int64) (cost' ends' left' path' : Nat → Int32), r.toInt = downR (some L) w a.toInt b.toInt y.toInt → (0 ≤ c'.toInt ∧ c'.toInt ≤ 39) → (0 ≤ st'.toInt ∧ st'.toInt ≤ 40) → (0 ≤ d'.toInt ∧ d'.toInt ≤ 2000000) → CS cost' → LE left' → Q r (v1, v2, c', s', k', v', st', d', stk', cost', ends', left', path')) : wp_X11_down_T a b y site lc fo cc ce dg kd laws aW aL c s k dn lt v st days t tlc tll nh fh nk code stk ls col hard water term buk cost ends left path Q := by
  have m1 : (-1 : Int32).toInt = -1 := by decide
  unfold wp_X11_down_T
  by_cases c1 : y < 0
  · have c1' := lt_z (y := 0) rfl rfl c1
    exact br1 c1 (hq _ _ _ _ _ _ _ _ _ _ _ _ _ _ (m1.trans (downR_n (Or.inl c1')).symm) hc hst hd hCS hLE)
  · have c1' := nlt_z (y := 0) rfl rfl c1
    refine br0 c1 (z_findWayT hT hok hB hW hD hce hcc h6 c40 k3 hf0 hf5 hfl hlw hc hd hCS hLE (fun h v1 v2 c1 s1 k1 vv1 d1 stk1 cost1 ends1 left1 hc1 hd1 hCS1 hLE1 => un11_i (br1 rfl (hq _ _ _ _ _ _ _ _ _ _ _ _ _ _ (m1.trans (downR_n (Or.inr h)).symm) hc1 hst hd1 hCS1 hLE1))) (fun hab hB1 ece cl40 eD v1 v2 c1 s1 k1 vv1 d1 stk1 cost1 ends1 left1 hc1 hd1 hG hL1 hLD => un11_i (br0 (by decide) ?_)))
    obtain ⟨a0, a1, b0, b1⟩ := hab
    have hN : ¬ 1000000 ≤ dwB (some L) w a.toInt b.toInt := by omega
    have dr := hLD.2.1 _ cl40
    have d2 : 0 ≤ d1.toInt ∧ d1.toInt ≤ 2000000 := ⟨by omega, by omega⟩
    have hE := LEd hL1 hLD
    by_cases y0 : y = 0
    · have y0' := eq_z (y := 0) rfl rfl y0
      refine br1 y0 (hq _ _ _ _ _ _ _ _ _ _ _ _ _ _ ?_ hc1 hst d2 hG.cs hE)
      rw [y0', downR_0 hN]
      exact hd1
    · have y0' := ne_z (y := 0) rfl rfl y0
      have kb := stN_le (nx := dwN (some L) w a.toInt b.toInt.toNat) (g := b.toInt.toNat) 41 (cl0 w a.toInt)
      have mb := muD_b (D := dwD (some L) w a.toInt b.toInt.toNat) (c := cl0 w a.toInt)
      have wo := (way_ok hLD DWC1 41 (cl0 w a.toInt) (by omega) cl40 (by omega)).1
      have kb2 : stN (dwN (some L) w a.toInt b.toInt.toNat) b.toInt.toNat 41 (cl0 w a.toInt) ≤ 40 := Nat.le_trans wo mb
      refine br0 y0 ⟨vpi rfl a0 (by omega), z_walk hG hLD hL1 ece (by omega) cl40 (by omega) (fun st1 path1 hs1 hp1 => un2_i ?_)⟩
      have s2 : 0 ≤ st1.toInt ∧ st1.toInt ≤ 40 := ⟨by omega, by omega⟩
      by_cases y1 : y = 1
      · have y1' := eq_z (y := 1) rfl rfl y1
        refine br1 y1 (hq _ _ _ _ _ _ _ _ _ _ _ _ _ _ ?_ hc1 s2 d2 hG.cs hE)
        rw [y1', downR_1 hN]
        exact hs1
      · have y1' := ne_z (y := 1) rfl rfl y1
        have e2 : (y - 2).toInt = y.toInt - 2 := sub_z rfl rfl (by omega) (by have := i32_hi y; omega)
        refine br0 y1 ?_
        by_cases t : st1 ≤ y - 2
        · have t' := le_z hs1 e2 t
          exact br1 t (hq _ _ _ _ _ _ _ _ _ _ _ _ _ _ (m1.trans (downR_z hN (by omega) t').symm) hc1 s2 d2 hG.cs hE)
        · have t' := nle_z hs1 e2 t
          have ey : (y - 2).toInt = (((y.toInt - 2).toNat : Nat) : Int) := by omega
          refine br0 t ⟨vpi ey (by omega) (by omega), ?_⟩
          rw [tnN ey]
          refine hq _ _ _ _ _ _ _ _ _ _ _ _ _ _ ?_ hc1 s2 d2 hG.cs hE
          have hlt : (y.toInt - 2).toNat < stN (dwN (some L) w a.toInt b.toInt.toNat) b.toInt.toNat 41 (cl0 w a.toInt) := by omega
          exact (hp1 _ hlt).trans (downR_i hN (by omega) (by omega) hlt).symm
theorem x_tiT {a b y lc fo cc days c s k dn lt v tlc tll ls : Int32} {site : Nat} {laws : Nat → Option Nat} {aW aL : Value} {ce kd hard water term cost ends left fh code col buk : Nat → Int32} {dg : Int64} {chance : Nat → Int64} {t nh nk : Nat} {stk : Nat → Int64} {L : List Cls} {w : Nat → Int} (hT : XTx tlc tll nh fh nk code L) (hok : ∀ q ∈ L, okC q) (hB : LwB kd hard water (term 0) (term 2)) (hW : WK kd hard water term w) (hD : RD dg w) (hce : RkW ce 10 6 w) (hcc : cc.toInt = w 0) (h6 : 0 ≤ w 0 ∧ w 0 ≤ 6) (c40 : ∀ k, k < 6 → 0 ≤ w (10 + k) ∧ w (10 + k) ≤ 39) (k3 : ∀ c, c < 40 → 0 ≤ w (113 + c) ∧ w (113 + c) ≤ 3) (hf0 : 0 ≤ fo.toInt) (hf5 : fo.toInt ≤ 5) (hfl : fo.toInt < lc.toInt) (hlw : laws fo.toNatClampNeg = some t) (hc : 0 ≤ c.toInt ∧ c.toInt ≤ 39) (hd : 0 ≤ days.toInt ∧ days.toInt ≤ 2000000) (hCS : CS cost) (hLE : LE left) {Q : Int64 → (Value × Value × Int32 × Int32 × Int32 × Int32 × Int32 × (Nat → Int64) × (Nat → Int32) × (Nat → Int32) × (Nat → Int32) × (Nat → Int64)) → Prop} (hq : ∀ (r : Int64) (v1 v2 : Value) (c' s' k' v' d' : Int32) (stk' : Nat → Int64) (cost' ends' left' : Nat → Int32) (ch' : Nat → Int64), r = timR (some L) w a.toInt b.toInt y.toInt → (0 ≤ c'.toInt ∧ c'.toInt ≤ 39) → (0 ≤ d'.toInt ∧ d'.toInt ≤ 2000000) → CS cost' → LE left' → Q r (v1, v2, c', s', k', v', d', stk', cost', ends', left', ch')) : wp_X11_time_T a b y site lc fo cc ce dg kd laws aW aL c s k dn lt v days t tlc tll nh fh nk code stk ls col hard water term buk cost ends left chance Q := by
  unfold wp_X11_time_T
  refine x_within2 (z := 201) rfl (fun g => br1 rfl (hq _ _ _ _ _ _ _ _ _ _ _ _ _ (timR_n (Or.inl (by omega))).symm hc hd hCS hLE)) (fun y0 y1 => br0 (by decide) ?_)
  refine z_findWayT hT hok hB hW hD hce hcc h6 c40 k3 hf0 hf5 hfl hlw hc hd hCS hLE (fun h v1 v2 c1 s1 k1 vv1 d1 stk1 cost1 ends1 left1 hc1 hd1 hCS1 hLE1 => un11_i (br1 rfl (hq _ _ _ _ _ _ _ _ _ _ _ _ _ (timR_n (Or.inr h)).symm hc1 hd1 hCS1 hLE1))) (fun hab hB1 ece cl40 eD v1 v2 c1 s1 k1 vv1 d1 stk1 cost1 ends1 left1 hc1 hd1 hG hL1 hLD => un11_i (br0 (by decide) ?_))
  have dr := hLD.2.1 _ cl40
  have d2 : 0 ≤ d1.toInt ∧ d1.toInt ≤ 2000000 := ⟨by omega, by omega⟩
  have hN : y.toInt = ((y.toInt.toNat : Nat) : Int) := by omega
  have e8 : (term 1).toInt = w 8 := hW.2.2.2 1 (by decide)
  refine x_chance hN (by omega) d2.1 (fun r f hr => hq _ _ _ _ _ _ _ _ _ _ _ _ _ ?_ hc1 d2 hG.cs (LEd hL1 hLD))
  rw [timR_y (by omega) (by omega) hd1.symm e8 hN]
  exact hr
