/-! the class's SUMS -/
theorem x_timing {a : Int32} {t : Int} (ha : a.toInt = t) (hb : 0 ≤ t ∧ t ≤ 2001) {Q : Int32 → Prop} (h0 : rd_tm t = 0 → Q (-1)) (h1 : ¬ rd_tm t = 0 → ∀ r : Int32, r.toInt = (rd_tm t : Int) - 18 → 22 ≤ rd_tm t → rd_tm t ≤ 24 → Q r) : wp_X5_timingOf a Q := by
  unfold wp_X5_timingOf
  have e : (a - 100).toInt = t - 100 := sub_z ha (b := 100) (y := 100) rfl (by omega) (by omega)
  unfold rd_tm at h0 h1
  by_cases c1 : a - 100 = 37
  · have c1' := eq_z (y := 37) e rfl c1
    rw [if_neg (by omega), if_neg (by omega), if_pos (by omega)] at h1
    exact br1 c1 (h1 (by decide) 6 rfl (by decide) (by decide))
  · have c1' := ne_z (y := 37) e rfl c1
    refine br0 c1 ?_
    by_cases c2 : a - 100 = 42
    · have c2' := eq_z (y := 42) e rfl c2
      rw [if_pos (by omega)] at h1
      exact br1 c2 (h1 (by decide) 4 rfl (by decide) (by decide))
    · have c2' := ne_z (y := 42) e rfl c2
      refine br0 c2 ?_
      by_cases c3 : a - 100 = 47
      · have c3' := eq_z (y := 47) e rfl c3
        rw [if_neg (by omega), if_pos (by omega)] at h1
        exact br1 c3 (h1 (by decide) 5 rfl (by decide) (by decide))
      · have c3' := ne_z (y := 47) e rfl c3
        rw [if_neg (by omega), if_neg (by omega), if_neg (by omega)] at h0
        exact br0 c3 (h0 rfl)
theorem x_adding {a : Int32} {t : Int} (ha : a.toInt = t) (hb : 0 ≤ t ∧ t ≤ 2001) {Q : Int32 → Prop} (h0 : rd_ad t = 0 → Q (-1)) (h1 : ¬ rd_ad t = 0 → ∀ r : Int32, r.toInt = (rd_ad t : Int) - 18 → 20 ≤ rd_ad t → rd_ad t ≤ 21 → Q r) : wp_X5_addingOf a Q := by
  unfold wp_X5_addingOf
  have e : (a - 100).toInt = t - 100 := sub_z ha (b := 100) (y := 100) rfl (by omega) (by omega)
  unfold rd_ad at h0 h1
  by_cases c1 : a - 100 = 43
  · have c1' := eq_z (y := 43) e rfl c1
    rw [if_pos (by omega)] at h1
    exact br1 c1 (h1 (by decide) 2 rfl (by decide) (by decide))
  · have c1' := ne_z (y := 43) e rfl c1
    refine br0 c1 ?_
    by_cases c2 : a - 100 = 45
    · have c2' := eq_z (y := 45) e rfl c2
      rw [if_neg (by omega), if_pos (by omega)] at h1
      exact br1 c2 (h1 (by decide) 3 rfl (by decide) (by decide))
    · have c2' := ne_z (y := 45) e rfl c2
      rw [if_neg (by omega), if_neg (by omega)] at h0
      exact br0 c2 (h0 rfl)
/-- a sign that waits: none, or one with its left side told -/
def PWt (ord : Bool) (code : Nat → Int32) (q c k0 : Nat) (tm : Int32) (pn : Nat) (cc : Sem → Sem) : Prop :=
  (tm = -1 ∧ q = c ∧ k0 = 0 ∧ cc = id ∧ pn = 0) ∨ ∃ (o : Nat) (s : Sem), tm.toInt = (o : Int) - 18 ∧ 20 ≤ o ∧ o ≤ 27 ∧ seg (cX ord code) q c k0 s ∧ cc = rd_bin o s ∧ pn = 1
/-- the sign that waits is written behind its right side -/
theorem PWt.wr {ord : Bool} {code code' : Nat → Int32} {q c k0 pn : Nat} {tm : Int32} {cc : Sem → Sem} (h : PWt ord code q c k0 tm pn cc) (he : ∀ k, k < c → code' k = code k) {dl : Int32} {c' kv : Nat} {v : Sem} (hd : dl.toInt = (c' : Int)) (h4 : c' + pn ≤ 400) (hB : XB ord code' q c') (hs : seg (cX ord code') c c' kv v) {Q : Int32 → (Int32 × (Nat → Int32)) → Prop} (hq : ∀ (dl2 : Int32) (code2 : Nat → Int32), dl2.toInt = ((c' + pn : Nat) : Int) → XB ord code2 q (c' + pn) → seg (cX ord code2) q (c' + pn) (k0 + kv) (cc v) → (∀ k, k < q → code2 k = code k) → Q 1 (dl2, code2)) : wp_X5_write tm 0 dl code' Q := by
  rcases h with ⟨rfl, rfl, rfl, rfl, rfl⟩ | ⟨o, s, e1, e2, e3, e4, rfl, rfl⟩
  · exact x_write0 (hq _ _ hd hB (by rw [Nat.zero_add]; exact hs) he)
  · have g1 := e4.1
    have g2 := hs.1
    have et : tm.toInt = ((o - 18 : Nat) : Int) := by rw [e1]; omega
    refine x_write (B := 0) et (by omega) rfl (by omega) hd (by omega) (fun w hw => ?_)
    have cA := cX_at (ord := ord) (f := code') (c := c') hw (by omega)
    have eo : opm ord ((o - 18 : Nat) : Int) = o := by
      unfold opm
      rw [if_neg (by omega), if_pos (by omega)]
      omega
    rw [eo] at cA
    refine hq _ _ (add1 hd (by omega)) (hB.up hw (by omega) (by omega) (Or.inl ⟨by omega, by omega⟩)) ?_ (fun k hk => ?_)
    · refine seg.bin ((e4.ext (D := cX ord code') (fun i i1 i2 => by unfold cX; rw [he i i2])).ext (fun i i1 i2 => cX_up (by omega))) (hs.ext (fun i i1 i2 => cX_up (by omega))) cA e2 (by omega)
    · unfold upd; rw [if_neg (by omega)]; exact he k (by omega)
set_option maxHeartbeats 1000000 in
theorem HX.t17 {n : Nat} {st : Nat → Nat} {T : Nat → Int} {ord : Bool} {len tc ao fp dc a : Int32} {tk pl : Nat → Int32} (hT : TkX n st T tc tk pl) {wS : WSt} {part : Nat → Nat → PRs} (hP : HX ord len tc ao fp dc tk wS a part) (hmo : ∀ i l, (part i l).1 = true → l ≤ (part i l).2.2.1) {Q : Int32 → (Int32 × Int32 × Int32 × (Nat → Int32)) → Prop} {Qb : Int32 → Int32 → Int32 → Int32 → Int32 → (Nat → Int32) → Prop} {c0 i0 : Nat} : ∀ (m fu : Nat) (cnt tm now parts dl : Int32) (code : Nat → Int32) (i l c q k0 pn : Nat) (cc : Sem → Sem), m < fu → cnt.toInt + (m : Int) = 400 → 2 * cnt.toInt ≤ (i : Int) → now.toInt = (i : Int) → parts.toInt = (l : Int) → dl.toInt = (c : Int) → c0 ≤ i0 → c + pn + i0 ≤ c0 + i → i ≤ 400 → l ≤ 50 → XB ord code q c → q ≤ c → PWt ord code q c k0 tm pn cc →
    ((rd_lp part (fun j => rd_tm (T j)) rd_bin m cc i l).1 = true → ∀ (x t now' parts' dl' : Int32) (code' : Nat → Int32) (c' : Nat), now'.toInt = ((rd_lp part (fun j => rd_tm (T j)) rd_bin m cc i l).2.1 : Int) → parts'.toInt = ((rd_lp part (fun j => rd_tm (T j)) rd_bin m cc i l).2.2.1 : Int) → dl'.toInt = (c' : Int) → (rd_lp part (fun j => rd_tm (T j)) rd_bin m cc i l).2.1 ≤ 400 → (rd_lp part (fun j => rd_tm (T j)) rd_bin m cc i l).2.2.1 ≤ 50 → l ≤ (rd_lp part (fun j => rd_tm (T j)) rd_bin m cc i l).2.2.1 → i < (rd_lp part (fun j => rd_tm (T j)) rd_bin m cc i l).2.1 → c' + i0 ≤ c0 + (rd_lp part (fun j => rd_tm (T j)) rd_bin m cc i l).2.1 → XB ord code' q c' → seg (cX ord code') q c' (k0 + ((rd_lp part (fun j => rd_tm (T j)) rd_bin m cc i l).2.2.1 - l)) (rd_lp part (fun j => rd_tm (T j)) rd_bin m cc i l).2.2.2 → (∀ k, k < q → code' k = code k) → Qb x t now' parts' dl' code') →
    (¬ (rd_lp part (fun j => rd_tm (T j)) rd_bin m cc i l).1 = true → ∀ (now' parts' dl' : Int32) (code' : Nat → Int32), now'.toInt = ((rd_lp part (fun j => rd_tm (T j)) rd_bin m cc i l).2.1 : Int) → Q 0 (now', parts', dl', code')) →
    wl_X5_readSum_17 a len tc ao fp tk dc wS Q Qb fu cnt tm now parts dl code := by
  intro m
  induction m with
  | zero =>
    intro fu cnt tm now parts dl code i l c q k0 pn cc hfu hcn h2 hi hl hc h00 hb hi4 hl5 hB hq hw h1 h0
    exfalso
    have hcn : cnt.toInt + 0 = 400 := hcn
    omega
  | succ m ih =>
    intro fu cnt tm now parts dl code i l c q k0 pn cc hfu hcn h2 hi hl hc h00 hb hi4 hl5 hB hq hw h1 h0
    have hcn : cnt.toInt + ((m : Int) + 1) = 400 := by simpa using hcn
    rw [lp_s] at h1 h0
    cases fu with
    | zero => exact absurd hfu (Nat.not_lt_zero _)
    | succ fu =>
      unfold wl_X5_readSum_17
      refine br0 (z_nle (x := 400) (y := cnt.toInt) rfl rfl (by omega)) ?_
      refine hP now parts dl code i l c _ hi hl hc (by omega) hi4 hl5 (fun z now' parts' dl' code' c' k1 k2 k3 k4 k5 k6 k7 k8 k9 k10 => un4_i (br0 (by decide) ?_)) (fun z now' parts' dl' code' k1 => un4_i (br1 rfl ?_))
      · rw [if_pos z] at h1 h0
        have mo := hmo i l z
        refine hw.wr k10 k3 (by omega) (hB.join k10 k8) k9 (fun dl2 code2 g1 g2 g3 g4 => un2_i (br0 (by decide) (x_tokenNow hT k1 (fun t ht => ?_))))
        have c1 : (cnt + 1).toInt = cnt.toInt + 1 := add_z (a := cnt) (b := 1) rfl rfl (by have := i32_lo cnt; show _ ≤ cnt.toInt + 1; omega) (by show cnt.toInt + 1 ≤ _; omega)
        refine x_timing ht (hT.tb _) (fun t0 => br1 rfl ?_) (fun t0 r hr r22 r24 => br0 (z_ne (y := -1) hr rfl (by omega)) ?_)
        · rw [if_pos t0] at h1
          exact h1 rfl _ _ _ _ _ _ (c' + pn) k1 k2 g1 k4 k5 mo k6 (by show c' + pn + i0 ≤ c0 + (part i l).2.1; omega) g2 g3 g4
        · rw [if_neg t0] at h1 h0
          have j4 := hT.lt (i := (part i l).2.1) (fun w => t0 (by show rd_tm (T (part i l).2.1) = 0; rw [w]; decide))
          refine ih fu (cnt + 1) r (now' + 1) parts' dl2 code2 ((part i l).2.1 + 1) (part i l).2.2.1 (c' + pn) q (k0 + ((part i l).2.2.1 - l)) 1 (rd_bin (rd_tm (T (part i l).2.1)) (cc (part i l).2.2.2)) (by omega) (by omega) (by omega) (add1 k1 (by omega)) k2 g1 h00 (by omega) (by omega) k5 g2 (by have := g3.1; omega) (Or.inr ⟨_, _, hr, by omega, by omega, g3, rfl, rfl⟩) (fun z2 x t now2 parts2 dl3 code3 c3 m1 m2 m3 m4 m5 m6 m7 m8 m9 m10 m11 => ?_) h0
          refine h1 z2 x t now2 parts2 dl3 code3 c3 m1 m2 m3 m4 m5 (by omega) (by omega) m8 m9 ?_ (fun k hk => (m11 k hk).trans (g4 k hk))
          have ek : k0 + ((part i l).2.2.1 - l) + ((rd_lp part (fun j => rd_tm (T j)) rd_bin m (rd_bin (rd_tm (T (part i l).2.1)) (cc (part i l).2.2.2)) ((part i l).2.1 + 1) (part i l).2.2.1).2.2.1 - (part i l).2.2.1) = k0 + ((rd_lp part (fun j => rd_tm (T j)) rd_bin m (rd_bin (rd_tm (T (part i l).2.1)) (cc (part i l).2.2.2)) ((part i l).2.1 + 1) (part i l).2.2.1).2.2.1 - l) := by omega
          rw [← ek]; exact m10
      · rw [if_neg z] at h0
        exact h0 z _ _ _ _ k1
set_option maxHeartbeats 1000000 in
theorem HX.t4 {n : Nat} {st : Nat → Nat} {T : Nat → Int} {ord : Bool} {len tc ao fp dc a : Int32} {tk pl : Nat → Int32} (hT : TkX n st T tc tk pl) {wS : WSt} {part : Nat → Nat → PRs} (hP : HX ord len tc ao fp dc tk wS a part) (hmo : ∀ i l, (part i l).1 = true → l ≤ (part i l).2.2.1) {Q : Int32 → (Int32 × Int32 × Int32 × (Nat → Int32)) → Prop} {Qb : Int32 → Int32 → Int32 → Int32 → Int32 → (Nat → Int32) → Prop} {c0 i0 : Nat} : ∀ (m fu : Nat) (cnt ad now parts dl : Int32) (code : Nat → Int32) (i l c q k0 pn : Nat) (cc : Sem → Sem), m < fu → cnt.toInt + (m : Int) = 400 → 2 * cnt.toInt ≤ (i : Int) → now.toInt = (i : Int) → parts.toInt = (l : Int) → dl.toInt = (c : Int) → c0 ≤ i0 → c + pn + i0 ≤ c0 + i → i ≤ 400 → l ≤ 50 → XB ord code q c → q ≤ c → PWt ord code q c k0 ad pn cc →
    ((rd_lp (rd_lp part (fun j => rd_tm (T j)) rd_bin 400 id) (fun j => rd_ad (T j)) rd_bin m cc i l).1 = true → ∀ (now' parts' dl' : Int32) (code' : Nat → Int32) (c' : Nat), now'.toInt = ((rd_lp (rd_lp part (fun j => rd_tm (T j)) rd_bin 400 id) (fun j => rd_ad (T j)) rd_bin m cc i l).2.1 : Int) → parts'.toInt = ((rd_lp (rd_lp part (fun j => rd_tm (T j)) rd_bin 400 id) (fun j => rd_ad (T j)) rd_bin m cc i l).2.2.1 : Int) → dl'.toInt = (c' : Int) → (rd_lp (rd_lp part (fun j => rd_tm (T j)) rd_bin 400 id) (fun j => rd_ad (T j)) rd_bin m cc i l).2.1 ≤ 400 → (rd_lp (rd_lp part (fun j => rd_tm (T j)) rd_bin 400 id) (fun j => rd_ad (T j)) rd_bin m cc i l).2.2.1 ≤ 50 → l ≤ (rd_lp (rd_lp part (fun j => rd_tm (T j)) rd_bin 400 id) (fun j => rd_ad (T j)) rd_bin m cc i l).2.2.1 → i < (rd_lp (rd_lp part (fun j => rd_tm (T j)) rd_bin 400 id) (fun j => rd_ad (T j)) rd_bin m cc i l).2.1 → c' + i0 ≤ c0 + (rd_lp (rd_lp part (fun j => rd_tm (T j)) rd_bin 400 id) (fun j => rd_ad (T j)) rd_bin m cc i l).2.1 → XB ord code' q c' → seg (cX ord code') q c' (k0 + ((rd_lp (rd_lp part (fun j => rd_tm (T j)) rd_bin 400 id) (fun j => rd_ad (T j)) rd_bin m cc i l).2.2.1 - l)) (rd_lp (rd_lp part (fun j => rd_tm (T j)) rd_bin 400 id) (fun j => rd_ad (T j)) rd_bin m cc i l).2.2.2 → (∀ k, k < q → code' k = code k) → Q 1 (now', parts', dl', code')) →
    (¬ (rd_lp (rd_lp part (fun j => rd_tm (T j)) rd_bin 400 id) (fun j => rd_ad (T j)) rd_bin m cc i l).1 = true → ∀ (now' parts' dl' : Int32) (code' : Nat → Int32), now'.toInt = ((rd_lp (rd_lp part (fun j => rd_tm (T j)) rd_bin 400 id) (fun j => rd_ad (T j)) rd_bin m cc i l).2.1 : Int) → Q 0 (now', parts', dl', code')) →
    wl_X5_readSum_4 a len tc ao fp tk dc wS Q Qb fu cnt ad now parts dl code := by
  intro m
  induction m with
  | zero =>
    intro fu cnt ad now parts dl code i l c q k0 pn cc hfu hcn h2 hi hl hc h00 hb hi4 hl5 hB hq hw h1 h0
    exfalso
    have hcn : cnt.toInt + 0 = 400 := hcn
    omega
  | succ m ih =>
    intro fu cnt ad now parts dl code i l c q k0 pn cc hfu hcn h2 hi hl hc h00 hb hi4 hl5 hB hq hw h1 h0
    have hcn : cnt.toInt + ((m : Int) + 1) = 400 := by simpa using hcn
    obtain ⟨pt, ept⟩ : ∃ pt, rd_lp part (fun j => rd_tm (T j)) rd_bin 400 id = pt := ⟨_, rfl⟩
    rw [ept, lp_s] at h1 h0
    rw [ept] at ih
    cases fu with
    | zero => exact absurd hfu (Nat.not_lt_zero _)
    | succ fu =>
      unfold wl_X5_readSum_4
      refine br0 (z_nle (x := 400) (y := cnt.toInt) rfl rfl (by omega)) ?_
      have inn17 := @HX.t17 n st T ord len tc ao fp dc a tk pl hT wS part hP hmo Q (fun x_17_0 x_17_1 x_17_2 x_17_3 x_17_4 x_17_5 => wp_X5_write ad 0 x_17_4 x_17_5 (fun r_82 => un2 (fun u0 u1 => if r_82 = 0 then Q 0 (x_17_2, x_17_3, u0, u1) else wp_X5_tokenNow tc x_17_2 tk (fun r_91 => wp_X5_addingOf r_91 (fun r_94 => if r_94 = -1 then Q 1 (x_17_2, x_17_3, u0, u1) else wl_X5_readSum_4 a len tc ao fp tk dc wS Q Qb fu (cnt + 1) r_94 (x_17_2 + 1) x_17_3 u0 u1))))) c i 400 1000000000000 0 (-1) now parts dl code i l c c 0 0 id
      rw [ept] at inn17
      refine inn17 (by decide) rfl (by show (2 : Int) * 0 ≤ _; omega) hi hl hc (by omega) (by omega) hi4 hl5 (XB.nil ord code c) (Nat.le_refl _) (Or.inl ⟨rfl, rfl, rfl, rfl, rfl⟩) (fun z x t now' parts' dl' code' c' k1 k2 k3 k4 k5 k6 k7 k8 k9 k10 k11 => ?_) (fun z now' parts' dl' code' k1 => ?_)
      · rw [if_pos z] at h1 h0
        rw [Nat.zero_add] at k10
        refine hw.wr k11 k3 (by omega) (hB.join k11 k9) k10 (fun dl2 code2 g1 g2 g3 g4 => un2_i (br0 (by decide) (x_tokenNow hT k1 (fun t ht => ?_))))
        have c1 : (cnt + 1).toInt = cnt.toInt + 1 := add_z (a := cnt) (b := 1) rfl rfl (by have := i32_lo cnt; show _ ≤ cnt.toInt + 1; omega) (by show cnt.toInt + 1 ≤ _; omega)
        refine x_adding ht (hT.tb _) (fun t0 => br1 rfl ?_) (fun t0 r hr r20 r21 => br0 (z_ne (y := -1) hr rfl (by omega)) ?_)
        · rw [if_pos t0] at h1
          exact h1 rfl _ _ _ _ (c' + pn) k1 k2 g1 k4 k5 k6 k7 (by show c' + pn + i0 ≤ c0 + (pt i l).2.1; omega) g2 g3 g4
        · rw [if_neg t0] at h1 h0
          have j4 := hT.lt (i := (pt i l).2.1) (fun w => t0 (by show rd_ad (T (pt i l).2.1) = 0; rw [w]; decide))
          refine ih fu (cnt + 1) r (now' + 1) parts' dl2 code2 ((pt i l).2.1 + 1) (pt i l).2.2.1 (c' + pn) q (k0 + ((pt i l).2.2.1 - l)) 1 (rd_bin (rd_ad (T (pt i l).2.1)) (cc (pt i l).2.2.2)) (by omega) (by omega) (by omega) (add1 k1 (by omega)) k2 g1 h00 (by omega) (by omega) k5 g2 (by have := g3.1; omega) (Or.inr ⟨_, _, hr, by omega, by omega, g3, rfl, rfl⟩) (fun z2 now2 parts2 dl3 code3 c3 m1 m2 m3 m4 m5 m6 m7 m8 m9 m10 m11 => ?_) h0
          refine h1 z2 now2 parts2 dl3 code3 c3 m1 m2 m3 m4 m5 (by omega) (by omega) m8 m9 ?_ (fun k hk => (m11 k hk).trans (g4 k hk))
          have ek : k0 + ((pt i l).2.2.1 - l) + ((rd_lp pt (fun j => rd_ad (T j)) rd_bin m (rd_bin (rd_ad (T (pt i l).2.1)) (cc (pt i l).2.2.2)) ((pt i l).2.1 + 1) (pt i l).2.2.1).2.2.1 - (pt i l).2.2.1) = k0 + ((rd_lp pt (fun j => rd_ad (T j)) rd_bin m (rd_bin (rd_ad (T (pt i l).2.1)) (cc (pt i l).2.2.2)) ((pt i l).2.1 + 1) (pt i l).2.2.1).2.2.1 - l) := by omega
          rw [← ek]; exact m10
      · rw [if_neg z] at h0
        exact h0 z _ _ _ _ k1
theorem HX.sum {n : Nat} {st : Nat → Nat} {T : Nat → Int} {ord : Bool} {len tc ao fp dc a : Int32} {tk pl : Nat → Int32} (hT : TkX n st T tc tk pl) {wS : WSt} {part : Nat → Nat → PRs} (hP : HX ord len tc ao fp dc tk wS a part) (hmo : ∀ i l, (part i l).1 = true → l ≤ (part i l).2.2.1) : HX ord len tc ao fp dc tk (wp_X5_readSum wS) a (rd_sum T part) := by
  intro now parts dl code i l c Q hi hl hc hci hi4 hl5 h1 h0
  unfold wp_X5_readSum
  unfold rd_sum at h1 h0
  refine HX.t4 hT hP hmo (c0 := c) (i0 := i) 400 _ 0 (-1) now parts dl code i l c c 0 0 id (by omega) rfl (by show (2 : Int) * 0 ≤ _; omega) hi hl hc hci (by omega) hi4 hl5 (XB.nil ord code c) (Nat.le_refl _) (Or.inl ⟨rfl, rfl, rfl, rfl, rfl⟩) (fun z now' parts' dl' code' c' k1 k2 k3 k4 k5 k6 k7 k8 k9 k10 k11 => ?_) h0
  rw [Nat.zero_add] at k10
  exact h1 z now' parts' dl' code' c' k1 k2 k3 k4 k5 k7 k8 k9 k10 k11
theorem HX.sumL {tp : Nat → Int32} {n : Nat} {st en : Nat → Nat} {T : Nat → Int} (hL : Lex tp n st en T) {ord : Bool} {len tc ao fp dc : Int32} {tk pl : Nat → Int32} (hT : TkX n st T tc tk pl) (ho : (ao = 0 ∧ ord = false) ∨ (ao = 1 ∧ ord = true)) : ∀ (d m : Nat) (a : Int32), d ≤ m → a.toInt + (d : Int) = 8 → HX ord len tc ao fp dc tk (wq_sum (m + 1)) a (rd_sumL T ord d) := by
  intro d
  induction d with
  | zero =>
    intro m a hm ha
    have ha : a.toInt + 0 = 8 := ha
    show HX ord len tc ao fp dc tk (wp_X5_readSum (wp_X5_readPart (wq_sum m))) a (rd_sum T (rd_part T ord none))
    refine HX.sum hT (HX.part hT ho (Or.inl ⟨rfl, by omega⟩)) (fun i l z => ?_)
    have := (HF.part hL (fun f e => by cases e) i l).2 z
    omega
  | succ d ih =>
    intro m a hm ha
    have ha : a.toInt + ((d : Int) + 1) = 8 := by simpa using ha
    cases m with
    | zero => omega
    | succ m =>
      have a1 : (a + 1).toInt = a.toInt + 1 := add_z (a := a) (b := 1) rfl rfl (by have := i32_lo a; omega) (by omega)
      show HX ord len tc ao fp dc tk (wp_X5_readSum (wp_X5_readPart (wq_sum (m + 1)))) a (rd_sum T (rd_part T ord (some (rd_sumL T ord d))))
      refine HX.sum hT (HX.part hT ho (Or.inr ⟨_, rfl, by omega, ih m (a + 1) (by omega) (by omega)⟩)) (fun i l z => ?_)
      have := (HF.part hL (fun f e => by injection e with e; rw [← e]; exact HF.sumL hL d) i l).2 z
      omega
