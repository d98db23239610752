/-! the class's TESTS: "and", "or" -/
set_option maxHeartbeats 1000000 in
theorem HX.u17 {n : Nat} {st : Nat → Nat} {T : Nat → Int} {ord : Bool} {len tc ao fp dc a : Int32} {tk pl : Nat → Int32} (hT : TkX n st T tc tk pl) {wS : WSt} {part : Nat → Nat → PRs} (hP : HX ord len tc ao fp dc tk wS a part) (hmo : ∀ i l, (part i l).1 = true → l ≤ (part i l).2.2.1) {Q : Int32 → (Int32 × Int32 × Int32 × (Nat → Int32)) → Prop} {Qb : Int32 → Int32 → Int32 → Int32 → Int32 → (Nat → Int32) → Prop} {c0 i0 : Nat} : ∀ (m fu : Nat) (cnt at_ now parts dl : Int32) (code : Nat → Int32) (i l c q k0 : Nat) (cc : Sem → Sem), m < fu → cnt.toInt + (m : Int) = 400 → 2 * cnt.toInt ≤ (i : Int) → now.toInt = (i : Int) → parts.toInt = (l : Int) → dl.toInt = (c : Int) → c0 ≤ i0 → c + i0 ≤ c0 + i → i ≤ 400 → l ≤ 50 → XB ord code q c → q ≤ c → PWj ord code 29 q c k0 at_ cc →
    ((rd_lp part (fun j => if T j = 7 then 29 else 0) rd_lg m cc i l).1 = true → ∀ (x t : Int32) (now' parts' dl' : Int32) (code' : Nat → Int32) (c' : Nat), now'.toInt = ((rd_lp part (fun j => if T j = 7 then 29 else 0) rd_lg m cc i l).2.1 : Int) → parts'.toInt = ((rd_lp part (fun j => if T j = 7 then 29 else 0) rd_lg m cc i l).2.2.1 : Int) → dl'.toInt = (c' : Int) → (rd_lp part (fun j => if T j = 7 then 29 else 0) rd_lg m cc i l).2.1 ≤ 400 → (rd_lp part (fun j => if T j = 7 then 29 else 0) rd_lg m cc i l).2.2.1 ≤ 50 → l ≤ (rd_lp part (fun j => if T j = 7 then 29 else 0) rd_lg m cc i l).2.2.1 → i < (rd_lp part (fun j => if T j = 7 then 29 else 0) rd_lg m cc i l).2.1 → c' + i0 ≤ c0 + (rd_lp part (fun j => if T j = 7 then 29 else 0) rd_lg m cc i l).2.1 → XB ord code' q c' → seg (cX ord code') q c' (k0 + ((rd_lp part (fun j => if T j = 7 then 29 else 0) rd_lg m cc i l).2.2.1 - l)) (rd_lp part (fun j => if T j = 7 then 29 else 0) rd_lg m cc i l).2.2.2 → (∀ k, k < q → code' k = code k) → Qb x t now' parts' dl' code') →
    (¬ (rd_lp part (fun j => if T j = 7 then 29 else 0) rd_lg m cc i l).1 = true → ∀ (now' parts' dl' : Int32) (code' : Nat → Int32), now'.toInt = ((rd_lp part (fun j => if T j = 7 then 29 else 0) rd_lg m cc i l).2.1 : Int) → Q 0 (now', parts', dl', code')) →
    wl_X5_readTest_17 a len tc ao fp tk dc wS Q Qb fu cnt at_ now parts dl code := by
  intro m
  induction m with
  | zero =>
    intro fu cnt at_ now parts dl code i l c q k0 cc hfu hcn h2 hi hl hc h00 hb hi4 hl5 hB hq hw h1 h0
    exfalso
    have hcn : cnt.toInt + 0 = 400 := hcn
    omega
  | succ m ih =>
    intro fu cnt at_ now parts dl code i l c q k0 cc hfu hcn h2 hi hl hc h00 hb hi4 hl5 hB hq hw h1 h0
    have hcn : cnt.toInt + ((m : Int) + 1) = 400 := by simpa using hcn
    rw [lp_s] at h1 h0
    cases fu with
    | zero => exact absurd hfu (Nat.not_lt_zero _)
    | succ fu =>
      unfold wl_X5_readTest_17
      refine br0 (z_nle (x := 400) (y := cnt.toInt) rfl rfl (by omega)) ?_
      refine hP now parts dl code i l c _ hi hl hc (by omega) hi4 hl5 (fun z now' parts' dl' code' c' k1 k2 k3 k4 k5 k6 k7 k8 k9 k10 => un4_i (br0 (by decide) ?_)) (fun z now' parts' dl' code' k1 => un4_i (br1 rfl ?_))
      · rw [if_pos z] at h1 h0
        have mo := hmo i l z
        refine hw.aim k10 k3 (by omega) (hB.join k10 k8) k9 (fun code2 g2 g3 g4 => ?_)
        have c1 : (cnt + 1).toInt = cnt.toInt + 1 := add_z (a := cnt) (b := 1) rfl rfl (by have := i32_lo cnt; show _ ≤ cnt.toInt + 1; omega) (by show cnt.toInt + 1 ≤ _; omega)
        refine x_take hT k1 (z := 7) rfl (by decide) (fun t7 j4 => br0 (by decide) ?_) (fun t7 => br1 rfl ?_)
        · have eo : (if T (part i l).2.1 = 7 then 29 else 0) = 29 := if_pos t7
          rw [if_neg (by rw [eo]; decide), eo] at h1 h0
          refine x_write (A := 11) (B := 0) rfl (by decide) rfl (by decide) k3 (by omega) (fun v hv => un2_i (br0 (by decide) ?_))
          have g1 := g3.1
          refine ih fu (cnt + 1) dl' (now' + 1) parts' (dl' + 1) (upd code2 c' v) ((part i l).2.1 + 1) (part i l).2.2.1 (c' + 1) q (k0 + ((part i l).2.2.1 - l)) (rd_lg 29 (cc (part i l).2.2.2)) (by omega) (by omega) (by omega) (add1 k1 (by omega)) k2 (add1 k3 (by omega)) h00 (by omega) (by omega) k5 (g2.up hv (by decide) (by decide) (Or.inl ⟨by decide, by decide⟩)) (by omega) (Or.inr ⟨c', _, k3, rfl, by unfold upd; rw [if_pos rfl, hv]; decide, Or.inl rfl, g3.ext (fun s s1 s2 => cX_up (by omega)), rfl⟩) (fun z2 x t now2 parts2 dl3 code3 c3 m1 m2 m3 m4 m5 m6 m7 m8 m9 m10 m11 => ?_) h0
          refine h1 z2 x t now2 parts2 dl3 code3 c3 m1 m2 m3 m4 m5 (by omega) (by omega) m8 m9 ?_ (fun k hk => (m11 k hk).trans (by unfold upd; rw [if_neg (by omega)]; exact g4 k hk))
          have ek : k0 + ((part i l).2.2.1 - l) + ((rd_lp part (fun j => if T j = 7 then 29 else 0) rd_lg m (rd_lg 29 (cc (part i l).2.2.2)) ((part i l).2.1 + 1) (part i l).2.2.1).2.2.1 - (part i l).2.2.1) = k0 + ((rd_lp part (fun j => if T j = 7 then 29 else 0) rd_lg m (rd_lg 29 (cc (part i l).2.2.2)) ((part i l).2.1 + 1) (part i l).2.2.1).2.2.1 - l) := by omega
          rw [← ek]; exact m10
        · have eo : (if T (part i l).2.1 = 7 then 29 else 0) = 0 := if_neg t7
          rw [if_pos eo] at h1
          exact h1 rfl _ _ _ _ _ _ c' k1 k2 k3 k4 k5 mo k6 (by show c' + i0 ≤ c0 + (part i l).2.1; omega) g2 g3 g4
      · rw [if_neg z] at h0
        exact h0 z _ _ _ _ k1
set_option maxHeartbeats 1000000 in
theorem HX.u4 {n : Nat} {st : Nat → Nat} {T : Nat → Int} {ord : Bool} {len tc ao fp dc a : Int32} {tk pl : Nat → Int32} (hT : TkX n st T tc tk pl) {wS : WSt} {part : Nat → Nat → PRs} (hP : HX ord len tc ao fp dc tk wS a part) (hmo : ∀ i l, (part i l).1 = true → l ≤ (part i l).2.2.1) {Q : Int32 → (Int32 × Int32 × Int32 × (Nat → Int32)) → Prop} {Qb : Int32 → Int32 → Int32 → Int32 → Int32 → (Nat → Int32) → Prop} {c0 i0 : Nat} : ∀ (m fu : Nat) (cnt at_ now parts dl : Int32) (code : Nat → Int32) (i l c q k0 : Nat) (cc : Sem → Sem), m < fu → cnt.toInt + (m : Int) = 400 → 2 * cnt.toInt ≤ (i : Int) → now.toInt = (i : Int) → parts.toInt = (l : Int) → dl.toInt = (c : Int) → c0 ≤ i0 → c + i0 ≤ c0 + i → i ≤ 400 → l ≤ 50 → XB ord code q c → q ≤ c → PWj ord code 30 q c k0 at_ cc →
    ((rd_lp (rd_lp part (fun j => if T j = 7 then 29 else 0) rd_lg 400 id) (fun j => if T j = 6 then 30 else 0) rd_lg m cc i l).1 = true → ∀ (now' parts' dl' : Int32) (code' : Nat → Int32) (c' : Nat), now'.toInt = ((rd_lp (rd_lp part (fun j => if T j = 7 then 29 else 0) rd_lg 400 id) (fun j => if T j = 6 then 30 else 0) rd_lg m cc i l).2.1 : Int) → parts'.toInt = ((rd_lp (rd_lp part (fun j => if T j = 7 then 29 else 0) rd_lg 400 id) (fun j => if T j = 6 then 30 else 0) rd_lg m cc i l).2.2.1 : Int) → dl'.toInt = (c' : Int) → (rd_lp (rd_lp part (fun j => if T j = 7 then 29 else 0) rd_lg 400 id) (fun j => if T j = 6 then 30 else 0) rd_lg m cc i l).2.1 ≤ 400 → (rd_lp (rd_lp part (fun j => if T j = 7 then 29 else 0) rd_lg 400 id) (fun j => if T j = 6 then 30 else 0) rd_lg m cc i l).2.2.1 ≤ 50 → l ≤ (rd_lp (rd_lp part (fun j => if T j = 7 then 29 else 0) rd_lg 400 id) (fun j => if T j = 6 then 30 else 0) rd_lg m cc i l).2.2.1 → i < (rd_lp (rd_lp part (fun j => if T j = 7 then 29 else 0) rd_lg 400 id) (fun j => if T j = 6 then 30 else 0) rd_lg m cc i l).2.1 → c' + i0 ≤ c0 + (rd_lp (rd_lp part (fun j => if T j = 7 then 29 else 0) rd_lg 400 id) (fun j => if T j = 6 then 30 else 0) rd_lg m cc i l).2.1 → XB ord code' q c' → seg (cX ord code') q c' (k0 + ((rd_lp (rd_lp part (fun j => if T j = 7 then 29 else 0) rd_lg 400 id) (fun j => if T j = 6 then 30 else 0) rd_lg m cc i l).2.2.1 - l)) (rd_lp (rd_lp part (fun j => if T j = 7 then 29 else 0) rd_lg 400 id) (fun j => if T j = 6 then 30 else 0) rd_lg m cc i l).2.2.2 → (∀ k, k < q → code' k = code k) → Q 1 (now', parts', dl', code')) →
    (¬ (rd_lp (rd_lp part (fun j => if T j = 7 then 29 else 0) rd_lg 400 id) (fun j => if T j = 6 then 30 else 0) rd_lg m cc i l).1 = true → ∀ (now' parts' dl' : Int32) (code' : Nat → Int32), now'.toInt = ((rd_lp (rd_lp part (fun j => if T j = 7 then 29 else 0) rd_lg 400 id) (fun j => if T j = 6 then 30 else 0) rd_lg m cc i l).2.1 : Int) → Q 0 (now', parts', dl', code')) →
    wl_X5_readTest_4 a len tc ao fp tk dc wS Q Qb fu cnt at_ now parts dl code := by
  intro m
  induction m with
  | zero =>
    intro fu cnt at_ now parts dl code i l c q k0 cc hfu hcn h2 hi hl hc h00 hb hi4 hl5 hB hq hw h1 h0
    exfalso
    have hcn : cnt.toInt + 0 = 400 := hcn
    omega
  | succ m ih =>
    intro fu cnt at_ now parts dl code i l c q k0 cc hfu hcn h2 hi hl hc h00 hb hi4 hl5 hB hq hw h1 h0
    have hcn : cnt.toInt + ((m : Int) + 1) = 400 := by simpa using hcn
    obtain ⟨pt, ept⟩ : ∃ pt, rd_lp part (fun j => if T j = 7 then 29 else 0) rd_lg 400 id = pt := ⟨_, rfl⟩
    rw [ept, lp_s] at h1 h0
    rw [ept] at ih
    cases fu with
    | zero => exact absurd hfu (Nat.not_lt_zero _)
    | succ fu =>
      unfold wl_X5_readTest_4
      refine br0 (z_nle (x := 400) (y := cnt.toInt) rfl rfl (by omega)) ?_
      have inn17 := @HX.u17 n st T ord len tc ao fp dc a tk pl hT wS part hP hmo Q (fun x_17_0 x_17_1 x_17_2 x_17_3 x_17_4 x_17_5 => wp_X5_aimHere at_ x_17_4 x_17_5 (fun u_82 => wp_X5_take 6 tc x_17_2 tk (fun r_88 u_88 => if r_88 = 0 then Q 1 (u_88, x_17_3, x_17_4, u_82) else wp_X5_write 12 0 x_17_4 u_82 (fun r_108 => un2 (fun u0 u1 => if r_108 = 0 then Q 0 (u_88, x_17_3, u0, u1) else wl_X5_readTest_4 a len tc ao fp tk dc wS Q Qb fu (cnt + 1) x_17_4 u_88 x_17_3 u0 u1))))) c i 400 1000000000000 0 (-1) now parts dl code i l c c 0 id
      rw [ept] at inn17
      refine inn17 (by decide) rfl (by show (2 : Int) * 0 ≤ _; omega) hi hl hc (by omega) (by omega) hi4 hl5 (XB.nil ord code c) (Nat.le_refl _) (Or.inl ⟨rfl, rfl, rfl, rfl⟩) (fun z x t now' parts' dl' code' c' k1 k2 k3 k4 k5 k6 k7 k8 k9 k10 k11 => ?_) (fun z now' parts' dl' code' k1 => ?_)
      · rw [if_pos z] at h1 h0
        rw [Nat.zero_add] at k10
        refine hw.aim k11 k3 (by omega) (hB.join k11 k9) k10 (fun code2 g2 g3 g4 => ?_)
        have c1 : (cnt + 1).toInt = cnt.toInt + 1 := add_z (a := cnt) (b := 1) rfl rfl (by have := i32_lo cnt; show _ ≤ cnt.toInt + 1; omega) (by show cnt.toInt + 1 ≤ _; omega)
        refine x_take hT k1 (z := 6) rfl (by decide) (fun t6 j4 => br0 (by decide) ?_) (fun t6 => br1 rfl ?_)
        · have eo : (if T (pt i l).2.1 = 6 then 30 else 0) = 30 := if_pos t6
          rw [if_neg (by rw [eo]; decide), eo] at h1 h0
          refine x_write (A := 12) (B := 0) rfl (by decide) rfl (by decide) k3 (by omega) (fun v hv => un2_i (br0 (by decide) ?_))
          have g1 := g3.1
          refine ih fu (cnt + 1) dl' (now' + 1) parts' (dl' + 1) (upd code2 c' v) ((pt i l).2.1 + 1) (pt i l).2.2.1 (c' + 1) q (k0 + ((pt i l).2.2.1 - l)) (rd_lg 30 (cc (pt i l).2.2.2)) (by omega) (by omega) (by omega) (add1 k1 (by omega)) k2 (add1 k3 (by omega)) h00 (by omega) (by omega) k5 (g2.up hv (by decide) (by decide) (Or.inl ⟨by decide, by decide⟩)) (by omega) (Or.inr ⟨c', _, k3, rfl, by unfold upd; rw [if_pos rfl, hv]; decide, Or.inr rfl, g3.ext (fun s s1 s2 => cX_up (by omega)), rfl⟩) (fun z2 now2 parts2 dl3 code3 c3 m1 m2 m3 m4 m5 m6 m7 m8 m9 m10 m11 => ?_) h0
          refine h1 z2 now2 parts2 dl3 code3 c3 m1 m2 m3 m4 m5 (by omega) (by omega) m8 m9 ?_ (fun k hk => (m11 k hk).trans (by unfold upd; rw [if_neg (by omega)]; exact g4 k hk))
          have ek : k0 + ((pt i l).2.2.1 - l) + ((rd_lp pt (fun j => if T j = 6 then 30 else 0) rd_lg m (rd_lg 30 (cc (pt i l).2.2.2)) ((pt i l).2.1 + 1) (pt i l).2.2.1).2.2.1 - (pt i l).2.2.1) = k0 + ((rd_lp pt (fun j => if T j = 6 then 30 else 0) rd_lg m (rd_lg 30 (cc (pt i l).2.2.2)) ((pt i l).2.1 + 1) (pt i l).2.2.1).2.2.1 - l) := by omega
          rw [← ek]; exact m10
        · have eo : (if T (pt i l).2.1 = 6 then 30 else 0) = 0 := if_neg t6
          rw [if_pos eo] at h1
          exact h1 rfl _ _ _ _ c' k1 k2 k3 k4 k5 k6 k7 (by show c' + i0 ≤ c0 + (pt i l).2.1; omega) g2 g3 g4
      · rw [if_neg z] at h0
        exact h0 z _ _ _ _ k1
theorem HX.test {n : Nat} {st : Nat → Nat} {T : Nat → Int} {ord : Bool} {len tc ao fp dc a : Int32} {tk pl : Nat → Int32} (hT : TkX n st T tc tk pl) {wS : WSt} {part : Nat → Nat → PRs} (hP : HX ord len tc ao fp dc tk wS a part) (hmo : ∀ i l, (part i l).1 = true → l ≤ (part i l).2.2.1) : HX ord len tc ao fp dc tk (wp_X5_readTest wS) a (rd_test T part) := by
  intro now parts dl code i l c Q hi hl hc hci hi4 hl5 h1 h0
  unfold wp_X5_readTest
  unfold rd_test at h1 h0
  refine HX.u4 hT hP hmo (c0 := c) (i0 := i) 400 _ 0 (-1) now parts dl code i l c c 0 id (by omega) rfl (by show (2 : Int) * 0 ≤ _; omega) hi hl hc hci (by omega) hi4 hl5 (XB.nil ord code c) (Nat.le_refl _) (Or.inl ⟨rfl, rfl, rfl, rfl⟩) (fun z now' parts' dl' code' c' k1 k2 k3 k4 k5 k6 k7 k8 k9 k10 k11 => ?_) h0
  rw [Nat.zero_add] at k10
  exact h1 z now' parts' dl' code' c' k1 k2 k3 k4 k5 k7 k8 k9 k10 k11
theorem HX.testL {tp : Nat → Int32} {n : Nat} {st en : Nat → Nat} {T : Nat → Int} (hL : Lex tp n st en T) {ord : Bool} {len tc ao fp dc : Int32} {tk pl : Nat → Int32} (hT : TkX n st T tc tk pl) (ho : (ao = 0 ∧ ord = false) ∨ (ao = 1 ∧ ord = true)) : ∀ (d m : Nat) (a : Int32), d ≤ m → a.toInt + (d : Int) = 8 → 0 ≤ a.toInt → HX ord len tc ao fp dc tk (wq_test (m + 1)) a (rd_testL T ord d) := by
  intro d
  induction d with
  | zero =>
    intro m a hm ha ha0
    show HX ord len tc ao fp dc tk (wp_X5_readTest (wp_X5_readPlain (wq_test m))) a (rd_test T (rd_plain T (rd_sumL T ord 0) none))
    have ha' : a.toInt + 0 = 8 := ha
    refine HX.test hT (HX.plain hL hT (HX.sumL hL hT ho 0 8 a (by omega) ha) (fun i l z => by have := (HF.sumL hL 0 i l).2 z; omega) (Or.inl ⟨rfl, by omega⟩)) (fun i l z => ?_)
    have := (HF.plain hL (HF.sumL hL 0) (fun f e => by cases e) i l).2 z
    omega
  | succ d ih =>
    intro m a hm ha ha0
    have ha' : a.toInt + ((d : Int) + 1) = 8 := by simpa using ha
    cases m with
    | zero => omega
    | succ m =>
      have a1 : (a + 1).toInt = a.toInt + 1 := add_z (a := a) (b := 1) rfl rfl (by have := i32_lo a; omega) (by omega)
      show HX ord len tc ao fp dc tk (wp_X5_readTest (wp_X5_readPlain (wq_test (m + 1)))) a (rd_test T (rd_plain T (rd_sumL T ord (d + 1)) (some (rd_testL T ord d))))
      refine HX.test hT (HX.plain hL hT (HX.sumL hL hT ho (d + 1) 8 a (by omega) ha) (fun i l z => by have := (HF.sumL hL (d + 1) i l).2 z; omega) (Or.inr ⟨_, rfl, by omega, ih m (a + 1) (by omega) (by omega) (by omega)⟩)) (fun i l z => ?_)
      have := (HF.plain hL (HF.sumL hL (d + 1)) (fun f e => by injection e with e; rw [← e]; exact HF.testL hL d) i l).2 z
      omega
