/-! the class's TESTS -/
theorem x_cmp {a : Int32} {t : Int} (ha : a.toInt = t) (hb : 0 ≤ t ∧ t ≤ 2001) {Q : Int32 → Prop} (h0 : rd_cp t = 0 → Q (-1)) (h1 : ¬ rd_cp t = 0 → ∀ r : Int32, r.toInt = (rd_cp t : Int) - 18 → 25 ≤ rd_cp t → rd_cp t ≤ 27 → Q r) : wp_X5_comparisonOf a Q := by
  unfold wp_X5_comparisonOf
  have e : (a - 100).toInt = t - 100 := sub_z ha (b := 100) (y := 100) rfl (by omega) (by omega)
  unfold rd_cp at h0 h1
  by_cases c1 : a - 100 = 60
  · have c1' := eq_z (y := 60) e rfl c1
    rw [if_pos (by omega)] at h1
    exact br1 c1 (h1 (by decide) 7 rfl (by decide) (by decide))
  · have c1' := ne_z (y := 60) e rfl c1
    refine br0 c1 ?_
    by_cases c2 : a - 100 = 61
    · have c2' := eq_z (y := 61) e rfl c2
      rw [if_neg (by omega), if_neg (by omega), if_pos (by omega)] at h1
      exact br1 c2 (h1 (by decide) 9 rfl (by decide) (by decide))
    · have c2' := ne_z (y := 61) e rfl c2
      refine br0 c2 ?_
      by_cases c3 : a - 100 = 62
      · have c3' := eq_z (y := 62) e rfl c3
        rw [if_neg (by omega), if_pos (by omega)] at h1
        exact br1 c3 (h1 (by decide) 8 rfl (by decide) (by decide))
      · have c3' := ne_z (y := 62) e rfl c3
        rw [if_neg (by omega), if_neg (by omega), if_neg (by omega)] at h0
        exact br0 c3 (h0 rfl)
theorem x_cnots {n : Nat} {st : Nat → Nat} {T : Nat → Int} {tc : Int32} {tk pl : Nat → Int32} (hT : TkX n st T tc tk pl) {Qb : Int32 → Int32 → Int32 → Prop} : ∀ (m fu : Nat) (cnt tu now : Int32) (i p : Nat), m < fu → cnt.toInt + (m : Int) = 400 → 0 ≤ cnt.toInt → now.toInt = (i : Int) → i ≤ 400 → tu.toInt = ((p % 2 : Nat) : Int) → (∀ (x tu' now' : Int32), now'.toInt = (rd_nots T m i : Int) → rd_nots T m i ≤ 400 → tu'.toInt = (((p + (rd_nots T m i - i)) % 2 : Nat) : Int) → Qb x tu' now') → wl_X5_readPlain_4 tc tk Qb fu cnt tu now := by
  intro m
  induction m with
  | zero =>
    intro fu cnt tu now i p hfu hcn h0 hi hi4 ht K
    have hcn : cnt.toInt + 0 = 400 := hcn
    cases fu with
    | zero => exact absurd hfu (Nat.not_lt_zero _)
    | succ fu =>
      unfold wl_X5_readPlain_4
      refine br1 (z_le (x := 400) (y := cnt.toInt) rfl rfl (by omega)) (K _ _ _ hi hi4 ?_)
      show tu.toInt = (((p + (i - i)) % 2 : Nat) : Int)
      rw [Nat.sub_self]; exact ht
  | succ m ih =>
    intro fu cnt tu now i p hfu hcn h0 hi hi4 ht K
    have hcn : cnt.toInt + ((m : Int) + 1) = 400 := by simpa using hcn
    cases fu with
    | zero => exact absurd hfu (Nat.not_lt_zero _)
    | succ fu =>
      unfold wl_X5_readPlain_4
      have e : rd_nots T (m + 1) i = if T i = 8 then rd_nots T m (i + 1) else i := rfl
      rw [e] at K
      have c1 : (cnt + 1).toInt = cnt.toInt + 1 := add_z (a := cnt) (b := 1) rfl rfl (by omega) (by omega)
      refine br0 (z_nle (x := 400) (y := cnt.toInt) rfl rfl (by omega)) (x_take hT hi (z := 8) rfl (by decide) (fun t8 i4 => br0 (by decide) ?_) (fun t8 => br1 rfl ?_))
      · rw [if_pos t8] at K
        have le := rd_nots_le (T := T) m (i + 1)
        have go : ∀ tu' : Int32, tu'.toInt = (((p + 1) % 2 : Nat) : Int) → wl_X5_readPlain_4 tc tk Qb fu (cnt + 1) tu' (now + 1) := fun tu' h' =>
          ih fu (cnt + 1) tu' (now + 1) (i + 1) (p + 1) (by omega) (by omega) (by omega) (add1 hi (by omega)) (by omega) h' (fun x t2 n2 g1 g2 g3 => K x t2 n2 g1 g2 (by rw [g3]; congr 2; omega))
        by_cases cz : tu = 0
        · have cz' := eq_z (y := 0) ht rfl cz
          exact br1 cz (go 1 (by show (1 : Int) = _; omega))
        · have cz' := ne_z (y := 0) ht rfl cz
          exact br0 cz (go 0 (by show (0 : Int) = _; omega))
      · rw [if_neg t8] at K
        refine K _ _ _ hi hi4 ?_
        rw [Nat.sub_self]; exact ht
set_option maxHeartbeats 2000000 in
theorem HX.plain {tp : Nat → Int32} {n : Nat} {st en : Nat → Nat} {T : Nat → Int} (hL : Lex tp n st en T) {ord : Bool} {len tc ao fp dc a : Int32} {tk pl : Nat → Int32} (hT : TkX n st T tc tk pl) {wS : WSt} {sum : Nat → Nat → PRs} {sub : Option (Nat → Nat → PRs)} (hsum : HX ord len tc ao fp dc tk (wq_sum 9) a sum) (hmo : ∀ i l, (sum i l).1 = true → l ≤ (sum i l).2.2.1) (hs : (sub = none ∧ ¬ a.toInt < 8) ∨ ∃ f, sub = some f ∧ a.toInt < 8 ∧ HX ord len tc ao fp dc tk wS (a + 1) f) : HX ord len tc ao fp dc tk (wp_X5_readPlain wS) a (rd_plain T sum sub) := by
  intro now parts dl code i l c Q hi hl hc hci hi4 hl5 h1 h0
  unfold wp_X5_readPlain
  refine x_cnots hT 400 _ 0 0 now i 0 (by omega) rfl (by decide) hi hi4 rfl (fun x tu j hj hj4 htu => ?_)
  rw [Nat.zero_add] at htu
  obtain ⟨j0, ej0⟩ : ∃ j0, rd_nots T 400 i = j0 := ⟨_, rfl⟩
  have le0 : i ≤ j0 := by rw [← ej0]; exact rd_nots_le 400 i
  rw [ej0] at hj hj4 htu
  have h1 : (rd_plain0 T sum sub j0 l).1 = true → ∀ (now' parts' dl' : Int32) (code' : Nat → Int32) (c' : Nat), now'.toInt = ((rd_plain0 T sum sub j0 l).2.1 : Int) → parts'.toInt = ((rd_plain0 T sum sub j0 l).2.2.1 : Int) → dl'.toInt = (c' : Int) → (rd_plain0 T sum sub j0 l).2.1 ≤ 400 → (rd_plain0 T sum sub j0 l).2.2.1 ≤ 50 → i < (rd_plain0 T sum sub j0 l).2.1 → c' + i ≤ c + (rd_plain0 T sum sub j0 l).2.1 → XB ord code' c c' → seg (cX ord code') c c' ((rd_plain0 T sum sub j0 l).2.2.1 - l) (rd_par (j0 - i) (rd_plain0 T sum sub j0 l).2.2.2) → (∀ k, k < c → code' k = code k) → Q 1 (now', parts', dl', code') := by
    rw [← ej0]; exact h1
  have h0 : ¬ (rd_plain0 T sum sub j0 l).1 = true → ∀ (now' parts' dl' : Int32) (code' : Nat → Int32), now'.toInt = ((rd_plain0 T sum sub j0 l).2.1 : Int) → Q 0 (now', parts', dl', code') := by
    rw [← ej0]; exact h0
  refine x_tokenNow hT hj (fun t ht => ?_)
  -- behind it: a "not", if there is one
  have fin : ∀ (now' parts' dl' : Int32) (code' : Nat → Int32) (c' J L' : Nat) (s : Sem), rd_plain0 T sum sub j0 l = (true, J, L', s) → now'.toInt = (J : Int) → parts'.toInt = (L' : Int) → dl'.toInt = (c' : Int) → J ≤ 400 → L' ≤ 50 → j0 < J → c' + j0 ≤ c + J → XB ord code' c c' → seg (cX ord code') c c' (L' - l) s → (∀ k, k < c → code' k = code k) → (if tu = 0 then Q 1 (now', parts', dl', code') else wp_X5_write 10 0 dl' code' (fun r => un2 (fun u0 u1 => if r = 0 then Q 0 (now', parts', u0, u1) else Q 1 (now', parts', u0, u1)))) := by
    intro now' parts' dl' code' c' J L' s er k1 k2 k3 k4 k5 k6 k7 k8 k9 k10
    rw [er] at h1
    by_cases cz : tu = 0
    · have cz' := eq_z (y := 0) htu rfl cz
      refine br1 cz (h1 rfl _ _ _ _ c' k1 k2 k3 k4 k5 (by show i < J; omega) (by show c' + i ≤ c + J; omega) k8 ?_ k10)
      have : rd_par (j0 - i) s = s := by unfold rd_par; rw [if_neg (by omega)]
      show seg _ c c' (L' - l) (rd_par (j0 - i) s)
      rw [this]; exact k9
    · have cz' := ne_z (y := 0) htu rfl cz
      refine br0 cz (x_write (A := 10) (B := 0) rfl (by decide) rfl (by decide) k3 (by omega) (fun v hv => un2_i (br0 (by decide) ?_)))
      have cA := cX_at (ord := ord) (f := code') (c := c') hv (by decide)
      have g9 := k9.1
      refine h1 rfl _ _ _ _ (c' + 1) k1 k2 (add1 k3 (by omega)) k4 k5 (by show i < J; omega) (by show c' + 1 + i ≤ c + J; omega) (k8.up hv (by decide) (by decide) (Or.inl ⟨by decide, by decide⟩)) ?_ (fun k hk => by unfold upd; rw [if_neg (by omega)]; exact k10 k hk)
      have : rd_par (j0 - i) s = rd_not s := by unfold rd_par; rw [if_pos (by omega)]
      show seg _ c (c' + 1) (L' - l) (rd_par (j0 - i) s)
      rw [this]
      exact seg.nt (k9.ext (fun q q1 q2 => cX_up (by omega))) cA
  refine jn_s ?_
  by_cases e : T j0 = 140
  · refine br1 (z_eq (y := 140) ht rfl e) (x_open (fun a8 => ?_) (fun a8 => ?_))
    · refine br0 (by decide) ?_
      rcases hs with ⟨_, w⟩ | ⟨f, ef, _, hf⟩
      · exact absurd a8 w
      · subst ef
        have eP : rd_plain0 T sum (some f) j0 l = if (f (j0 + 1) l).1 = true then (if T (f (j0 + 1) l).2.1 = 141 then (true, (f (j0 + 1) l).2.1 + 1, (f (j0 + 1) l).2.2.1, (f (j0 + 1) l).2.2.2) else rd_no (f (j0 + 1) l).2.1 (f (j0 + 1) l).2.2.1) else f (j0 + 1) l := by
          unfold rd_plain0; rw [if_pos e]
        have i4 := hT.lt (i := j0) (by omega)
        refine hf (j + 1) parts dl code (j0 + 1) l c _ (add1 hj (by omega)) hl hc (by omega) (by omega) hl5 (fun z now' parts' dl' code' c' k1 k2 k3 k4 k5 k6 k7 k8 k9 k10 => un4_i (br0 (by decide) ?_)) (fun z now' parts' dl' code' k1 => un4_i (br1 rfl ?_))
        · rw [if_pos z] at eP
          refine x_take hT k1 (z := 141) rfl (by decide) (fun t41 q4 => br0 (by decide) ?_) (fun t41 => br1 rfl ?_)
          · rw [if_pos t41] at eP
            exact fin _ _ _ _ c' _ _ _ eP (add1 k1 (by omega)) k2 k3 (by omega) k5 (by omega) (by omega) k8 k9 k10
          · rw [if_neg t41] at eP
            rw [eP] at h0
            exact h0 (by show ¬ false = true; decide) _ _ _ _ k1
        · rw [if_neg z] at eP
          rw [eP] at h0
          exact h0 z _ _ _ _ k1
    · refine br1 rfl ?_
      rcases hs with ⟨en, w⟩ | ⟨f, ef, w, hf⟩
      · subst en
        have eP : rd_plain0 T sum none j0 l = rd_no j0 l := by unfold rd_plain0; rw [if_pos e]
        rw [eP] at h0
        exact h0 (by show ¬ false = true; decide) _ _ _ _ hj
      · exact absurd w a8
  · refine br0 (z_ne (y := 140) ht rfl e) ?_
    have eP : rd_plain0 T sum sub j0 l = if (sum j0 l).1 = true then (if rd_cp (T (sum j0 l).2.1) = 0 then rd_no (sum j0 l).2.1 (sum j0 l).2.2.1 else if (sum ((sum j0 l).2.1 + 1) (sum j0 l).2.2.1).1 = true then (true, (sum ((sum j0 l).2.1 + 1) (sum j0 l).2.2.1).2.1, (sum ((sum j0 l).2.1 + 1) (sum j0 l).2.2.1).2.2.1, rd_bin (rd_cp (T (sum j0 l).2.1)) (sum j0 l).2.2.2 (sum ((sum j0 l).2.1 + 1) (sum j0 l).2.2.1).2.2.2) else sum ((sum j0 l).2.1 + 1) (sum j0 l).2.2.1) else sum j0 l := by
      unfold rd_plain0; rw [if_neg e]
    refine hsum j parts dl code j0 l c _ hj hl hc (by omega) hj4 hl5 (fun z now' parts' dl' code' c' k1 k2 k3 k4 k5 k6 k7 k8 k9 k10 => un4_i (br0 (by decide) ?_)) (fun z now' parts' dl' code' k1 => un4_i (br1 rfl ?_))
    · rw [if_pos z] at eP
      have mo1 := hmo _ _ z
      refine x_tokenNow hT k1 (fun t2 ht2 => x_cmp ht2 (hT.tb _) (fun c0 => br1 rfl ?_) (fun c0 r hr r25 r27 => br0 (z_ne (y := -1) hr rfl (by omega)) ?_))
      · rw [if_pos c0] at eP
        rw [eP] at h0
        exact h0 (by show ¬ false = true; decide) _ _ _ _ k1
      · rw [if_neg c0] at eP
        have q4 := hT.lt (i := (sum j0 l).2.1) (fun w => c0 (by rw [w]; decide))
        refine hsum (now' + 1) parts' dl' code' ((sum j0 l).2.1 + 1) (sum j0 l).2.2.1 c' _ (add1 k1 (by omega)) k2 k3 (by omega) (by omega) k5 (fun z2 now2 parts2 dl2 code2 c2 m1 m2 m3 m4 m5 m6 m7 m8 m9 m10 => un4_i (br0 (by decide) ?_)) (fun z2 now2 parts2 dl2 code2 m1 => un4_i (br1 rfl ?_))
        · rw [if_pos z2] at eP
          have mo2 := hmo _ _ z2
          have g9 := k9.1
          have g92 := m9.1
          have eA : r.toInt = ((rd_cp (T (sum j0 l).2.1) - 18 : Nat) : Int) := by rw [hr]; omega
          refine x_write (B := 0) eA (by omega) rfl (by decide) m3 (by omega) (fun v hv => un2_i (br0 (by decide) ?_))
          have cA := cX_at (ord := ord) (f := code2) (c := c2) hv (by omega)
          have eo : opm ord ((rd_cp (T (sum j0 l).2.1) - 18 : Nat) : Int) = rd_cp (T (sum j0 l).2.1) := by
            unfold opm
            rw [if_neg (by omega), if_pos (by omega)]
            omega
          rw [eo] at cA
          refine fin _ _ _ _ (c2 + 1) _ _ _ eP m1 m2 (add1 m3 (by omega)) m4 m5 (by omega) (by omega) ((k8.join m10 m8).up hv (by omega) (by decide) (Or.inl ⟨by omega, by omega⟩)) ?_ (fun k hk => by show upd code2 c2 v k = code k; unfold upd; rw [if_neg (by omega), m10 k (by omega)]; exact k10 k hk)
          have ek : (sum j0 l).2.2.1 - l + ((sum ((sum j0 l).2.1 + 1) (sum j0 l).2.2.1).2.2.1 - (sum j0 l).2.2.1) = (sum ((sum j0 l).2.1 + 1) (sum j0 l).2.2.1).2.2.1 - l := by omega
          rw [← ek]
          exact seg.bin ((k9.ext (D := cX ord code2) (fun q q1 q2 => by unfold cX; rw [m10 q q2])).ext (fun q q1 q2 => cX_up (by omega))) (m9.ext (fun q q1 q2 => cX_up (by omega))) cA (by omega) (by omega)
        · rw [if_neg z2] at eP
          rw [eP] at h0
          exact h0 z2 _ _ _ _ m1
    · rw [if_neg z] at eP
      rw [eP] at h0
      exact h0 z _ _ _ _ k1
/-- an "and", an "or" that waits at ja -/
def PWj (ord : Bool) (code : Nat → Int32) (o q c k0 : Nat) (at_ : Int32) (cc : Sem → Sem) : Prop :=
  (at_ = -1 ∧ q = c ∧ k0 = 0 ∧ cc = id) ∨ ∃ (j : Nat) (s : Sem), at_.toInt = (j : Int) ∧ j + 1 = c ∧ (code j).toInt = (o : Int) - 18 ∧ (o = 29 ∨ o = 30) ∧ seg (cX ord code) q j k0 s ∧ cc = rd_lg o s
/-- it is let go on behind its right side -/
theorem PWj.aim {ord : Bool} {code code' : Nat → Int32} {o q c k0 : Nat} {at_ : Int32} {cc : Sem → Sem} (h : PWj ord code o q c k0 at_ cc) (he : ∀ k, k < c → code' k = code k) {dl : Int32} {c' kv : Nat} {v : Sem} (hd : dl.toInt = (c' : Int)) (h4 : c' ≤ 400) (hB : XB ord code' q c') (hs : seg (cX ord code') c c' kv v) {Q : (Nat → Int32) → Prop} (hq : ∀ (code2 : Nat → Int32), XB ord code2 q c' → seg (cX ord code2) q c' (k0 + kv) (cc v) → (∀ k, k < q → code2 k = code k) → Q code2) : wp_X5_aimHere at_ dl code' Q := by
  unfold wp_X5_aimHere
  have g2 := hs.1
  rcases h with ⟨rfl, rfl, rfl, rfl⟩ | ⟨j, s, e1, e2, e3, e4, e5, rfl⟩
  · exact br1 (by decide) (hq _ hB (by rw [Nat.zero_add]; exact hs) he)
  · have g1 := e5.1
    refine br0 (z_nlt (y := 0) e1 rfl (by omega)) (br0 (z_nle hd e1 (by omega)) ⟨vpi e1 (by omega) (by omega), vpi e1 (by omega) (by omega), ?_⟩)
    rw [tnN e1]
    have ej : (code' j).toInt = ((o - 18 : Nat) : Int) := by rw [he j (by omega), e3]; omega
    have el : (dl <<< ((6 : Int32) &&& 31)).toInt = 64 * (c' : Int) := by rw [sl6_z (by omega) (by omega), hd]
    have hv := ro6_z el (by omega) ej (by omega)
    have cA := cX_at (ord := ord) (f := code') (c := j) hv (by omega)
    have eo : opm ord ((o - 18 : Nat) : Int) = o := by
      unfold opm
      rw [if_neg (by omega), if_pos (by omega)]
      omega
    rw [eo] at cA
    refine hq _ (fun k hb hk => ?_) ?_ (fun k hk => ?_)
    · unfold upd
      by_cases w : k = j
      · rw [if_pos w, hv]
        have em : (64 * (c' : Int) + ((o - 18 : Nat) : Int)) % 64 = ((o - 18 : Nat) : Int) := by omega
        rw [em]
        exact ⟨by omega, by omega, Or.inl ⟨by omega, by omega⟩⟩
      · rw [if_neg w]; exact hB k hb hk
    · refine seg.lg ((e5.ext (D := cX ord code') (fun i i1 i2 => by unfold cX; rw [he i (by omega)])).ext (fun i i1 i2 => cX_up (by omega))) cA e4 ?_
      rw [e2]
      exact hs.ext (fun i i1 i2 => cX_up (by omega))
    · unfold upd; rw [if_neg (by omega)]; exact he k (by omega)
