/-! the class's LAWS as they are read -/
theorem x_readRule {tp : Nat → Int32} {n : Nat} {st en : Nat → Nat} {T : Nat → Int} (hL : Lex tp n st en T) {len tc fp dc : Int32} {tk pl : Nat → Int32} (hT : TkX n st T tc tk pl) {now parts dl : Int32} {hd code : Nat → Int32} {C i l c : Nat} (hC : dc.toInt = (C : Int)) (h12 : C < 12) (hi : now.toInt = (i : Int)) (hl : parts.toInt = (l : Int)) (hc : dl.toInt = (c : Int)) (hci : c ≤ i) (hi4 : i ≤ 400) (hl5 : l ≤ 50) {Q : Int32 → (Int32 × Int32 × Int32 × (Nat → Int32) × (Nat → Int32)) → Prop}
    (hA : T i = 4 → i < 400 → ∀ r : Int32, r.toInt = 4 → Q 1 (now + 1, parts, dl, upd hd (5 * C + 0) r, code))
    (hB : T i < 4 → (rd_sumL T false 8 (i + 1) l).1 = true → ∀ (r now' parts' dl' : Int32) (code' : Nat → Int32) (c' : Nat), r.toInt = T i → now'.toInt = ((rd_sumL T false 8 (i + 1) l).2.1 : Int) → parts'.toInt = ((rd_sumL T false 8 (i + 1) l).2.2.1 : Int) → dl'.toInt = (c' : Int) → (rd_sumL T false 8 (i + 1) l).2.1 ≤ 400 → (rd_sumL T false 8 (i + 1) l).2.2.1 ≤ 50 → i < (rd_sumL T false 8 (i + 1) l).2.1 → c' ≤ (rd_sumL T false 8 (i + 1) l).2.1 → c < c' → sgX false code' c' dl (some (rd_sumL T false 8 (i + 1) l).2.2.2) → (∀ k, k < c → code' k = code k) → Q 1 (now', parts', dl', upd (upd hd (5 * C + 0) r) (5 * C + 1) dl, code'))
    (hC0 : T i < 4 → ¬ (rd_sumL T false 8 (i + 1) l).1 = true → ∀ (now' parts' dl' : Int32) (hd' code' : Nat → Int32), now'.toInt = ((rd_sumL T false 8 (i + 1) l).2.1 : Int) → Q 0 (now', parts', dl', hd', code'))
    (hD : ¬ T i ≤ 4 → Q 0 (now, parts, dl, hd, code)) :
    wp_X5_readRule len tc now parts 0 fp tk dc dl hd code Q := by
  unfold wp_X5_readRule
  have tb := hT.tb i
  refine x_tokenNow hT hi (fun r hr => br0 (z_nlt (y := 0) hr rfl (by omega)) ?_)
  by_cases c4 : r ≤ 4
  · have c4' := le_z (y := 4) hr rfl c4
    have i4 := hT.lt (i := i) (by omega)
    refine br1 c4 (x_setHead (p := 0) rfl (by decide) hC h12 ?_)
    by_cases e4 : r = 4
    · have e4' := eq_z (y := 4) hr rfl e4
      exact br1 e4 (hA e4' i4 r (by rw [hr, e4']))
    · have e4' := ne_z (y := 4) hr rfl e4
      refine br0 e4 (x_sumOf hL hT (Or.inl ⟨rfl, rfl⟩) (p := 1) rfl (by decide) hC h12 (add1 hi (by omega)) hl hc (by omega) (by omega) hl5 (fun z now' parts' dl' code' c' k1 k2 k3 k4 k5 k6 k7 k8 k9 k10 => un5_i (br0 (by decide) ?_)) (fun z now' parts' dl' hd' code' k1 => un5_i (br1 rfl (hC0 (by omega) z _ _ _ _ _ k1))))
      exact hB (by omega) z r now' parts' dl' code' c' hr k1 k2 k3 k4 k5 (by omega) k7 k8 k9 k10
  · have c4' := nle_z (y := 4) hr rfl c4
    exact br0 c4 (hD (by omega))
theorem x_beginHead {dc : Int32} {hd : Nat → Int32} {C : Nat} (hC : dc.toInt = (C : Int)) (h12 : C < 12) {Q : (Nat → Int32) → Prop} (hq : ∀ hd' : Nat → Int32, hd' (5 * C + 1) = -1 → hd' (5 * C + 2) = -1 → hd' (5 * C + 3) = -1 → hd' (5 * C + 4) = 1 → (∀ k, k < 5 * C → hd' k = hd k) → Q hd') : wp_X5_beginHead dc hd Q := by
  unfold wp_X5_beginHead
  refine x_setHead (p := 0) rfl (by decide) hC h12 (x_setHead (p := 1) rfl (by decide) hC h12 (x_setHead (p := 2) rfl (by decide) hC h12 (x_setHead (p := 3) rfl (by decide) hC h12 (x_setHead (p := 4) rfl (by decide) hC h12 (hq _ ?_ ?_ ?_ ?_ (fun k hk => ?_))))))
  · unfold upd; rw [if_neg (by omega), if_neg (by omega), if_neg (by omega), if_pos rfl]
  · unfold upd; rw [if_neg (by omega), if_neg (by omega), if_pos rfl]
  · unfold upd; rw [if_neg (by omega), if_pos rfl]
  · unfold upd; rw [if_pos rfl]
  · unfold upd; rw [if_neg (by omega), if_neg (by omega), if_neg (by omega), if_neg (by omega), if_neg (by omega)]
/-- a CLAUSE with its "if" -/
def clW (a len fp tc : Int32) (tk : Nat → Int32) (dc dl : Int32) (hd code : Nat → Int32) (now parts : Int32) (K : (Int32 × (Nat → Int32) × Int32 × Int32 × Int32 × (Nat → Int32)) → Prop) : Prop :=
  if a = 0 then wp_X5_readRule len tc now parts a fp tk dc dl hd code (fun r => un5 (fun u0 u1 u2 u3 u4 => if r = 0 then K (0, u4, u0, u1, u2, u3) else wp_X5_readIf len tc u0 u1 a fp tk dc u2 u3 u4 (fun r2 => un5 (fun v0 v1 v2 v3 v4 => if r2 = 0 then K (0, v4, v0, v1, v2, v3) else K (1, v4, v0, v1, v2, v3)))))
  else wp_X5_readOrder len tc now parts a fp tk dc dl hd code (fun r => un5 (fun u0 u1 u2 u3 u4 => if r = 0 then K (0, u4, u0, u1, u2, u3) else wp_X5_readIf len tc u0 u1 a fp tk dc u2 u3 u4 (fun r2 => un5 (fun v0 v1 v2 v3 v4 => if r2 = 0 then K (0, v4, v0, v1, v2, v3) else K (1, v4, v0, v1, v2, v3)))))
/-- what a reader of CLAUSES does -/
def HCl (ord : Bool) (a len fp tc : Int32) (tk : Nat → Int32) (f : Nat → Nat → PRc) : Prop :=
  ∀ (dc dl now parts : Int32) (hd code : Nat → Int32) (C i l c : Nat) (K : (Int32 × (Nat → Int32) × Int32 × Int32 × Int32 × (Nat → Int32)) → Prop), dc.toInt = (C : Int) → C < 12 → now.toInt = (i : Int) → parts.toInt = (l : Int) → dl.toInt = (c : Int) → c ≤ i → i ≤ 400 → l ≤ 50 → hd (5 * C + 1) = -1 → hd (5 * C + 2) = -1 → hd (5 * C + 3) = -1 → hd (5 * C + 4) = 1 →
    ((f i l).1 = true → ∀ (now' parts' dl' : Int32) (hd' code' : Nat → Int32) (c' : Nat), now'.toInt = ((f i l).2.1 : Int) → parts'.toInt = ((f i l).2.2.1 : Int) → dl'.toInt = (c' : Int) → (f i l).2.1 ≤ 400 → (f i l).2.2.1 ≤ 50 → i < (f i l).2.1 → c' ≤ (f i l).2.1 → c ≤ c' → XC ord hd' code' c' C (f i l).2.2.2 → (∀ k, k < c → code' k = code k) → (∀ k, k < 5 * C → hd' k = hd k) → K (1, code', now', parts', dl', hd')) →
    (¬ (f i l).1 = true → ∀ (now' parts' dl' : Int32) (hd' code' : Nat → Int32), now'.toInt = ((f i l).2.1 : Int) → K (0, code', now', parts', dl', hd')) →
    clW a len fp tc tk dc dl hd code now parts K
set_option maxHeartbeats 1000000 in
theorem x_rule {tp : Nat → Int32} {n : Nat} {st en : Nat → Nat} {T : Nat → Int} (hL : Lex tp n st en T) {len fp tc : Int32} {tk pl : Nat → Int32} (hT : TkX n st T tc tk pl) : HCl false 0 len fp tc tk (rd_rule T) := by
  intro dc dl now parts hd code C i l c K hC h12 hi hl hc hci hi4 hl5 g1 g2 g3 g4 h1 h0
  unfold clW
  refine br1 rfl ?_
  have tb := hT.tb i
  refine x_readRule hL hT hC h12 hi hl hc hci hi4 hl5 (fun e4 i4 r hr => un5_i (br0 (by decide) ?_)) (fun e4 z r now' parts' dl' code' c' hr k1 k2 k3 k4 k5 k6 k7 k8 k9 k10 => un5_i (br0 (by decide) ?_)) (fun e4 z now' parts' dl' hd' code' k1 => un5_i (br1 rfl ?_)) (fun e4 => un5_i (br1 rfl ?_))
  · have eR : rd_rule T i l = rd_if T false 4 none none 1 (i + 1) l := by
      unfold rd_rule; rw [if_pos (by omega), if_pos e4]
    rw [eR] at h1 h0
    have u3 : upd hd (5 * C + 0) r (5 * C + 3) = -1 := by unfold upd; rw [if_neg (by omega)]; exact g3
    refine x_readIf hL hT (Or.inl ⟨rfl, rfl⟩) hC h12 (add1 hi (by omega)) hl hc (by omega) (by omega) hl5 u3 (h := 4) (m := 1) (s := none) (t := none) (fun z now' parts' dl' hd' code' c' k1 k2 k3 k4 k5 k6 k7 k8 k9 k10 k11 => un5_i (br0 (by decide) ?_)) (fun z now' parts' dl' hd' code' k1 => un5_i (br1 rfl (h0 z _ _ _ _ _ k1)))
    have cl1 : (rd_if T false 4 none none 1 (i + 1) l).2.2.2.1 = 4 ∧ (rd_if T false 4 none none 1 (i + 1) l).2.2.2.2.1 = none ∧ (rd_if T false 4 none none 1 (i + 1) l).2.2.2.2.2.1 = none ∧ (rd_if T false 4 none none 1 (i + 1) l).2.2.2.2.2.2.1 = 1 := by
      unfold rd_if at z ⊢
      by_cases q5 : T (i + 1) = 5
      · rw [if_pos q5] at z ⊢
        by_cases q6 : (rd_testL T false 8 (i + 1 + 1) l).1 = true
        · rw [if_pos q6]; exact ⟨rfl, rfl, rfl, rfl⟩
        · rw [if_neg q6] at z; exact absurd z (by show ¬ false = true; decide)
      · rw [if_neg q5]; exact ⟨rfl, rfl, rfl, rfl⟩
    refine h1 z _ _ _ _ _ c' k1 k2 k3 k4 k5 (by omega) k7 k8 ⟨?_, ?_, ?_, k9, ?_⟩ k10 (fun k hk => ?_)
    · rw [cl1.1, k11 (5 * C) (by omega)]
      show (upd hd (5 * C + 0) r (5 * C)).toInt = 4
      unfold upd; rw [if_pos (by omega)]; exact hr
    · rw [cl1.2.1, k11 (5 * C + 1) (by omega)]
      show upd hd (5 * C + 0) r (5 * C + 1) = -1
      unfold upd; rw [if_neg (by omega)]; exact g1
    · rw [cl1.2.2.1, k11 (5 * C + 2) (by omega)]
      show upd hd (5 * C + 0) r (5 * C + 2) = -1
      unfold upd; rw [if_neg (by omega)]; exact g2
    · rw [cl1.2.2.2, k11 (5 * C + 4) (by omega)]
      unfold upd; rw [if_neg (by omega), g4]; rfl
    · rw [k11 k (by omega)]; unfold upd; rw [if_neg (by omega)]
  · have eR : rd_rule T i l = rd_if T false (T i).toNat (some (rd_sumL T false 8 (i + 1) l).2.2.2) none 1 (rd_sumL T false 8 (i + 1) l).2.1 (rd_sumL T false 8 (i + 1) l).2.2.1 := by
      unfold rd_rule; rw [if_pos (by omega), if_neg (by omega), if_pos z]
    rw [eR] at h1 h0
    have u3 : upd (upd hd (5 * C + 0) r) (5 * C + 1) dl (5 * C + 3) = -1 := by unfold upd; rw [if_neg (by omega), if_neg (by omega)]; exact g3
    refine x_readIf hL hT (Or.inl ⟨rfl, rfl⟩) hC h12 k1 k2 k3 k7 k4 k5 u3 (h := (T i).toNat) (m := 1) (s := some (rd_sumL T false 8 (i + 1) l).2.2.2) (t := none) (fun z2 now2 parts2 dl2 hd2 code2 c2 m1 m2 m3 m4 m5 m6 m7 m8 m9 m10 m11 => un5_i (br0 (by decide) ?_)) (fun z2 now2 parts2 dl2 hd2 code2 m1 => un5_i (br1 rfl (h0 z2 _ _ _ _ _ m1)))
    obtain ⟨F, eF⟩ : ∃ F, rd_if T false (T i).toNat (some (rd_sumL T false 8 (i + 1) l).2.2.2) none 1 (rd_sumL T false 8 (i + 1) l).2.1 (rd_sumL T false 8 (i + 1) l).2.2.1 = F := ⟨_, rfl⟩
    have cl1 : F.2.2.2.1 = (T i).toNat ∧ F.2.2.2.2.1 = some (rd_sumL T false 8 (i + 1) l).2.2.2 ∧ F.2.2.2.2.2.1 = none ∧ F.2.2.2.2.2.2.1 = 1 := by
      rw [eF] at z2
      rw [← eF] at z2 ⊢
      unfold rd_if at z2 ⊢
      by_cases q5 : T (rd_sumL T false 8 (i + 1) l).2.1 = 5
      · rw [if_pos q5] at z2 ⊢
        by_cases q6 : (rd_testL T false 8 ((rd_sumL T false 8 (i + 1) l).2.1 + 1) (rd_sumL T false 8 (i + 1) l).2.2.1).1 = true
        · rw [if_pos q6]; exact ⟨rfl, rfl, rfl, rfl⟩
        · rw [if_neg q6] at z2; exact absurd z2 (by show ¬ false = true; decide)
      · rw [if_neg q5]; exact ⟨rfl, rfl, rfl, rfl⟩
    rw [eF] at h1 m1 m2 m4 m5 m6 m7 m9 z2
    refine h1 z2 _ _ _ _ _ c2 m1 m2 m3 m4 m5 (by omega) m7 (by omega) ⟨?_, ?_, ?_, m9, ?_⟩ (fun k hk => (m10 k (by omega)).trans (k10 k hk)) (fun k hk => ?_)
    · rw [cl1.1, m11 (5 * C) (by omega)]
      show (upd (upd hd (5 * C + 0) r) (5 * C + 1) dl (5 * C)).toInt = ((T i).toNat : Int)
      unfold upd; rw [if_neg (by omega), if_pos (by omega), hr]; omega
    · rw [cl1.2.1, m11 (5 * C + 1) (by omega)]
      have : upd (upd hd (5 * C + 0) r) (5 * C + 1) dl (5 * C + 1) = dl := by unfold upd; rw [if_pos rfl]
      rw [this]
      exact k9.ext m8 m10
    · rw [cl1.2.2.1, m11 (5 * C + 2) (by omega)]
      show upd (upd hd (5 * C + 0) r) (5 * C + 1) dl (5 * C + 2) = -1
      unfold upd; rw [if_neg (by omega), if_neg (by omega)]; exact g2
    · rw [cl1.2.2.2, m11 (5 * C + 4) (by omega)]
      unfold upd; rw [if_neg (by omega), if_neg (by omega), g4]; rfl
    · rw [m11 k (by omega)]; unfold upd; rw [if_neg (by omega), if_neg (by omega)]
  · have eR : rd_rule T i l = rd_noc (rd_sumL T false 8 (i + 1) l).2.1 (rd_sumL T false 8 (i + 1) l).2.2.1 := by
      unfold rd_rule; rw [if_pos (by omega), if_neg (by omega), if_neg z]
    rw [eR] at h0
    exact h0 (by show ¬ false = true; decide) _ _ _ _ _ k1
  · have eR : rd_rule T i l = rd_noc i l := by
      unfold rd_rule; rw [if_neg (by omega)]
    rw [eR] at h0
    exact h0 (by show ¬ false = true; decide) _ _ _ _ _ hi
theorem txt_s {T : Nat → Int} {cl : Nat → Nat → PRc} {m i l : Nat} {a : List Cls} : rd_txt T cl (m + 1) i l a = if (cl i l).1 = true then (if T (cl i l).2.1 = 31 then (true, (cl i l).2.1, a ++ [(cl i l).2.2.2]) else if T (cl i l).2.1 = 159 then rd_txt T cl m ((cl i l).2.1 + 1) (cl i l).2.2.1 (a ++ [(cl i l).2.2.2]) else (false, (cl i l).2.1, a ++ [(cl i l).2.2.2])) else (false, (cl i l).2.1, a) := rfl
set_option maxHeartbeats 1000000 in
theorem x_rdl {n : Nat} {st : Nat → Nat} {T : Nat → Int} {ord : Bool} {a len fp tc : Int32} {tk pl : Nat → Int32} (hT : TkX n st T tc tk pl) {f : Nat → Nat → PRc} (hf : HCl ord a len fp tc tk f) {Qb : Int32 → Int32 → Int32 → Int32 → Int32 → (Nat → Int32) → (Nat → Int32) → Int32 → Int32 → Prop} : ∀ (m fu : Nat) (cnt dc dl now parts : Int32) (hd code : Nat → Int32) (C i l c : Nat) (acc : List Cls), m + 2 ≤ fu → cnt.toInt = (C : Int) → dc.toInt = (C : Int) → C + m = 12 → acc.length = C → now.toInt = (i : Int) → parts.toInt = (l : Int) → dl.toInt = (c : Int) → c ≤ i → i ≤ 400 → l ≤ 50 → XCs ord hd code c 0 acc →
    ((rd_txt T f m i l acc).1 = true → ∀ (x go dc' dl' now' parts' : Int32) (hd' code' : Nat → Int32) (c' : Nat), dc'.toInt = ((rd_txt T f m i l acc).2.2.length : Int) → (rd_txt T f m i l acc).2.2.length ≤ 12 → dl'.toInt = (c' : Int) → c' ≤ 400 → XCs ord hd' code' c' 0 (rd_txt T f m i l acc).2.2 → Qb x 1 go dc' dl' hd' code' now' parts') →
    (¬ (rd_txt T f m i l acc).1 = true → ∀ (x go dc' dl' now' parts' : Int32) (hd' code' : Nat → Int32), now'.toInt = ((rd_txt T f m i l acc).2.1 : Int) → Qb x 0 go dc' dl' hd' code' now' parts') →
    wl_X5_read_42 a len fp tc tk Qb fu cnt 0 1 dc dl hd code now parts := by
  intro m
  induction m with
  | zero =>
    intro fu cnt dc dl now parts hd code C i l c acc hfu hcn hdc hCm hacc hi hl hc hci hi4 hl5 hX h1 h0
    cases fu with
    | zero => omega
    | succ fu =>
      unfold wl_X5_read_42
      exact br1 (z_le (x := 12) rfl hcn (by omega)) (h0 (by show ¬ false = true; decide) _ _ _ _ _ _ _ _ hi)
  | succ m ih =>
    intro fu cnt dc dl now parts hd code C i l c acc hfu hcn hdc hCm hacc hi hl hc hci hi4 hl5 hX h1 h0
    rw [txt_s] at h1 h0
    cases fu with
    | zero => omega
    | succ fu =>
      unfold wl_X5_read_42
      refine br0 (z_nle (x := 12) rfl hcn (by omega)) (br0 (by decide) (br1 rfl ?_))
      refine x_beginHead hdc (by omega) (fun hd1 b1 b2 b3 b4 b5 => jn_s ?_)
      -- at the loop's end
      have stop0 : ∀ (x dc' dl' : Int32) (hd' code' : Nat → Int32) (now' parts' : Int32), Qb x 0 0 dc' dl' hd' code' now' parts' → wl_X5_read_42 a len fp tc tk Qb fu x 0 0 dc' dl' hd' code' now' parts' := fun x dc' dl' hd' code' now' parts' h => by
        cases fu with
        | zero => omega
        | succ fu =>
          unfold wl_X5_read_42
          by_cases c12 : 12 ≤ x
          · exact br1 c12 h
          · exact br0 c12 (br1 rfl h)
      have stop1 : ∀ (x dc' dl' : Int32) (hd' code' : Nat → Int32) (now' parts' : Int32), Qb x 1 1 dc' dl' hd' code' now' parts' → wl_X5_read_42 a len fp tc tk Qb fu x 1 1 dc' dl' hd' code' now' parts' := fun x dc' dl' hd' code' now' parts' h => by
        cases fu with
        | zero => omega
        | succ fu =>
          unfold wl_X5_read_42
          by_cases c12 : 12 ≤ x
          · exact br1 c12 h
          · exact br0 c12 (br0 (by decide) (br0 (by decide) h))
      refine hf dc dl now parts hd1 code C i l c _ hdc (by omega) hi hl hc hci hi4 hl5 b1 b2 b3 b4 (fun z now' parts' dl' hd' code' c' k1 k2 k3 k4 k5 k6 k7 k8 k9 k10 k11 => un6_i (br0 (by decide) ?_)) (fun z now' parts' dl' hd' code' k1 => un6_i (br1 rfl (stop0 _ _ _ _ _ _ _ ?_)))
      · rw [if_pos z] at h1 h0
        have cn1 := add1 hcn (by omega)
        have dc1 := add1 hdc (by omega)
        have hX2 : XCs ord hd' code' c' 0 (acc ++ [(f i l).2.2.2]) := by
          refine XCs.app acc 0 (XCs.ext (C := C) k8 k10 (fun j hj => (k11 j hj).trans (b5 j hj)) acc 0 (by omega) hX) ?_
          rw [Nat.zero_add, hacc]; exact k9
        have hl2 : (acc ++ [(f i l).2.2.2]).length = C + 1 := by rw [List.length_append, hacc]; rfl
        refine x_tokenNow hT k1 (fun t ht => jn_s ?_)
        by_cases e31 : T (f i l).2.1 = 31
        · refine br1 (z_eq (y := 31) ht rfl e31) (br0 (by decide) (stop1 _ _ _ _ _ _ _ ?_))
          rw [if_pos e31] at h1
          exact h1 rfl _ _ _ _ _ _ _ _ c' (by rw [dc1]; show _ = (((acc ++ [(f i l).2.2.2]).length : Nat) : Int); rw [hl2]) (by show (acc ++ [(f i l).2.2.2]).length ≤ 12; omega) k3 (by omega) hX2
        · refine br0 (z_ne (y := 31) ht rfl e31) (br1 rfl ?_)
          rw [if_neg e31] at h1 h0
          refine x_take hT k1 (z := 159) rfl (by decide) (fun e159 j4 => br0 (by decide) ?_) (fun e159 => br1 rfl (stop0 _ _ _ _ _ _ _ ?_))
          · rw [if_pos e159] at h1 h0
            exact ih fu (cnt + 1) (dc + 1) dl' (now' + 1) parts' hd' code' (C + 1) ((f i l).2.1 + 1) (f i l).2.2.1 c' _ (by omega) cn1 dc1 (by omega) hl2 (add1 k1 (by omega)) k2 k3 (by omega) (by omega) k5 hX2 h1 h0
          · rw [if_neg e159] at h0
            exact h0 (by show ¬ false = true; decide) _ _ _ _ _ _ _ _ k1
      · rw [if_neg z] at h0
        exact h0 (by show ¬ false = true; decide) _ _ _ _ _ _ _ _ k1
