/-! the class's ORDERS as they are read -/
theorem x_ifC {tp : Nat → Int32} {n : Nat} {st en : Nat → Nat} {T : Nat → Int} (hL : Lex tp n st en T) {len fp tc dc : Int32} {tk pl : Nat → Int32} (hT : TkX n st T tc tk pl) {now parts dl : Int32} {hd code : Nat → Int32} {C i l c h M : Nat} {s t : Option Sem} (hC : dc.toInt = (C : Int)) (h12 : C < 12) (hi : now.toInt = (i : Int)) (hl : parts.toInt = (l : Int)) (hc : dl.toInt = (c : Int)) (hci : c ≤ i) (hi4 : i ≤ 400) (hl5 : l ≤ 50) (z0 : (hd (5 * C)).toInt = vbX true h) (z1 : sgX true code c (hd (5 * C + 1)) s) (z2 : sgX true code c (hd (5 * C + 2)) t) (z3 : hd (5 * C + 3) = -1) (z4 : (hd (5 * C + 4)).toInt = (M : Int)) {K : (Int32 × (Nat → Int32) × Int32 × Int32 × Int32 × (Nat → Int32)) → Prop}
    (h1 : (rd_if T true h s t M i l).1 = true → ∀ (now' parts' dl' : Int32) (hd' code' : Nat → Int32) (c' : Nat), now'.toInt = ((rd_if T true h s t M i l).2.1 : Int) → parts'.toInt = ((rd_if T true h s t M i l).2.2.1 : Int) → dl'.toInt = (c' : Int) → (rd_if T true h s t M i l).2.1 ≤ 400 → (rd_if T true h s t M i l).2.2.1 ≤ 50 → i ≤ (rd_if T true h s t M i l).2.1 → c' ≤ (rd_if T true h s t M i l).2.1 → c ≤ c' → XC true hd' code' c' C (rd_if T true h s t M i l).2.2.2 → (∀ k, k < c → code' k = code k) → (∀ k, k < 5 * C → hd' k = hd k) → K (1, code', now', parts', dl', hd'))
    (h0 : ¬ (rd_if T true h s t M i l).1 = true → ∀ (now' parts' dl' : Int32) (hd' code' : Nat → Int32), now'.toInt = ((rd_if T true h s t M i l).2.1 : Int) → K (0, code', now', parts', dl', hd')) :
    wp_X5_readIf len tc now parts 1 fp tk dc dl hd code (fun r2 => un5 (fun v0 v1 v2 v3 v4 => if r2 = 0 then K (0, v4, v0, v1, v2, v3) else K (1, v4, v0, v1, v2, v3))) := by
  refine x_readIf hL hT (Or.inr ⟨rfl, rfl⟩) hC h12 hi hl hc hci hi4 hl5 z3 (h := h) (m := M) (s := s) (t := t) (fun z now' parts' dl' hd' code' c' k1 k2 k3 k4 k5 k6 k7 k8 k9 k10 k11 => un5_i (br0 (by decide) ?_)) (fun z now' parts' dl' hd' code' k1 => un5_i (br1 rfl (h0 z _ _ _ _ _ k1)))
  have cl1 := rd_if_c z
  refine h1 z _ _ _ _ _ c' k1 k2 k3 k4 k5 k6 k7 k8 ⟨?_, ?_, ?_, k9, ?_⟩ k10 (fun k hk => k11 k (by omega))
  · rw [cl1.1, k11 (5 * C) (by omega)]; exact z0
  · rw [cl1.2.1, k11 (5 * C + 1) (by omega)]; exact z1.ext k8 k10
  · rw [cl1.2.2.1, k11 (5 * C + 2) (by omega)]; exact z2.ext k8 k10
  · rw [cl1.2.2.2, k11 (5 * C + 4) (by omega)]; exact z4
/-- behind an ORDER: its "if" -/
abbrev QO (len fp tc : Int32) (tk : Nat → Int32) (dc : Int32) (K : (Int32 × (Nat → Int32) × Int32 × Int32 × Int32 × (Nat → Int32)) → Prop) : Int32 → (Int32 × Int32 × Int32 × (Nat → Int32) × (Nat → Int32)) → Prop := fun r => un5 (fun u0 u1 u2 u3 u4 => if r = 0 then K (0, u4, u0, u1, u2, u3) else wp_X5_readIf len tc u0 u1 1 fp tk dc u2 u3 u4 (fun r2 => un5 (fun v0 v1 v2 v3 v4 => if r2 = 0 then K (0, v4, v0, v1, v2, v3) else K (1, v4, v0, v1, v2, v3))))
theorem x_tmsC {tp : Nat → Int32} {n : Nat} {st en : Nat → Nat} {T : Nat → Int} (hL : Lex tp n st en T) {len fp tc dc : Int32} {tk pl : Nat → Int32} (hT : TkX n st T tc tk pl) {now parts dl : Int32} {hd code : Nat → Int32} {C i l c h : Nat} {s t : Option Sem} (hC : dc.toInt = (C : Int)) (h12 : C < 12) (hi : now.toInt = (i : Int)) (hl : parts.toInt = (l : Int)) (hc : dl.toInt = (c : Int)) (hci : c ≤ i) (hi4 : i ≤ 400) (hl5 : l ≤ 50) (z0 : (hd (5 * C)).toInt = vbX true h) (z1 : sgX true code c (hd (5 * C + 1)) s) (z2 : sgX true code c (hd (5 * C + 2)) t) (z3 : hd (5 * C + 3) = -1) (z4 : hd (5 * C + 4) = 1) {K : (Int32 × (Nat → Int32) × Int32 × Int32 × Int32 × (Nat → Int32)) → Prop}
    (h1 : (rd_tms T h s t i l).1 = true → ∀ (now' parts' dl' : Int32) (hd' code' : Nat → Int32) (c' : Nat), now'.toInt = ((rd_tms T h s t i l).2.1 : Int) → parts'.toInt = ((rd_tms T h s t i l).2.2.1 : Int) → dl'.toInt = (c' : Int) → (rd_tms T h s t i l).2.1 ≤ 400 → (rd_tms T h s t i l).2.2.1 ≤ 50 → i ≤ (rd_tms T h s t i l).2.1 → c' ≤ (rd_tms T h s t i l).2.1 → c ≤ c' → XC true hd' code' c' C (rd_tms T h s t i l).2.2.2 → (∀ k, k < c → code' k = code k) → (∀ k, k < 5 * C → hd' k = hd k) → K (1, code', now', parts', dl', hd'))
    (h0 : ¬ (rd_tms T h s t i l).1 = true → ∀ (now' parts' dl' : Int32) (hd' code' : Nat → Int32), now'.toInt = ((rd_tms T h s t i l).2.1 : Int) → K (0, code', now', parts', dl', hd')) :
    wp_X5_take 24 tc now tk (fun r u => if r = 0 then QO len fp tc tk dc K 1 (u, parts, dl, hd, code) else wp_X5_readTimes tc u tk dc hd (fun r2 => un2 (fun u0 u1 => if r2 = 0 then QO len fp tc tk dc K 0 (u0, parts, dl, u1, code) else QO len fp tc tk dc K 1 (u0, parts, dl, u1, code)))) := by
  have z4' : (hd (5 * C + 4)).toInt = ((1 : Nat) : Int) := by rw [z4]; rfl
  refine x_take hT hi (z := 24) rfl (by decide) (fun t24 i4 => br0 (by decide) ?_) (fun t24 => br1 rfl (un5_i (br0 (by decide) ?_)))
  · have e : rd_tms T h s t i l = if 1 ≤ T (i + 1) - 1000 ∧ T (i + 1) - 1000 ≤ 20 then rd_if T true h s t (T (i + 1) - 1000).toNat (i + 2) l else rd_noc (i + 1) l := by unfold rd_tms; rw [if_pos t24]
    rw [e] at h1 h0
    have n1 : (now + 1).toInt = ((i + 1 : Nat) : Int) := add1 hi (by omega)
    unfold wp_X5_readTimes
    refine x_tokenNow hT n1 (fun r hr => ?_)
    have rb := hT.tb (i + 1)
    have er : (r - 1000).toInt = T (i + 1) - 1000 := sub_z hr (b := 1000) (y := 1000) rfl (by omega) (by omega)
    by_cases d1 : r - 1000 < 1
    · have d1' := lt_z (y := 1) er rfl d1
      rw [if_neg (by omega)] at h0
      exact br1 d1 (un2_i (br1 rfl (un5_i (br1 rfl (h0 (by show ¬ false = true; decide) _ _ _ _ _ n1)))))
    · have d1' := nlt_z (y := 1) er rfl d1
      refine br0 d1 ?_
      by_cases d2 : r - 1000 ≤ 20
      · have d2' := le_z (y := 20) er rfl d2
        rw [if_pos (by omega)] at h1 h0
        have j4 := hT.lt (i := i + 1) (by omega)
        have n2 : (now + 1 + 1).toInt = ((i + 2 : Nat) : Int) := add1 n1 (by omega)
        refine br1 d2 (x_setHead (p := 4) rfl (by decide) hC h12 (un2_i (br0 (by decide) (un5_i (br0 (by decide) ?_)))))
        have u : ∀ j, ¬ j = 5 * C + 4 → upd hd (5 * C + 4) (r - 1000) j = hd j := fun j hj => by unfold upd; rw [if_neg hj]
        refine x_ifC hL hT hC h12 n2 hl hc (by omega) (by omega) hl5 (by rw [u _ (by omega)]; exact z0) (by rw [u _ (by omega)]; exact z1) (by rw [u _ (by omega)]; exact z2) (by rw [u _ (by omega)]; exact z3) (M := (T (i + 1) - 1000).toNat) (by unfold upd; rw [if_pos rfl, er]; omega) (fun z now' parts' dl' hd' code' c' k1 k2 k3 k4 k5 k6 k7 k8 k9 k10 k11 => h1 z _ _ _ _ _ c' k1 k2 k3 k4 k5 (by omega) k7 k8 k9 k10 (fun k hk => (k11 k hk).trans (u k (by omega)))) h0
      · have d2' := nle_z (y := 20) er rfl d2
        rw [if_neg (by omega)] at h0
        exact br0 d2 (un2_i (br1 rfl (un5_i (br1 rfl (h0 (by show ¬ false = true; decide) _ _ _ _ _ n1)))))
  · have e : rd_tms T h s t i l = rd_if T true h s t 1 i l := by unfold rd_tms; rw [if_neg t24]
    rw [e] at h1 h0
    exact x_ifC hL hT hC h12 hi hl hc hci hi4 hl5 z0 z1 z2 z3 z4' h1 h0
theorem rd_act_c {t : Int} (h : t = 18 ∨ t = 20 ∨ t = 21 ∨ t = 22) : ¬ rd_act t = 0 ∧ vbX true (rd_act t - 1) = t ∧ (rd_act t = 1 ↔ t = 18) ∧ (rd_act t = 4 ↔ t = 22) := by
  rcases h with rfl | rfl | rfl | rfl <;> decide
theorem rd_act_n {t : Int} (h : ¬ (t = 18 ∨ t = 20 ∨ t = 21 ∨ t = 22)) : rd_act t = 0 := by
  unfold rd_act
  rw [if_neg (fun q => h (Or.inl q)), if_neg (fun q => h (Or.inr (Or.inl q))), if_neg (fun q => h (Or.inr (Or.inr (Or.inl q)))), if_neg (fun q => h (Or.inr (Or.inr (Or.inr q))))]
set_option maxHeartbeats 2000000 in
theorem x_order {tp : Nat → Int32} {n : Nat} {st en : Nat → Nat} {T : Nat → Int} (hL : Lex tp n st en T) {len fp tc : Int32} {tk pl : Nat → Int32} (hT : TkX n st T tc tk pl) : HCl true 1 len fp tc tk (rd_order T) := by
  intro dc dl now parts hd code C i l c K hC h12 hi hl hc hci hi4 hl5 g1 g2 g3 g4 h1 h0
  unfold clW
  refine br0 (by decide) ?_
  have tb := hT.tb i
  unfold wp_X5_readOrder
  refine x_tokenNow hT hi (fun r hr => ?_)
  refine jn1_i (fun _ => T i = 18 ∨ T i = 20 ∨ T i = 21 ∨ T i = 22) (fun y hy => ?_) (fun k hk => ?_)
  · clear y
    obtain ⟨a1, a2, a3, a4⟩ := rd_act_c hy
    have i4 := hT.lt (i := i) (by omega)
    obtain ⟨S1, eS1⟩ : ∃ S1, rd_sumL T true 8 (i + 1) l = S1 := ⟨_, rfl⟩
    have eR : rd_order T i l = if S1.1 = true then (if rd_act (T i) = 1 ∨ rd_act (T i) = 4 then (if T S1.2.1 = (if rd_act (T i) = 1 then 19 else 23) then (if (rd_sumL T true 8 (S1.2.1 + 1) S1.2.2.1).1 = true then rd_tms T (rd_act (T i) - 1) (some S1.2.2.2) (some (rd_sumL T true 8 (S1.2.1 + 1) S1.2.2.1).2.2.2) (rd_sumL T true 8 (S1.2.1 + 1) S1.2.2.1).2.1 (rd_sumL T true 8 (S1.2.1 + 1) S1.2.2.1).2.2.1 else rd_noc (rd_sumL T true 8 (S1.2.1 + 1) S1.2.2.1).2.1 (rd_sumL T true 8 (S1.2.1 + 1) S1.2.2.1).2.2.1) else rd_noc S1.2.1 S1.2.2.1) else rd_tms T (rd_act (T i) - 1) (some S1.2.2.2) none S1.2.1 S1.2.2.1) else rd_noc S1.2.1 S1.2.2.1 := by
      unfold rd_order; rw [if_neg a1, eS1]
    refine x_setHead (p := 0) rfl (by decide) hC h12 ?_
    refine x_sumOf hL hT (Or.inr ⟨rfl, rfl⟩) (p := 1) rfl (by decide) hC h12 (add1 hi (by omega)) hl hc (by omega) (by omega) hl5 (fun z now1 parts1 dl1 code1 c1 k1 k2 k3 k4 k5 k6 k7 k8 k9 k10 => un5_i (br0 (by decide) ?_)) (fun z now1 parts1 dl1 hd1 code1 k1 => un5_i (br1 rfl (un5_i (br1 rfl ?_))))
    · rw [eS1] at z k1 k2 k4 k5 k6 k7 k9
      rw [if_pos z] at eR
      obtain ⟨J1, eJ1⟩ : ∃ J1, S1.2.1 = J1 := ⟨_, rfl⟩
      obtain ⟨l1, el1⟩ : ∃ l1, S1.2.2.1 = l1 := ⟨_, rfl⟩
      rw [eJ1] at k1 k4 k6 k7 eR
      rw [el1] at k2 k5 eR
      have u0 : (upd (upd hd (5 * C + 0) r) (5 * C + 1) dl (5 * C)).toInt = vbX true (rd_act (T i) - 1) := by
        unfold upd; rw [if_neg (by omega), if_pos (by omega), hr, a2]
      have u1 : upd (upd hd (5 * C + 0) r) (5 * C + 1) dl (5 * C + 1) = dl := by unfold upd; rw [if_pos rfl]
      have u2 : upd (upd hd (5 * C + 0) r) (5 * C + 1) dl (5 * C + 2) = -1 := by unfold upd; rw [if_neg (by omega), if_neg (by omega)]; exact g2
      have u3 : upd (upd hd (5 * C + 0) r) (5 * C + 1) dl (5 * C + 3) = -1 := by unfold upd; rw [if_neg (by omega), if_neg (by omega)]; exact g3
      have u4 : upd (upd hd (5 * C + 0) r) (5 * C + 1) dl (5 * C + 4) = 1 := by unfold upd; rw [if_neg (by omega), if_neg (by omega)]; exact g4
      have uk : ∀ k, k < 5 * C → upd (upd hd (5 * C + 0) r) (5 * C + 1) dl k = hd k := fun k hk => by unfold upd; rw [if_neg (by omega), if_neg (by omega)]
      obtain ⟨hd1, eh1⟩ : ∃ hd1, upd (upd hd (5 * C + 0) r) (5 * C + 1) dl = hd1 := ⟨_, rfl⟩
      rw [eh1] at u0 u1 u2 u3 u4 uk ⊢
      -- behind its second SUM
      have two : (rd_act (T i) = 1 ∨ rd_act (T i) = 4) → ∀ {Y : (Int32 × Int32 × Int32 × (Nat → Int32) × (Nat → Int32)) → Prop}, (∀ {u0 u1 u2 : Int32} {u3 u4 : Nat → Int32}, wp_X5_take 24 tc u0 tk (fun r u => if r = 0 then QO len fp tc tk dc K 1 (u, u1, u2, u3, u4) else wp_X5_readTimes tc u tk dc u3 (fun r2 => un2 (fun v0 v1 => if r2 = 0 then QO len fp tc tk dc K 0 (v0, u1, u2, v1, u4) else QO len fp tc tk dc K 1 (v0, u1, u2, v1, u4)))) → Y (u0, u1, u2, u3, u4)) → ∀ w : Int32, w.toInt = (if rd_act (T i) = 1 then 19 else 23) → wp_X5_take w tc now1 tk (fun r_66 => fun u_66 => if r_66 = 0 then QO len fp tc tk dc K 0 (u_66, parts1, dl1, hd1, code1) else wp_X5_readSumOf 2 len tc u_66 parts1 1 fp dc dl1 hd1 tk code1 (fun r_74 => un5 (fun u0 u1 u2 u3 u4 => if r_74 = 0 then QO len fp tc tk dc K 0 (u0, u1, u2, u3, u4) else Y (u0, u1, u2, u3, u4)))) := fun ha Y hY w hw => by
        rw [if_pos ha] at eR
        refine x_take hT k1 hw (by by_cases q : rd_act (T i) = 1 <;> simp only [q, if_true, if_false] <;> decide) (fun tw j4 => br0 (by decide) ?_) (fun tw => br1 rfl (un5_i (br1 rfl ?_)))
        · rw [if_pos tw] at eR
          obtain ⟨S2, eS2⟩ : ∃ S2, rd_sumL T true 8 (J1 + 1) l1 = S2 := ⟨_, rfl⟩
          rw [eS2] at eR
          refine x_sumOf hL hT (Or.inr ⟨rfl, rfl⟩) (p := 2) rfl (by decide) hC h12 (add1 k1 (by omega)) k2 k3 (by omega) (by omega) k5 (fun z2 now2 parts2 dl2 code2 c2 m1 m2 m3 m4 m5 m6 m7 m8 m9 m10 => un5_i (br0 (by decide) ?_)) (fun z2 now2 parts2 dl2 hd2 code2 m1 => un5_i (br1 rfl (un5_i (br1 rfl ?_))))
          · rw [eS2] at z2 m1 m2 m4 m5 m6 m7 m9
            rw [if_pos z2] at eR
            rw [eR] at h1 h0
            have v : ∀ j, ¬ j = 5 * C + 2 → upd hd1 (5 * C + 2) dl1 j = hd1 j := fun j hj => by unfold upd; rw [if_neg hj]
            have v2 : upd hd1 (5 * C + 2) dl1 (5 * C + 2) = dl1 := by unfold upd; rw [if_pos rfl]
            refine hY ?_
            refine x_tmsC hL hT hC h12 m1 m2 m3 m7 m4 m5 (by rw [v _ (by omega)]; exact u0) (by rw [v _ (by omega), u1]; exact k9.ext (by omega) m10) (by rw [v2]; exact m9) (by rw [v _ (by omega)]; exact u3) (by rw [v _ (by omega)]; exact u4) (fun z3 now' parts' dl' hd' code' c' q1 q2 q3 q4 q5 q6 q7 q8 q9 q10 q11 => ?_) h0
            exact h1 z3 _ _ _ _ _ c' q1 q2 q3 q4 q5 (by omega) q7 (by omega) q9 (fun k hk => ((q10 k (by omega)).trans (m10 k (by omega))).trans (k10 k hk)) (fun k hk => ((q11 k hk).trans (v k (by omega))).trans (uk k hk))
          · rw [eS2] at z2 m1
            rw [if_neg z2] at eR
            rw [eR] at h0
            exact h0 (by show ¬ false = true; decide) _ _ _ _ _ m1
        · rw [if_neg tw] at eR
          rw [eR] at h0
          exact h0 (by show ¬ false = true; decide) _ _ _ _ _ k1
      have one : ¬ (rd_act (T i) = 1 ∨ rd_act (T i) = 4) → wp_X5_take 24 tc now1 tk (fun r u => if r = 0 then QO len fp tc tk dc K 1 (u, parts1, dl1, hd1, code1) else wp_X5_readTimes tc u tk dc hd1 (fun r2 => un2 (fun v0 v1 => if r2 = 0 then QO len fp tc tk dc K 0 (v0, parts1, dl1, v1, code1) else QO len fp tc tk dc K 1 (v0, parts1, dl1, v1, code1)))) := fun ha => by
        rw [if_neg ha] at eR
        rw [eR] at h1 h0
        refine x_tmsC hL hT hC h12 k1 k2 k3 k7 k4 k5 (code := code1) (s := some S1.2.2.2) (t := none) u0 (by rw [u1]; exact k9) u2 u3 u4 (fun z3 now' parts' dl' hd' code' c' q1 q2 q3 q4 q5 q6 q7 q8 q9 q10 q11 => ?_) h0
        exact h1 z3 _ _ _ _ _ c' q1 q2 q3 q4 q5 (by omega) q7 (by omega) q9 (fun k hk => (q10 k (by omega)).trans (k10 k hk)) (fun k hk => (q11 k hk).trans (uk k hk))
      refine jn_s ?_
      by_cases c18 : r = 18
      · have c18' : T i = 18 := eq_z (y := 18) hr rfl c18
        have n22 : ¬ r = 22 := z_ne (y := 22) hr rfl (by omega)
        exact br1 c18 (two (Or.inl (a3.mpr c18')) (fun p => un5_i (jn_s (br0 n22 (un5_i p)))) 19 (by rw [if_pos (a3.mpr c18')]; rfl))
      · have c18' : ¬ T i = 18 := ne_z (y := 18) hr rfl c18
        refine br0 c18 (un5_i (jn_s ?_))
        by_cases c22 : r = 22
        · have c22' : T i = 22 := eq_z (y := 22) hr rfl c22
          exact br1 c22 (two (Or.inr (a4.mpr c22')) (fun p => un5_i p) 23 (by rw [if_neg (fun q => c18' (a3.mp q))]; rfl))
        · have c22' : ¬ T i = 22 := ne_z (y := 22) hr rfl c22
          exact br0 c22 (un5_i (one (fun q => q.elim (fun q => c18' (a3.mp q)) (fun q => c22' (a4.mp q)))))
    · rw [eS1] at z k1
      rw [if_neg z] at eR
      rw [eR] at h0
      exact h0 (by show ¬ false = true; decide) _ _ _ _ _ k1
  · by_cases c18 : r = 18
    · exact br1 c18 (hk () (Or.inl (eq_z (y := 18) hr rfl c18)))
    · refine br0 c18 ?_
      by_cases c20 : r = 20
      · exact br1 c20 (hk () (Or.inr (Or.inl (eq_z (y := 20) hr rfl c20))))
      · refine br0 c20 ?_
        by_cases c21 : r = 21
        · exact br1 c21 (hk () (Or.inr (Or.inr (Or.inl (eq_z (y := 21) hr rfl c21)))))
        · refine br0 c21 ?_
          by_cases c22 : r = 22
          · exact br1 c22 (hk () (Or.inr (Or.inr (Or.inr (eq_z (y := 22) hr rfl c22)))))
          · refine br0 c22 (un5_i (br1 rfl ?_))
            have eR : rd_order T i l = rd_noc i l := by
              unfold rd_order
              rw [if_pos (rd_act_n (fun q => by rcases q with q | q | q | q; exact c18 (z_eq (y := 18) hr rfl q); exact c20 (z_eq (y := 20) hr rfl q); exact c21 (z_eq (y := 21) hr rfl q); exact c22 (z_eq (y := 22) hr rfl q)))]
            rw [eR] at h0
            exact h0 (by show ¬ false = true; decide) _ _ _ _ _ hi
