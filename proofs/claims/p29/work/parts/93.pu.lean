/-! the reference's reader: behind a sum, behind a test, whole expressions -/
theorem s_isSign {a : Int32} {sort : Int32} {worth : Int64} {Q : Int32 → Prop} (h : ∀ r : Int32, (r = 0 ∨ (r = 1 ∧ sort = 3)) → Q r) : wp_X12_isSign a sort worth Q := e_isSign (fun s1 _ => h 1 (Or.inr ⟨rfl, s1⟩)) (h 0 (Or.inl rfl))
theorem s_isWord {a : Int64} {sort : Int32} {worth : Int64} {Q : Int32 → Prop} (h : ∀ r : Int32, (r = 0 ∨ (r = 1 ∧ sort = 1)) → Q r) : wp_X12_isWord a sort worth Q := e_isWord (fun s1 _ => h 1 (Or.inr ⟨rfl, s1⟩)) (h 0 (Or.inl rfl))
theorem nz_r {r sort v : Int32} (h : r = 0 ∨ (r = 1 ∧ sort = v)) (hv : ¬ v = 0) : ¬ r = 0 → ¬ sort = 0 := fun q => by
  rcases h with h | h
  · exact (q h).elim
  · exact nz_of h.2 hv
/-- no square bracket at all, where the inmost is none -/
theorem noSq {p : Nat} {pile : Nat → Int32} (hr : ∀ k, k < p → 20 ≤ (pile k).toInt ∧ (pile k).toInt ≤ 32) (hw : PW p pile) {v : Int32} (hv : (v = -1 ∧ ∀ k, k < p → (pile k).toInt ≤ 30) ∨ ∃ k, k < p ∧ v = pile k ∧ 31 ≤ (pile k).toInt ∧ ∀ j, k < j → j < p → (pile j).toInt ≤ 30) (hn : ¬ v = 32) : ∀ k, k < p → (pile k).toInt ≠ 32 := by
  intro j hj e
  rcases hv with ⟨_, h⟩ | ⟨k, k1, k2, k3, k4⟩
  · have := h j hj; omega
  · have k5 : ¬ (pile k).toInt = 32 := fun q => hn (by rw [k2]; exact z_eq (y := 32) rfl rfl q)
    by_cases c : j < k
    · have := hw j k c k1 e; omega
    · by_cases d : j = k
      · subst d; exact k5 e
      · have := k4 j (by omega) hj; omega
def RB (s : Nat) (o0 a0 : Nat → Int32) (taped fr : Int32) (r fr' to' sort' bad' nCode' piled' : Int32) (pile' pat' op' ar' : Nat → Int32) : Prop :=
  (r = 1 ∧ RS 0 s o0 a0 taped fr' to' sort' bad' nCode' piled' pile' pat' op' ar' ∧ (bad' = 0 → fr.toInt < fr'.toInt)) ∨ (r = 3 ∧ RS 1 s o0 a0 taped fr' to' sort' bad' nCode' piled' pile' pat' op' ar' ∧ (bad' = 0 → fr.toInt < fr'.toInt)) ∨ (r = 4 ∧ RS 1 s o0 a0 taped fr' to' sort' bad' nCode' piled' pile' pat' op' ar' ∧ NB piled' pile' ∧ fr = fr') ∨ (r = 2 ∧ RS 1 s o0 a0 taped fr' to' sort' bad' nCode' piled' pile' pat' op' ar' ∧ NS piled' pile' ∧ fr = fr')
theorem s_behindSum {s : Nat} {a taped fr to sort : Int32} {worth : Int64} {fault bad nCode piled opened : Int32} {o0 a0 tape pile pat op ar : Nat → Int32} (h : RS 1 s o0 a0 taped fr to sort bad nCode piled pile pat op ar) (hb : bad = 0) {Q : Int32 → (Int32 × Int32 × Int32 × Int64 × Int32 × Int32 × Int32 × Int32 × Int32 × (Nat → Int32) × (Nat → Int32) × (Nat → Int32) × (Nat → Int32)) → Prop} (hq : ∀ (r fr' to' sort' : Int32) (worth' : Int64) (fault' bad' nCode' piled' opened' : Int32) (pile' op' ar' pat' : Nat → Int32), RB s o0 a0 taped fr r fr' to' sort' bad' nCode' piled' pile' pat' op' ar' → Q r (fr', to', sort', worth', fault', bad', nCode', piled', opened', pile', op', ar', pat')) : wp_X12_behindSum a taped fr to sort worth fault bad nCode piled opened pile tape op ar pat Q := by
  unfold wp_X12_behindSum
  obtain ⟨n, p, f, h1, h2, h3, h4, h5, h6⟩ := id h
  obtain ⟨a1, a2, a3, a4, a5⟩ := h4.1
  have aw := h4.2.1
  obtain ⟨t1, t2, t3, t4, t5, t6, t7⟩ := id h5
  refine s_isSign (fun r hr => ?_)
  refine jn1_i (fun y : Int32 => y = -1 ∨ (20 ≤ y.toInt ∧ y.toInt ≤ 24 ∧ sort = 3)) (fun y hy => ?_) (fun z hz => ?_)
  · by_cases c : y = -1
    · refine br1 c ?_
      refine s_inner h2 (by omega) (fun v hv => ?_)
      by_cases c2 : v = 32
      · refine br1 c2 (s_isSign (fun r2 hr2 => ?_))
        refine s_must h5 (nz_r hr2 (by decide)) h6 (fun fr' to' sort' w' fault' bad' g1 g2 g3 g4 => un6_i ?_)
        by_cases c3 : bad' = 0
        · refine br1 c3 ?_
          obtain ⟨g5, -, g6⟩ := g4 c3
          refine s_settle (by omega) (by decide) h1 h2 (h4.imp (g' := bad' = 0) (fun _ => g5)) (fun n' p' c' q' op' ar' k1 k2 k3 k4 k5 k6 => un4_i ?_)
          rcases hv with ⟨hv, _⟩ | ⟨k, j1, j2, j3, j4⟩
          · rw [hv] at c2; exact absurd c2 (by decide)
          · have jk : (pile k).toInt = 32 := by rw [← j2, c2]; rfl
            have kp : k < p' := by
              refine Nat.lt_of_not_le (fun q => ?_)
              have := k5 k q j1
              have := bnd_v (pile k)
              have e5 : (5 : Int32).toInt = 5 := rfl
              omega
            rcases k6 with k6 | ⟨k2', k6, k7⟩
            · omega
            · have e5 : (5 : Int32).toInt = 5 := rfl
              have b2 := bnd_v (pile k2')
              have ek : k2' = k := by
                refine Classical.byContradiction (fun q => ?_)
                have := aw k k2' (by omega) (by omega) jk
                have := j4 k2' (by omega) (by omega)
                omega
              subst ek
              subst k6
              refine hq _ _ _ _ _ _ _ _ _ _ _ _ _ _ (Or.inr (Or.inl ⟨rfl, ⟨n', k2', fr'.toInt.toNat, k1, sub1 k2, by have := g1.1; omega, (k3.close (by omega)).more (by omega), g1, g3⟩, fun _ => g6⟩))
        · refine br0 c3 (hq _ _ _ _ _ _ _ _ _ _ _ _ _ _ (Or.inr (Or.inl ⟨rfl, h.must g1 g2 g3 (fun q => (c3 q).elim), fun q => (c3 q).elim⟩)))
      · refine br0 c2 ?_
        have ns := noSq a4 aw hv c2
        have NS' : NS piled pile := fun k hk => ns k (by omega)
        refine jn1_i (fun _ => True) (fun _ _ => ?_) (fun z hz => ?_)
        · refine s_isCompared (by omega) (by omega) (fun r3 => ?_)
          by_cases c4 : r3 = 0
          · refine br1 c4 (s_isSign (fun r4 hr4 => ?_))
            refine jn1_i (fun y2 : Int32 => y2 = 27 ∨ (25 ≤ y2.toInt ∧ y2.toInt ≤ 26 ∧ sort = 3)) (fun y2 hy2 => ?_) (fun z2 hz2 => ?_)
            · refine jn1_i (fun y3 : Int32 => ¬ y3 = 0 → ¬ sort = 0) (fun y3 hy3 => ?_) (fun z3 hz3 => ?_)
              · refine s_must h5 hy3 h6 (fun fr' to' sort' w' fault' bad' g1 g2 g3 g4 => un6_i ?_)
                by_cases c5 : bad' = 0
                · refine br1 c5 ?_
                  obtain ⟨g5, g7, g6⟩ := g4 c5
                  have t8 := t7 (hy3 g7)
                  refine s_settle (by omega) (by decide) h1 h2 (h4.imp (g' := bad' = 0) (fun _ => g5)) (fun n' p' c' q' op' ar' k1 k2 k3 k4 k5 k6 => un4_i ?_)
                  have x3 := k3.1.2.2.1
                  have y25 : 25 ≤ y2.toInt ∧ y2.toInt ≤ 27 := by
                    rcases hy2 with e | e
                    · rw [e]; decide
                    · omega
                  unfold wp_X12_push
                  refine ⟨vpi k2 (by omega) (by omega), vpi k2 (by omega) (by omega), un3_i (hq _ _ _ _ _ _ _ _ _ _ _ _ _ _ (Or.inl ⟨rfl, ⟨n', p' + 1, fr'.toInt.toNat, k1, add1 k2 (by omega), by have := g1.1; omega, ?_, g1, g3⟩, fun _ => g6⟩))⟩
                  rw [tnN k2]
                  exact k3.push (t' := 0) 0 (by omega) (by omega) (by unfold isJ; omega) (by rw [if_pos (by omega)]) (Or.inr (Or.inr (fun k hk => ns k (by omega)))) (by omega)
                · exact br0 c5 (hq _ _ _ _ _ _ _ _ _ _ _ _ _ _ (Or.inl ⟨rfl, (h.must g1 g2 g3 (fun q => (c5 q).elim)).bad c5, fun q => (c5 q).elim⟩))
              · by_cases c5 : y2 = 27
                · refine br1 c5 (s_isSign (fun r5 hr5 => ?_))
                  by_cases c6 : r5 = 0
                  · exact br1 c6 (hz3 0 (fun q => absurd rfl q))
                  · exact br0 c6 (hz3 1 (fun _ => nz_r hr5 (by decide) c6))
                · refine br0 c5 (hz3 1 (fun _ => ?_))
                  rcases hy2 with e | e
                  · exact (c5 e).elim
                  · exact nz_of e.2.2 (by decide)
            · by_cases c5 : r4 = 0
              · refine br1 c5 (e_isSign (fun s1 _ => br0 (by decide) (hz2 26 (Or.inr ⟨by decide, by decide, s1⟩))) (br1 rfl (hz2 27 (Or.inl rfl))))
              · refine br0 c5 (hz2 25 (Or.inr ⟨by decide, by decide, ?_⟩))
                rcases hr4 with e | e
                · exact (c5 e).elim
                · exact e.2
          · exact br0 c4 (hq _ _ _ _ _ _ _ _ _ _ _ _ _ _ (Or.inr (Or.inr (Or.inr ⟨rfl, h, NS', rfl⟩))))
        · by_cases c4 : v = -1
          · refine br1 c4 ?_
            by_cases c5 : a = 0
            · refine br1 c5 (hq _ _ _ _ _ _ _ _ _ _ _ _ _ _ (Or.inr (Or.inr (Or.inl ⟨rfl, h, fun k hk => ?_, rfl⟩))))
              rcases hv with ⟨_, e⟩ | ⟨k', _, e2, e3, _⟩
              · exact e k (by omega)
              · rw [← e2, c4] at e3; exact absurd e3 (by decide)
            · exact br0 c5 (hz _ trivial)
          · exact br0 c4 (hz _ trivial)
    · refine br0 c ?_
      obtain ⟨y1, y2, y3⟩ : 20 ≤ y.toInt ∧ y.toInt ≤ 24 ∧ sort = 3 := by
        rcases hy with e | e
        · exact (c e).elim
        · exact e
      have sz := nz_of y3 (by decide)
      have t8 := t7 sz
      refine e_binds ?_
      refine s_settle (by omega) (by have := bnd_v y; omega) h1 h2 h4 (fun n' p' c' q' op' ar' k1 k2 k3 k4 k5 k6 => un4_i ?_)
      have x3 := k3.1.2.2.1
      unfold wp_X12_push
      refine ⟨vpi k2 (by omega) (by omega), vpi k2 (by omega) (by omega), un3_i (h5.next sz (fun fr' to' sort' w' g1 g2 => un4_i (hq _ _ _ _ _ _ _ _ _ _ _ _ _ _ (Or.inl ⟨rfl, ⟨n', p' + 1, fr'.toInt.toNat, k1, add1 k2 (by omega), by have := g2.1; omega, ?_, g2, h6⟩, fun _ => g1⟩))))⟩
      rw [tnN k2]
      exact k3.push (t' := 0) 0 (by omega) (by omega) (by unfold isJ; omega) (by rw [if_pos (by omega)]) (Or.inl (by omega)) (by omega)
  · have sg : ¬ r = 0 → sort = 3 := fun q => by
      rcases hr with e | e
      · exact (q e).elim
      · exact e.2
    by_cases c : r = 0
    · refine br1 c (e_isSign (fun s1 _ => br0 (by decide) (hz 21 (Or.inr ⟨by decide, by decide, s1⟩))) (br1 rfl ?_))
      refine e_isSign (fun s1 _ => br0 (by decide) (hz 22 (Or.inr ⟨by decide, by decide, s1⟩))) (br1 rfl ?_)
      refine e_isSign (fun s1 _ => br0 (by decide) (hz 23 (Or.inr ⟨by decide, by decide, s1⟩))) (br1 rfl ?_)
      exact e_isSign (fun s1 _ => br0 (by decide) (hz 24 (Or.inr ⟨by decide, by decide, s1⟩))) (br1 rfl (hz (-1) (Or.inl rfl)))
    · exact br0 c (hz 20 (Or.inr ⟨by decide, by decide, sg c⟩))
def RC (s : Nat) (o0 a0 : Nat → Int32) (taped fr : Int32) (r fr' to' sort' bad' nCode' piled' : Int32) (pile' pat' op' ar' : Nat → Int32) : Prop :=
  (r = 0 ∧ RS 0 s o0 a0 taped fr' to' sort' bad' nCode' piled' pile' pat' op' ar' ∧ (bad' = 0 → NS piled' pile') ∧ (bad' = 0 → fr.toInt < fr'.toInt)) ∨ (r = 4 ∧ RS 1 s o0 a0 taped fr' to' sort' bad' nCode' piled' pile' pat' op' ar' ∧ NB piled' pile' ∧ fr = fr') ∨ (r = 2 ∧ RS 1 s o0 a0 taped fr' to' sort' bad' nCode' piled' pile' pat' op' ar' ∧ (bad' = 0 → NS piled' pile') ∧ (bad' = 0 → fr.toInt < fr'.toInt))
theorem s_behindTest {s : Nat} {taped fr to sort : Int32} {worth : Int64} {fault bad nCode piled opened : Int32} {o0 a0 tape pile pat op ar : Nat → Int32} (h : RS 1 s o0 a0 taped fr to sort bad nCode piled pile pat op ar) (hb : bad = 0) (hN : NS piled pile) {Q : Int32 → (Int32 × Int32 × Int32 × Int64 × Int32 × Int32 × Int32 × Int32 × Int32 × (Nat → Int32) × (Nat → Int32) × (Nat → Int32) × (Nat → Int32)) → Prop} (hq : ∀ (r fr' to' sort' : Int32) (worth' : Int64) (fault' bad' nCode' piled' opened' : Int32) (pile' op' ar' pat' : Nat → Int32), RC s o0 a0 taped fr r fr' to' sort' bad' nCode' piled' pile' pat' op' ar' → Q r (fr', to', sort', worth', fault', bad', nCode', piled', opened', pile', op', ar', pat')) : wp_X12_behindTest taped fr to sort worth fault bad nCode piled opened pile tape op ar pat Q := by
  unfold wp_X12_behindTest
  obtain ⟨n, p, f, h1, h2, h3, h4, h5, h6⟩ := id h
  obtain ⟨a1, a2, a3, a4, a5⟩ := h4.1
  obtain ⟨t1, t2, t3, t4, t5, t6, t7⟩ := id h5
  refine s_isWord (fun r hr => ?_)
  refine jn1_i (fun _ => sort = 1) (fun _ s1 => ?_) (fun z hz => ?_)
  · have sz := nz_of s1 (by decide)
    have t8 := t7 sz
    refine jn1_i (fun y : Int32 => 1 ≤ y.toInt) (fun y hy => ?_) (fun z hz => ?_)
    · refine s_settle (by omega) hy h1 h2 h4 (fun n' p' c' q' op' ar' k1 k2 k3 k4 k5 k6 => un4_i ?_)
      have x2 := k3.1.2.1
      have x3 := k3.1.2.2.1
      have F : ∀ v : Int32, isJ v → ∀ (fr' to' sort' : Int32) (w' : Int64), fr.toInt < fr'.toInt → Tk taped fr' to' sort' → Q 0 (fr', to', sort', w', fault, bad, c' + 1, q' + 1, opened, upd pile q'.toNatClampNeg v, upd op' c'.toNatClampNeg v, upd ar' c'.toNatClampNeg 0, upd pat q'.toNatClampNeg c') := fun v hv fr' to' sort' w' g1 g2 => by
        rw [tnN k1, tnN k2]
        refine hq _ _ _ _ _ _ _ _ _ _ _ _ _ _ (Or.inl ⟨rfl, ⟨n' + 1, p' + 1, fr'.toInt.toNat, add1 k1 (by omega), add1 k2 (by omega), by have := g2.1; omega, k3.join hv k1 (fun k hk => hN k (by omega)) (by omega), g2, h6⟩, fun _ k hk => ?_, fun _ => g1⟩)
        rw [add1 k2 (by omega)] at hk
        by_cases e2 : k = p'
        · rw [e2, pk_us]; unfold isJ at hv; omega
        · rw [pk_un e2]; exact hN k (by omega)
      refine jn1_i (fun y2 : Int32 => (r = 0 ∧ y2 = 30) ∨ (¬ r = 0 ∧ y2 = 29)) (fun y2 hy2 => ?_) (fun z2 hz2 => ?_)
      · unfold wp_X12_push
        refine ⟨vpi k2 (by omega) (by omega), vpi k2 (by omega) (by omega), un3_i ?_⟩
        unfold wp_X12_emit
        by_cases c : r = 0
        · have e : y2 = 30 := by
            rcases hy2 with e | e
            · exact e.2
            · exact (e.1 c).elim
          refine br1 c ⟨vpi k1 (by omega) (by omega), vpi k1 (by omega) (by omega), un3_i (h5.next sz (fun fr' to' sort' w' g1 g2 => un4_i ?_))⟩
          rw [e]
          exact F 30 ⟨by decide, by decide⟩ fr' to' sort' w' g1 g2
        · have e : y2 = 29 := by
            rcases hy2 with e | e
            · exact (c e.1).elim
            · exact e.2
          refine br0 c ⟨vpi k1 (by omega) (by omega), vpi k1 (by omega) (by omega), un3_i (h5.next sz (fun fr' to' sort' w' g1 g2 => un4_i ?_))⟩
          rw [e]
          exact F 29 ⟨by decide, by decide⟩ fr' to' sort' w' g1 g2
      · by_cases c : r = 0
        · exact br1 c (hz2 _ (Or.inl ⟨c, rfl⟩))
        · exact br0 c (hz2 _ (Or.inr ⟨c, rfl⟩))
    · by_cases c : r = 0
      · exact br1 c (hz _ (by decide))
      · exact br0 c (hz _ (by decide))
  · by_cases c : r = 0
    · refine br1 c (e_isWord (fun s1 _ => br0 (by decide) (hz _ s1)) (br1 rfl ?_))
      refine s_inner h2 (by omega) (fun v hv => ?_)
      by_cases c2 : v = -1
      · refine br1 c2 (hq _ _ _ _ _ _ _ _ _ _ _ _ _ _ (Or.inr (Or.inl ⟨rfl, h, fun k hk => ?_, rfl⟩)))
        rcases hv with ⟨_, e⟩ | ⟨k', _, e2, e3, _⟩
        · exact e k (by omega)
        · rw [← e2, c2] at e3; exact absurd e3 (by decide)
      · refine br0 c2 (s_isSign (fun r2 hr2 => ?_))
        refine s_must h5 (nz_r hr2 (by decide)) h6 (fun fr' to' sort' w' fault' bad' g1 g2 g3 g4 => un6_i ?_)
        by_cases c3 : bad' = 0
        · refine br1 c3 ?_
          obtain ⟨g5, -, g6⟩ := g4 c3
          refine s_settle (by omega) (by decide) h1 h2 (h4.imp (g' := bad' = 0) (fun _ => g5)) (fun n' p' c' q' op' ar' k1 k2 k3 k4 k5 k6 => un4_i ?_)
          rcases hv with ⟨hv, _⟩ | ⟨k, j1, j2, j3, j4⟩
          · exact (c2 hv).elim
          · have e1 : (1 : Int32).toInt = 1 := rfl
            have kp : k < p' := by
              refine Nat.lt_of_not_le (fun q => ?_)
              have := k5 k q j1
              have := bnd_v (pile k)
              omega
            rcases k6 with k6 | ⟨k2', k6, k7⟩
            · omega
            · have b2 := bnd_v (pile k2')
              subst k6
              refine hq _ _ _ _ _ _ _ _ _ _ _ _ _ _ (Or.inr (Or.inr ⟨rfl, ⟨n', k2', fr'.toInt.toNat, k1, sub1 k2, by have := g1.1; omega, (k3.close (by omega)).more (by omega), g1, g3⟩, fun _ k hk => hN k (by rw [sub1 k2] at hk; omega), fun _ => g6⟩))
        · refine br0 c3 (hq _ _ _ _ _ _ _ _ _ _ _ _ _ _ (Or.inr (Or.inr ⟨rfl, h.must g1 g2 g3 (fun q => (c3 q).elim), fun q => (c3 q).elim, fun q => (c3 q).elim⟩)))
    · refine br0 c (hz _ ?_)
      rcases hr with e | e
      · exact (c e).elim
      · exact e.2
