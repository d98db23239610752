/-! law() of the class -/
theorem s_setF {a : Int32} {rfs : Nat → Int32} (h : -7 < a.toInt) {Q : Int32 → (Int32 × (Nat → Int32)) → Prop} (hq : ∀ (st : Int32) (rfs' : Nat → Int32), Q a (st, rfs')) : wp_X11_settle a rfs Q := by
  unfold wp_X11_settle
  refine jn_s ?_
  by_cases c : 0 ≤ a
  · refine br1 c ?_
    exact br1 c (hq _ _)
  · refine br0 c ?_
    refine br0 c ?_
    have c1 := nle_z (a := 0) (b := a) (x := 0) (y := a.toInt) rfl rfl c
    have e1 : (-a).toInt = - a.toInt := neg_z rfl (by omega) (by omega)
    refine br0 (z_nle (a := 7) (b := -a) (x := 7) (y := (-a).toInt) rfl rfl (by omega)) ?_
    have hv : vp_in (-a) 7 := vpi (i := -a) (x := (-a).toInt) rfl (by omega) (by omega)
    exact ⟨hv, hv, hq _ _⟩
theorem mx0 {u : Int32} (h : 0 ≤ u.toInt) : ∃ z : Int32, (if 0 < u then u else 0) = z ∧ z.toInt = u.toInt := by
  by_cases c : 0 < u
  · exact ⟨u, if_pos c, rfl⟩
  · have c1 := nlt_z (a := 0) (b := u) (x := 0) (y := u.toInt) rfl rfl c
    exact ⟨0, if_neg c, by have : Int32.toInt 0 = 0 := rfl; omega⟩
theorem ofN {n : Nat} (h : n < 100000) : (Int32.ofNat n).toNatClampNeg = n := by
  have e := tnz (i := Int32.ofNat n) (x := (n : Int)) (of_z h) (by omega)
  omega
theorem CD.z {f : Nat → Int32} (h : CD f) (n : Nat) : CD (va_cpy f (fun _ => 0) 0 0 n) := by
  intro j
  by_cases c : j < n
  · rw [sb_cpy0 c]; exact h j
  · have e : va_cpy f (fun _ => 0) 0 0 n j = 0 := by unfold va_cpy; exact if_neg (by omega)
    rw [e]
    intro q hq _ _
    simp only [CDT, List.mem_cons, List.not_mem_nil, or_false] at hq
    subst hq
    decide
set_option maxHeartbeats 4000000 in
set_option maxRecDepth 100000 in
theorem s_X11_lawF {cs : Nat → ClassId} {lc len tc now parts ao fp : Int32} {bts tk pl : Nat → Int32} {dc dl : Int32} {dh dcd : Nat → Int32} {laws : Nat → Option Nat} {rfs : Nat → Int32} {xe : XE} (h1 : 0 ≤ lc.toInt ∧ lc.toInt ≤ 6) (h2 : 0 ≤ len.toInt ∧ len.toInt ≤ 400) (h3 : BY bts) (h4 : 0 ≤ tc.toInt ∧ tc.toInt ≤ 401) (h5 : 0 ≤ ao.toInt ∧ ao.toInt ≤ 1) (h6 : 0 ≤ dc.toInt ∧ dc.toInt ≤ 12) (h7 : 0 ≤ dl.toInt ∧ dl.toInt ≤ 400) (h8 : HD dh) (h9 : CD dcd) (hx : isRf xe.2.2) {Q : Int32 → (Int32 × Int32 × Int32 × Int32 × Int32 × Int32 × Int32 × Int32 × (Nat → Int32) × (Nat → Int32) × Int32 × Int32 × (Nat → Int32) × (Nat → Int32) × (Nat → Option Nat) × (Nat → Int32) × va_W) → Prop}
    (hq : ∀ (r st lc' len' tc' now' parts' ao' fp' : Int32) (tk' pl' : Nat → Int32) (dc' dl' : Int32) (dh' dcd' : Nat → Int32) (laws' : Nat → Option Nat) (rfs' : Nat → Int32) (nw : va_W), (0 ≤ len'.toInt ∧ len'.toInt ≤ 400) ∧ (0 ≤ tc'.toInt ∧ tc'.toInt ≤ 401) ∧ (0 ≤ ao'.toInt ∧ ao'.toInt ≤ 1) ∧ (0 ≤ dc'.toInt ∧ dc'.toInt ≤ 12) ∧ (0 ≤ dl'.toInt ∧ dl'.toInt ≤ 400) ∧ HD dh' ∧ CD dcd' ∧ ((nw = [] ∧ lc' = lc ∧ laws' = laws) ∨ ∃ x : TX, okT x ∧ nw = txc cs x ∧ lc.toInt < 6 ∧ lc' = lc + 1 ∧ laws' = va_up laws lc.toNatClampNeg (some x.1)) → Q r (st, lc', len', tc', now', parts', ao', fp', tk', pl', dc', dl', dh', dcd', laws', rfs', nw)) : wp_X11_law cs lc len tc now parts ao fp bts tk pl dc dl dh dcd laws rfs xe Q := by
  unfold wp_X11_law
  by_cases c : lc < 6
  · refine br1 c ?_
    have c1 := lt_z (a := lc) (b := 6) (x := lc.toInt) (y := 6) rfl rfl c
    refine s_X5_read 0 len fp bts tk pl dh dcd xe (by decide) h2 h3 h8 h9 hx (fun r u0 u1 u2 u3 u4 u5 u6 u7 u8 u9 u10 u11 H => ?_)
    obtain ⟨k0, k1, k2, k3, k4, k5, k6, k7⟩ := H
    refine un12_i ?_
    by_cases c2 : r = 0
    · refine br1 c2 ?_
      refine s_setF (by decide) (fun st rf => ?_)
      refine un2_i ?_
      exact hq _ _ _ _ _ _ _ _ _ _ _ _ _ _ _ _ _ _ ⟨k1, k2, k3, k4, k5, k6, k7, Or.inl ⟨rfl, rfl, rfl⟩⟩
    · refine br0 c2 ?_
      unfold wp_X8_trimmed wp_X8_init
      intro q1
      obtain ⟨mc, hmc, emc⟩ := mx0 k4.1
      obtain ⟨ml, hml, eml⟩ := mx0 k5.1
      rw [hmc, hml]
      have e5 : (5 * mc).toInt = 5 * u8.toInt := mul_z (a := 5) (b := mc) rfl emc (by omega) (by omega)
      have n5 := tnz (i := 5 * mc) e5 (by omega)
      have nl := tnz (i := ml) eml (by omega)
      have p5 : ¬ 5 * mc < 0 := z_nlt (a := 5 * mc) (b := 0) (y := 0) e5 rfl (by omega)
      have pl' : ¬ ml < 0 := z_nlt (a := ml) (b := 0) (y := 0) eml rfl (by omega)
      refine ⟨⟨p5, by omega⟩, fun q2 => ⟨⟨pl', by omega⟩, fun q3 => ?_⟩⟩
      refine un2_i ?_
      generalize (5 * mc).toNatClampNeg = N5 at n5 ⊢
      generalize ml.toNatClampNeg = NL at nl ⊢
      have o5 := ofN (n := N5) (by omega)
      have ol := ofN (n := NL) (by omega)
      have s5 : ¬ Int32.ofNat N5 < 0 := z_nlt (a := Int32.ofNat N5) (b := 0) (y := 0) (of_z (by omega)) rfl (by omega)
      have sl : ¬ Int32.ofNat NL < 0 := z_nlt (a := Int32.ofNat NL) (b := 0) (y := 0) (of_z (by omega)) rfl (by omega)
      refine ⟨s5, by omega, by omega, sl, by omega, by omega, ?_⟩
      refine un3_i ?_
      refine ⟨vpi (i := lc) (x := lc.toInt) rfl h1.1 (by omega), ?_⟩
      have a1 : (lc + 1).toInt = lc.toInt + 1 := add_z (a := lc) (b := 1) rfl rfl (by omega) (by omega)
      have a2 : (lc + 1 - 1).toInt = lc.toInt + 1 - 1 := sub_z (a := lc + 1) (b := 1) a1 rfl (by omega) (by omega)
      refine s_setF (by omega) (fun st rf => ?_)
      refine un2_i ?_
      exact hq _ _ _ _ _ _ _ _ _ _ _ _ _ _ _ _ _ _ ⟨k1, k2, k3, k4, k5, k6, k7, Or.inr ⟨(q1, q2, q3, u8, u9, N5, va_cpy u10 (fun _ => 0) 0 0 (Int32.ofNat N5).toNatClampNeg, NL, va_cpy u11 (fun _ => 0) 0 0 (Int32.ofNat NL).toNatClampNeg), ⟨k4, k5, by show u9.toInt ≤ (NL : Int); omega, by show N5 < 100000; omega, k7.z _⟩, rfl, c1, rfl, rfl⟩⟩
  · refine br0 c ?_
    refine s_setF (by decide) (fun st rf => ?_)
    refine un2_i ?_
    exact hq _ _ _ _ _ _ _ _ _ _ _ _ _ _ _ _ _ _ ⟨by decide, h4, h5, h6, h7, h8, h9, Or.inl ⟨rfl, rfl, rfl⟩⟩
theorem LWI.push {txs : List TX} {x : TX} {f : Nat → Option Nat} {lc fo : Int32} (h : LWI txs f lc fo) (h0 : 0 ≤ lc.toInt) (h6 : lc.toInt < 6) : LWI (x :: txs) (va_up f lc.toNatClampNeg (some x.1)) (lc + 1) fo := by
  have e : (lc + 1).toInt = lc.toInt + 1 := add_z (a := lc) (b := 1) rfl rfl (by omega) (by omega)
  have n := tnz (i := lc) (x := lc.toInt) rfl h0
  obtain ⟨g1, g2, g3, g4, g5⟩ := h
  refine ⟨fun k hk v hv => ?_, fun k hk => ?_, by omega, by omega, g5⟩
  · by_cases c : k = lc.toNatClampNeg
    · rw [c, vu_s] at hv
      exact ⟨x, List.mem_cons_self, Option.some.inj hv⟩
    · rw [vu_n c] at hv
      obtain ⟨y, hy, ey⟩ := g1 k hk v hv
      exact ⟨y, List.mem_cons_of_mem _ hy, ey⟩
  · by_cases c : k = lc.toNatClampNeg
    · exact ⟨x.1, by rw [c, vu_s]⟩
    · rw [vu_n c]
      exact g2 k (by omega)
theorem asc4 (a b c d : va_W) : (a ++ (b ++ c)) ++ d = (a ++ b) ++ (c ++ d) := by simp only [List.append_assoc]
