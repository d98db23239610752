set_option maxHeartbeats 4000000 in
set_option maxRecDepth 100000 in
theorem s_X11_lawX {cs : Nat → ClassId} {lc len tc now parts ao fp : Int32} {bts tk pl : Nat → Int32} {dc dl : Int32} {dh dcd : Nat → Int32} {laws : Nat → Option Nat} {rfs : Nat → Int32} {xe : XE} (h1 : 0 ≤ lc.toInt ∧ lc.toInt ≤ 6) (h2 : 0 ≤ len.toInt ∧ len.toInt ≤ 400) (h3 : BY bts) (h4 : 0 ≤ tc.toInt ∧ tc.toInt ≤ 401) (h5 : 0 ≤ ao.toInt ∧ ao.toInt ≤ 1) (h6 : 0 ≤ dc.toInt ∧ dc.toInt ≤ 12) (h7 : 0 ≤ dl.toInt ∧ dl.toInt ≤ 400) (h8 : HD dh) (h9 : CD dcd) (hx : isRf xe.2.2) {Q : Int32 → (Int32 × Int32 × Int32 × Int32 × Int32 × Int32 × Int32 × Int32 × (Nat → Int32) × (Nat → Int32) × Int32 × Int32 × (Nat → Int32) × (Nat → Int32) × (Nat → Option Nat) × (Nat → Int32) × va_W) → Prop}
    (hq : ∀ (r st lc' len' tc' now' parts' ao' fp' : Int32) (tk' pl' : Nat → Int32) (dc' dl' : Int32) (dh' dcd' : Nat → Int32) (laws' : Nat → Option Nat) (rfs' : Nat → Int32) (nw : va_W), len' = 0 ∧ (0 ≤ tc'.toInt ∧ tc'.toInt ≤ 401) ∧ (0 ≤ ao'.toInt ∧ ao'.toInt ≤ 1) ∧ (0 ≤ dc'.toInt ∧ dc'.toInt ≤ 12) ∧ (0 ≤ dl'.toInt ∧ dl'.toInt ≤ 400) ∧ HD dh' ∧ CD dcd' ∧ ((nw = [] ∧ lc' = lc ∧ laws' = laws) ∨ ∃ x : TX, okT x ∧ nw = txc cs x ∧ lc.toInt < 6 ∧ lc' = lc + 1 ∧ laws' = va_up laws lc.toNatClampNeg (some x.1)) → Q r (st, lc', len', tc', now', parts', ao', fp', tk', pl', dc', dl', dh', dcd', laws', rfs', nw)) : wp_X11_law cs lc len tc now parts ao fp bts tk pl dc dl dh dcd laws rfs xe Q := by
  unfold wp_X11_law
  by_cases c : lc < 6
  · refine br1 c ?_
    have c1 := lt_z (a := lc) (b := 6) (x := lc.toInt) (y := 6) rfl rfl c
    refine s_X5_readx 0 len fp bts tk pl dh dcd xe (by decide) h2 h3 h8 h9 hx (fun r u0 u1 u2 u3 u4 u5 u6 u7 u8 u9 u10 u11 H => ?_)
    obtain ⟨k0, k1, k2, k3, k4, k5, k6, k7, k8⟩ := H
    have l0 : u0 = 0 := z_eq (a := u0) (b := 0) (x := u0.toInt) (y := 0) rfl rfl k8
    refine un12_i ?_
    by_cases c2 : r = 0
    · refine br1 c2 ?_
      refine s_setF (by decide) (fun st rf => ?_)
      refine un2_i ?_
      exact hq _ _ _ _ _ _ _ _ _ _ _ _ _ _ _ _ _ _ ⟨l0, k2, k3, k4, k5, k6, k7, Or.inl ⟨rfl, rfl, rfl⟩⟩
    · refine br0 c2 ?_
      unfold wp_X8_trimmed wp_X8_init
      intro q1
      obtain ⟨mc, hmc, emc⟩ := mx0 k4.1
      obtain ⟨ml, hml, eml⟩ := mx0 k5.1
      rw [hmc, hml]
      have e5 : (5 * mc).toInt = 5 * u8.toInt := mul_z (a := 5) (b := mc) rfl emc (by omega) (by omega)
      have n5 := tnz (i := 5 * mc) e5 (by omega)
      have nl := tnz (i := ml) eml (by omega)
      have p5 : ¬ 5 * mc < 0 := z_nlt (a := 5 * mc) (b := 0) (y := 0) e5 rfl (by omega)
      have pl' : ¬ ml < 0 := z_nlt (a := ml) (b := 0) (y := 0) eml rfl (by omega)
      refine ⟨⟨p5, by omega⟩, fun q2 => ⟨⟨pl', by omega⟩, fun q3 => ?_⟩⟩
      refine un2_i ?_
      generalize (5 * mc).toNatClampNeg = N5 at n5 ⊢
      generalize ml.toNatClampNeg = NL at nl ⊢
      have o5 := ofN (n := N5) (by omega)
      have ol := ofN (n := NL) (by omega)
      have s5 : ¬ Int32.ofNat N5 < 0 := z_nlt (a := Int32.ofNat N5) (b := 0) (y := 0) (of_z (by omega)) rfl (by omega)
      have sl : ¬ Int32.ofNat NL < 0 := z_nlt (a := Int32.ofNat NL) (b := 0) (y := 0) (of_z (by omega)) rfl (by omega)
      refine ⟨s5, by omega, by omega, sl, by omega, by omega, ?_⟩
      refine un3_i ?_
      refine ⟨vpi (i := lc) (x := lc.toInt) rfl h1.1 (by omega), ?_⟩
      have a1 : (lc + 1).toInt = lc.toInt + 1 := add_z (a := lc) (b := 1) rfl rfl (by omega) (by omega)
      have a2 : (lc + 1 - 1).toInt = lc.toInt + 1 - 1 := sub_z (a := lc + 1) (b := 1) a1 rfl (by omega) (by omega)
      refine s_setF (by omega) (fun st rf => ?_)
      refine un2_i ?_
      exact hq _ _ _ _ _ _ _ _ _ _ _ _ _ _ _ _ _ _ ⟨l0, k2, k3, k4, k5, k6, k7, Or.inr ⟨(q1, q2, q3, u8, u9, N5, va_cpy u10 (fun _ => 0) 0 0 (Int32.ofNat N5).toNatClampNeg, NL, va_cpy u11 (fun _ => 0) 0 0 (Int32.ofNat NL).toNatClampNeg), ⟨k4, k5, by show u9.toInt ≤ (NL : Int); omega, by show N5 < 100000; omega, k7.z _⟩, rfl, c1, rfl, rfl⟩⟩
  · refine br0 c ?_
    refine s_setF (by decide) (fun st rf => ?_)
    refine un2_i ?_
    exact hq _ _ _ _ _ _ _ _ _ _ _ _ _ _ _ _ _ _ ⟨rfl, h4, h5, h6, h7, h8, h9, Or.inl ⟨rfl, rfl, rfl⟩⟩
