/-! SEASONS of the reference -/
theorem givesW_nn {F : Option (List Cls)} {w : Nat → Int} {row : Nat → Int32} {s c : Int} (hR : RMw row w) (hr : RLW row) (hc : 0 ≤ c ∧ c ≤ 39) : 0 ≤ givesW F w s c ∧ givesW F w s c ≤ 99 := by
  have hc2 : (Int32.ofInt c).toInt = c := Int32.toInt_ofInt_of_le (by omega) (by omega)
  have r7 := RLW.at_73 hr (n := 73 + c.toNat) rfl (by omega) (by omega)
  have e2 := hR (73 + c.toNat) (by omega)
  have e : (w32 w 73 (Int32.ofInt c).toNatClampNeg).toInt = w (73 + c.toNat) := by
    have q : (Int32.ofInt c).toNatClampNeg = c.toNat := by show (Int32.ofInt c).toInt.toNat = _; rw [hc2]
    rw [q]
    show (Int32.ofInt (w (73 + c.toNat))).toInt = _
    rw [o32 e2]; exact e2
  have g := givesF_b (F := F) (kd := w32 w 113) (hd := w32 w 153) (wt := w32 w 73) (t0 := Int32.ofInt (w 7)) (t2 := Int32.ofInt (w 9)) (s := Int32.ofInt s) (c := Int32.ofInt c) (by omega)
  exact ⟨g.1, g.2.1⟩
theorem haulR_1 {F : Option (List Cls)} {w : Nat → Int} {row : Nat → Int32} {s : Int} (hR : RMw row w) (hr : RLW row) (h0 : 0 ≤ s) (h1 : s < w 0) (h6 : w 0 ≤ 6) (h : w (113 + (w (10 + s.toNat)).toNat) = 3 ∧ w 7 < 9999) : 0 ≤ haulR F w s ∧ haulW F w s = haulO F w s := by
  have r7 := RLW.at_10 hr (n := 10 + s.toNat) rfl (by omega) (by omega)
  have e2 := hR (10 + s.toNat) (by omega)
  have g := givesW_nn (F := F) (s := s) hR hr (c := w (10 + s.toNat)) (by omega)
  have e : haulR F w s = givesW F w s (w (10 + s.toNat)) := by unfold haulR; rw [if_neg (by omega), if_neg (by omega)]
  exact ⟨by omega, if_neg (by omega)⟩
theorem haulR_0 {F : Option (List Cls)} {w : Nat → Int} {s : Int} (h : ¬ (w (113 + (w (10 + s.toNat)).toNat) = 3 ∧ w 7 < 9999)) : haulR F w s < 0 := by
  unfold haulR
  by_cases c : s < 0 ∨ w 0 ≤ s
  · rw [if_pos c]; decide
  · rw [if_neg c, if_pos (by omega)]; decide
abbrev digP (F : Option (List Cls)) (w : Nat → Int) (s y : Int) : Prop := 2 ≤ w (113 + (w (10 + s.toNat)).toNat) ∨ cbI (w (10 + s.toNat)) y < 0 ∨ w (33 + (cbI (w (10 + s.toNat)) y).toNat) = 1 ∨ pasI F w s (cbI (w (10 + s.toNat)) y) = 0 ∨ 9999 < w 7 + digsW F w s (cbI (w (10 + s.toNat)) y)
theorem digR_1 {F : Option (List Cls)} {w : Nat → Int} {s y : Int} (h0 : 0 ≤ s) (h1 : s < w 0) (hy : 0 ≤ y ∧ y ≤ 2) (h : ¬ digP F w s y) : 0 ≤ digR F w s y ∧ digW F w s y = digO F w s y ∧ 0 ≤ cbI (w (10 + s.toNat)) y := by
  have h2 : ¬ cbI (w (10 + s.toNat)) y < 0 := fun q => h (Or.inr (Or.inl q))
  have e : digR F w s y = cbI (w (10 + s.toNat)) y := by unfold digR; rw [if_neg (by omega), if_neg (by omega), if_neg h]
  exact ⟨by omega, if_neg (by omega), by omega⟩
theorem digR_0 {F : Option (List Cls)} {w : Nat → Int} {s y : Int} (h : digP F w s y) : digR F w s y < 0 := by
  unfold digR
  by_cases c0 : y < 0 ∨ 2 < y
  · rw [if_pos c0]; decide
  · by_cases c : s < 0 ∨ w 0 ≤ s
    · rw [if_neg c0, if_pos c]; decide
    · rw [if_neg c0, if_neg c, if_pos h]; decide
theorem x_draw {a : Int32} {st : Int64} {x : Int} {n : Int} (ha : a.toInt = n) (hn : 1 ≤ n ∧ n ≤ 100) (hs : st.toInt = x) (hx : 0 ≤ x ∧ x ≤ 1000002) {Q : Int32 → Int64 → Prop} (hq : ∀ (r : Int32) (s' : Int64), r.toInt = dwI x % n → s'.toInt = dwI x → Q r s') : wp_X12_draw a st Q := by
  unfold wp_X12_draw
  have b := dwI_b (x := x)
  have e1 : (st * 1103).toInt = x * 1103 := lmul_z hs (b := 1103) (y := 1103) rfl (by omega) (by omega)
  have e2 : (st * 1103 + 12345).toInt = x * 1103 + 12345 := ladd_z e1 (b := 12345) (y := 12345) rfl (by omega) (by omega)
  have e3 : ((st * 1103 + 12345) - (st * 1103 + 12345) / 1000003 * 1000003).toInt = dwI x := lrem_z e2 (b := 1000003) (y := 1000003) rfl (by omega) (by omega)
  have e4 : (a.toInt64).toInt = n := i2l_z ha
  have e5 := lrem_z e3 e4 (by omega) (by omega)
  have b5 := Int.emod_lt_of_pos (dwI x) (show 0 < n by omega)
  have b6 := Int.emod_nonneg (dwI x) (show n ≠ 0 by omega)
  exact ⟨z_neL e4 (by omega), hq _ _ (l2i_z e5 (by omega) (by omega)) e3⟩
/-- what was drawn, as the reference holds it -/
def RMn (dd nd : Int32) (dr : Nat → Int32) (D : Option (Nat → Int)) : Prop := match D with
  | none => nd.toInt = -1
  | some w => dd.toInt = w 7 ∧ nd.toInt = w 0 ∧ (0 ≤ w 0 ∧ w 0 ≤ 6) ∧ ∀ i : Nat, (i : Int) < w 0 → (dr (2 * i)).toInt = w (10 + i) ∧ (dr (2 * i + 1)).toInt = w (16 + i)
theorem x_se180 {row : Nat → Int32} {w : Nat → Int} (hR : RMw row w) (h6 : 0 ≤ w 0 ∧ w 0 ≤ 6) {Qb : Int32 → (Nat → Int32) → Prop} (K : ∀ (x : Int32) (dr : Nat → Int32), (∀ i : Nat, (i : Int) < w 0 → (dr (2 * i)).toInt = w (10 + i) ∧ (dr (2 * i + 1)).toInt = w (16 + i)) → Qb x dr) : ∀ (m k : Nat) (x : Int32) (dr : Nat → Int32), x.toInt = (k : Int) → (k : Int) ≤ w 0 → (w 0).toNat - k < m → (∀ i : Nat, i < k → (dr (2 * i)).toInt = w (10 + i) ∧ (dr (2 * i + 1)).toInt = w (16 + i)) → wl_X12_seasons_180 row Qb m x dr := by
  have e0 : (row (0 : Int32).toNatClampNeg).toInt = w 0 := hR 0 (by decide)
  intro m
  induction m with
  | zero => intro k x dr _ _ h; omega
  | succ m ih =>
    intro k x dr hx hk hm hd
    unfold wl_X12_seasons_180
    by_cases c : row (0 : Int32).toNatClampNeg ≤ x
    · have c' := le_z e0 hx c
      exact br1 c (K _ _ (fun i hi => hd i (by omega)))
    · have c' := nle_z e0 hx c
      have x1 : (10 + x).toInt = ((10 + k : Nat) : Int) := by rw [add_z (a := 10) (x := 10) rfl hx (by omega) (by omega)]; omega
      have x2 : (16 + x).toInt = ((16 + k : Nat) : Int) := by rw [add_z (a := 16) (x := 16) rfl hx (by omega) (by omega)]; omega
      have x3 : (2 * x).toInt = ((2 * k : Nat) : Int) := by rw [mul_z (a := 2) (x := 2) rfl hx (by omega) (by omega)]; omega
      have x4 := add1 x3 (by omega)
      refine br0 c ⟨vpi x1 (by omega) (by omega), vpi x3 (by omega) (by omega), vpi x2 (by omega) (by omega), vpi x4 (by omega) (by omega), ?_⟩
      rw [tnN x1, tnN x2, tnN x3, tnN x4]
      refine ih (k + 1) _ _ (add1 hx (by omega)) (by omega) (by omega) (fun i hi => ?_)
      by_cases e : i = k
      · rw [e, pk_un (by omega), pk_us, pk_us]; exact ⟨hR _ (by omega), hR _ (by omega)⟩
      · rw [pk_un (by omega), pk_un (by omega), pk_un (by omega), pk_un (by omega)]; exact hd i (by omega)
theorem haulW_frR {F : Option (List Cls)} {w : Nat → Int} {row : Nat → Int32} {s : Int} (hR : RMw row w) (hr : RLW row) : WFr (haulW F w s) w := haulW_fr (hR.gd hr)
theorem dayW_fr {w : Nat → Int} {z : Int} : WFr (uI w 7 z) w := fun j hj => uI_n (by omega)
set_option maxHeartbeats 2000000 in
theorem x_se68 {b : Int32} {N : Nat} (hb : b.toInt = (N : Int)) (hN : N ≤ 60) {nOp nArg : Nat → Int32} {now : Nat → Int64} {ls : Nat → List Cls} {x0 : Int} {w0 : Nat → Int} (h1 : 1 ≤ w0 0) {Qb : Int32 → Int32 → (Nat → Int64) → (Nat → Int64) → Int32 → Int32 → Int64 → Int64 → Int64 → (Nat → Int32) → Prop} (K : ∀ (x v : Int32) (set rest : Nat → Int64) (law br : Int32) (val sum st : Int64) (row : Nat → Int32), (0 ≤ v.toInt ∧ v.toInt ≤ 6000) → (0 ≤ br.toInt ∧ br.toInt ≤ 1) → RLW row → RMw row (seF ls N x0 w0) → RML row ls → WFr (seF ls N x0 w0) w0 → Qb x v set rest law br val sum st row) : ∀ (m i : Nat) (w : Nat → Int) (xx : Int) (x v : Int32) (set rest : Nat → Int64) (law br : Int32) (val sum st : Int64) (row : Nat → Int32), x.toInt = (i : Int) → i ≤ N → N - i < m → seF ls N x0 w0 = seF ls (N - i) xx w → st.toInt = xx → (0 ≤ xx ∧ xx ≤ 1000002) → (0 ≤ v.toInt ∧ v.toInt ≤ 99 * (i : Int)) → (0 ≤ br.toInt ∧ br.toInt ≤ 1) → RLW row → RMw row w → RML row ls → WFr w w0 → wl_X12_seasons_68 b 0 nOp nArg now Qb m x v set rest law br val sum st row := by
  intro m
  induction m with
  | zero => intro i w xx x v set rest law br val sum st row _ _ h; omega
  | succ m ih =>
    intro i w xx x v set rest law br val sum st row hx hi hm hT hst hxx hv hbr hr hR hl hfr
    unfold wl_X12_seasons_68
    by_cases c : b ≤ x
    · have c' := le_z hb hx c
      have e : seF ls N x0 w0 = w := by rw [hT, show N - i = 0 by omega]; rfl
      exact br1 c (K _ _ _ _ _ _ _ _ _ _ ⟨by omega, by omega⟩ hbr hr (by rw [e]; exact hR) hl (by rw [e]; exact hfr))
    · have c' := nle_z hb hx c
      have e0 : (row (0 : Int32).toNatClampNeg).toInt = w 0 := hR 0 (by decide)
      have r0 := RLW.at_0 hr (n := 0) rfl (by decide) (by decide)
      have r0' := hR 0 (by decide)
      have f0 := hfr 0 (by decide)
      have x1 := add1 hx (by omega)
      have d1 := dwI_b (x := xx)
      have d2 := dwI_b (x := dwI xx)
      refine br0 c (x_draw e0 ⟨by omega, by omega⟩ hst hxx (fun s st1 k1 k2 => x_draw (a := 3) (n := 3) rfl (by decide) k2 d1 (fun y st2 k3 k4 => ?_)))
      have b1 := Int.emod_lt_of_pos (dwI xx) (show 0 < w 0 by omega)
      have b2 := Int.emod_nonneg (dwI xx) (show w 0 ≠ 0 by omega)
      have SN : N - i = (N - (i + 1)) + 1 := by omega
      have E1 : s.toInt = dwI xx % w 0 := k1
      refine s_X12_canHaulz s row ⟨by omega, by omega⟩ hr hR (by omega) (fun r H => ?_)
      have H2 := H
      by_cases C : w (113 + (w (10 + s.toInt.toNat)).toNat) = 3 ∧ w 7 < 9999
      · rw [if_pos C] at H2
        refine br0 (z_ne (y := 0) H2 rfl (by decide)) ?_
        have hh := haulR_1 (F := lawW w ls) hR hr (by omega) (by omega) (by omega) C
        refine s_X12_haulItz s 0 law br val sum row set nOp nArg rest now ⟨by omega, by omega⟩ (by decide) hbr hr hR hl (by omega) C.2 (fun r2 u0 u1 u2 u3 u4 u5 u6 G => un7_i ?_)
        obtain ⟨g1, g2, g3, g4, g5⟩ := G
        have bg := givesW_nn (F := lawW w ls) (s := s.toInt) hR hr (c := w (10 + s.toInt.toNat)) (by have q := RLW.at_10 hr (n := 10 + s.toInt.toNat) rfl (by omega) (by omega); have q2 := hR (10 + s.toInt.toNat) (by omega); omega)
        have v2 : (v + r2).toInt = v.toInt + r2.toInt := add_z rfl rfl (by omega) (by omega)
        have T1 : seF ls N x0 w0 = seF ls (N - (i + 1)) (dwI (dwI xx)) (haulO (lawW w ls) w s.toInt) := by
          rw [hT, seF_s SN, ← hh.2]
          unfold se1
          rw [← E1, if_pos hh.1]
        exact ih (i + 1) _ _ _ _ _ _ _ _ _ _ _ _ x1 (by omega) (by omega) T1 k4 d2 ⟨by omega, by omega⟩ g1 g2 g4 g5 (by rw [← hh.2]; exact (haulW_frR hR hr).tr hfr)
      · rw [if_neg C] at H2
        refine br1 (z_eq (y := 0) H2 rfl (by decide)) ?_
        have hh := haulR_0 (F := lawW w ls) C
        have hh' : ¬ 0 ≤ haulR (lawW w ls) w (dwI xx % w 0) := by rw [← E1]; omega
        refine s_X12_canDigz s y 0 law br val sum row set nOp nArg rest now ⟨by omega, by omega⟩ ⟨by omega, by omega⟩ (by decide) hbr hr hR hl (by omega) (fun r2 u0 u1 u2 u3 u4 u5 G => un6_i ?_)
        obtain ⟨g1, g2⟩ := G
        by_cases D : digP (lawW w ls) w s.toInt y.toInt
        · rw [if_pos D] at g2
          refine br1 (z_eq (y := 0) g2 rfl (by decide)) ?_
          have hd := digR_0 D
          have hd' : ¬ 0 ≤ digR (lawW w ls) w (dwI xx % w 0) (dwI (dwI xx) % 3) := by rw [← E1, ← k3]; omega
          have e7 : (row (7 : Int32).toNatClampNeg).toInt = w 7 := hR 7 (by decide)
          have r7 := RLW.at_7 hr (n := 7) rfl (by decide) (by decide)
          have r7' := hR 7 (by decide)
          by_cases c7 : 9999 ≤ row (7 : Int32).toNatClampNeg
          · have c7' := le_z (x := 9999) rfl e7 c7
            refine br1 c7 (ih (i + 1) w (dwI (dwI xx)) _ _ _ _ _ _ _ _ _ _ x1 (by omega) (by omega) ?_ k4 d2 ⟨by omega, by omega⟩ g1 hr hR hl hfr)
            rw [hT, seF_s SN]
            unfold se1
            rw [if_neg hh', if_neg hd', if_neg (by omega)]
          · have c7' := nle_z (x := 9999) rfl e7 c7
            have a7 : (row (7 : Int32).toNatClampNeg + 1).toInt = w 7 + 1 := add_z e7 (b := 1) (y := 1) rfl (by omega) (by omega)
            refine br0 c7 (ih (i + 1) (uI w 7 (w 7 + 1)) (dwI (dwI xx)) _ _ _ _ _ _ _ _ _ _ x1 (by omega) (by omega) ?_ k4 d2 ⟨by omega, by omega⟩ g1 (RLW.up_7 hr (n := 7) (z := 7) rfl (by decide) (by decide) (w := w 7 + 1) a7 (by omega) (by omega)) (RMw.up hR rfl a7) (RML.up hl (z := 7) rfl (by decide) (by decide)) (dayW_fr.tr hfr))
            rw [hT, seF_s SN]
            unfold se1
            rw [if_neg hh', if_neg hd', if_pos (by omega)]
        · rw [if_neg D] at g2
          refine br0 (z_ne (y := 0) g2 rfl (by decide)) ?_
          have b3 : 0 ≤ y.toInt ∧ y.toInt ≤ 2 := by omega
          have hd := digR_1 (by omega) (by omega) b3 D
          have hd' : 0 ≤ digR (lawW w ls) w (dwI xx % w 0) (dwI (dwI xx) % 3) := by rw [← E1, ← k3]; exact hd.1
          refine s_X12_digItz s y 0 u0 u1 u2 u3 row u4 nOp nArg u5 now ⟨by omega, by omega⟩ b3 (by decide) g1 hr hR hl (by omega) hd.2.2 (by have q : ¬ 9999 < w 7 + digsW (lawW w ls) w s.toInt (cbI (w (10 + s.toInt.toNat)) y.toInt) := fun q => D (Or.inr (Or.inr (Or.inr (Or.inr q)))); omega) (fun r3 t0 t1 t2 t3 t4 t5 t6 G => un7_i ?_)
          obtain ⟨q1, q2, q3, q4, q5⟩ := G
          have T1 : seF ls N x0 w0 = seF ls (N - (i + 1)) (dwI (dwI xx)) (digO (lawW w ls) w s.toInt y.toInt) := by
            rw [hT, seF_s SN, ← hd.2.1]
            unfold se1
            rw [if_neg hh', if_pos hd', ← E1, ← k3]
          exact ih (i + 1) _ _ _ _ _ _ _ _ _ _ _ _ x1 (by omega) (by omega) T1 k4 d2 ⟨by omega, by omega⟩ q1 q2 q4 q5 (by rw [← hd.2.1]; exact (digW_fr (hR.gd hr)).tr hfr)
set_option maxHeartbeats 2000000 in
/-- seasons() of the reference -/
theorem x_mseasons {a b law br dd nd : Int32} {val sum sta : Int64} {rfs rf row un so : Nat → Int32} {set rest now : Nat → Int64} {nOp nArg dr : Nat → Int32} {nU : Int32} {w : Nat → Int} {U : UL} {ls : Nat → List Cls} {D : Option (Nat → Int)} (hS : OMs nU br row un so w U ls) (hF : RF rfs rf) (hD : RMn dd nd dr D) {Q : Int32 → (Int32 × Int32 × Int32 × Int32 × Int64 × Int64 × Int64 × Int32 × Int32 × (Nat → Int32) × (Nat → Int32) × (Nat → Int32) × (Nat → Int64) × (Nat → Int64) × (Nat → Int32)) → Prop}
    (hq : ∀ (r st2 law' br' : Int32) (val' sum' sta' : Int64) (dd' nd' : Int32) (rfs' row' un' : Nat → Int32) (set' rest' : Nat → Int64) (dr' : Nat → Int32), st2.toInt = tlS (seaB w a.toInt b.toInt) → RF rfs' (tlR rf (seaB w a.toInt b.toInt)) → OMs nU br' row' un' so w U ls → RMn dd' nd' dr' (seaD D ls w a.toInt b.toInt) → (-1 ≤ nd'.toInt ∧ nd'.toInt ≤ 6) → Q r (0, st2, law', br', val', sum', sta', dd', nd', rfs', row', un', set', rest', dr')) (hnd : -1 ≤ nd.toInt ∧ nd.toInt ≤ 6) :
    wp_X12_seasons a b 0 law br val sum sta dd nd rfs row un set nOp nArg rest now dr Q := by
  obtain ⟨s1, s2, s3, s4, s5, s6, s7, s8⟩ := id hS
  have r0 := RLW.at_0 s3 (n := 0) rfl (by decide) (by decide)
  have e0 := s6 0 (by decide)
  have e0' : (row (0 : Int32).toNatClampNeg).toInt = w 0 := e0
  have no : ∀ (z : Int32) (Z : Int), z.toInt = Z → seaB w a.toInt b.toInt = Z → Z < 0 → -6 ≤ Z → wp_X12_tell z rfs (fun (r_31 : Int32) => (un2 (fun (u_31_0 : Int32) (u_31_1 : Nat → Int32) => (Q r_31 (0, u_31_0, law, br, val, sum, sta, dd, nd, u_31_1, row, un, set, rest, dr))))) := fun z Z hz hB hZ hZ6 => by
    refine s_X12_tellz z rfs ⟨by omega, by omega⟩ hF (fun r u0 u1 h => un2_i ?_)
    obtain ⟨h1, h2, h3⟩ := h
    have h1 : r.toInt = Z := h1.trans hz
    rw [h1] at h2 h3
    exact hq _ _ _ _ _ _ _ _ _ _ _ _ _ _ _ (by rw [hB]; exact h2) (by rw [hB]; exact h3) hS (by unfold seaD; rw [hB, if_pos hZ]; exact hD) hnd
  have la : a.toInt64.toInt = a.toInt := i2l_z rfl
  have lb : b.toInt64.toInt = b.toInt := i2l_z rfl
  have inn : ∀ {x lo hi : Int64} {X L H : Int} {K : Int32 → Prop}, x.toInt = X → lo.toInt = L → hi.toInt = H → ((L ≤ X ∧ X ≤ H) → K 1) → (¬ (L ≤ X ∧ X ≤ H) → K 0) → wp_X12_in x lo hi K := fun {x lo hi X L H K} hx hl hh k1 k0 => by
    unfold wp_X12_in
    by_cases c1 : (lg_cmp x lo) < 0
    · have c1' := c_lt hx hl c1
      exact br1 c1 (k0 (by omega))
    · have c1' := c_nlt hx hl c1
      refine br0 c1 ?_
      by_cases c2 : 0 < (lg_cmp x hi)
      · have c2' := c_gt hx hh c2
        exact br1 c2 (k0 (by omega))
      · have c2' := c_ngt hx hh c2
        exact br0 c2 (k1 ⟨by omega, by omega⟩)
  unfold wp_X12_seasons
  refine inn (X := a.toInt) (L := 0) (H := 1000000) la rfl rfl (fun ha => br0 (by decide) ?_) (fun ha => br1 rfl (no (-1) (-1) (by decide) (if_pos (by omega)) (by decide) (by decide)))
  refine inn (X := b.toInt) (L := 1) (H := 60) lb rfl rfl (fun hb => br0 (by decide) ?_) (fun hb => br1 rfl (no (-1) (-1) (by decide) (if_pos (by omega)) (by decide) (by decide)))
  by_cases c0 : row (0 : Int32).toNatClampNeg = 0
  · have c0' := eq_z (y := 0) e0' rfl c0
    refine br1 c0 (no (-3) (-3) (by decide) ?_ (by decide) (by decide))
    unfold seaB; rw [if_neg (by omega), if_pos (by omega)]
  · have c0' := ne_z (y := 0) e0' rfl c0
    have hB : seaB w a.toInt b.toInt = 0 := by unfold seaB; rw [if_neg (by omega), if_neg (by omega)]
    refine br0 c0 (x_keepAll (A := 16) rfl (by decide) ?_)
    have u16 : UN (kpS 16 106 row un) := UN.kp s4 s3
    obtain ⟨N, hN⟩ : ∃ N : Nat, b.toInt = (N : Int) := ⟨b.toInt.toNat, by omega⟩
    refine x_se68 (w0 := w) (x0 := a.toInt) hN (by omega) (by omega) (fun x v set2 rest2 law2 br2 val2 sum2 st2 row2 q1 q2 q3 q4 q5 q6 => ?_) 1000000000000 0 w a.toInt 0 0 set rest law br val sum a.toInt64 row rfl (Nat.zero_le _) (by omega) (by rw [Nat.sub_zero]) la ⟨by omega, by omega⟩ (by decide) s2 s3 s6 s8 (fun j _ => rfl)
    have f0 := q6 0 (by decide)
    refine x_se180 q4 (by omega) (fun x2 dr2 k1 => ?_) 1000000000000 0 0 dr rfl (by omega) (by omega) (fun i hi => absurd hi (Nat.not_lt_zero _))
    refine x_putBack (A := 16) rfl (by decide) ?_
    refine s_X12_tellz v rfs ⟨by omega, by omega⟩ hF (fun r u0 u1 h => un2_i ?_)
    obtain ⟨h1, h2, h3⟩ := h
    rw [tlS_p (by omega)] at h2
    rw [tlR_p (by omega)] at h3
    have e7 : (row2 (7 : Int32).toNatClampNeg).toInt = seF ls N a.toInt w 7 := q4 7 (by decide)
    have e00 : (row2 (0 : Int32).toNatClampNeg).toInt = seF ls N a.toInt w 0 := q4 0 (by decide)
    refine hq _ _ _ _ _ _ _ _ _ _ _ _ _ _ _ (by rw [hB]; exact h2) (by rw [hB]; exact h3) ⟨s1, q2, q3.pb u16, u16, s5, fun j hj => ?_, RMu.k17 (by decide) s7, q5.pb⟩ ?_ ⟨by omega, by omega⟩
    · unfold pbI
      by_cases c : 7 ≤ j ∧ j < 7 + 106
      · rw [if_pos c]
        unfold kpS
        rw [if_pos (by omega), show 7 + (106 * 16 + (j - 7) - 106 * 16) = j by omega]
        exact s6 j hj
      · rw [if_neg c, q4 j hj]; exact q6 j (by omega)
    · unfold seaD
      rw [hB, if_neg (by decide), show b.toInt.toNat = N by omega]
      exact ⟨e7, e00, ⟨by omega, by omega⟩, k1⟩
