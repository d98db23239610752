/-! digs and hauls of the reference -/
theorem s_canDigF {a b law bq0 : Int32} {v0 s0 : Int64} {row nOp nArg : Nat → Int32} {set rest now : Nat → Int64} (a0 : 0 ≤ a.toInt) (a5 : a.toInt ≤ 5) (b0 : 0 ≤ b.toInt) (b2 : b.toInt ≤ 2) (hR : RLW row) (hb0 : B01 bq0) {Q : Int32 → (Int32 × Int32 × Int64 × Int64 × (Nat → Int64) × (Nat → Int64)) → Prop} (hq1 : InC (cbF (row (10 + a).toNatClampNeg) b) → (row 7).toInt + (dgF row a (cbF (row (10 + a).toNatClampNeg) b)).toInt ≤ 9999 → ∀ (law' br : Int32) (v s : Int64) (set' rest' : Nat → Int64), B01 br → Q 1 (law', br, v, s, set', rest')) (hq0 : ∀ (law' br : Int32) (v s : Int64) (set' rest' : Nat → Int64), B01 br → Q 0 (law', br, v, s, set', rest')) : wp_X12_canDig a b 0 law bq0 v0 s0 row set nOp nArg rest now Q := by
  unfold wp_X12_canDig
  have e1 : (10 + a).toInt = 10 + a.toInt := add_z rfl rfl (by omega) (by omega)
  have r1 := RLW.at_10 hR (tnz (x := (10 + a).toInt) rfl (by omega)) (by omega) (by omega)
  have r7 := RLW.at_7 hR (n := 7) (z := 7) rfl (by omega) (by omega)
  refine ⟨vpi e1 (by omega) (by omega), e_cellBy (e_mayDig hR a0 a5 (fun r => ?_))⟩
  have B := cbF_b (c := row (10 + a).toNatClampNeg) ⟨r1.1, by omega⟩ b0 b2
  generalize cbF (row (10 + a).toNatClampNeg) b = c at *
  by_cases c1 : r = 0
  · exact br1 c1 (hq0 _ _ _ _ _ _ hb0)
  · refine br0 c1 ?_
    by_cases c2 : c = -1
    · exact br1 c2 (hq0 _ _ _ _ _ _ hb0)
    · refine br0 c2 ?_
      obtain ⟨Bc, -⟩ : InC c ∧ c.toInt ≠ (row (10 + a).toNatClampNeg).toInt := by
        rcases B with B | B
        · exact (c2 B).elim
        · exact B
      obtain ⟨B0, B1⟩ := id Bc
      have e2 : (33 + c).toInt = 33 + c.toInt := add_z rfl rfl (by omega) (by omega)
      refine ⟨vpi e2 (by omega) (by omega), ?_⟩
      by_cases c3 : row (33 + c).toNatClampNeg = 0
      · refine br1 c3 (s_passF ⟨B0, by omega⟩ hR (fun _ law1 br1' v1 s1 set1 rest1 hbr => un6_i ?_) (fun _ law1 br1' v1 s1 set1 rest1 hbr => un6_i ?_))
        · refine br0 (by decide) (s_digsF ⟨B0, by omega⟩ hR (fun law2 br2 v2 s2 set2 rest2 hbr2 => un6_i ?_))
          have gb := dgF_b row a c
          have e3 : (row (7 : Int32).toNatClampNeg + dgF row a c).toInt = (row 7).toInt + (dgF row a c).toInt := add_z rfl rfl (by omega) (by omega)
          by_cases c4 : 9999 < row (7 : Int32).toNatClampNeg + dgF row a c
          · exact br1 c4 (hq0 _ _ _ _ _ _ (B01.of (B01.of hb0 hbr) hbr2))
          · have c4' := nlt_z (x := 9999) rfl rfl c4
            exact br0 c4 (hq1 Bc (by omega) _ _ _ _ _ _ (B01.of (B01.of hb0 hbr) hbr2))
        · exact br1 rfl (hq0 _ _ _ _ _ _ (B01.of hb0 hbr))
      · exact br0 c3 (hq0 _ _ _ _ _ _ hb0)
theorem s_digItF {a b law bq0 : Int32} {v0 s0 : Int64} {row nOp nArg : Nat → Int32} {set rest now : Nat → Int64} (a0 : 0 ≤ a.toInt) (a5 : a.toInt ≤ 5) (hR : RLW row) (hb0 : B01 bq0) (hc : InC (cbF (row (10 + a).toNatClampNeg) b)) (hd : (row 7).toInt + (dgF row a (cbF (row (10 + a).toNatClampNeg) b)).toInt ≤ 9999) {Q : Int32 → (Int32 × Int32 × Int64 × Int64 × (Nat → Int32) × (Nat → Int64) × (Nat → Int64)) → Prop} (hq : ∀ (law' br : Int32) (v s : Int64) (row' : Nat → Int32) (set' rest' : Nat → Int64), B01 br → RLW row' → row' 0 = row 0 → Q (cbF (row (10 + a).toNatClampNeg) b) (law', br, v, s, row', set', rest')) : wp_X12_digIt a b 0 law bq0 v0 s0 row set nOp nArg rest now Q := by
  unfold wp_X12_digIt
  have e1 : (10 + a).toInt = 10 + a.toInt := add_z rfl rfl (by omega) (by omega)
  have r7 := RLW.at_7 hR (n := 7) (z := 7) rfl (by omega) (by omega)
  refine ⟨vpi e1 (by omega) (by omega), e_cellBy ?_⟩
  generalize cbF (row (10 + a).toNatClampNeg) b = c at *
  obtain ⟨B0, B1⟩ := id hc
  have e2 : (33 + c).toInt = 33 + c.toInt := add_z rfl rfl (by omega) (by omega)
  have gb := dgF_b row a c
  have e3 : (row (7 : Int32).toNatClampNeg + dgF row a c).toInt = (row 7).toInt + (dgF row a c).toInt := add_z rfl rfl (by omega) (by omega)
  refine s_digsF ⟨B0, by omega⟩ hR (fun law2 br2 v2 s2 set2 rest2 hbr2 => un6_i ⟨vpi e2 (by omega) (by omega), vpi e1 (by omega) (by omega), hq _ _ _ _ _ _ _ (B01.of hb0 hbr2) ?_ ?_⟩)
  rotate_left
  · have t1 := tnz (x := (33 + c).toInt) rfl (by omega)
    have t2 := tnz (x := (10 + a).toInt) rfl (by omega)
    rw [pk_un (by omega), pk_un (by omega), pk_un (by omega)]
  have R1 : RLW (upd row 7 (row (7 : Int32).toNatClampNeg + dgF row a c)) := RLW.up_7 hR (n := 7) (z := 7) rfl (by omega) (by omega) e3 (by omega) (by omega)
  have R2 : RLW (upd (upd row 7 (row (7 : Int32).toNatClampNeg + dgF row a c)) (33 + c).toNatClampNeg 1) := RLW.up_33 R1 (tnz (x := (33 + c).toInt) rfl (by omega)) (by omega) (by omega) (w := 1) rfl (by omega) (by omega)
  exact RLW.up_10 R2 (tnz (x := (10 + a).toInt) rfl (by omega)) (by omega) (by omega) (w := c.toInt) rfl (by omega) (by omega)
theorem s_digNowF {a b nUndo law bq0 : Int32} {v0 s0 : Int64} {row nOp nArg undos sorts : Nat → Int32} {set rest now : Nat → Int64} (hU : 0 ≤ nUndo.toInt ∧ nUndo.toInt ≤ 16) (hR : RLW row) (hb0 : B01 bq0) (hUn : UN undos) (hSo : SO sorts) {Q : Int32 → (Int32 × Int32 × Int32 × Int64 × Int64 × (Nat → Int32) × (Nat → Int64) × (Nat → Int64) × (Nat → Int32) × (Nat → Int32)) → Prop} (hq : ∀ (r nU law' br : Int32) (v s : Int64) (row' : Nat → Int32) (set' rest' : Nat → Int64) (undos' sorts' : Nat → Int32), (-3 ≤ r.toInt ∧ r.toInt ≤ 39) → (0 ≤ nU.toInt ∧ nU.toInt ≤ 16) → B01 br → RLW row' → UN undos' → SO sorts' → Q r (nU, law', br, v, s, row', set', rest', undos', sorts')) : wp_X12_digNow a b nUndo 0 law bq0 v0 s0 row set nOp nArg rest now undos sorts Q := by
  unfold wp_X12_digNow
  have eb : b.toInt64.toInt = b.toInt := i2l_z rfl
  have z0 : (0 : Int64).toInt = 0 := rfl
  have z2 : (2 : Int64).toInt = 2 := rfl
  refine e_in (fun g1 g2 => ?_) (fun _ => ?_)
  · refine br0 (by decide) (e_isShaft hR (fun a0 _ a5 => ?_) ?_)
    · refine br0 (by decide) (s_canDigF a0 a5 (by omega) (by omega) hR hb0 (fun hc hd law1 br1' v1 s1 set1 rest1 hbr => un6_i ?_) (fun law1 br1' v1 s1 set1 rest1 hbr => un6_i ?_))
      · refine br0 (by decide) ?_
        refine s_X12_remember _ _ _ _ _ (by decide) hU hUn hSo hR (fun u0 u1 u2 hu => un3_i ?_)
        refine s_digItF a0 a5 hR hbr hc hd (fun law2 br2 v2 s2 row2 set2 rest2 hb2 hR2 _ => un7_i (hq _ _ _ _ _ _ _ _ _ _ _ ⟨?_, ?_⟩ hu.1 hb2 hR2 hu.2.1 hu.2.2))
        · have := hc.1; omega
        · have := hc.2; omega
      · exact br1 rfl (hq _ _ _ _ _ _ _ _ _ _ _ (by decide) hU hbr hR hUn hSo)
    · exact br1 rfl (hq _ _ _ _ _ _ _ _ _ _ _ (by decide) hU hb0 hR hUn hSo)
  · exact br1 rfl (hq _ _ _ _ _ _ _ _ _ _ _ (by decide) hU hb0 hR hUn hSo)
theorem s_givesF {a b law bq0 : Int32} {v0 s0 : Int64} {row nOp nArg : Nat → Int32} {set rest now : Nat → Int64} (hb : 0 ≤ b.toInt ∧ b.toInt ≤ 39) (hR : RLW row) (hb0 : B01 bq0) {Q : Int32 → (Int32 × Int32 × Int64 × Int64 × (Nat → Int64) × (Nat → Int64)) → Prop} (hq : ∀ (r law' br : Int32) (v s : Int64) (set' rest' : Nat → Int64), (0 ≤ r.toInt ∧ r.toInt ≤ 99 ∧ r.toInt ≤ (row (73 + b).toNatClampNeg).toInt) → B01 br → Q r (law', br, v, s, set', rest')) : wp_X12_givesOf a b 0 law bq0 v0 s0 row set nOp nArg rest now Q := by
  unfold wp_X12_givesOf
  have b1 : (113 + b).toInt = 113 + b.toInt := add_z rfl rfl (by omega) (by omega)
  have b2 : (73 + b).toInt = 73 + b.toInt := add_z rfl rfl (by omega) (by omega)
  have rw := RLW.at_73 hR (tnz (x := (73 + b).toInt) rfl (by omega)) (by omega) (by omega)
  refine ⟨vpi b1 (by omega) (by omega), s_tellsF hb hR (fun law' br v s set' rest' h => un6_i (e_within ⟨vpi b2 (by omega) (by omega), ?_⟩))⟩
  have wb := wiF_b (v := tlF row 3 b (row (113 + b).toNatClampNeg) a 5) (lo := 0) (hi := 99) (by decide)
  have z0 : (0 : Int32).toInt = 0 := rfl
  have z9 : (99 : Int32).toInt = 99 := rfl
  by_cases c : row (73 + b).toNatClampNeg ≤ wiF (tlF row 3 b (row (113 + b).toNatClampNeg) a 5) 0 99
  · exact br1 c ⟨vpi b2 (by omega) (by omega), hq _ _ _ _ _ _ _ ⟨by omega, by omega, Int.le_refl _⟩ (B01.of hb0 h)⟩
  · have c' := nle_z rfl rfl c
    exact br0 c (hq _ _ _ _ _ _ _ ⟨by omega, by omega, by omega⟩ (B01.of hb0 h))
theorem s_haulItF {a law bq0 : Int32} {v0 s0 : Int64} {row nOp nArg : Nat → Int32} {set rest now : Nat → Int64} (a0 : 0 ≤ a.toInt) (a5 : a.toInt ≤ 5) (hR : RLW row) (hb0 : B01 bq0) (hd : (row 7).toInt < 9999) {Q : Int32 → (Int32 × Int32 × Int64 × Int64 × (Nat → Int32) × (Nat → Int64) × (Nat → Int64)) → Prop} (hq : ∀ (r law' br : Int32) (v s : Int64) (row' : Nat → Int32) (set' rest' : Nat → Int64), (0 ≤ r.toInt ∧ r.toInt ≤ 99) → B01 br → RLW row' → row' 0 = row 0 → Q r (law', br, v, s, row', set', rest')) : wp_X12_haulIt a 0 law bq0 v0 s0 row set nOp nArg rest now Q := by
  unfold wp_X12_haulIt
  have e1 : (10 + a).toInt = 10 + a.toInt := add_z rfl rfl (by omega) (by omega)
  have e6 : (16 + a).toInt = 16 + a.toInt := add_z rfl rfl (by omega) (by omega)
  have r1 := RLW.at_10 hR (tnz (x := (10 + a).toInt) rfl (by omega)) (by omega) (by omega)
  have r7 := RLW.at_7 hR (n := 7) (z := 7) rfl (by omega) (by omega)
  refine ⟨vpi e1 (by omega) (by omega), s_givesF r1 hR hb0 (fun r law1 br1' v1 s1 set1 rest1 hr hbr => un6_i ?_)⟩
  have e2 : (73 + row (10 + a).toNatClampNeg).toInt = 73 + (row (10 + a).toNatClampNeg).toInt := add_z rfl rfl (by omega) (by omega)
  have r2 := RLW.at_73 hR (tnz (x := (73 + row (10 + a).toNatClampNeg).toInt) rfl (by omega)) (by omega) (by omega)
  have t2 := tnz (x := (73 + row (10 + a).toNatClampNeg).toInt) rfl (by omega)
  have t6 := tnz (x := (16 + a).toInt) rfl (by omega)
  have e3 : (row (73 + row (10 + a).toNatClampNeg).toNatClampNeg - r).toInt = (row (73 + row (10 + a).toNatClampNeg).toNatClampNeg).toInt - r.toInt := sub_z rfl rfl (by omega) (by omega)
  have R1 : RLW (upd row (73 + row (10 + a).toNatClampNeg).toNatClampNeg (row (73 + row (10 + a).toNatClampNeg).toNatClampNeg - r)) := RLW.up_73 hR t2 (by omega) (by omega) e3 (by omega) (by omega)
  refine ⟨vpi e1 (by omega) (by omega), vpi e2 (by omega) (by omega), vpi e2 (by omega) (by omega), vpi e6 (by omega) (by omega), e_within ⟨vpi e6 (by omega) (by omega), hq _ _ _ _ _ _ _ _ ⟨hr.1, hr.2.1⟩ hbr ?_ ?_⟩⟩
  rotate_left
  · rw [pk_un (by omega), pk_un (by omega), pk_un (by omega)]
  generalize ha : (upd row (73 + row (10 + a).toNatClampNeg).toNatClampNeg (row (73 + row (10 + a).toNatClampNeg).toNatClampNeg - r)) = rw1 at *
  have wb := wiF_b (v := (rw1 (16 + a).toNatClampNeg + r).toInt64) (lo := 0) (hi := 9999) (by decide)
  have z0 : (0 : Int32).toInt = 0 := rfl
  have z9 : (9999 : Int32).toInt = 9999 := rfl
  generalize wiF (rw1 (16 + a).toNatClampNeg + r).toInt64 0 9999 = bk at *
  have R2 : RLW (upd rw1 (16 + a).toNatClampNeg bk) := RLW.up_16 R1 t6 (by omega) (by omega) (w := bk.toInt) rfl (by omega) (by omega)
  have d7 : upd rw1 (16 + a).toNatClampNeg bk (7 : Int32).toNatClampNeg = row 7 := by
    rw [pk_un (by show 7 ≠ _; omega), ← ha, pk_un (by show 7 ≠ _; omega)]; rfl
  have e7 : (upd rw1 (16 + a).toNatClampNeg bk (7 : Int32).toNatClampNeg + 1).toInt = (row 7).toInt + 1 := by
    rw [d7]; exact add_z rfl rfl (by omega) (by omega)
  exact RLW.up_7 R2 (n := 7) (z := 7) rfl (by omega) (by omega) e7 (by omega) (by omega)
theorem e_canHaul {a : Int32} {row : Nat → Int32} (a0 : 0 ≤ a.toInt) (a5 : a.toInt ≤ 5) (hR : RLW row) {Q : Int32 → Prop} (h1 : (row 7).toInt < 9999 → Q 1) (h0 : Q 0) : wp_X12_canHaul a row Q := by
  unfold wp_X12_canHaul wp_X12_hasFound
  have e1 : (10 + a).toInt = 10 + a.toInt := add_z rfl rfl (by omega) (by omega)
  have r1 := RLW.at_10 hR (tnz (x := (10 + a).toInt) rfl (by omega)) (by omega) (by omega)
  have e2 : (113 + row (10 + a).toNatClampNeg).toInt = 113 + (row (10 + a).toNatClampNeg).toInt := add_z rfl rfl (by omega) (by omega)
  refine ⟨vpi e1 (by omega) (by omega), vpi e2 (by omega) (by omega), ?_⟩
  by_cases c : row (113 + row (10 + a).toNatClampNeg).toNatClampNeg = 3
  · refine br1 c (br0 (by decide) ?_)
    by_cases d : 9999 ≤ row (7 : Int32).toNatClampNeg
    · exact br1 d h0
    · exact br0 d (h1 (nle_z (x := 9999) rfl rfl d))
  · exact br0 c (br1 rfl h0)
theorem s_haulNowF {a nUndo law bq0 : Int32} {v0 s0 : Int64} {row nOp nArg undos sorts : Nat → Int32} {set rest now : Nat → Int64} (hU : 0 ≤ nUndo.toInt ∧ nUndo.toInt ≤ 16) (hR : RLW row) (hb0 : B01 bq0) (hUn : UN undos) (hSo : SO sorts) {Q : Int32 → (Int32 × Int32 × Int32 × Int64 × Int64 × (Nat → Int32) × (Nat → Int32) × (Nat → Int32) × (Nat → Int64) × (Nat → Int64)) → Prop} (hq : ∀ (r nU law' br : Int32) (v s : Int64) (row' undos' sorts' : Nat → Int32) (set' rest' : Nat → Int64), (-3 ≤ r.toInt ∧ r.toInt ≤ 99) → (0 ≤ nU.toInt ∧ nU.toInt ≤ 16) → B01 br → RLW row' → UN undos' → SO sorts' → Q r (nU, law', br, v, s, row', undos', sorts', set', rest')) : wp_X12_haulNow a nUndo 0 law bq0 v0 s0 row undos sorts set nOp nArg rest now Q := by
  unfold wp_X12_haulNow
  refine e_isShaft hR (fun a0 _ a5 => br0 (by decide) ?_) (br1 rfl (hq _ _ _ _ _ _ _ _ _ _ _ (by decide) hU hb0 hR hUn hSo))
  refine e_canHaul a0 a5 hR (fun hd => br0 (by decide) ?_) (br1 rfl (hq _ _ _ _ _ _ _ _ _ _ _ (by decide) hU hb0 hR hUn hSo))
  refine s_X12_remember _ _ _ _ _ (by decide) hU hUn hSo hR (fun u0 u1 u2 hu => un3_i ?_)
  exact s_haulItF a0 a5 hR hb0 hd (fun r law2 br2 v2 s2 row2 set2 rest2 hr hb2 hR2 _ => un7_i (hq _ _ _ _ _ _ _ _ _ _ _ ⟨by omega, by omega⟩ hu.1 hb2 hR2 hu.2.1 hu.2.2))
