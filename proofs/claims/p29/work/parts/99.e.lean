/-! seasons of the reference -/
theorem lrem_z {a b : Int64} {x y : Int} (ha : a.toInt = x) (hb : b.toInt = y) (h0 : 0 ≤ x) (h1 : 0 < y) : (a - a / b * b).toInt = x % y := by
  have q2 := i64_hi a
  have q : x / y ≤ x := Int.ediv_le_self _ h0
  have q0 : 0 ≤ x / y := Int.ediv_nonneg h0 (by omega)
  have d : (a / b).toInt = x / y := by
    rw [Int64.toInt_div, ha, hb, Int.tdiv_eq_ediv_of_nonneg h0]
    exact bm64 (by omega) (by omega)
  have e : x / y * y + x % y = x := Int.ediv_mul_add_emod x y
  have q4 : 0 ≤ x % y := Int.emod_nonneg x (by omega)
  have q5 : 0 ≤ x / y * y := Int.mul_nonneg q0 (by omega)
  have m := lmul_z (a := a / b) (b := b) d hb (by omega) (by omega)
  rw [lsub_z ha m (by omega) (by omega)]
  omega
theorem e_draw {a : Int32} {st : Int64} (a1 : 1 ≤ a.toInt) (h0 : 0 ≤ st.toInt) (h1 : st.toInt ≤ 1000002) {Q : Int32 → Int64 → Prop} (hq : ∀ (r : Int32) (s : Int64), 0 ≤ r.toInt → r.toInt < a.toInt → 0 ≤ s.toInt → s.toInt ≤ 1000002 → Q r s) : wp_X12_draw a st Q := by
  unfold wp_X12_draw
  have ea : a.toInt64.toInt = a.toInt := i2l_z rfl
  have ah := i32_hi a
  have m1 : (st * 1103).toInt = st.toInt * 1103 := lmul_z rfl rfl (by omega) (by omega)
  have m2 : (st * 1103 + 12345).toInt = st.toInt * 1103 + 12345 := ladd_z m1 rfl (by omega) (by omega)
  have m3 : ((st * 1103 + 12345) - (st * 1103 + 12345) / 1000003 * 1000003).toInt = (st.toInt * 1103 + 12345) % 1000003 := lrem_z m2 rfl (by omega) (by omega)
  generalize (st * 1103 + 12345) - (st * 1103 + 12345) / 1000003 * 1000003 = s at *
  have b1 : 0 ≤ (st.toInt * 1103 + 12345) % 1000003 := Int.emod_nonneg _ (by omega)
  have b2 : (st.toInt * 1103 + 12345) % 1000003 < 1000003 := Int.emod_lt_of_pos _ (by omega)
  have m4 : (s - s / a.toInt64 * a.toInt64).toInt = s.toInt % a.toInt := lrem_z rfl ea (by omega) (by omega)
  have b3 : 0 ≤ s.toInt % a.toInt := Int.emod_nonneg _ (by omega)
  have b4 : s.toInt % a.toInt < a.toInt := Int.emod_lt_of_pos _ (by omega)
  have m5 : (s - s / a.toInt64 * a.toInt64).toInt32.toInt = s.toInt % a.toInt := l2i_z m4 (by omega) (by omega)
  exact ⟨z_neL ea (by omega), hq _ _ (by omega) (by omega) (by omega) (by omega)⟩
theorem sl_se68 {b : Int32} {nOp nArg : Nat → Int32} {now : Nat → Int64} (hb : b.toInt ≤ 60) {Qb : Int32 → Int32 → (Nat → Int64) → (Nat → Int64) → Int32 → Int32 → Int64 → Int64 → Int64 → (Nat → Int32) → Prop} (K : ∀ (x v : Int32) (set rest : Nat → Int64) (law br : Int32) (vl sm st : Int64) (row : Nat → Int32), (0 ≤ v.toInt ∧ v.toInt ≤ 10000) → B01 br → RLW row → Qb x v set rest law br vl sm st row) : ∀ (m : Nat) (x v : Int32) (set rest : Nat → Int64) (law br : Int32) (vl sm st : Int64) (row : Nat → Int32), 0 ≤ x.toInt → x.toInt ≤ 60 → 60 - x.toInt < m → 0 ≤ v.toInt → v.toInt ≤ 99 * x.toInt → B01 br → RLW row → ¬ row 0 = 0 → 0 ≤ st.toInt → st.toInt ≤ 1000002 → wl_X12_seasons_68 b 0 nOp nArg now Qb m x v set rest law br vl sm st row := by
  intro m
  induction m with
  | zero => intro x v set rest law br vl sm st row x0 x6 xm; exfalso; have xm : 60 - x.toInt < 0 := xm; omega
  | succ m ih =>
    intro x v set rest law br vl sm st row x0 x6 xm v0 v1 hbr hR hn s0 s1
    unfold wl_X12_seasons_68
    by_cases c : b ≤ x
    · exact br1 c (K _ _ _ _ _ _ _ _ _ _ ⟨v0, by omega⟩ hbr hR)
    · have c' := nle_z rfl rfl c
      have x1 := li_1 (x := x) (hi := 60) (by omega) (by omega)
      have r0 := RLW.at_0 hR (n := 0) (z := 0) rfl (by omega) (by omega)
      have r7 := RLW.at_7 hR (n := 7) (z := 7) rfl (by omega) (by omega)
      have hn' : ¬ (row 0).toInt = 0 := ne_z (y := 0) rfl rfl hn
      refine br0 c (e_draw (a := row 0) (by omega) s0 s1 (fun sh st1 k0 k1 k2 k3 => e_draw (a := 3) (by decide) k2 k3 (fun wy st2 l0 l1 l2 l3 => ?_)))
      have z3 : (3 : Int32).toInt = 3 := rfl
      refine e_canHaul k0 (by omega) hR (fun hd => br0 (by decide) ?_) (br1 rfl ?_)
      · refine s_haulItF k0 (by omega) hR hbr hd (fun r law2 br2 v2 s2 row2 set2 rest2 hr hb2 hR2 h02 => un7_i ?_)
        have ev : (v + r).toInt = v.toInt + r.toInt := add_z rfl rfl (by omega) (by omega)
        exact ih _ _ _ _ _ _ _ _ _ _ (by omega) (by omega) (by omega) (by omega) (by omega) hb2 hR2 (by rw [h02]; exact hn) l2 l3
      · refine s_canDigF k0 (by omega) l0 (by omega) hR hbr (fun hc hd law1 br1' v1 s1' set1 rest1 hb1 => un6_i (br0 (by decide) ?_)) (fun law1 br1' v1 s1' set1 rest1 hb1 => un6_i (br1 rfl ?_))
        · refine s_digItF k0 (by omega) hR hb1 hc hd (fun law2 br2 v2 s2 row2 set2 rest2 hb2 hR2 h02 => un7_i ?_)
          exact ih _ _ _ _ _ _ _ _ _ _ (by omega) (by omega) (by omega) v0 (by omega) hb2 hR2 (by rw [h02]; exact hn) l2 l3
        · by_cases d : 9999 ≤ row (7 : Int32).toNatClampNeg
          · exact br1 d (ih _ _ _ _ _ _ _ _ _ _ (by omega) (by omega) (by omega) v0 (by omega) hb1 hR hn l2 l3)
          · have d' : (row 7).toInt < 9999 := nle_z (x := 9999) rfl rfl d
            have e7 : (row (7 : Int32).toNatClampNeg + 1).toInt = (row 7).toInt + 1 := add_z rfl rfl (by omega) (by omega)
            refine br0 d (ih _ _ _ _ _ _ _ _ _ _ (by omega) (by omega) (by omega) v0 (by omega) hb1 (RLW.up_7 hR (n := 7) (z := 7) rfl (by omega) (by omega) e7 (by omega) (by omega)) ?_ l2 l3)
            rw [pk_un (by omega)]; exact hn
theorem sl_se180 {row : Nat → Int32} (hR : RLW row) {Qb : Int32 → (Nat → Int32) → Prop} (K : ∀ (x : Int32) (f : Nat → Int32), Qb x f) : ∀ (m : Nat) (x : Int32) (f : Nat → Int32), 0 ≤ x.toInt → x.toInt ≤ 6 → 6 - x.toInt < m → wl_X12_seasons_180 row Qb m x f := by
  intro m
  have r0 := RLW.at_0 hR (n := 0) (z := 0) rfl (by omega) (by omega)
  induction m with
  | zero => intro x f x0 x6 xm; exfalso; have xm : 6 - x.toInt < 0 := xm; omega
  | succ m ih =>
    intro x f x0 x6 xm
    unfold wl_X12_seasons_180
    by_cases c : row (0 : Int32).toNatClampNeg ≤ x
    · exact br1 c (K _ _)
    · have c' : x.toInt < (row 0).toInt := nle_z rfl rfl c
      have x1 := li_1 (x := x) (hi := 6) (by omega) (by omega)
      have e1 : (10 + x).toInt = 10 + x.toInt := add_z rfl rfl (by omega) (by omega)
      have e2 : (16 + x).toInt = 16 + x.toInt := add_z rfl rfl (by omega) (by omega)
      have e3 : (2 * x).toInt = 2 * x.toInt := mul_z rfl rfl (by omega) (by omega)
      have e4 : (2 * x + 1).toInt = (2 * x).toInt + 1 := add_z rfl rfl (by omega) (by omega)
      exact br0 c ⟨vpi e1 (by omega) (by omega), vpi e3 (by omega) (by omega), vpi e2 (by omega) (by omega), vpi e4 (by omega) (by omega), ih _ _ (by omega) (by omega) (by omega)⟩
theorem e_tell {a : Int32} {f : Nat → Int32} (h : -6 ≤ a.toInt) {Q : Int32 → (Int32 × (Nat → Int32)) → Prop} (hq : ∀ (s : Int32) (f' : Nat → Int32), Q a (s, f')) : wp_X12_tell a f Q := by
  unfold wp_X12_tell
  refine jn1_i (fun _ => True) (fun y _ => ?_) (fun z hz => ?_)
  · by_cases c : 0 ≤ a
    · exact br1 c (hq _ _)
    · have c' := nle_z (x := 0) rfl rfl c
      have e : (-a).toInt = - a.toInt := neg_z rfl (by omega) (by omega)
      exact br0 c ⟨vpi e (by omega) (by omega), vpi e (by omega) (by omega), hq _ _⟩
  · by_cases c : 0 ≤ a
    · exact br1 c (hz _ trivial)
    · exact br0 c (hz _ trivial)
theorem s_seasonsF {a b law bq0 : Int32} {v0 s0 st0 : Int64} {dd nd : Int32} {rfs row undos nOp nArg drawn : Nat → Int32} {set rest now : Nat → Int64} (hR : RLW row) (hUn : UN undos) (hb0 : B01 bq0) (hnd : -1 ≤ nd.toInt ∧ nd.toInt ≤ 6) {Q : Int32 → (Int32 × Int32 × Int32 × Int32 × Int64 × Int64 × Int64 × Int32 × Int32 × (Nat → Int32) × (Nat → Int32) × (Nat → Int32) × (Nat → Int64) × (Nat → Int64) × (Nat → Int32)) → Prop} (hq : ∀ (r sta law' br : Int32) (v s st : Int64) (dd' nd' : Int32) (rfs' row' undos' : Nat → Int32) (set' rest' : Nat → Int64) (drawn' : Nat → Int32), B01 br → (-1 ≤ nd'.toInt ∧ nd'.toInt ≤ 6) → RLW row' → UN undos' → Q r (0, sta, law', br, v, s, st, dd', nd', rfs', row', undos', set', rest', drawn')) : wp_X12_seasons a b 0 law bq0 v0 s0 st0 dd nd rfs row undos set nOp nArg rest now drawn Q := by
  unfold wp_X12_seasons
  have ea : a.toInt64.toInt = a.toInt := i2l_z rfl
  have eb : b.toInt64.toInt = b.toInt := i2l_z rfl
  have z0 : (0 : Int64).toInt = 0 := rfl
  have z1 : (1 : Int64).toInt = 1 := rfl
  have z6 : (60 : Int64).toInt = 60 := rfl
  have zm : (1000000 : Int64).toInt = 1000000 := rfl
  have T : ∀ t : Int32, -6 ≤ t.toInt → wp_X12_tell t rfs (fun r => un2 fun u0 u1 => Q r (0, u0, law, bq0, v0, s0, st0, dd, nd, u1, row, undos, set, rest, drawn)) := fun t ht => e_tell ht (fun s f => un2_i (hq _ _ _ _ _ _ _ _ _ _ _ _ _ _ _ hb0 hnd hR hUn))
  refine e_in (fun g1 g2 => br0 (by decide) ?_) (fun _ => br1 rfl (T (-1) (by decide)))
  refine e_in (fun g3 g4 => br0 (by decide) ?_) (fun _ => br1 rfl (T (-1) (by decide)))
  by_cases c : row (0 : Int32).toNatClampNeg = 0
  · exact br1 c (T (-3) (by decide))
  · refine br0 c (s_X12_keepAll _ _ _ (by decide) hR hUn (fun u hu => ?_))
    refine sl_se68 (b := b) (by omega) (fun x v set' rest' law' br vl sm st row' k1 k2 k3 => ?_) _ 0 0 set rest law bq0 v0 s0 a.toInt64 row (by decide) (by decide) (by decide) (by decide) (by decide) hb0 hR c (by omega) (by omega)
    refine sl_se180 k3 (fun x f => ?_) _ 0 drawn (by decide) (by decide) (by decide)
    have r0 := RLW.at_0 k3 (n := 0) (z := 0) rfl (by omega) (by omega)
    refine s_X12_putBack _ _ _ (by decide) hu k3 (fun u2 hu2 => ?_)
    exact e_tell (by omega) (fun s f => un2_i (hq _ _ _ _ _ _ _ _ _ _ _ _ _ _ _ k2 ⟨by show -1 ≤ (row' 0).toInt; omega, by show (row' 0).toInt ≤ 6; omega⟩ hu2 hu))
