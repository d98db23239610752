/-! images of the reference; ones, gangs -/
theorem RW.cong {f g : Nat → Int32} (h : RLW f) (e : ∀ j, j < 5650 → g j = f j) : RLW g := by
  refine ⟨fun j q hq k1 k2 => ?_, fun m hm => ?_⟩
  · have hj : j < 246 := by
      simp only [RWT, List.mem_cons, List.not_mem_nil, or_false] at hq
      rcases hq with rfl | rfl | rfl | rfl | rfl | rfl | rfl | rfl | rfl | rfl | rfl | rfl | rfl | rfl | rfl | rfl | rfl | rfl | rfl | rfl | rfl | rfl | rfl <;> simp only at k2 <;> omega
    rw [e j (by omega)]
    exact h.1 j q hq k1 k2
  · obtain ⟨x1, x2⟩ := h.2 m hm
    rw [e _ (by omega)]
    refine ⟨x1, fun k hk => ?_⟩
    obtain ⟨p3, p4, p5, p6, q3, q4, q5, q6, q7, q8, q9, q10, s1, s2⟩ := x2 k hk
    have go : ∀ i, i < 400 → (fun i => g (348 + 900 * m + 2 * i)) i = (fun i => f (348 + 900 * m + 2 * i)) i ∧ (fun i => g (348 + 900 * m + 2 * i + 1)) i = (fun i => f (348 + 900 * m + 2 * i + 1)) i := fun i hi => ⟨e _ (by omega), e _ (by omega)⟩
    refine ⟨p3, p4, p5, p6, ?_, ?_, ?_, ?_, q7, q8, q9, q10, s1.cong q7 go, s2.cong q8 go⟩
    · rw [e _ (by omega)]; exact q3
    · rw [e _ (by omega)]; exact q4
    · rw [e _ (by omega)]; exact q5
    · rw [e _ (by omega)]; exact q6
/-- what is kept can be gone back to -/
def IM (kept images : Nat → Int32) : Prop := ∀ k : Nat, k < 2 → ¬ kept k = 0 → RLW (fun j => images (5650 * k + j))
theorem sl_im23 {a : Int32} {row im0 : Nat → Int32} {k : Nat} (ha : a.toInt = (k : Int)) (hk : k < 2) {Qb : Int32 → (Nat → Int32) → Prop} (K : ∀ (x : Int32) (im : Nat → Int32), (∀ j, j < 5650 → im (5650 * k + j) = row j) → (∀ j, (j < 5650 * k ∨ 5650 * k + 5650 ≤ j) → im j = im0 j) → Qb x im) : ∀ (m i : Nat) (x : Int32) (im : Nat → Int32), x.toInt = (i : Int) → i ≤ 5650 → 5650 - i < m → (∀ j, j < i → im (5650 * k + j) = row j) → (∀ j, (j < 5650 * k ∨ 5650 * k + 5650 ≤ j) → im j = im0 j) → wl_X12_image_23 a row Qb m x im := by
  intro m
  induction m with
  | zero => intro i x im _ _ h; omega
  | succ m ih =>
    intro i x im hx hi hm h1 h2
    unfold wl_X12_image_23
    by_cases d : 5650 ≤ x
    · have d' := le_z (x := 5650) rfl rfl d
      exact br1 d (K _ _ (fun j hj => h1 j (by omega)) h2)
    · have d' := nle_z (x := 5650) rfl rfl d
      have e := addN (mulN (a := 5650) (x := 5650) rfl ha (by omega)) hx (by omega)
      refine br0 d ⟨vpi hx (by omega) (by omega), vpi e (by omega) (by omega), ?_⟩
      rw [tnN hx, tnN e]
      refine ih (i + 1) _ _ (add1 hx (by omega)) (by omega) (by omega) (fun j hj => ?_) (fun j hj => ?_)
      · by_cases q : j = i
        · rw [q, pk_us]
        · rw [pk_un (by omega)]; exact h1 j (by omega)
      · rw [pk_un (by omega)]; exact h2 j hj
theorem sl_ba39 {a : Int32} {im : Nat → Int32} {k : Nat} (ha : a.toInt = (k : Int)) (hk : k < 2) {Qb : Int32 → (Nat → Int32) → Prop} (K : ∀ (x : Int32) (row : Nat → Int32), (∀ j, j < 5650 → row j = im (5650 * k + j)) → Qb x row) : ∀ (m i : Nat) (x : Int32) (row : Nat → Int32), x.toInt = (i : Int) → i ≤ 5650 → 5650 - i < m → (∀ j, j < i → row j = im (5650 * k + j)) → wl_X12_back_39 a im Qb m x row := by
  intro m
  induction m with
  | zero => intro i x row _ _ h; omega
  | succ m ih =>
    intro i x row hx hi hm h1
    unfold wl_X12_back_39
    by_cases d : 5650 ≤ x
    · have d' := le_z (x := 5650) rfl rfl d
      exact br1 d (K _ _ (fun j hj => h1 j (by omega)))
    · have d' := nle_z (x := 5650) rfl rfl d
      have e := addN (mulN (a := 5650) (x := 5650) rfl ha (by omega)) hx (by omega)
      refine br0 d ⟨vpi e (by omega) (by omega), vpi hx (by omega) (by omega), ?_⟩
      rw [tnN hx, tnN e]
      refine ih (i + 1) _ _ (add1 hx (by omega)) (by omega) (by omega) (fun j hj => ?_)
      by_cases q : j = i
      · rw [q, pk_us]
      · rw [pk_un q]; exact h1 j (by omega)
/-- the answer of image, in both: a number of k alone -/
def imR (a : Int32) : Int32 := if 0 ≤ a.toInt ∧ a.toInt ≤ 1 then 0 else -1
theorem s_imageF {a : Int32} {row im kept rfs : Nat → Int32} (hR : RLW row) (hI : IM kept im) {Q : Int32 → (Int32 × Int32 × (Nat → Int32) × (Nat → Int32) × (Nat → Int32)) → Prop} (hq : ∀ (st : Int32) (im' kept' rfs' : Nat → Int32), IM kept' im' → Q (imR a) (0, st, im', kept', rfs')) : wp_X12_image a row im kept rfs Q := by
  unfold wp_X12_image
  have ea : a.toInt64.toInt = a.toInt := i2l_z rfl
  have z0 : (0 : Int64).toInt = 0 := rfl
  have z1 : (1 : Int64).toInt = 1 := rfl
  unfold imR at hq
  refine e_in (fun g1 g2 => br0 (by decide) ?_) (fun g => br1 rfl ?_)
  · rw [if_pos (by omega)] at hq
    obtain ⟨k, hk⟩ : ∃ k : Nat, a.toInt = (k : Int) := ⟨a.toInt.toNat, by omega⟩
    refine sl_im23 hk (by omega) (fun x im' h1 h2 => ?_) _ 0 0 im rfl (by omega) (by omega) (fun j hj => by omega) (fun j _ => rfl)
    refine ⟨vpi hk (by omega) (by omega), e_tell (by decide) (fun s f => un2_i (hq _ _ _ _ (fun k2 h k3 => ?_)))⟩
    rw [tnN hk] at k3
    by_cases e : k2 = k
    · subst e
      exact RW.cong hR (fun j hj => h1 j hj)
    · rw [pk_un e] at k3
      exact RW.cong (hI k2 h k3) (fun j hj => h2 _ (by omega))
  · rw [if_neg (fun q => g ⟨by omega, by omega⟩)] at hq
    exact e_tell (by decide) (fun s f => un2_i (hq _ _ _ _ hI))
theorem e_settled {a nU : Int32} {f : Nat → Int32} (h : -6 ≤ a.toInt) (hU : 0 ≤ nU.toInt ∧ nU.toInt ≤ 16) {Q : Int32 → (Int32 × Int32 × (Nat → Int32)) → Prop} (hq : ∀ (s n : Int32) (f' : Nat → Int32), (0 ≤ n.toInt ∧ n.toInt ≤ 16) → Q a (s, n, f')) : wp_X12_settled a nU f Q := by
  unfold wp_X12_settled
  by_cases c : 0 ≤ a
  · exact br1 c (e_tell h (fun s f => un2_i (hq _ _ _ (by decide))))
  · exact br0 c (e_tell h (fun s f => un2_i (hq _ _ _ hU)))
theorem s_backF {a nU : Int32} {kept im row rfs : Nat → Int32} (hR : RLW row) (hI : IM kept im) (hU : 0 ≤ nU.toInt ∧ nU.toInt ≤ 16) {Q : Int32 → (Int32 × Int32 × Int32 × (Nat → Int32) × (Nat → Int32)) → Prop} (hq : ∀ (r st n : Int32) (row' rfs' : Nat → Int32), (0 ≤ n.toInt ∧ n.toInt ≤ 16) → RLW row' → Q r (0, st, n, row', rfs')) : wp_X12_back a nU kept im row rfs Q := by
  unfold wp_X12_back
  have ea : a.toInt64.toInt = a.toInt := i2l_z rfl
  have z0 : (0 : Int64).toInt = 0 := rfl
  have z1 : (1 : Int64).toInt = 1 := rfl
  refine e_in (fun g1 g2 => br0 (by decide) ?_) (fun g => br1 rfl (e_tell (by decide) (fun s f => un2_i (hq _ _ _ _ _ hU hR))))
  obtain ⟨k, hk⟩ : ∃ k : Nat, a.toInt = (k : Int) := ⟨a.toInt.toNat, by omega⟩
  refine ⟨vpi hk (by omega) (by omega), ?_⟩
  rw [tnN hk]
  by_cases c : kept k = 0
  · exact br1 c (e_tell (by decide) (fun s f => un2_i (hq _ _ _ _ _ hU hR)))
  · refine br0 c (sl_ba39 hk (by omega) (fun x row' h1 => ?_) _ 0 0 row rfl (by omega) (by omega) (fun j hj => by omega))
    have R2 : RLW row' := RW.cong (hI k (by omega) c) (fun j hj => h1 j hj)
    exact e_settled (by decide) hU (fun s n f hn => un3_i (hq _ _ _ _ _ hn R2))
theorem sl_on4 {a : Int64} {Qb : Int32 → Int32 → Prop} (K : ∀ (x v : Int32), v.toInt = (cnt a 40 : Int) → Qb x v) : ∀ (m i : Nat) (x v : Int32), x.toInt = (i : Int) → i ≤ 40 → 40 - i < m → v.toInt = (cnt a i : Int) → wl_X12_ones_4 a Qb m x v := by
  intro m
  induction m with
  | zero => intro i x v _ _ h; omega
  | succ m ih =>
    intro i x v hx hi hm hv
    unfold wl_X12_ones_4
    have cl := cnt_le a i
    by_cases d : 40 ≤ x
    · have d' := le_z (x := 40) rfl rfl d
      obtain rfl : i = 40 := by omega
      exact br1 d (K _ _ hv)
    · have d' := nle_z (x := 40) rfl rfl d
      have v1 : (v + 1).toInt = v.toInt + 1 := add_z rfl rfl (by omega) (by omega)
      have v0 : (v + 0).toInt = v.toInt := by have := add_z (a := v) (b := 0) (y := 0) rfl rfl (by omega) (by omega); omega
      refine br0 d (e_is hx (by omega) (fun h => br0 (by decide) ?_) (fun h => br1 rfl ?_))
      · refine ih (i + 1) _ _ (add1 hx (by omega)) (by omega) (by omega) ?_
        show _ = ((cnt a i + (if bt a i = true then 1 else 0) : Nat) : Int)
        rw [if_pos h]; omega
      · refine ih (i + 1) _ _ (add1 hx (by omega)) (by omega) (by omega) ?_
        show _ = ((cnt a i + (if bt a i = true then 1 else 0) : Nat) : Int)
        rw [if_neg h]; omega
theorem cnt_m (x : Int64) : ∀ n i, i ≤ n → cnt x i ≤ cnt x n := by
  intro n
  induction n with
  | zero => intro i h; obtain rfl : i = 0 := by omega
            exact Nat.le_refl _
  | succ n ih =>
    intro i h
    by_cases e : i = n + 1
    · rw [e]; exact Nat.le_refl _
    · have := ih i (by omega)
      show cnt x i ≤ cnt x n + _
      omega
theorem sl_ga49 {a : Int64} (h6 : cnt a 40 ≤ 6) {Qb : Int32 → Int32 → (Nat → Int32) → Prop} (K : ∀ (x v : Int32) (f : Nat → Int32), 0 ≤ v.toInt → v.toInt ≤ 6 → GL f → Qb x v f) : ∀ (m i : Nat) (x v : Int32) (f : Nat → Int32), x.toInt = (i : Int) → i ≤ 40 → 40 - i < m → v.toInt = (cnt a i : Int) → GL f → wl_X12_gangs_49 a Qb m x v f := by
  intro m
  induction m with
  | zero => intro i x v f _ _ h; omega
  | succ m ih =>
    intro i x v f hx hi hm hv hf
    unfold wl_X12_gangs_49
    have cl := cnt_m a 40 i hi
    by_cases d : 40 ≤ x
    · exact br1 d (K _ _ _ (by omega) (by omega) hf)
    · have d' := nle_z (x := 40) rfl rfl d
      have v1 : (v + 1).toInt = v.toInt + 1 := add_z rfl rfl (by omega) (by omega)
      have cl2 := cnt_m a 40 (i + 1) (by omega)
      have ce : cnt a (i + 1) = cnt a i + (if bt a i = true then 1 else 0) := rfl
      refine br0 d (e_is hx (by omega) (fun h => br0 (by decide) ?_) (fun h => br1 rfl ?_))
      · rw [if_pos h] at ce
        refine ⟨vpi rfl (by omega) (by omega), ih (i + 1) _ _ _ (add1 hx (by omega)) (by omega) (by omega) (by omega) ?_⟩
        exact GL.up_0 hf (tnz (x := v.toInt) rfl (by omega)) (by omega) (by omega) hx (by omega) (by omega)
      · rw [if_neg h] at ce
        exact ih (i + 1) _ _ _ (add1 hx (by omega)) (by omega) (by omega) (by omega) hf
theorem sl_ga100 {row nOp nArg gl : Nat → Int32} {now : Nat → Int64} {many s : Int32} (hR : RLW row) (m6 : many.toInt ≤ 6) (s0 : 0 ≤ s.toInt) (s5 : s.toInt ≤ 5) {Qb : Int32 → Int32 → Int32 → Int64 → Int64 → (Nat → Int32) → (Nat → Int64) → (Nat → Int64) → (Nat → Int32) → Prop} (K : ∀ (x law br : Int32) (v sm : Int64) (days : Nat → Int32) (set rest : Nat → Int64) (gd : Nat → Int32), B01 br → DY days → Qb x law br v sm days set rest gd) : ∀ (m : Nat) (x law br : Int32) (v sm : Int64) (days : Nat → Int32) (set rest : Nat → Int64) (gd : Nat → Int32), 0 ≤ x.toInt → x.toInt ≤ 6 → 6 - x.toInt < m → B01 br → DY days → wl_X12_gangs_100 0 row nOp nArg now many gl s Qb m x law br v sm days set rest gd := by
  intro m
  induction m with
  | zero => intro x law br v sm days set rest gd x0 x6 xm; exfalso; have xm : 6 - x.toInt < 0 := xm; omega
  | succ m ih =>
    intro x law br v sm days set rest gd x0 x6 xm hbr hD
    unfold wl_X12_gangs_100
    by_cases d : many ≤ x
    · exact br1 d (K _ _ _ _ _ _ _ _ _ hbr hD)
    · have d' := nle_z rfl rfl d
      have x1 := li_1 (x := x) (hi := 6) (by omega) (by omega)
      have e6 : (6 * s).toInt = 6 * s.toInt := mul_z rfl rfl (by omega) (by omega)
      have e7 : (6 * s + x).toInt = (6 * s).toInt + x.toInt := add_z rfl rfl (by omega) (by omega)
      refine br0 d ⟨vpi rfl (by omega) (by omega), s_findDownF s0 s5 hR hbr (fun r law' br' v' s' days' set' rest' k1 k2 k3 k4 => un7_i ⟨vpi e7 (by omega) (by omega), ih _ _ _ _ _ _ _ _ _ (by omega) (by omega) (by omega) k2 k1⟩)⟩
theorem sl_ga86 {row nOp nArg gl : Nat → Int32} {now : Nat → Int64} {many : Int32} (hR : RLW row) (m6 : many.toInt ≤ 6) {Qb : Int32 → Int32 → Int32 → Int64 → Int64 → (Nat → Int32) → (Nat → Int64) → (Nat → Int64) → (Nat → Int32) → Prop} (K : ∀ (x law br : Int32) (v sm : Int64) (days : Nat → Int32) (set rest : Nat → Int64) (gd : Nat → Int32), B01 br → DY days → Qb x law br v sm days set rest gd) : ∀ (m : Nat) (x law br : Int32) (v sm : Int64) (days : Nat → Int32) (set rest : Nat → Int64) (gd : Nat → Int32), 0 ≤ x.toInt → x.toInt ≤ 6 → 6 - x.toInt < m → B01 br → DY days → wl_X12_gangs_86 0 row nOp nArg now many gl Qb m x law br v sm days set rest gd := by
  intro m
  have r0 := RLW.at_0 hR (n := 0) (z := 0) rfl (by omega) (by omega)
  induction m with
  | zero => intro x law br v sm days set rest gd x0 x6 xm; exfalso; have xm : 6 - x.toInt < 0 := xm; omega
  | succ m ih =>
    intro x law br v sm days set rest gd x0 x6 xm hbr hD
    unfold wl_X12_gangs_86
    by_cases d : row (0 : Int32).toNatClampNeg ≤ x
    · exact br1 d (K _ _ _ _ _ _ _ _ _ hbr hD)
    · have d' : x.toInt < (row 0).toInt := nle_z rfl rfl d
      have x1 := li_1 (x := x) (hi := 6) (by omega) (by omega)
      exact br0 d (sl_ga100 hR m6 x0 (by omega) (fun y law' br' v' s' days' set' rest' gd' k1 k2 => ih _ _ _ _ _ _ _ _ _ (by omega) (by omega) (by omega) k1 k2) _ 0 law br v sm days set rest gd (by decide) (by decide) (by decide) hbr hD)
theorem s_gangsF {a : Int64} {b law bq0 : Int32} {v0 s0 : Int64} {fd : Int32} {row gl days nOp nArg gd go bg : Nat → Int32} {set rest now : Nat → Int64} (hR : RLW row) (hG : GL gl) (hD : DY days) (hb0 : B01 bq0) {Q : Int32 → (Int32 × Int32 × Int32 × Int64 × Int64 × Int32 × (Nat → Int32) × (Nat → Int32) × (Nat → Int64) × (Nat → Int64) × (Nat → Int32) × (Nat → Int32) × (Nat → Int32)) → Prop} (hq : ∀ (r law' br : Int32) (v s : Int64) (fd' : Int32) (gl' days' : Nat → Int32) (set' rest' : Nat → Int64) (gd' go' bg' : Nat → Int32), B01 br → GL gl' → DY days' → Q r (0, law', br, v, s, fd', gl', days', set', rest', gd', go', bg')) : wp_X12_gangs a b 0 law bq0 v0 s0 fd row gl days set nOp nArg rest now gd go bg Q := by
  unfold wp_X12_gangs
  have r0 := RLW.at_0 hR (n := 0) (z := 0) rfl (by omega) (by omega)
  have J := hq (-1) law bq0 v0 s0 fd gl days set rest gd go bg hb0 hG hD
  have eb : b.toInt64.toInt = b.toInt := i2l_z rfl
  have er : (row (0 : Int32).toNatClampNeg).toInt64.toInt = (row 0).toInt := i2l_z rfl
  have z0 : (0 : Int64).toInt = 0 := rfl
  refine e_in (fun _ _ => br0 (by decide) ?_) (fun _ => br1 rfl J)
  unfold wp_X12_ones
  refine sl_on4 (fun x o ho => ?_) _ 0 0 0 rfl (by omega) (by omega) rfl
  by_cases c : 6 < o
  · exact br1 c J
  · have c' := nlt_z (x := 6) rfl rfl c
    refine br0 c (e_in (fun g1 g2 => br0 (by decide) ?_) (fun _ => br1 rfl J))
    refine sl_ga49 (by omega) (fun x many gl' h0 h6 hgl => ?_) _ 0 0 0 gl rfl (by omega) (by omega) rfl hG
    refine sl_ga86 hR h6 (fun x law' br' v' s' days' set' rest' gd' k1 k2 => ?_) _ 0 law bq0 v0 s0 days set rest gd (by decide) (by decide) (by decide) hb0 hD
    refine s_findGangsF hR h0 h6 (fun fd' go' bg' => un3_i ?_)
    by_cases d : fd' = 100000000
    · exact br1 d (hq _ _ _ _ _ _ _ _ _ _ _ _ _ k1 hgl k2)
    · refine br0 d ?_
      by_cases e : b = 0
      · exact br1 e (hq _ _ _ _ _ _ _ _ _ _ _ _ _ k1 hgl k2)
      · have e' := ne_z (y := 0) rfl rfl e
        have e1 : (b - 1).toInt = b.toInt - 1 := sub_z rfl rfl (by omega) (by omega)
        exact br0 e ⟨vpi e1 (by omega) (by omega), hq _ _ _ _ _ _ _ _ _ _ _ _ _ k1 hgl k2⟩
