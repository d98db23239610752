/-! the fewest noises to hush: the reference -/
theorem x_q101 {row : Nat → Int32} {w : Nat → Int} {s : Nat} {g : Int32} (hR : RMw row w) (h6 : 0 ≤ w 2 ∧ w 2 ≤ 6) (hg : g = nI s) {Qb : Int32 → Int32 → Prop} (K : ∀ x f : Int32, (f = 1 ∧ ohF w s (w 2).toNat = true ∨ f = 0 ∧ ohF w s (w 2).toNat = false) → Qb x f) : ∀ (m k : Nat) (x f : Int32), x.toInt = (k : Int) → (k : Int) ≤ w 2 → (w 2).toNat - k < m → (f = 1 ∧ ohF w s k = true ∨ f = 0 ∧ ohF w s (w 2).toNat = false) → wl_X12_quiet_101 row g Qb m x f := by
  have r2 : (row (2 : Int32).toNatClampNeg).toInt = w 2 := hR 2 (by decide)
  intro m
  induction m with
  | zero => intro k x f _ _ h; omega
  | succ m ih =>
    intro k x f hx hk hm hf
    unfold wl_X12_quiet_101
    by_cases q : row (2 : Int32).toNatClampNeg ≤ x
    · have q' := le_z r2 hx q
      refine br1 q (K _ _ ?_)
      rw [show (w 2).toNat = k by omega] at hf ⊢
      exact hf
    · have q' := nle_z r2 hx q
      refine br0 q ?_
      rcases hf with ⟨f1, f2⟩ | ⟨f1, f2⟩
      · subst f1
        have e22 : (22 + x).toInt = ((22 + k : Nat) : Int) := by rw [add_z (a := 22) (x := 22) rfl hx (by omega) (by omega)]; omega
        have ew : (row (22 + k)).toInt = w (22 + k) := hR _ (by omega)
        refine br0 (by decide) (e_is hx (by omega) (fun t => ?_) (fun t => ?_))
        · rw [bt_i2l (by omega), hg] at t
          refine br0 (by decide) ⟨vpi e22 (by omega) (by omega), ?_⟩
          rw [tnN e22]
          by_cases u : row (22 + k) = 0
          · have u' := eq_z (y := 0) ew rfl u
            exact br1 u (ih (k + 1) _ _ (add1 hx (by omega)) (by omega) (by omega) (Or.inl ⟨rfl, ohF_y f2 (fun _ => u')⟩))
          · have u' := ne_z (y := 0) ew rfl u
            exact br0 u (ih (k + 1) _ _ (add1 hx (by omega)) (by omega) (by omega) (Or.inr ⟨rfl, ohF_f (ohF_n t u') _ (by omega)⟩))
        · rw [bt_i2l (by omega), hg] at t
          exact br1 rfl (ih (k + 1) _ _ (add1 hx (by omega)) (by omega) (by omega) (Or.inl ⟨rfl, ohF_y f2 (fun z => absurd z t)⟩))
      · subst f1
        exact br1 rfl (K _ _ (Or.inr ⟨rfl, f2⟩))
theorem x_q101_0 {row : Nat → Int32} {g : Int32} {Qb : Int32 → Int32 → Prop} (K : Qb 0 0) : ∀ m : Nat, 0 < m → wl_X12_quiet_101 row g Qb m 0 0 := by
  intro m hm
  cases m with
  | zero => omega
  | succ m =>
    unfold wl_X12_quiet_101
    by_cases q : row (2 : Int32).toNatClampNeg ≤ 0
    · exact br1 q K
    · exact br0 q (br1 rfl K)
theorem x_q157 {a b g : Int32} {row nOp nArg : Nat → Int32} {now : Nat → Int64} {ls : Nat → List Cls} {w : Nat → Int} {s : Nat} (hl : RML row ls) (hR : RMw row w) (hr : RLW row) (h5 : 0 ≤ w 1 ∧ w 1 ≤ 5) (hg : g = nI s) (hb : 0 ≤ b.toInt ∧ b.toInt ≤ 39) {Qb : Int32 → Int32 → Int32 → Int32 → Int64 → Int64 → (Nat → Int64) → (Nat → Int64) → Prop} (K : ∀ (x f law br : Int32) (v sm : Int64) (set rest : Nat → Int64), (f = 1 ∧ alH (lawW w ls) w a b.toInt s (w 1).toNat = true ∨ f = 0 ∧ alH (lawW w ls) w a b.toInt s (w 1).toNat = false) → (0 ≤ br.toInt ∧ br.toInt ≤ 1) → Qb x f law br v sm set rest) : ∀ (m k : Nat) (x f law br : Int32) (v sm : Int64) (set rest : Nat → Int64), x.toInt = (k : Int) → (k : Int) ≤ w 1 → (w 1).toNat - k < m → (0 ≤ br.toInt ∧ br.toInt ≤ 1) → (f = 1 ∧ alH (lawW w ls) w a b.toInt s k = true ∨ f = 0 ∧ alH (lawW w ls) w a b.toInt s (w 1).toNat = false) → wl_X12_quiet_157 a b 0 row nOp nArg now g Qb m x f law br v sm set rest := by
  have r1 : (row (1 : Int32).toNatClampNeg).toInt = w 1 := hR 1 (by decide)
  intro m
  induction m with
  | zero => intro k x f law br v sm set rest _ _ h; omega
  | succ m ih =>
    intro k x f law br v sm set rest hx hk hm hB hf
    unfold wl_X12_quiet_157
    by_cases q : row (1 : Int32).toNatClampNeg ≤ x
    · have q' := le_z r1 hx q
      refine br1 q (K _ _ _ _ _ _ _ _ ?_ hB)
      rw [show (w 1).toNat = k by omega] at hf ⊢
      exact hf
    · have q' := nle_z r1 hx q
      refine br0 q ?_
      rcases hf with ⟨f1, f2⟩ | ⟨f1, f2⟩
      · subst f1
        refine br0 (by decide) (e_is hx (by omega) (fun t => ?_) (fun t => ?_))
        · rw [bt_i2l (by omega)] at t
          refine br0 (by decide) (z_mcan hl hR hr hx (by omega) hb hB (fun h law' br' v' s' set' rest' hb' => un6_i (br0 (by decide) ?_)) (fun h law' br' v' s' set' rest' hb' => un6_i (br1 rfl ?_)))
          · rw [hg] at h
            exact ih (k + 1) _ _ _ _ _ _ _ _ (add1 hx (by omega)) (by omega) (by omega) hb' (Or.inl ⟨rfl, alH_y f2 (fun _ => h)⟩)
          · rw [hg] at h
            exact ih (k + 1) _ _ _ _ _ _ _ _ (add1 hx (by omega)) (by omega) (by omega) hb' (Or.inr ⟨rfl, alH_f (alH_n t h) _ (by omega)⟩)
        · rw [bt_i2l (by omega)] at t
          exact br1 rfl (ih (k + 1) _ _ _ _ _ _ _ _ (add1 hx (by omega)) (by omega) (by omega) hB (Or.inl ⟨rfl, alH_y f2 (fun z => absurd z t)⟩))
      · subst f1
        exact br1 rfl (K _ _ _ _ _ _ _ _ (Or.inr ⟨rfl, f2⟩) hB)
theorem x_q157_0 {a b g law br : Int32} {v sm : Int64} {set rest : Nat → Int64} {row nOp nArg : Nat → Int32} {now : Nat → Int64} {Qb : Int32 → Int32 → Int32 → Int32 → Int64 → Int64 → (Nat → Int64) → (Nat → Int64) → Prop} (K : Qb 0 0 law br v sm set rest) : ∀ m : Nat, 0 < m → wl_X12_quiet_157 a b 0 row nOp nArg now g Qb m 0 0 law br v sm set rest := by
  intro m hm
  cases m with
  | zero => omega
  | succ m =>
    unfold wl_X12_quiet_157
    by_cases q : row (1 : Int32).toNatClampNeg ≤ 0
    · exact br1 q K
    · exact br0 q (br1 rfl K)
theorem x_q67 {a b : Int32} {row nOp nArg : Nat → Int32} {now : Nat → Int64} {ls : Nat → List Cls} {w : Nat → Int} (hl : RML row ls) (hR : RMw row w) (hr : RLW row) (h5 : 0 ≤ w 1 ∧ w 1 ≤ 5) (h6 : 0 ≤ w 2 ∧ w 2 ≤ 6) (hb : 0 ≤ b.toInt ∧ b.toInt ≤ 39) {Qb : Int32 → Int32 → Int32 → Int32 → Int32 → Int64 → Int64 → (Nat → Int64) → (Nat → Int64) → Prop} (K : ∀ (x its few law br : Int32) (v sm : Int64) (set rest : Nat → Int64), its.toInt = (qtF (okQ (lawW w ls) w a b.toInt) (2 ^ (w 2).toNat)).1 → few.toInt = (qtF (okQ (lawW w ls) w a b.toInt) (2 ^ (w 2).toNat)).2 → (0 ≤ br.toInt ∧ br.toInt ≤ 1) → Qb x its few law br v sm set rest) : ∀ (m i : Nat) (x its few law br : Int32) (v sm : Int64) (set rest : Nat → Int64), x.toInt = (i : Int) → i ≤ 2 ^ (w 2).toNat → 2 ^ (w 2).toNat - i < m → its.toInt = (qtF (okQ (lawW w ls) w a b.toInt) i).1 → few.toInt = (qtF (okQ (lawW w ls) w a b.toInt) i).2 → (0 ≤ br.toInt ∧ br.toInt ≤ 1) → wl_X12_quiet_67 a b 0 row nOp nArg now Qb m x its few law br v sm set rest := by
  have pb := p2_6 (w 2).toNat (by omega)
  have r2 : (row (2 : Int32).toNatClampNeg).toInt = w 2 := hR 2 (by decide)
  have en2 : row (2 : Int32).toNatClampNeg = nI (w 2).toNat := nI_eqk (by rw [r2]; omega) (by omega)
  have sh := shl6 (w 2).toNat (by omega)
  rw [← en2] at sh
  intro m
  induction m with
  | zero => intro i x its few law br v sm set rest _ _ h; omega
  | succ m ih =>
    intro i x its few law br v sm set rest hx hi hm hits hfew hB
    unfold wl_X12_quiet_67
    by_cases q : (1 : Int32) <<< (row (2 : Int32).toNatClampNeg &&& 31) ≤ x
    · have q' := le_z sh hx q
      refine br1 q (K _ _ _ _ _ _ _ _ _ ?_ ?_ hB)
      · rw [show 2 ^ (w 2).toNat = i by omega]; exact hits
      · rw [show 2 ^ (w 2).toNat = i by omega]; exact hfew
    · have q' := nle_z sh hx q
      have i64 : i < 64 := by omega
      have en : x = nI i := nI_eqk hx (by omega)
      refine br0 q (x_ones (fun r hr2 => jn_s ?_))
      have hr3 : r.toInt = ((bcI i : Nat) : Int) := by rw [hr2, en]; rfl
      have no : ∀ (law br : Int32) (v sm : Int64) (set rest : Nat → Int64), (0 ≤ br.toInt ∧ br.toInt ≤ 1) → ¬ (okQ (lawW w ls) w a b.toInt i = true ∧ ((bcI i : Nat) : Int) < (qtF (okQ (lawW w ls) w a b.toInt) i).2) → wl_X12_quiet_67 a b 0 row nOp nArg now Qb m (x + 1) its few law br v sm set rest := fun _ _ _ _ _ _ hb' g => ih (i + 1) _ _ _ _ _ _ _ _ _ (add1 hx (by omega)) (by omega) (by omega) (by rw [qtF_n g]; exact hits) (by rw [qtF_n g]; exact hfew) hb'
      by_cases c : few ≤ r
      · have c' := le_z hfew hr3 c
        refine br1 c (x_q101_0 ?_ _ (by decide))
        refine x_q157_0 ?_ _ (by decide)
        exact jn_s (br1 rfl (br1 rfl (no _ _ _ _ _ _ hB (fun z => by omega))))
      · have c' := nle_z hfew hr3 c
        refine br0 c (x_q101 hR h6 en (fun x1 f1 h1 => ?_) _ 0 _ _ rfl (by omega) (by omega) (Or.inl ⟨rfl, rfl⟩))
        rcases h1 with ⟨g1, g2⟩ | ⟨g1, g2⟩
        · subst g1
          refine x_q157 hl hR hr h5 en hb (fun x2 f2 law' br' v' s' set' rest' h2 hb' => ?_) _ 0 _ _ _ _ _ _ _ _ rfl (by omega) (by omega) hB (Or.inl ⟨rfl, rfl⟩)
          rcases h2 with ⟨k1, k2⟩ | ⟨k1, k2⟩
          · subst k1
            have ok : okQ (lawW w ls) w a b.toInt i = true := by
              show (ohF w i (w 2).toNat && alH (lawW w ls) w a b.toInt i (w 1).toNat) = true
              rw [g2, k2]; rfl
            refine jn_s (br0 (by decide) (br0 (by decide) (x_ones (fun r4 hr4 => ih (i + 1) _ _ _ _ _ _ _ _ _ (add1 hx (by omega)) (by omega) (by omega) ?_ ?_ hb'))))
            · rw [qtF_y ok c']; exact hx
            · rw [qtF_y ok c', hr4, en]; rfl
          · subst k1
            refine jn_s (br1 rfl (br1 rfl (no _ _ _ _ _ _ hb' (fun z => ?_))))
            have z2 : (ohF w i (w 2).toNat && alH (lawW w ls) w a b.toInt i (w 1).toNat) = true := z.1
            rw [k2, Bool.and_false] at z2
            cases z2
        · subst g1
          refine x_q157_0 ?_ _ (by decide)
          refine jn_s (br1 rfl (br1 rfl (no _ _ _ _ _ _ hB (fun z => ?_))))
          have z2 : (ohF w i (w 2).toNat && alH (lawW w ls) w a b.toInt i (w 1).toNat) = true := z.1
          rw [g2, Bool.false_and] at z2
          cases z2
theorem x_mquiet {a b d law broken : Int32} {value sum : Int64} {row nOp nArg : Nat → Int32} {rest now set : Nat → Int64} {ls : Nat → List Cls} {w : Nat → Int} (hl : RML row ls) (hR : RMw row w) (hr : RLW row) (hB : 0 ≤ broken.toInt ∧ broken.toInt ≤ 1) {Q : Int32 → (Int32 × Int32 × Int32 × Int64 × Int64 × (Nat → Int64) × (Nat → Int64)) → Prop} (hq : ∀ (r law' br' : Int32) (value' sum' : Int64) (set' rest' : Nat → Int64), r.toInt = quietR (lawW w ls) w a.toInt b.toInt d.toInt → (0 ≤ br'.toInt ∧ br'.toInt ≤ 1) → Q r (0, law', br', value', sum', set', rest')) : wp_X12_quiet a b d 0 law broken value sum row set nOp nArg rest now Q := by
  have m1 : (-1 : Int32).toInt = -1 := by decide
  have h5 : 0 ≤ w 1 ∧ w 1 ≤ 5 := by rw [← hR 1 (by decide)]; exact RLW.at_1 hr (n := 1) (z := 1) rfl (by decide) (by decide)
  have h6 : 0 ≤ w 2 ∧ w 2 ≤ 6 := by rw [← hR 2 (by decide)]; exact RLW.at_2 hr (n := 2) (z := 2) rfl (by decide) (by decide)
  have pb := p2_6 (w 1).toNat (by omega)
  have pb2 := p2_6 (w 2).toNat (by omega)
  have r1 : (row (1 : Int32).toNatClampNeg).toInt = w 1 := hR 1 (by decide)
  have en1 : row (1 : Int32).toNatClampNeg = nI (w 1).toNat := nI_eqk (by rw [r1]; omega) (by omega)
  have sh := shl5 (w 1).toNat (by omega)
  rw [← en1] at sh
  have a1 : a.toInt64.toInt = a.toInt := i2l_z rfl
  have d1 : d.toInt64.toInt = d.toInt := i2l_z rfl
  have z0 : (0 : Int64).toInt = 0 := rfl
  have z1 : (1 : Int64).toInt = 1 := rfl
  unfold wp_X12_quiet
  refine e_in (fun g0 g1 => br0 (by decide) ?_) (fun g => br1 rfl (hq _ _ _ _ _ _ _ (m1.trans (quietR_1 ?_).symm) hB))
  · rw [sh] at g1
    refine x_isCell (fun ic => br0 (by decide) ?_) (fun g => br1 rfl (hq _ _ _ _ _ _ _ (m1.trans (quietR_1 (by omega)).symm) hB))
    have i0 := ic.1
    have i1 := ic.2
    have eb : (113 + b).toInt = ((113 + b.toInt.toNat : Nat) : Int) := by rw [add_z (a := 113) (x := 113) rfl rfl (by omega) (by omega)]; omega
    have ek : (row (113 + b.toInt.toNat)).toInt = w (113 + b.toInt.toNat) := hR _ (by omega)
    refine ⟨vpi eb (by omega) (by omega), ?_⟩
    rw [tnN eb]
    by_cases t : row (113 + b.toInt.toNat) = 3
    · have t' := eq_z (y := 3) ek rfl t
      refine br1 t (e_in (fun g2 g3 => br0 (by decide) ?_) (fun g => br1 rfl (hq _ _ _ _ _ _ _ (m1.trans (quietR_1 (by omega)).symm) hB)))
      refine x_q67 hl hR hr h5 h6 ⟨i0, by omega⟩ (fun x its few law' br' v' s' set' rest' hits hfew hb' => ?_) _ 0 _ _ _ _ _ _ _ _ _ rfl (by omega) (by omega) m1 rfl hB
      have hi2 : its.toInt = (qtW (lawW w ls) w a.toInt b.toInt).1 := by
        unfold qtW
        rw [o32 (x := a) rfl]
        exact hits
      have hf2 : few.toInt = (qtW (lawW w ls) w a.toInt b.toInt).2 := by
        unfold qtW
        rw [o32 (x := a) rfl]
        exact hfew
      have nn : ¬ (a.toInt < 0 ∨ ((2 ^ (w 1).toNat : Nat) : Int) ≤ a.toInt ∨ b.toInt < 0 ∨ 39 < b.toInt ∨ d.toInt < 0 ∨ 1 < d.toInt) := by omega
      by_cases u : its = -1
      · have u' := eq_z hi2 m1 u
        refine br1 u (hq _ _ _ _ _ _ _ ?_ hb')
        rw [quietR_3 u', hi2, u']
      · have u' := ne_z hi2 m1 u
        have q4 := quietR_4 nn t' u'
        refine br0 u ?_
        by_cases f : d = 1
        · have f' := eq_z (y := 1) rfl rfl f
          rw [if_neg (by omega)] at q4
          exact br1 f (hq _ _ _ _ _ _ _ (hi2.trans q4.symm) hb')
        · have f' := ne_z (y := 1) rfl rfl f
          rw [if_pos (by omega)] at q4
          exact br0 f (hq _ _ _ _ _ _ _ (hf2.trans q4.symm) hb')
    · have t' := ne_z (y := 3) ek rfl t
      exact br0 t (hq _ _ _ _ _ _ _ (m1.trans (quietR_2 t').symm) hB)
  · rw [sh] at g
    omega
