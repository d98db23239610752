/-! next of the reference -/
theorem x_nml {col : Int32} {row nOp nArg : Nat → Int32} {now : Nat → Int64} {ls : Nat → List Cls} {w : Nat → Int} (hl : RML row ls) (hR : RMw row w) (hr : RLW row) (hc : 0 ≤ col.toInt ∧ col.toInt ≤ 99) {Qb : Int32 → Int32 → Int32 → Int32 → Int64 → Int64 → (Nat → Int32) → (Nat → Int64) → (Nat → Int64) → Prop} (K : ∀ (x s law broken : Int32) (value sum : Int64) (f : Nat → Int32) (set rest : Nat → Int64), s.toInt = moF (hdB (lawW w ls) w) (sdF (lawW w ls) w col.toInt) 40 → (0 ≤ broken.toInt ∧ broken.toInt ≤ 1) → Qb x s law broken value sum f set rest) : ∀ (m i : Nat) (x s law broken : Int32) (value sum : Int64) (f : Nat → Int32) (set rest : Nat → Int64), x.toInt = (i : Int) → i ≤ 40 → 40 - i < m → s.toInt = moF (hdB (lawW w ls) w) (sdF (lawW w ls) w col.toInt) i → AL f (hdB (lawW w ls) w) (sdF (lawW w ls) w col.toInt) i → (0 ≤ broken.toInt ∧ broken.toInt ≤ 1) → wl_X12_next_63 0 row nOp nArg now col Qb m x s law broken value sum f set rest := by
  intro m
  induction m with
  | zero => intro i x s law broken value sum f set rest _ _ h; omega
  | succ m ih =>
    intro i x s law broken value sum f set rest hx hi hm hs hA hB
    unfold wl_X12_next_63
    by_cases q : 40 ≤ x
    · have q' := le_z (x := 40) rfl hx q
      refine br1 q (K _ _ _ _ _ _ _ _ _ ?_ hB)
      rw [show (40 : Nat) = i by omega]
      exact hs
    · have q' := nle_z (x := 40) rfl hx q
      have i40 : i < 40 := by omega
      refine br0 q (z_mishid hl hR hr hx i40 hB (fun r l1 b1 v1 s1 t1 p1 h hb => un6_i ?_))
      rcases h with ⟨r1, hn⟩ | ⟨r0, hn⟩
      · subst r1
        refine br0 (by decide) (z_msound hl hR hr ⟨by omega, by omega⟩ hc hb (fun k l2 b2 v2 s2 t2 p2 H => un6_i ?_))
        have mb := mxZ0_b (x := loudI (lawW w ls) w (i : Int) 3 col.toInt) (by
          have q2 := loudI_b (F := lawW w ls) (w := w) (c := (i : Int)) (k := 3) (col := col.toInt) ⟨by omega, by omega⟩ hc
          omega)
        have h2 := H.2.1
        rw [hx] at h2
        have ek : k.toInt = ((sdF (lawW w ls) w col.toInt i : Nat) : Int) := by
          unfold sdF
          rw [Int.toNat_of_nonneg mb.1, h2]
        have g99 : sdF (lawW w ls) w col.toInt i < 100 := by unfold sdF; omega
        have vk : vp_in k 100 := vpi ek (by omega) (by omega)
        refine ⟨vk, vk, vk, ?_⟩
        rw [tnN ek]
        have ea : (f (sdF (lawW w ls) w col.toInt i)).toInt = alF (hdB (lawW w ls) w) (sdF (lawW w ls) w col.toInt) i (sdF (lawW w ls) w col.toInt i) := hA _ g99
        have ab := alF_b (h := hdB (lawW w ls) w) (g := sdF (lawW w ls) w col.toInt) i (sdF (lawW w ls) w col.toInt i)
        have e1 : (f (sdF (lawW w ls) w col.toInt i) + 1).toInt = alF (hdB (lawW w ls) w) (sdF (lawW w ls) w col.toInt) i (sdF (lawW w ls) w col.toInt i) + 1 := add_z (b := 1) (y := 1) ea rfl (by omega) (by omega)
        have hA2 := hA.y hn (by omega)
        by_cases c : f (sdF (lawW w ls) w col.toInt i) + 1 ≤ s
        · have c' := le_z e1 hs c
          refine br1 c (ih (i + 1) _ _ _ _ _ _ _ _ _ (add1 hx (by omega)) (by omega) (by omega) ?_ hA2 H.2.2)
          rw [moF_y hn, if_neg (show ¬ moF (hdB (lawW w ls) w) (sdF (lawW w ls) w col.toInt) i < alF (hdB (lawW w ls) w) (sdF (lawW w ls) w col.toInt) i (sdF (lawW w ls) w col.toInt i) + 1 by omega)]
          exact hs
        · have c' := nle_z e1 hs c
          refine br0 c ⟨vk, ih (i + 1) _ _ _ _ _ _ _ _ _ (add1 hx (by omega)) (by omega) (by omega) ?_ hA2 H.2.2⟩
          rw [moF_y hn, if_pos c']
          exact e1
      · subst r0
        refine br1 rfl (ih (i + 1) _ _ _ _ _ _ _ _ _ (add1 hx (by omega)) (by omega) (by omega) ?_ (hA.n hn) hb)
        rw [moF_n hn]
        exact hs
theorem x_nmc {row nOp nArg : Nat → Int32} {now : Nat → Int64} {ls : Nat → List Cls} {w : Nat → Int} (hl : RML row ls) (hR : RMw row w) (hr : RLW row) {Qb : Int32 → Int32 → Int32 → Int32 → Int32 → Int64 → Int64 → (Nat → Int32) → (Nat → Int64) → (Nat → Int64) → Prop} (K : ∀ (x b f law broken : Int32) (value sum : Int64) (al : Nat → Int32) (set rest : Nat → Int64), b.toInt = (nxF (lawW w ls) w 8).1 → f.toInt = (nxF (lawW w ls) w 8).2 → (0 ≤ broken.toInt ∧ broken.toInt ≤ 1) → Qb x b f law broken value sum al set rest) : ∀ (m n : Nat) (x b f law broken : Int32) (value sum : Int64) (al : Nat → Int32) (set rest : Nat → Int64), x.toInt = (n : Int) → n ≤ 8 → 8 - n < m → b.toInt = (nxF (lawW w ls) w n).1 → f.toInt = (nxF (lawW w ls) w n).2 → (0 ≤ broken.toInt ∧ broken.toInt ≤ 1) → wl_X12_next_26 0 row nOp nArg now Qb m x b f law broken value sum al set rest := by
  intro m
  induction m with
  | zero => intro n x b f law broken value sum al set rest _ _ h; omega
  | succ m ih =>
    intro n x b f law broken value sum al set rest hx hi hm hb hf hB
    unfold wl_X12_next_26
    by_cases q : 8 ≤ x
    · have q' := le_z (x := 8) rfl hx q
      refine br1 q (K _ _ _ _ _ _ _ _ _ _ ?_ ?_ hB)
      · rw [show (8 : Nat) = n by omega]; exact hb
      · rw [show (8 : Nat) = n by omega]; exact hf
    · have q' := nle_z (x := 8) rfl hx q
      refine br0 q (x_nf (fun _ f36 h36 => ?_) _ 0 _ _ rfl (by decide) (by decide) (fun j hj => absurd hj (Nat.not_lt_zero _)))
      refine x_nml hl hR hr ⟨by omega, by omega⟩ (fun _ s l1 b1 v1 s1 f1 t1 p1 hs hb1 => jn_s ?_) _ 0 _ _ _ _ _ _ _ _ _ rfl (by decide) (by decide) rfl (AL.z h36) hB
      rw [hx] at hs
      by_cases c : s ≤ 0
      · have c' := le_z (y := 0) hs rfl c
        refine br1 c (br1 c (ih (n + 1) _ _ _ _ _ _ _ _ _ _ (add1 hx (by omega)) (by omega) (by omega) ?_ ?_ hb1))
        · rw [nxF_k (Or.inl c')]; exact hb
        · rw [nxF_k (Or.inl c')]; exact hf
      · have c' := nle_z (y := 0) hs rfl c
        by_cases d : f ≤ s
        · have d' := le_z hf hs d
          refine br0 c (br1 d (br0 c (br1 d (ih (n + 1) _ _ _ _ _ _ _ _ _ _ (add1 hx (by omega)) (by omega) (by omega) ?_ ?_ hb1))))
          · rw [nxF_k (Or.inr d')]; exact hb
          · rw [nxF_k (Or.inr d')]; exact hf
        · have d' := nle_z hf hs d
          have u : ¬ (moF (hdB (lawW w ls) w) (sdF (lawW w ls) w (n : Int)) 40 ≤ 0 ∨ (nxF (lawW w ls) w n).2 ≤ moF (hdB (lawW w ls) w) (sdF (lawW w ls) w (n : Int)) 40) := by omega
          refine br0 c (br0 d (br0 c (br0 d (ih (n + 1) _ _ _ _ _ _ _ _ _ _ (add1 hx (by omega)) (by omega) (by omega) ?_ ?_ hb1))))
          · rw [nxF_u u]; exact hx
          · rw [nxF_u u]; exact hs
theorem x_mnext {a law broken : Int32} {value sum : Int64} {al row nOp nArg : Nat → Int32} {rest now set : Nat → Int64} {ls : Nat → List Cls} {w : Nat → Int} (hl : RML row ls) (hR : RMw row w) (hr : RLW row) (hB : 0 ≤ broken.toInt ∧ broken.toInt ≤ 1) {Q : Int32 → (Int32 × Int32 × Int32 × Int64 × Int64 × (Nat → Int32) × (Nat → Int64) × (Nat → Int64)) → Prop} (hq : ∀ (r law' br' : Int32) (value' sum' : Int64) (al' : Nat → Int32) (set' rest' : Nat → Int64), r.toInt = nextR (lawW w ls) w a.toInt → (0 ≤ br'.toInt ∧ br'.toInt ≤ 1) → Q r (0, law', br', value', sum', al', set', rest')) : wp_X12_next a 0 law broken value sum al row set nOp nArg rest now Q := by
  have m1 : (-1 : Int32).toInt = -1 := by decide
  have a1 : a.toInt64.toInt = a.toInt := Int32.toInt_toInt64 a
  unfold wp_X12_next
  refine e_in (fun g0 g1 => br0 (by decide) ?_) (fun g => br1 rfl (hq _ _ _ _ _ _ _ _ (m1.trans (nextR_1 (by
    rw [a1] at g
    have z0 : (0 : Int64).toInt = 0 := rfl
    have z1 : (1 : Int64).toInt = 1 := rfl
    rw [z0, z1] at g
    omega)).symm) hB))
  have g0 : 0 ≤ a.toInt := by rw [a1] at g0; exact g0
  have g1 : a.toInt ≤ 1 := by rw [a1] at g1; exact g1
  refine x_nmc hl hR hr (fun x b f l1 b1 v1 s1 f1 t1 p1 hb hf hb1 => ?_) _ 0 _ _ _ _ _ _ _ _ _ _ rfl (by decide) (by decide) m1 rfl hB
  by_cases c : b = -1
  · have c' := eq_z hb m1 c
    exact br1 c (hq _ _ _ _ _ _ _ _ (hb.trans (c'.trans (nextR_2 c').symm)) hb1)
  · have c' := ne_z hb m1 c
    refine br0 c ?_
    by_cases d : a = 0
    · have d' := eq_z (x := a.toInt) (y := 0) rfl rfl d
      exact br1 d (hq _ _ _ _ _ _ _ _ (hb.trans (nextR_3 d' c').symm) hb1)
    · have d' := ne_z (x := a.toInt) (y := 0) rfl rfl d
      exact br0 d (hq _ _ _ _ _ _ _ _ (hf.trans (nextR_4 (by omega) c').symm) hb1)
