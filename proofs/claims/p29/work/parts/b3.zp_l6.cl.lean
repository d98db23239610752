/-! law() of the class: what it answers and what stands behind it, with the ranges -/
theorem z_claw {cs : Nat → ClassId} {tp : Nat → Int32} {n : Nat} {st en : Nat → Nat} {T : Nat → Int} (hL : Lex tp n st en T) {lc len tc now parts ao fp : Int32} (hn : len.toInt = (n : Int)) (h4 : n ≤ 400) {w : Nat → Int} (hlc : lc.toInt = w 5) (h56 : 0 ≤ w 5 ∧ w 5 ≤ 6) (hB : BY tp) (htc : 0 ≤ tc.toInt ∧ tc.toInt ≤ 401) (hao : 0 ≤ ao.toInt ∧ ao.toInt ≤ 1) {dc dl : Int32} (hdc : 0 ≤ dc.toInt ∧ dc.toInt ≤ 12) (hdl : 0 ≤ dl.toInt ∧ dl.toInt ≤ 400) {tk pl dh dcd : Nat → Int32} (hH : HD dh) (hC : CD dcd) {laws : Nat → Option Nat} {rfs rf : Nat → Int32} (hF : RF rfs rf) {fp0 : Int} (hfp : fp.toInt = fp0) {xe : XE} (hx : isRf xe.2.2) {Q : Int32 → (Int32 × Int32 × Int32 × Int32 × Int32 × Int32 × Int32 × Int32 × (Nat → Int32) × (Nat → Int32) × Int32 × Int32 × (Nat → Int32) × (Nat → Int32) × (Nat → Option Nat) × (Nat → Int32) × va_W) → Prop}
    (hq : ∀ (r la lc' len' tc' now' parts' ao' fp' : Int32) (tk' pl' : Nat → Int32) (dc' dl' : Int32) (dh' dcd' : Nat → Int32) (laws' : Nat → Option Nat) (rfs' : Nat → Int32) (nw : va_W), len' = 0 ∧ (0 ≤ tc'.toInt ∧ tc'.toInt ≤ 401) ∧ (0 ≤ ao'.toInt ∧ ao'.toInt ≤ 1) ∧ (0 ≤ dc'.toInt ∧ dc'.toInt ≤ 12) ∧ (0 ≤ dl'.toInt ∧ dl'.toInt ≤ 400) ∧ HD dh' ∧ CD dcd' ∧ r.toInt = lawR T w ∧ la.toInt = tlS (lawR T w) ∧ RF rfs' (tlR rf (lawR T w)) ∧ fp'.toInt = lawFt T st w fp0 ∧ ((lawR T w < 0 ∧ nw = [] ∧ lc' = lc ∧ laws' = laws) ∨ (¬ lawR T w < 0 ∧ lawR T w = w 5 ∧ (rd_law T).1 = true ∧ ∃ x : TX, okT x ∧ nw = txc cs x ∧ lc.toInt < 6 ∧ lc' = lc + 1 ∧ laws' = va_up laws lc.toNatClampNeg (some x.1) ∧ XTx x.2.2.2.1 x.2.2.2.2.1 x.2.2.2.2.2.1 x.2.2.2.2.2.2.1 x.2.2.2.2.2.2.2.1 x.2.2.2.2.2.2.2.2 (rd_law T).2.2)) → Q r (la, lc', len', tc', now', parts', ao', fp', tk', pl', dc', dl', dh', dcd', laws', rfs', nw)) : wp_X11_law cs lc len tc now parts ao fp tp tk pl dc dl dh dcd laws rfs xe Q := by
  obtain ⟨M, hM⟩ : ∃ M : Nat, lc.toInt = (M : Int) := ⟨lc.toInt.toNat, by omega⟩
  refine cm_X11_law (Q1 := fun r u => ∃ (la lc' len' tc' now' parts' ao' fp' : Int32) (tk' pl' : Nat → Int32) (dc' dl' : Int32) (dh' dcd' : Nat → Int32) (laws' : Nat → Option Nat) (rfs' : Nat → Int32) (nw : va_W), u = (la, lc', len', tc', now', parts', ao', fp', tk', pl', dc', dl', dh', dcd', laws', rfs', nw) ∧ r.toInt = lawR T w ∧ la.toInt = tlS (lawR T w) ∧ RF rfs' (tlR rf (lawR T w)) ∧ fp'.toInt = lawFt T st w fp0 ∧ ((lawR T w < 0 ∧ nw = []) ∨ (¬ lawR T w < 0 ∧ lawR T w = w 5 ∧ (rd_law T).1 = true ∧ ¬ nw = [] ∧ ∀ x : TX, nw = txc cs x → XTx x.2.2.2.1 x.2.2.2.2.1 x.2.2.2.2.2.1 x.2.2.2.2.2.2.1 x.2.2.2.2.2.2.2.1 x.2.2.2.2.2.2.2.2 (rd_law T).2.2)))
    (Q2 := fun _ u => ∃ (la lc' len' tc' now' parts' ao' fp' : Int32) (tk' pl' : Nat → Int32) (dc' dl' : Int32) (dh' dcd' : Nat → Int32) (laws' : Nat → Option Nat) (rfs' : Nat → Int32) (nw : va_W), u = (la, lc', len', tc', now', parts', ao', fp', tk', pl', dc', dl', dh', dcd', laws', rfs', nw) ∧ len' = 0 ∧ (0 ≤ tc'.toInt ∧ tc'.toInt ≤ 401) ∧ (0 ≤ ao'.toInt ∧ ao'.toInt ≤ 1) ∧ (0 ≤ dc'.toInt ∧ dc'.toInt ≤ 12) ∧ (0 ≤ dl'.toInt ∧ dl'.toInt ≤ 400) ∧ HD dh' ∧ CD dcd' ∧ ((nw = [] ∧ lc' = lc ∧ laws' = laws) ∨ ∃ x : TX, okT x ∧ nw = txc cs x ∧ lc.toInt < 6 ∧ lc' = lc + 1 ∧ laws' = va_up laws lc.toNatClampNeg (some x.1)))
    (x_claw hL hn h4 hM (by omega) hx (fun h6 => ?_) (fun m6 ok r tc' now' parts' dc' dl' tk' pl' dh' dcd' fh fk q1 q2 q3 nh nk k1 k2 => ?_) (fun m6 no tc' now' parts' fp' dc' dl' tk' pl' dh' dcd' k1 => ?_)) (s_X11_lawX (by omega) (by omega) hB htc hao hdc hdl hH hC hx (fun r la lc' len' tc' now' parts' ao' fp' tk' pl' dc' dl' dh' dcd' laws' rfs' nw k => ⟨_, _, _, _, _, _, _, _, _, _, _, _, _, _, _, _, _, rfl, k⟩)) (fun r u g1 g2 => ?_)
  · have z := lawR_6 (T := T) (st := st) (ls := fun _ => []) (fp := fp0) (show 6 ≤ w 5 by omega)
    refine ⟨_, _, _, _, _, _, _, _, _, _, _, _, _, _, _, _, _, rfl, ?_, ?_, ?_, ?_, Or.inl ⟨?_, rfl⟩⟩
    · rw [z.1]; decide
    · rw [z.1]; decide
    · rw [z.1]; unfold tlR; rw [if_pos (by decide)]; exact hF.up (by decide)
    · rw [z.2.2.2]; exact hfp
    · rw [z.1]; decide
  · have z := lawR_1 (T := T) (st := st) (ls := fun _ => []) (fp := fp0) (show ¬ 6 ≤ w 5 by omega) (by omega) ok
    refine ⟨_, _, _, _, _, _, _, _, _, _, _, _, _, _, _, _, _, rfl, ?_, ?_, ?_, ?_, Or.inr ⟨?_, z.1, ok, fun h => ?_, fun x e => ?_⟩⟩
    · rw [z.1]; omega
    · rw [z.1]; unfold tlS; rw [if_neg (by omega)]; rfl
    · rw [z.1]; unfold tlR; rw [if_neg (by omega)]; exact hF
    · rw [z.2.2.2]; decide
    · rw [z.1]; omega
    · cases h
    · obtain ⟨x1, x2, x3, x4, x5, x6, x7, x8, x9⟩ := x
      simp only [txc, List.cons.injEq, Prod.mk.injEq, Sum.inr.injEq, Sum.inl.injEq, Value.ref.injEq, Value.int.injEq, and_true, true_and] at e
      obtain ⟨⟨e1, e2, e3, e4, e5⟩, ⟨_, e6, e7⟩, _, e8, e9⟩ := e
      show XTx x4 x5 x6 x7 x8 x9 _
      rw [← e4, ← e5, ← e6, ← e7, ← e8, ← e9]
      exact k2
  · have z := lawR_0 (T := T) (st := st) (ls := fun _ => []) (fp := fp0) (show ¬ 6 ≤ w 5 by omega) no
    refine ⟨_, _, _, _, _, _, _, _, _, _, _, _, _, _, _, _, _, rfl, ?_, ?_, ?_, ?_, Or.inl ⟨?_, rfl⟩⟩
    · rw [z.1]; decide
    · rw [z.1]; decide
    · rw [z.1]; unfold tlR; rw [if_pos (by decide)]; exact hF.up (by decide)
    · rw [z.2.2.2]; exact k1
    · rw [z.1]; decide
  · obtain ⟨la, lc', len', tc', now', parts', ao', fp', tk', pl', dc', dl', dh', dcd', laws', rfs', nw, eu, k1, k2, k3, k4, k5⟩ := g1
    obtain ⟨la2, lc2, len2, tc2, now2, parts2, ao2, fp2, tk2, pl2, dc2, dl2, dh2, dcd2, laws2, rfs2, nw2, eu2, m1, m2, m3, m4, m5, m6, m7, m8⟩ := g2
    subst eu
    simp only [Prod.mk.injEq] at eu2
    obtain ⟨rfl, rfl, rfl, rfl, rfl, rfl, rfl, rfl, rfl, rfl, rfl, rfl, rfl, rfl, rfl, rfl, rfl⟩ := eu2
    refine hq _ _ _ _ _ _ _ _ _ _ _ _ _ _ _ _ _ _ ⟨m1, m2, m3, m4, m5, m6, m7, k1, k2, k3, k4, ?_⟩
    rcases k5 with ⟨k5, k6⟩ | ⟨k5, k6, k7, k8, k9⟩
    · rcases m8 with m8 | ⟨x, o1, o2, o3⟩
      · exact Or.inl ⟨k5, m8⟩
      · rw [o2] at k6; cases k6
    · rcases m8 with m8 | ⟨x, o1, o2, o3, o4, o5⟩
      · exact absurd m8.1 k8
      · exact Or.inr ⟨k5, k6, k7, x, o1, o2, o3, o4, o5, k9 x o2⟩
