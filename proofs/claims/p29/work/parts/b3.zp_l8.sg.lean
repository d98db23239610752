/-! the told state: the laws of the class -/
abbrev ODr : Type := Option (Nat → Int)
/-! the laws of the class, each with the CLAUSES it holds -/
def LWZ (txs : List TX) (f : Nat → Option Nat) (lc : Int32) (ls : Nat → List Cls) : Prop := ∀ k : Nat, (k : Int) < lc.toInt → ∃ x ∈ txs, f k = some x.1 ∧ XTx x.2.2.2.1 x.2.2.2.2.1 x.2.2.2.2.2.1 x.2.2.2.2.2.2.1 x.2.2.2.2.2.2.2.1 x.2.2.2.2.2.2.2.2 (ls k) ∧ ∀ q ∈ ls k, okC q
theorem LWZ.cp {txs : List TX} {f g : Nat → Option Nat} {lc lc' : Int32} {ls : Nat → List Cls} (h : LWZ txs f lc ls) (h6 : lc.toInt ≤ 6) (hg : ∀ k, k < 6 → g k = f k) (e : lc' = lc) : LWZ txs g lc' ls := by
  subst e
  intro k hk
  rw [hg k (by omega)]
  exact h k hk
theorem LWZ.more {txs : List TX} {x : TX} {f : Nat → Option Nat} {lc : Int32} {ls : Nat → List Cls} (h : LWZ txs f lc ls) : LWZ (x :: txs) f lc ls := fun k hk => by
  obtain ⟨y, hy, e⟩ := h k hk
  exact ⟨y, List.mem_cons_of_mem _ hy, e⟩
theorem LWZ.push {txs : List TX} {x : TX} {f : Nat → Option Nat} {lc lc' : Int32} {ls ls' : Nat → List Cls} {f' : Nat → Option Nat} {L : List Cls} (h : LWZ txs f lc ls) (h0 : 0 ≤ lc.toInt) (h6 : lc.toInt < 6) (e1 : lc' = lc + 1) (e2 : f' = va_up f lc.toNatClampNeg (some x.1)) (hX : XTx x.2.2.2.1 x.2.2.2.2.1 x.2.2.2.2.2.1 x.2.2.2.2.2.2.1 x.2.2.2.2.2.2.2.1 x.2.2.2.2.2.2.2.2 L) (hL : ∀ q ∈ L, okC q) (es : ls' = fun k => if k = lc.toInt.toNat then L else ls k) : LWZ (x :: txs) f' lc' ls' := by
  subst e1
  subst e2
  subst es
  have e : (lc + 1).toInt = lc.toInt + 1 := add_z (a := lc) (b := 1) rfl rfl (by omega) (by omega)
  have en : lc.toInt.toNat = lc.toNatClampNeg := rfl
  have n := tnz (i := lc) (x := lc.toInt) rfl h0
  intro k hk
  by_cases c : k = lc.toNatClampNeg
  · have z : (if k = lc.toInt.toNat then L else ls k) = L := if_pos (by rw [en]; exact c)
    refine ⟨x, List.mem_cons_self, by rw [c, vu_s], ?_⟩
    show XTx _ _ _ _ _ _ (if k = lc.toInt.toNat then L else ls k) ∧ ∀ q ∈ (if k = lc.toInt.toNat then L else ls k), okC q
    rw [z]
    exact ⟨hX, hL⟩
  · obtain ⟨y, hy, q1, q2, q3⟩ := h k (by omega)
    have z : (if k = lc.toInt.toNat then L else ls k) = ls k := if_neg (by rw [en]; exact c)
    refine ⟨y, List.mem_cons_of_mem _ hy, by rw [vu_n c]; exact q1, ?_⟩
    show XTx _ _ _ _ _ _ (if k = lc.toInt.toNat then L else ls k) ∧ ∀ q ∈ (if k = lc.toInt.toNat then L else ls k), okC q
    rw [z]
    exact ⟨q2, q3⟩
theorem LWZ.cs {txs : List TX} {f : Nat → Option Nat} {lc fo : Int32} {ls : Nat → List Cls} {z : Int} (h : LWZ txs f lc ls) (hf : fo.toInt < lc.toInt) (h6 : lc.toInt ≤ 6) (h1 : -1 ≤ fo.toInt) (hz : fo.toInt = z) : fo.toInt = -1 ∨ (0 ≤ fo.toInt ∧ fo.toInt ≤ 5 ∧ ∃ (a b : List TX) (x : TX), txs = a ++ x :: b ∧ f (Int32.toNatClampNeg fo) = some x.1 ∧ XTx x.2.2.2.1 x.2.2.2.2.1 x.2.2.2.2.2.1 x.2.2.2.2.2.2.1 x.2.2.2.2.2.2.2.1 x.2.2.2.2.2.2.2.2 (ls z.toNat) ∧ ∀ q ∈ ls z.toNat, okC q) := by
  by_cases c : fo.toInt = -1
  · exact Or.inl c
  · have en : fo.toInt.toNat = fo.toNatClampNeg := rfl
    have n := tnz (i := fo) (x := fo.toInt) rfl (by omega)
    obtain ⟨x, hx, e1, e2⟩ := h fo.toNatClampNeg (by omega)
    obtain ⟨a, b, e3⟩ := List.append_of_mem hx
    rw [← en, hz] at e2
    exact Or.inr ⟨by omega, by omega, a, b, x, e3, e1, e2⟩
theorem LWZ.bak {txs : List TX} {f f0 f1 g : Nat → Option Nat} {lc l0 l1 lc' fo fo0 fo1 fo' : Int32} {ls L0 L1 : Nat → List Cls} {kp : Nat → Int32} {a : Int32} (h : LWZ txs f lc ls) (h6 : lc.toInt ≤ 6) (hk0 : kp 0 ≠ 0 → LWZ txs f0 l0 L0) (hk1 : kp 1 ≠ 0 → LWZ txs f1 l1 L1) (h60 : l0.toInt ≤ 6) (h61 : l1.toInt ≤ 6) (q : (bakR kp a.toInt < 0 → ((∀ k, k < 6 → g k = f k) ∧ lc' = lc ∧ fo' = fo)) ∧ (¬ bakR kp a.toInt < 0 → (a.toInt = 0 → ((∀ k, k < 6 → g k = f0 k) ∧ lc' = l0 ∧ fo' = fo0)) ∧ (¬ a.toInt = 0 → ((∀ k, k < 6 → g k = f1 k) ∧ lc' = l1 ∧ fo' = fo1)))) : LWZ txs g lc' (bakL kp a.toInt L0 L1 ls) := by
  by_cases c : bakR kp a.toInt < 0
  · have q2 := q.1 c
    unfold bakL
    rw [if_pos c]
    exact h.cp h6 q2.1 q2.2.1
  · have q2 := q.2 c
    have b0 : ¬ (a.toInt < 0 ∨ 2 ≤ a.toInt) := fun d => c (by rw [bakR_n d]; decide)
    have kk : ¬ kp a.toInt.toNat = 0 := fun d => c (by unfold bakR; rw [if_neg b0, if_pos d]; decide)
    unfold bakL
    rw [if_neg c]
    by_cases d : a.toInt = 0
    · rw [if_pos d]
      rw [d] at kk
      exact (hk0 kk).cp h60 (q2.1 d).1 (q2.1 d).2.1
    · rw [if_neg d]
      have d1 : a.toInt = 1 := by omega
      rw [d1] at kk
      exact (hk1 kk).cp h61 (q2.2 d).1 (q2.2 d).2.1
theorem LWZ.img {txs : List TX} {f g : Nat → Option Nat} {f0 : Nat → Option Nat} {lc l0 lc' fo fo0 fo' : Int32} {ls L0 : Nat → List Cls} {kp : Nat → Int32} {a : Int32} {k : Nat} (h : LWZ txs f lc ls) (h6 : lc.toInt ≤ 6) (hk : kp k ≠ 0 → LWZ txs f0 l0 L0) (h60 : l0.toInt ≤ 6) (q : (a.toInt = (k : Int) → ((∀ k, k < 6 → g k = f k) ∧ lc' = lc ∧ fo' = fo)) ∧ (¬ a.toInt = (k : Int) → ((∀ k, k < 6 → g k = f0 k) ∧ lc' = l0 ∧ fo' = fo0))) : kpI a kp k ≠ 0 → LWZ txs g lc' (imgL a.toInt (k : Int) ls L0) := by
  intro hkk
  by_cases c : a.toInt = (k : Int)
  · rw [imgL_y c]
    exact h.cp h6 (q.1 c).1 (q.1 c).2.1
  · rw [imgL_n c]
    refine LWZ.cp (hk ?_) h60 (q.2 c).1 (q.2 c).2.1
    by_cases d : 0 ≤ a.toInt ∧ a.toInt ≤ 1
    · rw [← kp_p d.1 d.2] at hkk
      have en : a.toInt.toNat = a.toNatClampNeg := rfl
      have z : upd kp a.toNatClampNeg 1 k = kp k := if_neg (by omega)
      rw [z] at hkk
      exact hkk
    · rw [← kp_n (by omega)] at hkk
      exact hkk
/-! what law() of the class makes of the plain state -/
theorem z_law_w {T : Nat → Int} {w : Nat → Int} (h : lawR T w < 0) : lawWw T w = w := if_pos h
theorem z_law_w1 {T : Nat → Int} {w : Nat → Int} (h : ¬ lawR T w < 0) : lawWw T w = uI w 5 (w 5 + 1) := if_neg h
theorem z_law_l {T : Nat → Int} {w : Nat → Int} {ls : Nat → List Cls} (h : lawR T w < 0) : lawLs T w ls = ls := if_pos h
theorem z_law_l1 {T : Nat → Int} {w : Nat → Int} {ls : Nat → List Cls} (h : ¬ lawR T w < 0) : lawLs T w ls = fun k => if k = (w 5).toNat then (rd_law T).2.2 else ls k := if_neg h
theorem z_law_rx0 {T : Nat → Int} {kd hd wt : Nat → Int32} {dg : Int64} {ce bu : Nat → Int32} {cc : Int32} {co ea : Nat → Int32} {ls : Int32} {nc nl : Nat → Int32} {ns hu : Int32} {hc hl : Nat → Int32} {hs : Int32} {so we : Nat → Int32} {wl : Int32} {te : Nat → Int32} {lc fo : Int32} {w : Nat → Int} {lc' : Int32} (h : RXw kd hd wt dg ce bu cc co ea ls nc nl ns hu hc hl hs so we wl te lc fo w) (q : lawR T w < 0) (e : lc' = lc) : RXw kd hd wt dg ce bu cc co ea ls nc nl ns hu hc hl hs so we wl te lc' fo (lawWw T w) := by
  rw [z_law_w q, e]; exact h
theorem z_law_rx1 {T : Nat → Int} {kd hd wt : Nat → Int32} {dg : Int64} {ce bu : Nat → Int32} {cc : Int32} {co ea : Nat → Int32} {ls : Int32} {nc nl : Nat → Int32} {ns hu : Int32} {hc hl : Nat → Int32} {hs : Int32} {so we : Nat → Int32} {wl : Int32} {te : Nat → Int32} {lc fo : Int32} {w : Nat → Int} {lc' : Int32} (h : RXw kd hd wt dg ce bu cc co ea ls nc nl ns hu hc hl hs so we wl te lc fo w) (q : ¬ lawR T w < 0) (h0 : 0 ≤ lc.toInt) (h6 : lc.toInt < 6) (e : lc' = lc + 1) : RXw kd hd wt dg ce bu cc co ea ls nc nl ns hu hc hl hs so we wl te lc' fo (lawWw T w) := by
  have e5 : lc.toInt = w 5 := h.lc
  rw [z_law_w1 q, e]
  exact RXw.u_lc h (by rw [add_z e5 (b := 1) (y := 1) rfl (by omega) (by omega)])
theorem z_law_ru {T : Nat → Int} {de wh be bb db : Nat → Int32} {kp lt : Int32} {w : Nat → Int} {U : UL} (hD : DI de wh be bb db) (h : RXu de wh be bb db kp lt w U) : RXu de wh be bb db kp lt (lawWw T w) U := by
  refine RXu.ext hD h (fun j h7 h1 => ?_)
  unfold lawWw
  split
  · rfl
  · exact uI_n (by omega)
theorem z_force_lt {w : Nat → Int} {a : Int} {fo' lc : Int32} (hf : fo'.toInt = forceW w a 6) (h5 : lc.toInt = w 5) (h : w 6 < w 5) : fo'.toInt < lc.toInt := by
  by_cases c : a < -1 ∨ w 5 ≤ a
  · have e : forceB w a = -2 := if_pos c
    have e2 : forceW w a = w := if_pos (by rw [e]; decide)
    rw [e2] at hf
    omega
  · have e : forceB w a = 0 := if_neg c
    have e2 : forceW w a = uI w 6 a := if_neg (by rw [e]; decide)
    rw [e2, uI_s] at hf
    omega
