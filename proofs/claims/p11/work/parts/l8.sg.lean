/-! the told state of both sides, and what each call makes of it -/
structure Sg where
  w : Nat → Int
  U : UL
  ls : Nat → List Cls
  WI : Nat → Nat → Int
  LI : Nat → Nat → List Cls
  ft : Int
  sp : Int
  md : Int
  la : Int
  rf : Nat → Int32
  D : Option (Nat → Int)
def st_put (σ : Sg) (a b d : Int) : Sg := { σ with w := putW σ.w a b d, U := clr (putR σ.w a b d) σ.U, la := tlS (putR σ.w a b d), rf := tlR σ.rf (putR σ.w a b d) }
def st_sink (σ : Sg) (a : Int) : Sg := { σ with w := sinkW σ.w a, U := clr (sinkR σ.w a) σ.U, la := tlS (sinkR σ.w a), rf := tlR σ.rf (sinkR σ.w a) }
def st_listener (σ : Sg) (a b : Int) : Sg := { σ with w := listenerW σ.w a b, U := clr (listenerR σ.w a b) σ.U, la := tlS (listenerR σ.w a b), rf := tlR σ.rf (listenerR σ.w a b) }
def st_noise (σ : Sg) (a b : Int) : Sg := { σ with w := noiseW σ.w a b, U := clr (noiseR σ.w a b) σ.U, la := tlS (noiseR σ.w a b), rf := tlR σ.rf (noiseR σ.w a b) }
def st_terms (σ : Sg) (a b : Int) : Sg := { σ with w := termsW σ.w a b, U := clr (termsR σ.w a b) σ.U, la := tlS (termsR σ.w a b), rf := tlR σ.rf (termsR σ.w a b) }
def st_heard (σ : Sg) (a b : Int) : Sg := { σ with w := heardW σ.w a b, la := tlS (heardR σ.w a b), rf := tlR σ.rf (heardR σ.w a b) }
def st_well (σ : Sg) (a b : Int) : Sg := { σ with w := wellW σ.w a b, la := tlS (wellR σ.w a b), rf := tlR σ.rf (wellR σ.w a b) }
def st_forget (σ : Sg) : Sg := { σ with w := forgetW σ.w }
def st_force (σ : Sg) (a : Int) : Sg := { σ with w := forceW σ.w a, la := tlS (forceB σ.w a), rf := tlR σ.rf (forceB σ.w a) }
def st_dig (σ : Sg) (a b : Int) : Sg := { σ with w := digW (lawW σ.w σ.ls) σ.w a b, U := rmU (digR (lawW σ.w σ.ls) σ.w a b) 0 σ.w σ.U, la := tlS (digR (lawW σ.w σ.ls) σ.w a b), rf := tlR σ.rf (digR (lawW σ.w σ.ls) σ.w a b) }
def st_haul (σ : Sg) (a : Int) : Sg := { σ with w := haulW (lawW σ.w σ.ls) σ.w a, U := rmU (haulR (lawW σ.w σ.ls) σ.w a) 1 σ.w σ.U, la := tlS (haulR (lawW σ.w σ.ls) σ.w a), rf := tlR σ.rf (haulR (lawW σ.w σ.ls) σ.w a) }
def st_hush (σ : Sg) (a : Int) : Sg := { σ with w := hushW σ.w a, U := rmU (hushR σ.w a) 2 σ.w σ.U, la := tlS (hushR σ.w a), rf := tlR σ.rf (hushR σ.w a) }
def st_lie (σ : Sg) (a b : Int) : Sg := { σ with w := lieW σ.w a b, U := rmU (lieR σ.w a b) 3 σ.w σ.U, la := tlS (lieR σ.w a b), rf := tlR σ.rf (lieR σ.w a b) }
def st_undo (σ : Sg) : Sg := { σ with w := undoW σ.w σ.U, U := undoU σ.U, la := tlS (undoR σ.U), rf := tlR σ.rf (undoR σ.U) }
def st_row (σ : Sg) (t : Nat → Int) (n : Nat) : Sg := { σ with w := rowW t n σ.w, U := rowU n σ.U, md := rowM t n σ.w σ.md, la := tlS (rowR t n σ.w), rf := tlR σ.rf (rowR t n σ.w) }
def st_law (σ : Sg) (T : Nat → Int) (st : Nat → Nat) : Sg := { σ with w := lawWw T σ.w, ls := lawLs T σ.w σ.ls, ft := lawFt T st σ.w σ.ft, la := tlS (lawR T σ.w), rf := tlR σ.rf (lawR T σ.w) }
def st_orders (σ : Sg) (T : Nat → Int) (st : Nat → Nat) : Sg := { σ with w := ordW T σ.ls σ.w σ.U, U := ordU T σ.ls σ.w σ.U, sp := ordS T σ.ls σ.w σ.U, ft := ordT T st, la := tlS (ordR T σ.ls σ.w σ.U), rf := tlR σ.rf (ordR T σ.ls σ.w σ.U) }
def st_seasons (σ : Sg) (a b : Int) : Sg := { σ with D := seaD σ.D σ.ls σ.w a b, la := tlS (seaB σ.w a b), rf := tlR σ.rf (seaB σ.w a b) }
def st_image (σ : Sg) (a : Int) : Sg := { σ with WI := fun k => imgW a (k : Int) σ.w (σ.WI k), LI := fun k => imgL a (k : Int) σ.ls (σ.LI k), la := tlS (imgR a), rf := tlR σ.rf (imgR a) }
def st_back (σ : Sg) (kp : Nat → Int32) (a : Int) : Sg := { σ with w := bakW kp a (σ.WI 0) (σ.WI 1) σ.w, U := bakU kp a σ.U, ls := bakL kp a (σ.LI 0) (σ.LI 1) σ.ls, la := tlS (bakR kp a), rf := tlR σ.rf (bakR kp a) }
/-! the laws of the class, each with the CLAUSES it holds -/
def LWZ (txs : List TX) (f : Nat → Option Nat) (lc : Int32) (ls : Nat → List Cls) : Prop := ∀ k : Nat, (k : Int) < lc.toInt → ∃ x ∈ txs, f k = some x.1 ∧ XTx x.2.2.2.1 x.2.2.2.2.1 x.2.2.2.2.2.1 x.2.2.2.2.2.2.1 x.2.2.2.2.2.2.2.1 x.2.2.2.2.2.2.2.2 (ls k) ∧ ∀ q ∈ ls k, okC q
theorem LWZ.cp {txs : List TX} {f g : Nat → Option Nat} {lc lc' : Int32} {ls : Nat → List Cls} (h : LWZ txs f lc ls) (h6 : lc.toInt ≤ 6) (hg : ∀ k, k < 6 → g k = f k) (e : lc' = lc) : LWZ txs g lc' ls := by
  subst e
  intro k hk
  rw [hg k (by omega)]
  exact h k hk
theorem LWZ.more {txs : List TX} {x : TX} {f : Nat → Option Nat} {lc : Int32} {ls : Nat → List Cls} (h : LWZ txs f lc ls) : LWZ (x :: txs) f lc ls := fun k hk => by
  obtain ⟨y, hy, e⟩ := h k hk
  exact ⟨y, List.mem_cons_of_mem _ hy, e⟩
theorem LWZ.push {txs : List TX} {x : TX} {f : Nat → Option Nat} {lc lc' : Int32} {ls ls' : Nat → List Cls} {f' : Nat → Option Nat} {L : List Cls} (h : LWZ txs f lc ls) (h0 : 0 ≤ lc.toInt) (h6 : lc.toInt < 6) (e1 : lc' = lc + 1) (e2 : f' = va_up f lc.toNatClampNeg (some x.1)) (hX : XTx x.2.2.2.1 x.2.2.2.2.1 x.2.2.2.2.2.1 x.2.2.2.2.2.2.1 x.2.2.2.2.2.2.2.1 x.2.2.2.2.2.2.2.2 L) (hL : ∀ q ∈ L, okC q) (es : ls' = fun k => if k = lc.toInt.toNat then L else ls k) : LWZ (x :: txs) f' lc' ls' := by
  subst e1
  subst e2
  subst es
  have e : (lc + 1).toInt = lc.toInt + 1 := add_z (a := lc) (b := 1) rfl rfl (by omega) (by omega)
  have en : lc.toInt.toNat = lc.toNatClampNeg := rfl
  have n := tnz (i := lc) (x := lc.toInt) rfl h0
  intro k hk
  by_cases c : k = lc.toNatClampNeg
  · refine ⟨x, List.mem_cons_self, by rw [c, vu_s], ?_⟩
    rw [if_pos (by rw [en]; exact c)]
    exact ⟨hX, hL⟩
  · obtain ⟨y, hy, q⟩ := h k (by omega)
    rw [if_neg (by rw [en]; exact c), vu_n c]
    exact ⟨y, List.mem_cons_of_mem _ hy, q⟩
theorem LWZ.cs {txs : List TX} {f : Nat → Option Nat} {lc fo : Int32} {ls : Nat → List Cls} {z : Int} (h : LWZ txs f lc ls) (hf : fo.toInt < lc.toInt) (h6 : lc.toInt ≤ 6) (h1 : -1 ≤ fo.toInt) (hz : fo.toInt = z) : fo.toInt = -1 ∨ (0 ≤ fo.toInt ∧ fo.toInt ≤ 5 ∧ ∃ (a b : List TX) (x : TX), txs = a ++ x :: b ∧ f (Int32.toNatClampNeg fo) = some x.1 ∧ XTx x.2.2.2.1 x.2.2.2.2.1 x.2.2.2.2.2.1 x.2.2.2.2.2.2.1 x.2.2.2.2.2.2.2.1 x.2.2.2.2.2.2.2.2 (ls z.toNat) ∧ ∀ q ∈ ls z.toNat, okC q) := by
  by_cases c : fo.toInt = -1
  · exact Or.inl c
  · have en : fo.toInt.toNat = fo.toNatClampNeg := rfl
    have n := tnz (i := fo) (x := fo.toInt) rfl (by omega)
    obtain ⟨x, hx, e1, e2⟩ := h fo.toNatClampNeg (by omega)
    obtain ⟨a, b, e3⟩ := List.append_of_mem hx
    rw [← en, hz] at e2
    exact Or.inr ⟨by omega, by omega, a, b, x, e3, e1, e2⟩
theorem LWZ.bak {txs : List TX} {f f0 f1 g : Nat → Option Nat} {lc l0 l1 lc' fo fo0 fo1 fo' : Int32} {ls L0 L1 : Nat → List Cls} {kp : Nat → Int32} {a : Int32} (h : LWZ txs f lc ls) (h6 : lc.toInt ≤ 6) (hk0 : kp 0 ≠ 0 → LWZ txs f0 l0 L0) (hk1 : kp 1 ≠ 0 → LWZ txs f1 l1 L1) (h60 : l0.toInt ≤ 6) (h61 : l1.toInt ≤ 6) (q : (bakR kp a.toInt < 0 → ((∀ k, k < 6 → g k = f k) ∧ lc' = lc ∧ fo' = fo)) ∧ (¬ bakR kp a.toInt < 0 → (a.toInt = 0 → ((∀ k, k < 6 → g k = f0 k) ∧ lc' = l0 ∧ fo' = fo0)) ∧ (¬ a.toInt = 0 → ((∀ k, k < 6 → g k = f1 k) ∧ lc' = l1 ∧ fo' = fo1)))) : LWZ txs g lc' (bakL kp a.toInt L0 L1 ls) := by
  by_cases c : bakR kp a.toInt < 0
  · have q2 := q.1 c
    unfold bakL
    rw [if_pos c]
    exact h.cp h6 q2.1 q2.2.1
  · have q2 := q.2 c
    have b0 : ¬ (a.toInt < 0 ∨ 2 ≤ a.toInt) := fun d => c (by rw [bakR_n d]; decide)
    have kk : ¬ kp a.toInt.toNat = 0 := fun d => c (by unfold bakR; rw [if_neg b0, if_pos d]; decide)
    unfold bakL
    rw [if_neg c]
    by_cases d : a.toInt = 0
    · rw [if_pos d]
      rw [d] at kk
      exact (hk0 kk).cp h60 (q2.1 d).1 (q2.1 d).2.1
    · rw [if_neg d]
      have d1 : a.toInt = 1 := by omega
      rw [d1] at kk
      exact (hk1 kk).cp h61 (q2.2 d).1 (q2.2 d).2.1
theorem LWZ.img {txs : List TX} {f g : Nat → Option Nat} {f0 : Nat → Option Nat} {lc l0 lc' fo fo0 fo' : Int32} {ls L0 : Nat → List Cls} {kp : Nat → Int32} {a : Int32} {k : Nat} (h : LWZ txs f lc ls) (h6 : lc.toInt ≤ 6) (hk : kp k ≠ 0 → LWZ txs f0 l0 L0) (h60 : l0.toInt ≤ 6) (q : (a.toInt = (k : Int) → ((∀ k, k < 6 → g k = f k) ∧ lc' = lc ∧ fo' = fo)) ∧ (¬ a.toInt = (k : Int) → ((∀ k, k < 6 → g k = f0 k) ∧ lc' = l0 ∧ fo' = fo0))) : kpI a kp k ≠ 0 → LWZ txs g lc' (imgL a.toInt (k : Int) ls L0) := by
  intro hkk
  by_cases c : a.toInt = (k : Int)
  · rw [imgL_y c]
    exact h.cp h6 (q.1 c).1 (q.1 c).2.1
  · rw [imgL_n c]
    refine LWZ.cp (hk ?_) h60 (q.2 c).1 (q.2 c).2.1
    by_cases d : 0 ≤ a.toInt ∧ a.toInt ≤ 1
    · rw [← kp_p d.1 d.2] at hkk
      have en : a.toInt.toNat = a.toNatClampNeg := rfl
      have z : upd kp a.toNatClampNeg 1 k = kp k := if_neg (by omega)
      rw [z] at hkk
      exact hkk
    · rw [← kp_n (by omega)] at hkk
      exact hkk
/-! what law() of the class makes of the plain state -/
theorem z_law_w {T : Nat → Int} {w : Nat → Int} (h : lawR T w < 0) : lawWw T w = w := if_pos h
theorem z_law_w1 {T : Nat → Int} {w : Nat → Int} (h : ¬ lawR T w < 0) : lawWw T w = uI w 5 (w 5 + 1) := if_neg h
theorem z_law_l {T : Nat → Int} {w : Nat → Int} {ls : Nat → List Cls} (h : lawR T w < 0) : lawLs T w ls = ls := if_pos h
theorem z_law_l1 {T : Nat → Int} {w : Nat → Int} {ls : Nat → List Cls} (h : ¬ lawR T w < 0) : lawLs T w ls = fun k => if k = (w 5).toNat then (rd_law T).2.2 else ls k := if_neg h
theorem z_law_rx0 {T : Nat → Int} {kd hd wt : Nat → Int32} {dg : Int64} {ce bu : Nat → Int32} {cc : Int32} {co ea : Nat → Int32} {ls : Int32} {nc nl : Nat → Int32} {ns hu : Int32} {hc hl : Nat → Int32} {hs : Int32} {so we : Nat → Int32} {wl : Int32} {te : Nat → Int32} {lc fo : Int32} {w : Nat → Int} {lc' : Int32} (h : RXw kd hd wt dg ce bu cc co ea ls nc nl ns hu hc hl hs so we wl te lc fo w) (q : lawR T w < 0) (e : lc' = lc) : RXw kd hd wt dg ce bu cc co ea ls nc nl ns hu hc hl hs so we wl te lc' fo (lawWw T w) := by
  rw [z_law_w q, e]; exact h
theorem z_law_rx1 {T : Nat → Int} {kd hd wt : Nat → Int32} {dg : Int64} {ce bu : Nat → Int32} {cc : Int32} {co ea : Nat → Int32} {ls : Int32} {nc nl : Nat → Int32} {ns hu : Int32} {hc hl : Nat → Int32} {hs : Int32} {so we : Nat → Int32} {wl : Int32} {te : Nat → Int32} {lc fo : Int32} {w : Nat → Int} {lc' : Int32} (h : RXw kd hd wt dg ce bu cc co ea ls nc nl ns hu hc hl hs so we wl te lc fo w) (q : ¬ lawR T w < 0) (h0 : 0 ≤ lc.toInt) (h6 : lc.toInt < 6) (e : lc' = lc + 1) : RXw kd hd wt dg ce bu cc co ea ls nc nl ns hu hc hl hs so we wl te lc' fo (lawWw T w) := by
  have e5 : lc.toInt = w 5 := h.lc
  rw [z_law_w1 q, e]
  exact RXw.u_lc h (by rw [add_z e5 (b := 1) (y := 1) rfl (by omega) (by omega)])
theorem z_law_ru {T : Nat → Int} {de wh be bb db : Nat → Int32} {kp lt : Int32} {w : Nat → Int} {U : UL} (hD : DI de wh be bb db) (h : RXu de wh be bb db kp lt w U) : RXu de wh be bb db kp lt (lawWw T w) U := by
  refine RXu.ext hD h (fun j h7 h1 => ?_)
  unfold lawWw
  split
  · rfl
  · exact uI_n (by omega)
theorem z_force_lt {w : Nat → Int} {a : Int} {fo' lc : Int32} (hf : fo'.toInt = forceW w a 6) (h5 : lc.toInt = w 5) (h : w 6 < w 5) : fo'.toInt < lc.toInt := by
  by_cases c : a < -1 ∨ w 5 ≤ a
  · have e : forceB w a = -2 := if_pos c
    have e2 : forceW w a = w := if_pos (by rw [e]; decide)
    rw [e2] at hf
    omega
  · have e : forceB w a = 0 := if_neg c
    have e2 : forceW w a = uI w 6 a := if_neg (by rw [e]; decide)
    rw [e2, uI_s] at hf
    omega
