/-! gangs: which CELLS are told, what each costs; the reference's answer -/
/-- the k-th CELL of those below i that are told -/
def gkA (a : Int64) : Nat → Nat → Nat
  | 0, _ => 0
  | c + 1, k => if bt a c = true ∧ k = cbB (bt a) c then c else gkA a c k
theorem gkA_b {a : Int64} {k : Nat} : ∀ i, i ≤ 40 → gkA a i k ≤ 39 := by
  intro i
  induction i with
  | zero => intro _; show 0 ≤ 39; decide
  | succ i ih =>
    intro h
    show (if bt a i = true ∧ k = cbB (bt a) i then i else gkA a i k) ≤ 39
    by_cases q : bt a i = true ∧ k = cbB (bt a) i
    · rw [if_pos q]; omega
    · rw [if_neg q]; exact ih (by omega)
theorem gkA_1 {a : Int64} {i : Nat} (h : bt a i = true) : gkA a (i + 1) (cbB (bt a) i) = i := if_pos ⟨h, rfl⟩
theorem gkA_2 {a : Int64} {i k : Nat} (h : k < cbB (bt a) i) : gkA a (i + 1) k = gkA a i k := if_neg (fun q => by have := q.2; omega)
theorem gkA_3 {a : Int64} {i k : Nat} (h : ¬ bt a i = true) : gkA a (i + 1) k = gkA a i k := if_neg (fun q => h q.1)
theorem cbB_1 {p : Nat → Bool} {i : Nat} (h : p i = true) : cbB p (i + 1) = cbB p i + 1 := by
  show cbB p i + (if p i = true then 1 else 0) = _
  rw [if_pos h]
theorem cbB_0 {p : Nat → Bool} {i : Nat} (h : ¬ p i = true) : cbB p (i + 1) = cbB p i := by
  show cbB p i + (if p i = true then 1 else 0) = _
  rw [if_neg h]
  rfl
theorem cbB_mn {p : Nat → Bool} {i : Nat} : ∀ k, cbB p i ≤ cbB p (i + k) := by
  intro k
  induction k with
  | zero => exact Nat.le_refl _
  | succ k ih =>
    show cbB p i ≤ cbB p (i + k) + (if p (i + k) = true then 1 else 0)
    omega
theorem cbB_le2 {p : Nat → Bool} {i j : Nat} (h : i ≤ j) : cbB p i ≤ cbB p j := by
  have q := cbB_mn (p := p) (i := i) (j - i)
  rw [show i + (j - i) = j by omega] at q
  exact q
/-- none is told behind i: all stays -/
theorem gkA_h {a : Int64} {i : Nat} : ∀ n, cbB (bt a) (i + n) = cbB (bt a) i → ∀ k, gkA a (i + n) k = gkA a i k := by
  intro n
  induction n with
  | zero => intro _ k; rfl
  | succ n ih =>
    intro h k
    have m1 := cbB_mn (p := bt a) (i := i) n
    by_cases q : bt a (i + n) = true
    · have e : cbB (bt a) (i + n + 1) = cbB (bt a) (i + n) + 1 := cbB_1 q
      have h2 : cbB (bt a) (i + n + 1) = cbB (bt a) i := h
      omega
    · have e : cbB (bt a) (i + n + 1) = cbB (bt a) (i + n) := cbB_0 q
      have h2 : cbB (bt a) (i + n + 1) = cbB (bt a) i := h
      have t : gkA a (i + n + 1) k = gkA a (i + n) k := gkA_3 q
      exact t.trans (ih (by omega) k)
/-- what it costs a SHAFT to come to a told CELL -/
noncomputable def prG (F : Option (List Cls)) (w : Nat → Int) (a : Int64) : Nat → Nat → Int := fun s j => dwB F w (s : Int) ((gkA a 40 j : Nat) : Int)
theorem dwD_b {F : Option (List Cls)} {w : Nat → Int} {s : Int} {g : Nat} {c : Nat} (hc : c < 40) : 0 ≤ dwD F w s g c ∧ dwD F w s g c ≤ 1000000 ∧ (dwD F w s g c < 1000000 → dwD F w s g c ≤ 3960) := by
  by_cases e : ∃ D, LD (DWP F w s g) (DWC F w s) g 1000000 D
  · obtain ⟨D, hD⟩ := e
    have ld : LD (DWP F w s g) (DWC F w s) g 1000000 (dwD F w s g) := hD.ld
    exact ⟨(ld.2.1 c hc).1, (ld.2.1 c hc).2, fun q => ld.sm DWC1 hc q⟩
  · have q : dwD F w s g = fun _ => 1000000 := dif_neg e
    rw [q]
    exact ⟨by show (0 : Int) ≤ 1000000; decide, Int.le_refl _, fun h => absurd h (by show ¬ (1000000 : Int) < 1000000; decide)⟩
theorem dwB_b {F : Option (List Cls)} {w : Nat → Int} {s g : Int} (h : cl0 w s < 40) : 0 ≤ dwB F w s g ∧ dwB F w s g ≤ 1000000 ∧ (dwB F w s g < 1000000 → dwB F w s g ≤ 3960) := by
  unfold dwB
  by_cases c : s < 0 ∨ w 0 ≤ s ∨ g < 0 ∨ 39 < g
  · rw [if_pos c]; omega
  · rw [if_neg c]
    by_cases d : 2 ≤ w (113 + cl0 w s)
    · rw [if_pos d]; omega
    · rw [if_neg d]; exact dwD_b h
theorem prG_b {F : Option (List Cls)} {w : Nat → Int} {a : Int64} {n m : Nat} (hn : n ≤ 6) (h : ∀ s, s < 6 → 0 ≤ w (10 + s) ∧ w (10 + s) ≤ 39) : PRB (prG F w a) n m := fun s hs j _ => dwB_b (by
  have q := h s (by omega)
  show (w (10 + ((s : Int)).toNat)).toNat < 40
  have e : ((s : Int)).toNat = s := rfl
  rw [e]
  omega)
noncomputable def gaW (F : Option (List Cls)) (w : Nat → Int) (a : Int64) : Int := fwF (prG F w a) (w 0).toNat (cbB (bt a) 40) (w 0).toNat (2 ^ cbB (bt a) 40 - 1)
noncomputable def gaX (F : Option (List Cls)) (w : Nat → Int) (a : Int64) (i : Nat) : Int := gvF (cbB (bt a) 40) (fun j => ((gkA a 40 j : Nat) : Int)) ((gwF (prG F w a) (w 0).toNat (cbB (bt a) 40) (w 0).toNat (2 ^ cbB (bt a) 40 - 1) i : Nat) : Int)
noncomputable def gangsR (F : Option (List Cls)) (w : Nat → Int) (a : Int64) (b : Int) : Int := if (a.toInt < 0 ∨ 1099511627775 < a.toInt) ∨ 6 < cbB (bt a) 40 ∨ b < 0 ∨ w 0 < b then -1 else if 1000000 ≤ gaW F w a then -1 else if b = 0 then gaW F w a else gaX F w a (b - 1).toNat
theorem gangsR_1 {F : Option (List Cls)} {w : Nat → Int} {a : Int64} {b : Int} (h : (a.toInt < 0 ∨ 1099511627775 < a.toInt) ∨ 6 < cbB (bt a) 40 ∨ b < 0 ∨ w 0 < b) : gangsR F w a b = -1 := if_pos h
theorem gangsR_2 {F : Option (List Cls)} {w : Nat → Int} {a : Int64} {b : Int} (h : 1000000 ≤ gaW F w a) : gangsR F w a b = -1 := by
  unfold gangsR
  by_cases c : (a.toInt < 0 ∨ 1099511627775 < a.toInt) ∨ 6 < cbB (bt a) 40 ∨ b < 0 ∨ w 0 < b
  · exact if_pos c
  · rw [if_neg c]; exact if_pos h
theorem gangsR_3 {F : Option (List Cls)} {w : Nat → Int} {a : Int64} {b : Int} (h : ¬ ((a.toInt < 0 ∨ 1099511627775 < a.toInt) ∨ 6 < cbB (bt a) 40 ∨ b < 0 ∨ w 0 < b)) (h2 : ¬ 1000000 ≤ gaW F w a) : gangsR F w a b = if b = 0 then gaW F w a else gaX F w a (b - 1).toNat := by
  unfold gangsR
  rw [if_neg h, if_neg h2]
/-! the reference -/
theorem x_g49 {a : Int64} (h6 : cbB (bt a) 40 ≤ 6) {Qb : Int32 → Int32 → (Nat → Int32) → Prop} (K : ∀ (x c : Int32) (g : Nat → Int32), c.toInt = ((cbB (bt a) 40 : Nat) : Int) → GL g → (∀ j, j < cbB (bt a) 40 → (g j).toInt = ((gkA a 40 j : Nat) : Int)) → Qb x c g) : ∀ (q i : Nat) (x c : Int32) (g : Nat → Int32), x.toInt = (i : Int) → i ≤ 40 → 40 - i < q → c.toInt = ((cbB (bt a) i : Nat) : Int) → GL g → (∀ j, j < cbB (bt a) i → (g j).toInt = ((gkA a i j : Nat) : Int)) → wl_X12_gangs_49 a Qb q x c g := by
  intro q
  induction q with
  | zero => intro i x c g _ _ h; omega
  | succ q ih =>
    intro i x c g hx hi hq hc hg hk
    unfold wl_X12_gangs_49
    by_cases t : 40 ≤ x
    · have t' := le_z (x := 40) rfl hx t
      have e : i = 40 := by omega
      rw [e] at hc hk
      exact br1 t (K _ _ _ hc hg hk)
    · have t' := nle_z (x := 40) rfl hx t
      refine br0 t (e_is hx (by omega) (fun b => ?_) (fun b => ?_))
      · have e1 := cbB_1 (p := bt a) b
        have l1 := cbB_le2 (p := bt a) (i := i + 1) (j := 40) (by omega)
        refine br0 (by decide) ⟨vpi hc (by omega) (by omega), ?_⟩
        rw [tnN hc]
        refine ih (i + 1) _ _ _ (add1 hx (by omega)) (by omega) (by omega) ?_ (GL.up_0 hg (n := cbB (bt a) i) (z := ((cbB (bt a) i : Nat) : Int)) rfl (by omega) (by omega) hx (by omega) (by omega)) (fun j hj => ?_)
        · rw [add_z hc (y := 1) rfl (by omega) (by omega)]
          omega
        · by_cases e : j = cbB (bt a) i
          · rw [e, pk_us, gkA_1 b]; exact hx
          · rw [pk_un e, gkA_2 (by omega)]
            exact hk j (by omega)
      · have e0 := cbB_0 (p := bt a) b
        refine br1 rfl (ih (i + 1) _ _ _ (add1 hx (by omega)) (by omega) (by omega) (by rw [e0]; exact hc) hg (fun j hj => ?_))
        rw [gkA_3 b]
        exact hk j (by omega)
theorem x_g100 {a : Int64} {cnt s : Int32} {goals row nOp nArg : Nat → Int32} {now : Nat → Int64} {ls : Nat → List Cls} {w : Nat → Int} {S m : Nat} (hl : RML row ls) (hRw : RMw row w) (hR : RLW row) (hs : s.toInt = (S : Int)) (hS : (S : Int) < w 0) (h6 : w 0 ≤ 6) (hc : cnt.toInt = (m : Int)) (hm : m < 7) (hk : ∀ j, j < m → (goals j).toInt = ((gkA a 40 j : Nat) : Int)) {Qb : Int32 → Int32 → Int32 → Int64 → Int64 → (Nat → Int32) → (Nat → Int64) → (Nat → Int64) → (Nat → Int32) → Prop} (K : ∀ (x law br : Int32) (v sm : Int64) (days : Nat → Int32) (set rest : Nat → Int64) (gd : Nat → Int32), DY days → B01 br → GDr gd (prG (lawW w ls) w a) (S + 1) m → Qb x law br v sm days set rest gd) : ∀ (q i : Nat) (x law br : Int32) (v sm : Int64) (days : Nat → Int32) (set rest : Nat → Int64) (gd : Nat → Int32), x.toInt = (i : Int) → i ≤ m → m - i < q → DY days → B01 br → GDr gd (prG (lawW w ls) w a) S m → (∀ j, j < i → (prG (lawW w ls) w a S j < 1000000 → (gd (6 * S + j)).toInt = prG (lawW w ls) w a S j) ∧ (¬ prG (lawW w ls) w a S j < 1000000 → (gd (6 * S + j)).toInt = 100000000)) → wl_X12_gangs_100 0 row nOp nArg now cnt goals s Qb q x law br v sm days set rest gd := by
  have m8 : (100000000 : Int32).toInt = 100000000 := by decide
  intro q
  induction q with
  | zero => intro i x law br v sm days set rest gd _ _ h; omega
  | succ q ih =>
    intro i x law br v sm days set rest gd hx hi hq hD hB hG hg
    unfold wl_X12_gangs_100
    by_cases t : cnt ≤ x
    · have t' := le_z hc hx t
      refine br1 t (K _ _ _ _ _ _ _ _ _ hD hB (fun s' hs' j hj => ?_))
      by_cases e : s' = S
      · rw [e]; exact hg j (by omega)
      · exact hG s' (by omega) j hj
    · have t' := nle_z hc hx t
      have im : i < m := by omega
      have gb := gkA_b (a := a) (k := i) 40 (Nat.le_refl _)
      have gi := hk i im
      have ig : InC (goals i) := ⟨by omega, by omega⟩
      have e6 : (6 * s + x).toInt = ((6 * S + i : Nat) : Int) := by
        rw [add_z (mul_z (a := 6) (x := 6) rfl hs (by omega) (by omega)) hx (by omega) (by omega)]
        omega
      have v36 : vp_in (6 * s + x) 36 := vpi e6 (by omega) (by omega)
      have pe : prG (lawW w ls) w a S i = dwB (lawW w ls) w s.toInt (goals i).toInt := by
        show dwB (lawW w ls) w (S : Int) ((gkA a 40 i : Nat) : Int) = _
        rw [hs, gi]
      have go : ∀ (r law' br' : Int32) (v' sm' : Int64) (days' : Nat → Int32) (set' rest' : Nat → Int64), DY days' → B01 br' → (prG (lawW w ls) w a S i < 1000000 → r.toInt = prG (lawW w ls) w a S i) → (¬ prG (lawW w ls) w a S i < 1000000 → r.toInt = 100000000) → wl_X12_gangs_100 0 row nOp nArg now cnt goals s Qb q (x + 1) law' br' v' sm' days' set' rest' (upd gd (6 * S + i) r) := fun r law' br' v' sm' days' set' rest' hd hb h1 h0 => by
        refine ih (i + 1) _ _ _ _ _ _ _ _ _ (add1 hx (by omega)) (by omega) (by omega) hd hb (fun s' hs' j hj => ?_) (fun j hj => ?_)
        · rw [pk_un (by omega)]
          exact hG s' hs' j hj
        · by_cases e : j = i
          · rw [e, pk_us]; exact ⟨h1, h0⟩
          · rw [pk_un (by omega)]
            exact hg j (by omega)
      refine br0 t ⟨vpi hx (by omega) (by omega), ?_⟩
      rw [tnN hx]
      refine x_findDown hl hRw hR (by omega) (by omega) ig hB (fun k days' hd => un7_i ⟨v36, ?_⟩) (fun k law' br' v' sm' days' set' rest' hd hb hLD => un7_i ⟨v36, ?_⟩)
      · rw [tnN e6]
        refine go _ _ _ _ _ _ _ _ hd hB (fun z => ?_) (fun _ => m8)
        have := dwB_n (F := lawW w ls) (w := w) (s := s.toInt) (g := (goals i).toInt) (Or.inr k)
        omega
      · rw [tnN e6]
        obtain ⟨e1, r1, k40⟩ := cl0_z hR hRw (a := s) (by omega) (by omega)
        have eB := dwB_y (F := lawW w ls) (w := w) (s := s.toInt) (g := (goals i).toInt) (by have := ig.1; have := ig.2; omega) k
        have isR : ((days' (cl0 w s.toInt)).toInt < 100000000 → dwD (lawW w ls) w s.toInt (goals i).toInt.toNat (cl0 w s.toInt) = (days' (cl0 w s.toInt)).toInt ∧ (days' (cl0 w s.toInt)).toInt ≤ 3960) ∧ (¬ (days' (cl0 w s.toInt)).toInt < 100000000 → dwD (lawW w ls) w s.toInt (goals i).toInt.toNat (cl0 w s.toInt) = 1000000) := hLD.isR DWC1 (by decide) k40
        have dy := DY.at_0 hd (n := cl0 w s.toInt) (z := ((cl0 w s.toInt : Nat) : Int)) rfl (by omega) (by omega)
        refine go _ _ _ _ _ _ _ _ hd hb (fun z => ?_) (fun z => ?_)
        · by_cases u : (days' (cl0 w s.toInt)).toInt < 100000000
          · have := (isR.1 u).1
            omega
          · have := isR.2 u
            omega
        · by_cases u : (days' (cl0 w s.toInt)).toInt < 100000000
          · have := isR.1 u
            omega
          · omega
theorem x_g86 {a : Int64} {cnt : Int32} {goals row nOp nArg : Nat → Int32} {now : Nat → Int64} {ls : Nat → List Cls} {w : Nat → Int} {m : Nat} (hl : RML row ls) (hRw : RMw row w) (hR : RLW row) (h6 : 0 ≤ w 0 ∧ w 0 ≤ 6) (hc : cnt.toInt = (m : Int)) (hm : m < 7) (hk : ∀ j, j < m → (goals j).toInt = ((gkA a 40 j : Nat) : Int)) {Qb : Int32 → Int32 → Int32 → Int64 → Int64 → (Nat → Int32) → (Nat → Int64) → (Nat → Int64) → (Nat → Int32) → Prop} (K : ∀ (x law br : Int32) (v sm : Int64) (days : Nat → Int32) (set rest : Nat → Int64) (gd : Nat → Int32), DY days → B01 br → GDr gd (prG (lawW w ls) w a) (w 0).toNat m → Qb x law br v sm days set rest gd) : ∀ (q i : Nat) (x law br : Int32) (v sm : Int64) (days : Nat → Int32) (set rest : Nat → Int64) (gd : Nat → Int32), x.toInt = (i : Int) → (i : Int) ≤ w 0 → (w 0).toNat - i < q → DY days → B01 br → GDr gd (prG (lawW w ls) w a) i m → wl_X12_gangs_86 0 row nOp nArg now cnt goals Qb q x law br v sm days set rest gd := by
  have r0 : (row (0 : Int32).toNatClampNeg).toInt = w 0 := hRw 0 (by decide)
  intro q
  induction q with
  | zero => intro i x law br v sm days set rest gd _ _ h; omega
  | succ q ih =>
    intro i x law br v sm days set rest gd hx hi hq hD hB hG
    unfold wl_X12_gangs_86
    by_cases t : row (0 : Int32).toNatClampNeg ≤ x
    · have t' := le_z r0 hx t
      refine br1 t (K _ _ _ _ _ _ _ _ _ hD hB ?_)
      rw [show (w 0).toNat = i by omega]
      exact hG
    · have t' := nle_z r0 hx t
      exact br0 t (x_g100 hl hRw hR hx (by omega) h6.2 hc hm hk (fun x2 law' br' v' sm' days' set' rest' gd' hd hb hg => ih (i + 1) _ _ _ _ _ _ _ _ _ (add1 hx (by omega)) (by omega) (by omega) hd hb hg) _ 0 _ _ _ _ _ _ _ _ _ rfl (Nat.zero_le _) (by omega) hD hB hG (fun j h => absurd h (Nat.not_lt_zero _)))
theorem x_mgangs {a : Int64} {b law broken few : Int32} {value sum : Int64} {row goals days nOp nArg gd go best : Nat → Int32} {rest now set : Nat → Int64} {ls : Nat → List Cls} {w : Nat → Int} (hl : RML row ls) (hR : RMw row w) (hr : RLW row) (hGL : GL goals) (hDY : DY days) (hB : 0 ≤ broken.toInt ∧ broken.toInt ≤ 1) {Q : Int32 → (Int32 × Int32 × Int32 × Int64 × Int64 × Int32 × (Nat → Int32) × (Nat → Int32) × (Nat → Int64) × (Nat → Int64) × (Nat → Int32) × (Nat → Int32) × (Nat → Int32)) → Prop} (hq : ∀ (r law' br' : Int32) (value' sum' : Int64) (few' : Int32) (goals' days' : Nat → Int32) (set' rest' : Nat → Int64) (gd' go' best' : Nat → Int32), r.toInt = gangsR (lawW w ls) w a b.toInt → (0 ≤ br'.toInt ∧ br'.toInt ≤ 1) → GL goals' → DY days' → Q r (0, law', br', value', sum', few', goals', days', set', rest', gd', go', best')) : wp_X12_gangs a b 0 law broken value sum few row goals days set nOp nArg rest now gd go best Q := by
  have m1 : (-1 : Int32).toInt = -1 := by decide
  have m8 : (100000000 : Int32).toInt = 100000000 := by decide
  have r0 : (row (0 : Int32).toNatClampNeg).toInt = w 0 := hR 0 (by decide)
  have h6 : 0 ≤ w 0 ∧ w 0 ≤ 6 := by rw [← hR 0 (by decide)]; exact RLW.at_0 hr (n := 0) (z := 0) rfl (by decide) (by decide)
  have z0 : (0 : Int64).toInt = 0 := rfl
  have z40 : (1099511627775 : Int64).toInt = 1099511627775 := by decide
  have b1 : b.toInt64.toInt = b.toInt := i2l_z rfl
  have rl : ((row (0 : Int32).toNatClampNeg).toInt64).toInt = w 0 := i2l_z r0
  have c40 : ∀ s, s < 6 → 0 ≤ w (10 + s) ∧ w (10 + s) ≤ 39 := fun s hs => by rw [← hR (10 + s) (by omega)]; exact RLW.at_10 hr (n := 10 + s) (z := ((10 + s : Nat) : Int)) rfl (by omega) (by omega)
  have hp : PRB (prG (lawW w ls) w a) (w 0).toNat (cbB (bt a) 40) := prG_b (by omega) c40
  unfold wp_X12_gangs
  refine e_in (fun g0 g1 => br0 (by decide) ?_) (fun g => br1 rfl (hq _ _ _ _ _ _ _ _ _ _ _ _ _ (m1.trans (gangsR_1 (Or.inl ?_)).symm) hB hGL hDY))
  · rw [z0] at g0
    rw [z40] at g1
    refine x_ones (fun c hc => ?_)
    by_cases t : 6 < c
    · have t' := lt_z (x := 6) rfl hc t
      exact br1 t (hq _ _ _ _ _ _ _ _ _ _ _ _ _ (m1.trans (gangsR_1 (Or.inr (Or.inl (by omega)))).symm) hB hGL hDY)
    · have t' := nlt_z (x := 6) rfl hc t
      refine br0 t (e_in (fun g2 g3 => br0 (by decide) ?_) (fun g => br1 rfl (hq _ _ _ _ _ _ _ _ _ _ _ _ _ (m1.trans (gangsR_1 (Or.inr (Or.inr ?_))).symm) hB hGL hDY)))
      · rw [z0, b1] at g2
        rw [b1, rl] at g3
        have nn : ¬ ((a.toInt < 0 ∨ 1099511627775 < a.toInt) ∨ 6 < cbB (bt a) 40 ∨ b.toInt < 0 ∨ w 0 < b.toInt) := by omega
        refine x_g49 (by omega) (fun x cnt gl hcnt hgl hk => ?_) _ 0 _ _ _ rfl (by omega) (by omega) rfl hGL (fun j h => absurd h (Nat.not_lt_zero _))
        refine x_g86 hl hR hr h6 hcnt (by omega) hk (fun x2 law' br' v' sm' days' set' rest' gd' hd hb hg => ?_) _ 0 _ _ _ _ _ _ _ _ _ rfl (by omega) (by omega) hDY (bz1 hB) (fun s h => absurd h (Nat.not_lt_zero _))
        refine x_findGangs (n := (w 0).toNat) (m := cbB (bt a) 40) (by omega) (by omega) (by rw [hR 0 (by decide)]; omega) hcnt hp hg (gk := fun j => ((gkA a 40 j : Nat) : Int)) hk (fun few' go' best' h1 h0 => un3_i ?_)
        by_cases f : gaW (lawW w ls) w a < 1000000
        · have hh := h1 f
          have fe : few'.toInt = gaW (lawW w ls) w a := hh.1
          refine br0 (z_ne (y := 100000000) fe m8 (by omega)) ?_
          have q3 := gangsR_3 nn (by omega : ¬ 1000000 ≤ gaW (lawW w ls) w a)
          by_cases y : b = 0
          · have y' := eq_z (y := 0) rfl rfl y
            rw [if_pos y'] at q3
            exact br1 y (hq _ _ _ _ _ _ _ _ _ _ _ _ _ (fe.trans q3.symm) (bz2 hb) hgl hd)
          · have y' := ne_z (y := 0) rfl rfl y
            rw [if_neg y'] at q3
            have eb : (b - 1).toInt = (((b.toInt - 1).toNat : Nat) : Int) := by rw [sub_z (x := b.toInt) rfl (y := 1) rfl (by omega) (by omega)]; omega
            refine br0 y ⟨vpi eb (by omega) (by omega), ?_⟩
            rw [tnN eb]
            exact hq _ _ _ _ _ _ _ _ _ _ _ _ _ ((hh.2 _ (by omega)).trans q3.symm) (bz2 hb) hgl hd
        · have hh := h0 f
          exact br1 hh (hq _ _ _ _ _ _ _ _ _ _ _ _ _ (m1.trans (gangsR_2 (by omega)).symm) (bz2 hb) hgl hd)
      · rw [z0, b1, rl] at g
        omega
  · rw [z0, z40] at g
    omega
