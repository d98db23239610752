/-! gangs: the reference's rows, one after another -/
theorem x_free {a : Int32} {go : Nat → Int32} {k : Nat} (ha : a.toInt = (k : Int)) (hk : k < 7) {Qb : Int32 → Int32 → Prop} (K : ∀ x f : Int32, (f = 1 ∧ ∀ i, i < k → ¬ go i = go k) ∨ (f = 0 ∧ ∃ i, i < k ∧ go i = go k) → Qb x f) : ∀ (m i : Nat) (x f : Int32), x.toInt = (i : Int) → i ≤ k → k - i < m → (f = 1 ∧ ∀ j, j < i → ¬ go j = go k) ∨ (f = 0 ∧ ∃ j, j < k ∧ go j = go k) → wl_X12_isFree_4 a go Qb m x f := by
  intro m
  induction m with
  | zero => intro i x f _ _ h; omega
  | succ m ih =>
    intro i x f hx hi hm hf
    unfold wl_X12_isFree_4
    by_cases q : a ≤ x
    · have q' := le_z ha hx q
      refine br1 q (K _ _ ?_)
      have e : i = k := by omega
      rw [e] at hf
      exact hf
    · have q' := nle_z ha hx q
      refine br0 q ?_
      rcases hf with ⟨f1, f2⟩ | ⟨f1, f2⟩
      · subst f1
        refine br0 (by decide) ⟨vpi hx (by omega) (by omega), vpi ha (by omega) (by omega), ?_⟩
        rw [tnN hx, tnN ha]
        by_cases t : go i = go k
        · exact br1 t (ih (i + 1) _ _ (add1 hx (by omega)) (by omega) (by omega) (Or.inr ⟨rfl, i, by omega, t⟩))
        · exact br0 t (ih (i + 1) _ _ (add1 hx (by omega)) (by omega) (by omega) (Or.inl ⟨rfl, fun j hj => by
            by_cases e : j = i
            · rw [e]; exact t
            · exact f2 j (by omega)⟩))
      · subst f1
        exact br1 rfl (ih (i + 1) _ _ (add1 hx (by omega)) (by omega) (by omega) (Or.inr ⟨rfl, f2⟩))
theorem x_isFree {a : Int32} {go : Nat → Int32} {k : Nat} (ha : a.toInt = (k : Int)) (hk : k < 7) {Q : Int32 → Prop} (h1 : (∀ i, i < k → ¬ go i = go k) → Q 1) (h0 : (∃ i, i < k ∧ go i = go k) → Q 0) : wp_X12_isFree a go Q := by
  unfold wp_X12_isFree
  refine x_free ha hk (fun x f h => ?_) _ 0 _ _ rfl (Nat.zero_le _) (by omega) (Or.inl ⟨rfl, fun j h => absurd h (Nat.not_lt_zero _)⟩)
  rcases h with ⟨e, g⟩ | ⟨e, g⟩
  · subst e; exact ⟨Or.inr rfl, h1 g⟩
  · subst e; exact ⟨Or.inl rfl, h0 g⟩
/-- the days of the reference: as many, or none -/
def GDr (gd : Nat → Int32) (pr : Nat → Nat → Int) (n m : Nat) : Prop := ∀ s, s < n → ∀ j, j < m → (pr s j < 1000000 → (gd (6 * s + j)).toInt = pr s j) ∧ (¬ pr s j < 1000000 → (gd (6 * s + j)).toInt = 100000000)
theorem x_wg8 {a b : Int32} {go gd : Nat → Int32} {pr : Nat → Nat → Int} {n m R : Nat} (hn : n ≤ 6) (hm : m < 7) (ha : a.toInt = (n : Int)) (hb : b.toInt = (m : Int)) (hp : PRB pr n m) (hG : GDr gd pr n m) (hP : PXg pr m n (fun i => (go i).toInt) R) {Qb : Int32 → Int32 → Int32 → Prop} (K : ∀ x t v : Int32, t.toInt = tkG m (fun i => (go i).toInt) n → v.toInt = sgG pr m (fun i => (go i).toInt) n → Qb x t v) : ∀ (q i : Nat) (x t v : Int32), x.toInt = (i : Int) → i ≤ n → n - i < q → t.toInt = tkG m (fun i => (go i).toInt) i → v.toInt = sgG pr m (fun i => (go i).toInt) i → (0 ≤ v.toInt ∧ v.toInt ≤ 3960 * (i : Int)) → wl_X12_weighGangs_8 a b go gd Qb q x t v := by
  intro q
  induction q with
  | zero => intro i x t v _ _ h; omega
  | succ q ih =>
    intro i x t v hx hi hq ht hv hvb
    unfold wl_X12_weighGangs_8
    by_cases c : a ≤ x
    · have c' := le_z ha hx c
      have e : i = n := by omega
      rw [e] at ht hv
      exact br1 c (K _ _ _ ht hv)
    · have c' := nle_z ha hx c
      have hin : i < n := by omega
      have g := hP.1 i hin
      have g0 : 0 ≤ (go i).toInt := g.1
      have gm : (go i).toInt ≤ (m : Int) := g.2.1
      have tb := tkG_b (m := m) (go := fun i => (go i).toInt) i
      have v7 : vp_in x 7 := vpi hx (by omega) (by omega)
      refine br0 c ⟨v7, ?_⟩
      rw [tnN hx]
      by_cases t1 : go i = b
      · have t1' := eq_z rfl hb t1
        refine jn_s (br1 t1 ⟨v7, br1 t1 (ih (i + 1) _ _ _ (add1 hx (by omega)) (by omega) (by omega) ?_ ?_ ?_)⟩)
        · rw [add_z ht (y := 0) rfl (by omega) (by omega)]
          show _ = tkG m (fun i => (go i).toInt) i + (if (go i).toInt = (m : Int) then 0 else 1)
          rw [if_pos t1']
        · rw [add_z hv (y := 0) rfl (by omega) (by omega)]
          show _ = sgG pr m (fun i => (go i).toInt) i + (if (go i).toInt = (m : Int) then 0 else pr i ((go i).toInt).toNat)
          rw [if_pos t1']
        · rw [add_z (x := v.toInt) rfl (y := 0) rfl (by omega) (by omega)]
          omega
      · have t1' := ne_z rfl hb t1
        obtain ⟨j, hj⟩ : ∃ j : Nat, (go i).toInt = (j : Int) := ⟨(go i).toInt.toNat, by omega⟩
        have jm : j < m := by omega
        have pf : pr i j < 1000000 := by
          have z := g.2.2 (show (go i).toInt < (m : Int) by omega)
          have z2 : pr i ((go i).toInt).toNat < 1000000 := z
          rw [hj] at z2
          exact z2
        have e6 : (6 * x + go i).toInt = ((6 * i + j : Nat) : Int) := by
          rw [add_z (mul_z (a := 6) (x := 6) rfl hx (by omega) (by omega)) hj (by omega) (by omega)]
          omega
        have eg := (hG i hin j jm).1 pf
        have pb := (hp i hin j jm)
        have pb2 := pb.2.2 pf
        refine jn_s (br0 t1 ⟨v7, vpi e6 (by omega) (by omega), v7, br0 t1 ?_⟩)
        rw [tnN e6]
        refine ih (i + 1) _ _ _ (add1 hx (by omega)) (by omega) (by omega) ?_ ?_ ?_
        · rw [add_z ht (y := 1) rfl (by omega) (by omega)]
          show _ = tkG m (fun i => (go i).toInt) i + (if (go i).toInt = (m : Int) then 0 else 1)
          rw [if_neg t1']
        · rw [add_z hv eg (by omega) (by omega)]
          show _ = sgG pr m (fun i => (go i).toInt) i + (if (go i).toInt = (m : Int) then 0 else pr i ((go i).toInt).toNat)
          rw [if_neg t1', hj]
          rfl
        · rw [add_z (x := v.toInt) rfl eg (by omega) (by omega)]
          omega
theorem x_wg99 {a b : Int32} {go goals : Nat → Int32} {gk : Nat → Int} {n m : Nat} (hn : n ≤ 6) (hm : m < 7) (ha : a.toInt = (n : Int)) (hb : b.toInt = (m : Int)) (hg : ∀ i, i < n → 0 ≤ (go i).toInt ∧ (go i).toInt ≤ (m : Int)) (hk : ∀ j, j < m → (goals j).toInt = gk j) {Qb : Int32 → (Nat → Int32) → Prop} (K : ∀ (x : Int32) (best : Nat → Int32), (∀ i, i < n → (best i).toInt = gvF m gk (go i).toInt) → Qb x best) : ∀ (q i : Nat) (x : Int32) (best : Nat → Int32), x.toInt = (i : Int) → i ≤ n → n - i < q → (∀ j, j < i → (best j).toInt = gvF m gk (go j).toInt) → wl_X12_weighGangs_99 a b go goals Qb q x best := by
  intro q
  induction q with
  | zero => intro i x best _ _ h; omega
  | succ q ih =>
    intro i x best hx hi hq hB
    unfold wl_X12_weighGangs_99
    by_cases c : a ≤ x
    · have c' := le_z ha hx c
      exact br1 c (K _ _ (fun j hj => hB j (by omega)))
    · have c' := nle_z ha hx c
      have hin : i < n := by omega
      have g := hg i hin
      have v7 : vp_in x 7 := vpi hx (by omega) (by omega)
      have v6 : vp_in x 6 := vpi hx (by omega) (by omega)
      have nx : ∀ v : Int32, v.toInt = gvF m gk (go i).toInt → wl_X12_weighGangs_99 a b go goals Qb q (x + 1) (upd best i v) := fun v hv => ih (i + 1) _ _ (add1 hx (by omega)) (by omega) (by omega) (fun j hj => by
        by_cases e : j = i
        · rw [e, pk_us]; exact hv
        · rw [pk_un e]; exact hB j (by omega))
      refine br0 c ⟨v7, ?_⟩
      rw [tnN hx]
      by_cases t : go i = b
      · have t' := eq_z rfl hb t
        exact br1 t ⟨v6, nx 100 (by unfold gvF; rw [if_pos t']; rfl)⟩
      · have t' := ne_z rfl hb t
        obtain ⟨j, hj⟩ : ∃ j : Nat, (go i).toInt = (j : Int) := ⟨(go i).toInt.toNat, by omega⟩
        refine br0 t ⟨v7, vpi hj (by omega) (by omega), v6, ?_⟩
        rw [tnN hj]
        exact nx _ (by unfold gvF; rw [if_neg t', hj]; exact hk j (by omega))
theorem x_weigh {a b few : Int32} {go gd goals best : Nat → Int32} {pr : Nat → Nat → Int} {gk : Nat → Int} {n m R : Nat} (hn : n ≤ 6) (hm : m < 7) (ha : a.toInt = (n : Int)) (hb : b.toInt = (m : Int)) (hp : PRB pr n m) (hG : GDr gd pr n m) (hk : ∀ j, j < m → (goals j).toInt = gk j) (hP : PXg pr m n (fun i => (go i).toInt) R) {Q : (Int32 × (Nat → Int32)) → Prop} (hq : ∀ (few' : Int32) (best' : Nat → Int32), RES pr n m gk 0 n R (fun i => (go i).toInt) few best few' best' → Q (few', best')) : wp_X12_weighGangs a b few go gd goals best Q := by
  unfold wp_X12_weighGangs
  have sb := sgG_b hp n (Nat.le_refl _) hP
  have tb := tkG_b (m := m) (go := fun i => (go i).toInt) n
  have cz := cb_z m hm R hP.2.1
  have cn := hP.2.2.2
  refine x_wg8 hn hm ha hb hp hG hP (fun x t v ht hv => ?_) _ 0 _ _ _ rfl (Nat.zero_le _) (by omega) rfl rfl (by decide)
  have f0 : R = 0 → fwF pr n m 0 R = 0 := fun e => if_pos e
  have f1 : ¬ R = 0 → fwF pr n m 0 R = 1000000 := fun e => if_neg e
  by_cases c : t = b
  · have c' := eq_z ht hb c
    have R0 : R = 0 := cz.mp (by omega)
    have f := f0 R0
    refine br1 c ?_
    by_cases d : few ≤ v
    · have d' := le_z rfl hv d
      exact br1 d (hq _ _ ⟨fun z => absurd z.2 (by omega), fun _ => ⟨rfl, rfl⟩⟩)
    · have d' := nle_z rfl hv d
      refine br0 d (x_wg99 hn hm ha hb (fun i hi => ⟨(hP.1 i hi).1, (hP.1 i hi).2.1⟩) hk (fun x best' h => hq _ _ ⟨fun _ => ⟨by rw [f, hv]; omega, fun i hi => ?_⟩, fun z => absurd ⟨by omega, by omega⟩ z⟩) _ 0 _ _ rfl (Nat.zero_le _) (by omega) (fun j h => absurd h (Nat.not_lt_zero _)))
      rw [if_pos hi]
      exact h i hi
  · have c' := ne_z ht hb c
    have R0 : ¬ R = 0 := fun e => by
      have := cz.mpr e
      omega
    have f := f1 R0
    exact br0 c (hq _ _ ⟨fun z => absurd z.1 (by omega), fun _ => ⟨rfl, rfl⟩⟩)
/-! the search -/
def Cg (m : Nat) : Nat → Nat
  | 0 => 1
  | d + 1 => (m + 1) * (1 + Cg m d) + 1
theorem Cg_b : ∀ m, m < 7 → ∀ d, d < 7 → Cg m d < 1000000 := by decide +kernel
def FGs (a : Int32) (row gd goals : Nat → Int32) (Qb : Int32 → Int32 → (Nat → Int32) → (Nat → Int32) → Prop) (pr : Nat → Nat → Int) (gk : Nat → Int) (n m d k : Nat) : Prop := ∀ (x few : Int32) (go best : Nat → Int32) (R f : Nat), x.toInt = (k : Int) → PXg pr m k (fun i => (go i).toInt) R → (k < n → (go k).toInt = -1) → (∀ (x' few' : Int32) (go' best' : Nat → Int32), x'.toInt = (k : Int) - 1 → (∀ i, i < k → go' i = go i) → RES pr n m gk d k R (fun i => (go i).toInt) few best few' best' → ∀ q, f ≤ q → wl_X12_findGangs_23 a row gd goals Qb q x' few' go' best') → ∀ q, f + Cg m d ≤ q → wl_X12_findGangs_23 a row gd goals Qb q x few go best
theorem x_fgI {a : Int32} {row gd goals : Nat → Int32} {Qb : Int32 → Int32 → (Nat → Int32) → (Nat → Int32) → Prop} {pr : Nat → Nat → Int} {gk : Nat → Int} {n m d k : Nat} (hn : n ≤ 6) (hm : m < 7) (hr : (row 0).toInt = (n : Int)) (ha : a.toInt = (m : Int)) (hp : PRB pr n m) (hG : GDr gd pr n m) (hk : k + (d + 1) = n) (IH : FGs a row gd goals Qb pr gk n m d (k + 1)) {few0 : Int32} {go0 best0 : Nat → Int32} {R f : Nat} (hP : PXg pr m k (fun i => (go0 i).toInt) R) (Kt : ∀ (x' few' : Int32) (go' best' : Nat → Int32), x'.toInt = (k : Int) - 1 → (∀ i, i < k → go' i = go0 i) → RUNg pr n m gk d k R (fun i => (go0 i).toInt) few0 best0 (m + 1) few' best' → ∀ q, f ≤ q → wl_X12_findGangs_23 a row gd goals Qb q x' few' go' best') : ∀ (c g : Nat) (x few : Int32) (go best : Nat → Int32), g + c = m + 1 → x.toInt = (k : Int) → (∀ i, i < k → go i = go0 i) → (go k).toInt = (g : Int) - 1 → RUNg pr n m gk d k R (fun i => (go0 i).toInt) few0 best0 g few best → ∀ q, f + c * (1 + Cg m d) + 1 ≤ q → wl_X12_findGangs_23 a row gd goals Qb q x few go best := by
  have r0 : row (0 : Int32).toNatClampNeg = row 0 := rfl
  intro c
  induction c with
  | zero =>
    intro g x few go best hgc hx hgo hgk hRun q hq
    obtain ⟨q, rfl⟩ : ∃ q', q = q' + 1 := ⟨q - 1, by omega⟩
    have eg : g = m + 1 := by omega
    subst eg
    have v7 : vp_in x 7 := vpi hx (by omega) (by omega)
    have g1 : (go k + 1).toInt = (m : Int) + 1 := by rw [add_z hgk (y := 1) rfl (by omega) (by omega)]; omega
    unfold wl_X12_findGangs_23
    refine br0 (z_nlt (y := 0) hx rfl (by omega)) ?_
    rw [r0]
    refine br0 (z_ne hx hr (by omega)) ⟨v7, v7, v7, ?_⟩
    rw [tnN hx]
    refine br0 (z_nle g1 ha (by omega)) (Kt _ _ _ _ (by rw [add_z hx (y := -1) (by decide) (by omega) (by omega)]; omega) (fun i hi => ?_) hRun q (by omega))
    rw [pk_un (by omega)]
    exact hgo i hi
  | succ c ih =>
    intro g x few go best hgc hx hgo hgk hRun q hq
    have em := Nat.succ_mul c (1 + Cg m d)
    have em2 : (c + 1) * (1 + Cg m d) = c * (1 + Cg m d) + (1 + Cg m d) := em
    obtain ⟨q, rfl⟩ : ∃ q', q = q' + 1 := ⟨q - 1, by omega⟩
    have gm : g ≤ m := by omega
    have v7 : vp_in x 7 := vpi hx (by omega) (by omega)
    have x1 : (x + 1).toInt = ((k + 1 : Nat) : Int) := add1 hx (by omega)
    have v71 : vp_in (x + 1) 7 := vpi x1 (by omega) (by omega)
    have g1 : (go k + 1).toInt = (g : Int) := by rw [add_z hgk (y := 1) rfl (by omega) (by omega)]; omega
    have gs : ∀ i, i < k → upd go k (go k + 1) i = go0 i := fun i hi => by rw [pk_un (by omega)]; exact hgo i hi
    have gk1 : (upd go k (go k + 1) k).toInt = (g : Int) := by rw [pk_us]; exact g1
    have hP1 : PXg pr m k (fun i => (upd go k (go k + 1) i).toInt) R := hP.cg (fun i hi => by show (upd go k (go k + 1) i).toInt = (go0 i).toInt; rw [gs i hi])
    have skip : opF pr m k (fun z => fwF pr n m d z) R g = 1000000 → wl_X12_findGangs_23 a row gd goals Qb q x few (upd go k (go k + 1)) best := fun ho => ih (g + 1) x few _ best (by omega) hx gs (by rw [gk1]; omega) (hRun.sk ho) q (by omega)
    have down : (g < m → R.testBit g = true ∧ pr k g < 1000000) → wl_X12_findGangs_23 a row gd goals Qb q (x + 1) few (upd (upd go k (go k + 1)) (k + 1) (-1)) best := fun hA => by
      have hP2 : PXg pr m (k + 1) (fun i => (upd (upd go k (go k + 1)) (k + 1) (-1) i).toInt) (rmR m R g) := by
        refine PXg.cg (hP1.st hm gk1 gm hA) (fun i hi => ?_)
        show (upd (upd go k (go k + 1)) (k + 1) (-1) i).toInt = (upd go k (go k + 1) i).toInt
        rw [pk_un (by omega)]
      refine IH (x + 1) few _ best (rmR m R g) (f + c * (1 + Cg m d) + 1) x1 hP2 (fun _ => by rw [pk_us]; decide) (fun x' few' go' best' hx' hgo' hres q' hq' => ?_) q (by omega)
      have a1 : ∀ i, i < k + 1 → go' i = upd go k (go k + 1) i := fun i hi => by
        rw [hgo' i hi, pk_un (by omega)]
      refine ih (g + 1) x' few' go' best' (by omega) (by omega) (fun i hi => ?_) ?_ ?_ q' hq'
      · rw [a1 i (by omega)]
        exact gs i hi
      · rw [a1 k (by omega), gk1]
        omega
      · refine hRun.up (go2 := fun i => (upd (upd go k (go k + 1)) (k + 1) (-1) i).toInt) hp (by omega) (by omega) hn (fun i hi => ?_) ?_ gm hA hres
        · show (upd (upd go k (go k + 1)) (k + 1) (-1) i).toInt = (go0 i).toInt
          rw [pk_un (by omega), gs i hi]
        · show (upd (upd go k (go k + 1)) (k + 1) (-1) k).toInt = (g : Int)
          rw [pk_un (by omega)]
          exact gk1
    unfold wl_X12_findGangs_23
    refine br0 (z_nlt (y := 0) hx rfl (by omega)) ?_
    rw [r0]
    refine br0 (z_ne hx hr (by omega)) ⟨v7, v7, v7, ?_⟩
    rw [tnN hx]
    refine br1 (z_le g1 ha (by omega)) ⟨v7, ?_⟩
    by_cases t : go k + 1 = a
    · have t' := eq_z g1 ha t
      refine br1 t ⟨v71, ?_⟩
      rw [tnN x1]
      exact down (fun z => by omega)
    · have t' := ne_z g1 ha t
      have gl : g < m := by omega
      have e6 : (6 * x + (go k + 1)).toInt = ((6 * k + g : Nat) : Int) := by
        rw [add_z (mul_z (a := 6) (x := 6) rfl hx (by omega) (by omega)) g1 (by omega) (by omega)]
        omega
      have gg := hG k (by omega) g gl
      have pb := hp k (by omega) g gl
      have m8 : (100000000 : Int32).toInt = 100000000 := by decide
      refine br0 t ⟨v7, vpi e6 (by omega) (by omega), ?_⟩
      rw [tnN e6]
      by_cases u : 100000000 ≤ gd (6 * k + g)
      · have u' := le_z m8 rfl u
        refine br1 u (skip ?_)
        unfold opF
        rw [if_pos gl, if_neg (fun y => by have := gg.1 y.2.1; omega)]
      · have u' := nle_z m8 rfl u
        have pf : pr k g < 1000000 := by
          by_cases z : pr k g < 1000000
          · exact z
          · have := gg.2 z
            omega
        have bt := hP1.2.2.1 g gl
        refine br0 u (x_isFree hx (by omega) (fun h => br0 (by decide) ⟨v71, ?_⟩) (fun h => br1 rfl (skip ?_)))
        · rw [tnN x1]
          refine down (fun _ => ⟨bt.mpr (fun i hi z => h i hi (Int32.toInt_inj.mp ?_)), pf⟩)
          have z2 : (upd go k (go k + 1) i).toInt = (g : Int) := z
          rw [z2, gk1]
        · obtain ⟨i, hi, e⟩ := h
          unfold opF
          rw [if_pos gl, if_neg (fun y => ?_)]
          have z := bt.mp y.1 i hi
          have z2 : ¬ (upd go k (go k + 1) i).toInt = (g : Int) := z
          rw [e, gk1] at z2
          exact z2 rfl
theorem x_fg {a : Int32} {row gd goals : Nat → Int32} {Qb : Int32 → Int32 → (Nat → Int32) → (Nat → Int32) → Prop} {pr : Nat → Nat → Int} {gk : Nat → Int} {n m : Nat} (hn : n ≤ 6) (hm : m < 7) (hr : (row 0).toInt = (n : Int)) (ha : a.toInt = (m : Int)) (hp : PRB pr n m) (hG : GDr gd pr n m) (hk : ∀ j, j < m → (goals j).toInt = gk j) : ∀ d k, k + d = n → FGs a row gd goals Qb pr gk n m d k := by
  have r0 : row (0 : Int32).toNatClampNeg = row 0 := rfl
  intro d
  induction d with
  | zero =>
    intro k hkn x few go best R f hx hP _ Kt q hq
    have e : k = n := by omega
    subst e
    have hq : f + 1 ≤ q := hq
    obtain ⟨q, rfl⟩ : ∃ q', q = q' + 1 := ⟨q - 1, by omega⟩
    unfold wl_X12_findGangs_23
    refine br0 (z_nlt (y := 0) hx rfl (by omega)) ?_
    rw [r0]
    refine br1 (z_eq hx hr rfl) (x_weigh hn hm hr ha hp hG hk hP (fun few' best' h => un2_i ?_))
    exact Kt _ _ _ _ (by rw [add_z hx (y := -1) (by decide) (by omega) (by omega)]; omega) (fun _ _ => rfl) h q (by omega)
  | succ d ih =>
    intro k hkn x few go best R f hx hP hgk Kt q hq
    have hq : f + ((m + 1) * (1 + Cg m d) + 1) ≤ q := hq
    have en : n - (d + 1) = k := by omega
    refine x_fgI hn hm hr ha hp hG hkn (ih (k + 1) (by omega)) hP (fun x' few' go' best' h1 h2 h3 q' h4 => Kt x' few' go' best' h1 h2 ?_ q' h4) (m + 1) 0 x few go best (by omega) hx (fun _ _ => rfl) (by rw [hgk (by omega)]; rfl) RUNg.z q (by omega)
    have e1 : fwF pr n m (d + 1) R = (mnF (opF pr m k (fun z => fwF pr n m d z) R) (m + 1)).1 := by
      show (mnF (opF pr m (n - (d + 1)) (fun z => fwF pr n m d z) R) (m + 1)).1 = _
      rw [en]
    have e2 : chz pr n m d R = (mnF (opF pr m k (fun z => fwF pr n m d z) R) (m + 1)).2 := by
      unfold chz
      rw [en]
    have e3 : ∀ i, gwF pr n m (d + 1) R i = if i = k then (mnF (opF pr m k (fun z => fwF pr n m d z) R) (m + 1)).2 else gwF pr n m d (rmR m R (mnF (opF pr m k (fun z => fwF pr n m d z) R) (m + 1)).2) i := fun i => by
      show (if i = n - (d + 1) then chz pr n m d R else gwF pr n m d (rmR m R (chz pr n m d R)) i) = _
      rw [en, e2]
    unfold RES
    rw [e1]
    refine ⟨fun z => ⟨(h3.1 z).1, fun i hi => ?_⟩, h3.2⟩
    rw [(h3.1 z).2 i hi, e3 i]
    by_cases q1 : i < k
    · rw [if_pos q1, if_pos q1]
    · rw [if_neg q1, if_neg q1]
      by_cases q2 : i = k
      · rw [if_pos q2, if_pos q2]
      · rw [if_neg q2, if_neg q2]
theorem x_findGangs {a : Int32} {row gd goals go best : Nat → Int32} {pr : Nat → Nat → Int} {gk : Nat → Int} {n m : Nat} (hn : n ≤ 6) (hm : m < 7) (hr : (row 0).toInt = (n : Int)) (ha : a.toInt = (m : Int)) (hp : PRB pr n m) (hG : GDr gd pr n m) (hk : ∀ j, j < m → (goals j).toInt = gk j) {Q : (Int32 × (Nat → Int32) × (Nat → Int32)) → Prop} (hq : ∀ (few : Int32) (go' best' : Nat → Int32), (fwF pr n m n (2 ^ m - 1) < 1000000 → few.toInt = fwF pr n m n (2 ^ m - 1) ∧ ∀ i, i < n → (best' i).toInt = gvF m gk ((gwF pr n m n (2 ^ m - 1) i : Nat) : Int)) → (¬ fwF pr n m n (2 ^ m - 1) < 1000000 → few = 100000000) → Q (few, go', best')) : wp_X12_findGangs a row go gd goals best Q := by
  unfold wp_X12_findGangs
  have m8 : (100000000 : Int32).toInt = 100000000 := by decide
  have pb := p2_6 m hm
  have al := all_b m hm
  have cb := Cg_b m hm n (by omega)
  have P0 : PXg pr m 0 (fun i => (upd go 0 (-1) i).toInt) (2 ^ m - 1) := ⟨fun i h => absurd h (Nat.not_lt_zero _), by omega, fun j hj => ⟨fun _ i h => absurd h (Nat.not_lt_zero _), fun _ => al.1 j hj⟩, by rw [al.2]; show (0 : Int) + _ = _; omega⟩
  refine x_fg hn hm hr ha hp hG hk n 0 (by omega) 0 100000000 _ best (2 ^ m - 1) 1 rfl P0 (fun _ => by rw [pk_us]; decide) (fun x' few' go' best' hx' _ hres q hq1 => ?_) _ (by omega)
  obtain ⟨q, rfl⟩ : ∃ q', q = q' + 1 := ⟨q - 1, by omega⟩
  unfold wl_X12_findGangs_23
  refine br1 (z_lt (y := 0) hx' rfl (by decide)) (hq _ _ _ (fun z => ?_) (fun z => ?_))
  · have fb := fw_b hp n (Nat.le_refl _) (2 ^ m - 1)
    have r := hres.1 ⟨z, by show (0 : Int) + _ < _; rw [m8]; omega⟩
    refine ⟨?_, fun i hi => ?_⟩
    · rw [r.1]
      show (0 : Int) + _ = _
      omega
    · rw [r.2 i hi, if_neg (Nat.not_lt_zero _)]
  · exact (hres.2 (fun y => z y.1)).1
