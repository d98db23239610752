/-! gangs: each told CELL a SHAFT of its own, the fewest days together; the first row that is as quick -/
def mnF (opt : Nat → Int) : Nat → Int × Nat
  | 0 => (1000000, 0)
  | g + 1 => if opt g < (mnF opt g).1 then (opt g, g) else mnF opt g
theorem mnF_y {opt : Nat → Int} {g : Nat} (h : opt g < (mnF opt g).1) : mnF opt (g + 1) = (opt g, g) := if_pos h
theorem mnF_n {opt : Nat → Int} {g : Nat} (h : ¬ opt g < (mnF opt g).1) : mnF opt (g + 1) = mnF opt g := if_neg h
theorem mnF_ok {opt : Nat → Int} : ∀ N, (mnF opt N).1 ≤ 1000000 ∧ (∀ j, j < N → (mnF opt N).1 ≤ opt j) ∧ ((mnF opt N).1 < 1000000 → (mnF opt N).2 < N ∧ opt (mnF opt N).2 = (mnF opt N).1 ∧ ∀ j, j < (mnF opt N).2 → (mnF opt N).1 < opt j) := by
  intro N
  induction N with
  | zero => exact ⟨Int.le_refl _, fun j h => absurd h (Nat.not_lt_zero _), fun h => absurd h (by show ¬ (1000000 : Int) < 1000000; decide)⟩
  | succ N ih =>
    obtain ⟨a, b, c⟩ := ih
    by_cases q : opt N < (mnF opt N).1
    · rw [mnF_y q]
      refine ⟨by show opt N ≤ 1000000; omega, fun j hj => ?_, fun _ => ⟨Nat.lt_succ_self _, rfl, fun j hj => ?_⟩⟩
      · show opt N ≤ opt j
        by_cases e : j = N
        · rw [e]; exact Int.le_refl _
        · have := b j (by omega); omega
      · have hj2 : j < N := hj
        show opt N < opt j
        have := b j hj2
        omega
    · rw [mnF_n q]
      refine ⟨a, fun j hj => ?_, fun h => ?_⟩
      · by_cases e : j = N
        · rw [e]; omega
        · exact b j (by omega)
      · have := c h
        exact ⟨by omega, this.2⟩
def opF (pr : Nat → Nat → Int) (m s : Nat) (fd : Nat → Int) (R j : Nat) : Int := if j < m then (if R.testBit j = true ∧ pr s j < 1000000 ∧ fd (R ^^^ 2 ^ j) < 1000000 then pr s j + fd (R ^^^ 2 ^ j) else 1000000) else fd R
def fwF (pr : Nat → Nat → Int) (n m : Nat) : Nat → Nat → Int
  | 0, R => if R = 0 then 0 else 1000000
  | d + 1, R => (mnF (opF pr m (n - (d + 1)) (fun z => fwF pr n m d z) R) (m + 1)).1
def rmR (m R c : Nat) : Nat := if c < m then R ^^^ 2 ^ c else R
def chz (pr : Nat → Nat → Int) (n m d R : Nat) : Nat := (mnF (opF pr m (n - (d + 1)) (fun z => fwF pr n m d z) R) (m + 1)).2
def gwF (pr : Nat → Nat → Int) (n m : Nat) : Nat → Nat → Nat → Nat
  | 0, _, _ => m
  | d + 1, R, i => if i = n - (d + 1) then chz pr n m d R else gwF pr n m d (rmR m R (chz pr n m d R)) i
def PRB (pr : Nat → Nat → Int) (n m : Nat) : Prop := ∀ s, s < n → ∀ j, j < m → 0 ≤ pr s j ∧ pr s j ≤ 1000000 ∧ (pr s j < 1000000 → pr s j ≤ 3960)
theorem fw_b {pr : Nat → Nat → Int} {n m : Nat} (hp : PRB pr n m) : ∀ d, d ≤ n → ∀ R, 0 ≤ fwF pr n m d R ∧ fwF pr n m d R ≤ 1000000 ∧ (fwF pr n m d R < 1000000 → fwF pr n m d R ≤ 3960 * (d : Int)) := by
  intro d
  induction d with
  | zero =>
    intro _ R
    show 0 ≤ (if R = 0 then (0 : Int) else 1000000) ∧ (if R = 0 then (0 : Int) else 1000000) ≤ 1000000 ∧ ((if R = 0 then (0 : Int) else 1000000) < 1000000 → (if R = 0 then (0 : Int) else 1000000) ≤ 3960 * ((0 : Nat) : Int))
    split <;> omega
  | succ d ih =>
    intro hd R
    obtain ⟨a, b, c⟩ := mnF_ok (opt := opF pr m (n - (d + 1)) (fun z => fwF pr n m d z) R) (m + 1)
    have op : ∀ j, 0 ≤ opF pr m (n - (d + 1)) (fun z => fwF pr n m d z) R j ∧ (opF pr m (n - (d + 1)) (fun z => fwF pr n m d z) R j < 1000000 → opF pr m (n - (d + 1)) (fun z => fwF pr n m d z) R j ≤ 3960 * ((d + 1 : Nat) : Int)) := fun j => by
      unfold opF
      by_cases h : j < m
      · rw [if_pos h]
        have p := hp (n - (d + 1)) (by omega) j h
        have f := ih (by omega) (R ^^^ 2 ^ j)
        by_cases q : R.testBit j = true ∧ pr (n - (d + 1)) j < 1000000 ∧ fwF pr n m d (R ^^^ 2 ^ j) < 1000000
        · rw [if_pos q]
          have p2 := p.2.2 q.2.1
          have f2 := f.2.2 q.2.2
          dsimp only
          omega
        · rw [if_neg q]; omega
      · rw [if_neg h]
        have f := ih (by omega) R
        show 0 ≤ fwF pr n m d R ∧ (fwF pr n m d R < 1000000 → fwF pr n m d R ≤ 3960 * ((d + 1 : Nat) : Int))
        exact ⟨f.1, fun q => by have := f.2.2 q; omega⟩
    show 0 ≤ (mnF (opF pr m (n - (d + 1)) (fun z => fwF pr n m d z) R) (m + 1)).1 ∧ (mnF (opF pr m (n - (d + 1)) (fun z => fwF pr n m d z) R) (m + 1)).1 ≤ 1000000 ∧ ((mnF (opF pr m (n - (d + 1)) (fun z => fwF pr n m d z) R) (m + 1)).1 < 1000000 → (mnF (opF pr m (n - (d + 1)) (fun z => fwF pr n m d z) R) (m + 1)).1 ≤ 3960 * ((d + 1 : Nat) : Int))
    refine ⟨?_, a, fun h => ?_⟩
    · by_cases h : (mnF (opF pr m (n - (d + 1)) (fun z => fwF pr n m d z) R) (m + 1)).1 < 1000000
      · rw [← (c h).2.1]
        exact (op _).1
      · omega
    · have q := (op (mnF (opF pr m (n - (d + 1)) (fun z => fwF pr n m d z) R) (m + 1)).2).2
      rw [(c h).2.1] at q
      exact q h
theorem xo_b : ∀ R, R < 64 → ∀ j, j < 6 → ∀ i, i < 6 → (R ^^^ 2 ^ j).testBit i = (if i = j then !(R.testBit j) else R.testBit i) := by decide +kernel
theorem xo_l : ∀ m, m < 7 → ∀ R, R < 2 ^ m → ∀ j, j < m → R ^^^ 2 ^ j < 2 ^ m := by decide +kernel
theorem cb_x : ∀ m, m < 7 → ∀ R, R < 64 → ∀ j, j < m → R.testBit j = true → cbB (fun i => (R ^^^ 2 ^ j).testBit i) m + 1 = cbB (fun i => R.testBit i) m := by decide +kernel
theorem cb_z : ∀ m, m < 7 → ∀ R, R < 2 ^ m → (cbB (fun i => R.testBit i) m = 0 ↔ R = 0) := by decide +kernel
theorem all_b : ∀ m, m < 7 → (∀ j, j < m → (2 ^ m - 1).testBit j = true) ∧ cbB (fun i => (2 ^ m - 1).testBit i) m = m := by decide +kernel
/-! the first k of a row -/
def sgG (pr : Nat → Nat → Int) (m : Nat) (go : Nat → Int) : Nat → Int
  | 0 => 0
  | k + 1 => sgG pr m go k + (if go k = (m : Int) then 0 else pr k (go k).toNat)
def tkG (m : Nat) (go : Nat → Int) : Nat → Int
  | 0 => 0
  | k + 1 => tkG m go k + (if go k = (m : Int) then 0 else 1)
theorem sgG_cg {pr : Nat → Nat → Int} {m : Nat} {go go' : Nat → Int} : ∀ k, (∀ i, i < k → go' i = go i) → sgG pr m go' k = sgG pr m go k := by
  intro k
  induction k with
  | zero => intro _; rfl
  | succ k ih =>
    intro h
    show sgG pr m go' k + (if go' k = (m : Int) then 0 else pr k (go' k).toNat) = sgG pr m go k + (if go k = (m : Int) then 0 else pr k (go k).toNat)
    rw [ih (fun i hi => h i (by omega)), h k (by omega)]
theorem tkG_cg {m : Nat} {go go' : Nat → Int} : ∀ k, (∀ i, i < k → go' i = go i) → tkG m go' k = tkG m go k := by
  intro k
  induction k with
  | zero => intro _; rfl
  | succ k ih =>
    intro h
    show tkG m go' k + (if go' k = (m : Int) then 0 else 1) = tkG m go k + (if go k = (m : Int) then 0 else 1)
    rw [ih (fun i hi => h i (by omega)), h k (by omega)]
theorem tkG_b {m : Nat} {go : Nat → Int} : ∀ k, 0 ≤ tkG m go k ∧ tkG m go k ≤ (k : Int) := by
  intro k
  induction k with
  | zero => exact ⟨Int.le_refl _, Int.le_refl _⟩
  | succ k ih =>
    show 0 ≤ tkG m go k + (if go k = (m : Int) then 0 else 1) ∧ tkG m go k + (if go k = (m : Int) then 0 else 1) ≤ ((k + 1 : Nat) : Int)
    split <;> omega
def PXg (pr : Nat → Nat → Int) (m k : Nat) (go : Nat → Int) (R : Nat) : Prop := (∀ i, i < k → 0 ≤ go i ∧ go i ≤ (m : Int) ∧ (go i < (m : Int) → pr i (go i).toNat < 1000000)) ∧ R < 2 ^ m ∧ (∀ j, j < m → (R.testBit j = true ↔ ∀ i, i < k → ¬ go i = (j : Int))) ∧ tkG m go k + ((cbB (fun j => R.testBit j) m : Nat) : Int) = (m : Int)
theorem PXg.cg {pr : Nat → Nat → Int} {m k : Nat} {go go' : Nat → Int} {R : Nat} (h : PXg pr m k go R) (e : ∀ i, i < k → go' i = go i) : PXg pr m k go' R := by
  refine ⟨fun i hi => by rw [e i hi]; exact h.1 i hi, h.2.1, fun j hj => ?_, by rw [tkG_cg k e]; exact h.2.2.2⟩
  rw [h.2.2.1 j hj]
  exact ⟨fun q i hi => by rw [e i hi]; exact q i hi, fun q i hi => by have := q i hi; rw [e i hi] at this; exact this⟩
theorem PXg.st {pr : Nat → Nat → Int} {m k : Nat} {go : Nat → Int} {R g : Nat} (hm : m < 7) (h : PXg pr m k go R) (hg : go k = (g : Int)) (hgm : g ≤ m) (ha : g < m → R.testBit g = true ∧ pr k g < 1000000) : PXg pr m (k + 1) go (rmR m R g) := by
  have R64 : R < 64 := by
    have := p2_6 m hm
    have := h.2.1
    omega
  have tn : (go k).toNat = g := by rw [hg]; rfl
  refine ⟨fun i hi => ?_, ?_, fun j hj => ?_, ?_⟩
  · by_cases e : i = k
    · rw [e, hg]
      exact ⟨by omega, by omega, fun q => (ha (by omega)).2⟩
    · exact h.1 i (by omega)
  · unfold rmR
    by_cases q : g < m
    · rw [if_pos q]; exact xo_l m hm R h.2.1 g q
    · rw [if_neg q]; exact h.2.1
  · have b := h.2.2.1 j hj
    unfold rmR
    by_cases q : g < m
    · rw [if_pos q, xo_b R R64 g (by omega) j (by omega)]
      by_cases e : j = g
      · rw [if_pos e, (ha q).1]
        exact ⟨fun z => absurd z (by decide), fun z => absurd (by rw [hg, e]) (z k (by omega))⟩
      · rw [if_neg e, b]
        constructor
        · intro z i hi
          by_cases f : i = k
          · rw [f, hg]; omega
          · exact z i (by omega)
        · intro z i hi
          exact z i (by omega)
    · rw [if_neg q, b]
      constructor
      · intro z i hi
        by_cases f : i = k
        · rw [f, hg]; omega
        · exact z i (by omega)
      · intro z i hi
        exact z i (by omega)
  · have c := h.2.2.2
    show tkG m go k + (if go k = (m : Int) then 0 else 1) + ((cbB (fun j => (rmR m R g).testBit j) m : Nat) : Int) = (m : Int)
    unfold rmR
    by_cases q : g < m
    · have cx := cb_x m hm R R64 g q (ha q).1
      rw [if_pos q, if_neg (by omega)]
      omega
    · rw [if_neg q, if_pos (by omega)]
      omega
theorem sgG_b {pr : Nat → Nat → Int} {n m : Nat} {go : Nat → Int} {R : Nat} (hp : PRB pr n m) : ∀ k, k ≤ n → PXg pr m k go R → 0 ≤ sgG pr m go k ∧ sgG pr m go k ≤ 3960 * (k : Int) := by
  intro k hk h
  have h1 := h.1
  clear h
  induction k with
  | zero => exact ⟨Int.le_refl _, Int.le_refl _⟩
  | succ k ih =>
    have q := ih (by omega) (fun i hi => h1 i (by omega))
    have t := h1 k (by omega)
    show 0 ≤ sgG pr m go k + (if go k = (m : Int) then 0 else pr k (go k).toNat) ∧ sgG pr m go k + (if go k = (m : Int) then 0 else pr k (go k).toNat) ≤ 3960 * ((k + 1 : Nat) : Int)
    by_cases e : go k = (m : Int)
    · rw [if_pos e]; omega
    · rw [if_neg e]
      have p := hp k (by omega) (go k).toNat (by omega)
      have p2 := p.2.2 (t.2.2 (by omega))
      omega
def gvF (m : Nat) (gk : Nat → Int) (z : Int) : Int := if z = (m : Int) then 100 else gk z.toNat
/-- what stands when the rows that begin so are through -/
def RES (pr : Nat → Nat → Int) (n m : Nat) (gk : Nat → Int) (d k R : Nat) (go : Nat → Int) (few : Int32) (best : Nat → Int32) (few' : Int32) (best' : Nat → Int32) : Prop := (fwF pr n m d R < 1000000 ∧ sgG pr m go k + fwF pr n m d R < few.toInt → few'.toInt = sgG pr m go k + fwF pr n m d R ∧ ∀ i, i < n → (best' i).toInt = gvF m gk (if i < k then go i else ((gwF pr n m d R i : Nat) : Int))) ∧ (¬ (fwF pr n m d R < 1000000 ∧ sgG pr m go k + fwF pr n m d R < few.toInt) → few' = few ∧ best' = best)
/-- what stands when the first g choices for the SHAFT k are through -/
def RUNg (pr : Nat → Nat → Int) (n m : Nat) (gk : Nat → Int) (d k R : Nat) (go : Nat → Int) (few0 : Int32) (best0 : Nat → Int32) (g : Nat) (few : Int32) (best : Nat → Int32) : Prop := ((mnF (opF pr m k (fun z => fwF pr n m d z) R) g).1 < 1000000 ∧ sgG pr m go k + (mnF (opF pr m k (fun z => fwF pr n m d z) R) g).1 < few0.toInt → few.toInt = sgG pr m go k + (mnF (opF pr m k (fun z => fwF pr n m d z) R) g).1 ∧ ∀ i, i < n → (best i).toInt = gvF m gk (if i < k then go i else if i = k then (((mnF (opF pr m k (fun z => fwF pr n m d z) R) g).2 : Nat) : Int) else ((gwF pr n m d (rmR m R (mnF (opF pr m k (fun z => fwF pr n m d z) R) g).2) i : Nat) : Int))) ∧ (¬ ((mnF (opF pr m k (fun z => fwF pr n m d z) R) g).1 < 1000000 ∧ sgG pr m go k + (mnF (opF pr m k (fun z => fwF pr n m d z) R) g).1 < few0.toInt) → few = few0 ∧ best = best0)
theorem RUNg.z {pr : Nat → Nat → Int} {n m : Nat} {gk : Nat → Int} {d k R : Nat} {go : Nat → Int} {few0 : Int32} {best0 : Nat → Int32} : RUNg pr n m gk d k R go few0 best0 0 few0 best0 := ⟨fun q => absurd q.1 (by show ¬ (1000000 : Int) < 1000000; decide), fun _ => ⟨rfl, rfl⟩⟩
theorem RUNg.sk {pr : Nat → Nat → Int} {n m : Nat} {gk : Nat → Int} {d k R : Nat} {go : Nat → Int} {few0 few : Int32} {best0 best : Nat → Int32} {g : Nat} (h : RUNg pr n m gk d k R go few0 best0 g few best) (ho : opF pr m k (fun z => fwF pr n m d z) R g = 1000000) : RUNg pr n m gk d k R go few0 best0 (g + 1) few best := by
  have a := (mnF_ok (opt := opF pr m k (fun z => fwF pr n m d z) R) g).1
  have e := mnF_n (opt := opF pr m k (fun z => fwF pr n m d z) R) (g := g) (by omega)
  unfold RUNg
  rw [e]
  exact h
theorem RUNg.up {pr : Nat → Nat → Int} {n m : Nat} {gk : Nat → Int} {d k R : Nat} {go go2 : Nat → Int} {few0 few few' : Int32} {best0 best best' : Nat → Int32} {g : Nat} (hp : PRB pr n m) (hk : k < n) (hd : d ≤ n) (hn : n ≤ 6) (h : RUNg pr n m gk d k R go few0 best0 g few best) (hgo : ∀ i, i < k → go2 i = go i) (hg : go2 k = (g : Int)) (hgm : g ≤ m) (ha : g < m → R.testBit g = true ∧ pr k g < 1000000) (hr : RES pr n m gk d (k + 1) (rmR m R g) go2 few best few' best') : RUNg pr n m gk d k R go few0 best0 (g + 1) few' best' := by
  obtain ⟨a, b, c⟩ := mnF_ok (opt := opF pr m k (fun z => fwF pr n m d z) R) g
  have tn : (go2 k).toNat = g := by rw [hg]; rfl
  have es : sgG pr m go2 (k + 1) = sgG pr m go k + (if g = m then 0 else pr k g) := by
    show sgG pr m go2 k + (if go2 k = (m : Int) then 0 else pr k (go2 k).toNat) = _
    rw [sgG_cg k hgo, tn]
    by_cases q : g = m
    · rw [if_pos q, if_pos (by omega)]
    · rw [if_neg q, if_neg (by omega)]
  have eo : (fwF pr n m d (rmR m R g) < 1000000 → opF pr m k (fun z => fwF pr n m d z) R g = (if g = m then 0 else pr k g) + fwF pr n m d (rmR m R g)) ∧ (¬ fwF pr n m d (rmR m R g) < 1000000 → ¬ opF pr m k (fun z => fwF pr n m d z) R g < 1000000) := by
    unfold opF rmR
    by_cases q : g < m
    · rw [if_pos q, if_pos q, if_neg (show ¬ g = m by omega)]
      dsimp only
      refine ⟨fun z => if_pos ⟨(ha q).1, (ha q).2, z⟩, fun z => ?_⟩
      rw [if_neg (fun y => z y.2.2)]
      decide
    · rw [if_neg q, if_neg q, if_pos (show g = m by omega)]
      exact ⟨fun z => by show fwF pr n m d R = _; omega, fun z => z⟩
  have ob : fwF pr n m d (rmR m R g) < 1000000 → opF pr m k (fun z => fwF pr n m d z) R g < 1000000 := fun z => by
    have f := (fw_b hp d hd (rmR m R g)).2.2 z
    have e := eo.1 z
    by_cases gm : g = m
    · rw [if_pos gm] at e; omega
    · rw [if_neg gm] at e
      have q := (hp k hk g (by omega)).2.2 (ha (by omega)).2
      omega
  have ro : ∀ i, i < n → gvF m gk (if i < k + 1 then go2 i else ((gwF pr n m d (rmR m R g) i : Nat) : Int)) = gvF m gk (if i < k then go i else if i = k then (g : Int) else ((gwF pr n m d (rmR m R g) i : Nat) : Int)) := fun i _ => by
    by_cases q : i < k
    · rw [if_pos q, if_pos (by omega), hgo i q]
    · by_cases e : i = k
      · rw [if_neg q, if_pos e, if_pos (by omega), e, hg]
      · rw [if_neg q, if_neg e, if_neg (by omega)]
  unfold RES at hr
  rw [es] at hr
  clear es
  generalize (if g = m then (0 : Int) else pr k g) = pp at *
  by_cases l : opF pr m k (fun z => fwF pr n m d z) R g < (mnF (opF pr m k (fun z => fwF pr n m d z) R) g).1
  · have e := mnF_y l
    have ff : fwF pr n m d (rmR m R g) < 1000000 := by
      by_cases z : fwF pr n m d (rmR m R g) < 1000000
      · exact z
      · exact absurd (by omega) (eo.2 z)
    have eo1 := eo.1 ff
    unfold RUNg
    rw [e]
    show (opF pr m k (fun z => fwF pr n m d z) R g < 1000000 ∧ sgG pr m go k + opF pr m k (fun z => fwF pr n m d z) R g < few0.toInt → few'.toInt = sgG pr m go k + opF pr m k (fun z => fwF pr n m d z) R g ∧ ∀ i, i < n → (best' i).toInt = gvF m gk (if i < k then go i else if i = k then (g : Int) else ((gwF pr n m d (rmR m R g) i : Nat) : Int))) ∧ (¬ (opF pr m k (fun z => fwF pr n m d z) R g < 1000000 ∧ sgG pr m go k + opF pr m k (fun z => fwF pr n m d z) R g < few0.toInt) → few' = few0 ∧ best' = best0)
    by_cases f : (mnF (opF pr m k (fun z => fwF pr n m d z) R) g).1 < 1000000 ∧ sgG pr m go k + (mnF (opF pr m k (fun z => fwF pr n m d z) R) g).1 < few0.toInt
    · have hf := (h.1 f).1
      have ir := hr.1 ⟨ff, by omega⟩
      have ir1 := ir.1
      refine ⟨fun _ => ⟨by omega, fun i hi => by rw [ir.2 i hi]; exact ro i hi⟩, fun z => ?_⟩
      exact absurd ⟨by omega, by omega⟩ z
    · have hf := h.2 f
      refine ⟨fun z => ?_, fun z => ?_⟩
      · have ir := hr.1 ⟨ff, by rw [hf.1]; omega⟩
        have ir1 := ir.1
        exact ⟨by omega, fun i hi => by rw [ir.2 i hi]; exact ro i hi⟩
      · have ir := hr.2 (fun y => z ⟨by omega, by have y2 := y.2; rw [hf.1] at y2; omega⟩)
        exact ⟨ir.1.trans hf.1, ir.2.trans hf.2⟩
  · have e := mnF_n l
    have same : few' = few ∧ best' = best := hr.2 (fun y => by
      have eo1 := eo.1 y.1
      by_cases f : (mnF (opF pr m k (fun z => fwF pr n m d z) R) g).1 < 1000000 ∧ sgG pr m go k + (mnF (opF pr m k (fun z => fwF pr n m d z) R) g).1 < few0.toInt
      · have hf := (h.1 f).1
        have y2 := y.2
        omega
      · have hf := (h.2 f).1
        have y2 := y.2
        rw [hf] at y2
        have o := ob y.1
        exact f ⟨by omega, by omega⟩)
    unfold RUNg
    rw [e, same.1, same.2]
    exact h
