/-! the next place to lie: of both sides -/
/-- by the first n CELLS of h: how many have the sound j; how many at most are alike -/
def alF (h : Nat → Bool) (g : Nat → Nat) : Nat → Nat → Int
  | 0, _ => 0
  | n + 1, j => if h n = true ∧ j = g n then alF h g n j + 1 else alF h g n j
def moF (h : Nat → Bool) (g : Nat → Nat) : Nat → Int
  | 0 => 0
  | n + 1 => if h n = true then (if moF h g n < alF h g n (g n) + 1 then alF h g n (g n) + 1 else moF h g n) else moF h g n
theorem alF_b {h : Nat → Bool} {g : Nat → Nat} : ∀ n j, 0 ≤ alF h g n j ∧ alF h g n j ≤ n := by
  intro n
  induction n with
  | zero => intro j; exact ⟨Int.le_refl _, Int.le_refl _⟩
  | succ n ih =>
    intro j
    have q := ih j
    show 0 ≤ (if h n = true ∧ j = g n then alF h g n j + 1 else alF h g n j) ∧ (if h n = true ∧ j = g n then alF h g n j + 1 else alF h g n j) ≤ ((n + 1 : Nat) : Int)
    by_cases c : h n = true ∧ j = g n
    · rw [if_pos c]; omega
    · rw [if_neg c]; omega
theorem moF_y {h : Nat → Bool} {g : Nat → Nat} {n : Nat} (hn : h n = true) : moF h g (n + 1) = if moF h g n < alF h g n (g n) + 1 then alF h g n (g n) + 1 else moF h g n := if_pos hn
theorem moF_n {h : Nat → Bool} {g : Nat → Nat} {n : Nat} (hn : ¬ h n = true) : moF h g (n + 1) = moF h g n := if_neg hn
theorem moF_b {h : Nat → Bool} {g : Nat → Nat} : ∀ n, 0 ≤ moF h g n ∧ moF h g n ≤ n := by
  intro n
  induction n with
  | zero => exact ⟨Int.le_refl _, Int.le_refl _⟩
  | succ n ih =>
    have q := alF_b (h := h) (g := g) n (g n)
    by_cases c : h n = true
    · rw [moF_y c]
      split <;> omega
    · rw [moF_n c]; omega
theorem moF_1 {h : Nat → Bool} {g : Nat → Nat} {k : Nat} (hk : h k = true) : ∀ n, k < n → 1 ≤ moF h g n := by
  intro n
  induction n with
  | zero => intro q; omega
  | succ n ih =>
    intro q
    have a := alF_b (h := h) (g := g) n (g n)
    by_cases c : h n = true
    · rw [moF_y c]
      split <;> omega
    · rw [moF_n c]
      by_cases e : k = n
      · subst e; exact absurd hk c
      · exact ih (by omega)
theorem moF_0 {h : Nat → Bool} {g : Nat → Nat} : ∀ n, (∀ k, k < n → ¬ h k = true) → moF h g n = 0 := by
  intro n
  induction n with
  | zero => intro _; rfl
  | succ n ih =>
    intro q
    rw [moF_n (q n (by omega))]
    exact ih (fun k hk => q k (by omega))
def AL (f : Nat → Int32) (h : Nat → Bool) (g : Nat → Nat) (n : Nat) : Prop := ∀ j, j < 100 → (f j).toInt = alF h g n j
theorem AL.y {f : Nat → Int32} {h : Nat → Bool} {g : Nat → Nat} {n : Nat} (hA : AL f h g n) (hn : h n = true) (h40 : n ≤ 40) : AL (upd f (g n) (f (g n) + 1)) h g (n + 1) := by
  intro j hj
  show _ = if h n = true ∧ j = g n then alF h g n j + 1 else alF h g n j
  by_cases e : j = g n
  · have b := alF_b (h := h) (g := g) n j
    rw [if_pos ⟨hn, e⟩, ← e, pk_us, add_z (b := 1) (y := 1) (hA j hj) rfl (by omega) (by omega)]
  · rw [if_neg (fun q => e q.2), pk_un e]
    exact hA j hj
theorem AL.n {f : Nat → Int32} {h : Nat → Bool} {g : Nat → Nat} {n : Nat} (hA : AL f h g n) (hn : ¬ h n = true) : AL f h g (n + 1) := by
  intro j hj
  show _ = if h n = true ∧ j = g n then alF h g n j + 1 else alF h g n j
  rw [if_neg (fun q => hn q.1)]
  exact hA j hj
theorem AL.z {f : Nat → Int32} {h : Nat → Bool} {g : Nat → Nat} (hf : ∀ j, j < 100 → f j = 0) : AL f h g 0 := fun j hj => by rw [hf j hj]; rfl
theorem x_fl {Qb : Int32 → (Nat → Int32) → Prop} (K : ∀ (x : Int32) (f : Nat → Int32), (∀ j, j < 100 → f j = 0) → Qb x f) : ∀ (m i : Nat) (x : Int32) (f : Nat → Int32), x.toInt = (i : Int) → i ≤ 100 → 100 - i < m → (∀ j, j < i → f j = 0) → wl_J7_fill_53178_5 0 100 Qb m x f := by
  intro m
  induction m with
  | zero => intro i x f _ _ h; omega
  | succ m ih =>
    intro i x f hx hi hm hf
    unfold wl_J7_fill_53178_5
    by_cases q : Int32.ofNat 100 ≤ x
    · have q' := le_z (x := 100) rfl hx q
      exact br1 q (K _ _ (fun j hj => hf j (by omega)))
    · have q' := nle_z (x := 100) rfl hx q
      refine br0 q ⟨vpi hx (by omega) (by omega), ih (i + 1) _ _ (add1 hx (by omega)) (by omega) (by omega) (fun j hj => ?_)⟩
      rw [tnN hx]
      by_cases e : j = i
      · rw [e, pk_us]
      · rw [pk_un e]; exact hf j (by omega)
theorem x_nf {Qb : Int32 → (Nat → Int32) → Prop} (K : ∀ (x : Int32) (f : Nat → Int32), (∀ j, j < 100 → f j = 0) → Qb x f) : ∀ (m i : Nat) (x : Int32) (f : Nat → Int32), x.toInt = (i : Int) → i ≤ 100 → 100 - i < m → (∀ j, j < i → f j = 0) → wl_X12_next_36 Qb m x f := by
  intro m
  induction m with
  | zero => intro i x f _ _ h; omega
  | succ m ih =>
    intro i x f hx hi hm hf
    unfold wl_X12_next_36
    by_cases q : 100 ≤ x
    · have q' := le_z (x := 100) rfl hx q
      exact br1 q (K _ _ (fun j hj => hf j (by omega)))
    · have q' := nle_z (x := 100) rfl hx q
      refine br0 q ⟨vpi hx (by omega) (by omega), ih (i + 1) _ _ (add1 hx (by omega)) (by omega) (by omega) (fun j hj => ?_)⟩
      rw [tnN hx]
      by_cases e : j = i
      · rw [e, pk_us]
      · rw [pk_un e]; exact hf j (by omega)
theorem cmp_bt {a : Int64} {x : Int32} {n : Nat} (hx : x.toInt = (n : Int)) (hn : n < 64) : (lg_cmp ((a >>> (x.toInt64 &&& 63)) &&& 1) 0 = 0) ↔ bt a n = false := by
  constructor
  · intro q
    have q2 : ((a >>> (x.toInt64 &&& 63)) &&& 1) = 0 := Int64.toInt_inj.mp (cmp_eq.mp q)
    cases g : bt a n with
    | false => rfl
    | true =>
      have t := (bt_is (x := a) hx hn).mpr g
      rw [q2] at t
      exact absurd t (by decide)
  · intro g
    have z : ¬ ((a >>> (x.toInt64 &&& 63)) &&& 1) = 1 := fun t => by
      rw [(bt_is hx hn).mp t] at g
      cases g
    rw [and1_0 z]
    exact cmp_eq.mpr rfl
theorem bt_bitsF {p : Nat → Bool} : ∀ n, n ≤ 64 → ∀ j, bt (bitsF p n) j = (decide (j < n) && p j) := by
  intro n
  induction n with
  | zero => intro _ j; unfold bt; show (0#64).getLsbD j = _; rw [BitVec.getLsbD_zero]; simp
  | succ n ih =>
    intro hn j
    have hI := ih (by omega) j
    have e1 : (nI n).toInt = (n : Int) := nI_toInt (by omega)
    by_cases c : p n = true
    · have B := bt_or1 (x := bitsF p n) e1 (by omega) j
      rw [sh_amt e1 (by omega)] at B
      show bt (if p n = true then bitsF p n ||| ((1 : Int64) <<< lN n) else bitsF p n) j = _
      rw [if_pos c, B, hI]
      by_cases e : n = j
      · subst e; simp [c]
      · have d : decide (j < n + 1) = decide (j < n) := by
          by_cases g : j < n
          · rw [decide_eq_true g, decide_eq_true (show j < n + 1 by omega)]
          · rw [decide_eq_false g, decide_eq_false (show ¬ j < n + 1 by omega)]
        rw [d]; simp [e]
    · show bt (if p n = true then bitsF p n ||| ((1 : Int64) <<< lN n) else bitsF p n) j = _
      rw [if_neg c, hI]
      by_cases e : n = j
      · subst e; simp [c]
      · have d : decide (j < n + 1) = decide (j < n) := by
          by_cases g : j < n
          · rw [decide_eq_true g, decide_eq_true (show j < n + 1 by omega)]
          · rw [decide_eq_false g, decide_eq_false (show ¬ j < n + 1 by omega)]
        rw [d]
theorem bt_hid {F : Option (List Cls)} {w : Nat → Int} (n : Nat) (hn : n < 40) : bt (hidL F w) n = hdB F w n := by
  unfold hidL
  rw [bt_bitsF 40 (by decide) n, decide_eq_true hn, Bool.true_and]
/-- the sound of a CELL in a COLUMN -/
def sdF (F : Option (List Cls)) (w : Nat → Int) (col : Int) (c : Nat) : Nat := (mxZ0 (loudI F w (c : Int) 3 col)).toNat
theorem mxZ0_b {x : Int} (h : x ≤ 99) : 0 ≤ mxZ0 x ∧ mxZ0 x ≤ 99 := by
  unfold mxZ0
  split <;> omega
theorem x_mal {F : Option (List Cls)} {w : Nat → Int} {said lost : Nat → Int32} {a : Int64} {b : Int32} {h : Nat → Bool} (ha : ∀ n, n < 40 → bt a n = h n) (hM : MSZ F w said lost (fun c => h c = true)) (hb : 0 ≤ b.toInt ∧ b.toInt ≤ 99) {Qb : Int32 → Int32 → (Nat → Int32) → Prop} (K : ∀ (x s : Int32) (f : Nat → Int32), s.toInt = moF h (sdF F w b.toInt) 40 → Qb x s f) : ∀ (m i : Nat) (x s : Int32) (f : Nat → Int32), x.toInt = (i : Int) → i ≤ 40 → 40 - i < m → s.toInt = moF h (sdF F w b.toInt) i → AL f h (sdF F w b.toInt) i → wl_X3_mostAlike_14 a b said lost Qb m x s f := by
  intro m
  induction m with
  | zero => intro i x s f _ _ h; omega
  | succ m ih =>
    intro i x s f hx hi hm hs hA
    unfold wl_X3_mostAlike_14
    by_cases q : 40 ≤ x
    · have q' := le_z (x := 40) rfl hx q
      refine br1 q (K _ _ _ ?_)
      rw [show (40 : Nat) = i by omega]
      exact hs
    · have q' := nle_z (x := 40) rfl hx q
      refine br0 q ?_
      have i40 : i < 40 := by omega
      by_cases t : lg_cmp ((a >>> (x.toInt64 &&& 63)) &&& 1) 0 = 0
      · have t' := (cmp_bt hx (by omega)).mp t
        rw [ha i i40] at t'
        have hn : ¬ h i = true := by rw [t']; decide
        exact br1 t (ih (i + 1) _ _ _ (add1 hx (by omega)) (by omega) (by omega) (by rw [moF_n hn]; exact hs) (hA.n hn))
      · have hn : h i = true := by
          cases g : h i with
          | true => rfl
          | false => exact absurd ((cmp_bt hx (by omega)).mpr (by rw [ha i i40]; exact g)) t
        refine br0 t (z_loudn hM hx i40 hn hb (fun r H => ?_))
        refine x_nearest (x := r.toInt) (y := 0) (z := 99) rfl rfl rfl (by decide) (fun k hk => ?_)
        have r2 := H.2
        have r1 := H.1
        have mb := mxZ0_b (x := loudI F w (i : Int) 3 b.toInt) (by omega)
        have ek : k.toInt = ((sdF F w b.toInt i : Nat) : Int) := by
          unfold sdF
          rw [Int.toNat_of_nonneg mb.1, hk, r2]
          unfold nrI mxZ0
          (repeat' split) <;> omega
        have g99 : sdF F w b.toInt i < 100 := by unfold sdF; omega
        have vk : vp_in k 100 := vpi ek (by omega) (by omega)
        refine ⟨vk, vk, vk, ?_⟩
        rw [tnN ek]
        have ea : (f (sdF F w b.toInt i)).toInt = alF h (sdF F w b.toInt) i (sdF F w b.toInt i) := hA _ g99
        have ab := alF_b (h := h) (g := sdF F w b.toInt) i (sdF F w b.toInt i)
        have e1 : (f (sdF F w b.toInt i) + 1).toInt = alF h (sdF F w b.toInt) i (sdF F w b.toInt i) + 1 := add_z (b := 1) (y := 1) ea rfl (by omega) (by omega)
        refine ih (i + 1) _ _ _ (add1 hx (by omega)) (by omega) (by omega) ?_ (hA.y hn (by omega))
        rw [moF_y hn]
        by_cases c : s < f (sdF F w b.toInt i) + 1
        · have c' := lt_z hs e1 c
          rw [if_pos c, if_pos c']; exact e1
        · have c' := nlt_z hs e1 c
          rw [if_neg c, if_neg (show ¬ moF h (sdF F w b.toInt) i < alF h (sdF F w b.toInt) i (sdF F w b.toInt i) + 1 by omega)]; exact hs
theorem z_mal {F : Option (List Cls)} {w : Nat → Int} {said lost al : Nat → Int32} {a : Int64} {b : Int32} {h : Nat → Bool} (ha : ∀ n, n < 40 → bt a n = h n) (hM : MSZ F w said lost (fun c => h c = true)) (hb : 0 ≤ b.toInt ∧ b.toInt ≤ 99) {Q : Int32 → (Nat → Int32) → Prop} (hq : ∀ (r : Int32) (al' : Nat → Int32), r.toInt = moF h (sdF F w b.toInt) 40 → Q r al') : wp_X3_mostAlike a b al said lost Q := by
  unfold wp_X3_mostAlike wp_J7_fill_53178
  exact x_fl (fun x f hf => x_mal ha hM hb (fun x s f hs => hq s f hs) _ 0 _ _ _ rfl (by omega) (by omega) rfl (AL.z hf)) _ 0 _ _ rfl (by omega) (by omega) (fun j hj => absurd hj (Nat.not_lt_zero _))
/-- behind the first n COLUMNS: the best one, how many are alike there -/
def nxF (F : Option (List Cls)) (w : Nat → Int) : Nat → Int × Int
  | 0 => (-1, 100000000)
  | n + 1 => if moF (hdB F w) (sdF F w (n : Int)) 40 ≤ 0 ∨ (nxF F w n).2 ≤ moF (hdB F w) (sdF F w (n : Int)) 40 then nxF F w n else ((n : Int), moF (hdB F w) (sdF F w (n : Int)) 40)
theorem nxF_k {F : Option (List Cls)} {w : Nat → Int} {n : Nat} (h : moF (hdB F w) (sdF F w (n : Int)) 40 ≤ 0 ∨ (nxF F w n).2 ≤ moF (hdB F w) (sdF F w (n : Int)) 40) : nxF F w (n + 1) = nxF F w n := if_pos h
theorem nxF_u {F : Option (List Cls)} {w : Nat → Int} {n : Nat} (h : ¬ (moF (hdB F w) (sdF F w (n : Int)) 40 ≤ 0 ∨ (nxF F w n).2 ≤ moF (hdB F w) (sdF F w (n : Int)) 40)) : nxF F w (n + 1) = ((n : Int), moF (hdB F w) (sdF F w (n : Int)) 40) := if_neg h
def nextR (F : Option (List Cls)) (w : Nat → Int) (a : Int) : Int := if a < 0 ∨ 1 < a then -1 else if (nxF F w 8).1 = -1 then -1 else if a = 0 then (nxF F w 8).1 else (nxF F w 8).2
theorem nxF_b {F : Option (List Cls)} {w : Nat → Int} : ∀ n, -1 ≤ (nxF F w n).1 ∧ (nxF F w n).1 ≤ n ∧ 0 ≤ (nxF F w n).2 ∧ (nxF F w n).2 ≤ 100000000 := by
  intro n
  induction n with
  | zero => exact ⟨(show (-1 : Int) ≤ -1 by decide), (show (-1 : Int) ≤ ((0 : Nat) : Int) by decide), (show (0 : Int) ≤ 100000000 by decide), (show (100000000 : Int) ≤ 100000000 by decide)⟩
  | succ n ih =>
    have q := moF_b (h := hdB F w) (g := sdF F w (n : Int)) 40
    by_cases c : moF (hdB F w) (sdF F w (n : Int)) 40 ≤ 0 ∨ (nxF F w n).2 ≤ moF (hdB F w) (sdF F w (n : Int)) 40
    · rw [nxF_k c]; omega
    · rw [nxF_u c]
      refine ⟨?_, ?_, ?_, ?_⟩
      · show -1 ≤ (n : Int); omega
      · show (n : Int) ≤ ((n + 1 : Nat) : Int); omega
      · show 0 ≤ moF _ _ _; omega
      · show moF _ _ _ ≤ 100000000; omega
theorem nx_some {F : Option (List Cls)} {w : Nat → Int} (h : ¬ hidL F w = 0) : ∃ k, k < 40 ∧ hdB F w k = true := by
  apply Classical.byContradiction
  intro q
  apply h
  apply wb_inj
  apply BitVec.eq_of_getLsbD_eq
  intro j hj
  show bt (hidL F w) j = (0#64).getLsbD j
  rw [BitVec.getLsbD_zero]
  unfold hidL
  rw [bt_bitsF 40 (by decide) j]
  by_cases g : j < 40
  · cases e : hdB F w j with
    | true => exact absurd ⟨j, g, e⟩ q
    | false => rw [Bool.and_false]
  · rw [decide_eq_false g, Bool.false_and]
theorem nx_none {F : Option (List Cls)} {w : Nat → Int} (h : hidL F w = 0) : (nxF F w 8).1 = -1 := by
  have z : ∀ k, k < 40 → ¬ hdB F w k = true := fun k hk e => by
    have t := bt_hid (F := F) (w := w) k hk
    rw [h, e] at t
    have t2 : bt 0 k = false := by unfold bt; exact BitVec.getLsbD_zero
    rw [t2] at t
    cases t
  have m : ∀ n : Nat, moF (hdB F w) (sdF F w (n : Int)) 40 ≤ 0 := fun n => by rw [moF_0 40 z]; exact Int.le_refl _
  have all : ∀ n, nxF F w n = (-1, 100000000) := by
    intro n
    induction n with
    | zero => rfl
    | succ n ih => rw [nxF_k (Or.inl (m n))]; exact ih
  rw [all 8]
theorem nx_one {F : Option (List Cls)} {w : Nat → Int} {k : Nat} (hk : k < 40) (h : hdB F w k = true) : nxF F w 1 = (0, moF (hdB F w) (sdF F w 0) 40) := by
  have a := moF_1 (g := sdF F w 0) h 40 hk
  have b := moF_b (h := hdB F w) (g := sdF F w 0) 40
  exact nxF_u (n := 0) (F := F) (w := w) (fun q => by
    have q2 : moF (hdB F w) (sdF F w 0) 40 ≤ 0 ∨ (100000000 : Int) ≤ moF (hdB F w) (sdF F w 0) 40 := q
    omega)
theorem nx_y {F : Option (List Cls)} {w : Nat → Int} {k n : Nat} (hk : k < 40) (h : hdB F w k = true) (c : ¬ (nxF F w n).2 ≤ moF (hdB F w) (sdF F w (n : Int)) 40) : nxF F w (n + 1) = ((n : Int), moF (hdB F w) (sdF F w (n : Int)) 40) := by
  have a := moF_1 (g := sdF F w (n : Int)) h 40 hk
  exact nxF_u (fun q => q.elim (fun q => by omega) (fun q => c q))
theorem x_nxN {F : Option (List Cls)} {w : Nat → Int} {said lost : Nat → Int32} {y : Int64} {k : Nat} (hk : k < 40) (hd : hdB F w k = true) (ha : ∀ n, n < 40 → bt y n = hdB F w n) (hM : MSZ F w said lost (fun c => hdB F w c = true)) {Qb : Int32 → Int32 → Int32 → (Nat → Int32) → Prop} (K : ∀ (x f b : Int32) (al : Nat → Int32), f.toInt = (nxF F w 8).2 ∧ b.toInt = (nxF F w 8).1 → Qb x f b al) : ∀ (m i : Nat) (x f b : Int32) (al : Nat → Int32), x.toInt = (i : Int) → i ≤ 8 → 8 - i < m → f.toInt = (nxF F w i).2 → b.toInt = (nxF F w i).1 → wl_X11_next_N_52 y said lost Qb m x f b al := by
  intro m
  induction m with
  | zero => intro i x f b al _ _ h; omega
  | succ m ih =>
    intro i x f b al hx hi hm hf hb
    unfold wl_X11_next_N_52
    by_cases q : 8 ≤ x
    · have q' := le_z (x := 8) rfl hx q
      refine br1 q (K _ _ _ _ ?_)
      rw [show (8 : Nat) = i by omega]
      exact ⟨hf, hb⟩
    · have q' := nle_z (x := 8) rfl hx q
      refine br0 q (z_mal ha hM ⟨by omega, by omega⟩ (fun r u h => ?_))
      rw [hx] at h
      show (if f ≤ r then _ else _)
      by_cases c : f ≤ r
      · have c' := le_z hf h c
        refine br1 c (ih (i + 1) _ _ _ _ (add1 hx (by omega)) (by omega) (by omega) ?_ ?_)
        · rw [nxF_k (Or.inr c')]; exact hf
        · rw [nxF_k (Or.inr c')]; exact hb
      · have c' := nle_z hf h c
        refine br0 c (ih (i + 1) _ _ _ _ (add1 hx (by omega)) (by omega) (by omega) ?_ ?_)
        · rw [nx_y hk hd (by omega)]; exact h
        · rw [nx_y hk hd (by omega)]; exact hx
theorem x_nxT {F : Option (List Cls)} {w : Nat → Int} {said lost : Nat → Int32} {y : Int64} {k : Nat} (hk : k < 40) (hd : hdB F w k = true) (ha : ∀ n, n < 40 → bt y n = hdB F w n) (hM : MSZ F w said lost (fun c => hdB F w c = true)) {Qb : Int32 → Int32 → Int32 → (Nat → Int32) → Prop} (K : ∀ (x f b : Int32) (al : Nat → Int32), f.toInt = (nxF F w 8).2 ∧ b.toInt = (nxF F w 8).1 → Qb x f b al) : ∀ (m i : Nat) (x f b : Int32) (al : Nat → Int32), x.toInt = (i : Int) → i ≤ 8 → 8 - i < m → f.toInt = (nxF F w i).2 → b.toInt = (nxF F w i).1 → wl_X11_next_T_52 y said lost Qb m x f b al := by
  intro m
  induction m with
  | zero => intro i x f b al _ _ h; omega
  | succ m ih =>
    intro i x f b al hx hi hm hf hb
    unfold wl_X11_next_T_52
    by_cases q : 8 ≤ x
    · have q' := le_z (x := 8) rfl hx q
      refine br1 q (K _ _ _ _ ?_)
      rw [show (8 : Nat) = i by omega]
      exact ⟨hf, hb⟩
    · have q' := nle_z (x := 8) rfl hx q
      refine br0 q (z_mal ha hM ⟨by omega, by omega⟩ (fun r u h => ?_))
      rw [hx] at h
      show (if f ≤ r then _ else _)
      by_cases c : f ≤ r
      · have c' := le_z hf h c
        refine br1 c (ih (i + 1) _ _ _ _ (add1 hx (by omega)) (by omega) (by omega) ?_ ?_)
        · rw [nxF_k (Or.inr c')]; exact hf
        · rw [nxF_k (Or.inr c')]; exact hb
      · have c' := nle_z hf h c
        refine br0 c (ih (i + 1) _ _ _ _ (add1 hx (by omega)) (by omega) (by omega) ?_ ?_)
        · rw [nx_y hk hd (by omega)]; exact h
        · rw [nx_y hk hd (by omega)]; exact hx
theorem nx_ge {F : Option (List Cls)} {w : Nat → Int} {k : Nat} (hk : k < 40) (h : hdB F w k = true) : ∀ n, 0 ≤ (nxF F w (n + 1)).1 := by
  intro n
  induction n with
  | zero => rw [nx_one hk h]; exact Int.le_refl _
  | succ n ih =>
    by_cases c : moF (hdB F w) (sdF F w ((n + 1 : Nat) : Int)) 40 ≤ 0 ∨ (nxF F w (n + 1)).2 ≤ moF (hdB F w) (sdF F w ((n + 1 : Nat) : Int)) 40
    · rw [nxF_k c]; exact ih
    · rw [nxF_u c]
      show 0 ≤ ((n + 1 : Nat) : Int)
      omega
theorem hdB_t {F : Option (List Cls)} {w : Nat → Int} {c : Nat} (h : hdB F w c = true) : ¬ w (113 + c) = 3 ∧ w (33 + c) = 0 := by
  unfold hdB at h
  exact of_decide_eq_true ((Bool.and_eq_true _ _).mp h).1
theorem MSZ.hd {F : Option (List Cls)} {w : Nat → Int} {said lost : Nat → Int32} (h : MSZ F w said lost (fun c => ¬ w (113 + c) = 3 ∧ w (33 + c) = 0)) : MSZ F w said lost (fun c => hdB F w c = true) := ⟨h.1, h.2.1, fun c hc hp => h.2.2 c hc (hdB_t hp)⟩
theorem nextR_1 {F : Option (List Cls)} {w : Nat → Int} {a : Int} (h : a < 0 ∨ 1 < a) : nextR F w a = -1 := if_pos h
theorem nextR_2 {F : Option (List Cls)} {w : Nat → Int} {a : Int} (h : (nxF F w 8).1 = -1) : nextR F w a = -1 := by
  unfold nextR
  by_cases c : a < 0 ∨ 1 < a
  · rw [if_pos c]
  · rw [if_neg c, if_pos h]
theorem nextR_3 {F : Option (List Cls)} {w : Nat → Int} {a : Int} (h0 : a = 0) (h : ¬ (nxF F w 8).1 = -1) : nextR F w a = (nxF F w 8).1 := by
  unfold nextR
  rw [if_neg (show ¬ (a < 0 ∨ 1 < a) by omega), if_neg h, if_pos h0]
theorem nextR_4 {F : Option (List Cls)} {w : Nat → Int} {a : Int} (h0 : a = 1) (h : ¬ (nxF F w 8).1 = -1) : nextR F w a = (nxF F w 8).2 := by
  unfold nextR
  rw [if_neg (show ¬ (a < 0 ∨ 1 < a) by omega), if_neg h, if_neg (show ¬ a = 0 by omega)]
theorem x_nextN {kd hard water term hc hl said lost al : Nat → Int32} {dg : Int64} {a lc fo hs c s k : Int32} {site : Nat} {W0 L0 : Value} {laws : Nat → Option Nat} {w : Nat → Int} (hW : WK kd hard water term w) (hD : RD dg w) (hhc : RbW hc 210 8 w) (hhl : RbW hl 211 8 w) (hhs : hs.toInt = w 3) (h8 : 0 ≤ w 3 ∧ w 3 ≤ 8) (c7 : ∀ k, k < 8 → 0 ≤ w (210 + 2 * k) ∧ w (210 + 2 * k) ≤ 99) (hfo : fo.toInt < 0) (hS : SA said) (hL : LO lost) (hcc : 0 ≤ c.toInt ∧ c.toInt ≤ 39) {Q : Int32 → (Value × Value × Int32 × Int32 × Int32 × (Nat → Int32) × (Nat → Int32) × (Nat → Int32)) → Prop} (hq : ∀ (r : Int32) (v1 v2 : Value) (c' s' k' : Int32) (said' lost' al' : Nat → Int32), r.toInt = nextR none w a.toInt ∧ SA said' ∧ LO lost' ∧ (0 ≤ c'.toInt ∧ c'.toInt ≤ 39) → Q r (v1, v2, c', s', k', said', lost', al')) : wp_X11_next_N a site lc fo laws W0 L0 c s k dg kd said lost hs hc hl al Q := by
  have m1 : (-1 : Int32).toInt = -1 := by decide
  unfold wp_X11_next_N
  refine x_within2 (n := 2) (z := 2) rfl (fun h => jn_s (br1 rfl (un8_i (br1 rfl (hq _ _ _ _ _ _ _ _ _ ⟨m1.trans (nextR_1 (by omega)).symm, hS, hL, hcc⟩))))) (fun h0 h1 => jn_s (br0 (by decide) (z_hidN hW hD hhc hhl hhs h8 c7 hfo hS hL hcc (fun r c' s' k' said' lost' H => un5_i (un8_i ?_)))))
  obtain ⟨hr, hM, hc2⟩ := H
  by_cases z : lg_cmp r 0 = 0
  · have z2 : hidL none w = 0 := hr.symm.trans (Int64.toInt_inj.mp (cmp_eq.mp z))
    exact br1 z (hq _ _ _ _ _ _ _ _ _ ⟨m1.trans (nextR_2 (nx_none z2)).symm, hM.1, hM.2.1, hc2⟩)
  · have z2 : ¬ hidL none w = 0 := fun e => z (by rw [hr, e]; exact cmp_eq.mpr rfl)
    obtain ⟨k0, hk0, hd⟩ := nx_some z2
    have ha : ∀ n, n < 40 → bt r n = hdB none w n := fun n hn => by rw [hr]; exact bt_hid n hn
    have hM2 := hM.hd
    have n1 := nx_one hk0 hd
    have ne : ¬ (nxF none w 8).1 = -1 := by
      have q : 0 ≤ (nxF none w 8).1 := nx_ge hk0 hd 7
      omega
    refine br0 z (z_mal (b := 0) ha hM2 ⟨by decide, by decide⟩ (fun r2 u h => ?_))
    have h : r2.toInt = moF (hdB none w) (sdF none w 0) 40 := h
    refine x_nxN hk0 hd ha hM2 (fun x f b al' H => ?_) _ 1 1 r2 0 u rfl (by decide) (by decide) (by rw [n1]; exact h) (by rw [n1]; rfl)
    by_cases ca : a = 0
    · have ca' := eq_z (x := a.toInt) (y := 0) rfl rfl ca
      exact br1 ca (hq _ _ _ _ _ _ _ _ _ ⟨H.2.trans (nextR_3 ca' ne).symm, hM.1, hM.2.1, hc2⟩)
    · have ca' := ne_z (x := a.toInt) (y := 0) rfl rfl ca
      exact br0 ca (hq _ _ _ _ _ _ _ _ _ ⟨H.1.trans (nextR_4 (by omega) ne).symm, hM.1, hM.2.1, hc2⟩)
theorem x_nextT {dn lt tlc tll ls cc : Int32} {nh nk : Nat} {fh code col cel buk : Nat → Int32} {stk : Nat → Int64} {L : List Cls} {t : Nat} {kd hard water term hc hl said lost al : Nat → Int32} {dg : Int64} {a lc fo hs c s k v : Int32} {site : Nat} {W0 L0 : Value} {laws : Nat → Option Nat} {w : Nat → Int} (hT : XTx tlc tll nh fh nk code L) (hok : ∀ q ∈ L, okC q) (hB : LwB kd hard water (term 0) (term 2)) (hW : WK kd hard water term w) (hD : RD dg w) (hhc : RbW hc 210 8 w) (hhl : RbW hl 211 8 w) (hhs : hs.toInt = w 3) (h8 : 0 ≤ w 3 ∧ w 3 ≤ 8) (c7 : ∀ k, k < 8 → 0 ≤ w (210 + 2 * k) ∧ w (210 + 2 * k) ≤ 99) (hf0 : 0 ≤ fo.toInt) (hf5 : fo.toInt ≤ 5) (hfl : fo.toInt < lc.toInt) (hlw : laws fo.toNatClampNeg = some t) (hS : SA said) (hL : LO lost) (hcc : 0 ≤ c.toInt ∧ c.toInt ≤ 39) {Q : Int32 → (Value × Value × Int32 × Int32 × Int32 × Int32 × (Nat → Int64) × (Nat → Int32) × (Nat → Int32) × (Nat → Int32)) → Prop} (hq : ∀ (r : Int32) (v1 v2 : Value) (c' s' k' v' : Int32) (stk' : Nat → Int64) (said' lost' al' : Nat → Int32), r.toInt = nextR (some L) w a.toInt ∧ SA said' ∧ LO lost' ∧ (0 ≤ c'.toInt ∧ c'.toInt ≤ 39) → Q r (v1, v2, c', s', k', v', stk', said', lost', al')) : wp_X11_next_T a site lc fo laws W0 L0 c s k dn lt v dg kd t tlc tll nh fh nk code stk ls hs col hard water term cc cel buk said lost hc hl al Q := by
  have m1 : (-1 : Int32).toInt = -1 := by decide
  unfold wp_X11_next_T
  refine x_within2 (n := 2) (z := 2) rfl (fun h => jn_s (br1 rfl (un10_i (br1 rfl (hq _ _ _ _ _ _ _ _ _ _ _ ⟨m1.trans (nextR_1 (by omega)).symm, hS, hL, hcc⟩))))) (fun h0 h1 => jn_s (br0 (by decide) (z_hidT hT hok hB hW hD hhc hhl hhs h8 c7 hf0 hf5 hfl hlw hS hL hcc (fun r c' s' k' v' stk' said' lost' H => un7_i (un10_i ?_)))))
  obtain ⟨hr, hM, hc2⟩ := H
  by_cases z : lg_cmp r 0 = 0
  · have z2 : hidL (some L) w = 0 := hr.symm.trans (Int64.toInt_inj.mp (cmp_eq.mp z))
    exact br1 z (hq _ _ _ _ _ _ _ _ _ _ _ ⟨m1.trans (nextR_2 (nx_none z2)).symm, hM.1, hM.2.1, hc2⟩)
  · have z2 : ¬ hidL (some L) w = 0 := fun e => z (by rw [hr, e]; exact cmp_eq.mpr rfl)
    obtain ⟨k0, hk0, hd⟩ := nx_some z2
    have ha : ∀ n, n < 40 → bt r n = hdB (some L) w n := fun n hn => by rw [hr]; exact bt_hid n hn
    have hM2 := hM.hd
    have n1 := nx_one hk0 hd
    have ne : ¬ (nxF (some L) w 8).1 = -1 := by
      have q : 0 ≤ (nxF (some L) w 8).1 := nx_ge hk0 hd 7
      omega
    refine br0 z (z_mal (b := 0) ha hM2 ⟨by decide, by decide⟩ (fun r2 u h => ?_))
    have h : r2.toInt = moF (hdB (some L) w) (sdF (some L) w 0) 40 := h
    refine x_nxT hk0 hd ha hM2 (fun x f b al' H => ?_) _ 1 1 r2 0 u rfl (by decide) (by decide) (by rw [n1]; exact h) (by rw [n1]; rfl)
    by_cases ca : a = 0
    · have ca' := eq_z (x := a.toInt) (y := 0) rfl rfl ca
      exact br1 ca (hq _ _ _ _ _ _ _ _ _ _ _ ⟨H.2.trans (nextR_3 ca' ne).symm, hM.1, hM.2.1, hc2⟩)
    · have ca' := ne_z (x := a.toInt) (y := 0) rfl rfl ca
      exact br0 ca (hq _ _ _ _ _ _ _ _ _ _ _ ⟨H.1.trans (nextR_4 (by omega) ne).symm, hM.1, hM.2.1, hc2⟩)
